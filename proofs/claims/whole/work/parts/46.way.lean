/-! way -/
def anyS (f : Nat → Bool) : Nat → Bool
  | 0 => false
  | k + 1 => anyS f k || f k
theorem anyS_iff (f : Nat → Bool) : ∀ k, anyS f k = true ↔ ∃ q, q < k ∧ f q = true
  | 0 => by simp [anyS]
  | k + 1 => by
    rw [anyS, Bool.or_eq_true, anyS_iff f k]
    constructor
    · rintro (⟨q, h1, h2⟩ | h)
      · exact ⟨q, by omega, h2⟩
      · exact ⟨k, by omega, h⟩
    · rintro ⟨q, h1, h2⟩
      by_cases hqk : q = k
      · subst hqk; exact Or.inr h2
      · exact Or.inl ⟨q, by omega, h2⟩
/-- the places next to p: the grid -/
theorem nb_iff : ∀ c, c < 5 → ∀ p, p < 36 → ∀ q, q < 36 → (decide (farS (c + 2) p q < 2) = (decide (q = p) || decide (q + (c + 2) = p) || decide (q = p + (c + 2)) || (decide (q + 1 = p) && !decide (q % (c + 2) = c + 1)) || (decide (q = p + 1) && !decide (q % (c + 2) = 0)))) := by decide +kernel
def lfS (C n : Nat) : Nat := bldS (fun p => decide (p % C = 0)) n
def arS (C n R : Nat) : Nat := (((R ||| R * 2 ^ C) ||| R / 2 ^ C) ||| anS R (lfS C n * 2 ^ (C - 1)) * 2 ^ 1) ||| anS R (lfS C n) / 2 ^ 1
theorem mul_bit (x k p : Nat) : (x * 2 ^ k).testBit p = (decide (k ≤ p) && x.testBit (p - k)) := Nat.testBit_mul_two_pow x p k
theorem div_bit (x k p : Nat) : (x / 2 ^ k).testBit p = x.testBit (p + k) := Nat.testBit_div_two_pow x p
theorem arS_bit {P : Pk} (hP : PkOK P) {R : Nat} (hR : R < 2 ^ pn P) {p : Nat} (hp : p < pn P) : (arS (pC P) (pn P) R).testBit p = anyS (fun q => R.testBit q && decide (farS (pC P) p q < 2)) (pn P) := by
  have hn := pn_le hP
  have h2 := hP.1
  have h6 := hP.2.1
  have hR64 : R < 2 ^ 64 := Nat.lt_of_lt_of_le hR (Nat.pow_le_pow_right (by decide) (by omega))
  obtain ⟨c, hc⟩ : ∃ c, pC P = c + 2 := ⟨pC P - 2, by omega⟩
  have hmul : pn P = pR P * (c + 2) := by rw [pn, hc, Nat.mul_comm]
  apply Bool.eq_iff_iff.mpr
  rw [anyS_iff]
  simp only [arS, Nat.testBit_or, mul_bit, div_bit, anS_bit hR64, lfS, bldS_bit, Bool.or_eq_true, Bool.and_eq_true, decide_eq_true_eq, Bool.not_eq_true', Bool.and_eq_false_iff, decide_eq_false_iff_not]
  have nb : ∀ q, q < pn P → ((farS (c + 2) p q < 2) ↔ (q = p ∨ q + (c + 2) = p ∨ q = p + (c + 2) ∨ (q + 1 = p ∧ ¬ q % (c + 2) = c + 1) ∨ (q = p + 1 ∧ ¬ q % (c + 2) = 0))) := by
    intro q hq
    have := nb_iff c (by omega) p (by omega) q (by omega)
    have e := Bool.eq_iff_iff.mp this
    simp only [Bool.or_eq_true, Bool.and_eq_true, decide_eq_true_eq, Bool.not_eq_true', decide_eq_false_iff_not] at e
    rw [e]
    simp only [or_assoc]
  have hi : ∀ q, R.testBit q = true → q < pn P := by
    intro q hq
    apply Classical.byContradiction
    intro z
    rw [bit_hi hR (by omega)] at hq
    cases hq
  have hm1 : ∀ q, c + 1 ≤ q → ((q - (c + 1)) % (c + 2) = 0 ↔ q % (c + 2) = c + 1) := by
    intro q hq
    have e1 : q = (q - (c + 1)) + (c + 1) := by omega
    constructor
    · intro z
      rw [e1, Nat.add_mod, z, Nat.zero_add, Nat.mod_mod, Nat.mod_eq_of_lt (by omega)]
    · intro z
      have h3 := Nat.div_add_mod q (c + 2)
      rw [z] at h3
      have h4 : q - (c + 1) = (c + 2) * (q / (c + 2)) := by omega
      rw [h4, Nat.mul_mod_right]
  have hc1 : pC P - 1 = c + 1 := by omega
  rw [hc1, hc]
  constructor
  · rintro ((((h | ⟨h, h'⟩) | h) | ⟨h, h', h''⟩) | ⟨h', h''⟩)
    · exact ⟨p, hp, h, (nb p hp).mpr (Or.inl rfl)⟩
    · have h3 := hi _ h'
      exact ⟨_, h3, h', (nb _ h3).mpr (Or.inr (Or.inl (by omega)))⟩
    · have h3 := hi _ h
      exact ⟨_, h3, h, (nb _ h3).mpr (Or.inr (Or.inr (Or.inl rfl)))⟩
    · have h3 := hi _ h'
      refine ⟨_, h3, h', (nb _ h3).mpr (Or.inr (Or.inr (Or.inr (Or.inl ⟨by omega, ?_⟩))))⟩
      intro z
      have hge : c + 1 ≤ p - 1 := by have := Nat.mod_le (p - 1) (c + 2); omega
      rcases h'' with h4 | h4 | h4
      · omega
      · omega
      · exact h4 ((hm1 _ hge).mpr z)
    · have h3 := hi _ h'
      refine ⟨_, h3, h', (nb _ h3).mpr (Or.inr (Or.inr (Or.inr (Or.inr ⟨rfl, ?_⟩))))⟩
      intro z
      rcases h'' with h4 | h4
      · omega
      · exact h4 z
  · rintro ⟨q, hq, h1, hf⟩
    rcases (nb q hq).mp hf with h | h | h | ⟨h, h'⟩ | ⟨h, h'⟩
    · subst h; exact Or.inl (Or.inl (Or.inl (Or.inl h1)))
    · have e : q = p - (c + 2) := by omega
      rw [e] at h1
      exact Or.inl (Or.inl (Or.inl (Or.inr ⟨by omega, h1⟩)))
    · rw [h] at h1
      exact Or.inl (Or.inl (Or.inr h1))
    · have e : q = p - 1 := by omega
      rw [e] at h1 h'
      refine Or.inl (Or.inr ⟨by omega, h1, ?_⟩)
      by_cases hge : c + 1 ≤ p - 1
      · exact Or.inr (Or.inr (fun z => h' ((hm1 _ hge).mp z)))
      · exact Or.inl hge
    · rw [h] at h1 h'
      exact Or.inr ⟨h1, Or.inr h'⟩
/-- where she may be an hour on -/
def nxS (P : Pk) (s R h : Nat) : Nat := bldS (fun p => anyS (fun q => R.testBit q && decide (farS (pC P) p q < 2)) (pn P) && ((pW P).testBit p && heS P s p h)) (pn P)
def rcS (P : Pk) (s wh hr : Nat) : Nat → Nat
  | 0 => if heS P s wh hr then 2 ^ wh else 0
  | k + 1 => nxS P s (rcS P s wh hr k) ((hr + k + 1) % 12)
theorem rcS_lt {P : Pk} {s wh hr : Nat} (hw : wh < pn P) : ∀ k, rcS P s wh hr k < 2 ^ pn P
  | 0 => by
    rw [rcS]; split
    · exact Nat.pow_lt_pow_right (by decide) hw
    · exact Nat.two_pow_pos _
  | k + 1 => bldS_lt _ _
theorem ar_and {P : Pk} (hP : PkOK P) {s R h : Nat} (hR : R < 2 ^ pn P) : arS (pC P) (pn P) R &&& hwS P s h (pn P) = nxS P s R h := by
  apply Nat.eq_of_testBit_eq
  intro p
  rw [Nat.testBit_and, hwS_bit, nxS, bldS_bit]
  by_cases hp : p < pn P
  · rw [arS_bit hP hR hp]; simp [hp]
  · simp [hp]
section WAY
variable {w : List va_E} {P : Pk} {lic : Nat} {wh : Int32} {hr ln : Nat} {tb : Nat → Int32} {sc : Nat} {sp sh sg : Nat → Int32} {kp : Kp}
theorem s_around {i j : Nat} (h : PkAt w i j P) (hP : PkOK P) {R : Nat} (hR : R < 2 ^ pn P) : FX1_around [.ref i, .long (lN R)] w = some (some (.long (lN (arS (pC P) (pn P) R))), w) := by
  have hn := pn_le hP
  have h2 := hP.1
  have h6 := hP.2.1
  have hr : rc 1 i w = true := rc_of h.1
  have g0 : gt 1 0 i w = some (.int (nI (pC P))) := gt_of h.1 rfl
  have hR36 : R < 2 ^ 36 := Nat.lt_of_lt_of_le hR (Nat.pow_le_pow_right (by decide) hn)
  have hl : jX1_around_5 [] [.ref i, .long (lN R), .retAddr 0, .long 0, .retAddr 0, .int 0, .retAddr 0] w = some (some (.long (lN (arS (pC P) (pn P) R))), w) := by
    refine loop_run (pn P) (fun k => ([], [.ref i, .long (lN R), .retAddr 0, .long (lN (lfS (pC P) k)), .retAddr 0, .int (nI k), .retAddr 0], w)) rfl ?_ ?_ 1000 (by omega)
    · intro k hk B
      have c1 : ¬ nI (pn P) ≤ nI k := nI_ge hk (by omega)
      have e1 := s_column h.1 hP k
      rw [cl_nat hP (by omega)] at e1
      have e3 := shl1L (p := k) (by omega)
      by_cases c2 : k % pC P = 0
      · rw [c2] at e1
        have c2' : nI 0 = 0 := rfl
        have e4 : lfS (pC P) (k + 1) = lfS (pC P) k ||| 2 ^ k := by
          show bldS _ (k + 1) = _
          rw [bldS, if_pos (by simp [c2])]; rfl
        simp only [jX1_around_32, e_push, e_ild_0, e_lld_0, e_ald_0, e_inc_0, e_ild_1, e_lld_1, e_ald_1, e_inc_1, e_ild_2, e_lld_2, e_ald_2, e_inc_2, e_ild_3, e_lld_3, e_ald_3, e_inc_3, e_ild_4, e_lld_4, e_ald_4, e_inc_4, e_ild_5, e_lld_5, e_ald_5, e_inc_5, e_ild_6, e_lld_6, e_ald_6, e_inc_6, e_ild_7, e_lld_7, e_ald_7, e_inc_7, e_ild_8, e_lld_8, e_ald_8, e_inc_8, e_ild_9, e_lld_9, e_ald_9, e_inc_9, e_ild_10, e_lld_10, e_ald_10, e_inc_10, e_ild_11, e_lld_11, e_ald_11, e_inc_11, e_ild_12, e_lld_12, e_ald_12, e_inc_12, e_ist, e_ast, e_lst, e_sto_0, e_sto_1i, e_sto_1r, e_sto_1u, e_sto_1l, e_sto_2i, e_sto_2r, e_sto_2u, e_sto_2l, e_sto_3i, e_sto_3r, e_sto_3u, e_sto_3l, e_sto_4i, e_sto_4r, e_sto_4u, e_sto_4l, e_sto_5i, e_sto_5r, e_sto_5u, e_sto_5l, e_sto_6i, e_sto_6r, e_sto_6u, e_sto_6l, e_sto_7i, e_sto_7r, e_sto_7u, e_sto_7l, e_sto_8i, e_sto_8r, e_sto_8u, e_sto_8l, e_sto_9i, e_sto_9r, e_sto_9u, e_sto_9l, e_sto_10i, e_sto_10r, e_sto_10u, e_sto_10l, e_sto_11i, e_sto_11r, e_sto_11u, e_sto_11l, e_sto_12i, e_sto_12r, e_sto_12u, e_sto_12l, e_stoL_0, e_stoL_1i, e_stoL_1r, e_stoL_1u, e_stoL_2i, e_stoL_2r, e_stoL_2u, e_stoL_3i, e_stoL_3r, e_stoL_3u, e_stoL_4i, e_stoL_4r, e_stoL_4u, e_stoL_5i, e_stoL_5r, e_stoL_5u, e_stoL_6i, e_stoL_6r, e_stoL_6u, e_stoL_7i, e_stoL_7r, e_stoL_7u, e_stoL_8i, e_stoL_8r, e_stoL_8u, e_stoL_9i, e_stoL_9r, e_stoL_9u, e_stoL_10i, e_stoL_10r, e_stoL_10u, e_stoL_11i, e_stoL_11r, e_stoL_11u, e_stoL_12i, e_stoL_12r, e_stoL_12u, e_ib, e_lb, e_ls, e_ii, e_i2l, e_l2i, e_lcmp, e_idiv, e_irem, e_dup_i, e_dup_r, e_dup2, e_pop, e_ifeq, e_iceq, e_ifne, e_icne, e_iflt, e_iclt, e_ifge, e_icge, e_ifgt, e_icgt, e_ifle, e_icle, e_sw, e_iret, e_nret, e_lret, e_aret, e_vret, e_get, e_puti, e_putl, e_iald, e_zald, e_iast, e_zast, e_lald, e_last, e_alen, e_nald, e_nlen, e_mmax, e_mmin, e_mabs, cont_v, cont_u, e_call0, e_call1, e_call2, e_call3, e_call4, e_call5, e_call6, e_callV0, e_callT0, e_callV1, e_callT1, e_callV2, e_callT2, e_callV3, e_callT3, e_callV4, e_callT4, e_callV5, e_callT5, lin_i, lin_r, lin_l, lin_n, lsz_i, lsz_r, lsz_l, lsz_n, rep_s, rep_0, mEnt_e, hr, s_places h.1, c1, e1, c2', e3, fb_orL, e4, nI_1, if_true, if_false, Bool.false_eq_true, Option.bind_some, List.length_cons, List.length_nil, Nat.reduceAdd, Nat.reduceLeDiff]
      · have c2' : ¬ nI (k % pC P) = 0 := by
          have hlt : k % pC P < pC P := Nat.mod_lt _ (by omega)
          exact fun z => c2 ((nI_eq (a := k % pC P) (b := 0) (by omega) (by decide)).mp z)
        have e4 : lfS (pC P) (k + 1) = lfS (pC P) k := by
          show bldS _ (k + 1) = _
          rw [bldS, if_neg (by simp [c2])]; rfl
        have e5 : lN (lfS (pC P) k) ||| 0 = lN (lfS (pC P) k) := by simp
        simp only [jX1_around_32, e_push, e_ild_0, e_lld_0, e_ald_0, e_inc_0, e_ild_1, e_lld_1, e_ald_1, e_inc_1, e_ild_2, e_lld_2, e_ald_2, e_inc_2, e_ild_3, e_lld_3, e_ald_3, e_inc_3, e_ild_4, e_lld_4, e_ald_4, e_inc_4, e_ild_5, e_lld_5, e_ald_5, e_inc_5, e_ild_6, e_lld_6, e_ald_6, e_inc_6, e_ild_7, e_lld_7, e_ald_7, e_inc_7, e_ild_8, e_lld_8, e_ald_8, e_inc_8, e_ild_9, e_lld_9, e_ald_9, e_inc_9, e_ild_10, e_lld_10, e_ald_10, e_inc_10, e_ild_11, e_lld_11, e_ald_11, e_inc_11, e_ild_12, e_lld_12, e_ald_12, e_inc_12, e_ist, e_ast, e_lst, e_sto_0, e_sto_1i, e_sto_1r, e_sto_1u, e_sto_1l, e_sto_2i, e_sto_2r, e_sto_2u, e_sto_2l, e_sto_3i, e_sto_3r, e_sto_3u, e_sto_3l, e_sto_4i, e_sto_4r, e_sto_4u, e_sto_4l, e_sto_5i, e_sto_5r, e_sto_5u, e_sto_5l, e_sto_6i, e_sto_6r, e_sto_6u, e_sto_6l, e_sto_7i, e_sto_7r, e_sto_7u, e_sto_7l, e_sto_8i, e_sto_8r, e_sto_8u, e_sto_8l, e_sto_9i, e_sto_9r, e_sto_9u, e_sto_9l, e_sto_10i, e_sto_10r, e_sto_10u, e_sto_10l, e_sto_11i, e_sto_11r, e_sto_11u, e_sto_11l, e_sto_12i, e_sto_12r, e_sto_12u, e_sto_12l, e_stoL_0, e_stoL_1i, e_stoL_1r, e_stoL_1u, e_stoL_2i, e_stoL_2r, e_stoL_2u, e_stoL_3i, e_stoL_3r, e_stoL_3u, e_stoL_4i, e_stoL_4r, e_stoL_4u, e_stoL_5i, e_stoL_5r, e_stoL_5u, e_stoL_6i, e_stoL_6r, e_stoL_6u, e_stoL_7i, e_stoL_7r, e_stoL_7u, e_stoL_8i, e_stoL_8r, e_stoL_8u, e_stoL_9i, e_stoL_9r, e_stoL_9u, e_stoL_10i, e_stoL_10r, e_stoL_10u, e_stoL_11i, e_stoL_11r, e_stoL_11u, e_stoL_12i, e_stoL_12r, e_stoL_12u, e_ib, e_lb, e_ls, e_ii, e_i2l, e_l2i, e_lcmp, e_idiv, e_irem, e_dup_i, e_dup_r, e_dup2, e_pop, e_ifeq, e_iceq, e_ifne, e_icne, e_iflt, e_iclt, e_ifge, e_icge, e_ifgt, e_icgt, e_ifle, e_icle, e_sw, e_iret, e_nret, e_lret, e_aret, e_vret, e_get, e_puti, e_putl, e_iald, e_zald, e_iast, e_zast, e_lald, e_last, e_alen, e_nald, e_nlen, e_mmax, e_mmin, e_mabs, cont_v, cont_u, e_call0, e_call1, e_call2, e_call3, e_call4, e_call5, e_call6, e_callV0, e_callT0, e_callV1, e_callT1, e_callV2, e_callT2, e_callV3, e_callT3, e_callV4, e_callT4, e_callV5, e_callT5, lin_i, lin_r, lin_l, lin_n, lsz_i, lsz_r, lsz_l, lsz_n, rep_s, rep_0, mEnt_e, hr, s_places h.1, c1, e1, c2', e5, e4, nI_1, if_true, if_false, Bool.false_eq_true, Option.bind_some, List.length_cons, List.length_nil, Nat.reduceAdd, Nat.reduceLeDiff]
    · intro B
      have c1 : nI (pn P) ≤ nI (pn P) := nI_le (Nat.le_refl _) (by omega)
      have e0 : nI (pC P) - 1 = nI (pC P - 1) := by
        have z := nI_1 (pC P - 1)
        rw [Nat.sub_add_cancel (by omega)] at z
        rw [← z, Int32.add_sub_cancel]
      have e1 := wb_shl (lfS (pC P) (pn P)) (k := pC P - 1) (by omega)
      have e2 := wb_shl R (k := pC P) (by omega)
      have e3 := wb_shr (n := R) (k := pC P) (by omega) (by omega)
      have hx1 : anS R (lfS (pC P) (pn P) * 2 ^ (pC P - 1)) ≤ R := anS_le _ _
      have hx2 : anS R (lfS (pC P) (pn P)) ≤ R := anS_le _ _
      have e4 : lN (anS R (lfS (pC P) (pn P) * 2 ^ (pC P - 1))) <<< ((1 : Int32).toInt64 &&& 63) = lN (anS R (lfS (pC P) (pn P) * 2 ^ (pC P - 1)) * 2 ^ 1) := wb_shl _ (k := 1) (by decide)
      have e5 : ((lN (anS R (lfS (pC P) (pn P)))).toUInt64 >>> ((1 : Int32).toInt64.toUInt64 &&& Int64.toUInt64 63)).toInt64 = lN (anS R (lfS (pC P) (pn P)) / 2 ^ 1) := wb_shr (k := 1) (by omega) (by decide)
      simp only [e_push, e_ild_0, e_lld_0, e_ald_0, e_inc_0, e_ild_1, e_lld_1, e_ald_1, e_inc_1, e_ild_2, e_lld_2, e_ald_2, e_inc_2, e_ild_3, e_lld_3, e_ald_3, e_inc_3, e_ild_4, e_lld_4, e_ald_4, e_inc_4, e_ild_5, e_lld_5, e_ald_5, e_inc_5, e_ild_6, e_lld_6, e_ald_6, e_inc_6, e_ild_7, e_lld_7, e_ald_7, e_inc_7, e_ild_8, e_lld_8, e_ald_8, e_inc_8, e_ild_9, e_lld_9, e_ald_9, e_inc_9, e_ild_10, e_lld_10, e_ald_10, e_inc_10, e_ild_11, e_lld_11, e_ald_11, e_inc_11, e_ild_12, e_lld_12, e_ald_12, e_inc_12, e_ist, e_ast, e_lst, e_sto_0, e_sto_1i, e_sto_1r, e_sto_1u, e_sto_1l, e_sto_2i, e_sto_2r, e_sto_2u, e_sto_2l, e_sto_3i, e_sto_3r, e_sto_3u, e_sto_3l, e_sto_4i, e_sto_4r, e_sto_4u, e_sto_4l, e_sto_5i, e_sto_5r, e_sto_5u, e_sto_5l, e_sto_6i, e_sto_6r, e_sto_6u, e_sto_6l, e_sto_7i, e_sto_7r, e_sto_7u, e_sto_7l, e_sto_8i, e_sto_8r, e_sto_8u, e_sto_8l, e_sto_9i, e_sto_9r, e_sto_9u, e_sto_9l, e_sto_10i, e_sto_10r, e_sto_10u, e_sto_10l, e_sto_11i, e_sto_11r, e_sto_11u, e_sto_11l, e_sto_12i, e_sto_12r, e_sto_12u, e_sto_12l, e_stoL_0, e_stoL_1i, e_stoL_1r, e_stoL_1u, e_stoL_2i, e_stoL_2r, e_stoL_2u, e_stoL_3i, e_stoL_3r, e_stoL_3u, e_stoL_4i, e_stoL_4r, e_stoL_4u, e_stoL_5i, e_stoL_5r, e_stoL_5u, e_stoL_6i, e_stoL_6r, e_stoL_6u, e_stoL_7i, e_stoL_7r, e_stoL_7u, e_stoL_8i, e_stoL_8r, e_stoL_8u, e_stoL_9i, e_stoL_9r, e_stoL_9u, e_stoL_10i, e_stoL_10r, e_stoL_10u, e_stoL_11i, e_stoL_11r, e_stoL_11u, e_stoL_12i, e_stoL_12r, e_stoL_12u, e_ib, e_lb, e_ls, e_ii, e_i2l, e_l2i, e_lcmp, e_idiv, e_irem, e_dup_i, e_dup_r, e_dup2, e_pop, e_ifeq, e_iceq, e_ifne, e_icne, e_iflt, e_iclt, e_ifge, e_icge, e_ifgt, e_icgt, e_ifle, e_icle, e_sw, e_iret, e_nret, e_lret, e_aret, e_vret, e_get, e_puti, e_putl, e_iald, e_zald, e_iast, e_zast, e_lald, e_last, e_alen, e_nald, e_nlen, e_mmax, e_mmin, e_mabs, cont_v, cont_u, e_call0, e_call1, e_call2, e_call3, e_call4, e_call5, e_call6, e_callV0, e_callT0, e_callV1, e_callT1, e_callV2, e_callT2, e_callV3, e_callT3, e_callV4, e_callT4, e_callV5, e_callT5, lin_i, lin_r, lin_l, lin_n, lsz_i, lsz_r, lsz_l, lsz_n, rep_s, rep_0, mEnt_e, hr, s_places h.1, c1, g0, e0, e1, e2, e3, anS_L, e4, e5, fb_orL, arS, if_true, if_false, Bool.false_eq_true, Option.bind_some, List.length_cons, List.length_nil, Nat.reduceAdd, Nat.reduceLeDiff]
  simp only [FX1_around, jX1_around, e_push, e_ild_0, e_lld_0, e_ald_0, e_inc_0, e_ild_1, e_lld_1, e_ald_1, e_inc_1, e_ild_2, e_lld_2, e_ald_2, e_inc_2, e_ild_3, e_lld_3, e_ald_3, e_inc_3, e_ild_4, e_lld_4, e_ald_4, e_inc_4, e_ild_5, e_lld_5, e_ald_5, e_inc_5, e_ild_6, e_lld_6, e_ald_6, e_inc_6, e_ild_7, e_lld_7, e_ald_7, e_inc_7, e_ild_8, e_lld_8, e_ald_8, e_inc_8, e_ild_9, e_lld_9, e_ald_9, e_inc_9, e_ild_10, e_lld_10, e_ald_10, e_inc_10, e_ild_11, e_lld_11, e_ald_11, e_inc_11, e_ild_12, e_lld_12, e_ald_12, e_inc_12, e_ist, e_ast, e_lst, e_sto_0, e_sto_1i, e_sto_1r, e_sto_1u, e_sto_1l, e_sto_2i, e_sto_2r, e_sto_2u, e_sto_2l, e_sto_3i, e_sto_3r, e_sto_3u, e_sto_3l, e_sto_4i, e_sto_4r, e_sto_4u, e_sto_4l, e_sto_5i, e_sto_5r, e_sto_5u, e_sto_5l, e_sto_6i, e_sto_6r, e_sto_6u, e_sto_6l, e_sto_7i, e_sto_7r, e_sto_7u, e_sto_7l, e_sto_8i, e_sto_8r, e_sto_8u, e_sto_8l, e_sto_9i, e_sto_9r, e_sto_9u, e_sto_9l, e_sto_10i, e_sto_10r, e_sto_10u, e_sto_10l, e_sto_11i, e_sto_11r, e_sto_11u, e_sto_11l, e_sto_12i, e_sto_12r, e_sto_12u, e_sto_12l, e_stoL_0, e_stoL_1i, e_stoL_1r, e_stoL_1u, e_stoL_2i, e_stoL_2r, e_stoL_2u, e_stoL_3i, e_stoL_3r, e_stoL_3u, e_stoL_4i, e_stoL_4r, e_stoL_4u, e_stoL_5i, e_stoL_5r, e_stoL_5u, e_stoL_6i, e_stoL_6r, e_stoL_6u, e_stoL_7i, e_stoL_7r, e_stoL_7u, e_stoL_8i, e_stoL_8r, e_stoL_8u, e_stoL_9i, e_stoL_9r, e_stoL_9u, e_stoL_10i, e_stoL_10r, e_stoL_10u, e_stoL_11i, e_stoL_11r, e_stoL_11u, e_stoL_12i, e_stoL_12r, e_stoL_12u, e_ib, e_lb, e_ls, e_ii, e_i2l, e_l2i, e_lcmp, e_idiv, e_irem, e_dup_i, e_dup_r, e_dup2, e_pop, e_ifeq, e_iceq, e_ifne, e_icne, e_iflt, e_iclt, e_ifge, e_icge, e_ifgt, e_icgt, e_ifle, e_icle, e_sw, e_iret, e_nret, e_lret, e_aret, e_vret, e_get, e_puti, e_putl, e_iald, e_zald, e_iast, e_zast, e_lald, e_last, e_alen, e_nald, e_nlen, e_mmax, e_mmin, e_mabs, cont_v, cont_u, e_call0, e_call1, e_call2, e_call3, e_call4, e_call5, e_call6, e_callV0, e_callT0, e_callV1, e_callT1, e_callV2, e_callT2, e_callV3, e_callT3, e_callV4, e_callT4, e_callV5, e_callT5, lin_i, lin_r, lin_l, lin_n, lsz_i, lsz_r, lsz_l, lsz_n, rep_s, rep_0, mEnt_e, hl, if_true, if_false, Bool.false_eq_true, Option.bind_some, List.length_cons, List.length_nil, Nat.reduceAdd, Nat.reduceLeDiff]
theorem m_next1 {ln' sn' : Int32} {J : Jk} {f : Nat → Int32} (h : MdAt w P ln' sn' J) (hP : PkOK P) (hrow : Ar w 25 9 f) (hf0 : f 0 = nI lic) (hlic6 : lic < 64) {R t : Nat} (hR : R < 2 ^ pn P) (ht : t < 12) {a p : Nat} (hp : p < pn P) : ∃ v7 v8, ∀ B6, jX5_nextOf_26 B6 [] [.ref 24, .long (lN R), .retAddr 0, .int (nI t), .long (lN a), .retAddr 0, .int (nI p), .int 0, .int 0] w = B6 [] [.ref 24, .long (lN R), .retAddr 0, .int (nI t), .long (lN (if anyS (fun q => R.testBit q && decide (farS (pC P) p q < 2)) (pn P) && ((pW P).testBit p && heS P lic p t) then a ||| 2 ^ p else a)), .retAddr 0, .int (nI (p + 1)), v7, v8] w := by
  have hn := pn_le hP
  have n10 : ¬ (1 : Int32) = 0 := by decide
  have hR36 : R < 2 ^ 36 := Nat.lt_of_lt_of_le hR (Nat.pow_le_pow_right (by decide) hn)
  have hW : pW P < 2 ^ 36 := Nat.lt_of_lt_of_le hP.2.2.2.2.2.2.1 (Nat.pow_le_pow_right (by decide) hn)
  have g6 : gt 5 6 24 w = some (.int (nI (pC P))) := gt_of h.1 rfl
  have g7 : gt 5 7 24 w = some (.int (nI (pR P))) := gt_of h.1 rfl
  have g11 : gt 5 11 24 w = some (.long (lN (pW P))) := gt_of h.1 rfl
  have g0 : gt 5 0 24 w = some (.ref 25) := gt_of h.1 rfl
  have v7 : nI (pC P) * nI (pR P) = nI (pn P) := by rw [pk_mul]; rfl
  have r5 : rc 5 24 w = true := rc_of h.1
  have l0 : ial 0 25 0 w = some (nI lic) := by
    have z := hrow.get (i := 0) (m := 0) rfl (by decide) (by decide)
    rw [hf0] at z; exact z
  refine ⟨.int (if anyS (fun q => R.testBit q && decide (farS (pC P) p q < 2)) (pn P) then 1 else 0), .int (nI (pn P)), fun B6 => ?_⟩
  refine loop_run (pn P) (fun k => ([], [.ref 24, .long (lN R), .retAddr 0, .int (nI t), .long (lN a), .retAddr 0, .int (nI p), .int (if anyS (fun q => R.testBit q && decide (farS (pC P) p q < 2)) k then 1 else 0), .int (nI k)], w)) rfl ?_ ?_ 1000 (by omega)
  · intro k hk B
    have c1 : ¬ nI (pn P) ≤ nI k := nI_ge hk (by omega)
    have e1 := m_has (w := w) (W := R) (p := k) (by omega) (by omega)
    have e2 := m_far h hP p k
    cases c2 : anyS (fun q => R.testBit q && decide (farS (pC P) p q < 2)) k with
    | true =>
      have e3 : anyS (fun q => R.testBit q && decide (farS (pC P) p q < 2)) (k + 1) = true := by rw [anyS, c2]; rfl
      simp only [jX5_nextOf_71, jX5_nextOf_70, jX5_nextOf_66, e_push, e_ild_0, e_lld_0, e_ald_0, e_inc_0, e_ild_1, e_lld_1, e_ald_1, e_inc_1, e_ild_2, e_lld_2, e_ald_2, e_inc_2, e_ild_3, e_lld_3, e_ald_3, e_inc_3, e_ild_4, e_lld_4, e_ald_4, e_inc_4, e_ild_5, e_lld_5, e_ald_5, e_inc_5, e_ild_6, e_lld_6, e_ald_6, e_inc_6, e_ild_7, e_lld_7, e_ald_7, e_inc_7, e_ild_8, e_lld_8, e_ald_8, e_inc_8, e_ild_9, e_lld_9, e_ald_9, e_inc_9, e_ild_10, e_lld_10, e_ald_10, e_inc_10, e_ild_11, e_lld_11, e_ald_11, e_inc_11, e_ild_12, e_lld_12, e_ald_12, e_inc_12, e_ist, e_ast, e_lst, e_sto_0, e_sto_1i, e_sto_1r, e_sto_1u, e_sto_1l, e_sto_2i, e_sto_2r, e_sto_2u, e_sto_2l, e_sto_3i, e_sto_3r, e_sto_3u, e_sto_3l, e_sto_4i, e_sto_4r, e_sto_4u, e_sto_4l, e_sto_5i, e_sto_5r, e_sto_5u, e_sto_5l, e_sto_6i, e_sto_6r, e_sto_6u, e_sto_6l, e_sto_7i, e_sto_7r, e_sto_7u, e_sto_7l, e_sto_8i, e_sto_8r, e_sto_8u, e_sto_8l, e_sto_9i, e_sto_9r, e_sto_9u, e_sto_9l, e_sto_10i, e_sto_10r, e_sto_10u, e_sto_10l, e_sto_11i, e_sto_11r, e_sto_11u, e_sto_11l, e_sto_12i, e_sto_12r, e_sto_12u, e_sto_12l, e_stoL_0, e_stoL_1i, e_stoL_1r, e_stoL_1u, e_stoL_2i, e_stoL_2r, e_stoL_2u, e_stoL_3i, e_stoL_3r, e_stoL_3u, e_stoL_4i, e_stoL_4r, e_stoL_4u, e_stoL_5i, e_stoL_5r, e_stoL_5u, e_stoL_6i, e_stoL_6r, e_stoL_6u, e_stoL_7i, e_stoL_7r, e_stoL_7u, e_stoL_8i, e_stoL_8r, e_stoL_8u, e_stoL_9i, e_stoL_9r, e_stoL_9u, e_stoL_10i, e_stoL_10r, e_stoL_10u, e_stoL_11i, e_stoL_11r, e_stoL_11u, e_stoL_12i, e_stoL_12r, e_stoL_12u, e_ib, e_lb, e_ls, e_ii, e_i2l, e_l2i, e_lcmp, e_idiv, e_irem, e_dup_i, e_dup_r, e_dup2, e_pop, e_ifeq, e_iceq, e_ifne, e_icne, e_iflt, e_iclt, e_ifge, e_icge, e_ifgt, e_icgt, e_ifle, e_icle, e_sw, e_iret, e_nret, e_lret, e_aret, e_vret, e_get, e_puti, e_putl, e_iald, e_zald, e_iast, e_zast, e_lald, e_last, e_alen, e_nald, e_nlen, e_mmax, e_mmin, e_mabs, cont_v, cont_u, e_call0, e_call1, e_call2, e_call3, e_call4, e_call5, e_call6, e_callV0, e_callT0, e_callV1, e_callT1, e_callV2, e_callT2, e_callV3, e_callT3, e_callV4, e_callT4, e_callV5, e_callT5, lin_i, lin_r, lin_l, lin_n, lsz_i, lsz_r, lsz_l, lsz_n, rep_s, rep_0, mEnt_e, g6, g7, v7, c1, c2, e3, n10, nI_1, if_true, if_false, Bool.false_eq_true, Option.bind_some, List.length_cons, List.length_nil, Nat.reduceAdd, Nat.reduceLeDiff]
    | false =>
      by_cases c3 : R.testBit k = true
      · rw [c3] at e1
        by_cases c4 : farS (pC P) p k < 2
        · have c4' : ¬ (2 : Int32) ≤ farS (pC P) p k := Int32.not_le.mpr c4
          have e3 : anyS (fun q => R.testBit q && decide (farS (pC P) p q < 2)) (k + 1) = true := by rw [anyS, c2]; simp [c3, c4]
          simp only [jX5_nextOf_71, jX5_nextOf_70, jX5_nextOf_66, e_push, e_ild_0, e_lld_0, e_ald_0, e_inc_0, e_ild_1, e_lld_1, e_ald_1, e_inc_1, e_ild_2, e_lld_2, e_ald_2, e_inc_2, e_ild_3, e_lld_3, e_ald_3, e_inc_3, e_ild_4, e_lld_4, e_ald_4, e_inc_4, e_ild_5, e_lld_5, e_ald_5, e_inc_5, e_ild_6, e_lld_6, e_ald_6, e_inc_6, e_ild_7, e_lld_7, e_ald_7, e_inc_7, e_ild_8, e_lld_8, e_ald_8, e_inc_8, e_ild_9, e_lld_9, e_ald_9, e_inc_9, e_ild_10, e_lld_10, e_ald_10, e_inc_10, e_ild_11, e_lld_11, e_ald_11, e_inc_11, e_ild_12, e_lld_12, e_ald_12, e_inc_12, e_ist, e_ast, e_lst, e_sto_0, e_sto_1i, e_sto_1r, e_sto_1u, e_sto_1l, e_sto_2i, e_sto_2r, e_sto_2u, e_sto_2l, e_sto_3i, e_sto_3r, e_sto_3u, e_sto_3l, e_sto_4i, e_sto_4r, e_sto_4u, e_sto_4l, e_sto_5i, e_sto_5r, e_sto_5u, e_sto_5l, e_sto_6i, e_sto_6r, e_sto_6u, e_sto_6l, e_sto_7i, e_sto_7r, e_sto_7u, e_sto_7l, e_sto_8i, e_sto_8r, e_sto_8u, e_sto_8l, e_sto_9i, e_sto_9r, e_sto_9u, e_sto_9l, e_sto_10i, e_sto_10r, e_sto_10u, e_sto_10l, e_sto_11i, e_sto_11r, e_sto_11u, e_sto_11l, e_sto_12i, e_sto_12r, e_sto_12u, e_sto_12l, e_stoL_0, e_stoL_1i, e_stoL_1r, e_stoL_1u, e_stoL_2i, e_stoL_2r, e_stoL_2u, e_stoL_3i, e_stoL_3r, e_stoL_3u, e_stoL_4i, e_stoL_4r, e_stoL_4u, e_stoL_5i, e_stoL_5r, e_stoL_5u, e_stoL_6i, e_stoL_6r, e_stoL_6u, e_stoL_7i, e_stoL_7r, e_stoL_7u, e_stoL_8i, e_stoL_8r, e_stoL_8u, e_stoL_9i, e_stoL_9r, e_stoL_9u, e_stoL_10i, e_stoL_10r, e_stoL_10u, e_stoL_11i, e_stoL_11r, e_stoL_11u, e_stoL_12i, e_stoL_12r, e_stoL_12u, e_ib, e_lb, e_ls, e_ii, e_i2l, e_l2i, e_lcmp, e_idiv, e_irem, e_dup_i, e_dup_r, e_dup2, e_pop, e_ifeq, e_iceq, e_ifne, e_icne, e_iflt, e_iclt, e_ifge, e_icge, e_ifgt, e_icgt, e_ifle, e_icle, e_sw, e_iret, e_nret, e_lret, e_aret, e_vret, e_get, e_puti, e_putl, e_iald, e_zald, e_iast, e_zast, e_lald, e_last, e_alen, e_nald, e_nlen, e_mmax, e_mmin, e_mabs, cont_v, cont_u, e_call0, e_call1, e_call2, e_call3, e_call4, e_call5, e_call6, e_callV0, e_callT0, e_callV1, e_callT1, e_callV2, e_callT2, e_callV3, e_callT3, e_callV4, e_callT4, e_callV5, e_callT5, lin_i, lin_r, lin_l, lin_n, lsz_i, lsz_r, lsz_l, lsz_n, rep_s, rep_0, mEnt_e, g6, g7, v7, c1, c2, e3, e1, n10, r5, e2, c4', nI_1, if_true, if_false, Bool.false_eq_true, Option.bind_some, List.length_cons, List.length_nil, Nat.reduceAdd, Nat.reduceLeDiff]
        · have c4' : (2 : Int32) ≤ farS (pC P) p k := Int32.not_lt.mp c4
          have e3 : anyS (fun q => R.testBit q && decide (farS (pC P) p q < 2)) (k + 1) = false := by rw [anyS, c2]; simp [c4]
          simp only [jX5_nextOf_71, jX5_nextOf_70, jX5_nextOf_66, e_push, e_ild_0, e_lld_0, e_ald_0, e_inc_0, e_ild_1, e_lld_1, e_ald_1, e_inc_1, e_ild_2, e_lld_2, e_ald_2, e_inc_2, e_ild_3, e_lld_3, e_ald_3, e_inc_3, e_ild_4, e_lld_4, e_ald_4, e_inc_4, e_ild_5, e_lld_5, e_ald_5, e_inc_5, e_ild_6, e_lld_6, e_ald_6, e_inc_6, e_ild_7, e_lld_7, e_ald_7, e_inc_7, e_ild_8, e_lld_8, e_ald_8, e_inc_8, e_ild_9, e_lld_9, e_ald_9, e_inc_9, e_ild_10, e_lld_10, e_ald_10, e_inc_10, e_ild_11, e_lld_11, e_ald_11, e_inc_11, e_ild_12, e_lld_12, e_ald_12, e_inc_12, e_ist, e_ast, e_lst, e_sto_0, e_sto_1i, e_sto_1r, e_sto_1u, e_sto_1l, e_sto_2i, e_sto_2r, e_sto_2u, e_sto_2l, e_sto_3i, e_sto_3r, e_sto_3u, e_sto_3l, e_sto_4i, e_sto_4r, e_sto_4u, e_sto_4l, e_sto_5i, e_sto_5r, e_sto_5u, e_sto_5l, e_sto_6i, e_sto_6r, e_sto_6u, e_sto_6l, e_sto_7i, e_sto_7r, e_sto_7u, e_sto_7l, e_sto_8i, e_sto_8r, e_sto_8u, e_sto_8l, e_sto_9i, e_sto_9r, e_sto_9u, e_sto_9l, e_sto_10i, e_sto_10r, e_sto_10u, e_sto_10l, e_sto_11i, e_sto_11r, e_sto_11u, e_sto_11l, e_sto_12i, e_sto_12r, e_sto_12u, e_sto_12l, e_stoL_0, e_stoL_1i, e_stoL_1r, e_stoL_1u, e_stoL_2i, e_stoL_2r, e_stoL_2u, e_stoL_3i, e_stoL_3r, e_stoL_3u, e_stoL_4i, e_stoL_4r, e_stoL_4u, e_stoL_5i, e_stoL_5r, e_stoL_5u, e_stoL_6i, e_stoL_6r, e_stoL_6u, e_stoL_7i, e_stoL_7r, e_stoL_7u, e_stoL_8i, e_stoL_8r, e_stoL_8u, e_stoL_9i, e_stoL_9r, e_stoL_9u, e_stoL_10i, e_stoL_10r, e_stoL_10u, e_stoL_11i, e_stoL_11r, e_stoL_11u, e_stoL_12i, e_stoL_12r, e_stoL_12u, e_ib, e_lb, e_ls, e_ii, e_i2l, e_l2i, e_lcmp, e_idiv, e_irem, e_dup_i, e_dup_r, e_dup2, e_pop, e_ifeq, e_iceq, e_ifne, e_icne, e_iflt, e_iclt, e_ifge, e_icge, e_ifgt, e_icgt, e_ifle, e_icle, e_sw, e_iret, e_nret, e_lret, e_aret, e_vret, e_get, e_puti, e_putl, e_iald, e_zald, e_iast, e_zast, e_lald, e_last, e_alen, e_nald, e_nlen, e_mmax, e_mmin, e_mabs, cont_v, cont_u, e_call0, e_call1, e_call2, e_call3, e_call4, e_call5, e_call6, e_callV0, e_callT0, e_callV1, e_callT1, e_callV2, e_callT2, e_callV3, e_callT3, e_callV4, e_callT4, e_callV5, e_callT5, lin_i, lin_r, lin_l, lin_n, lsz_i, lsz_r, lsz_l, lsz_n, rep_s, rep_0, mEnt_e, g6, g7, v7, c1, c2, e3, e1, n10, r5, e2, c4', nI_1, if_true, if_false, Bool.false_eq_true, Option.bind_some, List.length_cons, List.length_nil, Nat.reduceAdd, Nat.reduceLeDiff]
      · have c3' : R.testBit k = false := by simpa using c3
        rw [c3'] at e1
        have e3 : anyS (fun q => R.testBit q && decide (farS (pC P) p q < 2)) (k + 1) = false := by rw [anyS, c2]; simp [c3']
        simp only [jX5_nextOf_71, jX5_nextOf_70, jX5_nextOf_66, e_push, e_ild_0, e_lld_0, e_ald_0, e_inc_0, e_ild_1, e_lld_1, e_ald_1, e_inc_1, e_ild_2, e_lld_2, e_ald_2, e_inc_2, e_ild_3, e_lld_3, e_ald_3, e_inc_3, e_ild_4, e_lld_4, e_ald_4, e_inc_4, e_ild_5, e_lld_5, e_ald_5, e_inc_5, e_ild_6, e_lld_6, e_ald_6, e_inc_6, e_ild_7, e_lld_7, e_ald_7, e_inc_7, e_ild_8, e_lld_8, e_ald_8, e_inc_8, e_ild_9, e_lld_9, e_ald_9, e_inc_9, e_ild_10, e_lld_10, e_ald_10, e_inc_10, e_ild_11, e_lld_11, e_ald_11, e_inc_11, e_ild_12, e_lld_12, e_ald_12, e_inc_12, e_ist, e_ast, e_lst, e_sto_0, e_sto_1i, e_sto_1r, e_sto_1u, e_sto_1l, e_sto_2i, e_sto_2r, e_sto_2u, e_sto_2l, e_sto_3i, e_sto_3r, e_sto_3u, e_sto_3l, e_sto_4i, e_sto_4r, e_sto_4u, e_sto_4l, e_sto_5i, e_sto_5r, e_sto_5u, e_sto_5l, e_sto_6i, e_sto_6r, e_sto_6u, e_sto_6l, e_sto_7i, e_sto_7r, e_sto_7u, e_sto_7l, e_sto_8i, e_sto_8r, e_sto_8u, e_sto_8l, e_sto_9i, e_sto_9r, e_sto_9u, e_sto_9l, e_sto_10i, e_sto_10r, e_sto_10u, e_sto_10l, e_sto_11i, e_sto_11r, e_sto_11u, e_sto_11l, e_sto_12i, e_sto_12r, e_sto_12u, e_sto_12l, e_stoL_0, e_stoL_1i, e_stoL_1r, e_stoL_1u, e_stoL_2i, e_stoL_2r, e_stoL_2u, e_stoL_3i, e_stoL_3r, e_stoL_3u, e_stoL_4i, e_stoL_4r, e_stoL_4u, e_stoL_5i, e_stoL_5r, e_stoL_5u, e_stoL_6i, e_stoL_6r, e_stoL_6u, e_stoL_7i, e_stoL_7r, e_stoL_7u, e_stoL_8i, e_stoL_8r, e_stoL_8u, e_stoL_9i, e_stoL_9r, e_stoL_9u, e_stoL_10i, e_stoL_10r, e_stoL_10u, e_stoL_11i, e_stoL_11r, e_stoL_11u, e_stoL_12i, e_stoL_12r, e_stoL_12u, e_ib, e_lb, e_ls, e_ii, e_i2l, e_l2i, e_lcmp, e_idiv, e_irem, e_dup_i, e_dup_r, e_dup2, e_pop, e_ifeq, e_iceq, e_ifne, e_icne, e_iflt, e_iclt, e_ifge, e_icge, e_ifgt, e_icgt, e_ifle, e_icle, e_sw, e_iret, e_nret, e_lret, e_aret, e_vret, e_get, e_puti, e_putl, e_iald, e_zald, e_iast, e_zast, e_lald, e_last, e_alen, e_nald, e_nlen, e_mmax, e_mmin, e_mabs, cont_v, cont_u, e_call0, e_call1, e_call2, e_call3, e_call4, e_call5, e_call6, e_callV0, e_callT0, e_callV1, e_callT1, e_callV2, e_callT2, e_callV3, e_callT3, e_callV4, e_callT4, e_callV5, e_callT5, lin_i, lin_r, lin_l, lin_n, lsz_i, lsz_r, lsz_l, lsz_n, rep_s, rep_0, mEnt_e, g6, g7, v7, c1, c2, e3, e1, nI_1, if_true, if_false, Bool.false_eq_true, Option.bind_some, List.length_cons, List.length_nil, Nat.reduceAdd, Nat.reduceLeDiff]
  · intro B
    have c1 : nI (pn P) ≤ nI (pn P) := nI_le (Nat.le_refl _) (by omega)
    have e1 := m_has (w := w) (W := pW P) (p := p) (by omega) (by omega)
    have e2 := m_isHeard h hP hlic6 (p := p) (t := t) (by omega) ht
    have e0 : lN a ||| 0 = lN a := by simp
    have e3 := shl1L (p := p) (by omega)
    cases c2 : anyS (fun q => R.testBit q && decide (farS (pC P) p q < 2)) (pn P) with
    | false =>
      simp only [jX5_nextOf_121, jX5_nextOf_122, e_push, e_ild_0, e_lld_0, e_ald_0, e_inc_0, e_ild_1, e_lld_1, e_ald_1, e_inc_1, e_ild_2, e_lld_2, e_ald_2, e_inc_2, e_ild_3, e_lld_3, e_ald_3, e_inc_3, e_ild_4, e_lld_4, e_ald_4, e_inc_4, e_ild_5, e_lld_5, e_ald_5, e_inc_5, e_ild_6, e_lld_6, e_ald_6, e_inc_6, e_ild_7, e_lld_7, e_ald_7, e_inc_7, e_ild_8, e_lld_8, e_ald_8, e_inc_8, e_ild_9, e_lld_9, e_ald_9, e_inc_9, e_ild_10, e_lld_10, e_ald_10, e_inc_10, e_ild_11, e_lld_11, e_ald_11, e_inc_11, e_ild_12, e_lld_12, e_ald_12, e_inc_12, e_ist, e_ast, e_lst, e_sto_0, e_sto_1i, e_sto_1r, e_sto_1u, e_sto_1l, e_sto_2i, e_sto_2r, e_sto_2u, e_sto_2l, e_sto_3i, e_sto_3r, e_sto_3u, e_sto_3l, e_sto_4i, e_sto_4r, e_sto_4u, e_sto_4l, e_sto_5i, e_sto_5r, e_sto_5u, e_sto_5l, e_sto_6i, e_sto_6r, e_sto_6u, e_sto_6l, e_sto_7i, e_sto_7r, e_sto_7u, e_sto_7l, e_sto_8i, e_sto_8r, e_sto_8u, e_sto_8l, e_sto_9i, e_sto_9r, e_sto_9u, e_sto_9l, e_sto_10i, e_sto_10r, e_sto_10u, e_sto_10l, e_sto_11i, e_sto_11r, e_sto_11u, e_sto_11l, e_sto_12i, e_sto_12r, e_sto_12u, e_sto_12l, e_stoL_0, e_stoL_1i, e_stoL_1r, e_stoL_1u, e_stoL_2i, e_stoL_2r, e_stoL_2u, e_stoL_3i, e_stoL_3r, e_stoL_3u, e_stoL_4i, e_stoL_4r, e_stoL_4u, e_stoL_5i, e_stoL_5r, e_stoL_5u, e_stoL_6i, e_stoL_6r, e_stoL_6u, e_stoL_7i, e_stoL_7r, e_stoL_7u, e_stoL_8i, e_stoL_8r, e_stoL_8u, e_stoL_9i, e_stoL_9r, e_stoL_9u, e_stoL_10i, e_stoL_10r, e_stoL_10u, e_stoL_11i, e_stoL_11r, e_stoL_11u, e_stoL_12i, e_stoL_12r, e_stoL_12u, e_ib, e_lb, e_ls, e_ii, e_i2l, e_l2i, e_lcmp, e_idiv, e_irem, e_dup_i, e_dup_r, e_dup2, e_pop, e_ifeq, e_iceq, e_ifne, e_icne, e_iflt, e_iclt, e_ifge, e_icge, e_ifgt, e_icgt, e_ifle, e_icle, e_sw, e_iret, e_nret, e_lret, e_aret, e_vret, e_get, e_puti, e_putl, e_iald, e_zald, e_iast, e_zast, e_lald, e_last, e_alen, e_nald, e_nlen, e_mmax, e_mmin, e_mabs, cont_v, cont_u, e_call0, e_call1, e_call2, e_call3, e_call4, e_call5, e_call6, e_callV0, e_callT0, e_callV1, e_callT1, e_callV2, e_callT2, e_callV3, e_callT3, e_callV4, e_callT4, e_callV5, e_callT5, lin_i, lin_r, lin_l, lin_n, lsz_i, lsz_r, lsz_l, lsz_n, rep_s, rep_0, mEnt_e, g6, g7, v7, c1, c2, e0, Bool.false_and, nI_1, if_true, if_false, Bool.false_eq_true, Option.bind_some, List.length_cons, List.length_nil, Nat.reduceAdd, Nat.reduceLeDiff]
    | true =>
      by_cases c3 : (pW P).testBit p = true
      · rw [c3] at e1
        by_cases c4 : heS P lic p t = true
        · rw [c4] at e2
          simp only [jX5_nextOf_121, jX5_nextOf_122, e_push, e_ild_0, e_lld_0, e_ald_0, e_inc_0, e_ild_1, e_lld_1, e_ald_1, e_inc_1, e_ild_2, e_lld_2, e_ald_2, e_inc_2, e_ild_3, e_lld_3, e_ald_3, e_inc_3, e_ild_4, e_lld_4, e_ald_4, e_inc_4, e_ild_5, e_lld_5, e_ald_5, e_inc_5, e_ild_6, e_lld_6, e_ald_6, e_inc_6, e_ild_7, e_lld_7, e_ald_7, e_inc_7, e_ild_8, e_lld_8, e_ald_8, e_inc_8, e_ild_9, e_lld_9, e_ald_9, e_inc_9, e_ild_10, e_lld_10, e_ald_10, e_inc_10, e_ild_11, e_lld_11, e_ald_11, e_inc_11, e_ild_12, e_lld_12, e_ald_12, e_inc_12, e_ist, e_ast, e_lst, e_sto_0, e_sto_1i, e_sto_1r, e_sto_1u, e_sto_1l, e_sto_2i, e_sto_2r, e_sto_2u, e_sto_2l, e_sto_3i, e_sto_3r, e_sto_3u, e_sto_3l, e_sto_4i, e_sto_4r, e_sto_4u, e_sto_4l, e_sto_5i, e_sto_5r, e_sto_5u, e_sto_5l, e_sto_6i, e_sto_6r, e_sto_6u, e_sto_6l, e_sto_7i, e_sto_7r, e_sto_7u, e_sto_7l, e_sto_8i, e_sto_8r, e_sto_8u, e_sto_8l, e_sto_9i, e_sto_9r, e_sto_9u, e_sto_9l, e_sto_10i, e_sto_10r, e_sto_10u, e_sto_10l, e_sto_11i, e_sto_11r, e_sto_11u, e_sto_11l, e_sto_12i, e_sto_12r, e_sto_12u, e_sto_12l, e_stoL_0, e_stoL_1i, e_stoL_1r, e_stoL_1u, e_stoL_2i, e_stoL_2r, e_stoL_2u, e_stoL_3i, e_stoL_3r, e_stoL_3u, e_stoL_4i, e_stoL_4r, e_stoL_4u, e_stoL_5i, e_stoL_5r, e_stoL_5u, e_stoL_6i, e_stoL_6r, e_stoL_6u, e_stoL_7i, e_stoL_7r, e_stoL_7u, e_stoL_8i, e_stoL_8r, e_stoL_8u, e_stoL_9i, e_stoL_9r, e_stoL_9u, e_stoL_10i, e_stoL_10r, e_stoL_10u, e_stoL_11i, e_stoL_11r, e_stoL_11u, e_stoL_12i, e_stoL_12r, e_stoL_12u, e_ib, e_lb, e_ls, e_ii, e_i2l, e_l2i, e_lcmp, e_idiv, e_irem, e_dup_i, e_dup_r, e_dup2, e_pop, e_ifeq, e_iceq, e_ifne, e_icne, e_iflt, e_iclt, e_ifge, e_icge, e_ifgt, e_icgt, e_ifle, e_icle, e_sw, e_iret, e_nret, e_lret, e_aret, e_vret, e_get, e_puti, e_putl, e_iald, e_zald, e_iast, e_zast, e_lald, e_last, e_alen, e_nald, e_nlen, e_mmax, e_mmin, e_mabs, cont_v, cont_u, e_call0, e_call1, e_call2, e_call3, e_call4, e_call5, e_call6, e_callV0, e_callT0, e_callV1, e_callT1, e_callV2, e_callT2, e_callV3, e_callT3, e_callV4, e_callT4, e_callV5, e_callT5, lin_i, lin_r, lin_l, lin_n, lsz_i, lsz_r, lsz_l, lsz_n, rep_s, rep_0, mEnt_e, g6, g7, v7, c1, c2, n10, g11, e1, c3, r5, g0, l0, e2, c4, e3, fb_orL, Bool.and_self, nI_1, if_true, if_false, Bool.false_eq_true, Option.bind_some, List.length_cons, List.length_nil, Nat.reduceAdd, Nat.reduceLeDiff]
        · have c4' : heS P lic p t = false := by simpa using c4
          rw [c4'] at e2
          simp only [jX5_nextOf_121, jX5_nextOf_122, e_push, e_ild_0, e_lld_0, e_ald_0, e_inc_0, e_ild_1, e_lld_1, e_ald_1, e_inc_1, e_ild_2, e_lld_2, e_ald_2, e_inc_2, e_ild_3, e_lld_3, e_ald_3, e_inc_3, e_ild_4, e_lld_4, e_ald_4, e_inc_4, e_ild_5, e_lld_5, e_ald_5, e_inc_5, e_ild_6, e_lld_6, e_ald_6, e_inc_6, e_ild_7, e_lld_7, e_ald_7, e_inc_7, e_ild_8, e_lld_8, e_ald_8, e_inc_8, e_ild_9, e_lld_9, e_ald_9, e_inc_9, e_ild_10, e_lld_10, e_ald_10, e_inc_10, e_ild_11, e_lld_11, e_ald_11, e_inc_11, e_ild_12, e_lld_12, e_ald_12, e_inc_12, e_ist, e_ast, e_lst, e_sto_0, e_sto_1i, e_sto_1r, e_sto_1u, e_sto_1l, e_sto_2i, e_sto_2r, e_sto_2u, e_sto_2l, e_sto_3i, e_sto_3r, e_sto_3u, e_sto_3l, e_sto_4i, e_sto_4r, e_sto_4u, e_sto_4l, e_sto_5i, e_sto_5r, e_sto_5u, e_sto_5l, e_sto_6i, e_sto_6r, e_sto_6u, e_sto_6l, e_sto_7i, e_sto_7r, e_sto_7u, e_sto_7l, e_sto_8i, e_sto_8r, e_sto_8u, e_sto_8l, e_sto_9i, e_sto_9r, e_sto_9u, e_sto_9l, e_sto_10i, e_sto_10r, e_sto_10u, e_sto_10l, e_sto_11i, e_sto_11r, e_sto_11u, e_sto_11l, e_sto_12i, e_sto_12r, e_sto_12u, e_sto_12l, e_stoL_0, e_stoL_1i, e_stoL_1r, e_stoL_1u, e_stoL_2i, e_stoL_2r, e_stoL_2u, e_stoL_3i, e_stoL_3r, e_stoL_3u, e_stoL_4i, e_stoL_4r, e_stoL_4u, e_stoL_5i, e_stoL_5r, e_stoL_5u, e_stoL_6i, e_stoL_6r, e_stoL_6u, e_stoL_7i, e_stoL_7r, e_stoL_7u, e_stoL_8i, e_stoL_8r, e_stoL_8u, e_stoL_9i, e_stoL_9r, e_stoL_9u, e_stoL_10i, e_stoL_10r, e_stoL_10u, e_stoL_11i, e_stoL_11r, e_stoL_11u, e_stoL_12i, e_stoL_12r, e_stoL_12u, e_ib, e_lb, e_ls, e_ii, e_i2l, e_l2i, e_lcmp, e_idiv, e_irem, e_dup_i, e_dup_r, e_dup2, e_pop, e_ifeq, e_iceq, e_ifne, e_icne, e_iflt, e_iclt, e_ifge, e_icge, e_ifgt, e_icgt, e_ifle, e_icle, e_sw, e_iret, e_nret, e_lret, e_aret, e_vret, e_get, e_puti, e_putl, e_iald, e_zald, e_iast, e_zast, e_lald, e_last, e_alen, e_nald, e_nlen, e_mmax, e_mmin, e_mabs, cont_v, cont_u, e_call0, e_call1, e_call2, e_call3, e_call4, e_call5, e_call6, e_callV0, e_callT0, e_callV1, e_callT1, e_callV2, e_callT2, e_callV3, e_callT3, e_callV4, e_callT4, e_callV5, e_callT5, lin_i, lin_r, lin_l, lin_n, lsz_i, lsz_r, lsz_l, lsz_n, rep_s, rep_0, mEnt_e, g6, g7, v7, c1, c2, n10, g11, e1, c3, r5, g0, l0, e2, c4', e0, Bool.and_false, nI_1, if_true, if_false, Bool.false_eq_true, Option.bind_some, List.length_cons, List.length_nil, Nat.reduceAdd, Nat.reduceLeDiff]
      · have c3' : (pW P).testBit p = false := by simpa using c3
        rw [c3'] at e1
        simp only [jX5_nextOf_121, jX5_nextOf_122, e_push, e_ild_0, e_lld_0, e_ald_0, e_inc_0, e_ild_1, e_lld_1, e_ald_1, e_inc_1, e_ild_2, e_lld_2, e_ald_2, e_inc_2, e_ild_3, e_lld_3, e_ald_3, e_inc_3, e_ild_4, e_lld_4, e_ald_4, e_inc_4, e_ild_5, e_lld_5, e_ald_5, e_inc_5, e_ild_6, e_lld_6, e_ald_6, e_inc_6, e_ild_7, e_lld_7, e_ald_7, e_inc_7, e_ild_8, e_lld_8, e_ald_8, e_inc_8, e_ild_9, e_lld_9, e_ald_9, e_inc_9, e_ild_10, e_lld_10, e_ald_10, e_inc_10, e_ild_11, e_lld_11, e_ald_11, e_inc_11, e_ild_12, e_lld_12, e_ald_12, e_inc_12, e_ist, e_ast, e_lst, e_sto_0, e_sto_1i, e_sto_1r, e_sto_1u, e_sto_1l, e_sto_2i, e_sto_2r, e_sto_2u, e_sto_2l, e_sto_3i, e_sto_3r, e_sto_3u, e_sto_3l, e_sto_4i, e_sto_4r, e_sto_4u, e_sto_4l, e_sto_5i, e_sto_5r, e_sto_5u, e_sto_5l, e_sto_6i, e_sto_6r, e_sto_6u, e_sto_6l, e_sto_7i, e_sto_7r, e_sto_7u, e_sto_7l, e_sto_8i, e_sto_8r, e_sto_8u, e_sto_8l, e_sto_9i, e_sto_9r, e_sto_9u, e_sto_9l, e_sto_10i, e_sto_10r, e_sto_10u, e_sto_10l, e_sto_11i, e_sto_11r, e_sto_11u, e_sto_11l, e_sto_12i, e_sto_12r, e_sto_12u, e_sto_12l, e_stoL_0, e_stoL_1i, e_stoL_1r, e_stoL_1u, e_stoL_2i, e_stoL_2r, e_stoL_2u, e_stoL_3i, e_stoL_3r, e_stoL_3u, e_stoL_4i, e_stoL_4r, e_stoL_4u, e_stoL_5i, e_stoL_5r, e_stoL_5u, e_stoL_6i, e_stoL_6r, e_stoL_6u, e_stoL_7i, e_stoL_7r, e_stoL_7u, e_stoL_8i, e_stoL_8r, e_stoL_8u, e_stoL_9i, e_stoL_9r, e_stoL_9u, e_stoL_10i, e_stoL_10r, e_stoL_10u, e_stoL_11i, e_stoL_11r, e_stoL_11u, e_stoL_12i, e_stoL_12r, e_stoL_12u, e_ib, e_lb, e_ls, e_ii, e_i2l, e_l2i, e_lcmp, e_idiv, e_irem, e_dup_i, e_dup_r, e_dup2, e_pop, e_ifeq, e_iceq, e_ifne, e_icne, e_iflt, e_iclt, e_ifge, e_icge, e_ifgt, e_icgt, e_ifle, e_icle, e_sw, e_iret, e_nret, e_lret, e_aret, e_vret, e_get, e_puti, e_putl, e_iald, e_zald, e_iast, e_zast, e_lald, e_last, e_alen, e_nald, e_nlen, e_mmax, e_mmin, e_mabs, cont_v, cont_u, e_call0, e_call1, e_call2, e_call3, e_call4, e_call5, e_call6, e_callV0, e_callT0, e_callV1, e_callT1, e_callV2, e_callT2, e_callV3, e_callT3, e_callV4, e_callT4, e_callV5, e_callT5, lin_i, lin_r, lin_l, lin_n, lsz_i, lsz_r, lsz_l, lsz_n, rep_s, rep_0, mEnt_e, g6, g7, v7, c1, c2, n10, g11, e1, c3', e0, Bool.and_false, Bool.false_and, nI_1, if_true, if_false, Bool.false_eq_true, Option.bind_some, List.length_cons, List.length_nil, Nat.reduceAdd, Nat.reduceLeDiff]
theorem m_nextOf {ln' sn' : Int32} {J : Jk} {f : Nat → Int32} (h : MdAt w P ln' sn' J) (hP : PkOK P) (hrow : Ar w 25 9 f) (hf0 : f 0 = nI lic) (hlic6 : lic < 64) {R t : Nat} (hR : R < 2 ^ pn P) (ht : t < 12) : FX5_nextOf [.ref 24, .long (lN R), .int (nI t)] w = some (some (.long (lN (nxS P lic R t))), w) := by
  have hn := pn_le hP
  have g6 : gt 5 6 24 w = some (.int (nI (pC P))) := gt_of h.1 rfl
  have g7 : gt 5 7 24 w = some (.int (nI (pR P))) := gt_of h.1 rfl
  have v7 : nI (pC P) * nI (pR P) = nI (pn P) := by rw [pk_mul]; rfl
  obtain ⟨r, z1, z2⟩ := loop_inv (F := fun B6 => i_ild 6 (i_ald 0 (i_get 5 6 (i_ald 0 (i_get 5 7 (i_ib (fun x y => x * y) (i_icge (i_lld 4 (i_lret)) (i_push (.int 0) (i_ist 7 (i_push (.int 0) (i_ist 8 ((jX5_nextOf_26 B6)))))))))))))
    (st := []) (L := [.ref 24, .long (lN R), .retAddr 0, .int (nI t), .long 0, .retAddr 0, .int 0, .retAddr 0, .retAddr 0]) (w := w) (pn P)
    (fun k st L w' => w' = w ∧ st = [] ∧ ∃ v7 v8, L = [.ref 24, .long (lN R), .retAddr 0, .int (nI t), .long (lN (bldS (fun p => anyS (fun q => R.testBit q && decide (farS (pC P) p q < 2)) (pn P) && ((pW P).testBit p && heS P lic p t)) k)), .retAddr 0, .int (nI k), v7, v8])
    (fun r => r = some (some (.long (lN (nxS P lic R t))), w))
    ⟨rfl, rfl, _, _, rfl⟩
    (by
      rintro k hk st L w' ⟨rfl, rfl, u7, u8, rfl⟩
      have c1 : ¬ nI (pn P) ≤ nI k := nI_ge hk (by omega)
      obtain ⟨y7, y8, e1⟩ := m_next1 h hP hrow hf0 hlic6 hR ht (a := bldS (fun p => anyS (fun q => R.testBit q && decide (farS (pC P) p q < 2)) (pn P) && ((pW P).testBit p && heS P lic p t)) k) hk
      refine ⟨[], _, w', ⟨rfl, rfl, y7, y8, rfl⟩, fun B => ?_⟩
      simp only [e_push, e_ild_0, e_lld_0, e_ald_0, e_inc_0, e_ild_1, e_lld_1, e_ald_1, e_inc_1, e_ild_2, e_lld_2, e_ald_2, e_inc_2, e_ild_3, e_lld_3, e_ald_3, e_inc_3, e_ild_4, e_lld_4, e_ald_4, e_inc_4, e_ild_5, e_lld_5, e_ald_5, e_inc_5, e_ild_6, e_lld_6, e_ald_6, e_inc_6, e_ild_7, e_lld_7, e_ald_7, e_inc_7, e_ild_8, e_lld_8, e_ald_8, e_inc_8, e_ild_9, e_lld_9, e_ald_9, e_inc_9, e_ild_10, e_lld_10, e_ald_10, e_inc_10, e_ild_11, e_lld_11, e_ald_11, e_inc_11, e_ild_12, e_lld_12, e_ald_12, e_inc_12, e_ist, e_ast, e_lst, e_sto_0, e_sto_1i, e_sto_1r, e_sto_1u, e_sto_1l, e_sto_2i, e_sto_2r, e_sto_2u, e_sto_2l, e_sto_3i, e_sto_3r, e_sto_3u, e_sto_3l, e_sto_4i, e_sto_4r, e_sto_4u, e_sto_4l, e_sto_5i, e_sto_5r, e_sto_5u, e_sto_5l, e_sto_6i, e_sto_6r, e_sto_6u, e_sto_6l, e_sto_7i, e_sto_7r, e_sto_7u, e_sto_7l, e_sto_8i, e_sto_8r, e_sto_8u, e_sto_8l, e_sto_9i, e_sto_9r, e_sto_9u, e_sto_9l, e_sto_10i, e_sto_10r, e_sto_10u, e_sto_10l, e_sto_11i, e_sto_11r, e_sto_11u, e_sto_11l, e_sto_12i, e_sto_12r, e_sto_12u, e_sto_12l, e_stoL_0, e_stoL_1i, e_stoL_1r, e_stoL_1u, e_stoL_2i, e_stoL_2r, e_stoL_2u, e_stoL_3i, e_stoL_3r, e_stoL_3u, e_stoL_4i, e_stoL_4r, e_stoL_4u, e_stoL_5i, e_stoL_5r, e_stoL_5u, e_stoL_6i, e_stoL_6r, e_stoL_6u, e_stoL_7i, e_stoL_7r, e_stoL_7u, e_stoL_8i, e_stoL_8r, e_stoL_8u, e_stoL_9i, e_stoL_9r, e_stoL_9u, e_stoL_10i, e_stoL_10r, e_stoL_10u, e_stoL_11i, e_stoL_11r, e_stoL_11u, e_stoL_12i, e_stoL_12r, e_stoL_12u, e_ib, e_lb, e_ls, e_ii, e_i2l, e_l2i, e_lcmp, e_idiv, e_irem, e_dup_i, e_dup_r, e_dup2, e_pop, e_ifeq, e_iceq, e_ifne, e_icne, e_iflt, e_iclt, e_ifge, e_icge, e_ifgt, e_icgt, e_ifle, e_icle, e_sw, e_iret, e_nret, e_lret, e_aret, e_vret, e_get, e_puti, e_putl, e_iald, e_zald, e_iast, e_zast, e_lald, e_last, e_alen, e_nald, e_nlen, e_mmax, e_mmin, e_mabs, cont_v, cont_u, e_call0, e_call1, e_call2, e_call3, e_call4, e_call5, e_call6, e_callV0, e_callT0, e_callV1, e_callT1, e_callV2, e_callT2, e_callV3, e_callT3, e_callV4, e_callT4, e_callV5, e_callT5, lin_i, lin_r, lin_l, lin_n, lsz_i, lsz_r, lsz_l, lsz_n, rep_s, rep_0, mEnt_e, g6, g7, v7, c1, e1, bldS, if_true, if_false, Bool.false_eq_true, Option.bind_some, List.length_cons, List.length_nil, Nat.reduceAdd, Nat.reduceLeDiff])
    (by
      rintro st L w' ⟨rfl, rfl, u7, u8, rfl⟩
      have c1 : nI (pn P) ≤ nI (pn P) := nI_le (Nat.le_refl _) (by omega)
      refine ⟨_, rfl, fun B => ?_⟩
      simp only [e_push, e_ild_0, e_lld_0, e_ald_0, e_inc_0, e_ild_1, e_lld_1, e_ald_1, e_inc_1, e_ild_2, e_lld_2, e_ald_2, e_inc_2, e_ild_3, e_lld_3, e_ald_3, e_inc_3, e_ild_4, e_lld_4, e_ald_4, e_inc_4, e_ild_5, e_lld_5, e_ald_5, e_inc_5, e_ild_6, e_lld_6, e_ald_6, e_inc_6, e_ild_7, e_lld_7, e_ald_7, e_inc_7, e_ild_8, e_lld_8, e_ald_8, e_inc_8, e_ild_9, e_lld_9, e_ald_9, e_inc_9, e_ild_10, e_lld_10, e_ald_10, e_inc_10, e_ild_11, e_lld_11, e_ald_11, e_inc_11, e_ild_12, e_lld_12, e_ald_12, e_inc_12, e_ist, e_ast, e_lst, e_sto_0, e_sto_1i, e_sto_1r, e_sto_1u, e_sto_1l, e_sto_2i, e_sto_2r, e_sto_2u, e_sto_2l, e_sto_3i, e_sto_3r, e_sto_3u, e_sto_3l, e_sto_4i, e_sto_4r, e_sto_4u, e_sto_4l, e_sto_5i, e_sto_5r, e_sto_5u, e_sto_5l, e_sto_6i, e_sto_6r, e_sto_6u, e_sto_6l, e_sto_7i, e_sto_7r, e_sto_7u, e_sto_7l, e_sto_8i, e_sto_8r, e_sto_8u, e_sto_8l, e_sto_9i, e_sto_9r, e_sto_9u, e_sto_9l, e_sto_10i, e_sto_10r, e_sto_10u, e_sto_10l, e_sto_11i, e_sto_11r, e_sto_11u, e_sto_11l, e_sto_12i, e_sto_12r, e_sto_12u, e_sto_12l, e_stoL_0, e_stoL_1i, e_stoL_1r, e_stoL_1u, e_stoL_2i, e_stoL_2r, e_stoL_2u, e_stoL_3i, e_stoL_3r, e_stoL_3u, e_stoL_4i, e_stoL_4r, e_stoL_4u, e_stoL_5i, e_stoL_5r, e_stoL_5u, e_stoL_6i, e_stoL_6r, e_stoL_6u, e_stoL_7i, e_stoL_7r, e_stoL_7u, e_stoL_8i, e_stoL_8r, e_stoL_8u, e_stoL_9i, e_stoL_9r, e_stoL_9u, e_stoL_10i, e_stoL_10r, e_stoL_10u, e_stoL_11i, e_stoL_11r, e_stoL_11u, e_stoL_12i, e_stoL_12r, e_stoL_12u, e_ib, e_lb, e_ls, e_ii, e_i2l, e_l2i, e_lcmp, e_idiv, e_irem, e_dup_i, e_dup_r, e_dup2, e_pop, e_ifeq, e_iceq, e_ifne, e_icne, e_iflt, e_iclt, e_ifge, e_icge, e_ifgt, e_icgt, e_ifle, e_icle, e_sw, e_iret, e_nret, e_lret, e_aret, e_vret, e_get, e_puti, e_putl, e_iald, e_zald, e_iast, e_zast, e_lald, e_last, e_alen, e_nald, e_nlen, e_mmax, e_mmin, e_mabs, cont_v, cont_u, e_call0, e_call1, e_call2, e_call3, e_call4, e_call5, e_call6, e_callV0, e_callT0, e_callV1, e_callT1, e_callV2, e_callT2, e_callV3, e_callT3, e_callV4, e_callT4, e_callV5, e_callT5, lin_i, lin_r, lin_l, lin_n, lsz_i, lsz_r, lsz_l, lsz_n, rep_s, rep_0, mEnt_e, g6, g7, v7, c1, nxS, if_true, if_false, Bool.false_eq_true, Option.bind_some, List.length_cons, List.length_nil, Nat.reduceAdd, Nat.reduceLeDiff]) 1000 (by omega)
  have z3 : jX5_nextOf_6 [] [.ref 24, .long (lN R), .retAddr 0, .int (nI t), .long 0, .retAddr 0, .int 0, .retAddr 0, .retAddr 0] w = some (some (.long (lN (nxS P lic R t))), w) := z1.trans z2
  simp only [FX5_nextOf, jX5_nextOf, e_push, e_ild_0, e_lld_0, e_ald_0, e_inc_0, e_ild_1, e_lld_1, e_ald_1, e_inc_1, e_ild_2, e_lld_2, e_ald_2, e_inc_2, e_ild_3, e_lld_3, e_ald_3, e_inc_3, e_ild_4, e_lld_4, e_ald_4, e_inc_4, e_ild_5, e_lld_5, e_ald_5, e_inc_5, e_ild_6, e_lld_6, e_ald_6, e_inc_6, e_ild_7, e_lld_7, e_ald_7, e_inc_7, e_ild_8, e_lld_8, e_ald_8, e_inc_8, e_ild_9, e_lld_9, e_ald_9, e_inc_9, e_ild_10, e_lld_10, e_ald_10, e_inc_10, e_ild_11, e_lld_11, e_ald_11, e_inc_11, e_ild_12, e_lld_12, e_ald_12, e_inc_12, e_ist, e_ast, e_lst, e_sto_0, e_sto_1i, e_sto_1r, e_sto_1u, e_sto_1l, e_sto_2i, e_sto_2r, e_sto_2u, e_sto_2l, e_sto_3i, e_sto_3r, e_sto_3u, e_sto_3l, e_sto_4i, e_sto_4r, e_sto_4u, e_sto_4l, e_sto_5i, e_sto_5r, e_sto_5u, e_sto_5l, e_sto_6i, e_sto_6r, e_sto_6u, e_sto_6l, e_sto_7i, e_sto_7r, e_sto_7u, e_sto_7l, e_sto_8i, e_sto_8r, e_sto_8u, e_sto_8l, e_sto_9i, e_sto_9r, e_sto_9u, e_sto_9l, e_sto_10i, e_sto_10r, e_sto_10u, e_sto_10l, e_sto_11i, e_sto_11r, e_sto_11u, e_sto_11l, e_sto_12i, e_sto_12r, e_sto_12u, e_sto_12l, e_stoL_0, e_stoL_1i, e_stoL_1r, e_stoL_1u, e_stoL_2i, e_stoL_2r, e_stoL_2u, e_stoL_3i, e_stoL_3r, e_stoL_3u, e_stoL_4i, e_stoL_4r, e_stoL_4u, e_stoL_5i, e_stoL_5r, e_stoL_5u, e_stoL_6i, e_stoL_6r, e_stoL_6u, e_stoL_7i, e_stoL_7r, e_stoL_7u, e_stoL_8i, e_stoL_8r, e_stoL_8u, e_stoL_9i, e_stoL_9r, e_stoL_9u, e_stoL_10i, e_stoL_10r, e_stoL_10u, e_stoL_11i, e_stoL_11r, e_stoL_11u, e_stoL_12i, e_stoL_12r, e_stoL_12u, e_ib, e_lb, e_ls, e_ii, e_i2l, e_l2i, e_lcmp, e_idiv, e_irem, e_dup_i, e_dup_r, e_dup2, e_pop, e_ifeq, e_iceq, e_ifne, e_icne, e_iflt, e_iclt, e_ifge, e_icge, e_ifgt, e_icgt, e_ifle, e_icle, e_sw, e_iret, e_nret, e_lret, e_aret, e_vret, e_get, e_puti, e_putl, e_iald, e_zald, e_iast, e_zast, e_lald, e_last, e_alen, e_nald, e_nlen, e_mmax, e_mmin, e_mabs, cont_v, cont_u, e_call0, e_call1, e_call2, e_call3, e_call4, e_call5, e_call6, e_callV0, e_callT0, e_callV1, e_callT1, e_callV2, e_callT2, e_callV3, e_callT3, e_callV4, e_callT4, e_callV5, e_callT5, lin_i, lin_r, lin_l, lin_n, lsz_i, lsz_r, lsz_l, lsz_n, rep_s, rep_0, mEnt_e, z3, if_true, if_false, Bool.false_eq_true, Option.bind_some, List.length_cons, List.length_nil, Nat.reduceAdd, Nat.reduceLeDiff]
theorem x_heardPlaces {g : Nat → Int64} (hO : XO w lic wh hr sc) (hHr : HrAt w 7 8 9 10 P) (hP : PkOK P) (hlic : lic < 2 ^ pN P) (h23 : w[23]? = some (la 12 g)) {x : Int32} : ∃ w1 g1, (∀ h, h < 12 → g1 h = lN (hwS P lic h (pn P))) ∧ w1[23]? = some (la 12 g1) ∧ Sm [23] w w1 ∧ jX4_way_27 [] [.ref 0, .int x, .int 0, .retAddr 0, .retAddr 0, .retAddr 0] w = (i_push (.long 1) (i_ald 0 (i_get 4 7 (i_ls (fun x y => x <<< (y.toInt64 &&& 63)) (i_lst 2 (i_ald 0 (i_get 4 8 (i_ist 4 (i_push (.int 0) (i_ist 5 (jX4_way_73)))))))))) [] [.ref 0, .int x, .int (nI 12), .retAddr 0, .retAddr 0, .retAddr 0] w1) := by
  obtain ⟨r, z1, w1, g1, z2, z3, z4, z5⟩ := loop_inv (F := fun B27 => i_ild 2 (i_push (.int 12) (i_icge (i_push (.long 1) (i_ald 0 (i_get 4 7 (i_ls (fun x y => x <<< (y.toInt64 &&& 63)) (i_lst 2 (i_ald 0 (i_get 4 8 (i_ist 4 (i_push (.int 0) (i_ist 5 (jX4_way_73))))))))))) (i_ald 0 (i_get 4 16 (i_ild 2 (i_ald 0 (i_get 4 3 (i_ald 0 (i_get 4 6 (i_ild 2 (i_callV 0 2 FX0_heardOfWalk (i_last (i_inc 2 1 (B27)))))))))))))))
    (st := []) (L := [.ref 0, .int x, .int 0, .retAddr 0, .retAddr 0, .retAddr 0]) (w := w) 12
    (fun k st L w' => st = [] ∧ L = [.ref 0, .int x, .int (nI k), .retAddr 0, .retAddr 0, .retAddr 0] ∧ (∃ g, w'[23]? = some (la 12 g) ∧ ∀ h, h < k → g h = lN (hwS P lic h (pn P))) ∧ Sm [23] w w')
    (fun r => ∃ w1 g1, (∀ h, h < 12 → g1 h = lN (hwS P lic h (pn P))) ∧ w1[23]? = some (la 12 g1) ∧ Sm [23] w w1 ∧ r = (i_push (.long 1) (i_ald 0 (i_get 4 7 (i_ls (fun x y => x <<< (y.toInt64 &&& 63)) (i_lst 2 (i_ald 0 (i_get 4 8 (i_ist 4 (i_push (.int 0) (i_ist 5 (jX4_way_73)))))))))) [] [.ref 0, .int x, .int (nI 12), .retAddr 0, .retAddr 0, .retAddr 0] w1))
    ⟨rfl, rfl, ⟨g, h23, fun h hh => absurd hh (by omega)⟩, Sm.rf⟩
    (by
      rintro k hk st L w3 ⟨rfl, rfl, ⟨g3, d1, d2⟩, m3⟩
      have o3 : XO w3 lic wh hr sc := (m3.2 0 (by decide)).trans hO
      have c1 : ¬ (12 : Int32) ≤ nI k := nI_ge (b := 12) hk (by decide)
      have v1 : gt 4 16 0 w3 = some (.ref 23) := gt_of o3 rfl
      have v2 : gt 4 3 0 w3 = some (.ref 7) := gt_of o3 rfl
      have v3 : gt 4 6 0 w3 = some (.int (nI lic)) := gt_of o3 rfl
      have hh3 : HrAt w3 7 8 9 10 P := hHr.kept (m3.2 7 (by decide)) (m3.2 8 (by decide)) (m3.2 9 (by decide)) (m3.2 10 (by decide))
      have v4 : rc 0 7 w3 = true := by obtain ⟨fs, bs, ms, ⟨z, -⟩, -⟩ := hh3; exact rc_of z
      have e1 := s_heardOfWalk hh3 hP hlic hk
      have e2 := las_n (x := lN (hwS P lic k (pn P))) d1 (i := nI k) rfl hk (by decide)
      have m4 : Sm [23] w3 (w3.set 23 (la 12 (vp_updL g3 k (lN (hwS P lic k (pn P)))))) := Sm.set (by simp)
      refine ⟨[], _, w3.set 23 (la 12 (vp_updL g3 k (lN (hwS P lic k (pn P))))), ⟨rfl, rfl, ⟨_, set_at d1, ?_⟩, m3.tr m4⟩, fun B => ?_⟩
      · intro h hh
        by_cases hk2 : h = k
        · subst hk2; exact if_pos rfl
        · have z : vp_updL g3 k (lN (hwS P lic k (pn P))) h = g3 h := if_neg hk2
          rw [z]; exact d2 h (by omega)
      · simp only [e_push, e_ild_0, e_lld_0, e_ald_0, e_inc_0, e_ild_1, e_lld_1, e_ald_1, e_inc_1, e_ild_2, e_lld_2, e_ald_2, e_inc_2, e_ild_3, e_lld_3, e_ald_3, e_inc_3, e_ild_4, e_lld_4, e_ald_4, e_inc_4, e_ild_5, e_lld_5, e_ald_5, e_inc_5, e_ild_6, e_lld_6, e_ald_6, e_inc_6, e_ild_7, e_lld_7, e_ald_7, e_inc_7, e_ild_8, e_lld_8, e_ald_8, e_inc_8, e_ild_9, e_lld_9, e_ald_9, e_inc_9, e_ild_10, e_lld_10, e_ald_10, e_inc_10, e_ild_11, e_lld_11, e_ald_11, e_inc_11, e_ild_12, e_lld_12, e_ald_12, e_inc_12, e_ist, e_ast, e_lst, e_sto_0, e_sto_1i, e_sto_1r, e_sto_1u, e_sto_1l, e_sto_2i, e_sto_2r, e_sto_2u, e_sto_2l, e_sto_3i, e_sto_3r, e_sto_3u, e_sto_3l, e_sto_4i, e_sto_4r, e_sto_4u, e_sto_4l, e_sto_5i, e_sto_5r, e_sto_5u, e_sto_5l, e_sto_6i, e_sto_6r, e_sto_6u, e_sto_6l, e_sto_7i, e_sto_7r, e_sto_7u, e_sto_7l, e_sto_8i, e_sto_8r, e_sto_8u, e_sto_8l, e_sto_9i, e_sto_9r, e_sto_9u, e_sto_9l, e_sto_10i, e_sto_10r, e_sto_10u, e_sto_10l, e_sto_11i, e_sto_11r, e_sto_11u, e_sto_11l, e_sto_12i, e_sto_12r, e_sto_12u, e_sto_12l, e_stoL_0, e_stoL_1i, e_stoL_1r, e_stoL_1u, e_stoL_2i, e_stoL_2r, e_stoL_2u, e_stoL_3i, e_stoL_3r, e_stoL_3u, e_stoL_4i, e_stoL_4r, e_stoL_4u, e_stoL_5i, e_stoL_5r, e_stoL_5u, e_stoL_6i, e_stoL_6r, e_stoL_6u, e_stoL_7i, e_stoL_7r, e_stoL_7u, e_stoL_8i, e_stoL_8r, e_stoL_8u, e_stoL_9i, e_stoL_9r, e_stoL_9u, e_stoL_10i, e_stoL_10r, e_stoL_10u, e_stoL_11i, e_stoL_11r, e_stoL_11u, e_stoL_12i, e_stoL_12r, e_stoL_12u, e_ib, e_lb, e_ls, e_ii, e_i2l, e_l2i, e_lcmp, e_idiv, e_irem, e_dup_i, e_dup_r, e_dup2, e_pop, e_ifeq, e_iceq, e_ifne, e_icne, e_iflt, e_iclt, e_ifge, e_icge, e_ifgt, e_icgt, e_ifle, e_icle, e_sw, e_iret, e_nret, e_lret, e_aret, e_vret, e_get, e_puti, e_putl, e_iald, e_zald, e_iast, e_zast, e_lald, e_last, e_alen, e_nald, e_nlen, e_mmax, e_mmin, e_mabs, cont_v, cont_u, e_call0, e_call1, e_call2, e_call3, e_call4, e_call5, e_call6, e_callV0, e_callT0, e_callV1, e_callT1, e_callV2, e_callT2, e_callV3, e_callT3, e_callV4, e_callT4, e_callV5, e_callT5, lin_i, lin_r, lin_l, lin_n, lsz_i, lsz_r, lsz_l, lsz_n, rep_s, rep_0, mEnt_e, c1, v1, v2, v3, v4, e1, e2, nI_1, if_true, if_false, Bool.false_eq_true, Option.bind_some, List.length_cons, List.length_nil, Nat.reduceAdd, Nat.reduceLeDiff])
    (by
      rintro st L w3 ⟨rfl, rfl, ⟨g3, d1, d2⟩, m3⟩
      have c1 : (12 : Int32) ≤ nI 12 := by decide
      refine ⟨_, ⟨w3, g3, d2, d1, m3, rfl⟩, fun B => ?_⟩
      rw [e_ild_2, e_push, e_icge]
      exact if_pos c1) 1000 (by decide)
  exact ⟨w1, g1, z2, z3, z4, z1.trans z5⟩
end WAY
