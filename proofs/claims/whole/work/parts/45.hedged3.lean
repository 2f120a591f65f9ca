/-! hedged: both alike -/
def BM (P : Pk) (s k : Nat) (o : Option Nat) : Prop := match o with
  | none => ∀ c, c < k → gdS P s (exS (spS P) c (pn P)) = false
  | some b => b < k ∧ gdS P s (exS (spS P) b (pn P)) = true ∧ ∀ c, c < k → gdS P s (exS (spS P) c (pn P)) = true → fb_ct b.testBit 6 < fb_ct c.testBit 6 ∨ (fb_ct b.testBit 6 = fb_ct c.testBit 6 ∧ b ≤ c)
theorem ct_6 {c m : Nat} (hc : c < 2 ^ m) (hm : m ≤ 6) : fb_ct c.testBit 6 = fb_ct c.testBit m := by
  obtain ⟨d, hd⟩ : ∃ d, 6 = m + d := ⟨6 - m, by omega⟩
  rw [hd, fb_ct_split]
  have : fb_ct (fun k => c.testBit (m + k)) d = 0 := by
    rw [fb_ct_zero]
    intro k _
    exact bit_hi hc (by omega)
  omega
theorem exS_lt (U c n : Nat) : exS U c n < 2 ^ n := bldS_lt _ _
theorem BM_best {P : Pk} (hP : PkOK P) {s : Nat} {o : Option Nat} (h : BM P s (2 ^ fb_ct (spS P).testBit (pn P)) o) : IsBest (fun z => subS z (spS P) ∧ gdS P s z = true) (o.map (fun c => exS (spS P) c (pn P))) := by
  have hn := pn_le hP
  have h6 := spS_ct (pn P) hP
  have hsub := exS_sub (spS_lt hP)
  cases o with
  | none =>
    rintro x ⟨h1, h2⟩
    obtain ⟨c, c1, rfl⟩ := (hsub x).mpr h1
    rw [h c c1] at h2; cases h2
  | some b =>
    obtain ⟨h1, h2, h3⟩ := h
    refine ⟨⟨(hsub _).mp ⟨b, h1, rfl⟩, h2⟩, ?_⟩
    rintro x ⟨k1, k2⟩
    obtain ⟨c, c1, rfl⟩ := (hsub x).mpr k1
    have e := h3 c c1 k2
    rw [ct_6 h1 h6, ct_6 c1 h6] at e
    show btS (exS (spS P) b (pn P)) (exS (spS P) c (pn P))
    unfold btS
    rw [exS_ct _ _ _ (by omega), exS_ct _ _ _ (by omega)]
    rcases e with e | ⟨e1, e2⟩
    · exact Or.inl e
    · exact Or.inr ⟨e1, exS_mono _ _ _ _ (by rw [Nat.mod_eq_of_lt h1, Nat.mod_eq_of_lt c1]; exact e2)⟩
def hgM (P : Pk) (x : Int32) (o : Option Nat) : Int64 := match o with
  | none => -1
  | some b => if x = 0 then (nI (fb_ct b.testBit 6)).toInt64 else lN (exS (spS P) b (pn P))
section API11
variable {w : List va_E} {P : Pk} {lic : Nat} {wh : Int32} {hr ln : Nat} {tb : Nat → Int32} {sc : Nat} {sp sh sg : Nat → Int32} {kp : Kp}
theorem m_hedged {w : List va_E} {sc : Nat} {J : Jk} {f : Nat → Int32} {fr : Nat → Int32} (hM : MdAt w P (nI ln) (nI sc) J) (hP : PkOK P) (hlic6 : lic < 64) (hA : Ar w 30 6 f) (hrow : Ar w 25 9 fr) (hf0 : fr 0 = nI lic) {x : Int32} (hx : x = 0 ∨ x = 1) : ∃ o w', IsBest (fun z => subS z (spS P) ∧ gdS P lic z = true) o ∧ FX5_hedged [.ref 24, .int x] w = some (some (.long (hgS x o)), w') ∧ MO w' P ln sc ∧ (∃ f, Ar w' 30 6 f) ∧ Sm [24, 30] w w' := by
  have hn := pn_le hP
  have hN := hP.2.2.2.2.1
  have n10 : ¬ (1 : Int32) = 0 := by decide
  have r5 : rc 5 24 w = true := rc_of hM.1
  obtain ⟨w1, J1, a1, a2, a3, a4, a5⟩ := m_laySpots hM hP hA
  have h6 := spS_ct (pn P) hP
  have hT := two6 h6
  have ei := m01 (w := w) x
  rw [if_pos hx] at ei
  have g12 : gt 5 12 24 w1 = some (.long (lN (pH P))) := gt_of a2.1 rfl
  obtain ⟨r, z1, o, w', z2, z3, z4, z5⟩ := loop_inv (F := fun B29 => i_ild 5 (i_push (.int 1) (i_ald 0 (i_get 5 22 (i_ib (fun x y => x <<< (y &&& 31)) (i_icge (i_ald 0 (i_lld 2 (i_putl 5 12 (i_ild 4 (i_push (.int (-1)) (i_icne (i_ild 1 (i_ifne (i_ald 0 (i_ild 4 (i_callV 5 1 FX5_placesOf (jX5_hedged_135)))) (i_ild 4 (i_call 1 FX5_bits (i_i2l (jX5_hedged_135)))))) (i_push (.long (-1)) (jX5_hedged_135)))))))) (i_ild 4 (i_push (.int (-1)) (i_iceq ((jX5_hedged_59 B29)) (i_ild 5 (i_call 1 FX5_bits (i_ild 4 (i_call 1 FX5_bits (i_icge ((jX5_hedged_93 B29)) ((jX5_hedged_59 B29))))))))))))))))
    (st := []) (L := [.ref 24, .int x, .long (lN (pH P)), .retAddr 0, .int (-1), .int 0]) (w := w1) (2 ^ fb_ct (spS P).testBit (pn P))
    (fun k st L w' => st = [] ∧ (∃ o, BM P lic k o ∧ L = [.ref 24, .int x, .long (lN (pH P)), .retAddr 0, .int (bsI o), .int (nI k)]) ∧ (∃ H, MdAt w' (setH P H) (nI ln) (nI sc) J1) ∧ Sm [24] w1 w')
    (fun r => ∃ o w', BM P lic (2 ^ fb_ct (spS P).testBit (pn P)) o ∧ r = some (some (.long (hgM P x o)), w') ∧ MdAt w' P (nI ln) (nI sc) J1 ∧ Sm [24] w1 w')
    ⟨rfl, ⟨none, fun c hc => absurd hc (by omega), rfl⟩, ⟨pH P, a2⟩, Sm.rf⟩
    (by
      rintro k hk st L w3 ⟨rfl, ⟨o, d1, rfl⟩, ⟨H, d2⟩, m3⟩
      have u0 : (1 : Int32) <<< (nI (fb_ct (spS P).testBit (pn P)) &&& 31) = nI (2 ^ fb_ct (spS P).testBit (pn P)) := shl1 _ (by omega)
      have u1 : ¬ nI (2 ^ fb_ct (spS P).testBit (pn P)) ≤ nI k := nI_ge hk (by omega)
      have v22 : gt 5 22 24 w3 = some (.int (nI (fb_ct (spS P).testBit (pn P)))) := by rw [← a3]; exact gt_of d2.1 rfl
      have v0 : rc 5 24 w3 = true := rc_of d2.1
      have sp3 : SpAt w3 (spS P) (pn P) := by
        obtain ⟨g, y1, y2⟩ := a4
        exact ⟨g, y1.kept (m3.2 30 (by decide)), y2⟩
      have e1 := m_placesOfS d2 hn a3 h6 sp3 (s := k) (by omega)
      have hxl := exS_lt (spS P) k (pn P)
      have hH1 : pH P ||| exS (spS P) k (pn P) < 2 ^ pn P := Nat.or_lt_two_pow hP.2.2.2.2.2.2.2.1 hxl
      have p12 : pt 5 12 24 (.long (lN (pH P ||| exS (spS P) k (pn P)))) w3 = some (w3.set 24 (mdc (setH P (pH P ||| exS (spS P) k (pn P))) (nI ln) (nI sc) J1)) := pt_of d2.1 (Nat.le_of_ble_eq_true rfl)
      have m4 : Sm [24] w3 (w3.set 24 (mdc (setH P (pH P ||| exS (spS P) k (pn P))) (nI ln) (nI sc) J1)) := Sm.set (by simp)
      have d4 : MdAt (w3.set 24 (mdc (setH P (pH P ||| exS (spS P) k (pn P))) (nI ln) (nI sc) J1)) (setH P (pH P ||| exS (spS P) k (pn P))) (nI ln) (nI sc) J1 := ⟨set_at d2.1, d2.2.kept (m4.2 29 (by decide))⟩
      have hm4 := m3.tr m4
      generalize w3.set 24 (mdc (setH P (pH P ||| exS (spS P) k (pn P))) (nI ln) (nI sc) J1) = w4 at *
      have v4 : gt 5 0 24 w4 = some (.ref 25) := gt_of d4.1 rfl
      have v5 : ial 0 25 0 w4 = some (nI lic) := by
        have z := ((hrow.kept (a5.2 25 (by decide))).kept (hm4.2 25 (by decide))).get (i := 0) (m := 0) rfl (by decide) (by decide)
        rw [hf0] at z; exact z
      have v6 : rc 5 24 w4 = true := rc_of d4.1
      have g1 : FX5_holdsBy [.ref 24, .int (nI lic)] w4 = some (some (.int (if gdS P lic (exS (spS P) k (pn P)) then 1 else 0)), w4) := m_holdsBy d4 (setH_ok hP hH1) hlic6
      have b1 := m_bits (w := w3) (s := k) (by omega)
      cases o with
      | none =>
        by_cases c1 : gdS P lic (exS (spS P) k (pn P)) = true
        · rw [c1] at g1
          refine ⟨[], _, w4, ⟨rfl, ⟨some k, ⟨by omega, c1, fun c hc hg => ?_⟩, rfl⟩, ⟨_, d4⟩, hm4⟩, fun B => ?_⟩
          · by_cases hck : c = k
            · subst hck; exact Or.inr ⟨rfl, Nat.le_refl _⟩
            · rw [d1 c (by omega)] at hg; cases hg
          · simp only [jX5_hedged_59, jX5_hedged_91, jX5_hedged_93, e_push, e_ild_0, e_lld_0, e_ald_0, e_inc_0, e_ild_1, e_lld_1, e_ald_1, e_inc_1, e_ild_2, e_lld_2, e_ald_2, e_inc_2, e_ild_3, e_lld_3, e_ald_3, e_inc_3, e_ild_4, e_lld_4, e_ald_4, e_inc_4, e_ild_5, e_lld_5, e_ald_5, e_inc_5, e_ild_6, e_lld_6, e_ald_6, e_inc_6, e_ild_7, e_lld_7, e_ald_7, e_inc_7, e_ild_8, e_lld_8, e_ald_8, e_inc_8, e_ild_9, e_lld_9, e_ald_9, e_inc_9, e_ild_10, e_lld_10, e_ald_10, e_inc_10, e_ild_11, e_lld_11, e_ald_11, e_inc_11, e_ild_12, e_lld_12, e_ald_12, e_inc_12, e_ist, e_ast, e_lst, e_sto_0, e_sto_1i, e_sto_1r, e_sto_1u, e_sto_1l, e_sto_2i, e_sto_2r, e_sto_2u, e_sto_2l, e_sto_3i, e_sto_3r, e_sto_3u, e_sto_3l, e_sto_4i, e_sto_4r, e_sto_4u, e_sto_4l, e_sto_5i, e_sto_5r, e_sto_5u, e_sto_5l, e_sto_6i, e_sto_6r, e_sto_6u, e_sto_6l, e_sto_7i, e_sto_7r, e_sto_7u, e_sto_7l, e_sto_8i, e_sto_8r, e_sto_8u, e_sto_8l, e_sto_9i, e_sto_9r, e_sto_9u, e_sto_9l, e_sto_10i, e_sto_10r, e_sto_10u, e_sto_10l, e_sto_11i, e_sto_11r, e_sto_11u, e_sto_11l, e_sto_12i, e_sto_12r, e_sto_12u, e_sto_12l, e_stoL_0, e_stoL_1i, e_stoL_1r, e_stoL_1u, e_stoL_2i, e_stoL_2r, e_stoL_2u, e_stoL_3i, e_stoL_3r, e_stoL_3u, e_stoL_4i, e_stoL_4r, e_stoL_4u, e_stoL_5i, e_stoL_5r, e_stoL_5u, e_stoL_6i, e_stoL_6r, e_stoL_6u, e_stoL_7i, e_stoL_7r, e_stoL_7u, e_stoL_8i, e_stoL_8r, e_stoL_8u, e_stoL_9i, e_stoL_9r, e_stoL_9u, e_stoL_10i, e_stoL_10r, e_stoL_10u, e_stoL_11i, e_stoL_11r, e_stoL_11u, e_stoL_12i, e_stoL_12r, e_stoL_12u, e_ib, e_lb, e_ls, e_ii, e_i2l, e_l2i, e_lcmp, e_idiv, e_irem, e_dup_i, e_dup_r, e_dup2, e_pop, e_ifeq, e_iceq, e_ifne, e_icne, e_iflt, e_iclt, e_ifge, e_icge, e_ifgt, e_icgt, e_ifle, e_icle, e_sw, e_iret, e_nret, e_lret, e_aret, e_vret, e_get, e_puti, e_putl, e_iald, e_zald, e_iast, e_zast, e_lald, e_last, e_alen, e_nald, e_nlen, e_mmax, e_mmin, e_mabs, cont_v, cont_u, e_call0, e_call1, e_call2, e_call3, e_call4, e_call5, e_call6, e_callV0, e_callT0, e_callV1, e_callT1, e_callV2, e_callT2, e_callV3, e_callT3, e_callV4, e_callT4, e_callV5, e_callT5, lin_i, lin_r, lin_l, lin_n, lsz_i, lsz_r, lsz_l, lsz_n, rep_s, rep_0, mEnt_e, v22, u0, u1, bsI, v0, e1, fb_orL, p12, v4, v5, v6, g1, n10, nI_1, if_true, if_false, Bool.false_eq_true, Option.bind_some, List.length_cons, List.length_nil, Nat.reduceAdd, Nat.reduceLeDiff]
        · have c1' : gdS P lic (exS (spS P) k (pn P)) = false := by simpa using c1
          rw [c1'] at g1
          refine ⟨[], _, w4, ⟨rfl, ⟨none, fun c hc => ?_, rfl⟩, ⟨_, d4⟩, hm4⟩, fun B => ?_⟩
          · by_cases hck : c = k
            · subst hck; exact c1'
            · exact d1 c (by omega)
          · simp only [jX5_hedged_59, jX5_hedged_91, jX5_hedged_93, e_push, e_ild_0, e_lld_0, e_ald_0, e_inc_0, e_ild_1, e_lld_1, e_ald_1, e_inc_1, e_ild_2, e_lld_2, e_ald_2, e_inc_2, e_ild_3, e_lld_3, e_ald_3, e_inc_3, e_ild_4, e_lld_4, e_ald_4, e_inc_4, e_ild_5, e_lld_5, e_ald_5, e_inc_5, e_ild_6, e_lld_6, e_ald_6, e_inc_6, e_ild_7, e_lld_7, e_ald_7, e_inc_7, e_ild_8, e_lld_8, e_ald_8, e_inc_8, e_ild_9, e_lld_9, e_ald_9, e_inc_9, e_ild_10, e_lld_10, e_ald_10, e_inc_10, e_ild_11, e_lld_11, e_ald_11, e_inc_11, e_ild_12, e_lld_12, e_ald_12, e_inc_12, e_ist, e_ast, e_lst, e_sto_0, e_sto_1i, e_sto_1r, e_sto_1u, e_sto_1l, e_sto_2i, e_sto_2r, e_sto_2u, e_sto_2l, e_sto_3i, e_sto_3r, e_sto_3u, e_sto_3l, e_sto_4i, e_sto_4r, e_sto_4u, e_sto_4l, e_sto_5i, e_sto_5r, e_sto_5u, e_sto_5l, e_sto_6i, e_sto_6r, e_sto_6u, e_sto_6l, e_sto_7i, e_sto_7r, e_sto_7u, e_sto_7l, e_sto_8i, e_sto_8r, e_sto_8u, e_sto_8l, e_sto_9i, e_sto_9r, e_sto_9u, e_sto_9l, e_sto_10i, e_sto_10r, e_sto_10u, e_sto_10l, e_sto_11i, e_sto_11r, e_sto_11u, e_sto_11l, e_sto_12i, e_sto_12r, e_sto_12u, e_sto_12l, e_stoL_0, e_stoL_1i, e_stoL_1r, e_stoL_1u, e_stoL_2i, e_stoL_2r, e_stoL_2u, e_stoL_3i, e_stoL_3r, e_stoL_3u, e_stoL_4i, e_stoL_4r, e_stoL_4u, e_stoL_5i, e_stoL_5r, e_stoL_5u, e_stoL_6i, e_stoL_6r, e_stoL_6u, e_stoL_7i, e_stoL_7r, e_stoL_7u, e_stoL_8i, e_stoL_8r, e_stoL_8u, e_stoL_9i, e_stoL_9r, e_stoL_9u, e_stoL_10i, e_stoL_10r, e_stoL_10u, e_stoL_11i, e_stoL_11r, e_stoL_11u, e_stoL_12i, e_stoL_12r, e_stoL_12u, e_ib, e_lb, e_ls, e_ii, e_i2l, e_l2i, e_lcmp, e_idiv, e_irem, e_dup_i, e_dup_r, e_dup2, e_pop, e_ifeq, e_iceq, e_ifne, e_icne, e_iflt, e_iclt, e_ifge, e_icge, e_ifgt, e_icgt, e_ifle, e_icle, e_sw, e_iret, e_nret, e_lret, e_aret, e_vret, e_get, e_puti, e_putl, e_iald, e_zald, e_iast, e_zast, e_lald, e_last, e_alen, e_nald, e_nlen, e_mmax, e_mmin, e_mabs, cont_v, cont_u, e_call0, e_call1, e_call2, e_call3, e_call4, e_call5, e_call6, e_callV0, e_callT0, e_callV1, e_callT1, e_callV2, e_callT2, e_callV3, e_callT3, e_callV4, e_callT4, e_callV5, e_callT5, lin_i, lin_r, lin_l, lin_n, lsz_i, lsz_r, lsz_l, lsz_n, rep_s, rep_0, mEnt_e, v22, u0, u1, bsI, v0, e1, fb_orL, p12, v4, v5, v6, g1, nI_1, if_true, if_false, Bool.false_eq_true, Option.bind_some, List.length_cons, List.length_nil, Nat.reduceAdd, Nat.reduceLeDiff]
      | some b =>
        obtain ⟨y1, y2, y3⟩ := d1
        have c0 : ¬ nI b = -1 := whne (by omega)
        have b2 := m_bits (w := w3) (s := b) (by omega)
        have hb6 : fb_ct b.testBit 6 ≤ 6 := fb_ct_le _ _
        have hk6 : fb_ct k.testBit 6 ≤ 6 := fb_ct_le _ _
        by_cases c2 : fb_ct k.testBit 6 < fb_ct b.testBit 6
        · have c2' : ¬ nI (fb_ct b.testBit 6) ≤ nI (fb_ct k.testBit 6) := nI_ge c2 (by omega)
          by_cases c1 : gdS P lic (exS (spS P) k (pn P)) = true
          · rw [c1] at g1
            refine ⟨[], _, w4, ⟨rfl, ⟨some k, ⟨by omega, c1, fun c hc hg => ?_⟩, rfl⟩, ⟨_, d4⟩, hm4⟩, fun B => ?_⟩
            · by_cases hck : c = k
              · subst hck; exact Or.inr ⟨rfl, Nat.le_refl _⟩
              · have := y3 c (by omega) hg
                exact Or.inl (by omega)
            · simp only [jX5_hedged_59, jX5_hedged_91, jX5_hedged_93, e_push, e_ild_0, e_lld_0, e_ald_0, e_inc_0, e_ild_1, e_lld_1, e_ald_1, e_inc_1, e_ild_2, e_lld_2, e_ald_2, e_inc_2, e_ild_3, e_lld_3, e_ald_3, e_inc_3, e_ild_4, e_lld_4, e_ald_4, e_inc_4, e_ild_5, e_lld_5, e_ald_5, e_inc_5, e_ild_6, e_lld_6, e_ald_6, e_inc_6, e_ild_7, e_lld_7, e_ald_7, e_inc_7, e_ild_8, e_lld_8, e_ald_8, e_inc_8, e_ild_9, e_lld_9, e_ald_9, e_inc_9, e_ild_10, e_lld_10, e_ald_10, e_inc_10, e_ild_11, e_lld_11, e_ald_11, e_inc_11, e_ild_12, e_lld_12, e_ald_12, e_inc_12, e_ist, e_ast, e_lst, e_sto_0, e_sto_1i, e_sto_1r, e_sto_1u, e_sto_1l, e_sto_2i, e_sto_2r, e_sto_2u, e_sto_2l, e_sto_3i, e_sto_3r, e_sto_3u, e_sto_3l, e_sto_4i, e_sto_4r, e_sto_4u, e_sto_4l, e_sto_5i, e_sto_5r, e_sto_5u, e_sto_5l, e_sto_6i, e_sto_6r, e_sto_6u, e_sto_6l, e_sto_7i, e_sto_7r, e_sto_7u, e_sto_7l, e_sto_8i, e_sto_8r, e_sto_8u, e_sto_8l, e_sto_9i, e_sto_9r, e_sto_9u, e_sto_9l, e_sto_10i, e_sto_10r, e_sto_10u, e_sto_10l, e_sto_11i, e_sto_11r, e_sto_11u, e_sto_11l, e_sto_12i, e_sto_12r, e_sto_12u, e_sto_12l, e_stoL_0, e_stoL_1i, e_stoL_1r, e_stoL_1u, e_stoL_2i, e_stoL_2r, e_stoL_2u, e_stoL_3i, e_stoL_3r, e_stoL_3u, e_stoL_4i, e_stoL_4r, e_stoL_4u, e_stoL_5i, e_stoL_5r, e_stoL_5u, e_stoL_6i, e_stoL_6r, e_stoL_6u, e_stoL_7i, e_stoL_7r, e_stoL_7u, e_stoL_8i, e_stoL_8r, e_stoL_8u, e_stoL_9i, e_stoL_9r, e_stoL_9u, e_stoL_10i, e_stoL_10r, e_stoL_10u, e_stoL_11i, e_stoL_11r, e_stoL_11u, e_stoL_12i, e_stoL_12r, e_stoL_12u, e_ib, e_lb, e_ls, e_ii, e_i2l, e_l2i, e_lcmp, e_idiv, e_irem, e_dup_i, e_dup_r, e_dup2, e_pop, e_ifeq, e_iceq, e_ifne, e_icne, e_iflt, e_iclt, e_ifge, e_icge, e_ifgt, e_icgt, e_ifle, e_icle, e_sw, e_iret, e_nret, e_lret, e_aret, e_vret, e_get, e_puti, e_putl, e_iald, e_zald, e_iast, e_zast, e_lald, e_last, e_alen, e_nald, e_nlen, e_mmax, e_mmin, e_mabs, cont_v, cont_u, e_call0, e_call1, e_call2, e_call3, e_call4, e_call5, e_call6, e_callV0, e_callT0, e_callV1, e_callT1, e_callV2, e_callT2, e_callV3, e_callT3, e_callV4, e_callT4, e_callV5, e_callT5, lin_i, lin_r, lin_l, lin_n, lsz_i, lsz_r, lsz_l, lsz_n, rep_s, rep_0, mEnt_e, v22, u0, u1, bsI, c0, b1, b2, c2', v0, e1, fb_orL, p12, v4, v5, v6, g1, n10, nI_1, if_true, if_false, Bool.false_eq_true, Option.bind_some, List.length_cons, List.length_nil, Nat.reduceAdd, Nat.reduceLeDiff]
          · have c1' : gdS P lic (exS (spS P) k (pn P)) = false := by simpa using c1
            rw [c1'] at g1
            refine ⟨[], _, w4, ⟨rfl, ⟨some b, ⟨by omega, y2, fun c hc hg => ?_⟩, rfl⟩, ⟨_, d4⟩, hm4⟩, fun B => ?_⟩
            · by_cases hck : c = k
              · subst hck; rw [c1'] at hg; cases hg
              · exact y3 c (by omega) hg
            · simp only [jX5_hedged_59, jX5_hedged_91, jX5_hedged_93, e_push, e_ild_0, e_lld_0, e_ald_0, e_inc_0, e_ild_1, e_lld_1, e_ald_1, e_inc_1, e_ild_2, e_lld_2, e_ald_2, e_inc_2, e_ild_3, e_lld_3, e_ald_3, e_inc_3, e_ild_4, e_lld_4, e_ald_4, e_inc_4, e_ild_5, e_lld_5, e_ald_5, e_inc_5, e_ild_6, e_lld_6, e_ald_6, e_inc_6, e_ild_7, e_lld_7, e_ald_7, e_inc_7, e_ild_8, e_lld_8, e_ald_8, e_inc_8, e_ild_9, e_lld_9, e_ald_9, e_inc_9, e_ild_10, e_lld_10, e_ald_10, e_inc_10, e_ild_11, e_lld_11, e_ald_11, e_inc_11, e_ild_12, e_lld_12, e_ald_12, e_inc_12, e_ist, e_ast, e_lst, e_sto_0, e_sto_1i, e_sto_1r, e_sto_1u, e_sto_1l, e_sto_2i, e_sto_2r, e_sto_2u, e_sto_2l, e_sto_3i, e_sto_3r, e_sto_3u, e_sto_3l, e_sto_4i, e_sto_4r, e_sto_4u, e_sto_4l, e_sto_5i, e_sto_5r, e_sto_5u, e_sto_5l, e_sto_6i, e_sto_6r, e_sto_6u, e_sto_6l, e_sto_7i, e_sto_7r, e_sto_7u, e_sto_7l, e_sto_8i, e_sto_8r, e_sto_8u, e_sto_8l, e_sto_9i, e_sto_9r, e_sto_9u, e_sto_9l, e_sto_10i, e_sto_10r, e_sto_10u, e_sto_10l, e_sto_11i, e_sto_11r, e_sto_11u, e_sto_11l, e_sto_12i, e_sto_12r, e_sto_12u, e_sto_12l, e_stoL_0, e_stoL_1i, e_stoL_1r, e_stoL_1u, e_stoL_2i, e_stoL_2r, e_stoL_2u, e_stoL_3i, e_stoL_3r, e_stoL_3u, e_stoL_4i, e_stoL_4r, e_stoL_4u, e_stoL_5i, e_stoL_5r, e_stoL_5u, e_stoL_6i, e_stoL_6r, e_stoL_6u, e_stoL_7i, e_stoL_7r, e_stoL_7u, e_stoL_8i, e_stoL_8r, e_stoL_8u, e_stoL_9i, e_stoL_9r, e_stoL_9u, e_stoL_10i, e_stoL_10r, e_stoL_10u, e_stoL_11i, e_stoL_11r, e_stoL_11u, e_stoL_12i, e_stoL_12r, e_stoL_12u, e_ib, e_lb, e_ls, e_ii, e_i2l, e_l2i, e_lcmp, e_idiv, e_irem, e_dup_i, e_dup_r, e_dup2, e_pop, e_ifeq, e_iceq, e_ifne, e_icne, e_iflt, e_iclt, e_ifge, e_icge, e_ifgt, e_icgt, e_ifle, e_icle, e_sw, e_iret, e_nret, e_lret, e_aret, e_vret, e_get, e_puti, e_putl, e_iald, e_zald, e_iast, e_zast, e_lald, e_last, e_alen, e_nald, e_nlen, e_mmax, e_mmin, e_mabs, cont_v, cont_u, e_call0, e_call1, e_call2, e_call3, e_call4, e_call5, e_call6, e_callV0, e_callT0, e_callV1, e_callT1, e_callV2, e_callT2, e_callV3, e_callT3, e_callV4, e_callT4, e_callV5, e_callT5, lin_i, lin_r, lin_l, lin_n, lsz_i, lsz_r, lsz_l, lsz_n, rep_s, rep_0, mEnt_e, v22, u0, u1, bsI, c0, b1, b2, c2', v0, e1, fb_orL, p12, v4, v5, v6, g1, nI_1, if_true, if_false, Bool.false_eq_true, Option.bind_some, List.length_cons, List.length_nil, Nat.reduceAdd, Nat.reduceLeDiff]
        · have c2' : nI (fb_ct b.testBit 6) ≤ nI (fb_ct k.testBit 6) := nI_le (by omega) (by omega)
          refine ⟨[], _, w3, ⟨rfl, ⟨some b, ⟨by omega, y2, fun c hc hg => ?_⟩, rfl⟩, ⟨_, d2⟩, m3⟩, fun B => ?_⟩
          · by_cases hck : c = k
            · subst hck; omega
            · exact y3 c (by omega) hg
          · simp only [jX5_hedged_93, e_push, e_ild_0, e_lld_0, e_ald_0, e_inc_0, e_ild_1, e_lld_1, e_ald_1, e_inc_1, e_ild_2, e_lld_2, e_ald_2, e_inc_2, e_ild_3, e_lld_3, e_ald_3, e_inc_3, e_ild_4, e_lld_4, e_ald_4, e_inc_4, e_ild_5, e_lld_5, e_ald_5, e_inc_5, e_ild_6, e_lld_6, e_ald_6, e_inc_6, e_ild_7, e_lld_7, e_ald_7, e_inc_7, e_ild_8, e_lld_8, e_ald_8, e_inc_8, e_ild_9, e_lld_9, e_ald_9, e_inc_9, e_ild_10, e_lld_10, e_ald_10, e_inc_10, e_ild_11, e_lld_11, e_ald_11, e_inc_11, e_ild_12, e_lld_12, e_ald_12, e_inc_12, e_ist, e_ast, e_lst, e_sto_0, e_sto_1i, e_sto_1r, e_sto_1u, e_sto_1l, e_sto_2i, e_sto_2r, e_sto_2u, e_sto_2l, e_sto_3i, e_sto_3r, e_sto_3u, e_sto_3l, e_sto_4i, e_sto_4r, e_sto_4u, e_sto_4l, e_sto_5i, e_sto_5r, e_sto_5u, e_sto_5l, e_sto_6i, e_sto_6r, e_sto_6u, e_sto_6l, e_sto_7i, e_sto_7r, e_sto_7u, e_sto_7l, e_sto_8i, e_sto_8r, e_sto_8u, e_sto_8l, e_sto_9i, e_sto_9r, e_sto_9u, e_sto_9l, e_sto_10i, e_sto_10r, e_sto_10u, e_sto_10l, e_sto_11i, e_sto_11r, e_sto_11u, e_sto_11l, e_sto_12i, e_sto_12r, e_sto_12u, e_sto_12l, e_stoL_0, e_stoL_1i, e_stoL_1r, e_stoL_1u, e_stoL_2i, e_stoL_2r, e_stoL_2u, e_stoL_3i, e_stoL_3r, e_stoL_3u, e_stoL_4i, e_stoL_4r, e_stoL_4u, e_stoL_5i, e_stoL_5r, e_stoL_5u, e_stoL_6i, e_stoL_6r, e_stoL_6u, e_stoL_7i, e_stoL_7r, e_stoL_7u, e_stoL_8i, e_stoL_8r, e_stoL_8u, e_stoL_9i, e_stoL_9r, e_stoL_9u, e_stoL_10i, e_stoL_10r, e_stoL_10u, e_stoL_11i, e_stoL_11r, e_stoL_11u, e_stoL_12i, e_stoL_12r, e_stoL_12u, e_ib, e_lb, e_ls, e_ii, e_i2l, e_l2i, e_lcmp, e_idiv, e_irem, e_dup_i, e_dup_r, e_dup2, e_pop, e_ifeq, e_iceq, e_ifne, e_icne, e_iflt, e_iclt, e_ifge, e_icge, e_ifgt, e_icgt, e_ifle, e_icle, e_sw, e_iret, e_nret, e_lret, e_aret, e_vret, e_get, e_puti, e_putl, e_iald, e_zald, e_iast, e_zast, e_lald, e_last, e_alen, e_nald, e_nlen, e_mmax, e_mmin, e_mabs, cont_v, cont_u, e_call0, e_call1, e_call2, e_call3, e_call4, e_call5, e_call6, e_callV0, e_callT0, e_callV1, e_callT1, e_callV2, e_callT2, e_callV3, e_callT3, e_callV4, e_callT4, e_callV5, e_callT5, lin_i, lin_r, lin_l, lin_n, lsz_i, lsz_r, lsz_l, lsz_n, rep_s, rep_0, mEnt_e, v22, u0, u1, bsI, c0, b1, b2, c2', nI_1, if_true, if_false, Bool.false_eq_true, Option.bind_some, List.length_cons, List.length_nil, Nat.reduceAdd, Nat.reduceLeDiff])
    (by
      rintro st L w3 ⟨rfl, ⟨o, d1, rfl⟩, ⟨H, d2⟩, m3⟩
      have u0 : (1 : Int32) <<< (nI (fb_ct (spS P).testBit (pn P)) &&& 31) = nI (2 ^ fb_ct (spS P).testBit (pn P)) := shl1 _ (by omega)
      have u1 : nI (2 ^ fb_ct (spS P).testBit (pn P)) ≤ nI (2 ^ fb_ct (spS P).testBit (pn P)) := nI_le (Nat.le_refl _) (by omega)
      have v22 : gt 5 22 24 w3 = some (.int (nI (fb_ct (spS P).testBit (pn P)))) := by rw [← a3]; exact gt_of d2.1 rfl
      have sp3 : SpAt w3 (spS P) (pn P) := by
        obtain ⟨g, y1, y2⟩ := a4
        exact ⟨g, y1.kept (m3.2 30 (by decide)), y2⟩
      have p12 : pt 5 12 24 (.long (lN (pH P))) w3 = some (w3.set 24 (mdc P (nI ln) (nI sc) J1)) := pt_of d2.1 (Nat.le_of_ble_eq_true rfl)
      have m4 : Sm [24] w3 (w3.set 24 (mdc P (nI ln) (nI sc) J1)) := Sm.set (by simp)
      have d4 : MdAt (w3.set 24 (mdc P (nI ln) (nI sc) J1)) P (nI ln) (nI sc) J1 := ⟨set_at d2.1, d2.2.kept (m4.2 29 (by decide))⟩
      have hm4 := m3.tr m4
      generalize w3.set 24 (mdc P (nI ln) (nI sc) J1) = w4 at *
      have v6 : rc 5 24 w4 = true := rc_of d4.1
      have sp4 : SpAt w4 (spS P) (pn P) := by
        obtain ⟨g, y1, y2⟩ := sp3
        exact ⟨g, y1.kept (m4.2 30 (by decide)), y2⟩
      refine ⟨_, ⟨o, w4, d1, rfl, d4, hm4⟩, fun B => ?_⟩
      cases o with
      | none =>
        simp only [jX5_hedged_135, e_push, e_ild_0, e_lld_0, e_ald_0, e_inc_0, e_ild_1, e_lld_1, e_ald_1, e_inc_1, e_ild_2, e_lld_2, e_ald_2, e_inc_2, e_ild_3, e_lld_3, e_ald_3, e_inc_3, e_ild_4, e_lld_4, e_ald_4, e_inc_4, e_ild_5, e_lld_5, e_ald_5, e_inc_5, e_ild_6, e_lld_6, e_ald_6, e_inc_6, e_ild_7, e_lld_7, e_ald_7, e_inc_7, e_ild_8, e_lld_8, e_ald_8, e_inc_8, e_ild_9, e_lld_9, e_ald_9, e_inc_9, e_ild_10, e_lld_10, e_ald_10, e_inc_10, e_ild_11, e_lld_11, e_ald_11, e_inc_11, e_ild_12, e_lld_12, e_ald_12, e_inc_12, e_ist, e_ast, e_lst, e_sto_0, e_sto_1i, e_sto_1r, e_sto_1u, e_sto_1l, e_sto_2i, e_sto_2r, e_sto_2u, e_sto_2l, e_sto_3i, e_sto_3r, e_sto_3u, e_sto_3l, e_sto_4i, e_sto_4r, e_sto_4u, e_sto_4l, e_sto_5i, e_sto_5r, e_sto_5u, e_sto_5l, e_sto_6i, e_sto_6r, e_sto_6u, e_sto_6l, e_sto_7i, e_sto_7r, e_sto_7u, e_sto_7l, e_sto_8i, e_sto_8r, e_sto_8u, e_sto_8l, e_sto_9i, e_sto_9r, e_sto_9u, e_sto_9l, e_sto_10i, e_sto_10r, e_sto_10u, e_sto_10l, e_sto_11i, e_sto_11r, e_sto_11u, e_sto_11l, e_sto_12i, e_sto_12r, e_sto_12u, e_sto_12l, e_stoL_0, e_stoL_1i, e_stoL_1r, e_stoL_1u, e_stoL_2i, e_stoL_2r, e_stoL_2u, e_stoL_3i, e_stoL_3r, e_stoL_3u, e_stoL_4i, e_stoL_4r, e_stoL_4u, e_stoL_5i, e_stoL_5r, e_stoL_5u, e_stoL_6i, e_stoL_6r, e_stoL_6u, e_stoL_7i, e_stoL_7r, e_stoL_7u, e_stoL_8i, e_stoL_8r, e_stoL_8u, e_stoL_9i, e_stoL_9r, e_stoL_9u, e_stoL_10i, e_stoL_10r, e_stoL_10u, e_stoL_11i, e_stoL_11r, e_stoL_11u, e_stoL_12i, e_stoL_12r, e_stoL_12u, e_ib, e_lb, e_ls, e_ii, e_i2l, e_l2i, e_lcmp, e_idiv, e_irem, e_dup_i, e_dup_r, e_dup2, e_pop, e_ifeq, e_iceq, e_ifne, e_icne, e_iflt, e_iclt, e_ifge, e_icge, e_ifgt, e_icgt, e_ifle, e_icle, e_sw, e_iret, e_nret, e_lret, e_aret, e_vret, e_get, e_puti, e_putl, e_iald, e_zald, e_iast, e_zast, e_lald, e_last, e_alen, e_nald, e_nlen, e_mmax, e_mmin, e_mabs, cont_v, cont_u, e_call0, e_call1, e_call2, e_call3, e_call4, e_call5, e_call6, e_callV0, e_callT0, e_callV1, e_callT1, e_callV2, e_callT2, e_callV3, e_callT3, e_callV4, e_callT4, e_callV5, e_callT5, lin_i, lin_r, lin_l, lin_n, lsz_i, lsz_r, lsz_l, lsz_n, rep_s, rep_0, mEnt_e, v22, u0, u1, p12, bsI, hgM, if_true, if_false, Bool.false_eq_true, Option.bind_some, List.length_cons, List.length_nil, Nat.reduceAdd, Nat.reduceLeDiff]
      | some b =>
        have y1 := d1.1
        have c0 : ¬ nI b = -1 := whne (by omega)
        have b2 := m_bits (w := w4) (s := b) (by omega)
        have e1 := m_placesOfS d4 hn a3 h6 sp4 (s := b) (by omega)
        rcases hx with rfl | rfl
        · simp only [jX5_hedged_135, e_push, e_ild_0, e_lld_0, e_ald_0, e_inc_0, e_ild_1, e_lld_1, e_ald_1, e_inc_1, e_ild_2, e_lld_2, e_ald_2, e_inc_2, e_ild_3, e_lld_3, e_ald_3, e_inc_3, e_ild_4, e_lld_4, e_ald_4, e_inc_4, e_ild_5, e_lld_5, e_ald_5, e_inc_5, e_ild_6, e_lld_6, e_ald_6, e_inc_6, e_ild_7, e_lld_7, e_ald_7, e_inc_7, e_ild_8, e_lld_8, e_ald_8, e_inc_8, e_ild_9, e_lld_9, e_ald_9, e_inc_9, e_ild_10, e_lld_10, e_ald_10, e_inc_10, e_ild_11, e_lld_11, e_ald_11, e_inc_11, e_ild_12, e_lld_12, e_ald_12, e_inc_12, e_ist, e_ast, e_lst, e_sto_0, e_sto_1i, e_sto_1r, e_sto_1u, e_sto_1l, e_sto_2i, e_sto_2r, e_sto_2u, e_sto_2l, e_sto_3i, e_sto_3r, e_sto_3u, e_sto_3l, e_sto_4i, e_sto_4r, e_sto_4u, e_sto_4l, e_sto_5i, e_sto_5r, e_sto_5u, e_sto_5l, e_sto_6i, e_sto_6r, e_sto_6u, e_sto_6l, e_sto_7i, e_sto_7r, e_sto_7u, e_sto_7l, e_sto_8i, e_sto_8r, e_sto_8u, e_sto_8l, e_sto_9i, e_sto_9r, e_sto_9u, e_sto_9l, e_sto_10i, e_sto_10r, e_sto_10u, e_sto_10l, e_sto_11i, e_sto_11r, e_sto_11u, e_sto_11l, e_sto_12i, e_sto_12r, e_sto_12u, e_sto_12l, e_stoL_0, e_stoL_1i, e_stoL_1r, e_stoL_1u, e_stoL_2i, e_stoL_2r, e_stoL_2u, e_stoL_3i, e_stoL_3r, e_stoL_3u, e_stoL_4i, e_stoL_4r, e_stoL_4u, e_stoL_5i, e_stoL_5r, e_stoL_5u, e_stoL_6i, e_stoL_6r, e_stoL_6u, e_stoL_7i, e_stoL_7r, e_stoL_7u, e_stoL_8i, e_stoL_8r, e_stoL_8u, e_stoL_9i, e_stoL_9r, e_stoL_9u, e_stoL_10i, e_stoL_10r, e_stoL_10u, e_stoL_11i, e_stoL_11r, e_stoL_11u, e_stoL_12i, e_stoL_12r, e_stoL_12u, e_ib, e_lb, e_ls, e_ii, e_i2l, e_l2i, e_lcmp, e_idiv, e_irem, e_dup_i, e_dup_r, e_dup2, e_pop, e_ifeq, e_iceq, e_ifne, e_icne, e_iflt, e_iclt, e_ifge, e_icge, e_ifgt, e_icgt, e_ifle, e_icle, e_sw, e_iret, e_nret, e_lret, e_aret, e_vret, e_get, e_puti, e_putl, e_iald, e_zald, e_iast, e_zast, e_lald, e_last, e_alen, e_nald, e_nlen, e_mmax, e_mmin, e_mabs, cont_v, cont_u, e_call0, e_call1, e_call2, e_call3, e_call4, e_call5, e_call6, e_callV0, e_callT0, e_callV1, e_callT1, e_callV2, e_callT2, e_callV3, e_callT3, e_callV4, e_callT4, e_callV5, e_callT5, lin_i, lin_r, lin_l, lin_n, lsz_i, lsz_r, lsz_l, lsz_n, rep_s, rep_0, mEnt_e, v22, u0, u1, p12, bsI, c0, b2, hgM, if_true, if_false, Bool.false_eq_true, Option.bind_some, List.length_cons, List.length_nil, Nat.reduceAdd, Nat.reduceLeDiff]
        · simp only [jX5_hedged_135, e_push, e_ild_0, e_lld_0, e_ald_0, e_inc_0, e_ild_1, e_lld_1, e_ald_1, e_inc_1, e_ild_2, e_lld_2, e_ald_2, e_inc_2, e_ild_3, e_lld_3, e_ald_3, e_inc_3, e_ild_4, e_lld_4, e_ald_4, e_inc_4, e_ild_5, e_lld_5, e_ald_5, e_inc_5, e_ild_6, e_lld_6, e_ald_6, e_inc_6, e_ild_7, e_lld_7, e_ald_7, e_inc_7, e_ild_8, e_lld_8, e_ald_8, e_inc_8, e_ild_9, e_lld_9, e_ald_9, e_inc_9, e_ild_10, e_lld_10, e_ald_10, e_inc_10, e_ild_11, e_lld_11, e_ald_11, e_inc_11, e_ild_12, e_lld_12, e_ald_12, e_inc_12, e_ist, e_ast, e_lst, e_sto_0, e_sto_1i, e_sto_1r, e_sto_1u, e_sto_1l, e_sto_2i, e_sto_2r, e_sto_2u, e_sto_2l, e_sto_3i, e_sto_3r, e_sto_3u, e_sto_3l, e_sto_4i, e_sto_4r, e_sto_4u, e_sto_4l, e_sto_5i, e_sto_5r, e_sto_5u, e_sto_5l, e_sto_6i, e_sto_6r, e_sto_6u, e_sto_6l, e_sto_7i, e_sto_7r, e_sto_7u, e_sto_7l, e_sto_8i, e_sto_8r, e_sto_8u, e_sto_8l, e_sto_9i, e_sto_9r, e_sto_9u, e_sto_9l, e_sto_10i, e_sto_10r, e_sto_10u, e_sto_10l, e_sto_11i, e_sto_11r, e_sto_11u, e_sto_11l, e_sto_12i, e_sto_12r, e_sto_12u, e_sto_12l, e_stoL_0, e_stoL_1i, e_stoL_1r, e_stoL_1u, e_stoL_2i, e_stoL_2r, e_stoL_2u, e_stoL_3i, e_stoL_3r, e_stoL_3u, e_stoL_4i, e_stoL_4r, e_stoL_4u, e_stoL_5i, e_stoL_5r, e_stoL_5u, e_stoL_6i, e_stoL_6r, e_stoL_6u, e_stoL_7i, e_stoL_7r, e_stoL_7u, e_stoL_8i, e_stoL_8r, e_stoL_8u, e_stoL_9i, e_stoL_9r, e_stoL_9u, e_stoL_10i, e_stoL_10r, e_stoL_10u, e_stoL_11i, e_stoL_11r, e_stoL_11u, e_stoL_12i, e_stoL_12r, e_stoL_12u, e_ib, e_lb, e_ls, e_ii, e_i2l, e_l2i, e_lcmp, e_idiv, e_irem, e_dup_i, e_dup_r, e_dup2, e_pop, e_ifeq, e_iceq, e_ifne, e_icne, e_iflt, e_iclt, e_ifge, e_icge, e_ifgt, e_icgt, e_ifle, e_icle, e_sw, e_iret, e_nret, e_lret, e_aret, e_vret, e_get, e_puti, e_putl, e_iald, e_zald, e_iast, e_zast, e_lald, e_last, e_alen, e_nald, e_nlen, e_mmax, e_mmin, e_mabs, cont_v, cont_u, e_call0, e_call1, e_call2, e_call3, e_call4, e_call5, e_call6, e_callV0, e_callT0, e_callV1, e_callT1, e_callV2, e_callT2, e_callV3, e_callT3, e_callV4, e_callT4, e_callV5, e_callT5, lin_i, lin_r, lin_l, lin_n, lsz_i, lsz_r, lsz_l, lsz_n, rep_s, rep_0, mEnt_e, v22, u0, u1, p12, bsI, c0, n10, v6, e1, hgM, if_true, if_false, Bool.false_eq_true, Option.bind_some, List.length_cons, List.length_nil, Nat.reduceAdd, Nat.reduceLeDiff]) 1000 (by omega)
  refine ⟨o.map (fun c => exS (spS P) c (pn P)), w', BM_best hP z2, ?_, ⟨_, z4⟩, ?_, a5.tr (z5.mono (by decide))⟩
  · have z6 := z1.trans z3
    have z7 : jX5_hedged_29 [] [.ref 24, .int x, .long (lN (pH P)), .retAddr 0, .int (-1), .int 0] w1 = _ := z6
    have z8 : hgS x (o.map (fun c => exS (spS P) c (pn P))) = hgM P x o := by
      clear z3 z6 z7
      cases o with
      | none => rfl
      | some b =>
        show (if x = 0 then (nI (cnt (exS (spS P) b (pn P)))).toInt64 else lN (exS (spS P) b (pn P))) = (if x = 0 then (nI (fb_ct b.testBit 6)).toInt64 else lN (exS (spS P) b (pn P)))
        rw [exS_ct _ _ _ (by omega), ct_6 z2.1 h6]
    rw [z8]
    simp only [FX5_hedged, jX5_hedged, e_push, e_ild_0, e_lld_0, e_ald_0, e_inc_0, e_ild_1, e_lld_1, e_ald_1, e_inc_1, e_ild_2, e_lld_2, e_ald_2, e_inc_2, e_ild_3, e_lld_3, e_ald_3, e_inc_3, e_ild_4, e_lld_4, e_ald_4, e_inc_4, e_ild_5, e_lld_5, e_ald_5, e_inc_5, e_ild_6, e_lld_6, e_ald_6, e_inc_6, e_ild_7, e_lld_7, e_ald_7, e_inc_7, e_ild_8, e_lld_8, e_ald_8, e_inc_8, e_ild_9, e_lld_9, e_ald_9, e_inc_9, e_ild_10, e_lld_10, e_ald_10, e_inc_10, e_ild_11, e_lld_11, e_ald_11, e_inc_11, e_ild_12, e_lld_12, e_ald_12, e_inc_12, e_ist, e_ast, e_lst, e_sto_0, e_sto_1i, e_sto_1r, e_sto_1u, e_sto_1l, e_sto_2i, e_sto_2r, e_sto_2u, e_sto_2l, e_sto_3i, e_sto_3r, e_sto_3u, e_sto_3l, e_sto_4i, e_sto_4r, e_sto_4u, e_sto_4l, e_sto_5i, e_sto_5r, e_sto_5u, e_sto_5l, e_sto_6i, e_sto_6r, e_sto_6u, e_sto_6l, e_sto_7i, e_sto_7r, e_sto_7u, e_sto_7l, e_sto_8i, e_sto_8r, e_sto_8u, e_sto_8l, e_sto_9i, e_sto_9r, e_sto_9u, e_sto_9l, e_sto_10i, e_sto_10r, e_sto_10u, e_sto_10l, e_sto_11i, e_sto_11r, e_sto_11u, e_sto_11l, e_sto_12i, e_sto_12r, e_sto_12u, e_sto_12l, e_stoL_0, e_stoL_1i, e_stoL_1r, e_stoL_1u, e_stoL_2i, e_stoL_2r, e_stoL_2u, e_stoL_3i, e_stoL_3r, e_stoL_3u, e_stoL_4i, e_stoL_4r, e_stoL_4u, e_stoL_5i, e_stoL_5r, e_stoL_5u, e_stoL_6i, e_stoL_6r, e_stoL_6u, e_stoL_7i, e_stoL_7r, e_stoL_7u, e_stoL_8i, e_stoL_8r, e_stoL_8u, e_stoL_9i, e_stoL_9r, e_stoL_9u, e_stoL_10i, e_stoL_10r, e_stoL_10u, e_stoL_11i, e_stoL_11r, e_stoL_11u, e_stoL_12i, e_stoL_12r, e_stoL_12u, e_ib, e_lb, e_ls, e_ii, e_i2l, e_l2i, e_lcmp, e_idiv, e_irem, e_dup_i, e_dup_r, e_dup2, e_pop, e_ifeq, e_iceq, e_ifne, e_icne, e_iflt, e_iclt, e_ifge, e_icge, e_ifgt, e_icgt, e_ifle, e_icle, e_sw, e_iret, e_nret, e_lret, e_aret, e_vret, e_get, e_puti, e_putl, e_iald, e_zald, e_iast, e_zast, e_lald, e_last, e_alen, e_nald, e_nlen, e_mmax, e_mmin, e_mabs, cont_v, cont_u, e_call0, e_call1, e_call2, e_call3, e_call4, e_call5, e_call6, e_callV0, e_callT0, e_callV1, e_callT1, e_callV2, e_callT2, e_callV3, e_callT3, e_callV4, e_callT4, e_callV5, e_callT5, lin_i, lin_r, lin_l, lin_n, lsz_i, lsz_r, lsz_l, lsz_n, rep_s, rep_0, mEnt_e, ei, n10, r5, a1, g12, z7, if_true, if_false, Bool.false_eq_true, Option.bind_some, List.length_cons, List.length_nil, Nat.reduceAdd, Nat.reduceLeDiff]
  · obtain ⟨g, y1, y2⟩ := a4
    exact ⟨g, y1.kept (z5.2 30 (by decide))⟩
theorem t_hedged (h : GI w P lic wh hr ln tb sc sp sh sg kp) (x : Int32) : ∃ r w1 w2, FX4_hedged [.ref 0, .int x] w = some (some (.long r), w1) ∧ (∃ o, w1[24]? = some (.inr (5, o))) ∧ FX5_hedged [.ref 24, .int x] w1 = some (some (.long r), w2) ∧ GIx w2 := by
  obtain ⟨⟨hlen, hO, hT, hR, ⟨hPk, hHr⟩, hK, hSn⟩, ⟨⟨J, hM⟩, ⟨⟨fr, hrow, hf0, hf1, hf2, hfk⟩, fk, hkept, hfk2⟩, hMT, hMJ, hMS⟩, hOK⟩ := id h
  obtain ⟨⟨hP, hLd⟩, hlic, hwh, hhr, hln, htb, hsc, hsn, hkp⟩ := hOK
  have hn := pn_le hP
  have hN := hP.2.2.2.2.1
  have hlic6 : lic < 64 := Nat.lt_of_lt_of_le hlic (two6 hN)
  have r4 : rc 4 0 w = true := rc_of hO
  have r1 : rc 1 5 w = true := rc_of hPk.1
  have r0 : rc 0 7 w = true := by obtain ⟨fs, bs, ms, ⟨z, -⟩, -⟩ := hHr; exact rc_of z
  have r5 : rc 5 24 w = true := rc_of hM.1
  have q0 : gt 4 0 0 w = some (.ref 1) := gt_of hO rfl
  have q2 : gt 4 2 0 w = some (.ref 5) := gt_of hO rfl
  have q3 : gt 4 3 0 w = some (.ref 7) := gt_of hO rfl
  have q6 : gt 4 6 0 w = some (.int (nI lic)) := gt_of hO rfl
  have q7 : gt 4 7 0 w = some (.int wh) := gt_of hO rfl
  have q8 : gt 4 8 0 w = some (.int (nI hr)) := gt_of hO rfl
  have q15 : gt 4 15 0 w = some (.int (nI sc)) := gt_of hO rfl
  have g0 : gt 5 0 24 w = some (.ref 25) := gt_of hM.1 rfl
  have l0 : ial 0 25 0 w = some (nI lic) := by
    have z := hrow.get (i := 0) (m := 0) rfl (by decide) (by decide)
    rw [hf0] at z; exact z
  have l1 : ial 0 25 1 w = some wh := by
    have z := hrow.get (i := 1) (m := 1) rfl (by decide) (by decide)
    rw [hf1] at z; exact z
  have l2 : ial 0 25 2 w = some (nI hr) := by
    have z := hrow.get (i := 2) (m := 2) rfl (by decide) (by decide)
    rw [hf2] at z; exact z
  have n10 : ¬ (1 : Int32) = 0 := by decide
  obtain ⟨hX, hMd, hS⟩ := id h
  by_cases hx : x = 0 ∨ x = 1
  · obtain ⟨o, w1, a1, a2, a3, a4⟩ := x_hedged h hx
    have hMk := hMd.kept a4 (by intro j h1 h2; simp; omega)
    obtain ⟨⟨J1, hM1⟩, hMR1, i1, i2, i3⟩ := id hMk
    obtain ⟨⟨f, e1, e2, -⟩, -⟩ := id hMR1
    obtain ⟨j1, f30, j2⟩ := id i2
    obtain ⟨o', w2, b1, b2, b3, b4, b5⟩ := m_hedged hM1 hP hlic6 j2 e1 e2 hx
    have hoo := a1.one b1
    subst hoo
    refine ⟨_, w1, w2, a2, ⟨_, hM1.1⟩, b2, GI.join (T := [24, 30]) (P' := P) (lic' := lic) (wh' := wh) (hr' := hr) (ln' := ln) (tb' := tb) (sc' := sc) (sp' := sp) (sh' := sh) (sg' := sg) (kp' := kp) ⟨a4.1.trans hlen, hX.2.1.kept a4 (by decide), hX.2.2.1.kept a4 (by decide) (by decide), a3, hX.2.2.2.2.1.kept a4 (by decide), hX.2.2.2.2.2.1.kept a4 (by decide), hX.2.2.2.2.2.2.kept a4 (by decide)⟩ ⟨b3, hMR1.kept b5 (by decide) (by decide), i1.kept b5 (by decide), ⟨?_, b4⟩, i3.kept b5 (by decide)⟩ hS b5 (by intro j hj; simp; omega)⟩
    obtain ⟨f28, j3⟩ := j1
    exact ⟨f28, j3.kept (b5.2 28 (by decide))⟩
  · have ei := s_isBit (w := w) x
    rw [if_neg hx] at ei
    have ei' := m01 (w := w) x
    rw [if_neg hx] at ei'
    refine ⟨-3, w, w, ?_, ⟨_, hM.1⟩, ?_, _, _, _, _, _, _, _, _, _, _, _, h⟩
    · simp only [FX4_hedged, jX4_hedged, e_push, e_ild_0, e_lld_0, e_ald_0, e_inc_0, e_ild_1, e_lld_1, e_ald_1, e_inc_1, e_ild_2, e_lld_2, e_ald_2, e_inc_2, e_ild_3, e_lld_3, e_ald_3, e_inc_3, e_ild_4, e_lld_4, e_ald_4, e_inc_4, e_ild_5, e_lld_5, e_ald_5, e_inc_5, e_ild_6, e_lld_6, e_ald_6, e_inc_6, e_ild_7, e_lld_7, e_ald_7, e_inc_7, e_ild_8, e_lld_8, e_ald_8, e_inc_8, e_ild_9, e_lld_9, e_ald_9, e_inc_9, e_ild_10, e_lld_10, e_ald_10, e_inc_10, e_ild_11, e_lld_11, e_ald_11, e_inc_11, e_ild_12, e_lld_12, e_ald_12, e_inc_12, e_ist, e_ast, e_lst, e_sto_0, e_sto_1i, e_sto_1r, e_sto_1u, e_sto_1l, e_sto_2i, e_sto_2r, e_sto_2u, e_sto_2l, e_sto_3i, e_sto_3r, e_sto_3u, e_sto_3l, e_sto_4i, e_sto_4r, e_sto_4u, e_sto_4l, e_sto_5i, e_sto_5r, e_sto_5u, e_sto_5l, e_sto_6i, e_sto_6r, e_sto_6u, e_sto_6l, e_sto_7i, e_sto_7r, e_sto_7u, e_sto_7l, e_sto_8i, e_sto_8r, e_sto_8u, e_sto_8l, e_sto_9i, e_sto_9r, e_sto_9u, e_sto_9l, e_sto_10i, e_sto_10r, e_sto_10u, e_sto_10l, e_sto_11i, e_sto_11r, e_sto_11u, e_sto_11l, e_sto_12i, e_sto_12r, e_sto_12u, e_sto_12l, e_stoL_0, e_stoL_1i, e_stoL_1r, e_stoL_1u, e_stoL_2i, e_stoL_2r, e_stoL_2u, e_stoL_3i, e_stoL_3r, e_stoL_3u, e_stoL_4i, e_stoL_4r, e_stoL_4u, e_stoL_5i, e_stoL_5r, e_stoL_5u, e_stoL_6i, e_stoL_6r, e_stoL_6u, e_stoL_7i, e_stoL_7r, e_stoL_7u, e_stoL_8i, e_stoL_8r, e_stoL_8u, e_stoL_9i, e_stoL_9r, e_stoL_9u, e_stoL_10i, e_stoL_10r, e_stoL_10u, e_stoL_11i, e_stoL_11r, e_stoL_11u, e_stoL_12i, e_stoL_12r, e_stoL_12u, e_ib, e_lb, e_ls, e_ii, e_i2l, e_l2i, e_lcmp, e_idiv, e_irem, e_dup_i, e_dup_r, e_dup2, e_pop, e_ifeq, e_iceq, e_ifne, e_icne, e_iflt, e_iclt, e_ifge, e_icge, e_ifgt, e_icgt, e_ifle, e_icle, e_sw, e_iret, e_nret, e_lret, e_aret, e_vret, e_get, e_puti, e_putl, e_iald, e_zald, e_iast, e_zast, e_lald, e_last, e_alen, e_nald, e_nlen, e_mmax, e_mmin, e_mabs, cont_v, cont_u, e_call0, e_call1, e_call2, e_call3, e_call4, e_call5, e_call6, e_callV0, e_callT0, e_callV1, e_callT1, e_callV2, e_callT2, e_callV3, e_callT3, e_callV4, e_callT4, e_callV5, e_callT5, lin_i, lin_r, lin_l, lin_n, lsz_i, lsz_r, lsz_l, lsz_n, rep_s, rep_0, mEnt_e, ei, if_true, if_false, Bool.false_eq_true, Option.bind_some, List.length_cons, List.length_nil, Nat.reduceAdd, Nat.reduceLeDiff]
    · simp only [FX5_hedged, jX5_hedged, e_push, e_ild_0, e_lld_0, e_ald_0, e_inc_0, e_ild_1, e_lld_1, e_ald_1, e_inc_1, e_ild_2, e_lld_2, e_ald_2, e_inc_2, e_ild_3, e_lld_3, e_ald_3, e_inc_3, e_ild_4, e_lld_4, e_ald_4, e_inc_4, e_ild_5, e_lld_5, e_ald_5, e_inc_5, e_ild_6, e_lld_6, e_ald_6, e_inc_6, e_ild_7, e_lld_7, e_ald_7, e_inc_7, e_ild_8, e_lld_8, e_ald_8, e_inc_8, e_ild_9, e_lld_9, e_ald_9, e_inc_9, e_ild_10, e_lld_10, e_ald_10, e_inc_10, e_ild_11, e_lld_11, e_ald_11, e_inc_11, e_ild_12, e_lld_12, e_ald_12, e_inc_12, e_ist, e_ast, e_lst, e_sto_0, e_sto_1i, e_sto_1r, e_sto_1u, e_sto_1l, e_sto_2i, e_sto_2r, e_sto_2u, e_sto_2l, e_sto_3i, e_sto_3r, e_sto_3u, e_sto_3l, e_sto_4i, e_sto_4r, e_sto_4u, e_sto_4l, e_sto_5i, e_sto_5r, e_sto_5u, e_sto_5l, e_sto_6i, e_sto_6r, e_sto_6u, e_sto_6l, e_sto_7i, e_sto_7r, e_sto_7u, e_sto_7l, e_sto_8i, e_sto_8r, e_sto_8u, e_sto_8l, e_sto_9i, e_sto_9r, e_sto_9u, e_sto_9l, e_sto_10i, e_sto_10r, e_sto_10u, e_sto_10l, e_sto_11i, e_sto_11r, e_sto_11u, e_sto_11l, e_sto_12i, e_sto_12r, e_sto_12u, e_sto_12l, e_stoL_0, e_stoL_1i, e_stoL_1r, e_stoL_1u, e_stoL_2i, e_stoL_2r, e_stoL_2u, e_stoL_3i, e_stoL_3r, e_stoL_3u, e_stoL_4i, e_stoL_4r, e_stoL_4u, e_stoL_5i, e_stoL_5r, e_stoL_5u, e_stoL_6i, e_stoL_6r, e_stoL_6u, e_stoL_7i, e_stoL_7r, e_stoL_7u, e_stoL_8i, e_stoL_8r, e_stoL_8u, e_stoL_9i, e_stoL_9r, e_stoL_9u, e_stoL_10i, e_stoL_10r, e_stoL_10u, e_stoL_11i, e_stoL_11r, e_stoL_11u, e_stoL_12i, e_stoL_12r, e_stoL_12u, e_ib, e_lb, e_ls, e_ii, e_i2l, e_l2i, e_lcmp, e_idiv, e_irem, e_dup_i, e_dup_r, e_dup2, e_pop, e_ifeq, e_iceq, e_ifne, e_icne, e_iflt, e_iclt, e_ifge, e_icge, e_ifgt, e_icgt, e_ifle, e_icle, e_sw, e_iret, e_nret, e_lret, e_aret, e_vret, e_get, e_puti, e_putl, e_iald, e_zald, e_iast, e_zast, e_lald, e_last, e_alen, e_nald, e_nlen, e_mmax, e_mmin, e_mabs, cont_v, cont_u, e_call0, e_call1, e_call2, e_call3, e_call4, e_call5, e_call6, e_callV0, e_callT0, e_callV1, e_callT1, e_callV2, e_callT2, e_callV3, e_callT3, e_callV4, e_callT4, e_callV5, e_callT5, lin_i, lin_r, lin_l, lin_n, lsz_i, lsz_r, lsz_l, lsz_n, rep_s, rep_0, mEnt_e, ei', if_true, if_false, Bool.false_eq_true, Option.bind_some, List.length_cons, List.length_nil, Nat.reduceAdd, Nat.reduceLeDiff]
end API11
