/-! fault, park: the class -/
theorem rdS_le {b : Nat → Nat} {ln : Nat} {P : Pk} {k e : Nat} (he : e ≤ ln) : ∀ {i s : Nat}, rdS b ln P k e i = .inl s → s ≤ ln
  | 0, s, h => nomatch h
  | i + 1, s, h => by
    cases hz : rdS b ln P k e i with
    | inl s' =>
      have := rdS_inl hz 1
      rw [this] at h
      have e1 := Sum.inl.inj h
      rw [← e1]; exact rdS_le he hz
    | inr q =>
      rw [rdS_step hz] at h
      by_cases hc : cnS P k i (upd q.1 i (nmS b ln (skS b ln q.2) (enS b ln (skS b ln q.2)))) (nmS b ln (skS b ln q.2) (enS b ln (skS b ln q.2))) = true
      · rw [if_pos hc] at h; nomatch h
      · rw [if_neg hc] at h
        have e1 := Sum.inl.inj h
        rw [← e1]; exact (skS_le (rdS_pos he hz)).2
theorem line_le {b : Nat → Nat} {ln : Nat} {P : Pk} {e s : Nat} (he : e ≤ ln) (h : lineS b ln P e = .inl s) : s ≤ ln := by
  have hsk := (skS_le (b := b) he).2
  rcases lnS_cases b (skS b ln e) (enS b ln (skS b ln e)) with ⟨-, h0⟩ | ⟨k0, hk0, hw, -⟩
  · rw [line_no h0] at h
    have e1 := Sum.inl.inj h
    rw [← e1]; exact hsk
  · rw [line_yes hk0 hw] at h
    by_cases hb : (bdB k0 && decide (6 ≤ pN P)) = true
    · rw [if_pos hb] at h
      have e1 := Sum.inl.inj h
      rw [← e1]; exact hsk
    · rw [if_neg hb] at h
      cases hq : rdS b ln P k0 (enS b ln (skS b ln e)) (nNS k0) with
      | inl s' =>
        rw [hq] at h
        have e1 := Sum.inl.inj h
        rw [← e1]; exact rdS_le (enS_le hsk).2 hq
      | inr q => rw [hq] at h; nomatch h
theorem al_0 {b : Nat → Nat} {ln e : Nat} {P : Pk} : alS b ln 0 P e = .inl 0 := rfl
theorem al_le {b : Nat → Nat} {ln : Nat} (f : Nat) : ∀ (P : Pk) (e s : Nat), e ≤ ln → alS b ln f P e = .inl s → s ≤ ln := by
  induction f with
  | zero =>
    intro P e s he h
    rw [al_0] at h
    have e1 := Sum.inl.inj h
    omega
  | succ f ih =>
    intro P e s he h
    cases hl : lineS b ln P e with
    | inl s' =>
      rw [al_inl hl] at h
      have e1 := Sum.inl.inj h
      rw [← e1]; exact line_le he hl
    | inr q =>
      obtain ⟨k, n, e2⟩ := q
      have he2 := (line_ok he hl).2
      have hsk := (skS_le (b := b) he2).2
      rw [al_inr hl] at h
      have h' : (if skS b ln e2 < ln then (if isW b 12 (skS b ln e2) (enS b ln (skS b ln e2)) then (if f = 0 then .inl (skS b ln e2) else alS b ln f (doS P k n) (enS b ln (skS b ln e2))) else .inl (skS b ln e2)) else .inr (doS P k n, f)) = Sum.inl s := h
      clear h
      by_cases c1 : skS b ln e2 < ln
      · rw [if_pos c1] at h'
        by_cases c2 : isW b 12 (skS b ln e2) (enS b ln (skS b ln e2)) = true
        · rw [if_pos c2] at h'
          by_cases c3 : f = 0
          · rw [if_pos c3] at h'
            have e1 := Sum.inl.inj h'
            rw [← e1]; exact hsk
          · rw [if_neg c3] at h'
            exact ih _ _ _ (enS_le hsk).2 h'
        · rw [if_neg c2] at h'
          have e1 := Sum.inl.inj h'
          rw [← e1]; exact hsk
      · rw [if_neg c1] at h'
        nomatch h'
def bN (tb : Nat → Int32) (k : Nat) : Nat := (tb k).toNatClampNeg
theorem bN_ok {ln : Nat} {tb : Nat → Int32} (h : ∀ k, k < ln → ∃ c, c < 256 ∧ tb k = nI c) {k : Nat} (hk : k < ln) : bN tb k < 256 ∧ tb k = nI (bN tb k) := by
  obtain ⟨c, h1, h2⟩ := h k hk
  have : bN tb k = c := by rw [bN, h2, nI_clamp (by omega)]
  rw [this]; exact ⟨h1, h2⟩
section PARK5
variable {w : List va_E} {P : Pk} {lic : Nat} {wh : Int32} {hr ln : Nat} {tb : Nat → Int32} {sc : Nat} {sp sh sg : Nat → Int32} {kp : Kp}
theorem x_readLines (h : GI w P lic wh hr ln tb sc sp sh sg kp) : ∃ r w', FX2_readLines [.ref 3, .ref 1, .ref 5, .ref 11] w = some (some (.int r), w') ∧ XR w' ∧ XT w' ln tb ∧ Sm [1, 3, 4, 11, 12] w w' ∧ ((∃ s, alS (bN tb) ln 12 P 0 = .inl s ∧ r = nI s) ∨ (∃ Q t, alS (bN tb) ln 12 P 0 = .inr (Q, t) ∧ r = -1 ∧ PkAt w' 11 12 Q ∧ PkOK Q ∧ LdOK Q ∧ t < 12 ∧ w'[3]? = some (rd (nI (12 - t))))) := by
  obtain ⟨⟨hlen, hO, hT, hR, ⟨hPk, hHr⟩, hK, hSn⟩, ⟨⟨J, hM⟩, ⟨⟨fr, hrow, hf0, hf1, hf2, hfk⟩, fk, hkept, hfk2⟩, hMT, hMJ, hMS⟩, hOK⟩ := id h
  obtain ⟨⟨hP, hLd⟩, hlic, hwh, hhr, hln, htb, hsc, hsn, hkp⟩ := hOK
  have hn := pn_le hP
  have hN := hP.2.2.2.2.1
  have hlic6 : lic < 64 := Nat.lt_of_lt_of_le hlic (two6 hN)
  have r4 : rc 4 0 w = true := rc_of hO
  have r1 : rc 1 5 w = true := rc_of hPk.1
  have r0 : rc 0 7 w = true := by obtain ⟨fs, bs, ms, ⟨z, -⟩, -⟩ := hHr; exact rc_of z
  have r5 : rc 5 24 w = true := rc_of hM.1
  have q0 : gt 4 0 0 w = some (.ref 1) := gt_of hO rfl
  have q2 : gt 4 2 0 w = some (.ref 5) := gt_of hO rfl
  have q3 : gt 4 3 0 w = some (.ref 7) := gt_of hO rfl
  have q6 : gt 4 6 0 w = some (.int (nI lic)) := gt_of hO rfl
  have q7 : gt 4 7 0 w = some (.int wh) := gt_of hO rfl
  have q8 : gt 4 8 0 w = some (.int (nI hr)) := gt_of hO rfl
  have q15 : gt 4 15 0 w = some (.int (nI sc)) := gt_of hO rfl
  have g0 : gt 5 0 24 w = some (.ref 25) := gt_of hM.1 rfl
  have l0 : ial 0 25 0 w = some (nI lic) := by
    have z := hrow.get (i := 0) (m := 0) rfl (by decide) (by decide)
    rw [hf0] at z; exact z
  have l1 : ial 0 25 1 w = some wh := by
    have z := hrow.get (i := 1) (m := 1) rfl (by decide) (by decide)
    rw [hf1] at z; exact z
  have l2 : ial 0 25 2 w = some (nI hr) := by
    have z := hrow.get (i := 2) (m := 2) rfl (by decide) (by decide)
    rw [hf2] at z; exact z
  have n10 : ¬ (1 : Int32) = 0 := by decide
  obtain ⟨⟨l, hr1⟩, ⟨f4, hr2⟩, ⟨Q, hQ⟩, ⟨n0, W0, fs0, bs0, ms0, hH⟩, g5, hr5⟩ := id hR
  obtain ⟨⟨ts, te, hT1⟩, g, hg1, hg2⟩ := id hT
  have hTx : TxB w ln (bN tb) ts te := ⟨hT1, g, hg1, fun k hk => by rw [hg2 k hk, (bN_ok htb hk).2]⟩
  have hb : ∀ k, k < ln → bN tb k < 256 := fun k hk => (bN_ok htb hk).1
  obtain ⟨w1, a1, a2, a3⟩ := s_become hQ hPk (by decide)
  have hTx1 : TxB w1 ln (bN tb) ts te := hTx.kept (a3.2 1 (by decide)) (a3.2 2 (by decide))
  have t1 := s_rewind hTx1
  have m2 : Sm [1] w1 (w1.set 1 (tx (nI ln) ts (nI 0))) := Sm.set (by simp)
  have hTx2 : TxB (w1.set 1 (tx (nI ln) ts (nI 0))) ln (bN tb) ts (nI 0) := hTx1.put
  generalize w1.set 1 (tx (nI ln) ts (nI 0)) = w2 at *
  have h32 : w2[3]? = some (rd l) := ((m2.2 3 (by decide)).trans (a3.2 3 (by decide))).trans hr1
  have p0 : pt 2 0 3 (.int 1) w2 = some (w2.set 3 (rd (nI 1))) := pt_of h32 (Nat.le_of_ble_eq_true rfl)
  have m3 : Sm [3] w2 (w2.set 3 (rd (nI 1))) := Sm.set (by simp)
  have h33 : (w2.set 3 (rd (nI 1)))[3]? = some (rd (nI 1)) := set_at h32
  generalize w2.set 3 (rd (nI 1)) = w3 at *
  have hA3 : Ar w3 4 4 f4 := ((hr2.kept (a3.2 4 (by decide))).kept (m2.2 4 (by decide))).kept (m3.2 4 (by decide))
  have hP3 : PkAt w3 11 12 P := (a2.kept (m2.2 11 (by decide)) (m2.2 12 (by decide))).kept (m3.2 11 (by decide)) (m3.2 12 (by decide))
  have hT3 : TxB w3 ln (bN tb) ts (nI 0) := hTx2.kept (m3.2 1 (by decide)) (m3.2 2 (by decide))
  have mm3 : Sm [1, 3, 4, 11, 12] w w3 := ((a3.mono (by decide)).tr (m2.mono (by decide))).tr (m3.mono (by decide))
  obtain ⟨r, w', z1, ⟨f', z2⟩, ⟨s', e', z3⟩, z4, z5⟩ := s_lines hln hb 11 P 0 w3 f4 ts 1000 (by decide) (by decide) hP hLd (Nat.zero_le _) h33 hA3 hP3 hT3
  have mm : Sm [1, 3, 4, 11, 12] w w' := mm3.tr z4
  have hXT : XT w' ln tb := by
    obtain ⟨y1, g', y2, y3⟩ := z3
    exact ⟨⟨s', e', y1⟩, g', y2, fun k hk => by rw [y3 k hk, ← (bN_ok htb hk).2]⟩
  have r11 : rc 1 11 w = true := rc_of hQ.1
  have r31 : rc 3 1 w1 = true := rc_of hTx1.1
  have hr : FX2_readLines [.ref 3, .ref 1, .ref 5, .ref 11] w = some (some (.int r), w') := by
    have z6 : jX2_readLines_14 [] [.ref 3, .ref 1, .ref 5, .ref 11] w3 = some (some (.int r), w') := z1
    simp only [FX2_readLines, jX2_readLines, e_push, e_ild_0, e_lld_0, e_ald_0, e_inc_0, e_ild_1, e_lld_1, e_ald_1, e_inc_1, e_ild_2, e_lld_2, e_ald_2, e_inc_2, e_ild_3, e_lld_3, e_ald_3, e_inc_3, e_ild_4, e_lld_4, e_ald_4, e_inc_4, e_ild_5, e_lld_5, e_ald_5, e_inc_5, e_ild_6, e_lld_6, e_ald_6, e_inc_6, e_ild_7, e_lld_7, e_ald_7, e_inc_7, e_ild_8, e_lld_8, e_ald_8, e_inc_8, e_ild_9, e_lld_9, e_ald_9, e_inc_9, e_ild_10, e_lld_10, e_ald_10, e_inc_10, e_ild_11, e_lld_11, e_ald_11, e_inc_11, e_ild_12, e_lld_12, e_ald_12, e_inc_12, e_ist, e_ast, e_lst, e_sto_0, e_sto_1i, e_sto_1r, e_sto_1u, e_sto_1l, e_sto_2i, e_sto_2r, e_sto_2u, e_sto_2l, e_sto_3i, e_sto_3r, e_sto_3u, e_sto_3l, e_sto_4i, e_sto_4r, e_sto_4u, e_sto_4l, e_sto_5i, e_sto_5r, e_sto_5u, e_sto_5l, e_sto_6i, e_sto_6r, e_sto_6u, e_sto_6l, e_sto_7i, e_sto_7r, e_sto_7u, e_sto_7l, e_sto_8i, e_sto_8r, e_sto_8u, e_sto_8l, e_sto_9i, e_sto_9r, e_sto_9u, e_sto_9l, e_sto_10i, e_sto_10r, e_sto_10u, e_sto_10l, e_sto_11i, e_sto_11r, e_sto_11u, e_sto_11l, e_sto_12i, e_sto_12r, e_sto_12u, e_sto_12l, e_stoL_0, e_stoL_1i, e_stoL_1r, e_stoL_1u, e_stoL_2i, e_stoL_2r, e_stoL_2u, e_stoL_3i, e_stoL_3r, e_stoL_3u, e_stoL_4i, e_stoL_4r, e_stoL_4u, e_stoL_5i, e_stoL_5r, e_stoL_5u, e_stoL_6i, e_stoL_6r, e_stoL_6u, e_stoL_7i, e_stoL_7r, e_stoL_7u, e_stoL_8i, e_stoL_8r, e_stoL_8u, e_stoL_9i, e_stoL_9r, e_stoL_9u, e_stoL_10i, e_stoL_10r, e_stoL_10u, e_stoL_11i, e_stoL_11r, e_stoL_11u, e_stoL_12i, e_stoL_12r, e_stoL_12u, e_ib, e_lb, e_ls, e_ii, e_i2l, e_l2i, e_lcmp, e_idiv, e_irem, e_dup_i, e_dup_r, e_dup2, e_pop, e_ifeq, e_iceq, e_ifne, e_icne, e_iflt, e_iclt, e_ifge, e_icge, e_ifgt, e_icgt, e_ifle, e_icle, e_sw, e_iret, e_nret, e_lret, e_aret, e_vret, e_get, e_puti, e_putl, e_iald, e_zald, e_iast, e_zast, e_lald, e_last, e_alen, e_nald, e_nlen, e_mmax, e_mmin, e_mabs, cont_v, cont_u, e_call0, e_call1, e_call2, e_call3, e_call4, e_call5, e_call6, e_callV0, e_callT0, e_callV1, e_callT1, e_callV2, e_callT2, e_callV3, e_callT3, e_callV4, e_callT4, e_callV5, e_callT5, lin_i, lin_r, lin_l, lin_n, lsz_i, lsz_r, lsz_l, lsz_n, rep_s, rep_0, mEnt_e, r11, a1, r31, t1, p0, if_true, if_false, Bool.false_eq_true, Option.bind_some, List.length_cons, List.length_nil, Nat.reduceAdd, Nat.reduceLeDiff]
    exact z6
  have hXR : ∀ l Q, w'[3]? = some (rd l) → PkAt w' 11 12 Q → XR w' := fun l Q y1 y2 => ⟨⟨l, y1⟩, ⟨f', z2⟩, ⟨Q, y2⟩, ⟨n0, W0, fs0, bs0, ms0, hH.kept (mm.2 13 (by decide)) (mm.2 14 (by decide)) (mm.2 15 (by decide)) (mm.2 16 (by decide))⟩, g5, (mm.2 23 (by decide)).trans hr5⟩
  rcases z5 with ⟨s1, Q1, y1, y2, y3, l1, y4⟩ | ⟨Q1, t, y1, y2, y3, y4, y5, y6, y7⟩
  · exact ⟨r, w', hr, hXR l1 Q1 y4 y3, hXT, mm, Or.inl ⟨s1, y1, y2⟩⟩
  · exact ⟨r, w', hr, hXR _ Q1 y7 y3, hXT, mm, Or.inr ⟨Q1, t, y1, y2, y3, y4, y5, y6, y7⟩⟩
theorem x_fault (h : GI w P lic wh hr ln tb sc sp sh sg kp) : ∃ r w', FX4_fault [.ref 0] w = some (some (.int r), w') ∧ XR w' ∧ XT w' ln tb ∧ Sm [1, 3, 4, 11, 12] w w' ∧ ((∃ s, alS (bN tb) ln 12 P 0 = .inl s ∧ r = nI s) ∨ (∃ Q t, alS (bN tb) ln 12 P 0 = .inr (Q, t) ∧ r = -1)) := by
  obtain ⟨r, w', z1, z2, z3, z4, z5⟩ := x_readLines h
  obtain ⟨⟨hlen, hO, hT, hR, ⟨hPk, hHr⟩, hK, hSn⟩, ⟨⟨J, hM⟩, ⟨⟨fr, hrow, hf0, hf1, hf2, hfk⟩, fk, hkept, hfk2⟩, hMT, hMJ, hMS⟩, hOK⟩ := id h
  obtain ⟨⟨hP, hLd⟩, hlic, hwh, hhr, hln, htb, hsc, hsn, hkp⟩ := hOK
  have hn := pn_le hP
  have hN := hP.2.2.2.2.1
  have hlic6 : lic < 64 := Nat.lt_of_lt_of_le hlic (two6 hN)
  have r4 : rc 4 0 w = true := rc_of hO
  have r1 : rc 1 5 w = true := rc_of hPk.1
  have r0 : rc 0 7 w = true := by obtain ⟨fs, bs, ms, ⟨z, -⟩, -⟩ := hHr; exact rc_of z
  have r5 : rc 5 24 w = true := rc_of hM.1
  have q0 : gt 4 0 0 w = some (.ref 1) := gt_of hO rfl
  have q2 : gt 4 2 0 w = some (.ref 5) := gt_of hO rfl
  have q3 : gt 4 3 0 w = some (.ref 7) := gt_of hO rfl
  have q6 : gt 4 6 0 w = some (.int (nI lic)) := gt_of hO rfl
  have q7 : gt 4 7 0 w = some (.int wh) := gt_of hO rfl
  have q8 : gt 4 8 0 w = some (.int (nI hr)) := gt_of hO rfl
  have q15 : gt 4 15 0 w = some (.int (nI sc)) := gt_of hO rfl
  have g0 : gt 5 0 24 w = some (.ref 25) := gt_of hM.1 rfl
  have l0 : ial 0 25 0 w = some (nI lic) := by
    have z := hrow.get (i := 0) (m := 0) rfl (by decide) (by decide)
    rw [hf0] at z; exact z
  have l1 : ial 0 25 1 w = some wh := by
    have z := hrow.get (i := 1) (m := 1) rfl (by decide) (by decide)
    rw [hf1] at z; exact z
  have l2 : ial 0 25 2 w = some (nI hr) := by
    have z := hrow.get (i := 2) (m := 2) rfl (by decide) (by decide)
    rw [hf2] at z; exact z
  have n10 : ¬ (1 : Int32) = 0 := by decide
  obtain ⟨⟨l, hr1⟩, -⟩ := id hR
  have q1 : gt 4 1 0 w = some (.ref 3) := gt_of hO rfl
  have q4 : gt 4 4 0 w = some (.ref 11) := gt_of hO rfl
  have r2 : rc 2 3 w = true := rc_of hr1
  refine ⟨r, w', ?_, z2, z3, z4, ?_⟩
  · simp only [FX4_fault, jX4_fault, e_push, e_ild_0, e_lld_0, e_ald_0, e_inc_0, e_ild_1, e_lld_1, e_ald_1, e_inc_1, e_ild_2, e_lld_2, e_ald_2, e_inc_2, e_ild_3, e_lld_3, e_ald_3, e_inc_3, e_ild_4, e_lld_4, e_ald_4, e_inc_4, e_ild_5, e_lld_5, e_ald_5, e_inc_5, e_ild_6, e_lld_6, e_ald_6, e_inc_6, e_ild_7, e_lld_7, e_ald_7, e_inc_7, e_ild_8, e_lld_8, e_ald_8, e_inc_8, e_ild_9, e_lld_9, e_ald_9, e_inc_9, e_ild_10, e_lld_10, e_ald_10, e_inc_10, e_ild_11, e_lld_11, e_ald_11, e_inc_11, e_ild_12, e_lld_12, e_ald_12, e_inc_12, e_ist, e_ast, e_lst, e_sto_0, e_sto_1i, e_sto_1r, e_sto_1u, e_sto_1l, e_sto_2i, e_sto_2r, e_sto_2u, e_sto_2l, e_sto_3i, e_sto_3r, e_sto_3u, e_sto_3l, e_sto_4i, e_sto_4r, e_sto_4u, e_sto_4l, e_sto_5i, e_sto_5r, e_sto_5u, e_sto_5l, e_sto_6i, e_sto_6r, e_sto_6u, e_sto_6l, e_sto_7i, e_sto_7r, e_sto_7u, e_sto_7l, e_sto_8i, e_sto_8r, e_sto_8u, e_sto_8l, e_sto_9i, e_sto_9r, e_sto_9u, e_sto_9l, e_sto_10i, e_sto_10r, e_sto_10u, e_sto_10l, e_sto_11i, e_sto_11r, e_sto_11u, e_sto_11l, e_sto_12i, e_sto_12r, e_sto_12u, e_sto_12l, e_stoL_0, e_stoL_1i, e_stoL_1r, e_stoL_1u, e_stoL_2i, e_stoL_2r, e_stoL_2u, e_stoL_3i, e_stoL_3r, e_stoL_3u, e_stoL_4i, e_stoL_4r, e_stoL_4u, e_stoL_5i, e_stoL_5r, e_stoL_5u, e_stoL_6i, e_stoL_6r, e_stoL_6u, e_stoL_7i, e_stoL_7r, e_stoL_7u, e_stoL_8i, e_stoL_8r, e_stoL_8u, e_stoL_9i, e_stoL_9r, e_stoL_9u, e_stoL_10i, e_stoL_10r, e_stoL_10u, e_stoL_11i, e_stoL_11r, e_stoL_11u, e_stoL_12i, e_stoL_12r, e_stoL_12u, e_ib, e_lb, e_ls, e_ii, e_i2l, e_l2i, e_lcmp, e_idiv, e_irem, e_dup_i, e_dup_r, e_dup2, e_pop, e_ifeq, e_iceq, e_ifne, e_icne, e_iflt, e_iclt, e_ifge, e_icge, e_ifgt, e_icgt, e_ifle, e_icle, e_sw, e_iret, e_nret, e_lret, e_aret, e_vret, e_get, e_puti, e_putl, e_iald, e_zald, e_iast, e_zast, e_lald, e_last, e_alen, e_nald, e_nlen, e_mmax, e_mmin, e_mabs, cont_v, cont_u, e_call0, e_call1, e_call2, e_call3, e_call4, e_call5, e_call6, e_callV0, e_callT0, e_callV1, e_callT1, e_callV2, e_callT2, e_callV3, e_callT3, e_callV4, e_callT4, e_callV5, e_callT5, lin_i, lin_r, lin_l, lin_n, lsz_i, lsz_r, lsz_l, lsz_n, rep_s, rep_0, mEnt_e, q0, q1, q2, q4, r2, z1, if_true, if_false, Bool.false_eq_true, Option.bind_some, List.length_cons, List.length_nil, Nat.reduceAdd, Nat.reduceLeDiff]
  · rcases z5 with ⟨s, y1, y2⟩ | ⟨Q, t, y1, y2, -⟩
    · exact Or.inl ⟨s, y1, y2⟩
    · exact Or.inr ⟨Q, t, y1, y2⟩
theorem x_startAnew {Q : Pk} {lic0 : Nat} {wh0 : Int32} {hr0 sc0 : Nat} (hO : XO w lic0 wh0 hr0 sc0) (hPk : PkAt w 5 6 Q) (hQ : PkOK Q) {fh : Nat → Int32} (hA : Ar w 19 2 fh) : ∃ w', FX4_startAnew [.ref 0] w = some (none, w') ∧ XO w' (2 ^ pN Q - 1) (lwS (pW Q) (pn Q)) 0 0 ∧ (∃ f, Ar w' 19 2 f ∧ ∀ k, k < 2 → f k = -1) ∧ Sm [0, 19] w w' := by
  have hN := hQ.2.2.2.2.1
  have hT := two6 hN
  have hpos : 0 < 2 ^ pN Q := Nat.two_pow_pos _
  have p8 : pt 4 8 0 (.int 0) w = some (w.set 0 (x0 (nI lic0) wh0 (nI 0) (nI sc0))) := pt_of hO (Nat.le_of_ble_eq_true rfl)
  have m1 : Sm [0] w (w.set 0 (x0 (nI lic0) wh0 (nI 0) (nI sc0))) := Sm.set (by simp)
  have o1 : (w.set 0 (x0 (nI lic0) wh0 (nI 0) (nI sc0)))[0]? = some (x0 (nI lic0) wh0 (nI 0) (nI sc0)) := set_at hO
  have e1 : nI (2 ^ pN Q) - 1 = nI (2 ^ pN Q - 1) := by
    have z := nI_1 (2 ^ pN Q - 1)
    rw [Nat.sub_add_cancel hpos] at z
    rw [← z, Int32.add_sub_cancel]
  generalize w.set 0 (x0 (nI lic0) wh0 (nI 0) (nI sc0)) = w1 at *
  have pk1 : PkAt w1 5 6 Q := hPk.kept (m1.2 5 (by decide)) (m1.2 6 (by decide))
  have p6 : pt 4 6 0 (.int (nI (2 ^ pN Q - 1))) w1 = some (w1.set 0 (x0 (nI (2 ^ pN Q - 1)) wh0 (nI 0) (nI sc0))) := pt_of o1 (Nat.le_of_ble_eq_true rfl)
  have m2 : Sm [0] w1 (w1.set 0 (x0 (nI (2 ^ pN Q - 1)) wh0 (nI 0) (nI sc0))) := Sm.set (by simp)
  have o2 : (w1.set 0 (x0 (nI (2 ^ pN Q - 1)) wh0 (nI 0) (nI sc0)))[0]? = some (x0 (nI (2 ^ pN Q - 1)) wh0 (nI 0) (nI sc0)) := set_at o1
  generalize w1.set 0 (x0 (nI (2 ^ pN Q - 1)) wh0 (nI 0) (nI sc0)) = w2 at *
  have pk2 : PkAt w2 5 6 Q := pk1.kept (m2.2 5 (by decide)) (m2.2 6 (by decide))
  have p7 : pt 4 7 0 (.int (lwS (pW Q) (pn Q))) w2 = some (w2.set 0 (x0 (nI (2 ^ pN Q - 1)) (lwS (pW Q) (pn Q)) (nI 0) (nI sc0))) := pt_of o2 (Nat.le_of_ble_eq_true rfl)
  have m3 : Sm [0] w2 (w2.set 0 (x0 (nI (2 ^ pN Q - 1)) (lwS (pW Q) (pn Q)) (nI 0) (nI sc0))) := Sm.set (by simp)
  have o3 : (w2.set 0 (x0 (nI (2 ^ pN Q - 1)) (lwS (pW Q) (pn Q)) (nI 0) (nI sc0)))[0]? = some (x0 (nI (2 ^ pN Q - 1)) (lwS (pW Q) (pn Q)) (nI 0) (nI sc0)) := set_at o2
  generalize w2.set 0 (x0 (nI (2 ^ pN Q - 1)) (lwS (pW Q) (pn Q)) (nI 0) (nI sc0)) = w3 at *
  have p15 : pt 4 15 0 (.int 0) w3 = some (w3.set 0 (x0 (nI (2 ^ pN Q - 1)) (lwS (pW Q) (pn Q)) (nI 0) (nI 0))) := pt_of o3 (Nat.le_of_ble_eq_true rfl)
  have m4 : Sm [0] w3 (w3.set 0 (x0 (nI (2 ^ pN Q - 1)) (lwS (pW Q) (pn Q)) (nI 0) (nI 0))) := Sm.set (by simp)
  have o4 : (w3.set 0 (x0 (nI (2 ^ pN Q - 1)) (lwS (pW Q) (pn Q)) (nI 0) (nI 0)))[0]? = some (x0 (nI (2 ^ pN Q - 1)) (lwS (pW Q) (pn Q)) (nI 0) (nI 0)) := set_at o3
  generalize w3.set 0 (x0 (nI (2 ^ pN Q - 1)) (lwS (pW Q) (pn Q)) (nI 0) (nI 0)) = w4 at *
  have mm4 : Sm [0, 19] w w4 := (((m1.mono (by decide)).tr (m2.mono (by decide))).tr (m3.mono (by decide))).tr (m4.mono (by decide))
  have hA4 : Ar w4 19 2 fh := (((hA.kept (m1.2 19 (by decide))).kept (m2.2 19 (by decide))).kept (m3.2 19 (by decide))).kept (m4.2 19 (by decide))
  obtain ⟨r, z1, w', z2, z3, z4, z5⟩ := loop_inv (F := fun B36 => i_ild 1 (i_push (.int 2) (i_icge (i_vret) (i_ald 0 (i_get 4 11 (i_ild 1 (i_push (.int (-1)) (i_iast (i_inc 1 1 (B36))))))))))
    (st := []) (L := [.ref 0, .int 0]) (w := w4) 2
    (fun k st L w' => st = [] ∧ L = [.ref 0, .int (nI k)] ∧ (∃ f, Ar w' 19 2 f ∧ ∀ j, j < k → f j = -1) ∧ Sm [19] w4 w')
    (fun r => ∃ w', r = some (none, w') ∧ XO w' (2 ^ pN Q - 1) (lwS (pW Q) (pn Q)) 0 0 ∧ (∃ f, Ar w' 19 2 f ∧ ∀ j, j < 2 → f j = -1) ∧ Sm [19] w4 w')
    ⟨rfl, rfl, ⟨fh, hA4, fun j hj => absurd hj (by omega)⟩, Sm.rf⟩
    (by
      rintro k hk st L w5 ⟨rfl, rfl, ⟨f, d1, d2⟩, m5⟩
      have o5 := (m5.2 0 (by decide)).trans o4
      have c1 : ¬ (2 : Int32) ≤ nI k := nI_ge (b := 2) hk (by decide)
      have g11 : gt 4 11 0 w5 = some (.ref 19) := gt_of o5 rfl
      obtain ⟨w6, u1, u2, u3⟩ := d1.put (i := nI k) (x := -1) rfl hk (by decide)
      refine ⟨[], _, w6, ⟨rfl, rfl, ⟨_, u2, fun j hj => ?_⟩, m5.tr u3⟩, fun B => ?_⟩
      · by_cases hjk : j = k
        · subst hjk; exact pk_us
        · rw [pk_un hjk]; exact d2 j (by omega)
      · simp only [e_push, e_ild_0, e_lld_0, e_ald_0, e_inc_0, e_ild_1, e_lld_1, e_ald_1, e_inc_1, e_ild_2, e_lld_2, e_ald_2, e_inc_2, e_ild_3, e_lld_3, e_ald_3, e_inc_3, e_ild_4, e_lld_4, e_ald_4, e_inc_4, e_ild_5, e_lld_5, e_ald_5, e_inc_5, e_ild_6, e_lld_6, e_ald_6, e_inc_6, e_ild_7, e_lld_7, e_ald_7, e_inc_7, e_ild_8, e_lld_8, e_ald_8, e_inc_8, e_ild_9, e_lld_9, e_ald_9, e_inc_9, e_ild_10, e_lld_10, e_ald_10, e_inc_10, e_ild_11, e_lld_11, e_ald_11, e_inc_11, e_ild_12, e_lld_12, e_ald_12, e_inc_12, e_ist, e_ast, e_lst, e_sto_0, e_sto_1i, e_sto_1r, e_sto_1u, e_sto_1l, e_sto_2i, e_sto_2r, e_sto_2u, e_sto_2l, e_sto_3i, e_sto_3r, e_sto_3u, e_sto_3l, e_sto_4i, e_sto_4r, e_sto_4u, e_sto_4l, e_sto_5i, e_sto_5r, e_sto_5u, e_sto_5l, e_sto_6i, e_sto_6r, e_sto_6u, e_sto_6l, e_sto_7i, e_sto_7r, e_sto_7u, e_sto_7l, e_sto_8i, e_sto_8r, e_sto_8u, e_sto_8l, e_sto_9i, e_sto_9r, e_sto_9u, e_sto_9l, e_sto_10i, e_sto_10r, e_sto_10u, e_sto_10l, e_sto_11i, e_sto_11r, e_sto_11u, e_sto_11l, e_sto_12i, e_sto_12r, e_sto_12u, e_sto_12l, e_stoL_0, e_stoL_1i, e_stoL_1r, e_stoL_1u, e_stoL_2i, e_stoL_2r, e_stoL_2u, e_stoL_3i, e_stoL_3r, e_stoL_3u, e_stoL_4i, e_stoL_4r, e_stoL_4u, e_stoL_5i, e_stoL_5r, e_stoL_5u, e_stoL_6i, e_stoL_6r, e_stoL_6u, e_stoL_7i, e_stoL_7r, e_stoL_7u, e_stoL_8i, e_stoL_8r, e_stoL_8u, e_stoL_9i, e_stoL_9r, e_stoL_9u, e_stoL_10i, e_stoL_10r, e_stoL_10u, e_stoL_11i, e_stoL_11r, e_stoL_11u, e_stoL_12i, e_stoL_12r, e_stoL_12u, e_ib, e_lb, e_ls, e_ii, e_i2l, e_l2i, e_lcmp, e_idiv, e_irem, e_dup_i, e_dup_r, e_dup2, e_pop, e_ifeq, e_iceq, e_ifne, e_icne, e_iflt, e_iclt, e_ifge, e_icge, e_ifgt, e_icgt, e_ifle, e_icle, e_sw, e_iret, e_nret, e_lret, e_aret, e_vret, e_get, e_puti, e_putl, e_iald, e_zald, e_iast, e_zast, e_lald, e_last, e_alen, e_nald, e_nlen, e_mmax, e_mmin, e_mabs, cont_v, cont_u, e_call0, e_call1, e_call2, e_call3, e_call4, e_call5, e_call6, e_callV0, e_callT0, e_callV1, e_callT1, e_callV2, e_callT2, e_callV3, e_callT3, e_callV4, e_callT4, e_callV5, e_callT5, lin_i, lin_r, lin_l, lin_n, lsz_i, lsz_r, lsz_l, lsz_n, rep_s, rep_0, mEnt_e, c1, g11, u1, nI_1, if_true, if_false, Bool.false_eq_true, Option.bind_some, List.length_cons, List.length_nil, Nat.reduceAdd, Nat.reduceLeDiff])
    (by
      rintro st L w5 ⟨rfl, rfl, d1, m5⟩
      have c1 : (2 : Int32) ≤ nI 2 := by decide
      refine ⟨_, ⟨w5, rfl, (m5.2 0 (by decide)).trans o4, d1, m5⟩, fun B => ?_⟩
      simp only [e_push, e_ild_0, e_lld_0, e_ald_0, e_inc_0, e_ild_1, e_lld_1, e_ald_1, e_inc_1, e_ild_2, e_lld_2, e_ald_2, e_inc_2, e_ild_3, e_lld_3, e_ald_3, e_inc_3, e_ild_4, e_lld_4, e_ald_4, e_inc_4, e_ild_5, e_lld_5, e_ald_5, e_inc_5, e_ild_6, e_lld_6, e_ald_6, e_inc_6, e_ild_7, e_lld_7, e_ald_7, e_inc_7, e_ild_8, e_lld_8, e_ald_8, e_inc_8, e_ild_9, e_lld_9, e_ald_9, e_inc_9, e_ild_10, e_lld_10, e_ald_10, e_inc_10, e_ild_11, e_lld_11, e_ald_11, e_inc_11, e_ild_12, e_lld_12, e_ald_12, e_inc_12, e_ist, e_ast, e_lst, e_sto_0, e_sto_1i, e_sto_1r, e_sto_1u, e_sto_1l, e_sto_2i, e_sto_2r, e_sto_2u, e_sto_2l, e_sto_3i, e_sto_3r, e_sto_3u, e_sto_3l, e_sto_4i, e_sto_4r, e_sto_4u, e_sto_4l, e_sto_5i, e_sto_5r, e_sto_5u, e_sto_5l, e_sto_6i, e_sto_6r, e_sto_6u, e_sto_6l, e_sto_7i, e_sto_7r, e_sto_7u, e_sto_7l, e_sto_8i, e_sto_8r, e_sto_8u, e_sto_8l, e_sto_9i, e_sto_9r, e_sto_9u, e_sto_9l, e_sto_10i, e_sto_10r, e_sto_10u, e_sto_10l, e_sto_11i, e_sto_11r, e_sto_11u, e_sto_11l, e_sto_12i, e_sto_12r, e_sto_12u, e_sto_12l, e_stoL_0, e_stoL_1i, e_stoL_1r, e_stoL_1u, e_stoL_2i, e_stoL_2r, e_stoL_2u, e_stoL_3i, e_stoL_3r, e_stoL_3u, e_stoL_4i, e_stoL_4r, e_stoL_4u, e_stoL_5i, e_stoL_5r, e_stoL_5u, e_stoL_6i, e_stoL_6r, e_stoL_6u, e_stoL_7i, e_stoL_7r, e_stoL_7u, e_stoL_8i, e_stoL_8r, e_stoL_8u, e_stoL_9i, e_stoL_9r, e_stoL_9u, e_stoL_10i, e_stoL_10r, e_stoL_10u, e_stoL_11i, e_stoL_11r, e_stoL_11u, e_stoL_12i, e_stoL_12r, e_stoL_12u, e_ib, e_lb, e_ls, e_ii, e_i2l, e_l2i, e_lcmp, e_idiv, e_irem, e_dup_i, e_dup_r, e_dup2, e_pop, e_ifeq, e_iceq, e_ifne, e_icne, e_iflt, e_iclt, e_ifge, e_icge, e_ifgt, e_icgt, e_ifle, e_icle, e_sw, e_iret, e_nret, e_lret, e_aret, e_vret, e_get, e_puti, e_putl, e_iald, e_zald, e_iast, e_zast, e_lald, e_last, e_alen, e_nald, e_nlen, e_mmax, e_mmin, e_mabs, cont_v, cont_u, e_call0, e_call1, e_call2, e_call3, e_call4, e_call5, e_call6, e_callV0, e_callT0, e_callV1, e_callT1, e_callV2, e_callT2, e_callV3, e_callT3, e_callV4, e_callT4, e_callV5, e_callT5, lin_i, lin_r, lin_l, lin_n, lsz_i, lsz_r, lsz_l, lsz_n, rep_s, rep_0, mEnt_e, c1, if_true, if_false, Bool.false_eq_true, Option.bind_some, List.length_cons, List.length_nil, Nat.reduceAdd, Nat.reduceLeDiff]) 1000 (by decide)
  refine ⟨w', ?_, z3, z4, mm4.tr (z5.mono (by decide))⟩
  have z6 : jX4_startAnew_36 [] [.ref 0, .int 0] w4 = some (none, w') := z1.trans z2
  have g2 : gt 4 2 0 w1 = some (.ref 5) := gt_of o1 rfl
  have g2' : gt 4 2 0 w2 = some (.ref 5) := gt_of o2 rfl
  have r1 : rc 1 5 w1 = true := rc_of pk1.1
  have r1' : rc 1 5 w2 = true := rc_of pk2.1
  simp only [FX4_startAnew, jX4_startAnew, e_push, e_ild_0, e_lld_0, e_ald_0, e_inc_0, e_ild_1, e_lld_1, e_ald_1, e_inc_1, e_ild_2, e_lld_2, e_ald_2, e_inc_2, e_ild_3, e_lld_3, e_ald_3, e_inc_3, e_ild_4, e_lld_4, e_ald_4, e_inc_4, e_ild_5, e_lld_5, e_ald_5, e_inc_5, e_ild_6, e_lld_6, e_ald_6, e_inc_6, e_ild_7, e_lld_7, e_ald_7, e_inc_7, e_ild_8, e_lld_8, e_ald_8, e_inc_8, e_ild_9, e_lld_9, e_ald_9, e_inc_9, e_ild_10, e_lld_10, e_ald_10, e_inc_10, e_ild_11, e_lld_11, e_ald_11, e_inc_11, e_ild_12, e_lld_12, e_ald_12, e_inc_12, e_ist, e_ast, e_lst, e_sto_0, e_sto_1i, e_sto_1r, e_sto_1u, e_sto_1l, e_sto_2i, e_sto_2r, e_sto_2u, e_sto_2l, e_sto_3i, e_sto_3r, e_sto_3u, e_sto_3l, e_sto_4i, e_sto_4r, e_sto_4u, e_sto_4l, e_sto_5i, e_sto_5r, e_sto_5u, e_sto_5l, e_sto_6i, e_sto_6r, e_sto_6u, e_sto_6l, e_sto_7i, e_sto_7r, e_sto_7u, e_sto_7l, e_sto_8i, e_sto_8r, e_sto_8u, e_sto_8l, e_sto_9i, e_sto_9r, e_sto_9u, e_sto_9l, e_sto_10i, e_sto_10r, e_sto_10u, e_sto_10l, e_sto_11i, e_sto_11r, e_sto_11u, e_sto_11l, e_sto_12i, e_sto_12r, e_sto_12u, e_sto_12l, e_stoL_0, e_stoL_1i, e_stoL_1r, e_stoL_1u, e_stoL_2i, e_stoL_2r, e_stoL_2u, e_stoL_3i, e_stoL_3r, e_stoL_3u, e_stoL_4i, e_stoL_4r, e_stoL_4u, e_stoL_5i, e_stoL_5r, e_stoL_5u, e_stoL_6i, e_stoL_6r, e_stoL_6u, e_stoL_7i, e_stoL_7r, e_stoL_7u, e_stoL_8i, e_stoL_8r, e_stoL_8u, e_stoL_9i, e_stoL_9r, e_stoL_9u, e_stoL_10i, e_stoL_10r, e_stoL_10u, e_stoL_11i, e_stoL_11r, e_stoL_11u, e_stoL_12i, e_stoL_12r, e_stoL_12u, e_ib, e_lb, e_ls, e_ii, e_i2l, e_l2i, e_lcmp, e_idiv, e_irem, e_dup_i, e_dup_r, e_dup2, e_pop, e_ifeq, e_iceq, e_ifne, e_icne, e_iflt, e_iclt, e_ifge, e_icge, e_ifgt, e_icgt, e_ifle, e_icle, e_sw, e_iret, e_nret, e_lret, e_aret, e_vret, e_get, e_puti, e_putl, e_iald, e_zald, e_iast, e_zast, e_lald, e_last, e_alen, e_nald, e_nlen, e_mmax, e_mmin, e_mabs, cont_v, cont_u, e_call0, e_call1, e_call2, e_call3, e_call4, e_call5, e_call6, e_callV0, e_callT0, e_callV1, e_callT1, e_callV2, e_callT2, e_callV3, e_callT3, e_callV4, e_callT4, e_callV5, e_callT5, lin_i, lin_r, lin_l, lin_n, lsz_i, lsz_r, lsz_l, lsz_n, rep_s, rep_0, mEnt_e, p8, g2, r1, s_bandSets pk1.1 hQ, e1, p6, g2', r1', s_leastOfWalk pk2 hQ, p7, p15, z6, if_true, if_false, Bool.false_eq_true, Option.bind_some, List.length_cons, List.length_nil, Nat.reduceAdd, Nat.reduceLeDiff]
end PARK5
