/-! fault, park: both alike -/
section TPARK
variable {w : List va_E} {P : Pk} {lic : Nat} {wh : Int32} {hr ln : Nat} {tb : Nat → Int32} {sc : Nat} {sp sh sg : Nat → Int32} {kp : Kp}
theorem MT_x {w : List va_E} {ln : Nat} {tb : Nat → Int32} (h : MT w ln tb) (htb : ∀ k, k < ln → ∃ c, c < 256 ∧ tb k = nI c) : MTx w ln (bN tb) := by
  obtain ⟨g, h1, h2⟩ := h
  exact ⟨g, h1, fun k hk => by rw [h2 k hk, (bN_ok htb hk).2]⟩
theorem t_fault (h : GI w P lic wh hr ln tb sc sp sh sg kp) : ∃ r w1 w2, FX4_fault [.ref 0] w = some (some (.int r), w1) ∧ (∃ o, w1[24]? = some (.inr (5, o))) ∧ FX5_fault [.ref 24] w1 = some (some (.int r), w2) ∧ GIx w2 := by
  obtain ⟨r, w1, a1, a2, a3, a4, a5⟩ := x_fault h
  obtain ⟨⟨hlen, hO, hT, hR, ⟨hPk, hHr⟩, hK, hSn⟩, ⟨⟨J, hM⟩, ⟨⟨fr, hrow, hf0, hf1, hf2, hfk⟩, fk, hkept, hfk2⟩, hMT, hMJ, hMS⟩, hOK⟩ := id h
  obtain ⟨⟨hP, hLd⟩, hlic, hwh, hhr, hln, htb, hsc, hsn, hkp⟩ := hOK
  have hn := pn_le hP
  have hN := hP.2.2.2.2.1
  have hlic6 : lic < 64 := Nat.lt_of_lt_of_le hlic (two6 hN)
  have r4 : rc 4 0 w = true := rc_of hO
  have r1 : rc 1 5 w = true := rc_of hPk.1
  have r0 : rc 0 7 w = true := by obtain ⟨fs, bs, ms, ⟨z, -⟩, -⟩ := hHr; exact rc_of z
  have r5 : rc 5 24 w = true := rc_of hM.1
  have q0 : gt 4 0 0 w = some (.ref 1) := gt_of hO rfl
  have q2 : gt 4 2 0 w = some (.ref 5) := gt_of hO rfl
  have q3 : gt 4 3 0 w = some (.ref 7) := gt_of hO rfl
  have q6 : gt 4 6 0 w = some (.int (nI lic)) := gt_of hO rfl
  have q7 : gt 4 7 0 w = some (.int wh) := gt_of hO rfl
  have q8 : gt 4 8 0 w = some (.int (nI hr)) := gt_of hO rfl
  have q15 : gt 4 15 0 w = some (.int (nI sc)) := gt_of hO rfl
  have g0 : gt 5 0 24 w = some (.ref 25) := gt_of hM.1 rfl
  have l0 : ial 0 25 0 w = some (nI lic) := by
    have z := hrow.get (i := 0) (m := 0) rfl (by decide) (by decide)
    rw [hf0] at z; exact z
  have l1 : ial 0 25 1 w = some wh := by
    have z := hrow.get (i := 1) (m := 1) rfl (by decide) (by decide)
    rw [hf1] at z; exact z
  have l2 : ial 0 25 2 w = some (nI hr) := by
    have z := hrow.get (i := 2) (m := 2) rfl (by decide) (by decide)
    rw [hf2] at z; exact z
  have n10 : ¬ (1 : Int32) = 0 := by decide
  obtain ⟨hX, hMd, hS⟩ := id h
  have hMk := hMd.kept a4 (by intro j h1 h2; simp; omega)
  obtain ⟨⟨J1, hM1⟩, hMR1, i1, i2, i3⟩ := id hMk
  obtain ⟨⟨f28, j1⟩, f30, j2⟩ := id i2
  have hb : ∀ k, k < ln → bN tb k < 256 := fun k hk => (bN_ok htb hk).1
  obtain ⟨r', w2, b1, b2, b3⟩ := m_fault hln hb hP hLd hM1 (MT_x i1 htb) j1
  have hXI : XI w1 P lic wh hr ln tb sc sp sh sg kp := ⟨a4.1.trans hlen, hX.2.1.kept a4 (by decide), a3, a2, hX.2.2.2.2.1.kept a4 (by decide), hX.2.2.2.2.2.1.kept a4 (by decide), hX.2.2.2.2.2.2.kept a4 (by decide)⟩
  have fin : ∀ J f, MdAt w2 P (nI ln) (nI sc) J → Ar w2 28 60 f → GIx w2 := fun J f y1 y2 => GI.join (T := [24, 28]) (P' := P) (lic' := lic) (wh' := wh) (hr' := hr) (ln' := ln) (tb' := tb) (sc' := sc) (sp' := sp) (sh' := sh) (sg' := sg) (kp' := kp) hXI ⟨⟨J, y1⟩, hMR1.kept b2 (by decide) (by decide), i1.kept b2 (by decide), ⟨⟨f, y2⟩, f30, j2.kept (b2.2 30 (by decide))⟩, i3.kept b2 (by decide)⟩ hS b2 (by intro j hj; simp; omega)
  rcases a5 with ⟨s, y1, y2⟩ | ⟨Q, t, y1, y2⟩
  · rcases b3 with ⟨s', J, f, z1, z2, z3, z4⟩ | ⟨Q', t', J, f, z1, -⟩
    · rw [y1] at z1
      have e := Sum.inl.inj z1
      subst e
      subst y2
      subst z2
      exact ⟨_, w1, w2, a1, ⟨_, hM1.1⟩, b1, fin J f z3 z4⟩
    · rw [y1] at z1; nomatch z1
  · rcases b3 with ⟨s', J, f, z1, -⟩ | ⟨Q', t', J, f, z1, z2, z3, z4, z5, z6, z7⟩
    · rw [y1] at z1; nomatch z1
    · subst y2
      subst z2
      exact ⟨_, w1, w2, a1, ⟨_, hM1.1⟩, b1, fin J f z3 z5⟩
theorem m_park2 {w0 w : List va_E} {Q : Pk} {J : Jk} {M : Nat} {f g f25 : Nat → Int32} {lnI sn : Int32} (h24 : rc 5 24 w0 = true) (hf : FX5_fault [.ref 24] w0 = some (some (.int (-1)), w)) (hP : PkOK P) (hL : LdOK P) (h : MdAt w P lnI sn J) (hM : J.1 = nI M) (hM12 : M ≤ 12) (hA : Ar w 28 60 f) (hR : RwS f P M Q) (hA25 : Ar w 25 9 f25) (h26 : w[26]? = some (za 2 g)) : ∃ w', FX5_park [.ref 24] w0 = some (some (.int (nI M)), w') ∧ MdAt w' Q (nI 0) (nI 0) J ∧ (∃ f', Ar w' 25 9 f' ∧ f' 0 = nI (2 ^ pN Q - 1) ∧ f' 1 = lwS (pW Q) (pn Q) ∧ f' 2 = nI 0) ∧ (∃ g', w'[26]? = some (za 2 g') ∧ ∀ k, k < 2 → g' k = 0) ∧ Sm [24, 25, 26, 29] w w' := by
  obtain ⟨hQ, hLQ⟩ := RwS_ok hP hL hR
  obtain ⟨r, z1, w', z2, z3, z4, z5, z6⟩ := loop_inv (F := fun B13 => i_ild 1 (i_ald 0 (i_get 5 5 (i_icge (i_ald 0 (i_get 5 0 (i_push (.int 0) (i_push (.int 1) (i_ald 0 (i_get 5 14 (i_ib (fun x y => x <<< (y &&& 31)) (i_push (.int 1) (i_ib (fun x y => x - y) (i_iast (i_ald 0 (i_get 5 0 (i_push (.int 1) (i_push (.int (-1)) (i_iast (i_ald 0 (i_get 5 6 (i_ald 0 (i_get 5 7 (i_ib (fun x y => x * y) (i_push (.int 1) (i_ib (fun x y => x - y) (i_ist 1 (jX5_park_67)))))))))))))))))))))))) (i_ald 0 (i_push (.int 5) (i_ild 1 (i_ib (fun x y => x * y) (i_callV 5 1 FX5_tell (i_inc 1 1 (B13)))))))))))
    (st := []) (L := [.ref 24, .int 0]) (w := w) M
    (fun k st L w' => st = [] ∧ L = [.ref 24, .int (nI k)] ∧ (∃ Qk, RwS f P k Qk ∧ MdAt w' Qk lnI sn J) ∧ Sm [24, 29] w w')
    (fun r => ∃ w', r = some (some (.int (nI M)), w') ∧ MdAt w' Q (nI 0) (nI 0) J ∧ (∃ f', Ar w' 25 9 f' ∧ f' 0 = nI (2 ^ pN Q - 1) ∧ f' 1 = lwS (pW Q) (pn Q) ∧ f' 2 = nI 0) ∧ (∃ g', w'[26]? = some (za 2 g') ∧ ∀ k, k < 2 → g' k = 0) ∧ Sm [24, 25, 26, 29] w w')
    ⟨rfl, rfl, ⟨P, rfl, h⟩, Sm.rf⟩
    (by
      rintro k hk st L w3 ⟨rfl, rfl, ⟨Qk, d1, d2⟩, m3⟩
      obtain ⟨Q0, kk, n, y1, y2, y3, y4⟩ := RwS_at hR k hk
      have eQ := RwS_one y1 d1
      subst eQ
      obtain ⟨okQ, -⟩ := RwS_ok hP hL y1
      have g5 : gt 5 5 24 w3 = some (.int (nI M)) := by rw [← hM]; exact gt_of d2.1 rfl
      have c1 : ¬ nI M ≤ nI k := nI_ge hk (by omega)
      have e5 : 5 * nI k = nI (5 * k) := by
        show nI 5 * nI k = _
        rw [pk_mul]
      have r5 : rc 5 24 w3 = true := rc_of d2.1
      obtain ⟨w4, u1, u2, u3⟩ := m_tell d2 okQ (hA.kept (m3.2 28 (by decide))) (by omega) y3 y4 y2
      refine ⟨[], _, w4, ⟨rfl, rfl, ⟨doS Q0 kk n, ⟨Q0, kk, n, y1, y2, y3, y4, rfl⟩, u2⟩, m3.tr u3⟩, fun B => ?_⟩
      simp only [e_push, e_ild_0, e_lld_0, e_ald_0, e_inc_0, e_ild_1, e_lld_1, e_ald_1, e_inc_1, e_ild_2, e_lld_2, e_ald_2, e_inc_2, e_ild_3, e_lld_3, e_ald_3, e_inc_3, e_ild_4, e_lld_4, e_ald_4, e_inc_4, e_ild_5, e_lld_5, e_ald_5, e_inc_5, e_ild_6, e_lld_6, e_ald_6, e_inc_6, e_ild_7, e_lld_7, e_ald_7, e_inc_7, e_ild_8, e_lld_8, e_ald_8, e_inc_8, e_ild_9, e_lld_9, e_ald_9, e_inc_9, e_ild_10, e_lld_10, e_ald_10, e_inc_10, e_ild_11, e_lld_11, e_ald_11, e_inc_11, e_ild_12, e_lld_12, e_ald_12, e_inc_12, e_ist, e_ast, e_lst, e_sto_0, e_sto_1i, e_sto_1r, e_sto_1u, e_sto_1l, e_sto_2i, e_sto_2r, e_sto_2u, e_sto_2l, e_sto_3i, e_sto_3r, e_sto_3u, e_sto_3l, e_sto_4i, e_sto_4r, e_sto_4u, e_sto_4l, e_sto_5i, e_sto_5r, e_sto_5u, e_sto_5l, e_sto_6i, e_sto_6r, e_sto_6u, e_sto_6l, e_sto_7i, e_sto_7r, e_sto_7u, e_sto_7l, e_sto_8i, e_sto_8r, e_sto_8u, e_sto_8l, e_sto_9i, e_sto_9r, e_sto_9u, e_sto_9l, e_sto_10i, e_sto_10r, e_sto_10u, e_sto_10l, e_sto_11i, e_sto_11r, e_sto_11u, e_sto_11l, e_sto_12i, e_sto_12r, e_sto_12u, e_sto_12l, e_stoL_0, e_stoL_1i, e_stoL_1r, e_stoL_1u, e_stoL_2i, e_stoL_2r, e_stoL_2u, e_stoL_3i, e_stoL_3r, e_stoL_3u, e_stoL_4i, e_stoL_4r, e_stoL_4u, e_stoL_5i, e_stoL_5r, e_stoL_5u, e_stoL_6i, e_stoL_6r, e_stoL_6u, e_stoL_7i, e_stoL_7r, e_stoL_7u, e_stoL_8i, e_stoL_8r, e_stoL_8u, e_stoL_9i, e_stoL_9r, e_stoL_9u, e_stoL_10i, e_stoL_10r, e_stoL_10u, e_stoL_11i, e_stoL_11r, e_stoL_11u, e_stoL_12i, e_stoL_12r, e_stoL_12u, e_ib, e_lb, e_ls, e_ii, e_i2l, e_l2i, e_lcmp, e_idiv, e_irem, e_dup_i, e_dup_r, e_dup2, e_pop, e_ifeq, e_iceq, e_ifne, e_icne, e_iflt, e_iclt, e_ifge, e_icge, e_ifgt, e_icgt, e_ifle, e_icle, e_sw, e_iret, e_nret, e_lret, e_aret, e_vret, e_get, e_puti, e_putl, e_iald, e_zald, e_iast, e_zast, e_lald, e_last, e_alen, e_nald, e_nlen, e_mmax, e_mmin, e_mabs, cont_v, cont_u, e_call0, e_call1, e_call2, e_call3, e_call4, e_call5, e_call6, e_callV0, e_callT0, e_callV1, e_callT1, e_callV2, e_callT2, e_callV3, e_callT3, e_callV4, e_callT4, e_callV5, e_callT5, lin_i, lin_r, lin_l, lin_n, lsz_i, lsz_r, lsz_l, lsz_n, rep_s, rep_0, mEnt_e, g5, c1, e5, r5, u1, nI_1, if_true, if_false, Bool.false_eq_true, Option.bind_some, List.length_cons, List.length_nil, Nat.reduceAdd, Nat.reduceLeDiff])
    (by
      rintro st L w3 ⟨rfl, rfl, ⟨Qk, d1, d2⟩, m3⟩
      have eQ := RwS_one d1 hR
      subst eQ
      have g5 : gt 5 5 24 w3 = some (.int (nI M)) := by rw [← hM]; exact gt_of d2.1 rfl
      have c1 : nI M ≤ nI M := nI_le (Nat.le_refl _) (by omega)
      obtain ⟨w4, y1, y2, y3, y4, y5⟩ := m_parkend (v := .int (nI M)) d2 hQ hM (hA25.kept (m3.2 25 (by decide))) ((m3.2 26 (by decide)).trans h26)
      refine ⟨_, ⟨w4, rfl, y2, y3, y4, (m3.mono (by decide)).tr (y5.mono (by decide))⟩, fun B => ?_⟩
      rw [e_ild_1, e_ald_0, e_get, g5]
      simp only [Option.bind_some, e_icge, c1, if_true]
      exact y1) 1000 (by omega)
  refine ⟨w', ?_, z3, z4, z5, z6⟩
  have z7 : jX5_park_13 [] [.ref 24, .int 0] w = some (some (.int (nI M)), w') := z1.trans z2
  simp only [FX5_park, jX5_park, e_push, e_ild_0, e_lld_0, e_ald_0, e_inc_0, e_ild_1, e_lld_1, e_ald_1, e_inc_1, e_ild_2, e_lld_2, e_ald_2, e_inc_2, e_ild_3, e_lld_3, e_ald_3, e_inc_3, e_ild_4, e_lld_4, e_ald_4, e_inc_4, e_ild_5, e_lld_5, e_ald_5, e_inc_5, e_ild_6, e_lld_6, e_ald_6, e_inc_6, e_ild_7, e_lld_7, e_ald_7, e_inc_7, e_ild_8, e_lld_8, e_ald_8, e_inc_8, e_ild_9, e_lld_9, e_ald_9, e_inc_9, e_ild_10, e_lld_10, e_ald_10, e_inc_10, e_ild_11, e_lld_11, e_ald_11, e_inc_11, e_ild_12, e_lld_12, e_ald_12, e_inc_12, e_ist, e_ast, e_lst, e_sto_0, e_sto_1i, e_sto_1r, e_sto_1u, e_sto_1l, e_sto_2i, e_sto_2r, e_sto_2u, e_sto_2l, e_sto_3i, e_sto_3r, e_sto_3u, e_sto_3l, e_sto_4i, e_sto_4r, e_sto_4u, e_sto_4l, e_sto_5i, e_sto_5r, e_sto_5u, e_sto_5l, e_sto_6i, e_sto_6r, e_sto_6u, e_sto_6l, e_sto_7i, e_sto_7r, e_sto_7u, e_sto_7l, e_sto_8i, e_sto_8r, e_sto_8u, e_sto_8l, e_sto_9i, e_sto_9r, e_sto_9u, e_sto_9l, e_sto_10i, e_sto_10r, e_sto_10u, e_sto_10l, e_sto_11i, e_sto_11r, e_sto_11u, e_sto_11l, e_sto_12i, e_sto_12r, e_sto_12u, e_sto_12l, e_stoL_0, e_stoL_1i, e_stoL_1r, e_stoL_1u, e_stoL_2i, e_stoL_2r, e_stoL_2u, e_stoL_3i, e_stoL_3r, e_stoL_3u, e_stoL_4i, e_stoL_4r, e_stoL_4u, e_stoL_5i, e_stoL_5r, e_stoL_5u, e_stoL_6i, e_stoL_6r, e_stoL_6u, e_stoL_7i, e_stoL_7r, e_stoL_7u, e_stoL_8i, e_stoL_8r, e_stoL_8u, e_stoL_9i, e_stoL_9r, e_stoL_9u, e_stoL_10i, e_stoL_10r, e_stoL_10u, e_stoL_11i, e_stoL_11r, e_stoL_11u, e_stoL_12i, e_stoL_12r, e_stoL_12u, e_ib, e_lb, e_ls, e_ii, e_i2l, e_l2i, e_lcmp, e_idiv, e_irem, e_dup_i, e_dup_r, e_dup2, e_pop, e_ifeq, e_iceq, e_ifne, e_icne, e_iflt, e_iclt, e_ifge, e_icge, e_ifgt, e_icgt, e_ifle, e_icle, e_sw, e_iret, e_nret, e_lret, e_aret, e_vret, e_get, e_puti, e_putl, e_iald, e_zald, e_iast, e_zast, e_lald, e_last, e_alen, e_nald, e_nlen, e_mmax, e_mmin, e_mabs, cont_v, cont_u, e_call0, e_call1, e_call2, e_call3, e_call4, e_call5, e_call6, e_callV0, e_callT0, e_callV1, e_callT1, e_callV2, e_callT2, e_callV3, e_callT3, e_callV4, e_callT4, e_callV5, e_callT5, lin_i, lin_r, lin_l, lin_n, lsz_i, lsz_r, lsz_l, lsz_n, rep_s, rep_0, mEnt_e, h24, hf, z7, if_true, if_false, Bool.false_eq_true, Option.bind_some, List.length_cons, List.length_nil, Nat.reduceAdd, Nat.reduceLeDiff]
theorem s_clear {b : Nat → Nat} {s e : Int32} (h : TxB w ln b s e) : FX3_clear [.ref 1] w = some (some (.int (nI ln)), w.set 1 (tx (nI 0) s e)) := by
  have g0 : gt 3 0 1 w = some (.int (nI ln)) := gt_of h.1 rfl
  have p0 : pt 3 0 1 (.int 0) w = some (w.set 1 (tx (nI 0) s e)) := pt_of h.1 (Nat.le_of_ble_eq_true rfl)
  simp only [FX3_clear, jX3_clear, e_push, e_ild_0, e_lld_0, e_ald_0, e_inc_0, e_ild_1, e_lld_1, e_ald_1, e_inc_1, e_ild_2, e_lld_2, e_ald_2, e_inc_2, e_ild_3, e_lld_3, e_ald_3, e_inc_3, e_ild_4, e_lld_4, e_ald_4, e_inc_4, e_ild_5, e_lld_5, e_ald_5, e_inc_5, e_ild_6, e_lld_6, e_ald_6, e_inc_6, e_ild_7, e_lld_7, e_ald_7, e_inc_7, e_ild_8, e_lld_8, e_ald_8, e_inc_8, e_ild_9, e_lld_9, e_ald_9, e_inc_9, e_ild_10, e_lld_10, e_ald_10, e_inc_10, e_ild_11, e_lld_11, e_ald_11, e_inc_11, e_ild_12, e_lld_12, e_ald_12, e_inc_12, e_ist, e_ast, e_lst, e_sto_0, e_sto_1i, e_sto_1r, e_sto_1u, e_sto_1l, e_sto_2i, e_sto_2r, e_sto_2u, e_sto_2l, e_sto_3i, e_sto_3r, e_sto_3u, e_sto_3l, e_sto_4i, e_sto_4r, e_sto_4u, e_sto_4l, e_sto_5i, e_sto_5r, e_sto_5u, e_sto_5l, e_sto_6i, e_sto_6r, e_sto_6u, e_sto_6l, e_sto_7i, e_sto_7r, e_sto_7u, e_sto_7l, e_sto_8i, e_sto_8r, e_sto_8u, e_sto_8l, e_sto_9i, e_sto_9r, e_sto_9u, e_sto_9l, e_sto_10i, e_sto_10r, e_sto_10u, e_sto_10l, e_sto_11i, e_sto_11r, e_sto_11u, e_sto_11l, e_sto_12i, e_sto_12r, e_sto_12u, e_sto_12l, e_stoL_0, e_stoL_1i, e_stoL_1r, e_stoL_1u, e_stoL_2i, e_stoL_2r, e_stoL_2u, e_stoL_3i, e_stoL_3r, e_stoL_3u, e_stoL_4i, e_stoL_4r, e_stoL_4u, e_stoL_5i, e_stoL_5r, e_stoL_5u, e_stoL_6i, e_stoL_6r, e_stoL_6u, e_stoL_7i, e_stoL_7r, e_stoL_7u, e_stoL_8i, e_stoL_8r, e_stoL_8u, e_stoL_9i, e_stoL_9r, e_stoL_9u, e_stoL_10i, e_stoL_10r, e_stoL_10u, e_stoL_11i, e_stoL_11r, e_stoL_11u, e_stoL_12i, e_stoL_12r, e_stoL_12u, e_ib, e_lb, e_ls, e_ii, e_i2l, e_l2i, e_lcmp, e_idiv, e_irem, e_dup_i, e_dup_r, e_dup2, e_pop, e_ifeq, e_iceq, e_ifne, e_icne, e_iflt, e_iclt, e_ifge, e_icge, e_ifgt, e_icgt, e_ifle, e_icle, e_sw, e_iret, e_nret, e_lret, e_aret, e_vret, e_get, e_puti, e_putl, e_iald, e_zald, e_iast, e_zast, e_lald, e_last, e_alen, e_nald, e_nlen, e_mmax, e_mmin, e_mabs, cont_v, cont_u, e_call0, e_call1, e_call2, e_call3, e_call4, e_call5, e_call6, e_callV0, e_callT0, e_callV1, e_callT1, e_callV2, e_callT2, e_callV3, e_callT3, e_callV4, e_callT4, e_callV5, e_callT5, lin_i, lin_r, lin_l, lin_n, lsz_i, lsz_r, lsz_l, lsz_n, rep_s, rep_0, mEnt_e, g0, p0, if_true, if_false, Bool.false_eq_true, Option.bind_some, List.length_cons, List.length_nil, Nat.reduceAdd, Nat.reduceLeDiff]
theorem wh_lw {Q : Pk} : WhOK Q (lwS (pW Q) (pn Q)) := by
  unfold lwS
  by_cases h : fa_first (fun p => (pW Q).testBit p) (pn Q) < pn Q
  · rw [if_pos h]
    exact Or.inr ⟨_, h, rfl, fa_first_yes (fun p => (pW Q).testBit p) (pn Q) h⟩
  · rw [if_neg h]; exact Or.inl rfl
theorem t_park (h : GI w P lic wh hr ln tb sc sp sh sg kp) : ∃ r w1 w2, FX4_park [.ref 0] w = some (some (.int r), w1) ∧ (∃ o, w1[24]? = some (.inr (5, o))) ∧ FX5_park [.ref 24] w1 = some (some (.int r), w2) ∧ GIx w2 := by
  obtain ⟨r, w1, a1, a2, a3, a4, a5⟩ := x_readLines h
  obtain ⟨⟨hlen, hO, hT, hR, ⟨hPk, hHr⟩, hK, hSn⟩, ⟨⟨J, hM⟩, ⟨⟨fr, hrow, hf0, hf1, hf2, hfk⟩, fk, hkept, hfk2⟩, hMT, hMJ, hMS⟩, hOK⟩ := id h
  obtain ⟨⟨hP, hLd⟩, hlic, hwh, hhr, hln, htb, hsc, hsn, hkp⟩ := hOK
  have hn := pn_le hP
  have hN := hP.2.2.2.2.1
  have hlic6 : lic < 64 := Nat.lt_of_lt_of_le hlic (two6 hN)
  have r4 : rc 4 0 w = true := rc_of hO
  have r1 : rc 1 5 w = true := rc_of hPk.1
  have r0 : rc 0 7 w = true := by obtain ⟨fs, bs, ms, ⟨z, -⟩, -⟩ := hHr; exact rc_of z
  have r5 : rc 5 24 w = true := rc_of hM.1
  have q0 : gt 4 0 0 w = some (.ref 1) := gt_of hO rfl
  have q2 : gt 4 2 0 w = some (.ref 5) := gt_of hO rfl
  have q3 : gt 4 3 0 w = some (.ref 7) := gt_of hO rfl
  have q6 : gt 4 6 0 w = some (.int (nI lic)) := gt_of hO rfl
  have q7 : gt 4 7 0 w = some (.int wh) := gt_of hO rfl
  have q8 : gt 4 8 0 w = some (.int (nI hr)) := gt_of hO rfl
  have q15 : gt 4 15 0 w = some (.int (nI sc)) := gt_of hO rfl
  have g0 : gt 5 0 24 w = some (.ref 25) := gt_of hM.1 rfl
  have l0 : ial 0 25 0 w = some (nI lic) := by
    have z := hrow.get (i := 0) (m := 0) rfl (by decide) (by decide)
    rw [hf0] at z; exact z
  have l1 : ial 0 25 1 w = some wh := by
    have z := hrow.get (i := 1) (m := 1) rfl (by decide) (by decide)
    rw [hf1] at z; exact z
  have l2 : ial 0 25 2 w = some (nI hr) := by
    have z := hrow.get (i := 2) (m := 2) rfl (by decide) (by decide)
    rw [hf2] at z; exact z
  have n10 : ¬ (1 : Int32) = 0 := by decide
  obtain ⟨hX, hMd, hS⟩ := id h
  obtain ⟨⟨l0, hr1⟩, -⟩ := id hR
  have q1 : gt 4 1 0 w = some (.ref 3) := gt_of hO rfl
  have q4 : gt 4 4 0 w = some (.ref 11) := gt_of hO rfl
  have r2 : rc 2 3 w = true := rc_of hr1
  have hMk := hMd.kept a4 (by intro j h1 h2; simp; omega)
  have hb : ∀ k, k < ln → bN tb k < 256 := fun k hk => (bN_ok htb hk).1
  have hXI : XI w1 P lic wh hr ln tb sc sp sh sg kp := ⟨a4.1.trans hlen, hX.2.1.kept a4 (by decide), a3, a2, hX.2.2.2.2.1.kept a4 (by decide), hX.2.2.2.2.2.1.kept a4 (by decide), hX.2.2.2.2.2.2.kept a4 (by decide)⟩
  rcases a5 with ⟨s, y1, y2⟩ | ⟨Q, t, y1, y2, y3, y4, y5, y6, y7⟩
  · -- a fault
    subst y2
    have hs := al_le 12 P 0 s (Nat.zero_le _) y1
    have ns : ¬ nI s = -1 := whne (by omega)
    obtain ⟨⟨J1, hM1⟩, hMR1, i1, i2, i3⟩ := id hMk
    obtain ⟨⟨f28, j1⟩, f30, j2⟩ := id i2
    obtain ⟨r', w2, b1, b2, b3⟩ := m_fault hln hb hP hLd hM1 (MT_x i1 htb) j1
    rcases b3 with ⟨s', J, f, z1, z2, z3, z4⟩ | ⟨Q', t', J, f, z1, -⟩
    · rw [y1] at z1
      have e := Sum.inl.inj z1
      subst e
      subst z2
      have r5' : rc 5 24 w1 = true := rc_of hM1.1
      refine ⟨-4, w1, w2, ?_, ⟨_, hM1.1⟩, ?_, GI.join (T := [24, 28]) (P' := P) (lic' := lic) (wh' := wh) (hr' := hr) (ln' := ln) (tb' := tb) (sc' := sc) (sp' := sp) (sh' := sh) (sg' := sg) (kp' := kp) hXI ⟨⟨J, z3⟩, hMR1.kept b2 (by decide) (by decide), i1.kept b2 (by decide), ⟨⟨f, z4⟩, f30, j2.kept (b2.2 30 (by decide))⟩, i3.kept b2 (by decide)⟩ hS b2 (by intro j hj; simp; omega)⟩
      · simp only [FX4_park, jX4_park, e_push, e_ild_0, e_lld_0, e_ald_0, e_inc_0, e_ild_1, e_lld_1, e_ald_1, e_inc_1, e_ild_2, e_lld_2, e_ald_2, e_inc_2, e_ild_3, e_lld_3, e_ald_3, e_inc_3, e_ild_4, e_lld_4, e_ald_4, e_inc_4, e_ild_5, e_lld_5, e_ald_5, e_inc_5, e_ild_6, e_lld_6, e_ald_6, e_inc_6, e_ild_7, e_lld_7, e_ald_7, e_inc_7, e_ild_8, e_lld_8, e_ald_8, e_inc_8, e_ild_9, e_lld_9, e_ald_9, e_inc_9, e_ild_10, e_lld_10, e_ald_10, e_inc_10, e_ild_11, e_lld_11, e_ald_11, e_inc_11, e_ild_12, e_lld_12, e_ald_12, e_inc_12, e_ist, e_ast, e_lst, e_sto_0, e_sto_1i, e_sto_1r, e_sto_1u, e_sto_1l, e_sto_2i, e_sto_2r, e_sto_2u, e_sto_2l, e_sto_3i, e_sto_3r, e_sto_3u, e_sto_3l, e_sto_4i, e_sto_4r, e_sto_4u, e_sto_4l, e_sto_5i, e_sto_5r, e_sto_5u, e_sto_5l, e_sto_6i, e_sto_6r, e_sto_6u, e_sto_6l, e_sto_7i, e_sto_7r, e_sto_7u, e_sto_7l, e_sto_8i, e_sto_8r, e_sto_8u, e_sto_8l, e_sto_9i, e_sto_9r, e_sto_9u, e_sto_9l, e_sto_10i, e_sto_10r, e_sto_10u, e_sto_10l, e_sto_11i, e_sto_11r, e_sto_11u, e_sto_11l, e_sto_12i, e_sto_12r, e_sto_12u, e_sto_12l, e_stoL_0, e_stoL_1i, e_stoL_1r, e_stoL_1u, e_stoL_2i, e_stoL_2r, e_stoL_2u, e_stoL_3i, e_stoL_3r, e_stoL_3u, e_stoL_4i, e_stoL_4r, e_stoL_4u, e_stoL_5i, e_stoL_5r, e_stoL_5u, e_stoL_6i, e_stoL_6r, e_stoL_6u, e_stoL_7i, e_stoL_7r, e_stoL_7u, e_stoL_8i, e_stoL_8r, e_stoL_8u, e_stoL_9i, e_stoL_9r, e_stoL_9u, e_stoL_10i, e_stoL_10r, e_stoL_10u, e_stoL_11i, e_stoL_11r, e_stoL_11u, e_stoL_12i, e_stoL_12r, e_stoL_12u, e_ib, e_lb, e_ls, e_ii, e_i2l, e_l2i, e_lcmp, e_idiv, e_irem, e_dup_i, e_dup_r, e_dup2, e_pop, e_ifeq, e_iceq, e_ifne, e_icne, e_iflt, e_iclt, e_ifge, e_icge, e_ifgt, e_icgt, e_ifle, e_icle, e_sw, e_iret, e_nret, e_lret, e_aret, e_vret, e_get, e_puti, e_putl, e_iald, e_zald, e_iast, e_zast, e_lald, e_last, e_alen, e_nald, e_nlen, e_mmax, e_mmin, e_mabs, cont_v, cont_u, e_call0, e_call1, e_call2, e_call3, e_call4, e_call5, e_call6, e_callV0, e_callT0, e_callV1, e_callT1, e_callV2, e_callT2, e_callV3, e_callT3, e_callV4, e_callT4, e_callV5, e_callT5, lin_i, lin_r, lin_l, lin_n, lsz_i, lsz_r, lsz_l, lsz_n, rep_s, rep_0, mEnt_e, q0, q1, q2, q4, r2, a1, ns, if_true, if_false, Bool.false_eq_true, Option.bind_some, List.length_cons, List.length_nil, Nat.reduceAdd, Nat.reduceLeDiff]
      · simp only [FX5_park, jX5_park, e_push, e_ild_0, e_lld_0, e_ald_0, e_inc_0, e_ild_1, e_lld_1, e_ald_1, e_inc_1, e_ild_2, e_lld_2, e_ald_2, e_inc_2, e_ild_3, e_lld_3, e_ald_3, e_inc_3, e_ild_4, e_lld_4, e_ald_4, e_inc_4, e_ild_5, e_lld_5, e_ald_5, e_inc_5, e_ild_6, e_lld_6, e_ald_6, e_inc_6, e_ild_7, e_lld_7, e_ald_7, e_inc_7, e_ild_8, e_lld_8, e_ald_8, e_inc_8, e_ild_9, e_lld_9, e_ald_9, e_inc_9, e_ild_10, e_lld_10, e_ald_10, e_inc_10, e_ild_11, e_lld_11, e_ald_11, e_inc_11, e_ild_12, e_lld_12, e_ald_12, e_inc_12, e_ist, e_ast, e_lst, e_sto_0, e_sto_1i, e_sto_1r, e_sto_1u, e_sto_1l, e_sto_2i, e_sto_2r, e_sto_2u, e_sto_2l, e_sto_3i, e_sto_3r, e_sto_3u, e_sto_3l, e_sto_4i, e_sto_4r, e_sto_4u, e_sto_4l, e_sto_5i, e_sto_5r, e_sto_5u, e_sto_5l, e_sto_6i, e_sto_6r, e_sto_6u, e_sto_6l, e_sto_7i, e_sto_7r, e_sto_7u, e_sto_7l, e_sto_8i, e_sto_8r, e_sto_8u, e_sto_8l, e_sto_9i, e_sto_9r, e_sto_9u, e_sto_9l, e_sto_10i, e_sto_10r, e_sto_10u, e_sto_10l, e_sto_11i, e_sto_11r, e_sto_11u, e_sto_11l, e_sto_12i, e_sto_12r, e_sto_12u, e_sto_12l, e_stoL_0, e_stoL_1i, e_stoL_1r, e_stoL_1u, e_stoL_2i, e_stoL_2r, e_stoL_2u, e_stoL_3i, e_stoL_3r, e_stoL_3u, e_stoL_4i, e_stoL_4r, e_stoL_4u, e_stoL_5i, e_stoL_5r, e_stoL_5u, e_stoL_6i, e_stoL_6r, e_stoL_6u, e_stoL_7i, e_stoL_7r, e_stoL_7u, e_stoL_8i, e_stoL_8r, e_stoL_8u, e_stoL_9i, e_stoL_9r, e_stoL_9u, e_stoL_10i, e_stoL_10r, e_stoL_10u, e_stoL_11i, e_stoL_11r, e_stoL_11u, e_stoL_12i, e_stoL_12r, e_stoL_12u, e_ib, e_lb, e_ls, e_ii, e_i2l, e_l2i, e_lcmp, e_idiv, e_irem, e_dup_i, e_dup_r, e_dup2, e_pop, e_ifeq, e_iceq, e_ifne, e_icne, e_iflt, e_iclt, e_ifge, e_icge, e_ifgt, e_icgt, e_ifle, e_icle, e_sw, e_iret, e_nret, e_lret, e_aret, e_vret, e_get, e_puti, e_putl, e_iald, e_zald, e_iast, e_zast, e_lald, e_last, e_alen, e_nald, e_nlen, e_mmax, e_mmin, e_mabs, cont_v, cont_u, e_call0, e_call1, e_call2, e_call3, e_call4, e_call5, e_call6, e_callV0, e_callT0, e_callV1, e_callT1, e_callV2, e_callT2, e_callV3, e_callT3, e_callV4, e_callT4, e_callV5, e_callT5, lin_i, lin_r, lin_l, lin_n, lsz_i, lsz_r, lsz_l, lsz_n, rep_s, rep_0, mEnt_e, r5', b1, ns, if_true, if_false, Bool.false_eq_true, Option.bind_some, List.length_cons, List.length_nil, Nat.reduceAdd, Nat.reduceLeDiff]
    · rw [y1] at z1; nomatch z1
  · -- told anew
    subst y2
    -- the class
    have o1 : XO w1 lic wh hr sc := hX.2.1.kept a4 (by decide)
    have pk1 : PkAt w1 5 6 P := hPk.kept (a4.2 5 (by decide)) (a4.2 6 (by decide))
    obtain ⟨w2, b1, b2, b3⟩ := s_become pk1 y3 (by decide)
    have o2 : XO w2 lic wh hr sc := o1.kept b3 (by decide)
    obtain ⟨fs, bs, ms, hH, -⟩ := (hHr.kept (a4.2 7 (by decide)) (a4.2 8 (by decide)) (a4.2 9 (by decide)) (a4.2 10 (by decide)) : HrAt w1 7 8 9 10 P)
    have hH2 : HrRaw w2 7 8 9 10 (pn P) (pW P) fs bs ms := hH.kept (b3.2 7 (by decide)) (b3.2 8 (by decide)) (b3.2 9 (by decide)) (b3.2 10 (by decide))
    obtain ⟨w3, c1, c2, c3, c4⟩ := s_listen hH2 b2 y4 (by decide)
    have o3 : XO w3 lic wh hr sc := o2.kept c4 (by decide)
    have hT3 : XT w3 ln tb := (a3.kept b3 (by decide) (by decide)).kept c4 (by decide) (by decide)
    obtain ⟨⟨ts, te, hT1⟩, g2, hg1, hg2⟩ := id hT3
    have hTx : TxB w3 ln (bN tb) ts te := ⟨hT1, g2, hg1, fun k hk => by rw [hg2 k hk, (bN_ok htb hk).2]⟩
    have d1 := s_clear hTx
    have m4 : Sm [1] w3 (w3.set 1 (tx (nI 0) ts te)) := Sm.set (by simp)
    have hT4 : (w3.set 1 (tx (nI 0) ts te))[1]? = some (tx (nI 0) ts te) := set_at hT1
    generalize w3.set 1 (tx (nI 0) ts te) = w4 at *
    have o4 : XO w4 lic wh hr sc := o3.kept m4 (by decide)
    have pk4 : PkAt w4 5 6 Q := c3.kept (m4.2 5 (by decide)) (m4.2 6 (by decide))
    obtain ⟨fl, fw, fh, k1, k2, k3, k4⟩ := (((hX.2.2.2.2.2.1.kept a4 (by decide)).kept b3 (by decide)).kept c4 (by decide)).kept m4 (by decide)
    obtain ⟨w5, e1, e2, ⟨f19, e3, e4⟩, e5⟩ := x_startAnew o4 pk4 y4 k3
    have m15 : Sm [0, 1, 5, 6, 7, 8, 9, 10, 19] w1 w5 := (((b3.mono (by decide)).tr (c4.mono (by decide))).tr (m4.mono (by decide))).tr (e5.mono (by decide))
    have h35 : w5[3]? = some (rd (nI (12 - t))) := (m15.2 3 (by decide)).trans y7
    have hclass : FX4_park [.ref 0] w = some (some (.int (nI (12 - t))), w5) := by
      have v2 : gt 4 2 0 w1 = some (.ref 5) := gt_of o1 rfl
      have v4 : gt 4 4 0 w1 = some (.ref 11) := gt_of o1 rfl
      have v1 : rc 1 5 w1 = true := rc_of pk1.1
      have v3 : gt 4 3 0 w2 = some (.ref 7) := gt_of o2 rfl
      have v2' : gt 4 2 0 w2 = some (.ref 5) := gt_of o2 rfl
      have v0 : rc 0 7 w2 = true := rc_of hH2.1
      have v5 : gt 4 0 0 w3 = some (.ref 1) := gt_of o3 rfl
      have v6 : rc 3 1 w3 = true := rc_of hT1
      have v7 : rc 4 0 w4 = true := rc_of o4
      have v8 : gt 4 1 0 w5 = some (.ref 3) := gt_of e2 rfl
      have v9 : gt 2 0 3 w5 = some (.int (nI (12 - t))) := gt_of h35 rfl
      simp only [FX4_park, jX4_park, e_push, e_ild_0, e_lld_0, e_ald_0, e_inc_0, e_ild_1, e_lld_1, e_ald_1, e_inc_1, e_ild_2, e_lld_2, e_ald_2, e_inc_2, e_ild_3, e_lld_3, e_ald_3, e_inc_3, e_ild_4, e_lld_4, e_ald_4, e_inc_4, e_ild_5, e_lld_5, e_ald_5, e_inc_5, e_ild_6, e_lld_6, e_ald_6, e_inc_6, e_ild_7, e_lld_7, e_ald_7, e_inc_7, e_ild_8, e_lld_8, e_ald_8, e_inc_8, e_ild_9, e_lld_9, e_ald_9, e_inc_9, e_ild_10, e_lld_10, e_ald_10, e_inc_10, e_ild_11, e_lld_11, e_ald_11, e_inc_11, e_ild_12, e_lld_12, e_ald_12, e_inc_12, e_ist, e_ast, e_lst, e_sto_0, e_sto_1i, e_sto_1r, e_sto_1u, e_sto_1l, e_sto_2i, e_sto_2r, e_sto_2u, e_sto_2l, e_sto_3i, e_sto_3r, e_sto_3u, e_sto_3l, e_sto_4i, e_sto_4r, e_sto_4u, e_sto_4l, e_sto_5i, e_sto_5r, e_sto_5u, e_sto_5l, e_sto_6i, e_sto_6r, e_sto_6u, e_sto_6l, e_sto_7i, e_sto_7r, e_sto_7u, e_sto_7l, e_sto_8i, e_sto_8r, e_sto_8u, e_sto_8l, e_sto_9i, e_sto_9r, e_sto_9u, e_sto_9l, e_sto_10i, e_sto_10r, e_sto_10u, e_sto_10l, e_sto_11i, e_sto_11r, e_sto_11u, e_sto_11l, e_sto_12i, e_sto_12r, e_sto_12u, e_sto_12l, e_stoL_0, e_stoL_1i, e_stoL_1r, e_stoL_1u, e_stoL_2i, e_stoL_2r, e_stoL_2u, e_stoL_3i, e_stoL_3r, e_stoL_3u, e_stoL_4i, e_stoL_4r, e_stoL_4u, e_stoL_5i, e_stoL_5r, e_stoL_5u, e_stoL_6i, e_stoL_6r, e_stoL_6u, e_stoL_7i, e_stoL_7r, e_stoL_7u, e_stoL_8i, e_stoL_8r, e_stoL_8u, e_stoL_9i, e_stoL_9r, e_stoL_9u, e_stoL_10i, e_stoL_10r, e_stoL_10u, e_stoL_11i, e_stoL_11r, e_stoL_11u, e_stoL_12i, e_stoL_12r, e_stoL_12u, e_ib, e_lb, e_ls, e_ii, e_i2l, e_l2i, e_lcmp, e_idiv, e_irem, e_dup_i, e_dup_r, e_dup2, e_pop, e_ifeq, e_iceq, e_ifne, e_icne, e_iflt, e_iclt, e_ifge, e_icge, e_ifgt, e_icgt, e_ifle, e_icle, e_sw, e_iret, e_nret, e_lret, e_aret, e_vret, e_get, e_puti, e_putl, e_iald, e_zald, e_iast, e_zast, e_lald, e_last, e_alen, e_nald, e_nlen, e_mmax, e_mmin, e_mabs, cont_v, cont_u, e_call0, e_call1, e_call2, e_call3, e_call4, e_call5, e_call6, e_callV0, e_callT0, e_callV1, e_callT1, e_callV2, e_callT2, e_callV3, e_callT3, e_callV4, e_callT4, e_callV5, e_callT5, lin_i, lin_r, lin_l, lin_n, lsz_i, lsz_r, lsz_l, lsz_n, rep_s, rep_0, mEnt_e, q0, q1, q2, q4, r2, a1, v2, v4, v1, b1, v3, v2', v0, c1, v5, v6, d1, v7, e1, v8, v9, if_true, if_false, Bool.false_eq_true, Option.bind_some, List.length_cons, List.length_nil, Nat.reduceAdd, Nat.reduceLeDiff]
    -- the model
    have hMk5 := hMk.kept m15 (by intro j h1 h2; simp; omega)
    obtain ⟨⟨J1, hM1⟩, hMR1, i1, i2, i3⟩ := id hMk5
    obtain ⟨⟨f28, j1⟩, f30, j2⟩ := id i2
    obtain ⟨⟨f25, p1, -⟩, g26, p2, -⟩ := id hMR1
    obtain ⟨r', w6, s1, s2, s3⟩ := m_fault hln hb hP hLd hM1 (MT_x i1 htb) j1
    have r5' : rc 5 24 w5 = true := rc_of hM1.1
    rcases s3 with ⟨s', J, f, z1, -⟩ | ⟨Q', t', J, f, z1, z2, z3, z4, z5, z6, z7⟩
    · rw [y1] at z1; nomatch z1
    · rw [y1] at z1
      obtain ⟨z8, z9⟩ := Prod.mk.inj (Sum.inr.inj z1)
      subst z8
      subst z9
      subst z2
      obtain ⟨w7, n1, n2, ⟨f', n3, n4, n5, n6⟩, ⟨g', n7, n8⟩, n9⟩ := m_park2 (P := P) r5' s1 hP hLd z3 z4 (by omega) z5 z6 (p1.kept (s2.2 25 (by decide))) ((s2.2 26 (by decide)).trans p2)
      have m57 : Sm [24, 25, 26, 28, 29] w5 w7 := (s2.mono (by decide)).tr (n9.mono (by decide))
      have hlen5 : w5.length = 32 := (m15.1.trans a4.1).trans hlen
      have hpos : 0 < 2 ^ pN Q := Nat.two_pow_pos _
      refine ⟨nI (12 - t), w5, w7, hclass, ⟨_, hM1.1⟩, n1, GI.join (T := [24, 25, 26, 28, 29]) (P' := Q) (lic' := 2 ^ pN Q - 1) (wh' := lwS (pW Q) (pn Q)) (hr' := 0) (ln' := 0) (tb' := tb) (sc' := 0) (sp' := sp) (sh' := sh) (sg' := sg) (kp' := fun _ => none) ?_ ?_ ?_ m57 (by intro j hj; simp; omega)⟩
      · refine ⟨hlen5, e2, ⟨⟨ts, te, (e5.2 1 (by decide)).trans hT4⟩, g2, (hg1.kept (m4.2 2 (by decide))).kept (e5.2 2 (by decide)), fun k hk => absurd hk (by omega)⟩, a2.kept m15 (by decide), ⟨pk4.kept (e5.2 5 (by decide)) (e5.2 6 (by decide)), (c2.kept (m4.2 7 (by decide)) (m4.2 8 (by decide)) (m4.2 9 (by decide)) (m4.2 10 (by decide))).kept (e5.2 7 (by decide)) (e5.2 8 (by decide)) (e5.2 9 (by decide)) (e5.2 10 (by decide))⟩, ⟨fl, fw, f19, k1.kept (e5.2 17 (by decide)), k2.kept (e5.2 18 (by decide)), e3, fun k hk => ⟨fun _ => e4 k hk, fun q hq => nomatch hq⟩⟩, ?_⟩
        obtain ⟨f1, f2, f3, s1', s2', s3', -⟩ := (hXI.2.2.2.2.2.2).kept m15 (by decide)
        exact ⟨f1, f2, f3, s1', s2', s3', fun k hk => absurd hk (by omega)⟩
      · refine ⟨⟨J, n2⟩, ⟨⟨f', n3, n4, n5, n6, fun k hk q hq => nomatch hq⟩, g', n7, fun k hk => by rw [n8 k hk]; rfl⟩, ?_, ⟨⟨f, (z5.kept (n9.2 28 (by decide)))⟩, f30, j2.kept (m57.2 30 (by decide))⟩, ?_⟩
        · obtain ⟨g27, x1, -⟩ := i1.kept m57 (by decide)
          exact ⟨g27, x1, fun k hk => absurd hk (by omega)⟩
        · obtain ⟨f31, x1, -⟩ := i3.kept m57 (by decide)
          exact ⟨f31, x1, fun k hk => absurd hk (by omega)⟩
      · exact ⟨⟨y4, y5⟩, by omega, wh_lw, by decide, by decide, fun k hk => absurd hk (by omega), by decide, fun k hk => absurd hk (by omega), fun k hk q hq => nomatch hq⟩
end TPARK
