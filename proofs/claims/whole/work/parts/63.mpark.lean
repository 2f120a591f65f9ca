/-! fault, park: both alike -/
theorem RwS_one {f : Nat → Int32} {P : Pk} : ∀ {m : Nat} {Q Q' : Pk}, RwS f P m Q → RwS f P m Q' → Q = Q'
  | 0, Q, Q', h, h' => by
    have e1 : Q = P := h
    have e2 : Q' = P := h'
    rw [e1, e2]
  | m + 1, Q, Q', h, h' => by
    obtain ⟨Q0, k, n, h1, h2, h3, h4, h5⟩ := h
    obtain ⟨Q1, k', n', g1, g2, g3, g4, g5⟩ := h'
    have hk := h2.1
    have hk' := g2.1
    have ek : k = k' := (nI_eq (by omega) (by omega)).mp (h3.symm.trans g3)
    subst ek
    have eQ := RwS_one h1 g1
    subst eQ
    rw [h5, g5]
    exact doS_cong hk (fun j hj => (h4 j hj).symm.trans (g4 j hj))
theorem RwS_at {f : Nat → Int32} {P : Pk} : ∀ {M : Nat} {Q : Pk}, RwS f P M Q → ∀ k, k < M → ∃ Q0 kk n, RwS f P k Q0 ∧ LnOK Q0 kk n ∧ f (5 * k) = nI kk ∧ ∀ j, j < nNS kk → f (5 * k + 1 + j) = n j
  | 0, Q, _, k, hk => absurd hk (by omega)
  | M + 1, Q, h, k, hk => by
    obtain ⟨Q0, kk, n, h1, h2, h3, h4, h5⟩ := h
    by_cases hkM : k = M
    · subst hkM; exact ⟨Q0, kk, n, h1, h2, h3, h4⟩
    · exact RwS_at h1 k (by omega)
theorem RwS_ok {f : Nat → Int32} {P : Pk} (hP : PkOK P) (hL : LdOK P) : ∀ {m : Nat} {Q : Pk}, RwS f P m Q → PkOK Q ∧ LdOK Q
  | 0, Q, h => by
    have e : Q = P := h
    rw [e]; exact ⟨hP, hL⟩
  | m + 1, Q, h => by
    obtain ⟨Q0, k, n, h1, h2, h3, h4, h5⟩ := h
    obtain ⟨a1, a2⟩ := RwS_ok hP hL h1
    rw [h5]; exact doS_ok a1 a2 h2
/-- the least of walk, from the last place down -/
def dwS (W n : Nat) : Nat → Int32
  | 0 => -1
  | k + 1 => if W.testBit (n - k - 1) then nI (n - k - 1) else dwS W n k
theorem dwS_no {W n : Nat} : ∀ k, k ≤ n → (∀ p, n - k ≤ p → p < n → W.testBit p = false) → dwS W n k = -1
  | 0, _, _ => rfl
  | k + 1, hk, h => by
    rw [dwS, h (n - k - 1) (by omega) (by omega)]
    exact dwS_no k (by omega) (fun p h1 h2 => h p (by omega) h2)
theorem dwS_yes {W n p0 : Nat} (h1 : p0 < n) (h2 : W.testBit p0 = true) : ∀ k, k ≤ n → n - k ≤ p0 → (∀ p, n - k ≤ p → p < p0 → W.testBit p = false) → dwS W n k = nI p0
  | 0, _, h, _ => absurd h1 (by omega)
  | k + 1, hk, h, h3 => by
    rw [dwS]
    by_cases hp : n - k - 1 = p0
    · rw [hp, h2]; rfl
    · rw [h3 (n - k - 1) (by omega) (by omega)]
      exact dwS_yes h1 h2 k (by omega) (by omega) (fun p h4 h5 => h3 p (by omega) h5)
theorem dwS_lw (W n : Nat) : dwS W n n = lwS W n := by
  unfold lwS
  by_cases h : fa_first (fun p => W.testBit p) n < n
  · rw [if_pos h]
    exact dwS_yes h (fa_first_yes (fun p => W.testBit p) n h) n (Nat.le_refl _) (by omega) (fun p _ hp => fa_first_no (fun p => W.testBit p) n p hp)
  · rw [if_neg h]
    exact dwS_no n (Nat.le_refl _) (fun p _ hp => fa_first_no (fun p => W.testBit p) n p (by have := fa_first_le (fun p => W.testBit p) n; omega))
section MPARK
variable {w : List va_E} {P Q : Pk} {ln sn : Int32} {J : Jk}
theorem m_parkfin {f : Nat → Int32} {g : Nat → Int32} {v : Value} {M : Nat} (h : w[24]? = some (mdc Q ln sn J)) (hM : J.1 = nI M) (hA : Ar w 25 9 f) (h26 : w[26]? = some (za 2 g)) : ∃ w', (i_ald 0 (i_get 5 0 (i_push (.int 2) (i_push (.int 0) (i_iast (i_ald 0 (i_push (.int 0) (i_puti 5 24 (i_ald 0 (i_get 5 1 (i_push (.int 0) (i_push (.int 0) (i_zast (i_ald 0 (i_get 5 1 (i_push (.int 1) (i_push (.int 0) (i_zast (i_ald 0 (i_push (.int 0) (i_puti 5 3 (i_ald 0 (i_get 5 5 (i_iret)))))))))))))))))))))))) [] [.ref 24, v] w = some (some (.int (nI M)), w') ∧ w'[24]? = some (mdc Q (nI 0) (nI 0) J) ∧ Ar w' 25 9 (upd f 2 0) ∧ (∃ g', w'[26]? = some (za 2 g') ∧ ∀ k, k < 2 → g' k = 0) ∧ Sm [24, 25, 26] w w' := by
  have g0 : gt 5 0 24 w = some (.ref 25) := gt_of h rfl
  obtain ⟨w1, u1, u2, u3⟩ := hA.put (x := 0) (i := 2) (m := 2) rfl (by decide) (by decide)
  have h1 := (u3.2 24 (by decide)).trans h
  have p24 : pt 5 24 24 (.int 0) w1 = some (w1.set 24 (mdc Q ln (nI 0) J)) := by
    have z := pt_of (j := 24) (v := .int 0) h1 (Nat.le_of_ble_eq_true rfl)
    rw [z]; rfl
  have m2 : Sm [24] w1 (w1.set 24 (mdc Q ln (nI 0) J)) := Sm.set (by simp)
  have h2 : (w1.set 24 (mdc Q ln (nI 0) J))[24]? = some (mdc Q ln (nI 0) J) := set_at h1
  generalize w1.set 24 (mdc Q ln (nI 0) J) = w2 at *
  have g1 : gt 5 1 24 w2 = some (.ref 26) := gt_of h2 rfl
  have z2 : w2[26]? = some (za 2 g) := ((m2.2 26 (by decide)).trans (u3.2 26 (by decide))).trans h26
  have v1 : ias 2 26 0 (vp_nar .boolean 0) w2 = some (w2.set 26 (za 2 (upd g 0 0))) := zas_n z2 (m := 0) rfl (by decide) (by decide)
  have m3 : Sm [26] w2 (w2.set 26 (za 2 (upd g 0 0))) := Sm.set (by simp)
  have z3 : (w2.set 26 (za 2 (upd g 0 0)))[26]? = some (za 2 (upd g 0 0)) := set_at z2
  generalize w2.set 26 (za 2 (upd g 0 0)) = w3 at *
  have h3 := (m3.2 24 (by decide)).trans h2
  have g1' : gt 5 1 24 w3 = some (.ref 26) := gt_of h3 rfl
  have v2 : ias 2 26 1 (vp_nar .boolean 0) w3 = some (w3.set 26 (za 2 (upd (upd g 0 0) 1 0))) := zas_n z3 (m := 1) rfl (by decide) (by decide)
  have m4 : Sm [26] w3 (w3.set 26 (za 2 (upd (upd g 0 0) 1 0))) := Sm.set (by simp)
  have z4 : (w3.set 26 (za 2 (upd (upd g 0 0) 1 0)))[26]? = some (za 2 (upd (upd g 0 0) 1 0)) := set_at z3
  generalize w3.set 26 (za 2 (upd (upd g 0 0) 1 0)) = w4 at *
  have h4 := (m4.2 24 (by decide)).trans h3
  have p3 : pt 5 3 24 (.int 0) w4 = some (w4.set 24 (mdc Q (nI 0) (nI 0) J)) := by
    have z := pt_of (j := 3) (v := .int 0) h4 (Nat.le_of_ble_eq_true rfl)
    rw [z]; rfl
  have m5 : Sm [24] w4 (w4.set 24 (mdc Q (nI 0) (nI 0) J)) := Sm.set (by simp)
  have h5 : (w4.set 24 (mdc Q (nI 0) (nI 0) J))[24]? = some (mdc Q (nI 0) (nI 0) J) := set_at h4
  generalize w4.set 24 (mdc Q (nI 0) (nI 0) J) = w5 at *
  have g5 : gt 5 5 24 w5 = some (.int (nI M)) := by rw [← hM]; exact gt_of h5 rfl
  refine ⟨w5, ?_, h5, ?_, ⟨_, (m5.2 26 (by decide)).trans z4, ?_⟩, ?_⟩
  · simp only [e_push, e_ild_0, e_lld_0, e_ald_0, e_inc_0, e_ild_1, e_lld_1, e_ald_1, e_inc_1, e_ild_2, e_lld_2, e_ald_2, e_inc_2, e_ild_3, e_lld_3, e_ald_3, e_inc_3, e_ild_4, e_lld_4, e_ald_4, e_inc_4, e_ild_5, e_lld_5, e_ald_5, e_inc_5, e_ild_6, e_lld_6, e_ald_6, e_inc_6, e_ild_7, e_lld_7, e_ald_7, e_inc_7, e_ild_8, e_lld_8, e_ald_8, e_inc_8, e_ild_9, e_lld_9, e_ald_9, e_inc_9, e_ild_10, e_lld_10, e_ald_10, e_inc_10, e_ild_11, e_lld_11, e_ald_11, e_inc_11, e_ild_12, e_lld_12, e_ald_12, e_inc_12, e_ist, e_ast, e_lst, e_sto_0, e_sto_1i, e_sto_1r, e_sto_1u, e_sto_1l, e_sto_2i, e_sto_2r, e_sto_2u, e_sto_2l, e_sto_3i, e_sto_3r, e_sto_3u, e_sto_3l, e_sto_4i, e_sto_4r, e_sto_4u, e_sto_4l, e_sto_5i, e_sto_5r, e_sto_5u, e_sto_5l, e_sto_6i, e_sto_6r, e_sto_6u, e_sto_6l, e_sto_7i, e_sto_7r, e_sto_7u, e_sto_7l, e_sto_8i, e_sto_8r, e_sto_8u, e_sto_8l, e_sto_9i, e_sto_9r, e_sto_9u, e_sto_9l, e_sto_10i, e_sto_10r, e_sto_10u, e_sto_10l, e_sto_11i, e_sto_11r, e_sto_11u, e_sto_11l, e_sto_12i, e_sto_12r, e_sto_12u, e_sto_12l, e_stoL_0, e_stoL_1i, e_stoL_1r, e_stoL_1u, e_stoL_2i, e_stoL_2r, e_stoL_2u, e_stoL_3i, e_stoL_3r, e_stoL_3u, e_stoL_4i, e_stoL_4r, e_stoL_4u, e_stoL_5i, e_stoL_5r, e_stoL_5u, e_stoL_6i, e_stoL_6r, e_stoL_6u, e_stoL_7i, e_stoL_7r, e_stoL_7u, e_stoL_8i, e_stoL_8r, e_stoL_8u, e_stoL_9i, e_stoL_9r, e_stoL_9u, e_stoL_10i, e_stoL_10r, e_stoL_10u, e_stoL_11i, e_stoL_11r, e_stoL_11u, e_stoL_12i, e_stoL_12r, e_stoL_12u, e_ib, e_lb, e_ls, e_ii, e_i2l, e_l2i, e_lcmp, e_idiv, e_irem, e_dup_i, e_dup_r, e_dup2, e_pop, e_ifeq, e_iceq, e_ifne, e_icne, e_iflt, e_iclt, e_ifge, e_icge, e_ifgt, e_icgt, e_ifle, e_icle, e_sw, e_iret, e_nret, e_lret, e_aret, e_vret, e_get, e_puti, e_putl, e_iald, e_zald, e_iast, e_zast, e_lald, e_last, e_alen, e_nald, e_nlen, e_mmax, e_mmin, e_mabs, cont_v, cont_u, e_call0, e_call1, e_call2, e_call3, e_call4, e_call5, e_call6, e_callV0, e_callT0, e_callV1, e_callT1, e_callV2, e_callT2, e_callV3, e_callT3, e_callV4, e_callT4, e_callV5, e_callT5, lin_i, lin_r, lin_l, lin_n, lsz_i, lsz_r, lsz_l, lsz_n, rep_s, rep_0, mEnt_e, g0, u1, p24, g1, v1, g1', v2, p3, g5, if_true, if_false, Bool.false_eq_true, Option.bind_some, List.length_cons, List.length_nil, Nat.reduceAdd, Nat.reduceLeDiff]
  · exact (((u2.kept (m2.2 25 (by decide))).kept (m3.2 25 (by decide))).kept (m4.2 25 (by decide))).kept (m5.2 25 (by decide))
  · intro k hk
    rcases (show k = 0 ∨ k = 1 by omega) with rfl | rfl
    · rw [pk_un (by decide), pk_us]
    · rw [pk_us]
  · exact ((((u3.mono (by decide)).tr (m2.mono (by decide))).tr (m3.mono (by decide))).tr (m4.mono (by decide))).tr (m5.mono (by decide))
theorem m_parkend {f : Nat → Int32} {g : Nat → Int32} {v : Value} {M : Nat} (h : MdAt w Q ln sn J) (hQ : PkOK Q) (hM : J.1 = nI M) (hA : Ar w 25 9 f) (h26 : w[26]? = some (za 2 g)) : ∃ w', (i_ald 0 (i_get 5 0 (i_push (.int 0) (i_push (.int 1) (i_ald 0 (i_get 5 14 (i_ib (fun x y => x <<< (y &&& 31)) (i_push (.int 1) (i_ib (fun x y => x - y) (i_iast (i_ald 0 (i_get 5 0 (i_push (.int 1) (i_push (.int (-1)) (i_iast (i_ald 0 (i_get 5 6 (i_ald 0 (i_get 5 7 (i_ib (fun x y => x * y) (i_push (.int 1) (i_ib (fun x y => x - y) (i_ist 1 (jX5_park_67)))))))))))))))))))))))) [] [.ref 24, v] w = some (some (.int (nI M)), w') ∧ MdAt w' Q (nI 0) (nI 0) J ∧ (∃ f', Ar w' 25 9 f' ∧ f' 0 = nI (2 ^ pN Q - 1) ∧ f' 1 = lwS (pW Q) (pn Q) ∧ f' 2 = nI 0) ∧ (∃ g', w'[26]? = some (za 2 g') ∧ ∀ k, k < 2 → g' k = 0) ∧ Sm [24, 25, 26] w w' := by
  have hn := pn_le hQ
  have hN := hQ.2.2.2.2.1
  have hpos : 0 < 2 ^ pN Q := Nat.two_pow_pos _
  have hW : pW Q < 2 ^ 36 := Nat.lt_of_lt_of_le hQ.2.2.2.2.2.2.1 (Nat.pow_le_pow_right (by decide) hn)
  have g0 : gt 5 0 24 w = some (.ref 25) := gt_of h.1 rfl
  have g14 : gt 5 14 24 w = some (.int (nI (pN Q))) := gt_of h.1 rfl
  have e0 := shl1 (pN Q) (by omega)
  have n10 : ¬ (1 : Int32) = 0 := by decide
  have e1 : nI (2 ^ pN Q) - 1 = nI (2 ^ pN Q - 1) := by
    have z := nI_1 (2 ^ pN Q - 1)
    rw [Nat.sub_add_cancel hpos] at z
    rw [← z, Int32.add_sub_cancel]
  obtain ⟨w1, u1, u2, u3⟩ := hA.put (x := nI (2 ^ pN Q - 1)) (i := 0) (m := 0) rfl (by decide) (by decide)
  have h1 := (u3.2 24 (by decide)).trans h.1
  have g0' : gt 5 0 24 w1 = some (.ref 25) := gt_of h1 rfl
  obtain ⟨w2, v1, v2, v3⟩ := u2.put (x := -1) (i := 1) (m := 1) rfl (by decide) (by decide)
  have h2 := (v3.2 24 (by decide)).trans h1
  have g6 : gt 5 6 24 w2 = some (.int (nI (pC Q))) := gt_of h2 rfl
  have g7 : gt 5 7 24 w2 = some (.int (nI (pR Q))) := gt_of h2 rfl
  have v7 : nI (pC Q) * nI (pR Q) = nI (pn Q) := by rw [pk_mul]; rfl
  have mm2 : Sm [24, 25, 26] w w2 := (u3.mono (by decide)).tr (v3.mono (by decide))
  have z26 : w2[26]? = some (za 2 g) := ((v3.2 26 (by decide)).trans (u3.2 26 (by decide))).trans h26
  obtain ⟨r, z1, w', z2, z3, z4, z5, z6⟩ := loop_inv (F := fun B67 => i_ild 1 (i_iflt (i_ald 0 (i_get 5 0 (i_push (.int 2) (i_push (.int 0) (i_iast (i_ald 0 (i_push (.int 0) (i_puti 5 24 (i_ald 0 (i_get 5 1 (i_push (.int 0) (i_push (.int 0) (i_zast (i_ald 0 (i_get 5 1 (i_push (.int 1) (i_push (.int 0) (i_zast (i_ald 0 (i_push (.int 0) (i_puti 5 3 (i_ald 0 (i_get 5 5 (i_iret)))))))))))))))))))))))) (i_ald 0 (i_get 5 0 (i_push (.int 1) (i_ald 0 (i_get 5 11 (i_ild 1 (i_call 2 FX5_has (i_ifeq (i_ald 0 (i_get 5 0 (i_push (.int 1) (i_iald ((jX5_park_97 B67)))))) (i_ild 1 ((jX5_park_97 B67)))))))))))))
    (st := []) (L := [.ref 24, .int (nI (pn Q) - 1)]) (w := w2) (pn Q)
    (fun k st L w' => st = [] ∧ L = [.ref 24, .int (nI (pn Q - k) - 1)] ∧ (∃ f', Ar w' 25 9 f' ∧ f' 0 = nI (2 ^ pN Q - 1) ∧ f' 1 = dwS (pW Q) (pn Q) k) ∧ Sm [25] w2 w')
    (fun r => ∃ w', r = some (some (.int (nI M)), w') ∧ w'[24]? = some (mdc Q (nI 0) (nI 0) J) ∧ (∃ f', Ar w' 25 9 f' ∧ f' 0 = nI (2 ^ pN Q - 1) ∧ f' 1 = lwS (pW Q) (pn Q) ∧ f' 2 = nI 0) ∧ (∃ g', w'[26]? = some (za 2 g') ∧ ∀ k, k < 2 → g' k = 0) ∧ Sm [24, 25, 26] w2 w')
    ⟨rfl, rfl, ⟨_, v2, by rw [pk_un (by decide), pk_us], by rw [pk_us]; rfl⟩, Sm.rf⟩
    (by
      rintro k hk st L w3 ⟨rfl, rfl, ⟨f', d1, d2, d3⟩, m3⟩
      have h3 := (m3.2 24 (by decide)).trans h2
      have k0 : gt 5 0 24 w3 = some (.ref 25) := gt_of h3 rfl
      have k11 : gt 5 11 24 w3 = some (.long (lN (pW Q))) := gt_of h3 rfl
      have ep : nI (pn Q - k) - 1 = nI (pn Q - k - 1) := by
        have z := nI_1 (pn Q - k - 1)
        rw [Nat.sub_add_cancel (by omega)] at z
        rw [← z, Int32.add_sub_cancel]
      have ep2 : nI (pn Q - k - 1) + (-1) = nI (pn Q - (k + 1)) - 1 := by
        rw [show pn Q - (k + 1) = pn Q - k - 1 by omega]
        exact (Int32.sub_eq_add_neg _ _).symm
      rw [ep]
      have c1 : ¬ nI (pn Q - k - 1) < 0 := nI_pos (by omega)
      have t1 := m_has (w := w3) (W := pW Q) (p := pn Q - k - 1) (by omega) (by omega)
      have l1 : ial 0 25 1 w3 = some (dwS (pW Q) (pn Q) k) := by
        rw [← d3]; exact d1.get (m := 1) rfl (by decide) (by decide)
      obtain ⟨w4, y1, y2, y3⟩ := d1.put (x := dwS (pW Q) (pn Q) (k + 1)) (i := 1) (m := 1) rfl (by decide) (by decide)
      refine ⟨[], [.ref 24, .int (nI (pn Q - (k + 1)) - 1)], w4, ⟨rfl, rfl, ⟨_, y2, by rw [pk_un (by decide)]; exact d2, pk_us⟩, m3.tr y3⟩, fun B => ?_⟩
      cases hc : (pW Q).testBit (pn Q - k - 1) with
      | true =>
        rw [hc] at t1
        have ed : dwS (pW Q) (pn Q) (k + 1) = nI (pn Q - k - 1) := by rw [dwS, hc]; rfl
        rw [ed] at y1
        simp only [jX5_park_97, e_push, e_ild_0, e_lld_0, e_ald_0, e_inc_0, e_ild_1, e_lld_1, e_ald_1, e_inc_1, e_ild_2, e_lld_2, e_ald_2, e_inc_2, e_ild_3, e_lld_3, e_ald_3, e_inc_3, e_ild_4, e_lld_4, e_ald_4, e_inc_4, e_ild_5, e_lld_5, e_ald_5, e_inc_5, e_ild_6, e_lld_6, e_ald_6, e_inc_6, e_ild_7, e_lld_7, e_ald_7, e_inc_7, e_ild_8, e_lld_8, e_ald_8, e_inc_8, e_ild_9, e_lld_9, e_ald_9, e_inc_9, e_ild_10, e_lld_10, e_ald_10, e_inc_10, e_ild_11, e_lld_11, e_ald_11, e_inc_11, e_ild_12, e_lld_12, e_ald_12, e_inc_12, e_ist, e_ast, e_lst, e_sto_0, e_sto_1i, e_sto_1r, e_sto_1u, e_sto_1l, e_sto_2i, e_sto_2r, e_sto_2u, e_sto_2l, e_sto_3i, e_sto_3r, e_sto_3u, e_sto_3l, e_sto_4i, e_sto_4r, e_sto_4u, e_sto_4l, e_sto_5i, e_sto_5r, e_sto_5u, e_sto_5l, e_sto_6i, e_sto_6r, e_sto_6u, e_sto_6l, e_sto_7i, e_sto_7r, e_sto_7u, e_sto_7l, e_sto_8i, e_sto_8r, e_sto_8u, e_sto_8l, e_sto_9i, e_sto_9r, e_sto_9u, e_sto_9l, e_sto_10i, e_sto_10r, e_sto_10u, e_sto_10l, e_sto_11i, e_sto_11r, e_sto_11u, e_sto_11l, e_sto_12i, e_sto_12r, e_sto_12u, e_sto_12l, e_stoL_0, e_stoL_1i, e_stoL_1r, e_stoL_1u, e_stoL_2i, e_stoL_2r, e_stoL_2u, e_stoL_3i, e_stoL_3r, e_stoL_3u, e_stoL_4i, e_stoL_4r, e_stoL_4u, e_stoL_5i, e_stoL_5r, e_stoL_5u, e_stoL_6i, e_stoL_6r, e_stoL_6u, e_stoL_7i, e_stoL_7r, e_stoL_7u, e_stoL_8i, e_stoL_8r, e_stoL_8u, e_stoL_9i, e_stoL_9r, e_stoL_9u, e_stoL_10i, e_stoL_10r, e_stoL_10u, e_stoL_11i, e_stoL_11r, e_stoL_11u, e_stoL_12i, e_stoL_12r, e_stoL_12u, e_ib, e_lb, e_ls, e_ii, e_i2l, e_l2i, e_lcmp, e_idiv, e_irem, e_dup_i, e_dup_r, e_dup2, e_pop, e_ifeq, e_iceq, e_ifne, e_icne, e_iflt, e_iclt, e_ifge, e_icge, e_ifgt, e_icgt, e_ifle, e_icle, e_sw, e_iret, e_nret, e_lret, e_aret, e_vret, e_get, e_puti, e_putl, e_iald, e_zald, e_iast, e_zast, e_lald, e_last, e_alen, e_nald, e_nlen, e_mmax, e_mmin, e_mabs, cont_v, cont_u, e_call0, e_call1, e_call2, e_call3, e_call4, e_call5, e_call6, e_callV0, e_callT0, e_callV1, e_callT1, e_callV2, e_callT2, e_callV3, e_callT3, e_callV4, e_callT4, e_callV5, e_callT5, lin_i, lin_r, lin_l, lin_n, lsz_i, lsz_r, lsz_l, lsz_n, rep_s, rep_0, mEnt_e, c1, k0, k11, t1, n10, y1, ep2, if_true, if_false, Bool.false_eq_true, Option.bind_some, List.length_cons, List.length_nil, Nat.reduceAdd, Nat.reduceLeDiff]
      | false =>
        rw [hc] at t1
        have ed : dwS (pW Q) (pn Q) (k + 1) = dwS (pW Q) (pn Q) k := by rw [dwS, hc]; rfl
        rw [ed] at y1
        simp only [jX5_park_97, e_push, e_ild_0, e_lld_0, e_ald_0, e_inc_0, e_ild_1, e_lld_1, e_ald_1, e_inc_1, e_ild_2, e_lld_2, e_ald_2, e_inc_2, e_ild_3, e_lld_3, e_ald_3, e_inc_3, e_ild_4, e_lld_4, e_ald_4, e_inc_4, e_ild_5, e_lld_5, e_ald_5, e_inc_5, e_ild_6, e_lld_6, e_ald_6, e_inc_6, e_ild_7, e_lld_7, e_ald_7, e_inc_7, e_ild_8, e_lld_8, e_ald_8, e_inc_8, e_ild_9, e_lld_9, e_ald_9, e_inc_9, e_ild_10, e_lld_10, e_ald_10, e_inc_10, e_ild_11, e_lld_11, e_ald_11, e_inc_11, e_ild_12, e_lld_12, e_ald_12, e_inc_12, e_ist, e_ast, e_lst, e_sto_0, e_sto_1i, e_sto_1r, e_sto_1u, e_sto_1l, e_sto_2i, e_sto_2r, e_sto_2u, e_sto_2l, e_sto_3i, e_sto_3r, e_sto_3u, e_sto_3l, e_sto_4i, e_sto_4r, e_sto_4u, e_sto_4l, e_sto_5i, e_sto_5r, e_sto_5u, e_sto_5l, e_sto_6i, e_sto_6r, e_sto_6u, e_sto_6l, e_sto_7i, e_sto_7r, e_sto_7u, e_sto_7l, e_sto_8i, e_sto_8r, e_sto_8u, e_sto_8l, e_sto_9i, e_sto_9r, e_sto_9u, e_sto_9l, e_sto_10i, e_sto_10r, e_sto_10u, e_sto_10l, e_sto_11i, e_sto_11r, e_sto_11u, e_sto_11l, e_sto_12i, e_sto_12r, e_sto_12u, e_sto_12l, e_stoL_0, e_stoL_1i, e_stoL_1r, e_stoL_1u, e_stoL_2i, e_stoL_2r, e_stoL_2u, e_stoL_3i, e_stoL_3r, e_stoL_3u, e_stoL_4i, e_stoL_4r, e_stoL_4u, e_stoL_5i, e_stoL_5r, e_stoL_5u, e_stoL_6i, e_stoL_6r, e_stoL_6u, e_stoL_7i, e_stoL_7r, e_stoL_7u, e_stoL_8i, e_stoL_8r, e_stoL_8u, e_stoL_9i, e_stoL_9r, e_stoL_9u, e_stoL_10i, e_stoL_10r, e_stoL_10u, e_stoL_11i, e_stoL_11r, e_stoL_11u, e_stoL_12i, e_stoL_12r, e_stoL_12u, e_ib, e_lb, e_ls, e_ii, e_i2l, e_l2i, e_lcmp, e_idiv, e_irem, e_dup_i, e_dup_r, e_dup2, e_pop, e_ifeq, e_iceq, e_ifne, e_icne, e_iflt, e_iclt, e_ifge, e_icge, e_ifgt, e_icgt, e_ifle, e_icle, e_sw, e_iret, e_nret, e_lret, e_aret, e_vret, e_get, e_puti, e_putl, e_iald, e_zald, e_iast, e_zast, e_lald, e_last, e_alen, e_nald, e_nlen, e_mmax, e_mmin, e_mabs, cont_v, cont_u, e_call0, e_call1, e_call2, e_call3, e_call4, e_call5, e_call6, e_callV0, e_callT0, e_callV1, e_callT1, e_callV2, e_callT2, e_callV3, e_callT3, e_callV4, e_callT4, e_callV5, e_callT5, lin_i, lin_r, lin_l, lin_n, lsz_i, lsz_r, lsz_l, lsz_n, rep_s, rep_0, mEnt_e, c1, k0, k11, t1, l1, y1, ep2, if_true, if_false, Bool.false_eq_true, Option.bind_some, List.length_cons, List.length_nil, Nat.reduceAdd, Nat.reduceLeDiff])
    (by
      rintro st L w3 ⟨rfl, rfl, ⟨f', d1, d2, d3⟩, m3⟩
      have h3 := (m3.2 24 (by decide)).trans h2
      obtain ⟨w4, y1, y2, y3, y4, y5⟩ := m_parkfin (v := .int (nI (pn Q - pn Q) - 1)) h3 hM d1 ((m3.2 26 (by decide)).trans z26)
      refine ⟨_, ⟨w4, rfl, y2, ⟨_, y3, by rw [pk_un (by decide)]; exact d2, by rw [pk_un (by decide), d3, dwS_lw], pk_us⟩, y4, (m3.mono (by decide)).tr y5⟩, fun B => ?_⟩
      have c1 : nI (pn Q - pn Q) - 1 < 0 := by rw [Nat.sub_self]; decide
      rw [e_ild_1, e_iflt, if_pos c1]
      exact y1) 1000 (by omega)
  refine ⟨w', ?_, ⟨z3, ?_⟩, z4, z5, mm2.tr z6⟩
  · have z7 : jX5_park_67 [] [.ref 24, .int (nI (pn Q) - 1)] w2 = some (some (.int (nI M)), w') := z1.trans z2
    simp only [e_push, e_ild_0, e_lld_0, e_ald_0, e_inc_0, e_ild_1, e_lld_1, e_ald_1, e_inc_1, e_ild_2, e_lld_2, e_ald_2, e_inc_2, e_ild_3, e_lld_3, e_ald_3, e_inc_3, e_ild_4, e_lld_4, e_ald_4, e_inc_4, e_ild_5, e_lld_5, e_ald_5, e_inc_5, e_ild_6, e_lld_6, e_ald_6, e_inc_6, e_ild_7, e_lld_7, e_ald_7, e_inc_7, e_ild_8, e_lld_8, e_ald_8, e_inc_8, e_ild_9, e_lld_9, e_ald_9, e_inc_9, e_ild_10, e_lld_10, e_ald_10, e_inc_10, e_ild_11, e_lld_11, e_ald_11, e_inc_11, e_ild_12, e_lld_12, e_ald_12, e_inc_12, e_ist, e_ast, e_lst, e_sto_0, e_sto_1i, e_sto_1r, e_sto_1u, e_sto_1l, e_sto_2i, e_sto_2r, e_sto_2u, e_sto_2l, e_sto_3i, e_sto_3r, e_sto_3u, e_sto_3l, e_sto_4i, e_sto_4r, e_sto_4u, e_sto_4l, e_sto_5i, e_sto_5r, e_sto_5u, e_sto_5l, e_sto_6i, e_sto_6r, e_sto_6u, e_sto_6l, e_sto_7i, e_sto_7r, e_sto_7u, e_sto_7l, e_sto_8i, e_sto_8r, e_sto_8u, e_sto_8l, e_sto_9i, e_sto_9r, e_sto_9u, e_sto_9l, e_sto_10i, e_sto_10r, e_sto_10u, e_sto_10l, e_sto_11i, e_sto_11r, e_sto_11u, e_sto_11l, e_sto_12i, e_sto_12r, e_sto_12u, e_sto_12l, e_stoL_0, e_stoL_1i, e_stoL_1r, e_stoL_1u, e_stoL_2i, e_stoL_2r, e_stoL_2u, e_stoL_3i, e_stoL_3r, e_stoL_3u, e_stoL_4i, e_stoL_4r, e_stoL_4u, e_stoL_5i, e_stoL_5r, e_stoL_5u, e_stoL_6i, e_stoL_6r, e_stoL_6u, e_stoL_7i, e_stoL_7r, e_stoL_7u, e_stoL_8i, e_stoL_8r, e_stoL_8u, e_stoL_9i, e_stoL_9r, e_stoL_9u, e_stoL_10i, e_stoL_10r, e_stoL_10u, e_stoL_11i, e_stoL_11r, e_stoL_11u, e_stoL_12i, e_stoL_12r, e_stoL_12u, e_ib, e_lb, e_ls, e_ii, e_i2l, e_l2i, e_lcmp, e_idiv, e_irem, e_dup_i, e_dup_r, e_dup2, e_pop, e_ifeq, e_iceq, e_ifne, e_icne, e_iflt, e_iclt, e_ifge, e_icge, e_ifgt, e_icgt, e_ifle, e_icle, e_sw, e_iret, e_nret, e_lret, e_aret, e_vret, e_get, e_puti, e_putl, e_iald, e_zald, e_iast, e_zast, e_lald, e_last, e_alen, e_nald, e_nlen, e_mmax, e_mmin, e_mabs, cont_v, cont_u, e_call0, e_call1, e_call2, e_call3, e_call4, e_call5, e_call6, e_callV0, e_callT0, e_callV1, e_callT1, e_callV2, e_callT2, e_callV3, e_callT3, e_callV4, e_callT4, e_callV5, e_callT5, lin_i, lin_r, lin_l, lin_n, lsz_i, lsz_r, lsz_l, lsz_n, rep_s, rep_0, mEnt_e, g0, g14, e0, e1, u1, g0', v1, g6, g7, v7, z7, if_true, if_false, Bool.false_eq_true, Option.bind_some, List.length_cons, List.length_nil, Nat.reduceAdd, Nat.reduceLeDiff]
  · exact ((h.2.kept (u3.2 29 (by decide))).kept (v3.2 29 (by decide))).kept (z6.2 29 (by decide))
end MPARK
