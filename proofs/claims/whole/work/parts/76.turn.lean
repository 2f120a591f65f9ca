section LAWT
variable {Ls i : Nat} {xs : Nat → Int32} {w : List va_E}
theorem e_sld {j : Nat} {k : mK} {r L : List Value} (hL : Ls ≤ 2560) (hj : j < Ls) : i_sld Ls xs k (.int (nI j) :: .ref 3000 :: r) L w = k (.int (xs j) :: r) L w := by
  have h1 : (nI j).toInt = (j : Int) := nI_toInt (by omega)
  have h2 : (nI j).toNatClampNeg = j := nI_clamp (by omega)
  show (if 3000 = 3000 ∧ 0 ≤ (nI j).toInt ∧ (nI j).toInt < (Ls : Int) then k (.int (xs (nI j).toNatClampNeg) :: r) L w else none) = _
  rw [h1, h2]
  exact if_pos ⟨rfl, by omega, by omega⟩
theorem e_862 {B : mK} {st : List Value} : jL_law_862 Ls xs B st [.ref 3000, .ref 0, .ref 24, .int (nI i)] w = B st [.ref 3000, .ref 0, .ref 24, .int (nI (i + 5))] w := by
  show B st [.ref 3000, .ref 0, .ref 24, .int (nI i + 5)] w = _
  rw [show nI i + 5 = nI (i + 5) from nI_add i 5]
theorem lg_self (r : Int64) : lg_cmp r r = 0 := by simp [lg_cmp]
theorem ad_1 : nI i + 1 = nI (i + 1) := nI_add i 1
theorem ad_2 : nI i + 2 = nI (i + 2) := nI_add i 2
theorem ad_3 : nI i + 3 = nI (i + 3) := nI_add i 3
theorem ad_4 : nI i + 4 = nI (i + 4) := nI_add i 4
theorem GIx.r4 (h : GIx w) : rc 4 0 w = true := by
  obtain ⟨P, lic, wh, hr, ln, tb, sc, sp, sh, sg, kp, ⟨hlen, hO, -⟩, -⟩ := h
  exact rc_of hO
theorem GIx.r5 (h : GIx w) : rc 5 24 w = true := by
  obtain ⟨P, lic, wh, hr, ln, tb, sc, sp, sh, sg, kp, -, ⟨⟨J, hM⟩, -⟩, -⟩ := h
  exact rc_of hM.1
theorem rc_ex {a c : Nat} (h : ∃ o, w[a]? = some (.inr (c, o))) : rc c a w = true := by
  obtain ⟨o, h⟩ := h
  exact rc_of h
def LwT (f : mK → mK) (i : Nat) (w : List va_E) : Prop := ∃ w2, GIx w2 ∧ ∀ B : mK, f B [] [.ref 3000, .ref 0, .ref 24, .int (nI i)] w = B [] [.ref 3000, .ref 0, .ref 24, .int (nI (i + 5))] w2
theorem Lt_write (hL : Ls ≤ 2560) (hi : i + 5 ≤ Ls) (h : GIx w) : LwT (jL_law_152 Ls xs) i w := by
  have r4 := h.r4
  have hG := h
  obtain ⟨P, lic, wh, hr, ln, tb, sc, sp, sh, sg, kp, h⟩ := h
  obtain ⟨r, w1, w2, e1, q, e2, h2⟩ := t_write h ((xs (i + 1)).toInt64 <<< ((32 : Int32).toInt64 &&& 63) ||| (xs (i + 2)).toInt64 &&& 4294967295) (xs (i + 3))
  have r5 := rc_ex q
  refine ⟨w2, h2, fun B => ?_⟩
  have s1 := fun (k : mK) (r L : List Value) (w : List va_E) => e_sld (xs := xs) (w := w) (k := k) (r := r) (L := L) hL (show i + 1 < Ls by omega)
  have s2 := fun (k : mK) (r L : List Value) (w : List va_E) => e_sld (xs := xs) (w := w) (k := k) (r := r) (L := L) hL (show i + 2 < Ls by omega)
  have s3 := fun (k : mK) (r L : List Value) (w : List va_E) => e_sld (xs := xs) (w := w) (k := k) (r := r) (L := L) hL (show i + 3 < Ls by omega)
  simp only [jL_law_152, e_push, e_ald_0, e_ald_1, e_ald_2, e_ild_3, e_ib, e_lb, e_ls, e_i2l, e_lcmp, e_ifeq, e_iceq, cont_v, e_callV0, e_callV1, e_callV2, e_callV3, e_callV4, e_callV5, ad_1, s1, ad_2, s2, ad_3, s3, r4, r5, e1, e2, lg_self, e_862, if_true, if_false, Bool.false_eq_true, List.length_cons, List.length_nil, Nat.reduceAdd, Nat.reduceLeDiff]
theorem Lt_erase (hL : Ls ≤ 2560) (hi : i + 5 ≤ Ls) (h : GIx w) : LwT (jL_law_215 Ls xs) i w := by
  have r4 := h.r4
  have hG := h
  obtain ⟨P, lic, wh, hr, ln, tb, sc, sp, sh, sg, kp, h⟩ := h
  obtain ⟨r, w1, w2, e1, q, e2, h2⟩ := t_erase h
  have r5 := rc_ex q
  refine ⟨w2, h2, fun B => ?_⟩
  simp only [jL_law_215, e_push, e_ald_0, e_ald_1, e_ald_2, e_ild_3, e_ib, e_lb, e_ls, e_i2l, e_lcmp, e_ifeq, e_iceq, cont_v, e_callV0, e_callV1, e_callV2, e_callV3, e_callV4, e_callV5, r4, r5, e1, e2, lg_self, e_862, if_true, if_false, Bool.false_eq_true, List.length_cons, List.length_nil, Nat.reduceAdd, Nat.reduceLeDiff]
theorem Lt_fault (hL : Ls ≤ 2560) (hi : i + 5 ≤ Ls) (h : GIx w) : LwT (jL_law_228 Ls xs) i w := by
  have r4 := h.r4
  have hG := h
  obtain ⟨P, lic, wh, hr, ln, tb, sc, sp, sh, sg, kp, h⟩ := h
  obtain ⟨r, w1, w2, e1, q, e2, h2⟩ := t_fault h
  have r5 := rc_ex q
  refine ⟨w2, h2, fun B => ?_⟩
  simp only [jL_law_228, e_push, e_ald_0, e_ald_1, e_ald_2, e_ild_3, e_ib, e_lb, e_ls, e_i2l, e_lcmp, e_ifeq, e_iceq, cont_v, e_callV0, e_callV1, e_callV2, e_callV3, e_callV4, e_callV5, r4, r5, e1, e2, lg_self, e_862, if_true, if_false, Bool.false_eq_true, List.length_cons, List.length_nil, Nat.reduceAdd, Nat.reduceLeDiff]
theorem Lt_park (hL : Ls ≤ 2560) (hi : i + 5 ≤ Ls) (h : GIx w) : LwT (jL_law_241 Ls xs) i w := by
  have r4 := h.r4
  have hG := h
  obtain ⟨P, lic, wh, hr, ln, tb, sc, sp, sh, sg, kp, h⟩ := h
  obtain ⟨r, w1, w2, e1, q, e2, h2⟩ := t_park h
  have r5 := rc_ex q
  refine ⟨w2, h2, fun B => ?_⟩
  simp only [jL_law_241, e_push, e_ald_0, e_ald_1, e_ald_2, e_ild_3, e_ib, e_lb, e_ls, e_i2l, e_lcmp, e_ifeq, e_iceq, cont_v, e_callV0, e_callV1, e_callV2, e_callV3, e_callV4, e_callV5, r4, r5, e1, e2, lg_self, e_862, if_true, if_false, Bool.false_eq_true, List.length_cons, List.length_nil, Nat.reduceAdd, Nat.reduceLeDiff]
theorem Lt_place (hL : Ls ≤ 2560) (hi : i + 5 ≤ Ls) (h : GIx w) : LwT (jL_law_254 Ls xs) i w := by
  have r4 := h.r4
  have r5 := h.r5
  have hG := h
  obtain ⟨P, lic, wh, hr, ln, tb, sc, sp, sh, sg, kp, h⟩ := h
  obtain ⟨r, e1, e2⟩ := t_place h (xs (i + 1)) (xs (i + 2))
  refine ⟨w, hG, fun B => ?_⟩
  have s1 := fun (k : mK) (r L : List Value) (w : List va_E) => e_sld (xs := xs) (w := w) (k := k) (r := r) (L := L) hL (show i + 1 < Ls by omega)
  have s2 := fun (k : mK) (r L : List Value) (w : List va_E) => e_sld (xs := xs) (w := w) (k := k) (r := r) (L := L) hL (show i + 2 < Ls by omega)
  simp only [jL_law_254, e_push, e_ald_0, e_ald_1, e_ald_2, e_ild_3, e_ib, e_lb, e_ls, e_i2l, e_lcmp, e_ifeq, e_iceq, cont_v, e_callV0, e_callV1, e_callV2, e_callV3, e_callV4, e_callV5, ad_1, s1, ad_2, s2, r4, r5, e1, e2, lg_self, e_862, if_true, if_false, Bool.false_eq_true, List.length_cons, List.length_nil, Nat.reduceAdd, Nat.reduceLeDiff]
theorem Lt_band (hL : Ls ≤ 2560) (hi : i + 5 ≤ Ls) (h : GIx w) : LwT (jL_law_287 Ls xs) i w := by
  have r4 := h.r4
  have r5 := h.r5
  have hG := h
  obtain ⟨P, lic, wh, hr, ln, tb, sc, sp, sh, sg, kp, h⟩ := h
  obtain ⟨r, e1, e2⟩ := t_band h (xs (i + 1)) (xs (i + 2))
  refine ⟨w, hG, fun B => ?_⟩
  have s1 := fun (k : mK) (r L : List Value) (w : List va_E) => e_sld (xs := xs) (w := w) (k := k) (r := r) (L := L) hL (show i + 1 < Ls by omega)
  have s2 := fun (k : mK) (r L : List Value) (w : List va_E) => e_sld (xs := xs) (w := w) (k := k) (r := r) (L := L) hL (show i + 2 < Ls by omega)
  simp only [jL_law_287, e_push, e_ald_0, e_ald_1, e_ald_2, e_ild_3, e_ib, e_lb, e_ls, e_i2l, e_lcmp, e_ifeq, e_iceq, cont_v, e_callV0, e_callV1, e_callV2, e_callV3, e_callV4, e_callV5, ad_1, s1, ad_2, s2, r4, r5, e1, e2, lg_self, e_862, if_true, if_false, Bool.false_eq_true, List.length_cons, List.length_nil, Nat.reduceAdd, Nat.reduceLeDiff]
theorem Lt_as (hL : Ls ≤ 2560) (hi : i + 5 ≤ Ls) (h : GIx w) : LwT (jL_law_320 Ls xs) i w := by
  have r4 := h.r4
  have r5 := h.r5
  have hG := h
  obtain ⟨P, lic, wh, hr, ln, tb, sc, sp, sh, sg, kp, h⟩ := h
  obtain ⟨r, e1, e2⟩ := t_as h (xs (i + 1)) (xs (i + 2))
  refine ⟨w, hG, fun B => ?_⟩
  have s1 := fun (k : mK) (r L : List Value) (w : List va_E) => e_sld (xs := xs) (w := w) (k := k) (r := r) (L := L) hL (show i + 1 < Ls by omega)
  have s2 := fun (k : mK) (r L : List Value) (w : List va_E) => e_sld (xs := xs) (w := w) (k := k) (r := r) (L := L) hL (show i + 2 < Ls by omega)
  simp only [jL_law_320, e_push, e_ald_0, e_ald_1, e_ald_2, e_ild_3, e_ib, e_lb, e_ls, e_i2l, e_lcmp, e_ifeq, e_iceq, cont_v, e_callV0, e_callV1, e_callV2, e_callV3, e_callV4, e_callV5, ad_1, s1, ad_2, s2, r4, r5, e1, e2, lg_self, e_862, if_true, if_false, Bool.false_eq_true, List.length_cons, List.length_nil, Nat.reduceAdd, Nat.reduceLeDiff]
theorem Lt_licence (hL : Ls ≤ 2560) (hi : i + 5 ≤ Ls) (h : GIx w) : LwT (jL_law_353 Ls xs) i w := by
  have r4 := h.r4
  have hG := h
  obtain ⟨P, lic, wh, hr, ln, tb, sc, sp, sh, sg, kp, h⟩ := h
  obtain ⟨r, w1, w2, e1, q, e2, h2⟩ := t_licence h (xs (i + 1)) (xs (i + 2))
  have r5 := rc_ex q
  refine ⟨w2, h2, fun B => ?_⟩
  have s1 := fun (k : mK) (r L : List Value) (w : List va_E) => e_sld (xs := xs) (w := w) (k := k) (r := r) (L := L) hL (show i + 1 < Ls by omega)
  have s2 := fun (k : mK) (r L : List Value) (w : List va_E) => e_sld (xs := xs) (w := w) (k := k) (r := r) (L := L) hL (show i + 2 < Ls by omega)
  simp only [jL_law_353, e_push, e_ald_0, e_ald_1, e_ald_2, e_ild_3, e_ib, e_lb, e_ls, e_i2l, e_lcmp, e_ifeq, e_iceq, cont_v, e_callV0, e_callV1, e_callV2, e_callV3, e_callV4, e_callV5, ad_1, s1, ad_2, s2, r4, r5, e1, e2, lg_self, e_862, if_true, if_false, Bool.false_eq_true, List.length_cons, List.length_nil, Nat.reduceAdd, Nat.reduceLeDiff]
theorem Lt_sound (hL : Ls ≤ 2560) (hi : i + 5 ≤ Ls) (h : GIx w) : LwT (jL_law_386 Ls xs) i w := by
  have r4 := h.r4
  have r5 := h.r5
  have hG := h
  obtain ⟨P, lic, wh, hr, ln, tb, sc, sp, sh, sg, kp, h⟩ := h
  obtain ⟨r, e1, e2⟩ := t_sound h (xs (i + 1)) (xs (i + 2)) (xs (i + 3))
  refine ⟨w, hG, fun B => ?_⟩
  have s1 := fun (k : mK) (r L : List Value) (w : List va_E) => e_sld (xs := xs) (w := w) (k := k) (r := r) (L := L) hL (show i + 1 < Ls by omega)
  have s2 := fun (k : mK) (r L : List Value) (w : List va_E) => e_sld (xs := xs) (w := w) (k := k) (r := r) (L := L) hL (show i + 2 < Ls by omega)
  have s3 := fun (k : mK) (r L : List Value) (w : List va_E) => e_sld (xs := xs) (w := w) (k := k) (r := r) (L := L) hL (show i + 3 < Ls by omega)
  simp only [jL_law_386, e_push, e_ald_0, e_ald_1, e_ald_2, e_ild_3, e_ib, e_lb, e_ls, e_i2l, e_lcmp, e_ifeq, e_iceq, cont_v, e_callV0, e_callV1, e_callV2, e_callV3, e_callV4, e_callV5, ad_1, s1, ad_2, s2, ad_3, s3, r4, r5, e1, e2, lg_self, e_862, if_true, if_false, Bool.false_eq_true, List.length_cons, List.length_nil, Nat.reduceAdd, Nat.reduceLeDiff]
theorem Lt_noise (hL : Ls ≤ 2560) (hi : i + 5 ≤ Ls) (h : GIx w) : LwT (jL_law_429 Ls xs) i w := by
  have r4 := h.r4
  have r5 := h.r5
  have hG := h
  obtain ⟨P, lic, wh, hr, ln, tb, sc, sp, sh, sg, kp, h⟩ := h
  obtain ⟨r, e1, e2⟩ := t_noise h (xs (i + 1)) (xs (i + 2))
  refine ⟨w, hG, fun B => ?_⟩
  have s1 := fun (k : mK) (r L : List Value) (w : List va_E) => e_sld (xs := xs) (w := w) (k := k) (r := r) (L := L) hL (show i + 1 < Ls by omega)
  have s2 := fun (k : mK) (r L : List Value) (w : List va_E) => e_sld (xs := xs) (w := w) (k := k) (r := r) (L := L) hL (show i + 2 < Ls by omega)
  simp only [jL_law_429, e_push, e_ald_0, e_ald_1, e_ald_2, e_ild_3, e_ib, e_lb, e_ls, e_i2l, e_lcmp, e_ifeq, e_iceq, cont_v, e_callV0, e_callV1, e_callV2, e_callV3, e_callV4, e_callV5, ad_1, s1, ad_2, s2, r4, r5, e1, e2, lg_self, e_862, if_true, if_false, Bool.false_eq_true, List.length_cons, List.length_nil, Nat.reduceAdd, Nat.reduceLeDiff]
theorem Lt_step (hL : Ls ≤ 2560) (hi : i + 5 ≤ Ls) (h : GIx w) : LwT (jL_law_462 Ls xs) i w := by
  have r4 := h.r4
  have hG := h
  obtain ⟨P, lic, wh, hr, ln, tb, sc, sp, sh, sg, kp, h⟩ := h
  obtain ⟨r, w1, w2, e1, q, e2, h2⟩ := t_step h (xs (i + 1))
  have r5 := rc_ex q
  refine ⟨w2, h2, fun B => ?_⟩
  have s1 := fun (k : mK) (r L : List Value) (w : List va_E) => e_sld (xs := xs) (w := w) (k := k) (r := r) (L := L) hL (show i + 1 < Ls by omega)
  simp only [jL_law_462, e_push, e_ald_0, e_ald_1, e_ald_2, e_ild_3, e_ib, e_lb, e_ls, e_i2l, e_lcmp, e_ifeq, e_iceq, cont_v, e_callV0, e_callV1, e_callV2, e_callV3, e_callV4, e_callV5, ad_1, s1, r4, r5, e1, e2, lg_self, e_862, if_true, if_false, Bool.false_eq_true, List.length_cons, List.length_nil, Nat.reduceAdd, Nat.reduceLeDiff]
theorem Lt_keep (hL : Ls ≤ 2560) (hi : i + 5 ≤ Ls) (h : GIx w) : LwT (jL_law_485 Ls xs) i w := by
  have r4 := h.r4
  have hG := h
  obtain ⟨P, lic, wh, hr, ln, tb, sc, sp, sh, sg, kp, h⟩ := h
  obtain ⟨r, w1, w2, e1, q, e2, h2⟩ := t_keep h (xs (i + 1))
  have r5 := rc_ex q
  refine ⟨w2, h2, fun B => ?_⟩
  have s1 := fun (k : mK) (r L : List Value) (w : List va_E) => e_sld (xs := xs) (w := w) (k := k) (r := r) (L := L) hL (show i + 1 < Ls by omega)
  simp only [jL_law_485, e_push, e_ald_0, e_ald_1, e_ald_2, e_ild_3, e_ib, e_lb, e_ls, e_i2l, e_lcmp, e_ifeq, e_iceq, cont_v, e_callV0, e_callV1, e_callV2, e_callV3, e_callV4, e_callV5, ad_1, s1, r4, r5, e1, e2, lg_self, e_862, if_true, if_false, Bool.false_eq_true, List.length_cons, List.length_nil, Nat.reduceAdd, Nat.reduceLeDiff]
theorem Lt_back (hL : Ls ≤ 2560) (hi : i + 5 ≤ Ls) (h : GIx w) : LwT (jL_law_508 Ls xs) i w := by
  have r4 := h.r4
  have hG := h
  obtain ⟨P, lic, wh, hr, ln, tb, sc, sp, sh, sg, kp, h⟩ := h
  obtain ⟨r, w1, w2, e1, q, e2, h2⟩ := t_back h (xs (i + 1))
  have r5 := rc_ex q
  refine ⟨w2, h2, fun B => ?_⟩
  have s1 := fun (k : mK) (r L : List Value) (w : List va_E) => e_sld (xs := xs) (w := w) (k := k) (r := r) (L := L) hL (show i + 1 < Ls by omega)
  simp only [jL_law_508, e_push, e_ald_0, e_ald_1, e_ald_2, e_ild_3, e_ib, e_lb, e_ls, e_i2l, e_lcmp, e_ifeq, e_iceq, cont_v, e_callV0, e_callV1, e_callV2, e_callV3, e_callV4, e_callV5, ad_1, s1, r4, r5, e1, e2, lg_self, e_862, if_true, if_false, Bool.false_eq_true, List.length_cons, List.length_nil, Nat.reduceAdd, Nat.reduceLeDiff]
theorem Lt_first (hL : Ls ≤ 2560) (hi : i + 5 ≤ Ls) (h : GIx w) : LwT (jL_law_531 Ls xs) i w := by
  have r4 := h.r4
  have r5 := h.r5
  have hG := h
  obtain ⟨P, lic, wh, hr, ln, tb, sc, sp, sh, sg, kp, h⟩ := h
  obtain ⟨r, e1, e2⟩ := t_first h (xs (i + 1))
  refine ⟨w, hG, fun B => ?_⟩
  have s1 := fun (k : mK) (r L : List Value) (w : List va_E) => e_sld (xs := xs) (w := w) (k := k) (r := r) (L := L) hL (show i + 1 < Ls by omega)
  simp only [jL_law_531, e_push, e_ald_0, e_ald_1, e_ald_2, e_ild_3, e_ib, e_lb, e_ls, e_i2l, e_lcmp, e_ifeq, e_iceq, cont_v, e_callV0, e_callV1, e_callV2, e_callV3, e_callV4, e_callV5, ad_1, s1, r4, r5, e1, e2, lg_self, e_862, if_true, if_false, Bool.false_eq_true, List.length_cons, List.length_nil, Nat.reduceAdd, Nat.reduceLeDiff]
theorem Lt_most (hL : Ls ≤ 2560) (hi : i + 5 ≤ Ls) (h : GIx w) : LwT (jL_law_554 Ls xs) i w := by
  have r4 := h.r4
  have r5 := h.r5
  have hG := h
  obtain ⟨P, lic, wh, hr, ln, tb, sc, sp, sh, sg, kp, h⟩ := h
  obtain ⟨r, e1, e2⟩ := t_most h (xs (i + 1))
  refine ⟨w, hG, fun B => ?_⟩
  have s1 := fun (k : mK) (r L : List Value) (w : List va_E) => e_sld (xs := xs) (w := w) (k := k) (r := r) (L := L) hL (show i + 1 < Ls by omega)
  simp only [jL_law_554, e_push, e_ald_0, e_ald_1, e_ald_2, e_ild_3, e_ib, e_lb, e_ls, e_i2l, e_lcmp, e_ifeq, e_iceq, cont_v, e_callV0, e_callV1, e_callV2, e_callV3, e_callV4, e_callV5, ad_1, s1, r4, r5, e1, e2, lg_self, e_862, if_true, if_false, Bool.false_eq_true, List.length_cons, List.length_nil, Nat.reduceAdd, Nat.reduceLeDiff]
theorem Lt_stands (hL : Ls ≤ 2560) (hi : i + 5 ≤ Ls) (h : GIx w) : LwT (jL_law_577 Ls xs) i w := by
  have r4 := h.r4
  have hG := h
  obtain ⟨P, lic, wh, hr, ln, tb, sc, sp, sh, sg, kp, h⟩ := h
  obtain ⟨r, w1, w2, e1, q, e2, h2⟩ := t_stands h (xs (i + 1))
  have r5 := rc_ex q
  refine ⟨w2, h2, fun B => ?_⟩
  have s1 := fun (k : mK) (r L : List Value) (w : List va_E) => e_sld (xs := xs) (w := w) (k := k) (r := r) (L := L) hL (show i + 1 < Ls by omega)
  simp only [jL_law_577, e_push, e_ald_0, e_ald_1, e_ald_2, e_ild_3, e_ib, e_lb, e_ls, e_i2l, e_lcmp, e_ifeq, e_iceq, cont_v, e_callV0, e_callV1, e_callV2, e_callV3, e_callV4, e_callV5, ad_1, s1, r4, r5, e1, e2, lg_self, e_862, if_true, if_false, Bool.false_eq_true, List.length_cons, List.length_nil, Nat.reduceAdd, Nat.reduceLeDiff]
theorem Lt_sides (hL : Ls ≤ 2560) (hi : i + 5 ≤ Ls) (h : GIx w) : LwT (jL_law_601 Ls xs) i w := by
  have r4 := h.r4
  have hG := h
  obtain ⟨P, lic, wh, hr, ln, tb, sc, sp, sh, sg, kp, h⟩ := h
  obtain ⟨r, w1, w2, e1, q, e2, h2⟩ := t_sides h (xs (i + 1))
  have r5 := rc_ex q
  refine ⟨w2, h2, fun B => ?_⟩
  have s1 := fun (k : mK) (r L : List Value) (w : List va_E) => e_sld (xs := xs) (w := w) (k := k) (r := r) (L := L) hL (show i + 1 < Ls by omega)
  simp only [jL_law_601, e_push, e_ald_0, e_ald_1, e_ald_2, e_ild_3, e_ib, e_lb, e_ls, e_i2l, e_lcmp, e_ifeq, e_iceq, cont_v, e_callV0, e_callV1, e_callV2, e_callV3, e_callV4, e_callV5, ad_1, s1, r4, r5, e1, e2, lg_self, e_862, if_true, if_false, Bool.false_eq_true, List.length_cons, List.length_nil, Nat.reduceAdd, Nat.reduceLeDiff]
theorem Lt_hedged (hL : Ls ≤ 2560) (hi : i + 5 ≤ Ls) (h : GIx w) : LwT (jL_law_624 Ls xs) i w := by
  have r4 := h.r4
  have hG := h
  obtain ⟨P, lic, wh, hr, ln, tb, sc, sp, sh, sg, kp, h⟩ := h
  obtain ⟨r, w1, w2, e1, q, e2, h2⟩ := t_hedged h (xs (i + 1))
  have r5 := rc_ex q
  refine ⟨w2, h2, fun B => ?_⟩
  have s1 := fun (k : mK) (r L : List Value) (w : List va_E) => e_sld (xs := xs) (w := w) (k := k) (r := r) (L := L) hL (show i + 1 < Ls by omega)
  simp only [jL_law_624, e_push, e_ald_0, e_ald_1, e_ald_2, e_ild_3, e_ib, e_lb, e_ls, e_i2l, e_lcmp, e_ifeq, e_iceq, cont_v, e_callV0, e_callV1, e_callV2, e_callV3, e_callV4, e_callV5, ad_1, s1, r4, r5, e1, e2, lg_self, e_862, if_true, if_false, Bool.false_eq_true, List.length_cons, List.length_nil, Nat.reduceAdd, Nat.reduceLeDiff]
theorem Lt_margin (hL : Ls ≤ 2560) (hi : i + 5 ≤ Ls) (h : GIx w) : LwT (jL_law_648 Ls xs) i w := by
  have r4 := h.r4
  have r5 := h.r5
  have hG := h
  obtain ⟨P, lic, wh, hr, ln, tb, sc, sp, sh, sg, kp, h⟩ := h
  obtain ⟨r, e1, e2⟩ := t_margin h
  refine ⟨w, hG, fun B => ?_⟩
  simp only [jL_law_648, e_push, e_ald_0, e_ald_1, e_ald_2, e_ild_3, e_ib, e_lb, e_ls, e_i2l, e_lcmp, e_ifeq, e_iceq, cont_v, e_callV0, e_callV1, e_callV2, e_callV3, e_callV4, e_callV5, r4, r5, e1, e2, lg_self, e_862, if_true, if_false, Bool.false_eq_true, List.length_cons, List.length_nil, Nat.reduceAdd, Nat.reduceLeDiff]
theorem Lt_price (hL : Ls ≤ 2560) (hi : i + 5 ≤ Ls) (h : GIx w) : LwT (jL_law_661 Ls xs) i w := by
  have r4 := h.r4
  have r5 := h.r5
  have hG := h
  obtain ⟨P, lic, wh, hr, ln, tb, sc, sp, sh, sg, kp, h⟩ := h
  obtain ⟨r, e1, e2⟩ := t_price h (xs (i + 1))
  refine ⟨w, hG, fun B => ?_⟩
  have s1 := fun (k : mK) (r L : List Value) (w : List va_E) => e_sld (xs := xs) (w := w) (k := k) (r := r) (L := L) hL (show i + 1 < Ls by omega)
  simp only [jL_law_661, e_push, e_ald_0, e_ald_1, e_ald_2, e_ild_3, e_ib, e_lb, e_ls, e_i2l, e_lcmp, e_ifeq, e_iceq, cont_v, e_callV0, e_callV1, e_callV2, e_callV3, e_callV4, e_callV5, ad_1, s1, r4, r5, e1, e2, lg_self, e_862, if_true, if_false, Bool.false_eq_true, List.length_cons, List.length_nil, Nat.reduceAdd, Nat.reduceLeDiff]
theorem Lt_way (hL : Ls ≤ 2560) (hi : i + 5 ≤ Ls) (h : GIx w) : LwT (jL_law_684 Ls xs) i w := by
  have r4 := h.r4
  have hG := h
  obtain ⟨P, lic, wh, hr, ln, tb, sc, sp, sh, sg, kp, h⟩ := h
  obtain ⟨r, w1, w2, e1, q, e2, h2⟩ := t_way h (xs (i + 1))
  have r5 := rc_ex q
  refine ⟨w2, h2, fun B => ?_⟩
  have s1 := fun (k : mK) (r L : List Value) (w : List va_E) => e_sld (xs := xs) (w := w) (k := k) (r := r) (L := L) hL (show i + 1 < Ls by omega)
  simp only [jL_law_684, e_push, e_ald_0, e_ald_1, e_ald_2, e_ild_3, e_ib, e_lb, e_ls, e_i2l, e_lcmp, e_ifeq, e_iceq, cont_v, e_callV0, e_callV1, e_callV2, e_callV3, e_callV4, e_callV5, ad_1, s1, r4, r5, e1, e2, lg_self, e_862, if_true, if_false, Bool.false_eq_true, List.length_cons, List.length_nil, Nat.reduceAdd, Nat.reduceLeDiff]
theorem Lt_wind (hL : Ls ≤ 2560) (hi : i + 5 ≤ Ls) (h : GIx w) : LwT (jL_law_707 Ls xs) i w := by
  have r4 := h.r4
  have r5 := h.r5
  have hG := h
  obtain ⟨P, lic, wh, hr, ln, tb, sc, sp, sh, sg, kp, h⟩ := h
  obtain ⟨r, e1, e2⟩ := t_wind h (xs (i + 1)) (xs (i + 2)) (xs (i + 3)) (xs (i + 4))
  refine ⟨w, hG, fun B => ?_⟩
  have s1 := fun (k : mK) (r L : List Value) (w : List va_E) => e_sld (xs := xs) (w := w) (k := k) (r := r) (L := L) hL (show i + 1 < Ls by omega)
  have s2 := fun (k : mK) (r L : List Value) (w : List va_E) => e_sld (xs := xs) (w := w) (k := k) (r := r) (L := L) hL (show i + 2 < Ls by omega)
  have s3 := fun (k : mK) (r L : List Value) (w : List va_E) => e_sld (xs := xs) (w := w) (k := k) (r := r) (L := L) hL (show i + 3 < Ls by omega)
  have s4 := fun (k : mK) (r L : List Value) (w : List va_E) => e_sld (xs := xs) (w := w) (k := k) (r := r) (L := L) hL (show i + 4 < Ls by omega)
  simp only [jL_law_707, e_push, e_ald_0, e_ald_1, e_ald_2, e_ild_3, e_ib, e_lb, e_ls, e_i2l, e_lcmp, e_ifeq, e_iceq, cont_v, e_callV0, e_callV1, e_callV2, e_callV3, e_callV4, e_callV5, ad_1, s1, ad_2, s2, ad_3, s3, ad_4, s4, r4, r5, e1, e2, lg_self, e_862, if_true, if_false, Bool.false_eq_true, List.length_cons, List.length_nil, Nat.reduceAdd, Nat.reduceLeDiff]
theorem Lt_seen (hL : Ls ≤ 2560) (hi : i + 5 ≤ Ls) (h : GIx w) : LwT (jL_law_760 Ls xs) i w := by
  have r4 := h.r4
  have hG := h
  obtain ⟨P, lic, wh, hr, ln, tb, sc, sp, sh, sg, kp, h⟩ := h
  obtain ⟨r, w1, w2, e1, q, e2, h2⟩ := t_seen h (xs (i + 1)) (xs (i + 2)) (xs (i + 3))
  have r5 := rc_ex q
  refine ⟨w2, h2, fun B => ?_⟩
  have s1 := fun (k : mK) (r L : List Value) (w : List va_E) => e_sld (xs := xs) (w := w) (k := k) (r := r) (L := L) hL (show i + 1 < Ls by omega)
  have s2 := fun (k : mK) (r L : List Value) (w : List va_E) => e_sld (xs := xs) (w := w) (k := k) (r := r) (L := L) hL (show i + 2 < Ls by omega)
  have s3 := fun (k : mK) (r L : List Value) (w : List va_E) => e_sld (xs := xs) (w := w) (k := k) (r := r) (L := L) hL (show i + 3 < Ls by omega)
  simp only [jL_law_760, e_push, e_ald_0, e_ald_1, e_ald_2, e_ild_3, e_ib, e_lb, e_ls, e_i2l, e_lcmp, e_ifeq, e_iceq, cont_v, e_callV0, e_callV1, e_callV2, e_callV3, e_callV4, e_callV5, ad_1, s1, ad_2, s2, ad_3, s3, r4, r5, e1, e2, lg_self, e_862, if_true, if_false, Bool.false_eq_true, List.length_cons, List.length_nil, Nat.reduceAdd, Nat.reduceLeDiff]
theorem Lt_forget (hL : Ls ≤ 2560) (hi : i + 5 ≤ Ls) (h : GIx w) : LwT (jL_law_803 Ls xs) i w := by
  have r4 := h.r4
  have hG := h
  obtain ⟨P, lic, wh, hr, ln, tb, sc, sp, sh, sg, kp, h⟩ := h
  obtain ⟨r, w1, w2, e1, q, e2, h2⟩ := t_forget h
  have r5 := rc_ex q
  refine ⟨w2, h2, fun B => ?_⟩
  simp only [jL_law_803, e_push, e_ald_0, e_ald_1, e_ald_2, e_ild_3, e_ib, e_lb, e_ls, e_i2l, e_lcmp, e_ifeq, e_iceq, cont_v, e_callV0, e_callV1, e_callV2, e_callV3, e_callV4, e_callV5, r4, r5, e1, e2, lg_self, e_862, if_true, if_false, Bool.false_eq_true, List.length_cons, List.length_nil, Nat.reduceAdd, Nat.reduceLeDiff]
theorem Lt_played (hL : Ls ≤ 2560) (hi : i + 5 ≤ Ls) (h : GIx w) : LwT (jL_law_816 Ls xs) i w := by
  have r4 := h.r4
  have r5 := h.r5
  have hG := h
  obtain ⟨P, lic, wh, hr, ln, tb, sc, sp, sh, sg, kp, h⟩ := h
  obtain ⟨r, e1, e2⟩ := t_played h (xs (i + 1))
  refine ⟨w, hG, fun B => ?_⟩
  have s1 := fun (k : mK) (r L : List Value) (w : List va_E) => e_sld (xs := xs) (w := w) (k := k) (r := r) (L := L) hL (show i + 1 < Ls by omega)
  simp only [jL_law_816, e_push, e_ald_0, e_ald_1, e_ald_2, e_ild_3, e_ib, e_lb, e_ls, e_i2l, e_lcmp, e_ifeq, e_iceq, cont_v, e_callV0, e_callV1, e_callV2, e_callV3, e_callV4, e_callV5, ad_1, s1, r4, r5, e1, e2, lg_self, e_862, if_true, if_false, Bool.false_eq_true, List.length_cons, List.length_nil, Nat.reduceAdd, Nat.reduceLeDiff]
theorem Lt_count (hL : Ls ≤ 2560) (hi : i + 5 ≤ Ls) (h : GIx w) : LwT (jL_law_839 Ls xs) i w := by
  have r4 := h.r4
  have r5 := h.r5
  have hG := h
  obtain ⟨P, lic, wh, hr, ln, tb, sc, sp, sh, sg, kp, h⟩ := h
  obtain ⟨r, e1, e2⟩ := t_count h (xs (i + 1))
  refine ⟨w, hG, fun B => ?_⟩
  have s1 := fun (k : mK) (r L : List Value) (w : List va_E) => e_sld (xs := xs) (w := w) (k := k) (r := r) (L := L) hL (show i + 1 < Ls by omega)
  simp only [jL_law_839, e_push, e_ald_0, e_ald_1, e_ald_2, e_ild_3, e_ib, e_lb, e_ls, e_i2l, e_lcmp, e_ifeq, e_iceq, cont_v, e_callV0, e_callV1, e_callV2, e_callV3, e_callV4, e_callV5, ad_1, s1, r4, r5, e1, e2, lg_self, e_862, if_true, if_false, Bool.false_eq_true, List.length_cons, List.length_nil, Nat.reduceAdd, Nat.reduceLeDiff]
theorem and31 (x : Int32) : ∃ c, c < 32 ∧ x &&& 31 = nI c := by
  refine ⟨(x.toBitVec &&& 31#32).toNat, ?_, ?_⟩
  · rw [BitVec.toNat_and]
    exact Nat.lt_of_le_of_lt Nat.and_le_right (by decide)
  · apply Int32.toBitVec_inj.mp
    show x.toBitVec &&& 31#32 = BitVec.ofNat 32 (x.toBitVec &&& 31#32).toNat
    rw [BitVec.ofNat_toNat, BitVec.setWidth_eq]
theorem e_swc {c : Nat} {f kd : mK} {ks : List mK} {st L : List Value} (hc : c ≤ 25) (hk : ks[c]? = some f) : i_sw 0 25 ks kd (.int (nI c) :: st) L w = f st L w := by
  have h1 : (nI c).toInt = (c : Int) := nI_toInt (by omega)
  show (if (nI c).toInt < 0 ∨ 25 < (nI c).toInt then kd st L w else (match ks[((nI c).toInt - 0).toNat]? with | some f => f st L w | none => none)) = _
  rw [h1, if_neg (by omega), show ((c : Int) - 0).toNat = c by omega, hk]
theorem e_swd {c : Nat} {kd : mK} {ks : List mK} {st L : List Value} (hc : 25 < c) (hc2 : c < 32) : i_sw 0 25 ks kd (.int (nI c) :: st) L w = kd st L w := by
  have h1 : (nI c).toInt = (c : Int) := nI_toInt (by omega)
  show (if (nI c).toInt < 0 ∨ 25 < (nI c).toInt then kd st L w else (match ks[((nI c).toInt - 0).toNat]? with | some f => f st L w | none => none)) = _
  rw [h1, if_pos (by omega)]
def swL (Ls : Nat) (xs : Nat → Int32) (B : mK) : mK := i_sw 0 25 [jL_law_152 Ls xs B, jL_law_215 Ls xs B, jL_law_228 Ls xs B, jL_law_241 Ls xs B, jL_law_254 Ls xs B, jL_law_287 Ls xs B, jL_law_320 Ls xs B, jL_law_353 Ls xs B, jL_law_386 Ls xs B, jL_law_429 Ls xs B, jL_law_462 Ls xs B, jL_law_485 Ls xs B, jL_law_508 Ls xs B, jL_law_531 Ls xs B, jL_law_554 Ls xs B, jL_law_577 Ls xs B, jL_law_601 Ls xs B, jL_law_624 Ls xs B, jL_law_648 Ls xs B, jL_law_661 Ls xs B, jL_law_684 Ls xs B, jL_law_707 Ls xs B, jL_law_760 Ls xs B, jL_law_803 Ls xs B, jL_law_816 Ls xs B, jL_law_839 Ls xs B] (jL_law_862 Ls xs B)
theorem LwT.of {f : mK → mK} {c : Nat} (h : LwT f i w) (hc : c ≤ 25) (hk : ∀ B, [jL_law_152 Ls xs B, jL_law_215 Ls xs B, jL_law_228 Ls xs B, jL_law_241 Ls xs B, jL_law_254 Ls xs B, jL_law_287 Ls xs B, jL_law_320 Ls xs B, jL_law_353 Ls xs B, jL_law_386 Ls xs B, jL_law_429 Ls xs B, jL_law_462 Ls xs B, jL_law_485 Ls xs B, jL_law_508 Ls xs B, jL_law_531 Ls xs B, jL_law_554 Ls xs B, jL_law_577 Ls xs B, jL_law_601 Ls xs B, jL_law_624 Ls xs B, jL_law_648 Ls xs B, jL_law_661 Ls xs B, jL_law_684 Ls xs B, jL_law_707 Ls xs B, jL_law_760 Ls xs B, jL_law_803 Ls xs B, jL_law_816 Ls xs B, jL_law_839 Ls xs B][c]? = some (f B)) : ∃ w2, GIx w2 ∧ ∀ B : mK, swL Ls xs B [.int (nI c)] [.ref 3000, .ref 0, .ref 24, .int (nI i)] w = B [] [.ref 3000, .ref 0, .ref 24, .int (nI (i + 5))] w2 := by
  obtain ⟨w2, g, hB⟩ := h
  exact ⟨w2, g, fun B => (e_swc hc (hk B)).trans (hB B)⟩
theorem law_turn (hL : Ls ≤ 2560) (hi : i + 5 ≤ Ls) (h : GIx w) : ∃ w2, GIx w2 ∧ ∀ B : mK, swL Ls xs B [.int (xs i &&& 31)] [.ref 3000, .ref 0, .ref 24, .int (nI i)] w = B [] [.ref 3000, .ref 0, .ref 24, .int (nI (i + 5))] w2 := by
  obtain ⟨c, hc, e⟩ := and31 (xs i)
  rw [e]
  by_cases hd : 25 < c
  · exact ⟨w, h, fun B => (e_swd hd hc).trans e_862⟩
  · match c, hd with
    | 0, _ => exact (Lt_write hL hi h).of (by decide) (fun _ => rfl)
    | 1, _ => exact (Lt_erase hL hi h).of (by decide) (fun _ => rfl)
    | 2, _ => exact (Lt_fault hL hi h).of (by decide) (fun _ => rfl)
    | 3, _ => exact (Lt_park hL hi h).of (by decide) (fun _ => rfl)
    | 4, _ => exact (Lt_place hL hi h).of (by decide) (fun _ => rfl)
    | 5, _ => exact (Lt_band hL hi h).of (by decide) (fun _ => rfl)
    | 6, _ => exact (Lt_as hL hi h).of (by decide) (fun _ => rfl)
    | 7, _ => exact (Lt_licence hL hi h).of (by decide) (fun _ => rfl)
    | 8, _ => exact (Lt_sound hL hi h).of (by decide) (fun _ => rfl)
    | 9, _ => exact (Lt_noise hL hi h).of (by decide) (fun _ => rfl)
    | 10, _ => exact (Lt_step hL hi h).of (by decide) (fun _ => rfl)
    | 11, _ => exact (Lt_keep hL hi h).of (by decide) (fun _ => rfl)
    | 12, _ => exact (Lt_back hL hi h).of (by decide) (fun _ => rfl)
    | 13, _ => exact (Lt_first hL hi h).of (by decide) (fun _ => rfl)
    | 14, _ => exact (Lt_most hL hi h).of (by decide) (fun _ => rfl)
    | 15, _ => exact (Lt_stands hL hi h).of (by decide) (fun _ => rfl)
    | 16, _ => exact (Lt_sides hL hi h).of (by decide) (fun _ => rfl)
    | 17, _ => exact (Lt_hedged hL hi h).of (by decide) (fun _ => rfl)
    | 18, _ => exact (Lt_margin hL hi h).of (by decide) (fun _ => rfl)
    | 19, _ => exact (Lt_price hL hi h).of (by decide) (fun _ => rfl)
    | 20, _ => exact (Lt_way hL hi h).of (by decide) (fun _ => rfl)
    | 21, _ => exact (Lt_wind hL hi h).of (by decide) (fun _ => rfl)
    | 22, _ => exact (Lt_seen hL hi h).of (by decide) (fun _ => rfl)
    | 23, _ => exact (Lt_forget hL hi h).of (by decide) (fun _ => rfl)
    | 24, _ => exact (Lt_played hL hi h).of (by decide) (fun _ => rfl)
    | 25, _ => exact (Lt_count hL hi h).of (by decide) (fun _ => rfl)
    | k + 26, hd => exact absurd (show 25 < k + 26 by omega) hd
theorem lcond (hL : Ls ≤ 2560) (hi : i ≤ 3000) : (Int32.ofNat Ls - 5 < nI i) ↔ Ls < i + 5 := by
  show (nI Ls - 5 < nI i) ↔ _
  by_cases h : 5 ≤ Ls
  · have e : nI (Ls - 5) + nI 5 = nI Ls := by rw [nI_add, Nat.sub_add_cancel h]
    have e2 : nI Ls - 5 = nI (Ls - 5) := by
      rw [← e]
      exact Int32.add_sub_cancel _ _
    rw [e2, Int32.lt_iff_toInt_lt, nI_toInt (by omega), nI_toInt (by omega)]
    omega
  · have hk : ∀ k, k < 5 → (nI k - 5).toInt = (k : Int) - 5 := by decide
    rw [Int32.lt_iff_toInt_lt, hk Ls (by omega), nI_toInt (by omega)]
    omega
end LAWT
