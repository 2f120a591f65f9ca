theorem e_cvn {ci ar b : Nat} {F : mF} {k : mK} {st L o : List Value} {w w' : List va_E} (h : st[ar]? = some (.ref b)) (hw : w[b]? = some (.inr (ci, o))) (hl : ar + 1 ≤ st.length ∧ st.length ≤ ar + 1 + 4) (hF : F (st.take (ar + 1)).reverse w = some (none, w')) : i_callV ci ar F k st L w = k (st.drop (ar + 1)) L w' := by
  unfold i_callV
  simp only [h, hw, if_true]
  unfold i_call
  rw [if_pos hl]
  simp only [hF]
theorem e_cvs {ci ar b : Nat} {F : mF} {k : mK} {st L o : List Value} {v : Value} {w w' : List va_E} (h : st[ar]? = some (.ref b)) (hw : w[b]? = some (.inr (ci, o))) (hl : ar + 1 ≤ st.length ∧ st.length ≤ ar + 1 + 4) (hF : F (st.take (ar + 1)).reverse w = some (some v, w')) : i_callV ci ar F k st L w = k (v :: st.drop (ar + 1)) L w' := by
  unfold i_callV
  simp only [h, hw, if_true]
  unfold i_call
  rw [if_pos hl]
  simp only [hF]
theorem P0_ok : PkOK P0 := ⟨by decide, by decide, by decide, by decide, by decide, by decide, by decide, by decide, fun b hb => absurd hb (Nat.not_lt_zero b)⟩
theorem P0_ld : LdOK P0 := ⟨⟨50, by decide, rfl⟩, ⟨2, by decide, rfl⟩, fun b hb => absurd hb (Nat.not_lt_zero b)⟩
theorem lw0 : lwS (pW P0) (pn P0) = -1 := by decide +kernel
theorem ar_z {w : List va_E} {j n : Nat} {g : Nat → Int32} (h : w[j]? = some (ia n g)) : Ar w j n g := ⟨g, h, fun _ _ => rfl⟩
set_option maxRecDepth 20000 in
theorem ini4 : ∃ (fs bs ms f19 : Nat → Int32), FX4_init [.ref 0] V0 = some (none, X24 0 (-1) 0 0 fs bs ms f19 []) ∧ GIx (X24 0 (-1) 0 0 fs bs ms f19 M8) := by
  have hPk : PkAt V13 5 6 P0 := ⟨rfl, ar_z rfl⟩
  have hHr : HrRaw V13 7 8 9 10 0 0 z0 z0 (fun _ => 0) := ⟨rfl, ar_z rfl, ar_z rfl, ⟨z0, rfl, fun _ _ => rfl⟩, fun _ _ => (show (0 : Nat) < 64 by decide)⟩
  obtain ⟨w1, e1, ⟨fs, bs, ms, ⟨h7, ⟨gf, h8, q8⟩, ⟨gb, h9, q9⟩, ⟨gm, h10, q10⟩, hms⟩, hOK⟩, hPk1, m1⟩ := s_listen hHr hPk P0_ok (by decide)
  have hO1 : XO w1 0 0 0 0 := (m1.2 0 (by decide)).trans rfl
  have hA1 : Ar w1 19 2 z0 := ar_z ((m1.2 19 (by decide)).trans rfl)
  obtain ⟨w2, e2, hO2, ⟨f, ⟨g19, h19, q19⟩, hfm⟩, m2⟩ := x_startAnew hO1 hPk1 P0_ok hA1
  have hO2 : w2[0]? = some (x0 0 (-1) 0 0) := by
    have hO3 : w2[0]? = some (x0 (nI (2 ^ pN P0 - 1)) (lwS (pW P0) (pn P0)) (nI 0) (nI 0)) := hO2
    rw [lw0] at hO3
    exact hO3
  have hlen : w2.length = 24 := m2.1.trans m1.1
  have hw2 : w2 = X24 0 (-1) 0 0 gf gb gm g19 [] := by
    apply List.ext_getElem?
    intro i
    match i with
    | 0 => exact hO2
    | 1 => exact (m2.2 1 (by decide)).trans (m1.2 1 (by decide))
    | 2 => exact (m2.2 2 (by decide)).trans (m1.2 2 (by decide))
    | 3 => exact (m2.2 3 (by decide)).trans (m1.2 3 (by decide))
    | 4 => exact (m2.2 4 (by decide)).trans (m1.2 4 (by decide))
    | 5 => exact (m2.2 5 (by decide)).trans (m1.2 5 (by decide))
    | 6 => exact (m2.2 6 (by decide)).trans (m1.2 6 (by decide))
    | 7 => exact (m2.2 7 (by decide)).trans h7
    | 8 => exact (m2.2 8 (by decide)).trans h8
    | 9 => exact (m2.2 9 (by decide)).trans h9
    | 10 => exact (m2.2 10 (by decide)).trans h10
    | 11 => exact (m2.2 11 (by decide)).trans (m1.2 11 (by decide))
    | 12 => exact (m2.2 12 (by decide)).trans (m1.2 12 (by decide))
    | 13 => exact (m2.2 13 (by decide)).trans (m1.2 13 (by decide))
    | 14 => exact (m2.2 14 (by decide)).trans (m1.2 14 (by decide))
    | 15 => exact (m2.2 15 (by decide)).trans (m1.2 15 (by decide))
    | 16 => exact (m2.2 16 (by decide)).trans (m1.2 16 (by decide))
    | 17 => exact (m2.2 17 (by decide)).trans (m1.2 17 (by decide))
    | 18 => exact (m2.2 18 (by decide)).trans (m1.2 18 (by decide))
    | 19 => exact h19
    | 20 => exact (m2.2 20 (by decide)).trans (m1.2 20 (by decide))
    | 21 => exact (m2.2 21 (by decide)).trans (m1.2 21 (by decide))
    | 22 => exact (m2.2 22 (by decide)).trans (m1.2 22 (by decide))
    | 23 => exact (m2.2 23 (by decide)).trans (m1.2 23 (by decide))
    | k + 24 => rw [List.getElem?_eq_none (by omega), List.getElem?_eq_none (by show 24 ≤ k + 24; omega)]
  refine ⟨gf, gb, gm, g19, ?_, ?_⟩
  · rw [← hw2, ini4a]
    have s1 : j4r [] [.ref 0] V13 = i_callV 0 1 FX0_listen (i_ald 0 (i_callV 4 0 FX4_startAnew i_vret)) [.ref 5, .ref 7] [.ref 0] V13 := rfl
    rw [s1, e_cvn (b := 7) (o := [.int 0, .long 0, .ref 8, .ref 9, .ref 10]) rfl rfl (by decide) e1]
    show i_callV 4 0 FX4_startAnew i_vret [.ref 0] [.ref 0] w1 = _
    rw [e_cvn (b := 0) rfl hO1 (by decide) e2]
    rfl
  · refine ⟨P0, 0, -1, 0, 0, z0, 0, z0, z0, z0, fun _ => none, ⟨rfl, rfl, ?_, ?_, ?_, ?_, ?_⟩, ⟨?_, ?_, ?_, ?_, ?_⟩, ?_⟩
    · exact ⟨⟨0, 0, rfl⟩, z0, ar_z rfl, fun k hk => absurd hk (Nat.not_lt_zero k)⟩
    · exact ⟨⟨0, rfl⟩, ⟨z0, ar_z rfl⟩, ⟨P0, rfl, ar_z rfl⟩, ⟨0, 0, z0, z0, fun _ => 0, rfl, ar_z rfl, ar_z rfl, ⟨z0, rfl, fun _ _ => rfl⟩, fun _ _ => (show (0 : Nat) < 64 by decide)⟩, ⟨fun _ => 0, rfl⟩⟩
    · exact ⟨⟨rfl, ar_z rfl⟩, fs, bs, ms, ⟨rfl, ⟨gf, rfl, q8⟩, ⟨gb, rfl, q9⟩, ⟨gm, rfl, q10⟩, hms⟩, hOK⟩
    · exact ⟨z0, z0, f, ar_z rfl, ar_z rfl, ⟨g19, rfl, q19⟩, fun k hk => ⟨fun _ => hfm k hk, fun q hq => by cases hq⟩⟩
    · exact ⟨z0, z0, z0, ar_z rfl, ar_z rfl, ar_z rfl, fun k hk => absurd hk (Nat.not_lt_zero k)⟩
    · exact ⟨(0, 0, 0, 0, 0, 0, 0, 0), rfl, ar_z rfl⟩
    · exact ⟨⟨upd z0 1 (-1), ar_z rfl, rfl, rfl, rfl, fun k hk q hq => by cases hq⟩, z0, rfl, fun k hk => rfl⟩
    · exact ⟨z0, ar_z rfl, fun k hk => absurd hk (Nat.not_lt_zero k)⟩
    · exact ⟨⟨z0, ar_z rfl⟩, z0, ar_z rfl⟩
    · exact ⟨z0, ar_z rfl, fun k hk => absurd hk (Nat.not_lt_zero k)⟩
    · exact ⟨⟨P0_ok, P0_ld⟩, by decide, Or.inl rfl, by decide, by decide, fun k hk => absurd hk (Nat.not_lt_zero k), by decide, fun k hk => absurd hk (Nat.not_lt_zero k), fun k hk q hq => by cases hq⟩
