section LAWS
variable {Ls : Nat} {xs : Nat → Int32}
theorem e_new {nz ci N : Nat} {R : Room} {fs : List Value} {k : mK} {st L : List Value} {w : List va_E} (n : Nat) (hn : w.length = n) (hz : zs[n]? = some N) (hc : n + 1 - nz ≤ R.cells) (hs : sl (n + 1) - sl nz ≤ R.slots) (h1 : st.all (okv n) = true) (h2 : L.all (okv n) = true) (h3 : w.all (oke n) = true) : i_new nz R ci N fs k st L w = k (.ref n :: st) L (w ++ [.inr (ci, fs)]) := by
  subst hn
  exact if_pos ⟨hz, hc, hs, h1, h2, h3⟩
theorem e_callC {nz dc ds b : Nat} {R : Room} {F : mF} {k : mK} {r L : List Value} {w w' : List va_E} (n n' : Nat) (hn : w.length = n) (hn' : w'.length = n') (hl : r.length ≤ 4) (h1 : r.all (okv n) = true) (h2 : L.all (okv n) = true) (hF : F [.ref b] w = some (none, w')) (hd : n' = n + dc ∧ sl n' = sl n + ds ∧ n' - nz ≤ R.cells ∧ sl n' - sl nz ≤ R.slots) : i_callC nz R F dc ds k (.ref b :: r) L w = k r L w' := by
  subst hn
  subst hn'
  unfold i_callC
  simp only [hF]
  rw [if_pos ⟨hl, h1, h2⟩]
  exact if_pos hd
set_option maxRecDepth 20000 in
theorem law_start (hL : Ls ≤ 2560) : ∃ w', jL_0 Ls xs 0 [] [.ref 3000, .retAddr 0, .retAddr 0, .retAddr 0] [] = some (some (.int 1), w') := by
  obtain ⟨fs, bs, ms, f19, e4, hG⟩ := ini4
  have e5 := ini5 (lic := 0) (wh := -1) (hr := 0) (sc := 0) (fs := fs) (bs := bs) (ms := ms) (f19 := f19)
  obtain ⟨w', hw'⟩ := law_all (xs := xs) hL hG
  refine ⟨w', ?_⟩
  unfold jL_0
  rw [e_new (w := []) 0 rfl (by decide) (by decide) (by decide) rfl rfl rfl]
  show i_dup _ [.ref 0] [.ref 3000, .retAddr 0, .retAddr 0, .retAddr 0] V0 = _
  rw [e_dup_r, e_callC 1 24 rfl rfl (by decide) rfl rfl e4 (by decide)]
  show i_new 0 room_1 5 25 _ _ [] [.ref 3000, .ref 0, .retAddr 0, .retAddr 0] (X24 0 (-1) 0 0 fs bs ms f19 []) = _
  rw [e_new 24 rfl (by decide) (by decide) (by decide) rfl rfl rfl]
  show i_dup _ [.ref 24] [.ref 3000, .ref 0, .retAddr 0, .retAddr 0] (X24 0 (-1) 0 0 fs bs ms f19 U0) = _
  rw [e_dup_r, e_callC 25 32 rfl rfl (by decide) rfl rfl e5 (by decide)]
  exact hw'
end LAWS
