section LAWL
variable {Ls : Nat} {xs : Nat → Int32}
theorem law_loop (hL : Ls ≤ 2560) : ∀ (k i : Nat) (w : List va_E) (n : Nat), Ls < i + 5 * k + 5 → i ≤ Ls → k < n → GIx w → ∃ w', i_loop (fun B18 => i_ild 3 (i_ald 0 (i_slen Ls (i_push (.int 5) (i_ib (fun x y => x - y) (i_icgt (i_push (.int 1) (i_ret1)) (i_ald 0 (i_ild 3 (i_sld Ls xs (i_push (.int 31) (i_ib (fun x y => x &&& y) (swL Ls xs B18)))))))))))) n [] [.ref 3000, .ref 0, .ref 24, .int (nI i)] w = some (some (.int 1), w') := by
  intro k
  induction k with
  | zero =>
    intro i w n hk hi hn hG
    obtain ⟨n, rfl⟩ : ∃ z, n = z + 1 := ⟨n - 1, by omega⟩
    refine ⟨w, ?_⟩
    show (if Int32.ofNat Ls - 5 < nI i then _ else _) = _
    rw [if_pos ((lcond hL (by omega)).mpr (by omega))]
    rfl
  | succ k ih =>
    intro i w n hk hi hn hG
    obtain ⟨n, rfl⟩ : ∃ z, n = z + 1 := ⟨n - 1, by omega⟩
    by_cases h5 : Ls < i + 5
    · refine ⟨w, ?_⟩
      show (if Int32.ofNat Ls - 5 < nI i then _ else _) = _
      rw [if_pos ((lcond hL (by omega)).mpr h5)]
      rfl
    · obtain ⟨w2, hG2, hB⟩ := law_turn (xs := xs) (w := w) hL (show i + 5 ≤ Ls by omega) hG
      obtain ⟨w', hw'⟩ := ih (i + 5) w2 n (by omega) (by omega) (by omega) hG2
      refine ⟨w', ?_⟩
      show (if Int32.ofNat Ls - 5 < nI i then _ else i_sld Ls xs _ [.int (nI i), .ref 3000] _ w) = _
      rw [if_neg (fun z => h5 ((lcond hL (by omega)).mp z)), e_sld hL (show i < Ls by omega)]
      show swL Ls xs _ [.int (xs i &&& 31)] _ w = _
      rw [hB]
      exact hw'
theorem law_all (hL : Ls ≤ 2560) {w : List va_E} (hG : GIx w) : ∃ w', jL_16 Ls xs [] [.ref 3000, .ref 0, .ref 24, .retAddr 0] w = some (some (.int 1), w') := by
  obtain ⟨w', h⟩ := law_loop (xs := xs) hL 600 0 w 1000 (by omega) (by omega) (by omega) hG
  refine ⟨w', ?_⟩
  have e : jL_16 Ls xs [] [.ref 3000, .ref 0, .ref 24, .retAddr 0] w = jL_law_18 Ls xs [] [.ref 3000, .ref 0, .ref 24, .int (nI 0)] w := by
    unfold jL_16
    rw [e_push, e_ist, e_sto_3r]
    rfl
  rw [e]
  unfold jL_law_18
  unfold swL at h
  exact h
end LAWL
