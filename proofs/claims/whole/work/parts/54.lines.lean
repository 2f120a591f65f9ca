/-! LINES: what is meant -/
theorem sw_0_10 {a0 : mK} {l : List mK} {kd : mK} {st L : List Value} {w : List va_E} : i_sw 0 10 (a0 :: l) kd (.int (nI 0) :: st) L w = a0 st L w := by rw [e_sw, if_neg (by decide)]; rfl
theorem sw_1_10 {a0 a1 : mK} {l : List mK} {kd : mK} {st L : List Value} {w : List va_E} : i_sw 0 10 (a0 :: a1 :: l) kd (.int (nI 1) :: st) L w = a1 st L w := by rw [e_sw, if_neg (by decide)]; rfl
theorem sw_2_10 {a0 a1 a2 : mK} {l : List mK} {kd : mK} {st L : List Value} {w : List va_E} : i_sw 0 10 (a0 :: a1 :: a2 :: l) kd (.int (nI 2) :: st) L w = a2 st L w := by rw [e_sw, if_neg (by decide)]; rfl
theorem sw_3_10 {a0 a1 a2 a3 : mK} {l : List mK} {kd : mK} {st L : List Value} {w : List va_E} : i_sw 0 10 (a0 :: a1 :: a2 :: a3 :: l) kd (.int (nI 3) :: st) L w = a3 st L w := by rw [e_sw, if_neg (by decide)]; rfl
theorem sw_4_10 {a0 a1 a2 a3 a4 : mK} {l : List mK} {kd : mK} {st L : List Value} {w : List va_E} : i_sw 0 10 (a0 :: a1 :: a2 :: a3 :: a4 :: l) kd (.int (nI 4) :: st) L w = a4 st L w := by rw [e_sw, if_neg (by decide)]; rfl
theorem sw_5_10 {a0 a1 a2 a3 a4 a5 : mK} {l : List mK} {kd : mK} {st L : List Value} {w : List va_E} : i_sw 0 10 (a0 :: a1 :: a2 :: a3 :: a4 :: a5 :: l) kd (.int (nI 5) :: st) L w = a5 st L w := by rw [e_sw, if_neg (by decide)]; rfl
theorem sw_6_10 {a0 a1 a2 a3 a4 a5 a6 : mK} {l : List mK} {kd : mK} {st L : List Value} {w : List va_E} : i_sw 0 10 (a0 :: a1 :: a2 :: a3 :: a4 :: a5 :: a6 :: l) kd (.int (nI 6) :: st) L w = a6 st L w := by rw [e_sw, if_neg (by decide)]; rfl
theorem sw_7_10 {a0 a1 a2 a3 a4 a5 a6 a7 : mK} {l : List mK} {kd : mK} {st L : List Value} {w : List va_E} : i_sw 0 10 (a0 :: a1 :: a2 :: a3 :: a4 :: a5 :: a6 :: a7 :: l) kd (.int (nI 7) :: st) L w = a7 st L w := by rw [e_sw, if_neg (by decide)]; rfl
theorem sw_8_10 {a0 a1 a2 a3 a4 a5 a6 a7 a8 : mK} {l : List mK} {kd : mK} {st L : List Value} {w : List va_E} : i_sw 0 10 (a0 :: a1 :: a2 :: a3 :: a4 :: a5 :: a6 :: a7 :: a8 :: l) kd (.int (nI 8) :: st) L w = a8 st L w := by rw [e_sw, if_neg (by decide)]; rfl
theorem sw_9_10 {a0 a1 a2 a3 a4 a5 a6 a7 a8 a9 : mK} {l : List mK} {kd : mK} {st L : List Value} {w : List va_E} : i_sw 0 10 (a0 :: a1 :: a2 :: a3 :: a4 :: a5 :: a6 :: a7 :: a8 :: a9 :: l) kd (.int (nI 9) :: st) L w = a9 st L w := by rw [e_sw, if_neg (by decide)]; rfl
theorem sw_10_10 {a0 a1 a2 a3 a4 a5 a6 a7 a8 a9 a10 : mK} {l : List mK} {kd : mK} {st L : List Value} {w : List va_E} : i_sw 0 10 (a0 :: a1 :: a2 :: a3 :: a4 :: a5 :: a6 :: a7 :: a8 :: a9 :: a10 :: l) kd (.int (nI 10) :: st) L w = a10 st L w := by rw [e_sw, if_neg (by decide)]; rfl
theorem sw_0_11 {a0 : mK} {l : List mK} {kd : mK} {st L : List Value} {w : List va_E} : i_sw 0 11 (a0 :: l) kd (.int (nI 0) :: st) L w = a0 st L w := by rw [e_sw, if_neg (by decide)]; rfl
theorem sw_1_11 {a0 a1 : mK} {l : List mK} {kd : mK} {st L : List Value} {w : List va_E} : i_sw 0 11 (a0 :: a1 :: l) kd (.int (nI 1) :: st) L w = a1 st L w := by rw [e_sw, if_neg (by decide)]; rfl
theorem sw_2_11 {a0 a1 a2 : mK} {l : List mK} {kd : mK} {st L : List Value} {w : List va_E} : i_sw 0 11 (a0 :: a1 :: a2 :: l) kd (.int (nI 2) :: st) L w = a2 st L w := by rw [e_sw, if_neg (by decide)]; rfl
theorem sw_3_11 {a0 a1 a2 a3 : mK} {l : List mK} {kd : mK} {st L : List Value} {w : List va_E} : i_sw 0 11 (a0 :: a1 :: a2 :: a3 :: l) kd (.int (nI 3) :: st) L w = a3 st L w := by rw [e_sw, if_neg (by decide)]; rfl
theorem sw_4_11 {a0 a1 a2 a3 a4 : mK} {l : List mK} {kd : mK} {st L : List Value} {w : List va_E} : i_sw 0 11 (a0 :: a1 :: a2 :: a3 :: a4 :: l) kd (.int (nI 4) :: st) L w = a4 st L w := by rw [e_sw, if_neg (by decide)]; rfl
theorem sw_5_11 {a0 a1 a2 a3 a4 a5 : mK} {l : List mK} {kd : mK} {st L : List Value} {w : List va_E} : i_sw 0 11 (a0 :: a1 :: a2 :: a3 :: a4 :: a5 :: l) kd (.int (nI 5) :: st) L w = a5 st L w := by rw [e_sw, if_neg (by decide)]; rfl
theorem sw_6_11 {a0 a1 a2 a3 a4 a5 a6 : mK} {l : List mK} {kd : mK} {st L : List Value} {w : List va_E} : i_sw 0 11 (a0 :: a1 :: a2 :: a3 :: a4 :: a5 :: a6 :: l) kd (.int (nI 6) :: st) L w = a6 st L w := by rw [e_sw, if_neg (by decide)]; rfl
theorem sw_7_11 {a0 a1 a2 a3 a4 a5 a6 a7 : mK} {l : List mK} {kd : mK} {st L : List Value} {w : List va_E} : i_sw 0 11 (a0 :: a1 :: a2 :: a3 :: a4 :: a5 :: a6 :: a7 :: l) kd (.int (nI 7) :: st) L w = a7 st L w := by rw [e_sw, if_neg (by decide)]; rfl
theorem sw_8_11 {a0 a1 a2 a3 a4 a5 a6 a7 a8 : mK} {l : List mK} {kd : mK} {st L : List Value} {w : List va_E} : i_sw 0 11 (a0 :: a1 :: a2 :: a3 :: a4 :: a5 :: a6 :: a7 :: a8 :: l) kd (.int (nI 8) :: st) L w = a8 st L w := by rw [e_sw, if_neg (by decide)]; rfl
theorem sw_9_11 {a0 a1 a2 a3 a4 a5 a6 a7 a8 a9 : mK} {l : List mK} {kd : mK} {st L : List Value} {w : List va_E} : i_sw 0 11 (a0 :: a1 :: a2 :: a3 :: a4 :: a5 :: a6 :: a7 :: a8 :: a9 :: l) kd (.int (nI 9) :: st) L w = a9 st L w := by rw [e_sw, if_neg (by decide)]; rfl
theorem sw_10_11 {a0 a1 a2 a3 a4 a5 a6 a7 a8 a9 a10 : mK} {l : List mK} {kd : mK} {st L : List Value} {w : List va_E} : i_sw 0 11 (a0 :: a1 :: a2 :: a3 :: a4 :: a5 :: a6 :: a7 :: a8 :: a9 :: a10 :: l) kd (.int (nI 10) :: st) L w = a10 st L w := by rw [e_sw, if_neg (by decide)]; rfl
theorem sw_11_11 {a0 a1 a2 a3 a4 a5 a6 a7 a8 a9 a10 a11 : mK} {l : List mK} {kd : mK} {st L : List Value} {w : List va_E} : i_sw 0 11 (a0 :: a1 :: a2 :: a3 :: a4 :: a5 :: a6 :: a7 :: a8 :: a9 :: a10 :: a11 :: l) kd (.int (nI 11) :: st) L w = a11 st L w := by rw [e_sw, if_neg (by decide)]; rfl
theorem sw_11_10 {l : List mK} {kd : mK} {st L : List Value} {w : List va_E} : i_sw 0 10 l kd (.int (nI 11) :: st) L w = kd st L w := by rw [e_sw, if_pos (by decide)]
theorem nlen_2 {k : mK} {st L : List Value} {w : List va_E} : i_nlen k (.ref 2000 :: st) L w = k (.int 12 :: st) L w := rfl
def nNS (k : Nat) : Nat := [2, 1, 2, 4, 4, 4, 4, 2, 2, 1, 2, 0].getD k 0
theorem nNS_le : ∀ k, k < 12 → nNS k ≤ 4 := by decide
theorem nald_k {k : Nat} (hk : k < 12) {q : mK} {st L : List Value} {w : List va_E} : i_nald q (.int (nI k) :: .ref 2000 :: st) L w = q (.int (nI (nNS k)) :: st) L w := by
  rw [e_nald, if_pos ⟨rfl, by rw [nI_toInt (by omega)]; omega, by rw [nI_toInt (by omega)]; omega⟩, nI_clamp (by omega)]
  have key : ∀ k, k < 12 → nT.getD k 0 = nI (nNS k) := by decide
  rw [key k hk]
def bdB (k : Nat) : Bool := decide (3 ≤ k) && decide (k ≤ 6)
def loS (k i : Nat) (n : Nat → Int32) : Int32 := if k = 0 then 2 else if k = 1 then 1 else if k = 10 ∧ i = 1 then n 0 else if bdB k = true ∧ i = 3 then n 2 else 0
def hiS (P : Pk) (k i : Nat) : Int32 :=
  if k = 0 then 6 else if k = 1 then 9 else if k = 7 then (if i = 0 then nI (pN P) - 1 else 99) else if k = 8 then (if i = 0 then nI (pN P) - 1 else 3)
  else if k = 9 ∨ k = 10 then nI (pn P) - 1 else (if i = 0 then nI (pn P) - 1 else if i = 1 then 99 else 11)
def cnS (P : Pk) (k i : Nat) (n : Nat → Int32) (v : Int32) : Bool := decide (loS k i n ≤ v) && decide (v ≤ hiS P k i) && (!decide (k = 9) || !(pH P).testBit v.toNatClampNeg)
/-- the numbers of a line, i of them, from e on: inl: where the fault is -/
def rdS (b : Nat → Nat) (ln : Nat) (P : Pk) (k e : Nat) : Nat → Sum Nat ((Nat → Int32) × Nat)
  | 0 => .inr (fun _ => 0, e)
  | i + 1 => match rdS b ln P k e i with
    | .inl s => .inl s
    | .inr q => if cnS P k i (upd q.1 i (nmS b ln (skS b ln q.2) (enS b ln (skS b ln q.2)))) (nmS b ln (skS b ln q.2) (enS b ln (skS b ln q.2))) then .inr (upd q.1 i (nmS b ln (skS b ln q.2) (enS b ln (skS b ln q.2))), enS b ln (skS b ln q.2)) else .inl (skS b ln q.2)
theorem rdS_inl {b : Nat → Nat} {ln : Nat} {P : Pk} {k e i s : Nat} (h : rdS b ln P k e i = .inl s) : ∀ m, rdS b ln P k e (i + m) = .inl s
  | 0 => h
  | m + 1 => by
    rw [show i + (m + 1) = (i + m) + 1 from rfl, rdS, rdS_inl h m]
theorem rdS_step {b : Nat → Nat} {ln : Nat} {P : Pk} {k e i : Nat} {q : (Nat → Int32) × Nat} (h : rdS b ln P k e i = .inr q) : rdS b ln P k e (i + 1) = if cnS P k i (upd q.1 i (nmS b ln (skS b ln q.2) (enS b ln (skS b ln q.2)))) (nmS b ln (skS b ln q.2) (enS b ln (skS b ln q.2))) then .inr (upd q.1 i (nmS b ln (skS b ln q.2) (enS b ln (skS b ln q.2))), enS b ln (skS b ln q.2)) else .inl (skS b ln q.2) := by
  rw [rdS, h]
theorem rdS_back {b : Nat → Nat} {ln : Nat} {P : Pk} {k e i : Nat} {q : (Nat → Int32) × Nat} (h : rdS b ln P k e (i + 1) = .inr q) : ∃ q0, rdS b ln P k e i = .inr q0 ∧ cnS P k i q.1 (q.1 i) = true ∧ q.1 = upd q0.1 i (q.1 i) ∧ q.1 i = nmS b ln (skS b ln q0.2) (enS b ln (skS b ln q0.2)) ∧ q.2 = enS b ln (skS b ln q0.2) := by
  cases hz : rdS b ln P k e i with
  | inl s => rw [rdS, hz] at h; cases h
  | inr q0 =>
    rw [rdS_step hz] at h
    split at h
    · rename_i hc
      cases h
      have e1 : upd q0.1 i (nmS b ln (skS b ln q0.2) (enS b ln (skS b ln q0.2))) i = nmS b ln (skS b ln q0.2) (enS b ln (skS b ln q0.2)) := pk_us
      exact ⟨q0, rfl, by simp only [e1]; exact hc, by simp only [e1], e1, rfl⟩
    · cases h
theorem rdS_pos {b : Nat → Nat} {ln : Nat} {P : Pk} {k e : Nat} (he : e ≤ ln) : ∀ {i : Nat} {q : (Nat → Int32) × Nat}, rdS b ln P k e i = .inr q → q.2 ≤ ln
  | 0, q, h => by cases h; exact he
  | i + 1, q, h => by
    obtain ⟨q0, h0, -, -, -, h4⟩ := rdS_back h
    rw [h4]
    exact (enS_le (skS_le (rdS_pos he h0)).2).2
theorem loS_cong {k i : Nat} {n n' : Nat → Int32} (h : ∀ j, j < i → n j = n' j) : loS k i n = loS k i n' := by
  unfold loS
  split
  · rfl
  · split
    · rfl
    · split
      · rename_i hc; exact h 0 (by omega)
      · split
        · rename_i hc; exact h 2 (by omega)
        · rfl
theorem cnS_cong {P : Pk} {k i : Nat} {n n' : Nat → Int32} {v : Int32} (h : ∀ j, j < i → n j = n' j) : cnS P k i n v = cnS P k i n' v := by
  unfold cnS; rw [loS_cong h]
/-- a line that may stand -/
def LnOK (P : Pk) (k : Nat) (n : Nat → Int32) : Prop := k < 12 ∧ (bdB k = true → pN P < 6) ∧ ∀ i, i < nNS k → cnS P k i n (n i) = true ∧ ∃ a, a < 100 ∧ n i = nI a
theorem lo_pos {P : Pk} {k i : Nat} {n : Nat → Int32} {v : Int32} (hc : cnS P k i n v = true) (hv : v = -1 ∨ ∃ a, a < 100 ∧ v = nI a) (h : ∀ j, j < i → ∃ a, a < 100 ∧ n j = nI a) : ∃ a, a < 100 ∧ v = nI a := by
  rcases hv with hv | hv
  · exfalso
    simp only [cnS, Bool.and_eq_true, decide_eq_true_eq] at hc
    have h1 := hc.1.1
    rw [hv] at h1
    unfold loS at h1
    split at h1
    · exact absurd h1 (by decide)
    · split at h1
      · exact absurd h1 (by decide)
      · split at h1
        · rename_i hk
          obtain ⟨a, ha, e⟩ := h 0 (by omega)
          rw [e, Int32.le_iff_toInt_le, nI_toInt (by omega)] at h1
          have : (-1 : Int32).toInt = -1 := by decide
          omega
        · split at h1
          · rename_i hk
            obtain ⟨a, ha, e⟩ := h 2 (by omega)
            rw [e, Int32.le_iff_toInt_le, nI_toInt (by omega)] at h1
            have : (-1 : Int32).toInt = -1 := by decide
            omega
          · exact absurd h1 (by decide)
  · exact hv
theorem rdS_ok {b : Nat → Nat} {ln : Nat} {P : Pk} {k e : Nat} : ∀ {i : Nat} {q : (Nat → Int32) × Nat}, rdS b ln P k e i = .inr q → ∀ j, j < i → cnS P k j q.1 (q.1 j) = true ∧ ∃ a, a < 100 ∧ q.1 j = nI a
  | 0, q, h => fun j hj => absurd hj (by omega)
  | i + 1, q, h => by
    obtain ⟨q0, h0, h1, h2, h3, h4⟩ := rdS_back h
    have ih := rdS_ok h0
    have same : ∀ j, j < i → q.1 j = q0.1 j := fun j hj => by rw [h2, pk_un (by omega)]
    intro j hj
    by_cases hji : j = i
    · subst hji
      refine ⟨h1, lo_pos h1 ?_ (fun t ht => ?_)⟩
      · rw [h3]; exact nmS_cases
      · rw [same t ht]; exact (ih t ht).2
    · have hlt : j < i := by omega
      rw [same j hlt]
      refine ⟨?_, (ih j hlt).2⟩
      rw [cnS_cong (n' := q0.1) (fun t ht => same t (by omega))]
      exact (ih j hlt).1
def lineS (b : Nat → Nat) (ln : Nat) (P : Pk) (e : Nat) : Sum Nat (Nat × (Nat → Int32) × Nat) :=
  if fa_first (fun i => isW b i (skS b ln e) (enS b ln (skS b ln e))) 12 < 12 then
    (if bdB (fa_first (fun i => isW b i (skS b ln e) (enS b ln (skS b ln e))) 12) && decide (6 ≤ pN P) then .inl (skS b ln e)
     else match rdS b ln P (fa_first (fun i => isW b i (skS b ln e) (enS b ln (skS b ln e))) 12) (enS b ln (skS b ln e)) (nNS (fa_first (fun i => isW b i (skS b ln e) (enS b ln (skS b ln e))) 12)) with
      | .inl s => .inl s
      | .inr q => .inr (fa_first (fun i => isW b i (skS b ln e) (enS b ln (skS b ln e))) 12, q.1, q.2))
  else .inl (skS b ln e)
theorem line_no {b : Nat → Nat} {ln : Nat} {P : Pk} {e : Nat} (h : ∀ i, i < 12 → isW b i (skS b ln e) (enS b ln (skS b ln e)) = false) : lineS b ln P e = .inl (skS b ln e) := by
  unfold lineS
  rw [if_neg]
  intro z
  have h2 : isW b (fa_first (fun i => isW b i (skS b ln e) (enS b ln (skS b ln e))) 12) (skS b ln e) (enS b ln (skS b ln e)) = true := fa_first_yes (fun i => isW b i (skS b ln e) (enS b ln (skS b ln e))) 12 z
  rw [h _ z] at h2; cases h2
theorem line_yes {b : Nat → Nat} {ln : Nat} {P : Pk} {e k : Nat} (hk : k < 12) (h : isW b k (skS b ln e) (enS b ln (skS b ln e)) = true) : lineS b ln P e = if bdB k && decide (6 ≤ pN P) then .inl (skS b ln e) else match rdS b ln P k (enS b ln (skS b ln e)) (nNS k) with
      | .inl s => .inl s
      | .inr q => .inr (k, q.1, q.2) := by
  have hlt : fa_first (fun i => isW b i (skS b ln e) (enS b ln (skS b ln e))) 12 < 12 := by
    apply Classical.byContradiction
    intro z
    have hle := fa_first_le (fun i => isW b i (skS b ln e) (enS b ln (skS b ln e))) 12
    have h9 : isW b k (skS b ln e) (enS b ln (skS b ln e)) = false := fa_first_no (fun i => isW b i (skS b ln e) (enS b ln (skS b ln e))) 12 k (by omega)
    rw [h] at h9; cases h9
  have h2 : isW b (fa_first (fun i => isW b i (skS b ln e) (enS b ln (skS b ln e))) 12) (skS b ln e) (enS b ln (skS b ln e)) = true := fa_first_yes (fun i => isW b i (skS b ln e) (enS b ln (skS b ln e))) 12 hlt
  have h3 := isW_one hlt hk h2 h
  unfold lineS
  rw [if_pos hlt, h3]
theorem line_ok {b : Nat → Nat} {ln : Nat} {P : Pk} {e k e2 : Nat} {n : Nat → Int32} (he : e ≤ ln) (h : lineS b ln P e = .inr (k, n, e2)) : LnOK P k n ∧ e2 ≤ ln := by
  rcases lnS_cases b (skS b ln e) (enS b ln (skS b ln e)) with ⟨-, h0⟩ | ⟨k0, hk0, hw, -⟩
  · rw [line_no h0] at h; nomatch h
  · rw [line_yes hk0 hw] at h
    by_cases hb : (bdB k0 && decide (6 ≤ pN P)) = true
    · rw [if_pos hb] at h; nomatch h
    · rw [if_neg hb] at h
      cases hq : rdS b ln P k0 (enS b ln (skS b ln e)) (nNS k0) with
      | inl s => rw [hq] at h; nomatch h
      | inr q =>
        rw [hq] at h
        obtain ⟨h1, h2⟩ := Prod.mk.inj (Sum.inr.inj h)
        obtain ⟨h3, h4⟩ := Prod.mk.inj h2
        subst h1
        subst h3
        subst h4
        refine ⟨⟨hk0, fun z => ?_, fun i hi => rdS_ok hq i hi⟩, rdS_pos (enS_le (skS_le he).2).2 hq⟩
        rw [z] at hb
        simpa using hb
/-- a line is done -/
def doS (P : Pk) (k : Nat) (n : Nat → Int32) : Pk :=
  if k = 0 then ((n 0).toNatClampNeg, (n 1).toNatClampNeg, 0, 2, 50, 0, 0, 0, pT P)
  else if k = 1 then (pC P, pR P, pN P, n 0, pl P, pp P, pW P, pH P, pT P)
  else if k = 2 then (pC P, pR P, pN P, pf P, n 1, (n 0).toNatClampNeg, pW P, pH P, pT P)
  else if k = 7 then setT P (upd (pT P) (7 * (n 0).toNatClampNeg + 5) (n 1))
  else if k = 8 then setT P (upd (pT P) (7 * (n 0).toNatClampNeg + 6) (n 1))
  else if k = 9 then setH P (pH P ||| 2 ^ (n 0).toNatClampNeg)
  else if k = 10 then setW P (addWS (pW P) (n 0).toNatClampNeg ((n 1).toNatClampNeg + 1 - (n 0).toNatClampNeg))
  else if k = 11 then setN P 0
  else setT (setN P (pN P + 1)) (bandT (pT P) (pN P) (nI (k - 3)) (n 0) (n 1) (n 2) (n 3))
/-- all lines; how many are left -/
def alS (b : Nat → Nat) (ln : Nat) : Nat → Pk → Nat → Sum Nat (Pk × Nat)
  | 0, _, _ => .inl 0
  | f + 1, P, e => match lineS b ln P e with
    | .inl s => .inl s
    | .inr q => if skS b ln q.2.2 < ln then
        (if isW b 12 (skS b ln q.2.2) (enS b ln (skS b ln q.2.2)) then (if f = 0 then .inl (skS b ln q.2.2) else alS b ln f (doS P q.1 q.2.1) (enS b ln (skS b ln q.2.2))) else .inl (skS b ln q.2.2))
      else .inr (doS P q.1 q.2.1, f)
