/-! sets of places: fewest, then least -/
def bldS (f : Nat → Bool) : Nat → Nat
  | 0 => 0
  | k + 1 => if f k then bldS f k ||| 2 ^ k else bldS f k
theorem bldS_bit (f : Nat → Bool) (i : Nat) : ∀ k, (bldS f k).testBit i = (decide (i < k) && f i)
  | 0 => by simp [bldS]
  | k + 1 => by
    have ih := bldS_bit f i k
    rw [bldS]
    by_cases hik : i = k
    · subst hik
      by_cases c : f i = true
      · simp [c, fb_bit_set]
      · have c' : f i = false := by simpa using c
        simp [c', ih]
    · by_cases hlt : i < k
      · have : i < k + 1 := by omega
        split
        · rw [fb_bit_set, ih]; simp [hik, hlt, this]
        · rw [ih]; simp [hlt, this]
      · have : ¬ i < k + 1 := by omega
        split
        · rw [fb_bit_set, ih]; simp [hik, hlt, this]
        · rw [ih]; simp [hlt, this]
theorem bldS_lt (f : Nat → Bool) (k : Nat) : bldS f k < 2 ^ k := by
  apply Nat.lt_pow_two_of_testBit
  intro i hi
  rw [bldS_bit]
  have : ¬ i < k := by omega
  simp [this]
theorem placesS_bit (P : Pk) (s p : Nat) : ∀ k, (placesS P s k).testBit p = true ↔ ∃ b, b < k ∧ s.testBit b = true ∧ plcS P b = p
  | 0 => by simp [placesS]
  | k + 1 => by
    have ih := placesS_bit P s p k
    rw [placesS]
    split
    · rename_i hs
      rw [fb_bit_set]
      simp only [Bool.or_eq_true, decide_eq_true_eq, ih]
      constructor
      · rintro (⟨b, h1, h2, h3⟩ | h)
        · exact ⟨b, by omega, h2, h3⟩
        · exact ⟨k, by omega, hs, h.symm⟩
      · rintro ⟨b, h1, h2, h3⟩
        by_cases hbk : b = k
        · subst hbk; exact Or.inr h3.symm
        · exact Or.inl ⟨b, by omega, h2, h3⟩
    · rename_i hs
      rw [ih]
      constructor
      · rintro ⟨b, h1, h2, h3⟩
        exact ⟨b, by omega, h2, h3⟩
      · rintro ⟨b, h1, h2, h3⟩
        by_cases hbk : b = k
        · subst hbk; exact absurd h2 hs
        · exact ⟨b, by omega, h2, h3⟩
theorem placesS_ct (P : Pk) (s n : Nat) (hp : ∀ b, plcS P b < n ∨ True) : ∀ k, fb_ct (placesS P s k).testBit n ≤ k
  | 0 => by
    have : fb_ct (placesS P s 0).testBit n = 0 := by
      rw [fb_ct_zero]; intro k _; simp [placesS]
    omega
  | k + 1 => by
    have ih := placesS_ct P s n hp k
    rw [placesS]
    split
    · have e : fb_ct (placesS P s k ||| 2 ^ plcS P k).testBit n = fb_ct (fun i => if i = plcS P k then true else (placesS P s k).testBit i) n := by
        apply fb_ct_cong
        intro i _
        rw [fb_bit_set]
        by_cases h : i = plcS P k <;> simp [h]
      rw [e]
      by_cases hlt : plcS P k < n
      · have := fb_ct_upd (placesS P s k).testBit true hlt
        simp only [if_true] at this
        omega
      · rw [fb_ct_out _ _ (by omega)]; omega
    · omega
/-- a without h -/
def anS (a h : Nat) : Nat := a &&& (h ^^^ (2 ^ 64 - 1))
theorem anS_bit {a h : Nat} (ha : a < 2 ^ 64) (p : Nat) : (anS a h).testBit p = (a.testBit p && !h.testBit p) := by
  rw [anS, Nat.testBit_and, Nat.testBit_xor, Nat.testBit_two_pow_sub_one]
  by_cases hp : p < 64
  · simp [hp]
  · have : a.testBit p = false := Nat.testBit_lt_two_pow (Nat.lt_of_lt_of_le ha (Nat.pow_le_pow_right (by decide) (by omega)))
    simp [this]
theorem anS_le (a h : Nat) : anS a h ≤ a := Nat.and_le_left
theorem anS_L (a h : Nat) : lN a &&& (lN h ^^^ (-1)) = lN (anS a h) := by
  have : (-1 : Int64) = lN (2 ^ 64 - 1) := by decide
  rw [this, fb_xorL, fb_andL, anS]
def subS (x U : Nat) : Prop := ∀ p, x.testBit p = true → U.testBit p = true
/-- the places at which a hedge may be set -/
def spS (P : Pk) : Nat := anS (placesS P (2 ^ pN P - 1) (pN P)) (pH P)
theorem placesS_40 {P : Pk} (hP : PkOK P) (s : Nat) : placesS P s (pN P) < 2 ^ 36 := Nat.lt_of_lt_of_le (placesS_lt hP s _ (Nat.le_refl _)) (Nat.pow_le_pow_right (by decide) (pn_le hP))
theorem spS_lt {P : Pk} (hP : PkOK P) : spS P < 2 ^ pn P := Nat.lt_of_le_of_lt (anS_le _ _) (placesS_lt hP _ _ (Nat.le_refl _))
theorem spS_bit {P : Pk} (hP : PkOK P) (p : Nat) : (spS P).testBit p = true ↔ (∃ b, b < pN P ∧ plcS P b = p) ∧ (pH P).testBit p = false := by
  rw [spS, anS_bit (by have := placesS_40 hP (2 ^ pN P - 1); omega), Bool.and_eq_true, placesS_bit]
  simp only [Bool.not_eq_true', Nat.testBit_two_pow_sub_one, decide_eq_true_eq]
  constructor
  · rintro ⟨⟨b, h1, -, h3⟩, h4⟩
    exact ⟨⟨b, h1, h3⟩, h4⟩
  · rintro ⟨⟨b, h1, h3⟩, h4⟩
    exact ⟨⟨b, h1, h1, h3⟩, h4⟩
theorem spS_ct {P : Pk} (n : Nat) (hP : PkOK P) : fb_ct (spS P).testBit n ≤ 6 := by
  have h1 := placesS_ct P (2 ^ pN P - 1) n (fun _ => Or.inr trivial) (pN P)
  have h2 : fb_ct (spS P).testBit n ≤ fb_ct (placesS P (2 ^ pN P - 1) (pN P)).testBit n := by
    apply fb_ct_sub
    intro k _ h
    rw [spS, anS_bit (by have := placesS_40 hP (2 ^ pN P - 1); omega), Bool.and_eq_true] at h
    exact h.1
  have := hP.2.2.2.2.1
  omega
/-- a set of bands' places without hedges: every subset -/
theorem fam_iff {P : Pk} (hP : PkOK P) (x : Nat) : (∃ s, s < 2 ^ pN P ∧ x = anS (placesS P s (pN P)) (pH P)) ↔ subS x (spS P) := by
  constructor
  · rintro ⟨s, -, rfl⟩ p hp
    rw [anS_bit (by have := placesS_40 hP s; omega), Bool.and_eq_true, placesS_bit] at hp
    obtain ⟨⟨b, h1, -, h3⟩, h4⟩ := hp
    exact (spS_bit hP p).mpr ⟨⟨b, h1, h3⟩, by simpa using h4⟩
  · intro hx
    refine ⟨bldS (fun b => x.testBit (plcS P b)) (pN P), bldS_lt _ _, ?_⟩
    apply Nat.eq_of_testBit_eq
    intro p
    rw [anS_bit (by have := placesS_40 hP (bldS (fun b => x.testBit (plcS P b)) (pN P)); omega)]
    apply Bool.eq_iff_iff.mpr
    rw [Bool.and_eq_true, placesS_bit]
    constructor
    · intro h
      obtain ⟨⟨b, h1, h2⟩, h3⟩ := (spS_bit hP p).mp (hx p h)
      refine ⟨⟨b, h1, ?_, h2⟩, by simpa using h3⟩
      rw [bldS_bit, h2, h]
      simp [h1]
    · rintro ⟨⟨b, h1, h2, h3⟩, h4⟩
      rw [bldS_bit] at h2
      rw [← h3]
      simpa [h1] using h2
/-- fewest, then least -/
def btS (a b : Nat) : Prop := cnt a < cnt b ∨ (cnt a = cnt b ∧ a ≤ b)
def IsBest (G : Nat → Prop) (o : Option Nat) : Prop := match o with
  | none => ∀ x, ¬ G x
  | some b => G b ∧ ∀ x, G x → btS b x
theorem IsBest.one {G : Nat → Prop} {o o' : Option Nat} (h : IsBest G o) (h' : IsBest G o') : o = o' := by
  cases o with
  | none => cases o' with
    | none => rfl
    | some b => exact absurd h'.1 (h b)
  | some a => cases o' with
    | none => exact absurd h.1 (h' a)
    | some b =>
      have h1 := h.2 b h'.1
      have h2 := h'.2 a h.1
      unfold btS at h1 h2
      congr 1
      omega
theorem IsBest.cong {G G' : Nat → Prop} {o : Option Nat} (h : IsBest G o) (hG : ∀ x, G x ↔ G' x) : IsBest G' o := by
  cases o with
  | none => exact fun x hx => h x ((hG x).mpr hx)
  | some b => exact ⟨(hG b).mp h.1, fun x hx => h.2 x ((hG x).mpr hx)⟩
/-- the subset that a number of k bits picks -/
def exS (U c : Nat) (n : Nat) : Nat := bldS (fun p => U.testBit p && c.testBit (fb_ct U.testBit p)) n
theorem exS_cnt (U c : Nat) : ∀ n, fb_ct (fun p => U.testBit p && c.testBit (fb_ct U.testBit p)) n = fb_ct c.testBit (fb_ct U.testBit n)
  | 0 => rfl
  | n + 1 => by
    rw [fb_ct_succ, exS_cnt U c n, fb_ct_succ]
    by_cases h : U.testBit n = true
    · simp only [h, Bool.true_and, if_true, fb_ct_succ]
    · have h' : U.testBit n = false := by simpa using h
      simp [h']
theorem exS_ct (U c n : Nat) (hn : n ≤ 40) : cnt (exS U c n) = fb_ct c.testBit (fb_ct U.testBit n) := by
  obtain ⟨m, hm⟩ : ∃ m, 40 = n + m := ⟨40 - n, by omega⟩
  rw [cnt, ← exS_cnt U c n, hm, fb_ct_split]
  have e1 : fb_ct (exS U c n).testBit n = fb_ct (fun p => U.testBit p && c.testBit (fb_ct U.testBit p)) n := by
    apply fb_ct_cong
    intro k hk
    rw [exS, bldS_bit]; simp [hk]
  have e2 : fb_ct (fun k => (exS U c n).testBit (n + k)) m = 0 := by
    rw [fb_ct_zero]
    intro k _
    rw [exS, bldS_bit]
    have : ¬ n + k < n := by omega
    rw [decide_eq_false this, Bool.false_and]
  omega
theorem exS_mono (U c c' : Nat) : ∀ n, c % 2 ^ fb_ct U.testBit n ≤ c' % 2 ^ fb_ct U.testBit n → exS U c n ≤ exS U c' n
  | 0, _ => Nat.le_refl _
  | n + 1, h => by
    have ih := exS_mono U c c' n
    have l1 : exS U c n < 2 ^ n := bldS_lt _ _
    have l2 : exS U c' n < 2 ^ n := bldS_lt _ _
    have s : ∀ d, exS U d (n + 1) = if U.testBit n && d.testBit (fb_ct U.testBit n) then exS U d n + 2 ^ n else exS U d n := by
      intro d
      have ld : exS U d n < 2 ^ n := bldS_lt _ _
      have hor : exS U d n ||| 2 ^ n = exS U d n + 2 ^ n := by
        have := Nat.two_pow_add_eq_or_of_lt ld 1
        rw [Nat.mul_one] at this
        rw [Nat.or_comm, ← this, Nat.add_comm]
      show bldS _ (n + 1) = _
      rw [bldS]
      split
      · exact hor
      · rfl
    rw [s c, s c']
    rw [fb_ct_succ] at h
    by_cases hU : U.testBit n = true
    · simp only [hU, if_true] at h
      generalize fb_ct U.testBit n = m at *
      have d1 : ∀ d, d % 2 ^ (m + 1) = d % 2 ^ m + 2 ^ m * (if d.testBit m then 1 else 0) := by
        intro d
        rw [Nat.mod_pow_succ]
        congr 2
        have hb := tb_iff d m
        have hl : d / 2 ^ m % 2 < 2 := Nat.mod_lt _ (by decide)
        by_cases hd : d.testBit m = true
        · rw [if_pos hd]; exact hb.mp hd
        · rw [if_neg hd]
          have : ¬ d / 2 ^ m % 2 = 1 := fun z => hd (hb.mpr z)
          omega
      have b1 : c % 2 ^ m < 2 ^ m := Nat.mod_lt _ (Nat.two_pow_pos _)
      have b2 : c' % 2 ^ m < 2 ^ m := Nat.mod_lt _ (Nat.two_pow_pos _)
      rw [d1 c, d1 c'] at h
      simp only [hU, Bool.true_and]
      by_cases c1 : c.testBit m = true
      · by_cases c2 : c'.testBit m = true
        · simp only [c1, c2, if_true] at h ⊢
          have := ih (by omega)
          omega
        · simp only [c1, c2, if_true] at h
          simp at h
          omega
      · by_cases c2 : c'.testBit m = true
        · simp only [c1, c2, if_true]
          simp
          omega
        · have c1' : c.testBit m = false := by simpa using c1
          have c2' : c'.testBit m = false := by simpa using c2
          simp only [c1', c2'] at h ⊢
          simp at h ⊢
          exact ih h
    · have hU' : U.testBit n = false := by simpa using hU
      simp only [hU', Bool.false_and] at h ⊢
      simp at h ⊢
      exact ih h
theorem exS_onto (U x : Nat) : ∀ n, ∃ c, c < 2 ^ fb_ct U.testBit n ∧ ∀ p, p < n → U.testBit p = true → c.testBit (fb_ct U.testBit p) = x.testBit p
  | 0 => ⟨0, Nat.two_pow_pos _, fun p hp => absurd hp (by omega)⟩
  | n + 1 => by
    obtain ⟨c, h1, h2⟩ := exS_onto U x n
    rw [fb_ct_succ]
    by_cases hU : U.testBit n = true
    · rw [if_pos hU]
      have hmono : ∀ p, p < n → U.testBit p = true → fb_ct U.testBit p < fb_ct U.testBit n := by
        intro p hp hpU
        have := fb_ct_mono U.testBit (show p + 1 ≤ n by omega)
        rw [fb_ct_succ, if_pos hpU] at this
        omega
      by_cases hx : x.testBit n = true
      · refine ⟨c ||| 2 ^ fb_ct U.testBit n, Nat.or_lt_two_pow (Nat.lt_of_lt_of_le h1 (Nat.pow_le_pow_right (by decide) (by omega))) (Nat.pow_lt_pow_right (by decide) (by omega)), ?_⟩
        intro p hp hpU
        rw [fb_bit_set]
        by_cases hpn : p = n
        · subst hpn; simp [hx]
        · have := hmono p (by omega) hpU
          rw [h2 p (by omega) hpU]
          have : ¬ fb_ct U.testBit p = fb_ct U.testBit n := by omega
          simp [this]
      · refine ⟨c, Nat.lt_of_lt_of_le h1 (Nat.pow_le_pow_right (by decide) (by omega)), ?_⟩
        intro p hp hpU
        by_cases hpn : p = n
        · subst hpn
          have hx' : x.testBit p = false := by simpa using hx
          rw [Nat.testBit_lt_two_pow h1, hx']
        · exact h2 p (by omega) hpU
    · rw [if_neg hU]
      refine ⟨c, h1, ?_⟩
      intro p hp hpU
      by_cases hpn : p = n
      · subst hpn; exact absurd hpU hU
      · exact h2 p (by omega) hpU
theorem exS_sub {U : Nat} {n : Nat} (hU : U < 2 ^ n) (x : Nat) : (∃ c, c < 2 ^ fb_ct U.testBit n ∧ x = exS U c n) ↔ subS x U := by
  constructor
  · rintro ⟨c, -, rfl⟩ p hp
    rw [exS, bldS_bit] at hp
    simp at hp
    exact hp.2.1
  · intro hx
    obtain ⟨c, h1, h2⟩ := exS_onto U x n
    refine ⟨c, h1, ?_⟩
    apply Nat.eq_of_testBit_eq
    intro p
    rw [exS, bldS_bit]
    by_cases hp : p < n
    · by_cases hpU : U.testBit p = true
      · rw [h2 p hp hpU, hpU]; simp [hp]
      · have hpU' : U.testBit p = false := by simpa using hpU
        have : x.testBit p = false := by
          cases z : x.testBit p with
          | false => rfl
          | true => exact absurd (hx p z) hpU
        simp [hpU', this]
    · have hpU' : U.testBit p = false := Nat.testBit_lt_two_pow (Nat.lt_of_lt_of_le hU (Nat.pow_le_pow_right (by decide) (by omega)))
      have : x.testBit p = false := by
        cases z : x.testBit p with
        | false => rfl
        | true => rw [hx p z] at hpU'; cases hpU'
      simp [hp, this]
