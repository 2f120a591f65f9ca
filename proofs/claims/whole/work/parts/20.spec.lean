/-! WHAT IS MEANT: a park, how far, how loud, heard, in plain functions -/
def absS (x : Int32) : Int32 := if 0 ≤ x then x else 0 - x
def clS (C p : Nat) : Int32 := nI p - nI p / nI C * nI C
def rwS (C p : Nat) : Int32 := nI p / nI C
def farS (C p q : Nat) : Int32 := absS (clS C p - clS C q) + absS (rwS C p - rwS C q)
def mx0 (v : Int32) : Int32 := if 0 < v then v else 0
/-- columns, rows, bands, fall, the flute's loudness and place, walk and hedges by bits, the bands' traits -/
abbrev Pk : Type := Nat × Nat × Nat × Int32 × Int32 × Nat × Nat × Nat × (Nat → Int32)
def pC (P : Pk) : Nat := P.1
def pR (P : Pk) : Nat := P.2.1
def pN (P : Pk) : Nat := P.2.2.1
def pf (P : Pk) : Int32 := P.2.2.2.1
def pl (P : Pk) : Int32 := P.2.2.2.2.1
def pp (P : Pk) : Nat := P.2.2.2.2.2.1
def pW (P : Pk) : Nat := P.2.2.2.2.2.2.1
def pH (P : Pk) : Nat := P.2.2.2.2.2.2.2.1
def pT (P : Pk) : Nat → Int32 := P.2.2.2.2.2.2.2.2
def pn (P : Pk) : Nat := pC P * pR P
def flS (P : Pk) (p : Nat) : Int32 := mx0 (pl P - pf P * farS (pC P) (pp P) p)
def tS (P : Pk) (b k : Nat) : Int32 := pT P (7 * b + k)
def plcS (P : Pk) (b : Nat) : Nat := (tS P b 1).toNatClampNeg
def lsS (C : Nat) (v : Int32) (q p : Nat) : Bool :=
  if v = 0 then decide (rwS C p < rwS C q)
  else if v = 1 then decide (clS C q < clS C p)
  else if v = 2 then decide (rwS C q < rwS C p)
  else decide (clS C p < clS C q)
def sideS (P : Pk) (b p : Nat) : Bool := lsS (pC P) (tS P b 6) (plcS P b) p
def bsS (P : Pk) (b p : Nat) : Int32 :=
  if tS P b 0 = 1 ∧ sideS P b p = false then 0
  else if ¬ tS P b 0 = 3 ∧ (pH P).testBit (plcS P b) = true then mx0 (tS P b 2 - pf P * farS (pC P) (plcS P b) p) / 2
  else mx0 (tS P b 2 - pf P * farS (pC P) (plcS P b) p)
def playS (P : Pk) (b h : Nat) : Bool := decide (tS P b 3 ≤ nI h) && decide (nI h ≤ tS P b 4) && (!decide (tS P b 0 = 2) || decide (h % 2 = 0))
def sumTo (g : Nat → Int32) : Nat → Int32
  | 0 => 0
  | n + 1 => sumTo g n + g n
def noS (P : Pk) (s p h : Nat) : Int32 := sumTo (fun b => if s.testBit b && playS P b h then bsS P b p else 0) (pN P)
def heS (P : Pk) (s p h : Nat) : Bool := decide (noS P s p h < flS P p)
def BdOK (P : Pk) (b : Nat) : Prop := (∃ q, q < pn P ∧ tS P b 1 = nI q) ∧ ∃ v, v < 100 ∧ tS P b 5 = nI v
def PkOK (P : Pk) : Prop := 2 ≤ pC P ∧ pC P ≤ 6 ∧ 2 ≤ pR P ∧ pR P ≤ 6 ∧ pN P ≤ 6 ∧ pp P < pn P ∧ pW P < 2 ^ pn P ∧ pH P < 2 ^ pn P ∧ ∀ b, b < pN P → BdOK P b
theorem pn_le {P : Pk} (h : PkOK P) : pn P ≤ 36 := by
  obtain ⟨-, h1, -, h2, -⟩ := h
  exact Nat.mul_le_mul h1 h2
theorem plc_lt {P : Pk} (h : PkOK P) {b : Nat} (hb : b < pN P) : plcS P b < pn P ∧ tS P b 1 = nI (plcS P b) := by
  obtain ⟨⟨q, h1, h2⟩, -⟩ := h.2.2.2.2.2.2.2.2 b hb
  have h3 := pn_le h
  have h4 : plcS P b = q := by
    rw [plcS, h2]; exact nI_clamp (by omega)
  rw [h4]
  exact ⟨h1, h2⟩
theorem sumTo_cong {f g : Nat → Int32} : ∀ {n : Nat}, (∀ k, k < n → f k = g k) → sumTo f n = sumTo g n
  | 0, _ => rfl
  | n + 1, h => by rw [sumTo, sumTo, sumTo_cong (fun k hk => h k (by omega)), h n (by omega)]
theorem sumTo_more {f : Nat → Int32} {n : Nat} : ∀ m, (∀ k, n ≤ k → k < n + m → f k = 0) → sumTo f (n + m) = sumTo f n
  | 0, _ => rfl
  | m + 1, h => by
    show sumTo f (n + m) + f (n + m) = _
    rw [sumTo_more m (fun k h1 h2 => h k h1 (by omega)), h (n + m) (by omega) (by omega)]
    simp
/-! numbers -/
theorem tb_iff (n k : Nat) : n.testBit k = true ↔ n / 2 ^ k % 2 = 1 := by
  rw [Nat.testBit_eq_decide_div_mod_eq]; simp
theorem tb_iff0 (n k : Nat) : n.testBit k = false ↔ ¬ n / 2 ^ k % 2 = 1 := by
  rw [Nat.testBit_eq_decide_div_mod_eq]; simp
/-- the class's test of a bit of a long -/
theorem bitU {W p : Nat} (hW : W < 2 ^ 63) (hp : p < 64) : lg_cmp (((lN W).toUInt64 >>> ((nI p).toInt64.toUInt64 &&& Int64.toUInt64 63)).toInt64 &&& 1) 1 = 0 ↔ W.testBit p = true := by
  rw [wb_bit (by omega) hp, tb_iff]
  have h1 : W / 2 ^ p % 2 < 2 := Nat.mod_lt _ (by decide)
  rcases (show W / 2 ^ p % 2 = 0 ∨ W / 2 ^ p % 2 = 1 by omega) with h | h <;> rw [h] <;> decide
/-- the model's -/
theorem bitS {W p : Nat} (hW : W < 2 ^ 62) (hp : p < 64) : lg_cmp (lN W >>> ((nI p).toInt64 &&& 63) &&& 1) 1 = 0 ↔ W.testBit p = true := by
  have e1 : lN W >>> ((nI p).toInt64 &&& 63) = lN (W / 2 ^ p) := pf_shr (by rw [wb_c p hp, wb_tb, wb_sm p hp]; simp; omega) hW
  have e2 : W / 2 ^ p < 2 ^ 64 := Nat.lt_of_le_of_lt (Nat.div_le_self _ _) (by omega)
  rw [e1, wb_a1 e2, tb_iff]
  have h1 : W / 2 ^ p % 2 < 2 := Nat.mod_lt _ (by decide)
  rcases (show W / 2 ^ p % 2 = 0 ∨ W / 2 ^ p % 2 = 1 by omega) with h | h <;> rw [h] <;> decide
/-- a bit of an int -/
theorem bitI : ∀ s, s < 64 → ∀ b, b < 6 → (((nI s >>> (nI b &&& 31)) &&& 1 = 1) ↔ s.testBit b = true) := by decide +kernel
theorem nI_lN64 {s : Nat} (h : s < 64) : (nI s).toInt64 = lN s := nI_l (by omega)
theorem shl1 : ∀ b, b < 31 → (1 : Int32) <<< (nI b &&& 31) = nI (2 ^ b) := by decide +kernel
theorem shl1L {p : Nat} (hp : p < 63) : (1 : Int64) <<< ((nI p).toInt64 &&& 63) = lN (2 ^ p) := by
  have h := wb_shl 1 (k := p) (by omega)
  rw [Nat.one_mul] at h
  exact h
theorem nrb0 : narrow .boolean (.int 0) = .int 0 := by decide
theorem nrb1 : narrow .boolean (.int 1) = .int 1 := by decide
/-- a loop whose states are known -/
theorem loop_run {F : mK → mK} {R : Option (Option Value × List va_E)} {st L : List Value} {w : List va_E} (m : Nat) (S : Nat → List Value × List Value × List va_E) (h0 : S 0 = (st, L, w)) (hs : ∀ k, k < m → ∀ B : mK, F B (S k).1 (S k).2.1 (S k).2.2 = B (S (k + 1)).1 (S (k + 1)).2.1 (S (k + 1)).2.2) (hx : ∀ B : mK, F B (S m).1 (S m).2.1 (S m).2.2 = R) (n : Nat) (hn : m < n) : i_loop F n st L w = R := by
  have key : ∀ (j k : Nat), k + j = m → ∀ n, j < n → i_loop F n (S k).1 (S k).2.1 (S k).2.2 = R := by
    intro j
    induction j with
    | zero =>
      intro k hk n hn
      obtain ⟨n, rfl⟩ : ∃ z, n = z + 1 := ⟨n - 1, by omega⟩
      have : k = m := by omega
      subst this
      exact hx _
    | succ j ih =>
      intro k hk n hn
      obtain ⟨n, rfl⟩ : ∃ z, n = z + 1 := ⟨n - 1, by omega⟩
      show F (i_loop F n) _ _ _ = R
      rw [hs k (by omega)]
      exact ih (k + 1) (by omega) n (by omega)
  have := key m 0 (by omega) n hn
  rw [h0] at this
  exact this
/-- an int array's cell -/
def ia (n : Nat) (f : Nat → Int32) : va_E := .inl (0, n, .inl f)
def la (n : Nat) (f : Nat → Int64) : va_E := .inl (1, n, .inr (.inl f))
def za (n : Nat) (f : Nat → Int32) : va_E := .inl (2, n, .inl f)
theorem ial_n {w : List va_E} {a n m : Nat} {f : Nat → Int32} {i : Int32} (h : w[a]? = some (ia n f)) (hi : i = nI m) (hm : m < n) (hn : n < 2 ^ 31) : ial 0 a i w = some (f m) := by
  subst hi
  simp only [ial, h, ia, nI_toInt (show m < 2 ^ 31 by omega), nI_clamp (show m < 2 ^ 31 by omega)]
  rw [if_pos ⟨trivial, by omega, by omega⟩]
theorem ias_n {w : List va_E} {a n m : Nat} {f : Nat → Int32} {i x : Int32} (h : w[a]? = some (ia n f)) (hi : i = nI m) (hm : m < n) (hn : n < 2 ^ 31) : ias 0 a i x w = some (w.set a (ia n (upd f m x))) := by
  subst hi
  simp only [ias, h, ia, nI_toInt (show m < 2 ^ 31 by omega), nI_clamp (show m < 2 ^ 31 by omega)]
  rw [if_pos ⟨trivial, by omega, by omega⟩]
theorem zal_n {w : List va_E} {a n m : Nat} {f : Nat → Int32} {i : Int32} (h : w[a]? = some (za n f)) (hi : i = nI m) (hm : m < n) (hn : n < 2 ^ 31) : ial 2 a i w = some (f m) := by
  subst hi
  simp only [ial, h, za, nI_toInt (show m < 2 ^ 31 by omega), nI_clamp (show m < 2 ^ 31 by omega)]
  rw [if_pos ⟨trivial, by omega, by omega⟩]
theorem zas_n {w : List va_E} {a n m : Nat} {f : Nat → Int32} {i x : Int32} (h : w[a]? = some (za n f)) (hi : i = nI m) (hm : m < n) (hn : n < 2 ^ 31) : ias 2 a i x w = some (w.set a (za n (upd f m x))) := by
  subst hi
  simp only [ias, h, za, nI_toInt (show m < 2 ^ 31 by omega), nI_clamp (show m < 2 ^ 31 by omega)]
  rw [if_pos ⟨trivial, by omega, by omega⟩]
theorem lal_n {w : List va_E} {a n m : Nat} {f : Nat → Int64} {i : Int32} (h : w[a]? = some (la n f)) (hi : i = nI m) (hm : m < n) (hn : n < 2 ^ 31) : lal a i w = some (f m) := by
  subst hi
  simp only [lal, h, la, nI_toInt (show m < 2 ^ 31 by omega), nI_clamp (show m < 2 ^ 31 by omega)]
  rw [if_pos ⟨trivial, by omega, by omega⟩]
theorem las_n {w : List va_E} {a n m : Nat} {f : Nat → Int64} {i : Int32} {x : Int64} (h : w[a]? = some (la n f)) (hi : i = nI m) (hm : m < n) (hn : n < 2 ^ 31) : las a i x w = some (w.set a (la n (vp_updL f m x))) := by
  subst hi
  simp only [las, h, la, nI_toInt (show m < 2 ^ 31 by omega), nI_clamp (show m < 2 ^ 31 by omega)]
  rw [if_pos ⟨trivial, by omega, by omega⟩]
theorem rc_of {w : List va_E} {b ci : Nat} {fs : List Value} (h : w[b]? = some (.inr (ci, fs))) : rc ci b w = true := by
  simp [rc, h]
theorem gt_of {w : List va_E} {a ci j : Nat} {fs : List Value} {v : Value} (h : w[a]? = some (.inr (ci, fs))) (hv : fs[j]? = some v) : gt ci j a w = some v := by
  simp [gt, h, hv]
theorem ix7 (b k : Nat) : nI b * 7 + nI k = nI (7 * b + k) := by
  show nI b * nI 7 + nI k = _
  rw [pk_mul, nI_add, Nat.mul_comm]
theorem ix7' (b k : Nat) : 7 * nI b + nI k = nI (7 * b + k) := by
  show nI 7 * nI b + nI k = _
  rw [pk_mul, nI_add]
theorem ix36 (b k : Nat) : nI b * 36 + nI k = nI (36 * b + k) := by
  show nI b * nI 36 + nI k = _
  rw [pk_mul, nI_add, Nat.mul_comm]
/-- the same cells but for those at S -/
def Sm (S : List Nat) (w w' : List va_E) : Prop := w'.length = w.length ∧ ∀ k, k ∉ S → w'[k]? = w[k]?
theorem Sm.rf {S : List Nat} {w : List va_E} : Sm S w w := ⟨rfl, fun _ _ => rfl⟩
theorem Sm.tr {S : List Nat} {a b c : List va_E} (h1 : Sm S a b) (h2 : Sm S b c) : Sm S a c := ⟨h2.1.trans h1.1, fun k hk => (h2.2 k hk).trans (h1.2 k hk)⟩
theorem Sm.mono {S T : List Nat} {a b : List va_E} (h : Sm S a b) (hST : ∀ k ∈ S, k ∈ T) : Sm T a b := ⟨h.1, fun k hk => h.2 k (fun z => hk (hST k z))⟩
theorem Sm.set {S : List Nat} {w : List va_E} {k : Nat} {e : va_E} (h : k ∈ S) : Sm S w (w.set k e) :=
  ⟨List.length_set, fun j hj => List.getElem?_set_ne (fun (z : k = j) => hj (by rw [← z]; exact h))⟩
theorem Sm.snoc {S : List Nat} {a b : List va_E} {k : Nat} {e : va_E} (h : Sm S a b) (hk : k ∈ S) : Sm S a (b.set k e) := h.tr (Sm.set hk)
theorem set_at {w : List va_E} {k : Nat} {e0 e : va_E} (h : w[k]? = some e0) : (w.set k e)[k]? = some e := List.getElem?_set_self (List.getElem?_eq_some_iff.mp h).1
theorem pt_of {w : List va_E} {a ci j : Nat} {fs : List Value} {v : Value} (h : w[a]? = some (.inr (ci, fs))) (hj : j < fs.length) : pt ci j a v w = some (w.set a (.inr (ci, fs.set j v))) := by
  simp [pt, h, hj]
theorem ile {α : Type} {a b : Int32} {x y : α} : (if a ≤ b then x else y) = (if b < a then y else x) := by
  by_cases h : a ≤ b
  · rw [if_pos h, if_neg (Int32.not_lt.mpr h)]
  · rw [if_neg h, if_pos (Int32.not_le.mp h)]
/-- a loop by an invariant -/
theorem loop_inv {F : mK → mK} {st L : List Value} {w : List va_E} (m : Nat) (Inv : Nat → List Value → List Value → List va_E → Prop) (Post : Option (Option Value × List va_E) → Prop) (h0 : Inv 0 st L w) (hs : ∀ k, k < m → ∀ st L w, Inv k st L w → ∃ st' L' w', Inv (k + 1) st' L' w' ∧ ∀ B : mK, F B st L w = B st' L' w') (hx : ∀ st L w, Inv m st L w → ∃ r, Post r ∧ ∀ B : mK, F B st L w = r) (n : Nat) (hn : m < n) : ∃ r, i_loop F n st L w = r ∧ Post r := by
  have key : ∀ (j k : Nat), k + j = m → ∀ n, j < n → ∀ st L w, Inv k st L w → ∃ r, i_loop F n st L w = r ∧ Post r := by
    intro j
    induction j with
    | zero =>
      intro k hk n hn st L w hI
      obtain ⟨n, rfl⟩ : ∃ z, n = z + 1 := ⟨n - 1, by omega⟩
      have : k = m := by omega
      subst this
      obtain ⟨r, h1, h2⟩ := hx st L w hI
      exact ⟨r, h2 _, h1⟩
    | succ j ih =>
      intro k hk n hn st L w hI
      obtain ⟨n, rfl⟩ : ∃ z, n = z + 1 := ⟨n - 1, by omega⟩
      obtain ⟨st', L', w', h1, h2⟩ := hs k (by omega) st L w hI
      obtain ⟨r, h3, h4⟩ := ih (k + 1) (by omega) n (by omega) st' L' w' h1
      exact ⟨r, (h2 _).trans h3, h4⟩
  exact key m 0 (by omega) n hn st L w h0
