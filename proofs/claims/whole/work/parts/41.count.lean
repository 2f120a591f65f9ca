/-! counting bits: the library's bitCount; subsets of a set of places, by number -/
def rep8 (m : Nat) : Nat → Nat
  | 0 => 0
  | n + 1 => m + 256 * rep8 m n
def bc1 (n x : Nat) : Nat := x - ((x / 2) &&& rep8 0x55 n)
def bc2 (n x : Nat) : Nat := (x &&& rep8 0x33 n) + ((x / 4) &&& rep8 0x33 n)
def bc3 (n x : Nat) : Nat := (x + x / 16) &&& rep8 0x0f n
def pc8 (a : Nat) : Nat := fb_ct a.testBit 8
theorem and_cat {a m y M : Nat} (ha : a < 256) (hm : m < 256) : (a + 256 * y) &&& (m + 256 * M) = (a &&& m) + 256 * (y &&& M) := by
  have h1 : a &&& m < 256 := Nat.lt_of_le_of_lt Nat.and_le_left ha
  have e1 : ((a + 256 * y) &&& (m + 256 * M)) % 2 ^ 8 = a &&& m := by
    rw [Nat.and_mod_two_pow]
    have : (a + 256 * y) % 2 ^ 8 = a := by omega
    have : (m + 256 * M) % 2 ^ 8 = m := by omega
    simp [*]
  have e2 : ((a + 256 * y) &&& (m + 256 * M)) / 2 ^ 8 = y &&& M := by
    rw [Nat.and_div_two_pow]
    have : (a + 256 * y) / 2 ^ 8 = y := by omega
    have : (m + 256 * M) / 2 ^ 8 = M := by omega
    simp [*]
  omega
theorem bc1_b : ∀ a, a < 256 → ∀ t, t < 2 → ((a / 2 + 128 * t) &&& 0x55) = (a / 2 &&& 0x55) := by decide +kernel
theorem bc2_b : ∀ a, a < 256 → ∀ t, t < 4 → ((a / 4 + 64 * t) &&& 0x33) = (a / 4 &&& 0x33) := by decide +kernel
theorem bc3_b : ∀ l, l < 5 → ∀ h, h < 5 → ∀ t, t < 5 → ((16 * h + l + h + 16 * t) &&& 0x0f) = l + h := by decide +kernel
def b2 (a : Nat) : Nat := (a &&& 0x33) + ((a / 4) &&& 0x33)
def b1 (a : Nat) : Nat := a - ((a / 2) &&& 0x55)
theorem b12 : ∀ a, a < 256 → b1 a < 256 ∧ b2 (b1 a) < 256 ∧ b2 (b1 a) % 16 < 5 ∧ b2 (b1 a) / 16 < 5 ∧ b2 (b1 a) % 16 + b2 (b1 a) / 16 = pc8 a := by decide +kernel
theorem bc1_s (n : Nat) {a y : Nat} (ha : a < 256) : bc1 (n + 1) (a + 256 * y) = b1 a + 256 * bc1 n y := by
  rw [bc1, rep8]
  have e : (a + 256 * y) / 2 = (a / 2 + 128 * (y % 2)) + 256 * (y / 2) := by omega
  rw [e, and_cat (by omega) (by decide), bc1_b a ha _ (Nat.mod_lt _ (by decide)), b1, bc1]
  have h1 : (a / 2 &&& 0x55) ≤ a / 2 := Nat.and_le_left
  have h2 : (y / 2 &&& rep8 0x55 n) ≤ y / 2 := Nat.and_le_left
  omega
theorem bc2_s (n : Nat) {a y : Nat} (ha : a < 256) : bc2 (n + 1) (a + 256 * y) = b2 a + 256 * bc2 n y := by
  rw [bc2, rep8]
  have e : (a + 256 * y) / 4 = (a / 4 + 64 * (y % 4)) + 256 * (y / 4) := by omega
  rw [e, and_cat ha (by decide), and_cat (by omega) (by decide), bc2_b a ha _ (Nat.mod_lt _ (by decide)), b2, bc2]
  omega
theorem bc3_s (n : Nat) {b z : Nat} (h1 : b % 16 < 5) (h2 : b / 16 < 5) (h3 : z % 16 < 5) : bc3 (n + 1) (b + 256 * z) = (b % 16 + b / 16) + 256 * bc3 n z := by
  rw [bc3, rep8]
  have e : (b + 256 * z) + (b + 256 * z) / 16 = (16 * (b / 16) + b % 16 + b / 16 + 16 * (z % 16)) + 256 * (z + z / 16) := by omega
  rw [e, and_cat (by omega) (by decide), bc3_b _ h1 _ h2 _ h3, bc3]
/-- the counts of a number's bytes -/
def cs8 : Nat → Nat → Nat
  | 0, _ => 0
  | n + 1, x => pc8 (x % 256) + 256 * cs8 n (x / 256)
theorem bc_all : ∀ (n x : Nat), x < 256 ^ n → bc2 n (bc1 n x) % 16 < 5 ∧ bc3 n (bc2 n (bc1 n x)) = cs8 n x
  | 0, x, h => by
    have : x = 0 := by simpa using h
    subst this
    decide
  | n + 1, x, h => by
    have hx : x = x % 256 + 256 * (x / 256) := by omega
    have ha : x % 256 < 256 := Nat.mod_lt _ (by decide)
    obtain ⟨i1, i2⟩ := bc_all n (x / 256) (by rw [Nat.pow_succ] at h; omega)
    obtain ⟨c1, c2, c3, c4, c5⟩ := b12 _ ha
    rw [hx, bc1_s n ha, bc2_s n c1]
    refine ⟨by omega, ?_⟩
    rw [bc3_s n c3 c4 i1, c5, i2, ← hx, cs8]
theorem pc8_le (a : Nat) : pc8 a ≤ 8 := fb_ct_le _ _
theorem ct_bytes (n : Nat) (x : Nat) : fb_ct x.testBit (8 + n) = pc8 (x % 256) + fb_ct (x / 256).testBit n := by
  rw [fb_ct_split, pc8]
  congr 1
  · apply fb_ct_cong
    intro k hk
    have : (256 : Nat) = 2 ^ 8 := rfl
    rw [this, Nat.testBit_mod_two_pow]
    simp [hk]
  · apply fb_ct_cong
    intro k hk
    have : (256 : Nat) = 2 ^ 8 := rfl
    rw [this, Nat.testBit_div_two_pow, Nat.add_comm]
/-- how many places a set has -/
def cnt (x : Nat) : Nat := fb_ct x.testBit 40
theorem j_bitCount {w : List va_E} {x : Nat} (hx : x < 2 ^ 40) : FJ13_bitCount_95d88 [.long (lN x)] w = some (some (.int (nI (cnt x))), w) := by
  obtain ⟨-, hc⟩ := bc_all 8 x (by omega)
  have e1 : ((lN x).toUInt64 >>> ((1 : Int32).toInt64.toUInt64 &&& Int64.toUInt64 63)).toInt64 = lN (x / 2) := wb_shr (k := 1) (by omega) (by decide)
  have e2 : lN x - (lN (x / 2) &&& 6148914691236517205) = lN (bc1 8 x) := by
    show lN x - (lN (x / 2) &&& lN (rep8 0x55 8)) = _
    rw [fb_andL, lN_sub (Nat.le_trans Nat.and_le_left (by omega)), bc1]
  have hb1 : bc1 8 x < 2 ^ 63 := by rw [bc1]; omega
  have e3 : ((lN (bc1 8 x)).toUInt64 >>> ((2 : Int32).toInt64.toUInt64 &&& Int64.toUInt64 63)).toInt64 = lN (bc1 8 x / 4) := wb_shr (k := 2) (by omega) (by decide)
  have e4 : (lN (bc1 8 x) &&& 3689348814741910323) + (lN (bc1 8 x / 4) &&& 3689348814741910323) = lN (bc2 8 (bc1 8 x)) := by
    show (lN (bc1 8 x) &&& lN (rep8 0x33 8)) + (lN (bc1 8 x / 4) &&& lN (rep8 0x33 8)) = _
    rw [fb_andL, fb_andL, lN_add, bc2]
  have hb2 : bc2 8 (bc1 8 x) < 2 ^ 63 := by
    have h1 : bc1 8 x &&& rep8 0x33 8 ≤ rep8 0x33 8 := Nat.and_le_right
    have h2 : bc1 8 x / 4 &&& rep8 0x33 8 ≤ rep8 0x33 8 := Nat.and_le_right
    have h3 : rep8 0x33 8 = 3689348814741910323 := rfl
    rw [bc2]; omega
  have e5 : ((lN (bc2 8 (bc1 8 x))).toUInt64 >>> ((4 : Int32).toInt64.toUInt64 &&& Int64.toUInt64 63)).toInt64 = lN (bc2 8 (bc1 8 x) / 16) := wb_shr (k := 4) (by omega) (by decide)
  have e6 : lN (bc2 8 (bc1 8 x) + bc2 8 (bc1 8 x) / 16) &&& 1085102592571150095 = lN (cs8 8 x) := by
    show lN (bc2 8 (bc1 8 x) + bc2 8 (bc1 8 x) / 16) &&& lN (rep8 0x0f 8) = _
    rw [fb_andL, ← hc, bc3]
  obtain ⟨c0, c1, c2, c3, c4, k0, k1, k2, k3, k4, hcs, hct⟩ : ∃ c0 c1 c2 c3 c4, c0 ≤ 8 ∧ c1 ≤ 8 ∧ c2 ≤ 8 ∧ c3 ≤ 8 ∧ c4 ≤ 8 ∧ cs8 8 x = c0 + 256 * (c1 + 256 * (c2 + 256 * (c3 + 256 * c4))) ∧ cnt x = c0 + (c1 + (c2 + (c3 + c4))) := by
    refine ⟨pc8 (x % 256), pc8 (x / 256 % 256), pc8 (x / 256 / 256 % 256), pc8 (x / 256 / 256 / 256 % 256), pc8 (x / 256 / 256 / 256 / 256 % 256), pc8_le _, pc8_le _, pc8_le _, pc8_le _, pc8_le _, ?_, ?_⟩
    · have z : x / 256 / 256 / 256 / 256 / 256 = 0 := by omega
      have z0 : pc8 0 = 0 := by decide
      simp only [cs8, z, Nat.zero_div, Nat.zero_mod, z0, Nat.mul_zero, Nat.add_zero]
    · have z : x / 256 / 256 / 256 / 256 / 256 = 0 := by omega
      rw [cnt, ct_bytes 32 x, ct_bytes 24, ct_bytes 16, ct_bytes 8, ct_bytes 0, z]
      rfl
  have e7 : ((lN (cs8 8 x)).toUInt64 >>> ((8 : Int32).toInt64.toUInt64 &&& Int64.toUInt64 63)).toInt64 = lN (cs8 8 x / 256) := wb_shr (k := 8) (by omega) (by decide)
  have e8 : ((lN (cs8 8 x + cs8 8 x / 256)).toUInt64 >>> ((16 : Int32).toInt64.toUInt64 &&& Int64.toUInt64 63)).toInt64 = lN ((cs8 8 x + cs8 8 x / 256) / 65536) := wb_shr (k := 16) (by omega) (by decide)
  have e9 : ((lN (cs8 8 x + cs8 8 x / 256 + (cs8 8 x + cs8 8 x / 256) / 65536)).toUInt64 >>> ((32 : Int32).toInt64.toUInt64 &&& Int64.toUInt64 63)).toInt64 = lN ((cs8 8 x + cs8 8 x / 256 + (cs8 8 x + cs8 8 x / 256) / 65536) / 4294967296) := wb_shr (k := 32) (by omega) (by decide)
  have e10 : ∀ z, nI z &&& 127 = nI (z % 128) := by
    intro z
    show nI z &&& nI (2 ^ 7 - 1) = nI (z % 2 ^ 7)
    rw [fa_and, Nat.and_two_pow_sub_one_eq_mod]
  have e11 : (cs8 8 x + cs8 8 x / 256 + (cs8 8 x + cs8 8 x / 256) / 65536 + (cs8 8 x + cs8 8 x / 256 + (cs8 8 x + cs8 8 x / 256) / 65536) / 4294967296) % 128 = cnt x := by
    rw [hcs, hct]
    clear hcs hct e1 e2 e3 e4 e5 e6 e7 e8 e9 hb1 hb2 hc
    have d1 : (c0 + 256 * (c1 + 256 * (c2 + 256 * (c3 + 256 * c4)))) / 256 = c1 + 256 * (c2 + 256 * (c3 + 256 * c4)) := by omega
    rw [d1]
    have d2 : (c0 + 256 * (c1 + 256 * (c2 + 256 * (c3 + 256 * c4))) + (c1 + 256 * (c2 + 256 * (c3 + 256 * c4)))) / 65536 = (c2 + c3) + 256 * (c3 + c4) + 65536 * c4 := by omega
    rw [d2]
    have d3 : (c0 + 256 * (c1 + 256 * (c2 + 256 * (c3 + 256 * c4))) + (c1 + 256 * (c2 + 256 * (c3 + 256 * c4))) + ((c2 + c3) + 256 * (c3 + c4) + 65536 * c4)) / 4294967296 = c4 := by omega
    rw [d3]
    omega
  simp only [FJ13_bitCount_95d88, jJ13_bitCount_95d88, e_push, e_ild_0, e_lld_0, e_ald_0, e_inc_0, e_ild_1, e_lld_1, e_ald_1, e_inc_1, e_ild_2, e_lld_2, e_ald_2, e_inc_2, e_ild_3, e_lld_3, e_ald_3, e_inc_3, e_ild_4, e_lld_4, e_ald_4, e_inc_4, e_ild_5, e_lld_5, e_ald_5, e_inc_5, e_ild_6, e_lld_6, e_ald_6, e_inc_6, e_ild_7, e_lld_7, e_ald_7, e_inc_7, e_ild_8, e_lld_8, e_ald_8, e_inc_8, e_ild_9, e_lld_9, e_ald_9, e_inc_9, e_ild_10, e_lld_10, e_ald_10, e_inc_10, e_ild_11, e_lld_11, e_ald_11, e_inc_11, e_ild_12, e_lld_12, e_ald_12, e_inc_12, e_ist, e_ast, e_lst, e_sto_0, e_sto_1i, e_sto_1r, e_sto_1u, e_sto_1l, e_sto_2i, e_sto_2r, e_sto_2u, e_sto_2l, e_sto_3i, e_sto_3r, e_sto_3u, e_sto_3l, e_sto_4i, e_sto_4r, e_sto_4u, e_sto_4l, e_sto_5i, e_sto_5r, e_sto_5u, e_sto_5l, e_sto_6i, e_sto_6r, e_sto_6u, e_sto_6l, e_sto_7i, e_sto_7r, e_sto_7u, e_sto_7l, e_sto_8i, e_sto_8r, e_sto_8u, e_sto_8l, e_sto_9i, e_sto_9r, e_sto_9u, e_sto_9l, e_sto_10i, e_sto_10r, e_sto_10u, e_sto_10l, e_sto_11i, e_sto_11r, e_sto_11u, e_sto_11l, e_sto_12i, e_sto_12r, e_sto_12u, e_sto_12l, e_stoL_0, e_stoL_1i, e_stoL_1r, e_stoL_1u, e_stoL_2i, e_stoL_2r, e_stoL_2u, e_stoL_3i, e_stoL_3r, e_stoL_3u, e_stoL_4i, e_stoL_4r, e_stoL_4u, e_stoL_5i, e_stoL_5r, e_stoL_5u, e_stoL_6i, e_stoL_6r, e_stoL_6u, e_stoL_7i, e_stoL_7r, e_stoL_7u, e_stoL_8i, e_stoL_8r, e_stoL_8u, e_stoL_9i, e_stoL_9r, e_stoL_9u, e_stoL_10i, e_stoL_10r, e_stoL_10u, e_stoL_11i, e_stoL_11r, e_stoL_11u, e_stoL_12i, e_stoL_12r, e_stoL_12u, e_ib, e_lb, e_ls, e_ii, e_i2l, e_l2i, e_lcmp, e_idiv, e_irem, e_dup_i, e_dup_r, e_dup2, e_pop, e_ifeq, e_iceq, e_ifne, e_icne, e_iflt, e_iclt, e_ifge, e_icge, e_ifgt, e_icgt, e_ifle, e_icle, e_sw, e_iret, e_nret, e_lret, e_aret, e_vret, e_get, e_puti, e_putl, e_iald, e_zald, e_iast, e_zast, e_lald, e_last, e_alen, e_nald, e_nlen, e_mmax, e_mmin, e_mabs, cont_v, cont_u, e_call0, e_call1, e_call2, e_call3, e_call4, e_call5, e_call6, e_callV0, e_callT0, e_callV1, e_callT1, e_callV2, e_callT2, e_callV3, e_callT3, e_callV4, e_callT4, e_callV5, e_callT5, lin_i, lin_r, lin_l, lin_n, lsz_i, lsz_r, lsz_l, lsz_n, rep_s, rep_0, mEnt_e, e1, e2, e3, e4, e5, e6, e7, lN_add, e8, e9, lN_i, e10, e11, if_true, if_false, Bool.false_eq_true, Option.bind_some, List.length_cons, List.length_nil, Nat.reduceAdd, Nat.reduceLeDiff]
