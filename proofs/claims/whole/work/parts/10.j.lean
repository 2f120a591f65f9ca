abbrev rJ0_coder_7d493 : Room := ({ frames := 0, cells := 0, slots := 0, locals := 0 } : Room)
def jJ0_coder_7d493_14 : mK := i_nret .byte
set_option maxRecDepth 20000 in
theorem JJ0_coder_7d493_14 {X : mC} (C : Cx X rJ0_coder_7d493 cJ0_coder_7d493 1 RJ0 (some FieldType.byte)) (hX : Rx X) : Den X rJ0_coder_7d493 1 14 jJ0_coder_7d493_14 := by
  unfold jJ0_coder_7d493_14
  exact Dn_nret C hX dJ0_coder_7d493_14
def jJ0_coder_7d493 : mK := i_push (.int 1) (i_ifeq (i_push (.int 1) (jJ0_coder_7d493_14)) (i_ald 0 (i_sgc (jJ0_coder_7d493_14))))
def FJ0_coder_7d493 : mF := mEnt 1 jJ0_coder_7d493
set_option maxRecDepth 20000 in
theorem kJ0_coder_7d493 (l : Launch) (G : va_G) (tg : Nat → ClassId) : Ct l G tg yJ0_coder_7d493 cJ0_coder_7d493 1 (some FieldType.byte) rJ0_coder_7d493 FJ0_coder_7d493 := by
  refine Ct.of RJ0 (by decide) rfl (fun X C hX => ?_)
  unfold jJ0_coder_7d493
  refine Dn_cmp (q := 3) C q_388 dJ0_coder_7d493_0 rfl ?_
  refine Dn_ifeq (t := 13) (q := 6) C dJ0_coder_7d493_3 (by decide) rfl ?_ ?_
  · refine Dn_iconst (v := 1) (q := 14) C dJ0_coder_7d493_13 (by decide) rfl ?_
    exact JJ0_coder_7d493_14 C hX
  · refine Dn_ald_n (i := 0) (q := 7) C dJ0_coder_7d493_6 rfl rfl ?_
    refine Dn_sgc (q := 10) C q_1051 dJ0_coder_7d493_7 rfl ?_
    refine Dn_goto (t := 14) C dJ0_coder_7d493_10 (by decide) ?_
    exact JJ0_coder_7d493_14 C hX
abbrev rJ0_length_8abf5 : Room := ({ frames := 1, cells := 0, slots := 0, locals := 20 } : Room)
def jJ0_length_8abf5 : mK := i_ald 0 (i_sgv (i_sal (i_ald 0 (i_callT 0 FJ0_coder_7d493 (i_ib (fun x y => x >>> (y &&& 31)) (i_iret))))))
def FJ0_length_8abf5 : mF := mEnt 1 jJ0_length_8abf5
set_option maxRecDepth 20000 in
theorem kJ0_length_8abf5 (l : Launch) (G : va_G) (tg : Nat → ClassId) : Ct l G tg yJ0_length_8abf5 cJ0_length_8abf5 1 (some FieldType.int) rJ0_length_8abf5 FJ0_length_8abf5 := by
  refine Ct.of RJ0 (by decide) rfl (fun X C hX => ?_)
  unfold jJ0_length_8abf5
  refine Dn_ald_n (i := 0) (q := 1) C dJ0_length_8abf5_0 rfl rfl ?_
  refine Dn_sgv (q := 4) C q_1050 dJ0_length_8abf5_1 rfl ?_
  refine Dn_sal (q := 5) C dJ0_length_8abf5_4 rfl ?_
  refine Dn_ald_n (i := 0) (q := 6) C dJ0_length_8abf5_5 rfl rfl ?_
  refine Dn_callT (q := 9) C rfl (kJ0_coder_7d493 X.l X.G X.tg) q_387 q_384 q_385 q_386 q_52 ⟨rfl, rfl⟩ (by decide +kernel) ⟨by decide, by decide⟩ dJ0_length_8abf5_6 rfl ?_
  refine Dn_ishr (q := 10) C dJ0_length_8abf5_9 rfl ?_
  exact Dn_iret C hX dJ0_length_8abf5_10
abbrev rJ0_isLatin1_aae02 : Room := ({ frames := 0, cells := 0, slots := 0, locals := 0 } : Room)
def jJ0_isLatin1_aae02_18 : mK := i_nret .boolean
set_option maxRecDepth 20000 in
theorem JJ0_isLatin1_aae02_18 {X : mC} (C : Cx X rJ0_isLatin1_aae02 cJ0_isLatin1_aae02 1 RJ0 (some FieldType.boolean)) (hX : Rx X) : Den X rJ0_isLatin1_aae02 1 18 jJ0_isLatin1_aae02_18 := by
  unfold jJ0_isLatin1_aae02_18
  exact Dn_nret C hX dJ0_isLatin1_aae02_18
def jJ0_isLatin1_aae02_17 : mK := i_push (.int 0) (jJ0_isLatin1_aae02_18)
set_option maxRecDepth 20000 in
theorem JJ0_isLatin1_aae02_17 {X : mC} (C : Cx X rJ0_isLatin1_aae02 cJ0_isLatin1_aae02 1 RJ0 (some FieldType.boolean)) (hX : Rx X) : Den X rJ0_isLatin1_aae02 1 17 jJ0_isLatin1_aae02_17 := by
  unfold jJ0_isLatin1_aae02_17
  refine Dn_iconst (v := 0) (q := 18) C dJ0_isLatin1_aae02_17 (by decide) rfl ?_
  exact JJ0_isLatin1_aae02_18 C hX
def jJ0_isLatin1_aae02 : mK := i_push (.int 1) (i_ifeq (jJ0_isLatin1_aae02_17) (i_ald 0 (i_sgc (i_ifne (jJ0_isLatin1_aae02_17) (i_push (.int 1) (jJ0_isLatin1_aae02_18))))))
def FJ0_isLatin1_aae02 : mF := mEnt 1 jJ0_isLatin1_aae02
set_option maxRecDepth 20000 in
theorem kJ0_isLatin1_aae02 (l : Launch) (G : va_G) (tg : Nat → ClassId) : Ct l G tg yJ0_isLatin1_aae02 cJ0_isLatin1_aae02 1 (some FieldType.boolean) rJ0_isLatin1_aae02 FJ0_isLatin1_aae02 := by
  refine Ct.of RJ0 (by decide) rfl (fun X C hX => ?_)
  unfold jJ0_isLatin1_aae02
  refine Dn_cmp (q := 3) C q_388 dJ0_isLatin1_aae02_0 rfl ?_
  refine Dn_ifeq (t := 17) (q := 6) C dJ0_isLatin1_aae02_3 (by decide) rfl ?_ ?_
  · exact JJ0_isLatin1_aae02_17 C hX
  · refine Dn_ald_n (i := 0) (q := 7) C dJ0_isLatin1_aae02_6 rfl rfl ?_
    refine Dn_sgc (q := 10) C q_1051 dJ0_isLatin1_aae02_7 rfl ?_
    refine Dn_ifne (t := 17) (q := 13) C dJ0_isLatin1_aae02_10 (by decide) rfl ?_ ?_
    · exact JJ0_isLatin1_aae02_17 C hX
    · refine Dn_iconst (v := 1) (q := 14) C dJ0_isLatin1_aae02_13 (by decide) rfl ?_
      refine Dn_goto (t := 18) C dJ0_isLatin1_aae02_14 (by decide) ?_
      exact JJ0_isLatin1_aae02_18 C hX
abbrev rJ3_checkIndex_8e157 : Room := ({ frames := 0, cells := 0, slots := 0, locals := 0 } : Room)
def jJ3_checkIndex_8e157 : mK := i_ild 0 (i_iflt ((fun _ _ _ => none)) (i_ild 0 (i_ild 1 (i_iclt (i_ild 0 (i_iret)) ((fun _ _ _ => none))))))
def FJ3_checkIndex_8e157 : mF := mEnt 3 jJ3_checkIndex_8e157
set_option maxRecDepth 20000 in
theorem kJ3_checkIndex_8e157 (l : Launch) (G : va_G) (tg : Nat → ClassId) : Ct l G tg yJ3_checkIndex_8e157 cJ3_checkIndex_8e157 3 (some FieldType.int) rJ3_checkIndex_8e157 FJ3_checkIndex_8e157 := by
  refine Ct.of RJ3 (by decide) rfl (fun X C hX => ?_)
  unfold jJ3_checkIndex_8e157
  refine Dn_ild_n (i := 0) (q := 1) C dJ3_checkIndex_8e157_0 rfl rfl ?_
  refine Dn_iflt (t := 9) (q := 4) C dJ3_checkIndex_8e157_1 (by decide) rfl ?_ ?_
  · exact Den.none
  · refine Dn_ild_n (i := 0) (q := 5) C dJ3_checkIndex_8e157_4 rfl rfl ?_
    refine Dn_ild_n (i := 1) (q := 6) C dJ3_checkIndex_8e157_5 rfl rfl ?_
    refine Dn_iclt (t := 16) (q := 9) C dJ3_checkIndex_8e157_6 (by decide) rfl ?_ ?_
    · refine Dn_ild_n (i := 0) (q := 17) C dJ3_checkIndex_8e157_16 rfl rfl ?_
      exact Dn_iret C hX dJ3_checkIndex_8e157_17
    · exact Den.none
theorem hchk : ∀ (j z : Int32) (w : List va_E) (v : Value), 0 ≤ j → j < z → (v = .null ∨ v = .ref 3001) → FJ3_checkIndex_8e157 [.int j, .int z, v] w = some (some (.int j), w) := by
  intro j z w v h1 h2 hv
  have h3 : ¬ j < 0 := Int32.not_lt.mpr h1
  rcases hv with rfl | rfl <;> simp [FJ3_checkIndex_8e157, mEnt, lin, lsz, jJ3_checkIndex_8e157, i_ild, i_iflt, i_iclt, i_iret, h2, h3, Value.category]
abbrev rJ0_checkIndex_df160 : Room := ({ frames := 1, cells := 0, slots := 0, locals := 22 } : Room)
def jJ0_checkIndex_df160 : mK := i_ild 0 (i_ild 1 (i_chk (i_vret)))
def FJ0_checkIndex_df160 : mF := mEnt 2 jJ0_checkIndex_df160
set_option maxRecDepth 20000 in
theorem kJ0_checkIndex_df160 (l : Launch) (G : va_G) (tg : Nat → ClassId) : Ct l G tg yJ0_checkIndex_df160 cJ0_checkIndex_df160 2 none rJ0_checkIndex_df160 FJ0_checkIndex_df160 := by
  refine Ct.of RJ0 (by decide) rfl (fun X C hX => ?_)
  unfold jJ0_checkIndex_df160
  refine Dn_ild_n (i := 0) (q := 1) C dJ0_checkIndex_df160_0 rfl rfl ?_
  refine Dn_ild_n (i := 1) (q := 2) C dJ0_checkIndex_df160_1 rfl rfl ?_
  refine Dn_chk (q1 := 5) (q2 := 8) (q := 9) C q_404 (kJ3_checkIndex_8e157 X.l X.G X.tg) q_408 q_406 q_407 q_54 ⟨rfl, rfl⟩ (by decide +kernel) ⟨by decide, by decide⟩ hchk dJ0_checkIndex_df160_2 dJ0_checkIndex_df160_5 dJ0_checkIndex_df160_8 rfl rfl rfl ?_
  exact Dn_vret C hX dJ0_checkIndex_df160_9
abbrev rJ1_charAt_3b067 : Room := ({ frames := 2, cells := 0, slots := 0, locals := 43 } : Room)
def jJ1_charAt_3b067 : mK := i_ild 1 (i_ald 0 (i_sal (i_call 2 FJ0_checkIndex_df160 (i_ald 0 (i_ild 1 (i_sbl (i_push (.int 255) (i_ib (fun x y => x &&& y) (i_ii (fun x => (x.toUInt32 % 65536).toInt32) (i_nret .char))))))))))
def FJ1_charAt_3b067 : mF := mEnt 2 jJ1_charAt_3b067
set_option maxRecDepth 20000 in
theorem kJ1_charAt_3b067 (l : Launch) (G : va_G) (tg : Nat → ClassId) : Ct l G tg yJ1_charAt_3b067 cJ1_charAt_3b067 2 (some FieldType.char) rJ1_charAt_3b067 FJ1_charAt_3b067 := by
  refine Ct.of RJ1 (by decide) rfl (fun X C hX => ?_)
  unfold jJ1_charAt_3b067
  refine Dn_ild_n (i := 1) (q := 1) C dJ1_charAt_3b067_0 rfl rfl ?_
  refine Dn_ald_n (i := 0) (q := 2) C dJ1_charAt_3b067_1 rfl rfl ?_
  refine Dn_sal (q := 3) C dJ1_charAt_3b067_2 rfl ?_
  refine Dn_callS (q := 6) C (kJ0_checkIndex_df160 X.l X.G X.tg) q_403 q_401 q_402 q_52 ⟨rfl, rfl⟩ (by decide +kernel) ⟨by decide, by decide⟩ dJ1_charAt_3b067_3 rfl ?_
  refine Dn_ald_n (i := 0) (q := 7) C dJ1_charAt_3b067_6 rfl rfl ?_
  refine Dn_ild_n (i := 1) (q := 8) C dJ1_charAt_3b067_7 rfl rfl ?_
  refine Dn_sbl (q := 9) C dJ1_charAt_3b067_8 rfl ?_
  refine Dn_sipush (v := 255) (q := 12) C dJ1_charAt_3b067_9 (by decide) rfl ?_
  refine Dn_iand (q := 13) C dJ1_charAt_3b067_12 rfl ?_
  refine Dn_i2c (q := 14) C dJ1_charAt_3b067_13 rfl ?_
  exact Dn_nret C hX dJ1_charAt_3b067_14
abbrev rJ0_charAt_5068e : Room := ({ frames := 3, cells := 0, slots := 0, locals := 64 } : Room)
def jJ0_charAt_5068e : mK := i_ald 0 (i_callT 0 FJ0_isLatin1_aae02 (i_ifeq ((fun _ _ _ => none)) (i_ald 0 (i_sgv (i_ild 1 (i_call 2 FJ1_charAt_3b067 (i_nret .char)))))))
def FJ0_charAt_5068e : mF := mEnt 2 jJ0_charAt_5068e
set_option maxRecDepth 20000 in
theorem kJ0_charAt_5068e (l : Launch) (G : va_G) (tg : Nat → ClassId) : Ct l G tg yJ0_charAt_5068e cJ0_charAt_5068e 2 (some FieldType.char) rJ0_charAt_5068e FJ0_charAt_5068e := by
  refine Ct.of RJ0 (by decide) rfl (fun X C hX => ?_)
  unfold jJ0_charAt_5068e
  refine Dn_ald_n (i := 0) (q := 1) C dJ0_charAt_5068e_0 rfl rfl ?_
  refine Dn_callT (q := 4) C rfl (kJ0_isLatin1_aae02 X.l X.G X.tg) q_397 q_394 q_395 q_396 q_52 ⟨rfl, rfl⟩ (by decide +kernel) ⟨by decide, by decide⟩ dJ0_charAt_5068e_1 rfl ?_
  refine Dn_ifeq (t := 16) (q := 7) C dJ0_charAt_5068e_4 (by decide) rfl ?_ ?_
  · exact Den.none
  · refine Dn_ald_n (i := 0) (q := 8) C dJ0_charAt_5068e_7 rfl rfl ?_
    refine Dn_sgv (q := 11) C q_1050 dJ0_charAt_5068e_8 rfl ?_
    refine Dn_ild_n (i := 1) (q := 12) C dJ0_charAt_5068e_11 rfl rfl ?_
    refine Dn_callS (q := 15) C (kJ1_charAt_3b067 X.l X.G X.tg) q_400 q_398 q_399 q_53 ⟨rfl, rfl⟩ (by decide +kernel) ⟨by decide, by decide⟩ dJ0_charAt_5068e_12 rfl ?_
    exact Dn_nret C hX dJ0_charAt_5068e_15
abbrev rJ13_bitCount_95d88 : Room := ({ frames := 0, cells := 0, slots := 0, locals := 0 } : Room)
def jJ13_bitCount_95d88 : mK := i_lld 0 (i_lld 0 (i_push (.int 1) (i_ls (fun x y => (x.toUInt64 >>> (y.toInt64.toUInt64 &&& Int64.toUInt64 63)).toInt64) (i_push (.long 6148914691236517205) (i_lb (fun x y => x &&& y) (i_lb (fun x y => x - y) (i_lst 0 (i_lld 0 (i_push (.long 3689348814741910323) (i_lb (fun x y => x &&& y) (i_lld 0 (i_push (.int 2) (i_ls (fun x y => (x.toUInt64 >>> (y.toInt64.toUInt64 &&& Int64.toUInt64 63)).toInt64) (i_push (.long 3689348814741910323) (i_lb (fun x y => x &&& y) (i_lb (fun x y => x + y) (i_lst 0 (i_lld 0 (i_lld 0 (i_push (.int 4) (i_ls (fun x y => (x.toUInt64 >>> (y.toInt64.toUInt64 &&& Int64.toUInt64 63)).toInt64) (i_lb (fun x y => x + y) (i_push (.long 1085102592571150095) (i_lb (fun x y => x &&& y) (i_lst 0 (i_lld 0 (i_lld 0 (i_push (.int 8) (i_ls (fun x y => (x.toUInt64 >>> (y.toInt64.toUInt64 &&& Int64.toUInt64 63)).toInt64) (i_lb (fun x y => x + y) (i_lst 0 (i_lld 0 (i_lld 0 (i_push (.int 16) (i_ls (fun x y => (x.toUInt64 >>> (y.toInt64.toUInt64 &&& Int64.toUInt64 63)).toInt64) (i_lb (fun x y => x + y) (i_lst 0 (i_lld 0 (i_lld 0 (i_push (.int 32) (i_ls (fun x y => (x.toUInt64 >>> (y.toInt64.toUInt64 &&& Int64.toUInt64 63)).toInt64) (i_lb (fun x y => x + y) (i_lst 0 (i_lld 0 (i_l2i (i_push (.int 127) (i_ib (fun x y => x &&& y) (i_iret))))))))))))))))))))))))))))))))))))))))))))))))
def FJ13_bitCount_95d88 : mF := mEnt 2 jJ13_bitCount_95d88
set_option maxRecDepth 20000 in
theorem kJ13_bitCount_95d88 (l : Launch) (G : va_G) (tg : Nat → ClassId) : Ct l G tg yJ13_bitCount_95d88 cJ13_bitCount_95d88 2 (some FieldType.int) rJ13_bitCount_95d88 FJ13_bitCount_95d88 := by
  refine Ct.of RJ13 (by decide) rfl (fun X C hX => ?_)
  unfold jJ13_bitCount_95d88
  refine Dn_lld_n (i := 0) (q := 1) C dJ13_bitCount_95d88_0 rfl rfl ?_
  refine Dn_lld_n (i := 0) (q := 2) C dJ13_bitCount_95d88_1 rfl rfl ?_
  refine Dn_iconst (v := 1) (q := 3) C dJ13_bitCount_95d88_2 (by decide) rfl ?_
  refine Dn_lushr (q := 4) C dJ13_bitCount_95d88_3 rfl ?_
  refine Dn_ldc2 (q := 7) C dJ13_bitCount_95d88_4 q_643 rfl ?_
  refine Dn_land (q := 8) C dJ13_bitCount_95d88_7 rfl ?_
  refine Dn_lsub (q := 9) C dJ13_bitCount_95d88_8 rfl ?_
  refine Dn_lst_n (i := 0) (q := 10) C dJ13_bitCount_95d88_9 rfl (by decide) rfl ?_
  refine Dn_lld_n (i := 0) (q := 11) C dJ13_bitCount_95d88_10 rfl rfl ?_
  refine Dn_ldc2 (q := 14) C dJ13_bitCount_95d88_11 q_644 rfl ?_
  refine Dn_land (q := 15) C dJ13_bitCount_95d88_14 rfl ?_
  refine Dn_lld_n (i := 0) (q := 16) C dJ13_bitCount_95d88_15 rfl rfl ?_
  refine Dn_iconst (v := 2) (q := 17) C dJ13_bitCount_95d88_16 (by decide) rfl ?_
  refine Dn_lushr (q := 18) C dJ13_bitCount_95d88_17 rfl ?_
  refine Dn_ldc2 (q := 21) C dJ13_bitCount_95d88_18 q_644 rfl ?_
  refine Dn_land (q := 22) C dJ13_bitCount_95d88_21 rfl ?_
  refine Dn_ladd (q := 23) C dJ13_bitCount_95d88_22 rfl ?_
  refine Dn_lst_n (i := 0) (q := 24) C dJ13_bitCount_95d88_23 rfl (by decide) rfl ?_
  refine Dn_lld_n (i := 0) (q := 25) C dJ13_bitCount_95d88_24 rfl rfl ?_
  refine Dn_lld_n (i := 0) (q := 26) C dJ13_bitCount_95d88_25 rfl rfl ?_
  refine Dn_iconst (v := 4) (q := 27) C dJ13_bitCount_95d88_26 (by decide) rfl ?_
  refine Dn_lushr (q := 28) C dJ13_bitCount_95d88_27 rfl ?_
  refine Dn_ladd (q := 29) C dJ13_bitCount_95d88_28 rfl ?_
  refine Dn_ldc2 (q := 32) C dJ13_bitCount_95d88_29 q_645 rfl ?_
  refine Dn_land (q := 33) C dJ13_bitCount_95d88_32 rfl ?_
  refine Dn_lst_n (i := 0) (q := 34) C dJ13_bitCount_95d88_33 rfl (by decide) rfl ?_
  refine Dn_lld_n (i := 0) (q := 35) C dJ13_bitCount_95d88_34 rfl rfl ?_
  refine Dn_lld_n (i := 0) (q := 36) C dJ13_bitCount_95d88_35 rfl rfl ?_
  refine Dn_bipush (v := 8) (q := 38) C dJ13_bitCount_95d88_36 (by decide) rfl ?_
  refine Dn_lushr (q := 39) C dJ13_bitCount_95d88_38 rfl ?_
  refine Dn_ladd (q := 40) C dJ13_bitCount_95d88_39 rfl ?_
  refine Dn_lst_n (i := 0) (q := 41) C dJ13_bitCount_95d88_40 rfl (by decide) rfl ?_
  refine Dn_lld_n (i := 0) (q := 42) C dJ13_bitCount_95d88_41 rfl rfl ?_
  refine Dn_lld_n (i := 0) (q := 43) C dJ13_bitCount_95d88_42 rfl rfl ?_
  refine Dn_bipush (v := 16) (q := 45) C dJ13_bitCount_95d88_43 (by decide) rfl ?_
  refine Dn_lushr (q := 46) C dJ13_bitCount_95d88_45 rfl ?_
  refine Dn_ladd (q := 47) C dJ13_bitCount_95d88_46 rfl ?_
  refine Dn_lst_n (i := 0) (q := 48) C dJ13_bitCount_95d88_47 rfl (by decide) rfl ?_
  refine Dn_lld_n (i := 0) (q := 49) C dJ13_bitCount_95d88_48 rfl rfl ?_
  refine Dn_lld_n (i := 0) (q := 50) C dJ13_bitCount_95d88_49 rfl rfl ?_
  refine Dn_bipush (v := 32) (q := 52) C dJ13_bitCount_95d88_50 (by decide) rfl ?_
  refine Dn_lushr (q := 53) C dJ13_bitCount_95d88_52 rfl ?_
  refine Dn_ladd (q := 54) C dJ13_bitCount_95d88_53 rfl ?_
  refine Dn_lst_n (i := 0) (q := 55) C dJ13_bitCount_95d88_54 rfl (by decide) rfl ?_
  refine Dn_lld_n (i := 0) (q := 56) C dJ13_bitCount_95d88_55 rfl rfl ?_
  refine Dn_l2i (q := 57) C dJ13_bitCount_95d88_56 rfl ?_
  refine Dn_bipush (v := 127) (q := 59) C dJ13_bitCount_95d88_57 (by decide) rfl ?_
  refine Dn_iand (q := 60) C dJ13_bitCount_95d88_59 rfl ?_
  exact Dn_iret C hX dJ13_bitCount_95d88_60
