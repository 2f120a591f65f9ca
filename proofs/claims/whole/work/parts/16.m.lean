abbrev rX5_in : Room := ({ frames := 0, cells := 0, slots := 0, locals := 0 } : Room)
def jX5_in_18 : mK := i_nret .boolean
set_option maxRecDepth 20000 in
theorem JX5_in_18 {X : mC} (C : Cx X rX5_in cX5_in 6 RX5 (some FieldType.boolean)) (hX : Rx X) : Den X rX5_in 6 18 jX5_in_18 := by
  unfold jX5_in_18
  exact Dn_nret C hX dX5_in_18
def jX5_in_17 : mK := i_push (.int 0) (jX5_in_18)
set_option maxRecDepth 20000 in
theorem JX5_in_17 {X : mC} (C : Cx X rX5_in cX5_in 6 RX5 (some FieldType.boolean)) (hX : Rx X) : Den X rX5_in 6 17 jX5_in_17 := by
  unfold jX5_in_17
  refine Dn_iconst (v := 0) (q := 18) C dX5_in_17 (by decide) rfl ?_
  exact JX5_in_18 C hX
def jX5_in : mK := i_lld 0 (i_lld 2 (i_lcmp (i_iflt (jX5_in_17) (i_lld 0 (i_lld 4 (i_lcmp (i_ifgt (jX5_in_17) (i_push (.int 1) (jX5_in_18)))))))))
def FX5_in : mF := mEnt 6 jX5_in
set_option maxRecDepth 20000 in
theorem kX5_in (l : Launch) (G : va_G) (tg : Nat → ClassId) : Ct l G tg yX5_in cX5_in 6 (some FieldType.boolean) rX5_in FX5_in := by
  refine Ct.of RX5 (by decide) rfl (fun X C hX => ?_)
  unfold jX5_in
  refine Dn_lld_n (i := 0) (q := 1) C dX5_in_0 rfl rfl ?_
  refine Dn_lld_n (i := 2) (q := 2) C dX5_in_1 rfl rfl ?_
  refine Dn_lcmp (q := 3) C dX5_in_2 rfl ?_
  refine Dn_iflt (t := 17) (q := 6) C dX5_in_3 (by decide) rfl ?_ ?_
  · exact JX5_in_17 C hX
  · refine Dn_lld_n (i := 0) (q := 7) C dX5_in_6 rfl rfl ?_
    refine Dn_lld (q := 9) C dX5_in_7 rfl ?_
    refine Dn_lcmp (q := 10) C dX5_in_9 rfl ?_
    refine Dn_ifgt (t := 17) (q := 13) C dX5_in_10 (by decide) rfl ?_ ?_
    · exact JX5_in_17 C hX
    · refine Dn_iconst (v := 1) (q := 14) C dX5_in_13 (by decide) rfl ?_
      refine Dn_goto (t := 18) C dX5_in_14 (by decide) ?_
      exact JX5_in_18 C hX
abbrev rX5_has : Room := ({ frames := 0, cells := 0, slots := 0, locals := 0 } : Room)
def jX5_has_15 : mK := i_nret .boolean
set_option maxRecDepth 20000 in
theorem JX5_has_15 {X : mC} (C : Cx X rX5_has cX5_has 3 RX5 (some FieldType.boolean)) (hX : Rx X) : Den X rX5_has 3 15 jX5_has_15 := by
  unfold jX5_has_15
  exact Dn_nret C hX dX5_has_15
def jX5_has : mK := i_lld 0 (i_ild 2 (i_ls (fun x y => x >>> (y.toInt64 &&& 63)) (i_push (.long 1) (i_lb (fun x y => x &&& y) (i_push (.long 1) (i_lcmp (i_ifne (i_push (.int 0) (jX5_has_15)) (i_push (.int 1) (jX5_has_15)))))))))
def FX5_has : mF := mEnt 3 jX5_has
set_option maxRecDepth 20000 in
theorem kX5_has (l : Launch) (G : va_G) (tg : Nat → ClassId) : Ct l G tg yX5_has cX5_has 3 (some FieldType.boolean) rX5_has FX5_has := by
  refine Ct.of RX5 (by decide) rfl (fun X C hX => ?_)
  unfold jX5_has
  refine Dn_lld_n (i := 0) (q := 1) C dX5_has_0 rfl rfl ?_
  refine Dn_ild_n (i := 2) (q := 2) C dX5_has_1 rfl rfl ?_
  refine Dn_lshr (q := 3) C dX5_has_2 rfl ?_
  refine Dn_lconst (v := 1) (q := 4) C dX5_has_3 (by decide) rfl ?_
  refine Dn_land (q := 5) C dX5_has_4 rfl ?_
  refine Dn_lconst (v := 1) (q := 6) C dX5_has_5 (by decide) rfl ?_
  refine Dn_lcmp (q := 7) C dX5_has_6 rfl ?_
  refine Dn_ifne (t := 14) (q := 10) C dX5_has_7 (by decide) rfl ?_ ?_
  · refine Dn_iconst (v := 0) (q := 15) C dX5_has_14 (by decide) rfl ?_
    exact JX5_has_15 C hX
  · refine Dn_iconst (v := 1) (q := 11) C dX5_has_10 (by decide) rfl ?_
    refine Dn_goto (t := 15) C dX5_has_11 (by decide) ?_
    exact JX5_has_15 C hX
abbrev rX5_bits : Room := ({ frames := 0, cells := 0, slots := 0, locals := 0 } : Room)
def jX5_bits_4 : mK := i_loop (fun B4 => i_ild 2 (i_push (.int 6) (i_icge (i_ild 1 (i_iret)) (i_ild 1 (i_ild 0 (i_ild 2 (i_ib (fun x y => x >>> (y &&& 31)) (i_push (.int 1) (i_ib (fun x y => x &&& y) (i_ib (fun x y => x + y) (i_ist 1 (i_inc 2 1 (B4))))))))))))) 1000
set_option maxRecDepth 20000 in
theorem JX5_bits_4 {X : mC} (C : Cx X rX5_bits cX5_bits 3 RX5 (some FieldType.int)) (hX : Rx X) : Den X rX5_bits 3 4 jX5_bits_4 := by
  unfold jX5_bits_4
  refine Dn_loop (fun B4 hB4 => ?_) 1000
  refine Dn_ild_n (i := 2) (q := 5) C dX5_bits_4 rfl rfl ?_
  refine Dn_bipush (v := 6) (q := 7) C dX5_bits_5 (by decide) rfl ?_
  refine Dn_icge (t := 24) (q := 10) C dX5_bits_7 (by decide) rfl ?_ ?_
  · refine Dn_ild_n (i := 1) (q := 25) C dX5_bits_24 rfl rfl ?_
    exact Dn_iret C hX dX5_bits_25
  · refine Dn_ild_n (i := 1) (q := 11) C dX5_bits_10 rfl rfl ?_
    refine Dn_ild_n (i := 0) (q := 12) C dX5_bits_11 rfl rfl ?_
    refine Dn_ild_n (i := 2) (q := 13) C dX5_bits_12 rfl rfl ?_
    refine Dn_ishr (q := 14) C dX5_bits_13 rfl ?_
    refine Dn_iconst (v := 1) (q := 15) C dX5_bits_14 (by decide) rfl ?_
    refine Dn_iand (q := 16) C dX5_bits_15 rfl ?_
    refine Dn_iadd (q := 17) C dX5_bits_16 rfl ?_
    refine Dn_ist_n (i := 1) (q := 18) C dX5_bits_17 rfl (by decide) rfl ?_
    refine Dn_inc (z := 1) (q := 21) C dX5_bits_18 (by decide) (by decide) rfl ?_
    refine Dn_goto (t := 4) C dX5_bits_21 (by decide) ?_
    exact hB4
def jX5_bits : mK := i_push (.int 0) (i_ist 1 (i_push (.int 0) (i_ist 2 (jX5_bits_4))))
def FX5_bits : mF := mEnt 3 jX5_bits
set_option maxRecDepth 20000 in
theorem kX5_bits (l : Launch) (G : va_G) (tg : Nat → ClassId) : Ct l G tg yX5_bits cX5_bits 3 (some FieldType.int) rX5_bits FX5_bits := by
  refine Ct.of RX5 (by decide) rfl (fun X C hX => ?_)
  unfold jX5_bits
  refine Dn_iconst (v := 0) (q := 1) C dX5_bits_0 (by decide) rfl ?_
  refine Dn_ist_n (i := 1) (q := 2) C dX5_bits_1 rfl (by decide) rfl ?_
  refine Dn_iconst (v := 0) (q := 3) C dX5_bits_2 (by decide) rfl ?_
  refine Dn_ist_n (i := 2) (q := 4) C dX5_bits_3 rfl (by decide) rfl ?_
  exact JX5_bits_4 C hX
abbrev rX5_write : Room := ({ frames := 1, cells := 0, slots := 0, locals := 25 } : Room)
def jX5_write_33 : mK := i_loop (fun B33 => i_ild 4 (i_ild 3 (i_icge (i_ald 0 (i_get 5 3 (i_iret))) (i_ald 0 (i_get 5 2 (i_ald 0 (i_get 5 3 (i_lld 1 (i_push (.int 8) (i_ild 4 (i_ib (fun x y => x * y) (i_ls (fun x y => x >>> (y.toInt64 &&& 63)) (i_push (.long 255) (i_lb (fun x y => x &&& y) (i_l2i (i_iast (i_ald 0 (i_dup (i_get 5 3 (i_push (.int 1) (i_ib (fun x y => x + y) (i_puti 5 3 (i_inc 4 1 (B33)))))))))))))))))))))))) 1000
set_option maxRecDepth 20000 in
theorem JX5_write_33 {X : mC} (C : Cx X rX5_write cX5_write 5 RX5 (some FieldType.int)) (hX : Rx X) : Den X rX5_write 5 33 jX5_write_33 := by
  unfold jX5_write_33
  refine Dn_loop (fun B33 hB33 => ?_) 1000
  refine Dn_ild (q := 35) C dX5_write_33 rfl ?_
  refine Dn_ild_n (i := 3) (q := 36) C dX5_write_35 rfl rfl ?_
  refine Dn_icge (t := 76) (q := 39) C dX5_write_36 (by decide) rfl ?_ ?_
  · refine Dn_ald_n (i := 0) (q := 77) C dX5_write_76 rfl rfl ?_
    refine Dn_get (ci := 5) (j := 3) (T := TX5) (N := 25) (Cn := RX5) (q := 80) C rfl iX5 (by decide) q_713 dX5_write_77 rfl ?_
    exact Dn_iret C hX dX5_write_80
  · refine Dn_ald_n (i := 0) (q := 40) C dX5_write_39 rfl rfl ?_
    refine Dn_get (ci := 5) (j := 2) (T := TX5) (N := 25) (Cn := RX5) (q := 43) C rfl iX5 (by decide) q_712 dX5_write_40 rfl ?_
    refine Dn_ald_n (i := 0) (q := 44) C dX5_write_43 rfl rfl ?_
    refine Dn_get (ci := 5) (j := 3) (T := TX5) (N := 25) (Cn := RX5) (q := 47) C rfl iX5 (by decide) q_713 dX5_write_44 rfl ?_
    refine Dn_lld_n (i := 1) (q := 48) C dX5_write_47 rfl rfl ?_
    refine Dn_bipush (v := 8) (q := 50) C dX5_write_48 (by decide) rfl ?_
    refine Dn_ild (q := 52) C dX5_write_50 rfl ?_
    refine Dn_imul (q := 53) C dX5_write_52 rfl ?_
    refine Dn_lshr (q := 54) C dX5_write_53 rfl ?_
    refine Dn_ldc2 (q := 57) C dX5_write_54 q_795 rfl ?_
    refine Dn_land (q := 58) C dX5_write_57 rfl ?_
    refine Dn_l2i (q := 59) C dX5_write_58 rfl ?_
    refine Dn_iast (q := 60) C dX5_write_59 rfl ?_
    refine Dn_ald_n (i := 0) (q := 61) C dX5_write_60 rfl rfl ?_
    refine Dn_dup (q := 62) C dX5_write_61 rfl ?_
    refine Dn_get (ci := 5) (j := 3) (T := TX5) (N := 25) (Cn := RX5) (q := 65) C rfl iX5 (by decide) q_713 dX5_write_62 rfl ?_
    refine Dn_iconst (v := 1) (q := 66) C dX5_write_65 (by decide) rfl ?_
    refine Dn_iadd (q := 67) C dX5_write_66 rfl ?_
    refine Dn_puti (ci := 5) (j := 3) (T := TX5) (N := 25) (Cn := RX5) (q := 70) C rfl iX5 tyX5 tyX5_ok nmX5 (by decide) q_713 rfl (by decide +kernel) dX5_write_67 rfl ?_
    refine Dn_inc (z := 1) (q := 73) C dX5_write_70 (by decide) (by decide) rfl ?_
    refine Dn_goto (t := 33) C dX5_write_73 (by decide) ?_
    exact hB33
def jX5_write : mK := i_ild 3 (i_i2l (i_push (.long 1) (i_push (.long 8) (i_call 3 FX5_in (i_ifne (i_ald 0 (i_get 5 3 (i_ild 3 (i_ib (fun x y => x + y) (i_push (.int 200) (i_icle (i_push (.int 0) (i_ist 4 (jX5_write_33))) (i_push (.int (-5)) (i_iret)))))))) (i_push (.int (-3)) (i_iret)))))))
def FX5_write : mF := mEnt 5 jX5_write
set_option maxRecDepth 20000 in
theorem kX5_write (l : Launch) (G : va_G) (tg : Nat → ClassId) : Ct l G tg yX5_write cX5_write 5 (some FieldType.int) rX5_write FX5_write := by
  refine Ct.of RX5 (by decide) rfl (fun X C hX => ?_)
  unfold jX5_write
  refine Dn_ild_n (i := 3) (q := 1) C dX5_write_0 rfl rfl ?_
  refine Dn_i2l (q := 2) C dX5_write_1 rfl ?_
  refine Dn_lconst (v := 1) (q := 3) C dX5_write_2 (by decide) rfl ?_
  refine Dn_ldc2 (q := 6) C dX5_write_3 q_791 rfl ?_
  refine Dn_callS (q := 9) C (kX5_in X.l X.G X.tg) q_794 q_792 q_793 q_50 ⟨rfl, rfl⟩ (by decide +kernel) ⟨by decide, by decide⟩ dX5_write_6 rfl ?_
  refine Dn_ifne (t := 15) (q := 12) C dX5_write_9 (by decide) rfl ?_ ?_
  · refine Dn_ald_n (i := 0) (q := 16) C dX5_write_15 rfl rfl ?_
    refine Dn_get (ci := 5) (j := 3) (T := TX5) (N := 25) (Cn := RX5) (q := 19) C rfl iX5 (by decide) q_713 dX5_write_16 rfl ?_
    refine Dn_ild_n (i := 3) (q := 20) C dX5_write_19 rfl rfl ?_
    refine Dn_iadd (q := 21) C dX5_write_20 rfl ?_
    refine Dn_sipush (v := 200) (q := 24) C dX5_write_21 (by decide) rfl ?_
    refine Dn_icle (t := 30) (q := 27) C dX5_write_24 (by decide) rfl ?_ ?_
    · refine Dn_iconst (v := 0) (q := 31) C dX5_write_30 (by decide) rfl ?_
      refine Dn_ist (q := 33) C dX5_write_31 (by decide) rfl ?_
      exact JX5_write_33 C hX
    · refine Dn_bipush (v := (-5)) (q := 29) C dX5_write_27 (by decide) rfl ?_
      exact Dn_iret C hX dX5_write_29
  · refine Dn_bipush (v := (-3)) (q := 14) C dX5_write_12 (by decide) rfl ?_
    exact Dn_iret C hX dX5_write_14
abbrev rX5_erase : Room := ({ frames := 0, cells := 0, slots := 0, locals := 0 } : Room)
def jX5_erase : mK := i_ald 0 (i_get 5 3 (i_ist 1 (i_ald 0 (i_push (.int 0) (i_puti 5 3 (i_ild 1 (i_iret)))))))
def FX5_erase : mF := mEnt 2 jX5_erase
set_option maxRecDepth 20000 in
theorem kX5_erase (l : Launch) (G : va_G) (tg : Nat → ClassId) : Ct l G tg yX5_erase cX5_erase 2 (some FieldType.int) rX5_erase FX5_erase := by
  refine Ct.of RX5 (by decide) rfl (fun X C hX => ?_)
  unfold jX5_erase
  refine Dn_ald_n (i := 0) (q := 1) C dX5_erase_0 rfl rfl ?_
  refine Dn_get (ci := 5) (j := 3) (T := TX5) (N := 25) (Cn := RX5) (q := 4) C rfl iX5 (by decide) q_713 dX5_erase_1 rfl ?_
  refine Dn_ist_n (i := 1) (q := 5) C dX5_erase_4 rfl (by decide) rfl ?_
  refine Dn_ald_n (i := 0) (q := 6) C dX5_erase_5 rfl rfl ?_
  refine Dn_iconst (v := 0) (q := 7) C dX5_erase_6 (by decide) rfl ?_
  refine Dn_puti (ci := 5) (j := 3) (T := TX5) (N := 25) (Cn := RX5) (q := 10) C rfl iX5 tyX5 tyX5_ok nmX5 (by decide) q_713 rfl (by decide +kernel) dX5_erase_7 rfl ?_
  refine Dn_ild_n (i := 1) (q := 11) C dX5_erase_10 rfl rfl ?_
  exact Dn_iret C hX dX5_erase_11
abbrev rX5_sort : Room := ({ frames := 0, cells := 0, slots := 0, locals := 0 } : Room)
def jX5_sort_33 : mK := i_iret
set_option maxRecDepth 20000 in
theorem JX5_sort_33 {X : mC} (C : Cx X rX5_sort cX5_sort 1 RX5 (some FieldType.int)) (hX : Rx X) : Den X rX5_sort 1 33 jX5_sort_33 := by
  unfold jX5_sort_33
  exact Dn_iret C hX dX5_sort_33
def jX5_sort_32 : mK := i_push (.int 0) (jX5_sort_33)
set_option maxRecDepth 20000 in
theorem JX5_sort_32 {X : mC} (C : Cx X rX5_sort cX5_sort 1 RX5 (some FieldType.int)) (hX : Rx X) : Den X rX5_sort 1 32 jX5_sort_32 := by
  unfold jX5_sort_32
  refine Dn_iconst (v := 0) (q := 33) C dX5_sort_32 (by decide) rfl ?_
  exact JX5_sort_33 C hX
def jX5_sort_16 : mK := i_ild 0 (i_push (.int 48) (i_iclt (jX5_sort_32) (i_ild 0 (i_push (.int 57) (i_icgt (jX5_sort_32) (i_push (.int 2) (jX5_sort_33)))))))
set_option maxRecDepth 20000 in
theorem JX5_sort_16 {X : mC} (C : Cx X rX5_sort cX5_sort 1 RX5 (some FieldType.int)) (hX : Rx X) : Den X rX5_sort 1 16 jX5_sort_16 := by
  unfold jX5_sort_16
  refine Dn_ild_n (i := 0) (q := 17) C dX5_sort_16 rfl rfl ?_
  refine Dn_bipush (v := 48) (q := 19) C dX5_sort_17 (by decide) rfl ?_
  refine Dn_iclt (t := 32) (q := 22) C dX5_sort_19 (by decide) rfl ?_ ?_
  · exact JX5_sort_32 C hX
  · refine Dn_ild_n (i := 0) (q := 23) C dX5_sort_22 rfl rfl ?_
    refine Dn_bipush (v := 57) (q := 25) C dX5_sort_23 (by decide) rfl ?_
    refine Dn_icgt (t := 32) (q := 28) C dX5_sort_25 (by decide) rfl ?_ ?_
    · exact JX5_sort_32 C hX
    · refine Dn_iconst (v := 2) (q := 29) C dX5_sort_28 (by decide) rfl ?_
      refine Dn_goto (t := 33) C dX5_sort_29 (by decide) ?_
      exact JX5_sort_33 C hX
def jX5_sort : mK := i_ild 0 (i_push (.int 97) (i_iclt (jX5_sort_16) (i_ild 0 (i_push (.int 122) (i_icgt (jX5_sort_16) (i_push (.int 1) (jX5_sort_33)))))))
def FX5_sort : mF := mEnt 1 jX5_sort
set_option maxRecDepth 20000 in
theorem kX5_sort (l : Launch) (G : va_G) (tg : Nat → ClassId) : Ct l G tg yX5_sort cX5_sort 1 (some FieldType.int) rX5_sort FX5_sort := by
  refine Ct.of RX5 (by decide) rfl (fun X C hX => ?_)
  unfold jX5_sort
  refine Dn_ild_n (i := 0) (q := 1) C dX5_sort_0 rfl rfl ?_
  refine Dn_bipush (v := 97) (q := 3) C dX5_sort_1 (by decide) rfl ?_
  refine Dn_iclt (t := 16) (q := 6) C dX5_sort_3 (by decide) rfl ?_ ?_
  · exact JX5_sort_16 C hX
  · refine Dn_ild_n (i := 0) (q := 7) C dX5_sort_6 rfl rfl ?_
    refine Dn_bipush (v := 122) (q := 9) C dX5_sort_7 (by decide) rfl ?_
    refine Dn_icgt (t := 16) (q := 12) C dX5_sort_9 (by decide) rfl ?_ ?_
    · exact JX5_sort_16 C hX
    · refine Dn_iconst (v := 1) (q := 13) C dX5_sort_12 (by decide) rfl ?_
      refine Dn_goto (t := 33) C dX5_sort_13 (by decide) ?_
      exact JX5_sort_33 C hX
abbrev rX5_token : Room := ({ frames := 1, cells := 0, slots := 0, locals := 20 } : Room)
def jX5_token_137 : mK := i_ald 0 (i_ald 0 (i_get 5 15 (i_puti 5 17 (i_vret))))
set_option maxRecDepth 20000 in
theorem JX5_token_137 {X : mC} (C : Cx X rX5_token cX5_token 1 RX5 none) (hX : Rx X) : Den X rX5_token 1 137 jX5_token_137 := by
  unfold jX5_token_137
  refine Dn_ald_n (i := 0) (q := 138) C dX5_token_137 rfl rfl ?_
  refine Dn_ald_n (i := 0) (q := 139) C dX5_token_138 rfl rfl ?_
  refine Dn_get (ci := 5) (j := 15) (T := TX5) (N := 25) (Cn := RX5) (q := 142) C rfl iX5 (by decide) q_725 dX5_token_139 rfl ?_
  refine Dn_puti (ci := 5) (j := 17) (T := TX5) (N := 25) (Cn := RX5) (q := 145) C rfl iX5 tyX5 tyX5_ok nmX5 (by decide) q_727 rfl (by decide +kernel) dX5_token_142 rfl ?_
  exact Dn_vret C hX dX5_token_145
def jX5_token_71 : mK := i_loop (fun B71 => i_ald 0 (i_get 5 15 (i_ald 0 (i_get 5 3 (i_icge (jX5_token_137) (i_ald 0 (i_get 5 2 (i_ald 0 (i_get 5 16 (i_iald (i_call 1 FX5_sort (i_ifle (jX5_token_137) (i_ald 0 (i_get 5 2 (i_ald 0 (i_get 5 15 (i_iald (i_call 1 FX5_sort (i_ald 0 (i_get 5 2 (i_ald 0 (i_get 5 16 (i_iald (i_call 1 FX5_sort (i_icne (jX5_token_137) (i_ald 0 (i_dup (i_get 5 15 (i_push (.int 1) (i_ib (fun x y => x + y) (i_puti 5 15 (B71)))))))))))))))))))))))))))))))) 1000
set_option maxRecDepth 20000 in
theorem JX5_token_71 {X : mC} (C : Cx X rX5_token cX5_token 1 RX5 none) (hX : Rx X) : Den X rX5_token 1 71 jX5_token_71 := by
  unfold jX5_token_71
  refine Dn_loop (fun B71 hB71 => ?_) 1000
  refine Dn_ald_n (i := 0) (q := 72) C dX5_token_71 rfl rfl ?_
  refine Dn_get (ci := 5) (j := 15) (T := TX5) (N := 25) (Cn := RX5) (q := 75) C rfl iX5 (by decide) q_725 dX5_token_72 rfl ?_
  refine Dn_ald_n (i := 0) (q := 76) C dX5_token_75 rfl rfl ?_
  refine Dn_get (ci := 5) (j := 3) (T := TX5) (N := 25) (Cn := RX5) (q := 79) C rfl iX5 (by decide) q_713 dX5_token_76 rfl ?_
  refine Dn_icge (t := 137) (q := 82) C dX5_token_79 (by decide) rfl ?_ ?_
  · exact JX5_token_137 C hX
  · refine Dn_ald_n (i := 0) (q := 83) C dX5_token_82 rfl rfl ?_
    refine Dn_get (ci := 5) (j := 2) (T := TX5) (N := 25) (Cn := RX5) (q := 86) C rfl iX5 (by decide) q_712 dX5_token_83 rfl ?_
    refine Dn_ald_n (i := 0) (q := 87) C dX5_token_86 rfl rfl ?_
    refine Dn_get (ci := 5) (j := 16) (T := TX5) (N := 25) (Cn := RX5) (q := 90) C rfl iX5 (by decide) q_726 dX5_token_87 rfl ?_
    refine Dn_iald (q := 91) C dX5_token_90 rfl ?_
    refine Dn_callS (q := 94) C (kX5_sort X.l X.G X.tg) q_810 q_808 q_809 q_50 ⟨rfl, rfl⟩ (by decide +kernel) ⟨by decide, by decide⟩ dX5_token_91 rfl ?_
    refine Dn_ifle (t := 137) (q := 97) C dX5_token_94 (by decide) rfl ?_ ?_
    · exact JX5_token_137 C hX
    · refine Dn_ald_n (i := 0) (q := 98) C dX5_token_97 rfl rfl ?_
      refine Dn_get (ci := 5) (j := 2) (T := TX5) (N := 25) (Cn := RX5) (q := 101) C rfl iX5 (by decide) q_712 dX5_token_98 rfl ?_
      refine Dn_ald_n (i := 0) (q := 102) C dX5_token_101 rfl rfl ?_
      refine Dn_get (ci := 5) (j := 15) (T := TX5) (N := 25) (Cn := RX5) (q := 105) C rfl iX5 (by decide) q_725 dX5_token_102 rfl ?_
      refine Dn_iald (q := 106) C dX5_token_105 rfl ?_
      refine Dn_callS (q := 109) C (kX5_sort X.l X.G X.tg) q_810 q_808 q_809 q_50 ⟨rfl, rfl⟩ (by decide +kernel) ⟨by decide, by decide⟩ dX5_token_106 rfl ?_
      refine Dn_ald_n (i := 0) (q := 110) C dX5_token_109 rfl rfl ?_
      refine Dn_get (ci := 5) (j := 2) (T := TX5) (N := 25) (Cn := RX5) (q := 113) C rfl iX5 (by decide) q_712 dX5_token_110 rfl ?_
      refine Dn_ald_n (i := 0) (q := 114) C dX5_token_113 rfl rfl ?_
      refine Dn_get (ci := 5) (j := 16) (T := TX5) (N := 25) (Cn := RX5) (q := 117) C rfl iX5 (by decide) q_726 dX5_token_114 rfl ?_
      refine Dn_iald (q := 118) C dX5_token_117 rfl ?_
      refine Dn_callS (q := 121) C (kX5_sort X.l X.G X.tg) q_810 q_808 q_809 q_50 ⟨rfl, rfl⟩ (by decide +kernel) ⟨by decide, by decide⟩ dX5_token_118 rfl ?_
      refine Dn_icne (t := 137) (q := 124) C dX5_token_121 (by decide) rfl ?_ ?_
      · exact JX5_token_137 C hX
      · refine Dn_ald_n (i := 0) (q := 125) C dX5_token_124 rfl rfl ?_
        refine Dn_dup (q := 126) C dX5_token_125 rfl ?_
        refine Dn_get (ci := 5) (j := 15) (T := TX5) (N := 25) (Cn := RX5) (q := 129) C rfl iX5 (by decide) q_725 dX5_token_126 rfl ?_
        refine Dn_iconst (v := 1) (q := 130) C dX5_token_129 (by decide) rfl ?_
        refine Dn_iadd (q := 131) C dX5_token_130 rfl ?_
        refine Dn_puti (ci := 5) (j := 15) (T := TX5) (N := 25) (Cn := RX5) (q := 134) C rfl iX5 tyX5 tyX5_ok nmX5 (by decide) q_725 rfl (by decide +kernel) dX5_token_131 rfl ?_
        refine Dn_goto (t := 71) C dX5_token_134 (by decide) ?_
        exact hB71
def jX5_token_67 : mK := i_ib (fun x y => x + y) (i_puti 5 15 (jX5_token_71))
set_option maxRecDepth 20000 in
theorem JX5_token_67 {X : mC} (C : Cx X rX5_token cX5_token 1 RX5 none) (hX : Rx X) : Den X rX5_token 1 67 jX5_token_67 := by
  unfold jX5_token_67
  refine Dn_iadd (q := 68) C dX5_token_67 rfl ?_
  refine Dn_puti (ci := 5) (j := 15) (T := TX5) (N := 25) (Cn := RX5) (q := 71) C rfl iX5 tyX5 tyX5_ok nmX5 (by decide) q_725 rfl (by decide +kernel) dX5_token_68 rfl ?_
  exact JX5_token_71 C hX
def jX5_token_38 : mK := i_ald 0 (i_ald 0 (i_get 5 15 (i_puti 5 16 (i_ald 0 (i_dup (i_get 5 15 (i_ald 0 (i_get 5 15 (i_ald 0 (i_get 5 3 (i_icge (i_push (.int 0) (jX5_token_67)) (i_push (.int 1) (jX5_token_67)))))))))))))
set_option maxRecDepth 20000 in
theorem JX5_token_38 {X : mC} (C : Cx X rX5_token cX5_token 1 RX5 none) (hX : Rx X) : Den X rX5_token 1 38 jX5_token_38 := by
  unfold jX5_token_38
  refine Dn_ald_n (i := 0) (q := 39) C dX5_token_38 rfl rfl ?_
  refine Dn_ald_n (i := 0) (q := 40) C dX5_token_39 rfl rfl ?_
  refine Dn_get (ci := 5) (j := 15) (T := TX5) (N := 25) (Cn := RX5) (q := 43) C rfl iX5 (by decide) q_725 dX5_token_40 rfl ?_
  refine Dn_puti (ci := 5) (j := 16) (T := TX5) (N := 25) (Cn := RX5) (q := 46) C rfl iX5 tyX5 tyX5_ok nmX5 (by decide) q_726 rfl (by decide +kernel) dX5_token_43 rfl ?_
  refine Dn_ald_n (i := 0) (q := 47) C dX5_token_46 rfl rfl ?_
  refine Dn_dup (q := 48) C dX5_token_47 rfl ?_
  refine Dn_get (ci := 5) (j := 15) (T := TX5) (N := 25) (Cn := RX5) (q := 51) C rfl iX5 (by decide) q_725 dX5_token_48 rfl ?_
  refine Dn_ald_n (i := 0) (q := 52) C dX5_token_51 rfl rfl ?_
  refine Dn_get (ci := 5) (j := 15) (T := TX5) (N := 25) (Cn := RX5) (q := 55) C rfl iX5 (by decide) q_725 dX5_token_52 rfl ?_
  refine Dn_ald_n (i := 0) (q := 56) C dX5_token_55 rfl rfl ?_
  refine Dn_get (ci := 5) (j := 3) (T := TX5) (N := 25) (Cn := RX5) (q := 59) C rfl iX5 (by decide) q_713 dX5_token_56 rfl ?_
  refine Dn_icge (t := 66) (q := 62) C dX5_token_59 (by decide) rfl ?_ ?_
  · refine Dn_iconst (v := 0) (q := 67) C dX5_token_66 (by decide) rfl ?_
    exact JX5_token_67 C hX
  · refine Dn_iconst (v := 1) (q := 63) C dX5_token_62 (by decide) rfl ?_
    refine Dn_goto (t := 67) C dX5_token_63 (by decide) ?_
    exact JX5_token_67 C hX
def jX5_token_0 : mK := i_loop (fun B0 => i_ald 0 (i_get 5 15 (i_ald 0 (i_get 5 3 (i_icge (jX5_token_38) (i_ald 0 (i_get 5 2 (i_ald 0 (i_get 5 15 (i_iald (i_push (.int 32) (i_icne (jX5_token_38) (i_ald 0 (i_dup (i_get 5 15 (i_push (.int 1) (i_ib (fun x y => x + y) (i_puti 5 15 (B0))))))))))))))))))) 1000
set_option maxRecDepth 20000 in
theorem JX5_token_0 {X : mC} (C : Cx X rX5_token cX5_token 1 RX5 none) (hX : Rx X) : Den X rX5_token 1 0 jX5_token_0 := by
  unfold jX5_token_0
  refine Dn_loop (fun B0 hB0 => ?_) 1000
  refine Dn_ald_n (i := 0) (q := 1) C dX5_token_0 rfl rfl ?_
  refine Dn_get (ci := 5) (j := 15) (T := TX5) (N := 25) (Cn := RX5) (q := 4) C rfl iX5 (by decide) q_725 dX5_token_1 rfl ?_
  refine Dn_ald_n (i := 0) (q := 5) C dX5_token_4 rfl rfl ?_
  refine Dn_get (ci := 5) (j := 3) (T := TX5) (N := 25) (Cn := RX5) (q := 8) C rfl iX5 (by decide) q_713 dX5_token_5 rfl ?_
  refine Dn_icge (t := 38) (q := 11) C dX5_token_8 (by decide) rfl ?_ ?_
  · exact JX5_token_38 C hX
  · refine Dn_ald_n (i := 0) (q := 12) C dX5_token_11 rfl rfl ?_
    refine Dn_get (ci := 5) (j := 2) (T := TX5) (N := 25) (Cn := RX5) (q := 15) C rfl iX5 (by decide) q_712 dX5_token_12 rfl ?_
    refine Dn_ald_n (i := 0) (q := 16) C dX5_token_15 rfl rfl ?_
    refine Dn_get (ci := 5) (j := 15) (T := TX5) (N := 25) (Cn := RX5) (q := 19) C rfl iX5 (by decide) q_725 dX5_token_16 rfl ?_
    refine Dn_iald (q := 20) C dX5_token_19 rfl ?_
    refine Dn_bipush (v := 32) (q := 22) C dX5_token_20 (by decide) rfl ?_
    refine Dn_icne (t := 38) (q := 25) C dX5_token_22 (by decide) rfl ?_ ?_
    · exact JX5_token_38 C hX
    · refine Dn_ald_n (i := 0) (q := 26) C dX5_token_25 rfl rfl ?_
      refine Dn_dup (q := 27) C dX5_token_26 rfl ?_
      refine Dn_get (ci := 5) (j := 15) (T := TX5) (N := 25) (Cn := RX5) (q := 30) C rfl iX5 (by decide) q_725 dX5_token_27 rfl ?_
      refine Dn_iconst (v := 1) (q := 31) C dX5_token_30 (by decide) rfl ?_
      refine Dn_iadd (q := 32) C dX5_token_31 rfl ?_
      refine Dn_puti (ci := 5) (j := 15) (T := TX5) (N := 25) (Cn := RX5) (q := 35) C rfl iX5 tyX5 tyX5_ok nmX5 (by decide) q_725 rfl (by decide +kernel) dX5_token_32 rfl ?_
      refine Dn_goto (t := 0) C dX5_token_35 (by decide) ?_
      exact hB0
def jX5_token : mK := jX5_token_0
def FX5_token : mF := mEnt 1 jX5_token
set_option maxRecDepth 20000 in
theorem kX5_token (l : Launch) (G : va_G) (tg : Nat → ClassId) : Ct l G tg yX5_token cX5_token 1 none rX5_token FX5_token := by
  refine Ct.of RX5 (by decide) rfl (fun X C hX => ?_)
  unfold jX5_token
  exact JX5_token_0 C hX
abbrev rX5_isWord : Room := ({ frames := 0, cells := 0, slots := 0, locals := 0 } : Room)
def jX5_isWord_71 : mK := i_ild 3 (i_nret .boolean)
set_option maxRecDepth 20000 in
theorem JX5_isWord_71 {X : mC} (C : Cx X rX5_isWord cX5_isWord 5 RX5 (some FieldType.boolean)) (hX : Rx X) : Den X rX5_isWord 5 71 jX5_isWord_71 := by
  unfold jX5_isWord_71
  refine Dn_ild_n (i := 3) (q := 72) C dX5_isWord_71 rfl rfl ?_
  exact Dn_nret C hX dX5_isWord_72
def jX5_isWord_64 (B22 : mK) : mK := i_ist 3 (i_inc 4 1 (B22))
set_option maxRecDepth 20000 in
theorem JX5_isWord_64 {X : mC} (C : Cx X rX5_isWord cX5_isWord 5 RX5 (some FieldType.boolean)) (hX : Rx X) (B22 : mK) (hB22 : Den X rX5_isWord 5 22 B22) : Den X rX5_isWord 5 64 (jX5_isWord_64 B22) := by
  unfold jX5_isWord_64
  refine Dn_ist_n (i := 3) (q := 65) C dX5_isWord_64 rfl (by decide) rfl ?_
  refine Dn_inc (z := 1) (q := 68) C dX5_isWord_65 (by decide) (by decide) rfl ?_
  refine Dn_goto (t := 22) C dX5_isWord_68 (by decide) ?_
  exact hB22
def jX5_isWord_22 : mK := i_loop (fun B22 => i_ild 3 (i_ifeq (jX5_isWord_71) (i_ild 4 (i_ild 2 (i_icge (jX5_isWord_71) (i_ald 0 (i_get 5 2 (i_ald 0 (i_get 5 16 (i_ild 4 (i_ib (fun x y => x + y) (i_iald (i_push (.int 96) (i_ild 1 (i_push (.int 5) (i_ild 4 (i_ib (fun x y => x * y) (i_ib (fun x y => x >>> (y &&& 31)) (i_push (.int 31) (i_ib (fun x y => x &&& y) (i_ib (fun x y => x + y) (i_icne (i_push (.int 0) ((jX5_isWord_64 B22))) (i_push (.int 1) ((jX5_isWord_64 B22))))))))))))))))))))))))) 1000
set_option maxRecDepth 20000 in
theorem JX5_isWord_22 {X : mC} (C : Cx X rX5_isWord cX5_isWord 5 RX5 (some FieldType.boolean)) (hX : Rx X) : Den X rX5_isWord 5 22 jX5_isWord_22 := by
  unfold jX5_isWord_22
  refine Dn_loop (fun B22 hB22 => ?_) 1000
  refine Dn_ild_n (i := 3) (q := 23) C dX5_isWord_22 rfl rfl ?_
  refine Dn_ifeq (t := 71) (q := 26) C dX5_isWord_23 (by decide) rfl ?_ ?_
  · exact JX5_isWord_71 C hX
  · refine Dn_ild (q := 28) C dX5_isWord_26 rfl ?_
    refine Dn_ild_n (i := 2) (q := 29) C dX5_isWord_28 rfl rfl ?_
    refine Dn_icge (t := 71) (q := 32) C dX5_isWord_29 (by decide) rfl ?_ ?_
    · exact JX5_isWord_71 C hX
    · refine Dn_ald_n (i := 0) (q := 33) C dX5_isWord_32 rfl rfl ?_
      refine Dn_get (ci := 5) (j := 2) (T := TX5) (N := 25) (Cn := RX5) (q := 36) C rfl iX5 (by decide) q_712 dX5_isWord_33 rfl ?_
      refine Dn_ald_n (i := 0) (q := 37) C dX5_isWord_36 rfl rfl ?_
      refine Dn_get (ci := 5) (j := 16) (T := TX5) (N := 25) (Cn := RX5) (q := 40) C rfl iX5 (by decide) q_726 dX5_isWord_37 rfl ?_
      refine Dn_ild (q := 42) C dX5_isWord_40 rfl ?_
      refine Dn_iadd (q := 43) C dX5_isWord_42 rfl ?_
      refine Dn_iald (q := 44) C dX5_isWord_43 rfl ?_
      refine Dn_bipush (v := 96) (q := 46) C dX5_isWord_44 (by decide) rfl ?_
      refine Dn_ild_n (i := 1) (q := 47) C dX5_isWord_46 rfl rfl ?_
      refine Dn_iconst (v := 5) (q := 48) C dX5_isWord_47 (by decide) rfl ?_
      refine Dn_ild (q := 50) C dX5_isWord_48 rfl ?_
      refine Dn_imul (q := 51) C dX5_isWord_50 rfl ?_
      refine Dn_ishr (q := 52) C dX5_isWord_51 rfl ?_
      refine Dn_bipush (v := 31) (q := 54) C dX5_isWord_52 (by decide) rfl ?_
      refine Dn_iand (q := 55) C dX5_isWord_54 rfl ?_
      refine Dn_iadd (q := 56) C dX5_isWord_55 rfl ?_
      refine Dn_icne (t := 63) (q := 59) C dX5_isWord_56 (by decide) rfl ?_ ?_
      · refine Dn_iconst (v := 0) (q := 64) C dX5_isWord_63 (by decide) rfl ?_
        exact JX5_isWord_64 C hX B22 hB22
      · refine Dn_iconst (v := 1) (q := 60) C dX5_isWord_59 (by decide) rfl ?_
        refine Dn_goto (t := 64) C dX5_isWord_60 (by decide) ?_
        exact JX5_isWord_64 C hX B22 hB22
def jX5_isWord_18 : mK := i_ist 3 (i_push (.int 0) (i_ist 4 (jX5_isWord_22)))
set_option maxRecDepth 20000 in
theorem JX5_isWord_18 {X : mC} (C : Cx X rX5_isWord cX5_isWord 5 RX5 (some FieldType.boolean)) (hX : Rx X) : Den X rX5_isWord 5 18 jX5_isWord_18 := by
  unfold jX5_isWord_18
  refine Dn_ist_n (i := 3) (q := 19) C dX5_isWord_18 rfl (by decide) rfl ?_
  refine Dn_iconst (v := 0) (q := 20) C dX5_isWord_19 (by decide) rfl ?_
  refine Dn_ist (q := 22) C dX5_isWord_20 (by decide) rfl ?_
  exact JX5_isWord_22 C hX
def jX5_isWord : mK := i_ald 0 (i_get 5 17 (i_ald 0 (i_get 5 16 (i_ib (fun x y => x - y) (i_ild 2 (i_icne (i_push (.int 0) (jX5_isWord_18)) (i_push (.int 1) (jX5_isWord_18))))))))
def FX5_isWord : mF := mEnt 5 jX5_isWord
set_option maxRecDepth 20000 in
theorem kX5_isWord (l : Launch) (G : va_G) (tg : Nat → ClassId) : Ct l G tg yX5_isWord cX5_isWord 5 (some FieldType.boolean) rX5_isWord FX5_isWord := by
  refine Ct.of RX5 (by decide) rfl (fun X C hX => ?_)
  unfold jX5_isWord
  refine Dn_ald_n (i := 0) (q := 1) C dX5_isWord_0 rfl rfl ?_
  refine Dn_get (ci := 5) (j := 17) (T := TX5) (N := 25) (Cn := RX5) (q := 4) C rfl iX5 (by decide) q_727 dX5_isWord_1 rfl ?_
  refine Dn_ald_n (i := 0) (q := 5) C dX5_isWord_4 rfl rfl ?_
  refine Dn_get (ci := 5) (j := 16) (T := TX5) (N := 25) (Cn := RX5) (q := 8) C rfl iX5 (by decide) q_726 dX5_isWord_5 rfl ?_
  refine Dn_isub (q := 9) C dX5_isWord_8 rfl ?_
  refine Dn_ild_n (i := 2) (q := 10) C dX5_isWord_9 rfl rfl ?_
  refine Dn_icne (t := 17) (q := 13) C dX5_isWord_10 (by decide) rfl ?_ ?_
  · refine Dn_iconst (v := 0) (q := 18) C dX5_isWord_17 (by decide) rfl ?_
    exact JX5_isWord_18 C hX
  · refine Dn_iconst (v := 1) (q := 14) C dX5_isWord_13 (by decide) rfl ?_
    refine Dn_goto (t := 18) C dX5_isWord_14 (by decide) ?_
    exact JX5_isWord_18 C hX
abbrev rX5_bandWord : Room := ({ frames := 1, cells := 0, slots := 0, locals := 24 } : Room)
def jX5_bandWord_88 : mK := i_iret
set_option maxRecDepth 20000 in
theorem JX5_bandWord_88 {X : mC} (C : Cx X rX5_bandWord cX5_bandWord 1 RX5 (some FieldType.int)) (hX : Rx X) : Den X rX5_bandWord 1 88 jX5_bandWord_88 := by
  unfold jX5_bandWord_88
  exact Dn_iret C hX dX5_bandWord_88
def jX5_bandWord : mK := i_ald 0 (i_push (.int 14976400) (i_push (.int 5) (i_callV 5 2 FX5_isWord (i_ifeq (i_ald 0 (i_push (.int 20547138) (i_push (.int 5) (i_callV 5 2 FX5_isWord (i_ifeq (i_ald 0 (i_push (.int 19184899) (i_push (.int 5) (i_callV 5 2 FX5_isWord (i_ifeq (i_ald 0 (i_push (.int 448068) (i_push (.int 4) (i_callV 5 2 FX5_isWord (i_ifeq (i_ald 0 (i_push (.int 9062903) (i_push (.int 5) (i_callV 5 2 FX5_isWord (i_ifeq (i_ald 0 (i_push (.int 168243) (i_push (.int 4) (i_callV 5 2 FX5_isWord (i_ifeq (i_push (.int (-1)) (jX5_bandWord_88)) (i_push (.int 8) (jX5_bandWord_88))))))) (i_push (.int 7) (jX5_bandWord_88))))))) (i_push (.int 6) (jX5_bandWord_88))))))) (i_push (.int 5) (jX5_bandWord_88))))))) (i_push (.int 4) (jX5_bandWord_88))))))) (i_push (.int 3) (jX5_bandWord_88))))))
def FX5_bandWord : mF := mEnt 1 jX5_bandWord
set_option maxRecDepth 20000 in
theorem kX5_bandWord (l : Launch) (G : va_G) (tg : Nat → ClassId) : Ct l G tg yX5_bandWord cX5_bandWord 1 (some FieldType.int) rX5_bandWord FX5_bandWord := by
  refine Ct.of RX5 (by decide) rfl (fun X C hX => ?_)
  unfold jX5_bandWord
  refine Dn_ald_n (i := 0) (q := 1) C dX5_bandWord_0 rfl rfl ?_
  refine Dn_ldc (q := 3) C dX5_bandWord_1 q_823 rfl ?_
  refine Dn_iconst (v := 5) (q := 4) C dX5_bandWord_3 (by decide) rfl ?_
  refine Dn_callV (ci := 5) (T := TX5) (N := 25) (q := 7) C rfl (kX5_isWord X.l X.G X.tg) q_827 q_824 q_826 q_18 q_50 ⟨rfl, rfl⟩ (by decide +kernel) ⟨by decide, by decide⟩ dX5_bandWord_4 rfl ?_
  refine Dn_ifeq (t := 14) (q := 10) C dX5_bandWord_7 (by decide) rfl ?_ ?_
  · refine Dn_ald_n (i := 0) (q := 15) C dX5_bandWord_14 rfl rfl ?_
    refine Dn_ldc (q := 17) C dX5_bandWord_15 q_828 rfl ?_
    refine Dn_iconst (v := 5) (q := 18) C dX5_bandWord_17 (by decide) rfl ?_
    refine Dn_callV (ci := 5) (T := TX5) (N := 25) (q := 21) C rfl (kX5_isWord X.l X.G X.tg) q_827 q_824 q_826 q_18 q_50 ⟨rfl, rfl⟩ (by decide +kernel) ⟨by decide, by decide⟩ dX5_bandWord_18 rfl ?_
    refine Dn_ifeq (t := 28) (q := 24) C dX5_bandWord_21 (by decide) rfl ?_ ?_
    · refine Dn_ald_n (i := 0) (q := 29) C dX5_bandWord_28 rfl rfl ?_
      refine Dn_ldc (q := 31) C dX5_bandWord_29 q_829 rfl ?_
      refine Dn_iconst (v := 5) (q := 32) C dX5_bandWord_31 (by decide) rfl ?_
      refine Dn_callV (ci := 5) (T := TX5) (N := 25) (q := 35) C rfl (kX5_isWord X.l X.G X.tg) q_827 q_824 q_826 q_18 q_50 ⟨rfl, rfl⟩ (by decide +kernel) ⟨by decide, by decide⟩ dX5_bandWord_32 rfl ?_
      refine Dn_ifeq (t := 42) (q := 38) C dX5_bandWord_35 (by decide) rfl ?_ ?_
      · refine Dn_ald_n (i := 0) (q := 43) C dX5_bandWord_42 rfl rfl ?_
        refine Dn_ldc (q := 45) C dX5_bandWord_43 q_830 rfl ?_
        refine Dn_iconst (v := 4) (q := 46) C dX5_bandWord_45 (by decide) rfl ?_
        refine Dn_callV (ci := 5) (T := TX5) (N := 25) (q := 49) C rfl (kX5_isWord X.l X.G X.tg) q_827 q_824 q_826 q_18 q_50 ⟨rfl, rfl⟩ (by decide +kernel) ⟨by decide, by decide⟩ dX5_bandWord_46 rfl ?_
        refine Dn_ifeq (t := 57) (q := 52) C dX5_bandWord_49 (by decide) rfl ?_ ?_
        · refine Dn_ald_n (i := 0) (q := 58) C dX5_bandWord_57 rfl rfl ?_
          refine Dn_ldc (q := 60) C dX5_bandWord_58 q_831 rfl ?_
          refine Dn_iconst (v := 5) (q := 61) C dX5_bandWord_60 (by decide) rfl ?_
          refine Dn_callV (ci := 5) (T := TX5) (N := 25) (q := 64) C rfl (kX5_isWord X.l X.G X.tg) q_827 q_824 q_826 q_18 q_50 ⟨rfl, rfl⟩ (by decide +kernel) ⟨by decide, by decide⟩ dX5_bandWord_61 rfl ?_
          refine Dn_ifeq (t := 72) (q := 67) C dX5_bandWord_64 (by decide) rfl ?_ ?_
          · refine Dn_ald_n (i := 0) (q := 73) C dX5_bandWord_72 rfl rfl ?_
            refine Dn_ldc (q := 75) C dX5_bandWord_73 q_832 rfl ?_
            refine Dn_iconst (v := 4) (q := 76) C dX5_bandWord_75 (by decide) rfl ?_
            refine Dn_callV (ci := 5) (T := TX5) (N := 25) (q := 79) C rfl (kX5_isWord X.l X.G X.tg) q_827 q_824 q_826 q_18 q_50 ⟨rfl, rfl⟩ (by decide +kernel) ⟨by decide, by decide⟩ dX5_bandWord_76 rfl ?_
            refine Dn_ifeq (t := 87) (q := 82) C dX5_bandWord_79 (by decide) rfl ?_ ?_
            · refine Dn_iconst (v := (-1)) (q := 88) C dX5_bandWord_87 (by decide) rfl ?_
              exact JX5_bandWord_88 C hX
            · refine Dn_bipush (v := 8) (q := 84) C dX5_bandWord_82 (by decide) rfl ?_
              refine Dn_goto (t := 88) C dX5_bandWord_84 (by decide) ?_
              exact JX5_bandWord_88 C hX
          · refine Dn_bipush (v := 7) (q := 69) C dX5_bandWord_67 (by decide) rfl ?_
            refine Dn_goto (t := 88) C dX5_bandWord_69 (by decide) ?_
            exact JX5_bandWord_88 C hX
        · refine Dn_bipush (v := 6) (q := 54) C dX5_bandWord_52 (by decide) rfl ?_
          refine Dn_goto (t := 88) C dX5_bandWord_54 (by decide) ?_
          exact JX5_bandWord_88 C hX
      · refine Dn_iconst (v := 5) (q := 39) C dX5_bandWord_38 (by decide) rfl ?_
        refine Dn_goto (t := 88) C dX5_bandWord_39 (by decide) ?_
        exact JX5_bandWord_88 C hX
    · refine Dn_iconst (v := 4) (q := 25) C dX5_bandWord_24 (by decide) rfl ?_
      refine Dn_goto (t := 88) C dX5_bandWord_25 (by decide) ?_
      exact JX5_bandWord_88 C hX
  · refine Dn_iconst (v := 3) (q := 11) C dX5_bandWord_10 (by decide) rfl ?_
    refine Dn_goto (t := 88) C dX5_bandWord_11 (by decide) ?_
    exact JX5_bandWord_88 C hX
abbrev rX5_wordOf : Room := ({ frames := 2, cells := 0, slots := 0, locals := 44 } : Room)
def jX5_wordOf_102 : mK := i_iret
set_option maxRecDepth 20000 in
theorem JX5_wordOf_102 {X : mC} (C : Cx X rX5_wordOf cX5_wordOf 2 RX5 (some FieldType.int)) (hX : Rx X) : Den X rX5_wordOf 2 102 jX5_wordOf_102 := by
  unfold jX5_wordOf_102
  exact Dn_iret C hX dX5_wordOf_102
def jX5_wordOf : mK := i_ald 0 (i_callV 5 0 FX5_bandWord (i_ist 1 (i_ild 1 (i_push (.int (-1)) (i_iceq (i_ald 0 (i_push (.int 378928) (i_push (.int 4) (i_callV 5 2 FX5_isWord (i_ifeq (i_ald 0 (i_push (.int 405542) (i_push (.int 4) (i_callV 5 2 FX5_isWord (i_ifeq (i_ald 0 (i_push (.int 5920134) (i_push (.int 5) (i_callV 5 2 FX5_isWord (i_ifeq (i_ald 0 (i_push (.int 5476520) (i_push (.int 5) (i_callV 5 2 FX5_isWord (i_ifeq (i_ald 0 (i_push (.int 372791) (i_push (.int 4) (i_callV 5 2 FX5_isWord (i_ifeq (i_ald 0 (i_push (.int 12986003) (i_push (.int 5) (i_callV 5 2 FX5_isWord (i_ifeq (i_push (.int (-1)) (jX5_wordOf_102)) (i_push (.int 11) (jX5_wordOf_102))))))) (i_push (.int 10) (jX5_wordOf_102))))))) (i_push (.int 9) (jX5_wordOf_102))))))) (i_push (.int 2) (jX5_wordOf_102))))))) (i_push (.int 1) (jX5_wordOf_102))))))) (i_push (.int 0) (jX5_wordOf_102))))))) (i_ild 1 (jX5_wordOf_102)))))))
def FX5_wordOf : mF := mEnt 2 jX5_wordOf
set_option maxRecDepth 20000 in
theorem kX5_wordOf (l : Launch) (G : va_G) (tg : Nat → ClassId) : Ct l G tg yX5_wordOf cX5_wordOf 2 (some FieldType.int) rX5_wordOf FX5_wordOf := by
  refine Ct.of RX5 (by decide) rfl (fun X C hX => ?_)
  unfold jX5_wordOf
  refine Dn_ald_n (i := 0) (q := 1) C dX5_wordOf_0 rfl rfl ?_
  refine Dn_callV (ci := 5) (T := TX5) (N := 25) (q := 4) C rfl (kX5_bandWord X.l X.G X.tg) q_822 q_819 q_821 q_17 q_50 ⟨rfl, rfl⟩ (by decide +kernel) ⟨by decide, by decide⟩ dX5_wordOf_1 rfl ?_
  refine Dn_ist_n (i := 1) (q := 5) C dX5_wordOf_4 rfl (by decide) rfl ?_
  refine Dn_ild_n (i := 1) (q := 6) C dX5_wordOf_5 rfl rfl ?_
  refine Dn_iconst (v := (-1)) (q := 7) C dX5_wordOf_6 (by decide) rfl ?_
  refine Dn_iceq (t := 14) (q := 10) C dX5_wordOf_7 (by decide) rfl ?_ ?_
  · refine Dn_ald_n (i := 0) (q := 15) C dX5_wordOf_14 rfl rfl ?_
    refine Dn_ldc (q := 17) C dX5_wordOf_15 q_833 rfl ?_
    refine Dn_iconst (v := 4) (q := 18) C dX5_wordOf_17 (by decide) rfl ?_
    refine Dn_callV (ci := 5) (T := TX5) (N := 25) (q := 21) C rfl (kX5_isWord X.l X.G X.tg) q_827 q_824 q_826 q_18 q_50 ⟨rfl, rfl⟩ (by decide +kernel) ⟨by decide, by decide⟩ dX5_wordOf_18 rfl ?_
    refine Dn_ifeq (t := 28) (q := 24) C dX5_wordOf_21 (by decide) rfl ?_ ?_
    · refine Dn_ald_n (i := 0) (q := 29) C dX5_wordOf_28 rfl rfl ?_
      refine Dn_ldc (q := 31) C dX5_wordOf_29 q_834 rfl ?_
      refine Dn_iconst (v := 4) (q := 32) C dX5_wordOf_31 (by decide) rfl ?_
      refine Dn_callV (ci := 5) (T := TX5) (N := 25) (q := 35) C rfl (kX5_isWord X.l X.G X.tg) q_827 q_824 q_826 q_18 q_50 ⟨rfl, rfl⟩ (by decide +kernel) ⟨by decide, by decide⟩ dX5_wordOf_32 rfl ?_
      refine Dn_ifeq (t := 42) (q := 38) C dX5_wordOf_35 (by decide) rfl ?_ ?_
      · refine Dn_ald_n (i := 0) (q := 43) C dX5_wordOf_42 rfl rfl ?_
        refine Dn_ldc (q := 45) C dX5_wordOf_43 q_835 rfl ?_
        refine Dn_iconst (v := 5) (q := 46) C dX5_wordOf_45 (by decide) rfl ?_
        refine Dn_callV (ci := 5) (T := TX5) (N := 25) (q := 49) C rfl (kX5_isWord X.l X.G X.tg) q_827 q_824 q_826 q_18 q_50 ⟨rfl, rfl⟩ (by decide +kernel) ⟨by decide, by decide⟩ dX5_wordOf_46 rfl ?_
        refine Dn_ifeq (t := 56) (q := 52) C dX5_wordOf_49 (by decide) rfl ?_ ?_
        · refine Dn_ald_n (i := 0) (q := 57) C dX5_wordOf_56 rfl rfl ?_
          refine Dn_ldc (q := 59) C dX5_wordOf_57 q_836 rfl ?_
          refine Dn_iconst (v := 5) (q := 60) C dX5_wordOf_59 (by decide) rfl ?_
          refine Dn_callV (ci := 5) (T := TX5) (N := 25) (q := 63) C rfl (kX5_isWord X.l X.G X.tg) q_827 q_824 q_826 q_18 q_50 ⟨rfl, rfl⟩ (by decide +kernel) ⟨by decide, by decide⟩ dX5_wordOf_60 rfl ?_
          refine Dn_ifeq (t := 71) (q := 66) C dX5_wordOf_63 (by decide) rfl ?_ ?_
          · refine Dn_ald_n (i := 0) (q := 72) C dX5_wordOf_71 rfl rfl ?_
            refine Dn_ldc (q := 74) C dX5_wordOf_72 q_837 rfl ?_
            refine Dn_iconst (v := 4) (q := 75) C dX5_wordOf_74 (by decide) rfl ?_
            refine Dn_callV (ci := 5) (T := TX5) (N := 25) (q := 78) C rfl (kX5_isWord X.l X.G X.tg) q_827 q_824 q_826 q_18 q_50 ⟨rfl, rfl⟩ (by decide +kernel) ⟨by decide, by decide⟩ dX5_wordOf_75 rfl ?_
            refine Dn_ifeq (t := 86) (q := 81) C dX5_wordOf_78 (by decide) rfl ?_ ?_
            · refine Dn_ald_n (i := 0) (q := 87) C dX5_wordOf_86 rfl rfl ?_
              refine Dn_ldc (q := 89) C dX5_wordOf_87 q_838 rfl ?_
              refine Dn_iconst (v := 5) (q := 90) C dX5_wordOf_89 (by decide) rfl ?_
              refine Dn_callV (ci := 5) (T := TX5) (N := 25) (q := 93) C rfl (kX5_isWord X.l X.G X.tg) q_827 q_824 q_826 q_18 q_50 ⟨rfl, rfl⟩ (by decide +kernel) ⟨by decide, by decide⟩ dX5_wordOf_90 rfl ?_
              refine Dn_ifeq (t := 101) (q := 96) C dX5_wordOf_93 (by decide) rfl ?_ ?_
              · refine Dn_iconst (v := (-1)) (q := 102) C dX5_wordOf_101 (by decide) rfl ?_
                exact JX5_wordOf_102 C hX
              · refine Dn_bipush (v := 11) (q := 98) C dX5_wordOf_96 (by decide) rfl ?_
                refine Dn_goto (t := 102) C dX5_wordOf_98 (by decide) ?_
                exact JX5_wordOf_102 C hX
            · refine Dn_bipush (v := 10) (q := 83) C dX5_wordOf_81 (by decide) rfl ?_
              refine Dn_goto (t := 102) C dX5_wordOf_83 (by decide) ?_
              exact JX5_wordOf_102 C hX
          · refine Dn_bipush (v := 9) (q := 68) C dX5_wordOf_66 (by decide) rfl ?_
            refine Dn_goto (t := 102) C dX5_wordOf_68 (by decide) ?_
            exact JX5_wordOf_102 C hX
        · refine Dn_iconst (v := 2) (q := 53) C dX5_wordOf_52 (by decide) rfl ?_
          refine Dn_goto (t := 102) C dX5_wordOf_53 (by decide) ?_
          exact JX5_wordOf_102 C hX
      · refine Dn_iconst (v := 1) (q := 39) C dX5_wordOf_38 (by decide) rfl ?_
        refine Dn_goto (t := 102) C dX5_wordOf_39 (by decide) ?_
        exact JX5_wordOf_102 C hX
    · refine Dn_iconst (v := 0) (q := 25) C dX5_wordOf_24 (by decide) rfl ?_
      refine Dn_goto (t := 102) C dX5_wordOf_25 (by decide) ?_
      exact JX5_wordOf_102 C hX
  · refine Dn_ild_n (i := 1) (q := 11) C dX5_wordOf_10 rfl rfl ?_
    refine Dn_goto (t := 102) C dX5_wordOf_11 (by decide) ?_
    exact JX5_wordOf_102 C hX
abbrev rX5_numberHere : Room := ({ frames := 1, cells := 0, slots := 0, locals := 20 } : Room)
def jX5_numberHere_49 : mK := i_loop (fun B49 => i_ild 2 (i_ald 0 (i_get 5 17 (i_icge (i_ild 1 (i_iret)) (i_push (.int 10) (i_ild 1 (i_ib (fun x y => x * y) (i_ald 0 (i_get 5 2 (i_ild 2 (i_iald (i_ib (fun x y => x + y) (i_push (.int 48) (i_ib (fun x y => x - y) (i_ist 1 (i_inc 2 1 (B49))))))))))))))))) 1000
set_option maxRecDepth 20000 in
theorem JX5_numberHere_49 {X : mC} (C : Cx X rX5_numberHere cX5_numberHere 3 RX5 (some FieldType.int)) (hX : Rx X) : Den X rX5_numberHere 3 49 jX5_numberHere_49 := by
  unfold jX5_numberHere_49
  refine Dn_loop (fun B49 hB49 => ?_) 1000
  refine Dn_ild_n (i := 2) (q := 50) C dX5_numberHere_49 rfl rfl ?_
  refine Dn_ald_n (i := 0) (q := 51) C dX5_numberHere_50 rfl rfl ?_
  refine Dn_get (ci := 5) (j := 17) (T := TX5) (N := 25) (Cn := RX5) (q := 54) C rfl iX5 (by decide) q_727 dX5_numberHere_51 rfl ?_
  refine Dn_icge (t := 78) (q := 57) C dX5_numberHere_54 (by decide) rfl ?_ ?_
  · refine Dn_ild_n (i := 1) (q := 79) C dX5_numberHere_78 rfl rfl ?_
    exact Dn_iret C hX dX5_numberHere_79
  · refine Dn_bipush (v := 10) (q := 59) C dX5_numberHere_57 (by decide) rfl ?_
    refine Dn_ild_n (i := 1) (q := 60) C dX5_numberHere_59 rfl rfl ?_
    refine Dn_imul (q := 61) C dX5_numberHere_60 rfl ?_
    refine Dn_ald_n (i := 0) (q := 62) C dX5_numberHere_61 rfl rfl ?_
    refine Dn_get (ci := 5) (j := 2) (T := TX5) (N := 25) (Cn := RX5) (q := 65) C rfl iX5 (by decide) q_712 dX5_numberHere_62 rfl ?_
    refine Dn_ild_n (i := 2) (q := 66) C dX5_numberHere_65 rfl rfl ?_
    refine Dn_iald (q := 67) C dX5_numberHere_66 rfl ?_
    refine Dn_iadd (q := 68) C dX5_numberHere_67 rfl ?_
    refine Dn_bipush (v := 48) (q := 70) C dX5_numberHere_68 (by decide) rfl ?_
    refine Dn_isub (q := 71) C dX5_numberHere_70 rfl ?_
    refine Dn_ist_n (i := 1) (q := 72) C dX5_numberHere_71 rfl (by decide) rfl ?_
    refine Dn_inc (z := 1) (q := 75) C dX5_numberHere_72 (by decide) (by decide) rfl ?_
    refine Dn_goto (t := 49) C dX5_numberHere_75 (by decide) ?_
    exact hB49
def jX5_numberHere_40 : mK := i_push (.int (-1)) (i_iret)
set_option maxRecDepth 20000 in
theorem JX5_numberHere_40 {X : mC} (C : Cx X rX5_numberHere cX5_numberHere 3 RX5 (some FieldType.int)) (hX : Rx X) : Den X rX5_numberHere 3 40 jX5_numberHere_40 := by
  unfold jX5_numberHere_40
  refine Dn_iconst (v := (-1)) (q := 41) C dX5_numberHere_40 (by decide) rfl ?_
  exact Dn_iret C hX dX5_numberHere_41
def jX5_numberHere : mK := i_ald 0 (i_get 5 16 (i_ald 0 (i_get 5 3 (i_iceq (jX5_numberHere_40) (i_ald 0 (i_get 5 2 (i_ald 0 (i_get 5 16 (i_iald (i_call 1 FX5_sort (i_push (.int 2) (i_icne (jX5_numberHere_40) (i_ald 0 (i_get 5 17 (i_ald 0 (i_get 5 16 (i_ib (fun x y => x - y) (i_push (.int 2) (i_icle (i_push (.int 0) (i_ist 1 (i_ald 0 (i_get 5 16 (i_ist 2 (jX5_numberHere_49)))))) (jX5_numberHere_40))))))))))))))))))))
def FX5_numberHere : mF := mEnt 3 jX5_numberHere
set_option maxRecDepth 20000 in
theorem kX5_numberHere (l : Launch) (G : va_G) (tg : Nat → ClassId) : Ct l G tg yX5_numberHere cX5_numberHere 3 (some FieldType.int) rX5_numberHere FX5_numberHere := by
  refine Ct.of RX5 (by decide) rfl (fun X C hX => ?_)
  unfold jX5_numberHere
  refine Dn_ald_n (i := 0) (q := 1) C dX5_numberHere_0 rfl rfl ?_
  refine Dn_get (ci := 5) (j := 16) (T := TX5) (N := 25) (Cn := RX5) (q := 4) C rfl iX5 (by decide) q_726 dX5_numberHere_1 rfl ?_
  refine Dn_ald_n (i := 0) (q := 5) C dX5_numberHere_4 rfl rfl ?_
  refine Dn_get (ci := 5) (j := 3) (T := TX5) (N := 25) (Cn := RX5) (q := 8) C rfl iX5 (by decide) q_713 dX5_numberHere_5 rfl ?_
  refine Dn_iceq (t := 40) (q := 11) C dX5_numberHere_8 (by decide) rfl ?_ ?_
  · exact JX5_numberHere_40 C hX
  · refine Dn_ald_n (i := 0) (q := 12) C dX5_numberHere_11 rfl rfl ?_
    refine Dn_get (ci := 5) (j := 2) (T := TX5) (N := 25) (Cn := RX5) (q := 15) C rfl iX5 (by decide) q_712 dX5_numberHere_12 rfl ?_
    refine Dn_ald_n (i := 0) (q := 16) C dX5_numberHere_15 rfl rfl ?_
    refine Dn_get (ci := 5) (j := 16) (T := TX5) (N := 25) (Cn := RX5) (q := 19) C rfl iX5 (by decide) q_726 dX5_numberHere_16 rfl ?_
    refine Dn_iald (q := 20) C dX5_numberHere_19 rfl ?_
    refine Dn_callS (q := 23) C (kX5_sort X.l X.G X.tg) q_810 q_808 q_809 q_50 ⟨rfl, rfl⟩ (by decide +kernel) ⟨by decide, by decide⟩ dX5_numberHere_20 rfl ?_
    refine Dn_iconst (v := 2) (q := 24) C dX5_numberHere_23 (by decide) rfl ?_
    refine Dn_icne (t := 40) (q := 27) C dX5_numberHere_24 (by decide) rfl ?_ ?_
    · exact JX5_numberHere_40 C hX
    · refine Dn_ald_n (i := 0) (q := 28) C dX5_numberHere_27 rfl rfl ?_
      refine Dn_get (ci := 5) (j := 17) (T := TX5) (N := 25) (Cn := RX5) (q := 31) C rfl iX5 (by decide) q_727 dX5_numberHere_28 rfl ?_
      refine Dn_ald_n (i := 0) (q := 32) C dX5_numberHere_31 rfl rfl ?_
      refine Dn_get (ci := 5) (j := 16) (T := TX5) (N := 25) (Cn := RX5) (q := 35) C rfl iX5 (by decide) q_726 dX5_numberHere_32 rfl ?_
      refine Dn_isub (q := 36) C dX5_numberHere_35 rfl ?_
      refine Dn_iconst (v := 2) (q := 37) C dX5_numberHere_36 (by decide) rfl ?_
      refine Dn_icle (t := 42) (q := 40) C dX5_numberHere_37 (by decide) rfl ?_ ?_
      · refine Dn_iconst (v := 0) (q := 43) C dX5_numberHere_42 (by decide) rfl ?_
        refine Dn_ist_n (i := 1) (q := 44) C dX5_numberHere_43 rfl (by decide) rfl ?_
        refine Dn_ald_n (i := 0) (q := 45) C dX5_numberHere_44 rfl rfl ?_
        refine Dn_get (ci := 5) (j := 16) (T := TX5) (N := 25) (Cn := RX5) (q := 48) C rfl iX5 (by decide) q_726 dX5_numberHere_45 rfl ?_
        refine Dn_ist_n (i := 2) (q := 49) C dX5_numberHere_48 rfl (by decide) rfl ?_
        exact JX5_numberHere_49 C hX
      · exact JX5_numberHere_40 C hX
abbrev rX5_reads : Room := ({ frames := 2, cells := 0, slots := 0, locals := 42 } : Room)
def jX5_reads : mK := i_ald 0 (i_callV 5 0 FX5_numberHere (i_ist 4 (i_ild 4 (i_i2l (i_ild 2 (i_i2l (i_ild 3 (i_i2l (i_call 3 FX5_in (i_ifne (i_ald 0 (i_get 5 4 (i_push (.int 5) (i_ald 0 (i_get 5 5 (i_ib (fun x y => x * y) (i_push (.int 1) (i_ib (fun x y => x + y) (i_ild 1 (i_ib (fun x y => x + y) (i_ild 4 (i_iast (i_ald 0 (i_callV 5 0 FX5_token (i_push (.int 1) (i_nret .boolean)))))))))))))))) (i_push (.int 0) (i_nret .boolean))))))))))))
def FX5_reads : mF := mEnt 5 jX5_reads
set_option maxRecDepth 20000 in
theorem kX5_reads (l : Launch) (G : va_G) (tg : Nat → ClassId) : Ct l G tg yX5_reads cX5_reads 5 (some FieldType.boolean) rX5_reads FX5_reads := by
  refine Ct.of RX5 (by decide) rfl (fun X C hX => ?_)
  unfold jX5_reads
  refine Dn_ald_n (i := 0) (q := 1) C dX5_reads_0 rfl rfl ?_
  refine Dn_callV (ci := 5) (T := TX5) (N := 25) (q := 4) C rfl (kX5_numberHere X.l X.G X.tg) q_855 q_852 q_854 q_21 q_50 ⟨rfl, rfl⟩ (by decide +kernel) ⟨by decide, by decide⟩ dX5_reads_1 rfl ?_
  refine Dn_ist (q := 6) C dX5_reads_4 (by decide) rfl ?_
  refine Dn_ild (q := 8) C dX5_reads_6 rfl ?_
  refine Dn_i2l (q := 9) C dX5_reads_8 rfl ?_
  refine Dn_ild_n (i := 2) (q := 10) C dX5_reads_9 rfl rfl ?_
  refine Dn_i2l (q := 11) C dX5_reads_10 rfl ?_
  refine Dn_ild_n (i := 3) (q := 12) C dX5_reads_11 rfl rfl ?_
  refine Dn_i2l (q := 13) C dX5_reads_12 rfl ?_
  refine Dn_callS (q := 16) C (kX5_in X.l X.G X.tg) q_794 q_792 q_793 q_50 ⟨rfl, rfl⟩ (by decide +kernel) ⟨by decide, by decide⟩ dX5_reads_13 rfl ?_
  refine Dn_ifne (t := 21) (q := 19) C dX5_reads_16 (by decide) rfl ?_ ?_
  · refine Dn_ald_n (i := 0) (q := 22) C dX5_reads_21 rfl rfl ?_
    refine Dn_get (ci := 5) (j := 4) (T := TX5) (N := 25) (Cn := RX5) (q := 25) C rfl iX5 (by decide) q_714 dX5_reads_22 rfl ?_
    refine Dn_iconst (v := 5) (q := 26) C dX5_reads_25 (by decide) rfl ?_
    refine Dn_ald_n (i := 0) (q := 27) C dX5_reads_26 rfl rfl ?_
    refine Dn_get (ci := 5) (j := 5) (T := TX5) (N := 25) (Cn := RX5) (q := 30) C rfl iX5 (by decide) q_715 dX5_reads_27 rfl ?_
    refine Dn_imul (q := 31) C dX5_reads_30 rfl ?_
    refine Dn_iconst (v := 1) (q := 32) C dX5_reads_31 (by decide) rfl ?_
    refine Dn_iadd (q := 33) C dX5_reads_32 rfl ?_
    refine Dn_ild_n (i := 1) (q := 34) C dX5_reads_33 rfl rfl ?_
    refine Dn_iadd (q := 35) C dX5_reads_34 rfl ?_
    refine Dn_ild (q := 37) C dX5_reads_35 rfl ?_
    refine Dn_iast (q := 38) C dX5_reads_37 rfl ?_
    refine Dn_ald_n (i := 0) (q := 39) C dX5_reads_38 rfl rfl ?_
    refine Dn_callV (ci := 5) (T := TX5) (N := 25) (q := 42) C rfl (kX5_token X.l X.G X.tg) q_807 q_804 q_806 q_14 q_50 ⟨rfl, rfl⟩ (by decide +kernel) ⟨by decide, by decide⟩ dX5_reads_39 rfl ?_
    refine Dn_iconst (v := 1) (q := 43) C dX5_reads_42 (by decide) rfl ?_
    exact Dn_nret C hX dX5_reads_43
  · refine Dn_iconst (v := 0) (q := 20) C dX5_reads_19 (by decide) rfl ?_
    exact Dn_nret C hX dX5_reads_20
abbrev rX5_readsHedge : Room := ({ frames := 3, cells := 0, slots := 0, locals := 66 } : Room)
def jX5_readsHedge_52 : mK := i_nret .boolean
set_option maxRecDepth 20000 in
theorem JX5_readsHedge_52 {X : mC} (C : Cx X rX5_readsHedge cX5_readsHedge 2 RX5 (some FieldType.boolean)) (hX : Rx X) : Den X rX5_readsHedge 2 52 jX5_readsHedge_52 := by
  unfold jX5_readsHedge_52
  exact Dn_nret C hX dX5_readsHedge_52
def jX5_readsHedge_51 : mK := i_push (.int 0) (jX5_readsHedge_52)
set_option maxRecDepth 20000 in
theorem JX5_readsHedge_51 {X : mC} (C : Cx X rX5_readsHedge cX5_readsHedge 2 RX5 (some FieldType.boolean)) (hX : Rx X) : Den X rX5_readsHedge 2 51 jX5_readsHedge_51 := by
  unfold jX5_readsHedge_51
  refine Dn_iconst (v := 0) (q := 52) C dX5_readsHedge_51 (by decide) rfl ?_
  exact JX5_readsHedge_52 C hX
def jX5_readsHedge : mK := i_ald 0 (i_callV 5 0 FX5_numberHere (i_ist 1 (i_ild 1 (i_i2l (i_push (.long 0) (i_ald 0 (i_get 5 18 (i_push (.int 1) (i_ib (fun x y => x - y) (i_i2l (i_call 3 FX5_in (i_ifeq (jX5_readsHedge_51) (i_ald 0 (i_get 5 20 (i_ild 1 (i_call 2 FX5_has (i_ifne (jX5_readsHedge_51) (i_ald 0 (i_push (.int 0) (i_push (.int 0) (i_ald 0 (i_get 5 18 (i_push (.int 1) (i_ib (fun x y => x - y) (i_callV 5 3 FX5_reads (i_ifeq (jX5_readsHedge_51) (i_push (.int 1) (jX5_readsHedge_52))))))))))))))))))))))))))))
def FX5_readsHedge : mF := mEnt 2 jX5_readsHedge
set_option maxRecDepth 20000 in
theorem kX5_readsHedge (l : Launch) (G : va_G) (tg : Nat → ClassId) : Ct l G tg yX5_readsHedge cX5_readsHedge 2 (some FieldType.boolean) rX5_readsHedge FX5_readsHedge := by
  refine Ct.of RX5 (by decide) rfl (fun X C hX => ?_)
  unfold jX5_readsHedge
  refine Dn_ald_n (i := 0) (q := 1) C dX5_readsHedge_0 rfl rfl ?_
  refine Dn_callV (ci := 5) (T := TX5) (N := 25) (q := 4) C rfl (kX5_numberHere X.l X.G X.tg) q_855 q_852 q_854 q_21 q_50 ⟨rfl, rfl⟩ (by decide +kernel) ⟨by decide, by decide⟩ dX5_readsHedge_1 rfl ?_
  refine Dn_ist_n (i := 1) (q := 5) C dX5_readsHedge_4 rfl (by decide) rfl ?_
  refine Dn_ild_n (i := 1) (q := 6) C dX5_readsHedge_5 rfl rfl ?_
  refine Dn_i2l (q := 7) C dX5_readsHedge_6 rfl ?_
  refine Dn_lconst (v := 0) (q := 8) C dX5_readsHedge_7 (by decide) rfl ?_
  refine Dn_ald_n (i := 0) (q := 9) C dX5_readsHedge_8 rfl rfl ?_
  refine Dn_get (ci := 5) (j := 18) (T := TX5) (N := 25) (Cn := RX5) (q := 12) C rfl iX5 (by decide) q_728 dX5_readsHedge_9 rfl ?_
  refine Dn_iconst (v := 1) (q := 13) C dX5_readsHedge_12 (by decide) rfl ?_
  refine Dn_isub (q := 14) C dX5_readsHedge_13 rfl ?_
  refine Dn_i2l (q := 15) C dX5_readsHedge_14 rfl ?_
  refine Dn_callS (q := 18) C (kX5_in X.l X.G X.tg) q_794 q_792 q_793 q_50 ⟨rfl, rfl⟩ (by decide +kernel) ⟨by decide, by decide⟩ dX5_readsHedge_15 rfl ?_
  refine Dn_ifeq (t := 51) (q := 21) C dX5_readsHedge_18 (by decide) rfl ?_ ?_
  · exact JX5_readsHedge_51 C hX
  · refine Dn_ald_n (i := 0) (q := 22) C dX5_readsHedge_21 rfl rfl ?_
    refine Dn_get (ci := 5) (j := 20) (T := TX5) (N := 25) (Cn := RX5) (q := 25) C rfl iX5 (by decide) q_730 dX5_readsHedge_22 rfl ?_
    refine Dn_ild_n (i := 1) (q := 26) C dX5_readsHedge_25 rfl rfl ?_
    refine Dn_callS (q := 29) C (kX5_has X.l X.G X.tg) q_862 q_860 q_861 q_50 ⟨rfl, rfl⟩ (by decide +kernel) ⟨by decide, by decide⟩ dX5_readsHedge_26 rfl ?_
    refine Dn_ifne (t := 51) (q := 32) C dX5_readsHedge_29 (by decide) rfl ?_ ?_
    · exact JX5_readsHedge_51 C hX
    · refine Dn_ald_n (i := 0) (q := 33) C dX5_readsHedge_32 rfl rfl ?_
      refine Dn_iconst (v := 0) (q := 34) C dX5_readsHedge_33 (by decide) rfl ?_
      refine Dn_iconst (v := 0) (q := 35) C dX5_readsHedge_34 (by decide) rfl ?_
      refine Dn_ald_n (i := 0) (q := 36) C dX5_readsHedge_35 rfl rfl ?_
      refine Dn_get (ci := 5) (j := 18) (T := TX5) (N := 25) (Cn := RX5) (q := 39) C rfl iX5 (by decide) q_728 dX5_readsHedge_36 rfl ?_
      refine Dn_iconst (v := 1) (q := 40) C dX5_readsHedge_39 (by decide) rfl ?_
      refine Dn_isub (q := 41) C dX5_readsHedge_40 rfl ?_
      refine Dn_callV (ci := 5) (T := TX5) (N := 25) (q := 44) C rfl (kX5_reads X.l X.G X.tg) q_851 q_848 q_850 q_20 q_50 ⟨rfl, rfl⟩ (by decide +kernel) ⟨by decide, by decide⟩ dX5_readsHedge_41 rfl ?_
      refine Dn_ifeq (t := 51) (q := 47) C dX5_readsHedge_44 (by decide) rfl ?_ ?_
      · exact JX5_readsHedge_51 C hX
      · refine Dn_iconst (v := 1) (q := 48) C dX5_readsHedge_47 (by decide) rfl ?_
        refine Dn_goto (t := 52) C dX5_readsHedge_48 (by decide) ?_
        exact JX5_readsHedge_52 C hX
abbrev rX5_readsRest : Room := ({ frames := 4, cells := 0, slots := 0, locals := 87 } : Room)
def jX5_readsRest_300 : mK := i_nret .boolean
set_option maxRecDepth 20000 in
theorem JX5_readsRest_300 {X : mC} (C : Cx X rX5_readsRest cX5_readsRest 4 RX5 (some FieldType.boolean)) (hX : Rx X) : Den X rX5_readsRest 4 300 jX5_readsRest_300 := by
  unfold jX5_readsRest_300
  exact Dn_nret C hX dX5_readsRest_300
def jX5_readsRest_299 : mK := i_push (.int 0) (jX5_readsRest_300)
set_option maxRecDepth 20000 in
theorem JX5_readsRest_299 {X : mC} (C : Cx X rX5_readsRest cX5_readsRest 4 RX5 (some FieldType.boolean)) (hX : Rx X) : Den X rX5_readsRest 4 299 jX5_readsRest_299 := by
  unfold jX5_readsRest_299
  refine Dn_iconst (v := 0) (q := 300) C dX5_readsRest_299 (by decide) rfl ?_
  exact JX5_readsRest_300 C hX
def jX5_readsRest_245 : mK := i_ald 0 (i_push (.int 0) (i_push (.int 0) (i_ild 3 (i_callV 5 3 FX5_reads (i_ifeq (jX5_readsRest_299) (i_ald 0 (i_push (.int 1) (i_push (.int 0) (i_push (.int 99) (i_callV 5 3 FX5_reads (i_ifeq (jX5_readsRest_299) (i_ald 0 (i_push (.int 2) (i_push (.int 0) (i_push (.int 11) (i_callV 5 3 FX5_reads (i_ifeq (jX5_readsRest_299) (i_ald 0 (i_push (.int 3) (i_ald 0 (i_get 5 4 (i_ild 2 (i_push (.int 2) (i_ib (fun x y => x + y) (i_iald (i_push (.int 11) (i_callV 5 3 FX5_reads (i_ifeq (jX5_readsRest_299) (i_push (.int 1) (jX5_readsRest_300))))))))))))))))))))))))))))))
set_option maxRecDepth 20000 in
theorem JX5_readsRest_245 {X : mC} (C : Cx X rX5_readsRest cX5_readsRest 4 RX5 (some FieldType.boolean)) (hX : Rx X) : Den X rX5_readsRest 4 245 jX5_readsRest_245 := by
  unfold jX5_readsRest_245
  refine Dn_ald_n (i := 0) (q := 246) C dX5_readsRest_245 rfl rfl ?_
  refine Dn_iconst (v := 0) (q := 247) C dX5_readsRest_246 (by decide) rfl ?_
  refine Dn_iconst (v := 0) (q := 248) C dX5_readsRest_247 (by decide) rfl ?_
  refine Dn_ild_n (i := 3) (q := 249) C dX5_readsRest_248 rfl rfl ?_
  refine Dn_callV (ci := 5) (T := TX5) (N := 25) (q := 252) C rfl (kX5_reads X.l X.G X.tg) q_851 q_848 q_850 q_20 q_50 ⟨rfl, rfl⟩ (by decide +kernel) ⟨by decide, by decide⟩ dX5_readsRest_249 rfl ?_
  refine Dn_ifeq (t := 299) (q := 255) C dX5_readsRest_252 (by decide) rfl ?_ ?_
  · exact JX5_readsRest_299 C hX
  · refine Dn_ald_n (i := 0) (q := 256) C dX5_readsRest_255 rfl rfl ?_
    refine Dn_iconst (v := 1) (q := 257) C dX5_readsRest_256 (by decide) rfl ?_
    refine Dn_iconst (v := 0) (q := 258) C dX5_readsRest_257 (by decide) rfl ?_
    refine Dn_bipush (v := 99) (q := 260) C dX5_readsRest_258 (by decide) rfl ?_
    refine Dn_callV (ci := 5) (T := TX5) (N := 25) (q := 263) C rfl (kX5_reads X.l X.G X.tg) q_851 q_848 q_850 q_20 q_50 ⟨rfl, rfl⟩ (by decide +kernel) ⟨by decide, by decide⟩ dX5_readsRest_260 rfl ?_
    refine Dn_ifeq (t := 299) (q := 266) C dX5_readsRest_263 (by decide) rfl ?_ ?_
    · exact JX5_readsRest_299 C hX
    · refine Dn_ald_n (i := 0) (q := 267) C dX5_readsRest_266 rfl rfl ?_
      refine Dn_iconst (v := 2) (q := 268) C dX5_readsRest_267 (by decide) rfl ?_
      refine Dn_iconst (v := 0) (q := 269) C dX5_readsRest_268 (by decide) rfl ?_
      refine Dn_bipush (v := 11) (q := 271) C dX5_readsRest_269 (by decide) rfl ?_
      refine Dn_callV (ci := 5) (T := TX5) (N := 25) (q := 274) C rfl (kX5_reads X.l X.G X.tg) q_851 q_848 q_850 q_20 q_50 ⟨rfl, rfl⟩ (by decide +kernel) ⟨by decide, by decide⟩ dX5_readsRest_271 rfl ?_
      refine Dn_ifeq (t := 299) (q := 277) C dX5_readsRest_274 (by decide) rfl ?_ ?_
      · exact JX5_readsRest_299 C hX
      · refine Dn_ald_n (i := 0) (q := 278) C dX5_readsRest_277 rfl rfl ?_
        refine Dn_iconst (v := 3) (q := 279) C dX5_readsRest_278 (by decide) rfl ?_
        refine Dn_ald_n (i := 0) (q := 280) C dX5_readsRest_279 rfl rfl ?_
        refine Dn_get (ci := 5) (j := 4) (T := TX5) (N := 25) (Cn := RX5) (q := 283) C rfl iX5 (by decide) q_714 dX5_readsRest_280 rfl ?_
        refine Dn_ild_n (i := 2) (q := 284) C dX5_readsRest_283 rfl rfl ?_
        refine Dn_iconst (v := 2) (q := 285) C dX5_readsRest_284 (by decide) rfl ?_
        refine Dn_iadd (q := 286) C dX5_readsRest_285 rfl ?_
        refine Dn_iald (q := 287) C dX5_readsRest_286 rfl ?_
        refine Dn_bipush (v := 11) (q := 289) C dX5_readsRest_287 (by decide) rfl ?_
        refine Dn_callV (ci := 5) (T := TX5) (N := 25) (q := 292) C rfl (kX5_reads X.l X.G X.tg) q_851 q_848 q_850 q_20 q_50 ⟨rfl, rfl⟩ (by decide +kernel) ⟨by decide, by decide⟩ dX5_readsRest_289 rfl ?_
        refine Dn_ifeq (t := 299) (q := 295) C dX5_readsRest_292 (by decide) rfl ?_ ?_
        · exact JX5_readsRest_299 C hX
        · refine Dn_iconst (v := 1) (q := 296) C dX5_readsRest_295 (by decide) rfl ?_
          refine Dn_goto (t := 300) C dX5_readsRest_296 (by decide) ?_
          exact JX5_readsRest_300 C hX
def jX5_readsRest_242 : mK := i_nret .boolean
set_option maxRecDepth 20000 in
theorem JX5_readsRest_242 {X : mC} (C : Cx X rX5_readsRest cX5_readsRest 4 RX5 (some FieldType.boolean)) (hX : Rx X) : Den X rX5_readsRest 4 242 jX5_readsRest_242 := by
  unfold jX5_readsRest_242
  exact Dn_nret C hX dX5_readsRest_242
def jX5_readsRest_241 : mK := i_push (.int 0) (jX5_readsRest_242)
set_option maxRecDepth 20000 in
theorem JX5_readsRest_241 {X : mC} (C : Cx X rX5_readsRest cX5_readsRest 4 RX5 (some FieldType.boolean)) (hX : Rx X) : Den X rX5_readsRest 4 241 jX5_readsRest_241 := by
  unfold jX5_readsRest_241
  refine Dn_iconst (v := 0) (q := 242) C dX5_readsRest_241 (by decide) rfl ?_
  exact JX5_readsRest_242 C hX
def jX5_readsRest_206 : mK := i_nret .boolean
set_option maxRecDepth 20000 in
theorem JX5_readsRest_206 {X : mC} (C : Cx X rX5_readsRest cX5_readsRest 4 RX5 (some FieldType.boolean)) (hX : Rx X) : Den X rX5_readsRest 4 206 jX5_readsRest_206 := by
  unfold jX5_readsRest_206
  exact Dn_nret C hX dX5_readsRest_206
def jX5_readsRest_205 : mK := i_push (.int 0) (jX5_readsRest_206)
set_option maxRecDepth 20000 in
theorem JX5_readsRest_205 {X : mC} (C : Cx X rX5_readsRest cX5_readsRest 4 RX5 (some FieldType.boolean)) (hX : Rx X) : Den X rX5_readsRest 4 205 jX5_readsRest_205 := by
  unfold jX5_readsRest_205
  refine Dn_iconst (v := 0) (q := 206) C dX5_readsRest_205 (by decide) rfl ?_
  exact JX5_readsRest_206 C hX
def jX5_readsRest_175 : mK := i_nret .boolean
set_option maxRecDepth 20000 in
theorem JX5_readsRest_175 {X : mC} (C : Cx X rX5_readsRest cX5_readsRest 4 RX5 (some FieldType.boolean)) (hX : Rx X) : Den X rX5_readsRest 4 175 jX5_readsRest_175 := by
  unfold jX5_readsRest_175
  exact Dn_nret C hX dX5_readsRest_175
def jX5_readsRest_174 : mK := i_push (.int 0) (jX5_readsRest_175)
set_option maxRecDepth 20000 in
theorem JX5_readsRest_174 {X : mC} (C : Cx X rX5_readsRest cX5_readsRest 4 RX5 (some FieldType.boolean)) (hX : Rx X) : Den X rX5_readsRest 4 174 jX5_readsRest_174 := by
  unfold jX5_readsRest_174
  refine Dn_iconst (v := 0) (q := 175) C dX5_readsRest_174 (by decide) rfl ?_
  exact JX5_readsRest_175 C hX
def jX5_readsRest_143 : mK := i_nret .boolean
set_option maxRecDepth 20000 in
theorem JX5_readsRest_143 {X : mC} (C : Cx X rX5_readsRest cX5_readsRest 4 RX5 (some FieldType.boolean)) (hX : Rx X) : Den X rX5_readsRest 4 143 jX5_readsRest_143 := by
  unfold jX5_readsRest_143
  exact Dn_nret C hX dX5_readsRest_143
def jX5_readsRest_142 : mK := i_push (.int 0) (jX5_readsRest_143)
set_option maxRecDepth 20000 in
theorem JX5_readsRest_142 {X : mC} (C : Cx X rX5_readsRest cX5_readsRest 4 RX5 (some FieldType.boolean)) (hX : Rx X) : Den X rX5_readsRest 4 142 jX5_readsRest_142 := by
  unfold jX5_readsRest_142
  refine Dn_iconst (v := 0) (q := 143) C dX5_readsRest_142 (by decide) rfl ?_
  exact JX5_readsRest_143 C hX
def jX5_readsRest_107 : mK := i_nret .boolean
set_option maxRecDepth 20000 in
theorem JX5_readsRest_107 {X : mC} (C : Cx X rX5_readsRest cX5_readsRest 4 RX5 (some FieldType.boolean)) (hX : Rx X) : Den X rX5_readsRest 4 107 jX5_readsRest_107 := by
  unfold jX5_readsRest_107
  exact Dn_nret C hX dX5_readsRest_107
def jX5_readsRest_106 : mK := i_push (.int 0) (jX5_readsRest_107)
set_option maxRecDepth 20000 in
theorem JX5_readsRest_106 {X : mC} (C : Cx X rX5_readsRest cX5_readsRest 4 RX5 (some FieldType.boolean)) (hX : Rx X) : Den X rX5_readsRest 4 106 jX5_readsRest_106 := by
  unfold jX5_readsRest_106
  refine Dn_iconst (v := 0) (q := 107) C dX5_readsRest_106 (by decide) rfl ?_
  exact JX5_readsRest_107 C hX
def jX5_readsRest : mK := i_push (.int 5) (i_ald 0 (i_get 5 5 (i_ib (fun x y => x * y) (i_push (.int 1) (i_ib (fun x y => x + y) (i_ist 2 (i_ald 0 (i_get 5 18 (i_push (.int 1) (i_ib (fun x y => x - y) (i_ist 3 (i_ild 1 (i_sw 0 11 [i_ald 0 (i_push (.int 0) (i_push (.int 2) (i_push (.int 6) (i_callV 5 3 FX5_reads (i_ifeq (jX5_readsRest_106) (i_ald 0 (i_push (.int 1) (i_push (.int 2) (i_push (.int 6) (i_callV 5 3 FX5_reads (i_ifeq (jX5_readsRest_106) (i_push (.int 1) (jX5_readsRest_107))))))))))))), i_ald 0 (i_push (.int 0) (i_push (.int 1) (i_push (.int 9) (i_callV 5 3 FX5_reads (i_nret .boolean))))), i_ald 0 (i_push (.int 0) (i_push (.int 0) (i_ild 3 (i_callV 5 3 FX5_reads (i_ifeq (jX5_readsRest_142) (i_ald 0 (i_push (.int 1) (i_push (.int 0) (i_push (.int 99) (i_callV 5 3 FX5_reads (i_ifeq (jX5_readsRest_142) (i_push (.int 1) (jX5_readsRest_143))))))))))))), jX5_readsRest_245, jX5_readsRest_245, jX5_readsRest_245, jX5_readsRest_245, i_ald 0 (i_push (.int 0) (i_push (.int 0) (i_ald 0 (i_get 5 19 (i_push (.int 1) (i_ib (fun x y => x - y) (i_callV 5 3 FX5_reads (i_ifeq (jX5_readsRest_174) (i_ald 0 (i_push (.int 1) (i_push (.int 0) (i_push (.int 99) (i_callV 5 3 FX5_reads (i_ifeq (jX5_readsRest_174) (i_push (.int 1) (jX5_readsRest_175)))))))))))))))), i_ald 0 (i_push (.int 0) (i_push (.int 0) (i_ald 0 (i_get 5 19 (i_push (.int 1) (i_ib (fun x y => x - y) (i_callV 5 3 FX5_reads (i_ifeq (jX5_readsRest_205) (i_ald 0 (i_push (.int 1) (i_push (.int 0) (i_push (.int 3) (i_callV 5 3 FX5_reads (i_ifeq (jX5_readsRest_205) (i_push (.int 1) (jX5_readsRest_206)))))))))))))))), i_ald 0 (i_callV 5 0 FX5_readsHedge (i_nret .boolean)), i_ald 0 (i_push (.int 0) (i_push (.int 0) (i_ild 3 (i_callV 5 3 FX5_reads (i_ifeq (jX5_readsRest_241) (i_ald 0 (i_push (.int 1) (i_ald 0 (i_get 5 4 (i_ild 2 (i_iald (i_ild 3 (i_callV 5 3 FX5_reads (i_ifeq (jX5_readsRest_241) (i_push (.int 1) (jX5_readsRest_242)))))))))))))))), i_push (.int 1) (i_nret .boolean)] (jX5_readsRest_245))))))))))))))
def FX5_readsRest : mF := mEnt 4 jX5_readsRest
set_option maxRecDepth 20000 in
theorem kX5_readsRest (l : Launch) (G : va_G) (tg : Nat → ClassId) : Ct l G tg yX5_readsRest cX5_readsRest 4 (some FieldType.boolean) rX5_readsRest FX5_readsRest := by
  refine Ct.of RX5 (by decide) rfl (fun X C hX => ?_)
  unfold jX5_readsRest
  refine Dn_iconst (v := 5) (q := 1) C dX5_readsRest_0 (by decide) rfl ?_
  refine Dn_ald_n (i := 0) (q := 2) C dX5_readsRest_1 rfl rfl ?_
  refine Dn_get (ci := 5) (j := 5) (T := TX5) (N := 25) (Cn := RX5) (q := 5) C rfl iX5 (by decide) q_715 dX5_readsRest_2 rfl ?_
  refine Dn_imul (q := 6) C dX5_readsRest_5 rfl ?_
  refine Dn_iconst (v := 1) (q := 7) C dX5_readsRest_6 (by decide) rfl ?_
  refine Dn_iadd (q := 8) C dX5_readsRest_7 rfl ?_
  refine Dn_ist_n (i := 2) (q := 9) C dX5_readsRest_8 rfl (by decide) rfl ?_
  refine Dn_ald_n (i := 0) (q := 10) C dX5_readsRest_9 rfl rfl ?_
  refine Dn_get (ci := 5) (j := 18) (T := TX5) (N := 25) (Cn := RX5) (q := 13) C rfl iX5 (by decide) q_728 dX5_readsRest_10 rfl ?_
  refine Dn_iconst (v := 1) (q := 14) C dX5_readsRest_13 (by decide) rfl ?_
  refine Dn_isub (q := 15) C dX5_readsRest_14 rfl ?_
  refine Dn_ist_n (i := 3) (q := 16) C dX5_readsRest_15 rfl (by decide) rfl ?_
  refine Dn_ild_n (i := 1) (q := 17) C dX5_readsRest_16 rfl rfl ?_
  refine Dn_sw (td := 245) (ts := [80, 108, 117, 245, 245, 245, 245, 144, 176, 207, 212, 243]) C dX5_readsRest_17 (by decide) (by decide +kernel) rfl ?_ ?_
  · exact JX5_readsRest_245 C hX
  · show DenL _ _ _ _ _
    refine DenL_cons ?_ ?_
    · refine Dn_ald_n (i := 0) (q := 81) C dX5_readsRest_80 rfl rfl ?_
      refine Dn_iconst (v := 0) (q := 82) C dX5_readsRest_81 (by decide) rfl ?_
      refine Dn_iconst (v := 2) (q := 83) C dX5_readsRest_82 (by decide) rfl ?_
      refine Dn_bipush (v := 6) (q := 85) C dX5_readsRest_83 (by decide) rfl ?_
      refine Dn_callV (ci := 5) (T := TX5) (N := 25) (q := 88) C rfl (kX5_reads X.l X.G X.tg) q_851 q_848 q_850 q_20 q_50 ⟨rfl, rfl⟩ (by decide +kernel) ⟨by decide, by decide⟩ dX5_readsRest_85 rfl ?_
      refine Dn_ifeq (t := 106) (q := 91) C dX5_readsRest_88 (by decide) rfl ?_ ?_
      · exact JX5_readsRest_106 C hX
      · refine Dn_ald_n (i := 0) (q := 92) C dX5_readsRest_91 rfl rfl ?_
        refine Dn_iconst (v := 1) (q := 93) C dX5_readsRest_92 (by decide) rfl ?_
        refine Dn_iconst (v := 2) (q := 94) C dX5_readsRest_93 (by decide) rfl ?_
        refine Dn_bipush (v := 6) (q := 96) C dX5_readsRest_94 (by decide) rfl ?_
        refine Dn_callV (ci := 5) (T := TX5) (N := 25) (q := 99) C rfl (kX5_reads X.l X.G X.tg) q_851 q_848 q_850 q_20 q_50 ⟨rfl, rfl⟩ (by decide +kernel) ⟨by decide, by decide⟩ dX5_readsRest_96 rfl ?_
        refine Dn_ifeq (t := 106) (q := 102) C dX5_readsRest_99 (by decide) rfl ?_ ?_
        · exact JX5_readsRest_106 C hX
        · refine Dn_iconst (v := 1) (q := 103) C dX5_readsRest_102 (by decide) rfl ?_
          refine Dn_goto (t := 107) C dX5_readsRest_103 (by decide) ?_
          exact JX5_readsRest_107 C hX
    refine DenL_cons ?_ ?_
    · refine Dn_ald_n (i := 0) (q := 109) C dX5_readsRest_108 rfl rfl ?_
      refine Dn_iconst (v := 0) (q := 110) C dX5_readsRest_109 (by decide) rfl ?_
      refine Dn_iconst (v := 1) (q := 111) C dX5_readsRest_110 (by decide) rfl ?_
      refine Dn_bipush (v := 9) (q := 113) C dX5_readsRest_111 (by decide) rfl ?_
      refine Dn_callV (ci := 5) (T := TX5) (N := 25) (q := 116) C rfl (kX5_reads X.l X.G X.tg) q_851 q_848 q_850 q_20 q_50 ⟨rfl, rfl⟩ (by decide +kernel) ⟨by decide, by decide⟩ dX5_readsRest_113 rfl ?_
      exact Dn_nret C hX dX5_readsRest_116
    refine DenL_cons ?_ ?_
    · refine Dn_ald_n (i := 0) (q := 118) C dX5_readsRest_117 rfl rfl ?_
      refine Dn_iconst (v := 0) (q := 119) C dX5_readsRest_118 (by decide) rfl ?_
      refine Dn_iconst (v := 0) (q := 120) C dX5_readsRest_119 (by decide) rfl ?_
      refine Dn_ild_n (i := 3) (q := 121) C dX5_readsRest_120 rfl rfl ?_
      refine Dn_callV (ci := 5) (T := TX5) (N := 25) (q := 124) C rfl (kX5_reads X.l X.G X.tg) q_851 q_848 q_850 q_20 q_50 ⟨rfl, rfl⟩ (by decide +kernel) ⟨by decide, by decide⟩ dX5_readsRest_121 rfl ?_
      refine Dn_ifeq (t := 142) (q := 127) C dX5_readsRest_124 (by decide) rfl ?_ ?_
      · exact JX5_readsRest_142 C hX
      · refine Dn_ald_n (i := 0) (q := 128) C dX5_readsRest_127 rfl rfl ?_
        refine Dn_iconst (v := 1) (q := 129) C dX5_readsRest_128 (by decide) rfl ?_
        refine Dn_iconst (v := 0) (q := 130) C dX5_readsRest_129 (by decide) rfl ?_
        refine Dn_bipush (v := 99) (q := 132) C dX5_readsRest_130 (by decide) rfl ?_
        refine Dn_callV (ci := 5) (T := TX5) (N := 25) (q := 135) C rfl (kX5_reads X.l X.G X.tg) q_851 q_848 q_850 q_20 q_50 ⟨rfl, rfl⟩ (by decide +kernel) ⟨by decide, by decide⟩ dX5_readsRest_132 rfl ?_
        refine Dn_ifeq (t := 142) (q := 138) C dX5_readsRest_135 (by decide) rfl ?_ ?_
        · exact JX5_readsRest_142 C hX
        · refine Dn_iconst (v := 1) (q := 139) C dX5_readsRest_138 (by decide) rfl ?_
          refine Dn_goto (t := 143) C dX5_readsRest_139 (by decide) ?_
          exact JX5_readsRest_143 C hX
    refine DenL_cons ?_ ?_
    · exact JX5_readsRest_245 C hX
    refine DenL_cons ?_ ?_
    · exact JX5_readsRest_245 C hX
    refine DenL_cons ?_ ?_
    · exact JX5_readsRest_245 C hX
    refine DenL_cons ?_ ?_
    · exact JX5_readsRest_245 C hX
    refine DenL_cons ?_ ?_
    · refine Dn_ald_n (i := 0) (q := 145) C dX5_readsRest_144 rfl rfl ?_
      refine Dn_iconst (v := 0) (q := 146) C dX5_readsRest_145 (by decide) rfl ?_
      refine Dn_iconst (v := 0) (q := 147) C dX5_readsRest_146 (by decide) rfl ?_
      refine Dn_ald_n (i := 0) (q := 148) C dX5_readsRest_147 rfl rfl ?_
      refine Dn_get (ci := 5) (j := 19) (T := TX5) (N := 25) (Cn := RX5) (q := 151) C rfl iX5 (by decide) q_729 dX5_readsRest_148 rfl ?_
      refine Dn_iconst (v := 1) (q := 152) C dX5_readsRest_151 (by decide) rfl ?_
      refine Dn_isub (q := 153) C dX5_readsRest_152 rfl ?_
      refine Dn_callV (ci := 5) (T := TX5) (N := 25) (q := 156) C rfl (kX5_reads X.l X.G X.tg) q_851 q_848 q_850 q_20 q_50 ⟨rfl, rfl⟩ (by decide +kernel) ⟨by decide, by decide⟩ dX5_readsRest_153 rfl ?_
      refine Dn_ifeq (t := 174) (q := 159) C dX5_readsRest_156 (by decide) rfl ?_ ?_
      · exact JX5_readsRest_174 C hX
      · refine Dn_ald_n (i := 0) (q := 160) C dX5_readsRest_159 rfl rfl ?_
        refine Dn_iconst (v := 1) (q := 161) C dX5_readsRest_160 (by decide) rfl ?_
        refine Dn_iconst (v := 0) (q := 162) C dX5_readsRest_161 (by decide) rfl ?_
        refine Dn_bipush (v := 99) (q := 164) C dX5_readsRest_162 (by decide) rfl ?_
        refine Dn_callV (ci := 5) (T := TX5) (N := 25) (q := 167) C rfl (kX5_reads X.l X.G X.tg) q_851 q_848 q_850 q_20 q_50 ⟨rfl, rfl⟩ (by decide +kernel) ⟨by decide, by decide⟩ dX5_readsRest_164 rfl ?_
        refine Dn_ifeq (t := 174) (q := 170) C dX5_readsRest_167 (by decide) rfl ?_ ?_
        · exact JX5_readsRest_174 C hX
        · refine Dn_iconst (v := 1) (q := 171) C dX5_readsRest_170 (by decide) rfl ?_
          refine Dn_goto (t := 175) C dX5_readsRest_171 (by decide) ?_
          exact JX5_readsRest_175 C hX
    refine DenL_cons ?_ ?_
    · refine Dn_ald_n (i := 0) (q := 177) C dX5_readsRest_176 rfl rfl ?_
      refine Dn_iconst (v := 0) (q := 178) C dX5_readsRest_177 (by decide) rfl ?_
      refine Dn_iconst (v := 0) (q := 179) C dX5_readsRest_178 (by decide) rfl ?_
      refine Dn_ald_n (i := 0) (q := 180) C dX5_readsRest_179 rfl rfl ?_
      refine Dn_get (ci := 5) (j := 19) (T := TX5) (N := 25) (Cn := RX5) (q := 183) C rfl iX5 (by decide) q_729 dX5_readsRest_180 rfl ?_
      refine Dn_iconst (v := 1) (q := 184) C dX5_readsRest_183 (by decide) rfl ?_
      refine Dn_isub (q := 185) C dX5_readsRest_184 rfl ?_
      refine Dn_callV (ci := 5) (T := TX5) (N := 25) (q := 188) C rfl (kX5_reads X.l X.G X.tg) q_851 q_848 q_850 q_20 q_50 ⟨rfl, rfl⟩ (by decide +kernel) ⟨by decide, by decide⟩ dX5_readsRest_185 rfl ?_
      refine Dn_ifeq (t := 205) (q := 191) C dX5_readsRest_188 (by decide) rfl ?_ ?_
      · exact JX5_readsRest_205 C hX
      · refine Dn_ald_n (i := 0) (q := 192) C dX5_readsRest_191 rfl rfl ?_
        refine Dn_iconst (v := 1) (q := 193) C dX5_readsRest_192 (by decide) rfl ?_
        refine Dn_iconst (v := 0) (q := 194) C dX5_readsRest_193 (by decide) rfl ?_
        refine Dn_iconst (v := 3) (q := 195) C dX5_readsRest_194 (by decide) rfl ?_
        refine Dn_callV (ci := 5) (T := TX5) (N := 25) (q := 198) C rfl (kX5_reads X.l X.G X.tg) q_851 q_848 q_850 q_20 q_50 ⟨rfl, rfl⟩ (by decide +kernel) ⟨by decide, by decide⟩ dX5_readsRest_195 rfl ?_
        refine Dn_ifeq (t := 205) (q := 201) C dX5_readsRest_198 (by decide) rfl ?_ ?_
        · exact JX5_readsRest_205 C hX
        · refine Dn_iconst (v := 1) (q := 202) C dX5_readsRest_201 (by decide) rfl ?_
          refine Dn_goto (t := 206) C dX5_readsRest_202 (by decide) ?_
          exact JX5_readsRest_206 C hX
    refine DenL_cons ?_ ?_
    · refine Dn_ald_n (i := 0) (q := 208) C dX5_readsRest_207 rfl rfl ?_
      refine Dn_callV (ci := 5) (T := TX5) (N := 25) (q := 211) C rfl (kX5_readsHedge X.l X.G X.tg) q_859 q_856 q_858 q_22 q_50 ⟨rfl, rfl⟩ (by decide +kernel) ⟨by decide, by decide⟩ dX5_readsRest_208 rfl ?_
      exact Dn_nret C hX dX5_readsRest_211
    refine DenL_cons ?_ ?_
    · refine Dn_ald_n (i := 0) (q := 213) C dX5_readsRest_212 rfl rfl ?_
      refine Dn_iconst (v := 0) (q := 214) C dX5_readsRest_213 (by decide) rfl ?_
      refine Dn_iconst (v := 0) (q := 215) C dX5_readsRest_214 (by decide) rfl ?_
      refine Dn_ild_n (i := 3) (q := 216) C dX5_readsRest_215 rfl rfl ?_
      refine Dn_callV (ci := 5) (T := TX5) (N := 25) (q := 219) C rfl (kX5_reads X.l X.G X.tg) q_851 q_848 q_850 q_20 q_50 ⟨rfl, rfl⟩ (by decide +kernel) ⟨by decide, by decide⟩ dX5_readsRest_216 rfl ?_
      refine Dn_ifeq (t := 241) (q := 222) C dX5_readsRest_219 (by decide) rfl ?_ ?_
      · exact JX5_readsRest_241 C hX
      · refine Dn_ald_n (i := 0) (q := 223) C dX5_readsRest_222 rfl rfl ?_
        refine Dn_iconst (v := 1) (q := 224) C dX5_readsRest_223 (by decide) rfl ?_
        refine Dn_ald_n (i := 0) (q := 225) C dX5_readsRest_224 rfl rfl ?_
        refine Dn_get (ci := 5) (j := 4) (T := TX5) (N := 25) (Cn := RX5) (q := 228) C rfl iX5 (by decide) q_714 dX5_readsRest_225 rfl ?_
        refine Dn_ild_n (i := 2) (q := 229) C dX5_readsRest_228 rfl rfl ?_
        refine Dn_iald (q := 230) C dX5_readsRest_229 rfl ?_
        refine Dn_ild_n (i := 3) (q := 231) C dX5_readsRest_230 rfl rfl ?_
        refine Dn_callV (ci := 5) (T := TX5) (N := 25) (q := 234) C rfl (kX5_reads X.l X.G X.tg) q_851 q_848 q_850 q_20 q_50 ⟨rfl, rfl⟩ (by decide +kernel) ⟨by decide, by decide⟩ dX5_readsRest_231 rfl ?_
        refine Dn_ifeq (t := 241) (q := 237) C dX5_readsRest_234 (by decide) rfl ?_ ?_
        · exact JX5_readsRest_241 C hX
        · refine Dn_iconst (v := 1) (q := 238) C dX5_readsRest_237 (by decide) rfl ?_
          refine Dn_goto (t := 242) C dX5_readsRest_238 (by decide) ?_
          exact JX5_readsRest_242 C hX
    refine DenL_cons ?_ ?_
    · refine Dn_iconst (v := 1) (q := 244) C dX5_readsRest_243 (by decide) rfl ?_
      exact Dn_nret C hX dX5_readsRest_244
    exact DenL_nil
abbrev rX5_isBandWord : Room := ({ frames := 1, cells := 0, slots := 0, locals := 25 } : Room)
def jX5_isBandWord : mK := i_ild 0 (i_i2l (i_push (.long 3) (i_push (.long 6) (i_call 3 FX5_in (i_nret .boolean)))))
def FX5_isBandWord : mF := mEnt 1 jX5_isBandWord
set_option maxRecDepth 20000 in
theorem kX5_isBandWord (l : Launch) (G : va_G) (tg : Nat → ClassId) : Ct l G tg yX5_isBandWord cX5_isBandWord 1 (some FieldType.boolean) rX5_isBandWord FX5_isBandWord := by
  refine Ct.of RX5 (by decide) rfl (fun X C hX => ?_)
  unfold jX5_isBandWord
  refine Dn_ild_n (i := 0) (q := 1) C dX5_isBandWord_0 rfl rfl ?_
  refine Dn_i2l (q := 2) C dX5_isBandWord_1 rfl ?_
  refine Dn_ldc2 (q := 5) C dX5_isBandWord_2 q_842 rfl ?_
  refine Dn_ldc2 (q := 8) C dX5_isBandWord_5 q_843 rfl ?_
  refine Dn_callS (q := 11) C (kX5_in X.l X.G X.tg) q_794 q_792 q_793 q_50 ⟨rfl, rfl⟩ (by decide +kernel) ⟨by decide, by decide⟩ dX5_isBandWord_8 rfl ?_
  exact Dn_nret C hX dX5_isBandWord_11
abbrev rX5_readsLine : Room := ({ frames := 5, cells := 0, slots := 0, locals := 110 } : Room)
def jX5_readsLine_166 : mK := i_puti 5 19 (i_ald 0 (i_dup (i_get 5 5 (i_push (.int 1) (i_ib (fun x y => x + y) (i_puti 5 5 (i_push (.int 1) (i_nret .boolean))))))))
set_option maxRecDepth 20000 in
theorem JX5_readsLine_166 {X : mC} (C : Cx X rX5_readsLine cX5_readsLine 3 RX5 (some FieldType.boolean)) (hX : Rx X) : Den X rX5_readsLine 3 166 jX5_readsLine_166 := by
  unfold jX5_readsLine_166
  refine Dn_puti (ci := 5) (j := 19) (T := TX5) (N := 25) (Cn := RX5) (q := 169) C rfl iX5 tyX5 tyX5_ok nmX5 (by decide) q_729 rfl (by decide +kernel) dX5_readsLine_166 rfl ?_
  refine Dn_ald_n (i := 0) (q := 170) C dX5_readsLine_169 rfl rfl ?_
  refine Dn_dup (q := 171) C dX5_readsLine_170 rfl ?_
  refine Dn_get (ci := 5) (j := 5) (T := TX5) (N := 25) (Cn := RX5) (q := 174) C rfl iX5 (by decide) q_715 dX5_readsLine_171 rfl ?_
  refine Dn_iconst (v := 1) (q := 175) C dX5_readsLine_174 (by decide) rfl ?_
  refine Dn_iadd (q := 176) C dX5_readsLine_175 rfl ?_
  refine Dn_puti (ci := 5) (j := 5) (T := TX5) (N := 25) (Cn := RX5) (q := 179) C rfl iX5 tyX5 tyX5_ok nmX5 (by decide) q_715 rfl (by decide +kernel) dX5_readsLine_176 rfl ?_
  refine Dn_iconst (v := 1) (q := 180) C dX5_readsLine_179 (by decide) rfl ?_
  exact Dn_nret C hX dX5_readsLine_180
def jX5_readsLine_142 : mK := i_push (.int 0) (jX5_readsLine_166)
set_option maxRecDepth 20000 in
theorem JX5_readsLine_142 {X : mC} (C : Cx X rX5_readsLine cX5_readsLine 3 RX5 (some FieldType.boolean)) (hX : Rx X) : Den X rX5_readsLine 3 142 jX5_readsLine_142 := by
  unfold jX5_readsLine_142
  refine Dn_iconst (v := 0) (q := 143) C dX5_readsLine_142 (by decide) rfl ?_
  refine Dn_goto (t := 166) C dX5_readsLine_143 (by decide) ?_
  exact JX5_readsLine_166 C hX
def jX5_readsLine_128 : mK := i_putl 5 20 (i_ald 0 (i_ild 1 (i_ifeq (jX5_readsLine_142) (i_ild 1 (i_push (.int 11) (i_icne (i_ild 1 (i_call 1 FX5_isBandWord (i_ifeq (i_ald 0 (i_get 5 19 (jX5_readsLine_166))) (i_ald 0 (i_get 5 19 (i_push (.int 1) (i_ib (fun x y => x + y) (jX5_readsLine_166)))))))) (jX5_readsLine_142)))))))
set_option maxRecDepth 20000 in
theorem JX5_readsLine_128 {X : mC} (C : Cx X rX5_readsLine cX5_readsLine 3 RX5 (some FieldType.boolean)) (hX : Rx X) : Den X rX5_readsLine 3 128 jX5_readsLine_128 := by
  unfold jX5_readsLine_128
  refine Dn_putl (ci := 5) (j := 20) (T := TX5) (N := 25) (Cn := RX5) (q := 131) C rfl iX5 tyX5 tyX5_ok nmX5 (by decide) q_730 rfl (by decide +kernel) dX5_readsLine_128 rfl ?_
  refine Dn_ald_n (i := 0) (q := 132) C dX5_readsLine_131 rfl rfl ?_
  refine Dn_ild_n (i := 1) (q := 133) C dX5_readsLine_132 rfl rfl ?_
  refine Dn_ifeq (t := 142) (q := 136) C dX5_readsLine_133 (by decide) rfl ?_ ?_
  · exact JX5_readsLine_142 C hX
  · refine Dn_ild_n (i := 1) (q := 137) C dX5_readsLine_136 rfl rfl ?_
    refine Dn_bipush (v := 11) (q := 139) C dX5_readsLine_137 (by decide) rfl ?_
    refine Dn_icne (t := 146) (q := 142) C dX5_readsLine_139 (by decide) rfl ?_ ?_
    · refine Dn_ild_n (i := 1) (q := 147) C dX5_readsLine_146 rfl rfl ?_
      refine Dn_callS (q := 150) C (kX5_isBandWord X.l X.G X.tg) q_841 q_839 q_840 q_50 ⟨rfl, rfl⟩ (by decide +kernel) ⟨by decide, by decide⟩ dX5_readsLine_147 rfl ?_
      refine Dn_ifeq (t := 162) (q := 153) C dX5_readsLine_150 (by decide) rfl ?_ ?_
      · refine Dn_ald_n (i := 0) (q := 163) C dX5_readsLine_162 rfl rfl ?_
        refine Dn_get (ci := 5) (j := 19) (T := TX5) (N := 25) (Cn := RX5) (q := 166) C rfl iX5 (by decide) q_729 dX5_readsLine_163 rfl ?_
        exact JX5_readsLine_166 C hX
      · refine Dn_ald_n (i := 0) (q := 154) C dX5_readsLine_153 rfl rfl ?_
        refine Dn_get (ci := 5) (j := 19) (T := TX5) (N := 25) (Cn := RX5) (q := 157) C rfl iX5 (by decide) q_729 dX5_readsLine_154 rfl ?_
        refine Dn_iconst (v := 1) (q := 158) C dX5_readsLine_157 (by decide) rfl ?_
        refine Dn_iadd (q := 159) C dX5_readsLine_158 rfl ?_
        refine Dn_goto (t := 166) C dX5_readsLine_159 (by decide) ?_
        exact JX5_readsLine_166 C hX
    · exact JX5_readsLine_142 C hX
def jX5_readsLine_95 : mK := i_puti 5 18 (i_ald 0 (i_ild 1 (i_ifne (i_ild 1 (i_push (.int 9) (i_icne (i_ald 0 (i_get 5 20 (jX5_readsLine_128))) (i_ald 0 (i_get 5 20 (i_push (.long 1) (i_ild 2 (i_ls (fun x y => x <<< (y.toInt64 &&& 63)) (i_lb (fun x y => x ||| y) (jX5_readsLine_128)))))))))) (i_push (.long 0) (jX5_readsLine_128)))))
set_option maxRecDepth 20000 in
theorem JX5_readsLine_95 {X : mC} (C : Cx X rX5_readsLine cX5_readsLine 3 RX5 (some FieldType.boolean)) (hX : Rx X) : Den X rX5_readsLine 3 95 jX5_readsLine_95 := by
  unfold jX5_readsLine_95
  refine Dn_puti (ci := 5) (j := 18) (T := TX5) (N := 25) (Cn := RX5) (q := 98) C rfl iX5 tyX5 tyX5_ok nmX5 (by decide) q_728 rfl (by decide +kernel) dX5_readsLine_95 rfl ?_
  refine Dn_ald_n (i := 0) (q := 99) C dX5_readsLine_98 rfl rfl ?_
  refine Dn_ild_n (i := 1) (q := 100) C dX5_readsLine_99 rfl rfl ?_
  refine Dn_ifne (t := 107) (q := 103) C dX5_readsLine_100 (by decide) rfl ?_ ?_
  · refine Dn_ild_n (i := 1) (q := 108) C dX5_readsLine_107 rfl rfl ?_
    refine Dn_bipush (v := 9) (q := 110) C dX5_readsLine_108 (by decide) rfl ?_
    refine Dn_icne (t := 124) (q := 113) C dX5_readsLine_110 (by decide) rfl ?_ ?_
    · refine Dn_ald_n (i := 0) (q := 125) C dX5_readsLine_124 rfl rfl ?_
      refine Dn_get (ci := 5) (j := 20) (T := TX5) (N := 25) (Cn := RX5) (q := 128) C rfl iX5 (by decide) q_730 dX5_readsLine_125 rfl ?_
      exact JX5_readsLine_128 C hX
    · refine Dn_ald_n (i := 0) (q := 114) C dX5_readsLine_113 rfl rfl ?_
      refine Dn_get (ci := 5) (j := 20) (T := TX5) (N := 25) (Cn := RX5) (q := 117) C rfl iX5 (by decide) q_730 dX5_readsLine_114 rfl ?_
      refine Dn_lconst (v := 1) (q := 118) C dX5_readsLine_117 (by decide) rfl ?_
      refine Dn_ild_n (i := 2) (q := 119) C dX5_readsLine_118 rfl rfl ?_
      refine Dn_lshl (q := 120) C dX5_readsLine_119 rfl ?_
      refine Dn_lor (q := 121) C dX5_readsLine_120 rfl ?_
      refine Dn_goto (t := 128) C dX5_readsLine_121 (by decide) ?_
      exact JX5_readsLine_128 C hX
  · refine Dn_lconst (v := 0) (q := 104) C dX5_readsLine_103 (by decide) rfl ?_
    refine Dn_goto (t := 128) C dX5_readsLine_104 (by decide) ?_
    exact JX5_readsLine_128 C hX
def jX5_readsLine_28 : mK := i_ald 0 (i_callV 5 0 FX5_token (i_ald 0 (i_get 5 4 (i_push (.int 5) (i_ald 0 (i_get 5 5 (i_ib (fun x y => x * y) (i_ild 1 (i_iast (i_ald 0 (i_ild 1 (i_callV 5 1 FX5_readsRest (i_ifne (i_ald 0 (i_get 5 4 (i_push (.int 5) (i_ald 0 (i_get 5 5 (i_ib (fun x y => x * y) (i_push (.int 1) (i_ib (fun x y => x + y) (i_iald (i_ist 2 (i_ald 0 (i_ild 1 (i_ifne (i_ald 0 (i_get 5 18 (jX5_readsLine_95))) (i_ild 2 (i_ald 0 (i_get 5 4 (i_push (.int 5) (i_ald 0 (i_get 5 5 (i_ib (fun x y => x * y) (i_push (.int 2) (i_ib (fun x y => x + y) (i_iald (i_ib (fun x y => x * y) (jX5_readsLine_95))))))))))))))))))))))))) (i_push (.int 0) (i_nret .boolean)))))))))))))))
set_option maxRecDepth 20000 in
theorem JX5_readsLine_28 {X : mC} (C : Cx X rX5_readsLine cX5_readsLine 3 RX5 (some FieldType.boolean)) (hX : Rx X) : Den X rX5_readsLine 3 28 jX5_readsLine_28 := by
  unfold jX5_readsLine_28
  refine Dn_ald_n (i := 0) (q := 29) C dX5_readsLine_28 rfl rfl ?_
  refine Dn_callV (ci := 5) (T := TX5) (N := 25) (q := 32) C rfl (kX5_token X.l X.G X.tg) q_807 q_804 q_806 q_14 q_50 ⟨rfl, rfl⟩ (by decide +kernel) ⟨by decide, by decide⟩ dX5_readsLine_29 rfl ?_
  refine Dn_ald_n (i := 0) (q := 33) C dX5_readsLine_32 rfl rfl ?_
  refine Dn_get (ci := 5) (j := 4) (T := TX5) (N := 25) (Cn := RX5) (q := 36) C rfl iX5 (by decide) q_714 dX5_readsLine_33 rfl ?_
  refine Dn_iconst (v := 5) (q := 37) C dX5_readsLine_36 (by decide) rfl ?_
  refine Dn_ald_n (i := 0) (q := 38) C dX5_readsLine_37 rfl rfl ?_
  refine Dn_get (ci := 5) (j := 5) (T := TX5) (N := 25) (Cn := RX5) (q := 41) C rfl iX5 (by decide) q_715 dX5_readsLine_38 rfl ?_
  refine Dn_imul (q := 42) C dX5_readsLine_41 rfl ?_
  refine Dn_ild_n (i := 1) (q := 43) C dX5_readsLine_42 rfl rfl ?_
  refine Dn_iast (q := 44) C dX5_readsLine_43 rfl ?_
  refine Dn_ald_n (i := 0) (q := 45) C dX5_readsLine_44 rfl rfl ?_
  refine Dn_ild_n (i := 1) (q := 46) C dX5_readsLine_45 rfl rfl ?_
  refine Dn_callV (ci := 5) (T := TX5) (N := 25) (q := 49) C rfl (kX5_readsRest X.l X.G X.tg) q_847 q_844 q_846 q_19 q_50 ⟨rfl, rfl⟩ (by decide +kernel) ⟨by decide, by decide⟩ dX5_readsLine_46 rfl ?_
  refine Dn_ifne (t := 54) (q := 52) C dX5_readsLine_49 (by decide) rfl ?_ ?_
  · refine Dn_ald_n (i := 0) (q := 55) C dX5_readsLine_54 rfl rfl ?_
    refine Dn_get (ci := 5) (j := 4) (T := TX5) (N := 25) (Cn := RX5) (q := 58) C rfl iX5 (by decide) q_714 dX5_readsLine_55 rfl ?_
    refine Dn_iconst (v := 5) (q := 59) C dX5_readsLine_58 (by decide) rfl ?_
    refine Dn_ald_n (i := 0) (q := 60) C dX5_readsLine_59 rfl rfl ?_
    refine Dn_get (ci := 5) (j := 5) (T := TX5) (N := 25) (Cn := RX5) (q := 63) C rfl iX5 (by decide) q_715 dX5_readsLine_60 rfl ?_
    refine Dn_imul (q := 64) C dX5_readsLine_63 rfl ?_
    refine Dn_iconst (v := 1) (q := 65) C dX5_readsLine_64 (by decide) rfl ?_
    refine Dn_iadd (q := 66) C dX5_readsLine_65 rfl ?_
    refine Dn_iald (q := 67) C dX5_readsLine_66 rfl ?_
    refine Dn_ist_n (i := 2) (q := 68) C dX5_readsLine_67 rfl (by decide) rfl ?_
    refine Dn_ald_n (i := 0) (q := 69) C dX5_readsLine_68 rfl rfl ?_
    refine Dn_ild_n (i := 1) (q := 70) C dX5_readsLine_69 rfl rfl ?_
    refine Dn_ifne (t := 91) (q := 73) C dX5_readsLine_70 (by decide) rfl ?_ ?_
    · refine Dn_ald_n (i := 0) (q := 92) C dX5_readsLine_91 rfl rfl ?_
      refine Dn_get (ci := 5) (j := 18) (T := TX5) (N := 25) (Cn := RX5) (q := 95) C rfl iX5 (by decide) q_728 dX5_readsLine_92 rfl ?_
      exact JX5_readsLine_95 C hX
    · refine Dn_ild_n (i := 2) (q := 74) C dX5_readsLine_73 rfl rfl ?_
      refine Dn_ald_n (i := 0) (q := 75) C dX5_readsLine_74 rfl rfl ?_
      refine Dn_get (ci := 5) (j := 4) (T := TX5) (N := 25) (Cn := RX5) (q := 78) C rfl iX5 (by decide) q_714 dX5_readsLine_75 rfl ?_
      refine Dn_iconst (v := 5) (q := 79) C dX5_readsLine_78 (by decide) rfl ?_
      refine Dn_ald_n (i := 0) (q := 80) C dX5_readsLine_79 rfl rfl ?_
      refine Dn_get (ci := 5) (j := 5) (T := TX5) (N := 25) (Cn := RX5) (q := 83) C rfl iX5 (by decide) q_715 dX5_readsLine_80 rfl ?_
      refine Dn_imul (q := 84) C dX5_readsLine_83 rfl ?_
      refine Dn_iconst (v := 2) (q := 85) C dX5_readsLine_84 (by decide) rfl ?_
      refine Dn_iadd (q := 86) C dX5_readsLine_85 rfl ?_
      refine Dn_iald (q := 87) C dX5_readsLine_86 rfl ?_
      refine Dn_imul (q := 88) C dX5_readsLine_87 rfl ?_
      refine Dn_goto (t := 95) C dX5_readsLine_88 (by decide) ?_
      exact JX5_readsLine_95 C hX
  · refine Dn_iconst (v := 0) (q := 53) C dX5_readsLine_52 (by decide) rfl ?_
    exact Dn_nret C hX dX5_readsLine_53
def jX5_readsLine_26 : mK := i_push (.int 0) (i_nret .boolean)
set_option maxRecDepth 20000 in
theorem JX5_readsLine_26 {X : mC} (C : Cx X rX5_readsLine cX5_readsLine 3 RX5 (some FieldType.boolean)) (hX : Rx X) : Den X rX5_readsLine 3 26 jX5_readsLine_26 := by
  unfold jX5_readsLine_26
  refine Dn_iconst (v := 0) (q := 27) C dX5_readsLine_26 (by decide) rfl ?_
  exact Dn_nret C hX dX5_readsLine_27
def jX5_readsLine : mK := i_ald 0 (i_callV 5 0 FX5_wordOf (i_ist 1 (i_ild 1 (i_push (.int (-1)) (i_iceq (jX5_readsLine_26) (i_ild 1 (i_call 1 FX5_isBandWord (i_ifeq (jX5_readsLine_28) (i_ald 0 (i_get 5 19 (i_push (.int 6) (i_icne (jX5_readsLine_28) (jX5_readsLine_26)))))))))))))
def FX5_readsLine : mF := mEnt 3 jX5_readsLine
set_option maxRecDepth 20000 in
theorem kX5_readsLine (l : Launch) (G : va_G) (tg : Nat → ClassId) : Ct l G tg yX5_readsLine cX5_readsLine 3 (some FieldType.boolean) rX5_readsLine FX5_readsLine := by
  refine Ct.of RX5 (by decide) rfl (fun X C hX => ?_)
  unfold jX5_readsLine
  refine Dn_ald_n (i := 0) (q := 1) C dX5_readsLine_0 rfl rfl ?_
  refine Dn_callV (ci := 5) (T := TX5) (N := 25) (q := 4) C rfl (kX5_wordOf X.l X.G X.tg) q_818 q_815 q_817 q_16 q_50 ⟨rfl, rfl⟩ (by decide +kernel) ⟨by decide, by decide⟩ dX5_readsLine_1 rfl ?_
  refine Dn_ist_n (i := 1) (q := 5) C dX5_readsLine_4 rfl (by decide) rfl ?_
  refine Dn_ild_n (i := 1) (q := 6) C dX5_readsLine_5 rfl rfl ?_
  refine Dn_iconst (v := (-1)) (q := 7) C dX5_readsLine_6 (by decide) rfl ?_
  refine Dn_iceq (t := 26) (q := 10) C dX5_readsLine_7 (by decide) rfl ?_ ?_
  · exact JX5_readsLine_26 C hX
  · refine Dn_ild_n (i := 1) (q := 11) C dX5_readsLine_10 rfl rfl ?_
    refine Dn_callS (q := 14) C (kX5_isBandWord X.l X.G X.tg) q_841 q_839 q_840 q_50 ⟨rfl, rfl⟩ (by decide +kernel) ⟨by decide, by decide⟩ dX5_readsLine_11 rfl ?_
    refine Dn_ifeq (t := 28) (q := 17) C dX5_readsLine_14 (by decide) rfl ?_ ?_
    · exact JX5_readsLine_28 C hX
    · refine Dn_ald_n (i := 0) (q := 18) C dX5_readsLine_17 rfl rfl ?_
      refine Dn_get (ci := 5) (j := 19) (T := TX5) (N := 25) (Cn := RX5) (q := 21) C rfl iX5 (by decide) q_729 dX5_readsLine_18 rfl ?_
      refine Dn_bipush (v := 6) (q := 23) C dX5_readsLine_21 (by decide) rfl ?_
      refine Dn_icne (t := 28) (q := 26) C dX5_readsLine_23 (by decide) rfl ?_ ?_
      · exact JX5_readsLine_28 C hX
      · exact JX5_readsLine_26 C hX
abbrev rX5_fault : Room := ({ frames := 6, cells := 0, slots := 0, locals := 132 } : Room)
def jX5_fault_121 (B55 : mK) : mK := i_ild 1 (i_ifne (B55) (i_ald 0 (i_get 5 16 (i_iret))))
set_option maxRecDepth 20000 in
theorem JX5_fault_121 {X : mC} (C : Cx X rX5_fault cX5_fault 2 RX5 (some FieldType.int)) (hX : Rx X) (B55 : mK) (hB55 : Den X rX5_fault 2 55 B55) : Den X rX5_fault 2 121 (jX5_fault_121 B55) := by
  unfold jX5_fault_121
  refine Dn_ild_n (i := 1) (q := 122) C dX5_fault_121 rfl rfl ?_
  refine Dn_ifne (t := 130) (q := 125) C dX5_fault_122 (by decide) rfl ?_ ?_
  · refine Dn_goto (t := 55) C dX5_fault_130 (by decide) ?_
    exact hB55
  · refine Dn_ald_n (i := 0) (q := 126) C dX5_fault_125 rfl rfl ?_
    refine Dn_get (ci := 5) (j := 16) (T := TX5) (N := 25) (Cn := RX5) (q := 129) C rfl iX5 (by decide) q_726 dX5_fault_126 rfl ?_
    exact Dn_iret C hX dX5_fault_129
def jX5_fault_107 (B55 : mK) : mK := i_ist 1 (i_ild 1 (i_ifeq ((jX5_fault_121 B55)) (i_ald 0 (i_callV 5 0 FX5_token (i_ald 0 (i_callV 5 0 FX5_readsLine (i_ist 1 ((jX5_fault_121 B55)))))))))
set_option maxRecDepth 20000 in
theorem JX5_fault_107 {X : mC} (C : Cx X rX5_fault cX5_fault 2 RX5 (some FieldType.int)) (hX : Rx X) (B55 : mK) (hB55 : Den X rX5_fault 2 55 B55) : Den X rX5_fault 2 107 (jX5_fault_107 B55) := by
  unfold jX5_fault_107
  refine Dn_ist_n (i := 1) (q := 108) C dX5_fault_107 rfl (by decide) rfl ?_
  refine Dn_ild_n (i := 1) (q := 109) C dX5_fault_108 rfl rfl ?_
  refine Dn_ifeq (t := 121) (q := 112) C dX5_fault_109 (by decide) rfl ?_ ?_
  · exact JX5_fault_121 C hX B55 hB55
  · refine Dn_ald_n (i := 0) (q := 113) C dX5_fault_112 rfl rfl ?_
    refine Dn_callV (ci := 5) (T := TX5) (N := 25) (q := 116) C rfl (kX5_token X.l X.G X.tg) q_807 q_804 q_806 q_14 q_50 ⟨rfl, rfl⟩ (by decide +kernel) ⟨by decide, by decide⟩ dX5_fault_113 rfl ?_
    refine Dn_ald_n (i := 0) (q := 117) C dX5_fault_116 rfl rfl ?_
    refine Dn_callV (ci := 5) (T := TX5) (N := 25) (q := 120) C rfl (kX5_readsLine X.l X.G X.tg) q_814 q_811 q_813 q_15 q_50 ⟨rfl, rfl⟩ (by decide +kernel) ⟨by decide, by decide⟩ dX5_fault_117 rfl ?_
    refine Dn_ist_n (i := 1) (q := 121) C dX5_fault_120 rfl (by decide) rfl ?_
    exact JX5_fault_121 C hX B55 hB55
def jX5_fault_106 (B55 : mK) : mK := i_push (.int 0) ((jX5_fault_107 B55))
set_option maxRecDepth 20000 in
theorem JX5_fault_106 {X : mC} (C : Cx X rX5_fault cX5_fault 2 RX5 (some FieldType.int)) (hX : Rx X) (B55 : mK) (hB55 : Den X rX5_fault 2 55 B55) : Den X rX5_fault 2 106 (jX5_fault_106 B55) := by
  unfold jX5_fault_106
  refine Dn_iconst (v := 0) (q := 107) C dX5_fault_106 (by decide) rfl ?_
  exact JX5_fault_107 C hX B55 hB55
def jX5_fault_55 : mK := i_loop (fun B55 => i_ald 0 (i_get 5 16 (i_ald 0 (i_get 5 3 (i_icge (i_push (.int (-1)) (i_iret)) (i_ald 0 (i_get 5 17 (i_ald 0 (i_get 5 16 (i_ib (fun x y => x - y) (i_push (.int 1) (i_icne ((jX5_fault_106 B55)) (i_ald 0 (i_get 5 2 (i_ald 0 (i_get 5 16 (i_iald (i_push (.int 59) (i_icne ((jX5_fault_106 B55)) (i_ald 0 (i_get 5 5 (i_push (.int 12) (i_icge ((jX5_fault_106 B55)) (i_push (.int 1) ((jX5_fault_107 B55)))))))))))))))))))))))))) 1000
set_option maxRecDepth 20000 in
theorem JX5_fault_55 {X : mC} (C : Cx X rX5_fault cX5_fault 2 RX5 (some FieldType.int)) (hX : Rx X) : Den X rX5_fault 2 55 jX5_fault_55 := by
  unfold jX5_fault_55
  refine Dn_loop (fun B55 hB55 => ?_) 1000
  refine Dn_ald_n (i := 0) (q := 56) C dX5_fault_55 rfl rfl ?_
  refine Dn_get (ci := 5) (j := 16) (T := TX5) (N := 25) (Cn := RX5) (q := 59) C rfl iX5 (by decide) q_726 dX5_fault_56 rfl ?_
  refine Dn_ald_n (i := 0) (q := 60) C dX5_fault_59 rfl rfl ?_
  refine Dn_get (ci := 5) (j := 3) (T := TX5) (N := 25) (Cn := RX5) (q := 63) C rfl iX5 (by decide) q_713 dX5_fault_60 rfl ?_
  refine Dn_icge (t := 133) (q := 66) C dX5_fault_63 (by decide) rfl ?_ ?_
  · refine Dn_iconst (v := (-1)) (q := 134) C dX5_fault_133 (by decide) rfl ?_
    exact Dn_iret C hX dX5_fault_134
  · refine Dn_ald_n (i := 0) (q := 67) C dX5_fault_66 rfl rfl ?_
    refine Dn_get (ci := 5) (j := 17) (T := TX5) (N := 25) (Cn := RX5) (q := 70) C rfl iX5 (by decide) q_727 dX5_fault_67 rfl ?_
    refine Dn_ald_n (i := 0) (q := 71) C dX5_fault_70 rfl rfl ?_
    refine Dn_get (ci := 5) (j := 16) (T := TX5) (N := 25) (Cn := RX5) (q := 74) C rfl iX5 (by decide) q_726 dX5_fault_71 rfl ?_
    refine Dn_isub (q := 75) C dX5_fault_74 rfl ?_
    refine Dn_iconst (v := 1) (q := 76) C dX5_fault_75 (by decide) rfl ?_
    refine Dn_icne (t := 106) (q := 79) C dX5_fault_76 (by decide) rfl ?_ ?_
    · exact JX5_fault_106 C hX B55 hB55
    · refine Dn_ald_n (i := 0) (q := 80) C dX5_fault_79 rfl rfl ?_
      refine Dn_get (ci := 5) (j := 2) (T := TX5) (N := 25) (Cn := RX5) (q := 83) C rfl iX5 (by decide) q_712 dX5_fault_80 rfl ?_
      refine Dn_ald_n (i := 0) (q := 84) C dX5_fault_83 rfl rfl ?_
      refine Dn_get (ci := 5) (j := 16) (T := TX5) (N := 25) (Cn := RX5) (q := 87) C rfl iX5 (by decide) q_726 dX5_fault_84 rfl ?_
      refine Dn_iald (q := 88) C dX5_fault_87 rfl ?_
      refine Dn_bipush (v := 59) (q := 90) C dX5_fault_88 (by decide) rfl ?_
      refine Dn_icne (t := 106) (q := 93) C dX5_fault_90 (by decide) rfl ?_ ?_
      · exact JX5_fault_106 C hX B55 hB55
      · refine Dn_ald_n (i := 0) (q := 94) C dX5_fault_93 rfl rfl ?_
        refine Dn_get (ci := 5) (j := 5) (T := TX5) (N := 25) (Cn := RX5) (q := 97) C rfl iX5 (by decide) q_715 dX5_fault_94 rfl ?_
        refine Dn_bipush (v := 12) (q := 99) C dX5_fault_97 (by decide) rfl ?_
        refine Dn_icge (t := 106) (q := 102) C dX5_fault_99 (by decide) rfl ?_ ?_
        · exact JX5_fault_106 C hX B55 hB55
        · refine Dn_iconst (v := 1) (q := 103) C dX5_fault_102 (by decide) rfl ?_
          refine Dn_goto (t := 107) C dX5_fault_103 (by decide) ?_
          exact JX5_fault_107 C hX B55 hB55
def jX5_fault : mK := i_ald 0 (i_push (.int 0) (i_puti 5 15 (i_ald 0 (i_push (.int 0) (i_puti 5 5 (i_ald 0 (i_ald 0 (i_get 5 6 (i_ald 0 (i_get 5 7 (i_ib (fun x y => x * y) (i_puti 5 18 (i_ald 0 (i_ald 0 (i_get 5 14 (i_puti 5 19 (i_ald 0 (i_ald 0 (i_get 5 12 (i_putl 5 20 (i_ald 0 (i_callV 5 0 FX5_token (i_ald 0 (i_callV 5 0 FX5_readsLine (i_ifne (jX5_fault_55) (i_ald 0 (i_get 5 16 (i_iret))))))))))))))))))))))))))))
def FX5_fault : mF := mEnt 2 jX5_fault
set_option maxRecDepth 20000 in
theorem kX5_fault (l : Launch) (G : va_G) (tg : Nat → ClassId) : Ct l G tg yX5_fault cX5_fault 2 (some FieldType.int) rX5_fault FX5_fault := by
  refine Ct.of RX5 (by decide) rfl (fun X C hX => ?_)
  unfold jX5_fault
  refine Dn_ald_n (i := 0) (q := 1) C dX5_fault_0 rfl rfl ?_
  refine Dn_iconst (v := 0) (q := 2) C dX5_fault_1 (by decide) rfl ?_
  refine Dn_puti (ci := 5) (j := 15) (T := TX5) (N := 25) (Cn := RX5) (q := 5) C rfl iX5 tyX5 tyX5_ok nmX5 (by decide) q_725 rfl (by decide +kernel) dX5_fault_2 rfl ?_
  refine Dn_ald_n (i := 0) (q := 6) C dX5_fault_5 rfl rfl ?_
  refine Dn_iconst (v := 0) (q := 7) C dX5_fault_6 (by decide) rfl ?_
  refine Dn_puti (ci := 5) (j := 5) (T := TX5) (N := 25) (Cn := RX5) (q := 10) C rfl iX5 tyX5 tyX5_ok nmX5 (by decide) q_715 rfl (by decide +kernel) dX5_fault_7 rfl ?_
  refine Dn_ald_n (i := 0) (q := 11) C dX5_fault_10 rfl rfl ?_
  refine Dn_ald_n (i := 0) (q := 12) C dX5_fault_11 rfl rfl ?_
  refine Dn_get (ci := 5) (j := 6) (T := TX5) (N := 25) (Cn := RX5) (q := 15) C rfl iX5 (by decide) q_716 dX5_fault_12 rfl ?_
  refine Dn_ald_n (i := 0) (q := 16) C dX5_fault_15 rfl rfl ?_
  refine Dn_get (ci := 5) (j := 7) (T := TX5) (N := 25) (Cn := RX5) (q := 19) C rfl iX5 (by decide) q_717 dX5_fault_16 rfl ?_
  refine Dn_imul (q := 20) C dX5_fault_19 rfl ?_
  refine Dn_puti (ci := 5) (j := 18) (T := TX5) (N := 25) (Cn := RX5) (q := 23) C rfl iX5 tyX5 tyX5_ok nmX5 (by decide) q_728 rfl (by decide +kernel) dX5_fault_20 rfl ?_
  refine Dn_ald_n (i := 0) (q := 24) C dX5_fault_23 rfl rfl ?_
  refine Dn_ald_n (i := 0) (q := 25) C dX5_fault_24 rfl rfl ?_
  refine Dn_get (ci := 5) (j := 14) (T := TX5) (N := 25) (Cn := RX5) (q := 28) C rfl iX5 (by decide) q_724 dX5_fault_25 rfl ?_
  refine Dn_puti (ci := 5) (j := 19) (T := TX5) (N := 25) (Cn := RX5) (q := 31) C rfl iX5 tyX5 tyX5_ok nmX5 (by decide) q_729 rfl (by decide +kernel) dX5_fault_28 rfl ?_
  refine Dn_ald_n (i := 0) (q := 32) C dX5_fault_31 rfl rfl ?_
  refine Dn_ald_n (i := 0) (q := 33) C dX5_fault_32 rfl rfl ?_
  refine Dn_get (ci := 5) (j := 12) (T := TX5) (N := 25) (Cn := RX5) (q := 36) C rfl iX5 (by decide) q_722 dX5_fault_33 rfl ?_
  refine Dn_putl (ci := 5) (j := 20) (T := TX5) (N := 25) (Cn := RX5) (q := 39) C rfl iX5 tyX5 tyX5_ok nmX5 (by decide) q_730 rfl (by decide +kernel) dX5_fault_36 rfl ?_
  refine Dn_ald_n (i := 0) (q := 40) C dX5_fault_39 rfl rfl ?_
  refine Dn_callV (ci := 5) (T := TX5) (N := 25) (q := 43) C rfl (kX5_token X.l X.G X.tg) q_807 q_804 q_806 q_14 q_50 ⟨rfl, rfl⟩ (by decide +kernel) ⟨by decide, by decide⟩ dX5_fault_40 rfl ?_
  refine Dn_ald_n (i := 0) (q := 44) C dX5_fault_43 rfl rfl ?_
  refine Dn_callV (ci := 5) (T := TX5) (N := 25) (q := 47) C rfl (kX5_readsLine X.l X.G X.tg) q_814 q_811 q_813 q_15 q_50 ⟨rfl, rfl⟩ (by decide +kernel) ⟨by decide, by decide⟩ dX5_fault_44 rfl ?_
  refine Dn_ifne (t := 55) (q := 50) C dX5_fault_47 (by decide) rfl ?_ ?_
  · exact JX5_fault_55 C hX
  · refine Dn_ald_n (i := 0) (q := 51) C dX5_fault_50 rfl rfl ?_
    refine Dn_get (ci := 5) (j := 16) (T := TX5) (N := 25) (Cn := RX5) (q := 54) C rfl iX5 (by decide) q_726 dX5_fault_51 rfl ?_
    exact Dn_iret C hX dX5_fault_54
abbrev rX5_clear : Room := ({ frames := 0, cells := 0, slots := 0, locals := 0 } : Room)
def jX5_clear : mK := i_ald 0 (i_ild 1 (i_puti 5 6 (i_ald 0 (i_ild 2 (i_puti 5 7 (i_ald 0 (i_push (.int 2) (i_puti 5 8 (i_ald 0 (i_push (.int 0) (i_puti 5 9 (i_ald 0 (i_push (.int 50) (i_puti 5 10 (i_ald 0 (i_push (.long 0) (i_putl 5 11 (i_ald 0 (i_push (.long 0) (i_putl 5 12 (i_ald 0 (i_push (.int 0) (i_puti 5 14 (i_vret))))))))))))))))))))))))
def FX5_clear : mF := mEnt 3 jX5_clear
set_option maxRecDepth 20000 in
theorem kX5_clear (l : Launch) (G : va_G) (tg : Nat → ClassId) : Ct l G tg yX5_clear cX5_clear 3 none rX5_clear FX5_clear := by
  refine Ct.of RX5 (by decide) rfl (fun X C hX => ?_)
  unfold jX5_clear
  refine Dn_ald_n (i := 0) (q := 1) C dX5_clear_0 rfl rfl ?_
  refine Dn_ild_n (i := 1) (q := 2) C dX5_clear_1 rfl rfl ?_
  refine Dn_puti (ci := 5) (j := 6) (T := TX5) (N := 25) (Cn := RX5) (q := 5) C rfl iX5 tyX5 tyX5_ok nmX5 (by decide) q_716 rfl (by decide +kernel) dX5_clear_2 rfl ?_
  refine Dn_ald_n (i := 0) (q := 6) C dX5_clear_5 rfl rfl ?_
  refine Dn_ild_n (i := 2) (q := 7) C dX5_clear_6 rfl rfl ?_
  refine Dn_puti (ci := 5) (j := 7) (T := TX5) (N := 25) (Cn := RX5) (q := 10) C rfl iX5 tyX5 tyX5_ok nmX5 (by decide) q_717 rfl (by decide +kernel) dX5_clear_7 rfl ?_
  refine Dn_ald_n (i := 0) (q := 11) C dX5_clear_10 rfl rfl ?_
  refine Dn_iconst (v := 2) (q := 12) C dX5_clear_11 (by decide) rfl ?_
  refine Dn_puti (ci := 5) (j := 8) (T := TX5) (N := 25) (Cn := RX5) (q := 15) C rfl iX5 tyX5 tyX5_ok nmX5 (by decide) q_718 rfl (by decide +kernel) dX5_clear_12 rfl ?_
  refine Dn_ald_n (i := 0) (q := 16) C dX5_clear_15 rfl rfl ?_
  refine Dn_iconst (v := 0) (q := 17) C dX5_clear_16 (by decide) rfl ?_
  refine Dn_puti (ci := 5) (j := 9) (T := TX5) (N := 25) (Cn := RX5) (q := 20) C rfl iX5 tyX5 tyX5_ok nmX5 (by decide) q_719 rfl (by decide +kernel) dX5_clear_17 rfl ?_
  refine Dn_ald_n (i := 0) (q := 21) C dX5_clear_20 rfl rfl ?_
  refine Dn_bipush (v := 50) (q := 23) C dX5_clear_21 (by decide) rfl ?_
  refine Dn_puti (ci := 5) (j := 10) (T := TX5) (N := 25) (Cn := RX5) (q := 26) C rfl iX5 tyX5 tyX5_ok nmX5 (by decide) q_720 rfl (by decide +kernel) dX5_clear_23 rfl ?_
  refine Dn_ald_n (i := 0) (q := 27) C dX5_clear_26 rfl rfl ?_
  refine Dn_lconst (v := 0) (q := 28) C dX5_clear_27 (by decide) rfl ?_
  refine Dn_putl (ci := 5) (j := 11) (T := TX5) (N := 25) (Cn := RX5) (q := 31) C rfl iX5 tyX5 tyX5_ok nmX5 (by decide) q_721 rfl (by decide +kernel) dX5_clear_28 rfl ?_
  refine Dn_ald_n (i := 0) (q := 32) C dX5_clear_31 rfl rfl ?_
  refine Dn_lconst (v := 0) (q := 33) C dX5_clear_32 (by decide) rfl ?_
  refine Dn_putl (ci := 5) (j := 12) (T := TX5) (N := 25) (Cn := RX5) (q := 36) C rfl iX5 tyX5 tyX5_ok nmX5 (by decide) q_722 rfl (by decide +kernel) dX5_clear_33 rfl ?_
  refine Dn_ald_n (i := 0) (q := 37) C dX5_clear_36 rfl rfl ?_
  refine Dn_iconst (v := 0) (q := 38) C dX5_clear_37 (by decide) rfl ?_
  refine Dn_puti (ci := 5) (j := 14) (T := TX5) (N := 25) (Cn := RX5) (q := 41) C rfl iX5 tyX5 tyX5_ok nmX5 (by decide) q_724 rfl (by decide +kernel) dX5_clear_38 rfl ?_
  exact Dn_vret C hX dX5_clear_41
abbrev rX5_addBand : Room := ({ frames := 0, cells := 0, slots := 0, locals := 0 } : Room)
def jX5_addBand_24 : mK := i_loop (fun B24 => i_ild 3 (i_push (.int 4) (i_icge (i_ald 0 (i_get 5 13 (i_ild 2 (i_push (.int 5) (i_ib (fun x y => x + y) (i_push (.int 1) (i_iast (i_ald 0 (i_get 5 13 (i_ild 2 (i_push (.int 6) (i_ib (fun x y => x + y) (i_push (.int 0) (i_iast (i_ald 0 (i_dup (i_get 5 14 (i_push (.int 1) (i_ib (fun x y => x + y) (i_puti 5 14 (i_vret))))))))))))))))))))) (i_ald 0 (i_get 5 13 (i_ild 2 (i_push (.int 1) (i_ib (fun x y => x + y) (i_ild 3 (i_ib (fun x y => x + y) (i_ald 0 (i_get 5 4 (i_ild 1 (i_push (.int 1) (i_ib (fun x y => x + y) (i_ild 3 (i_ib (fun x y => x + y) (i_iald (i_iast (i_inc 3 1 (B24))))))))))))))))))))) 1000
set_option maxRecDepth 20000 in
theorem JX5_addBand_24 {X : mC} (C : Cx X rX5_addBand cX5_addBand 4 RX5 none) (hX : Rx X) : Den X rX5_addBand 4 24 jX5_addBand_24 := by
  unfold jX5_addBand_24
  refine Dn_loop (fun B24 hB24 => ?_) 1000
  refine Dn_ild_n (i := 3) (q := 25) C dX5_addBand_24 rfl rfl ?_
  refine Dn_iconst (v := 4) (q := 26) C dX5_addBand_25 (by decide) rfl ?_
  refine Dn_icge (t := 55) (q := 29) C dX5_addBand_26 (by decide) rfl ?_ ?_
  · refine Dn_ald_n (i := 0) (q := 56) C dX5_addBand_55 rfl rfl ?_
    refine Dn_get (ci := 5) (j := 13) (T := TX5) (N := 25) (Cn := RX5) (q := 59) C rfl iX5 (by decide) q_723 dX5_addBand_56 rfl ?_
    refine Dn_ild_n (i := 2) (q := 60) C dX5_addBand_59 rfl rfl ?_
    refine Dn_iconst (v := 5) (q := 61) C dX5_addBand_60 (by decide) rfl ?_
    refine Dn_iadd (q := 62) C dX5_addBand_61 rfl ?_
    refine Dn_iconst (v := 1) (q := 63) C dX5_addBand_62 (by decide) rfl ?_
    refine Dn_iast (q := 64) C dX5_addBand_63 rfl ?_
    refine Dn_ald_n (i := 0) (q := 65) C dX5_addBand_64 rfl rfl ?_
    refine Dn_get (ci := 5) (j := 13) (T := TX5) (N := 25) (Cn := RX5) (q := 68) C rfl iX5 (by decide) q_723 dX5_addBand_65 rfl ?_
    refine Dn_ild_n (i := 2) (q := 69) C dX5_addBand_68 rfl rfl ?_
    refine Dn_bipush (v := 6) (q := 71) C dX5_addBand_69 (by decide) rfl ?_
    refine Dn_iadd (q := 72) C dX5_addBand_71 rfl ?_
    refine Dn_iconst (v := 0) (q := 73) C dX5_addBand_72 (by decide) rfl ?_
    refine Dn_iast (q := 74) C dX5_addBand_73 rfl ?_
    refine Dn_ald_n (i := 0) (q := 75) C dX5_addBand_74 rfl rfl ?_
    refine Dn_dup (q := 76) C dX5_addBand_75 rfl ?_
    refine Dn_get (ci := 5) (j := 14) (T := TX5) (N := 25) (Cn := RX5) (q := 79) C rfl iX5 (by decide) q_724 dX5_addBand_76 rfl ?_
    refine Dn_iconst (v := 1) (q := 80) C dX5_addBand_79 (by decide) rfl ?_
    refine Dn_iadd (q := 81) C dX5_addBand_80 rfl ?_
    refine Dn_puti (ci := 5) (j := 14) (T := TX5) (N := 25) (Cn := RX5) (q := 84) C rfl iX5 tyX5 tyX5_ok nmX5 (by decide) q_724 rfl (by decide +kernel) dX5_addBand_81 rfl ?_
    exact Dn_vret C hX dX5_addBand_84
  · refine Dn_ald_n (i := 0) (q := 30) C dX5_addBand_29 rfl rfl ?_
    refine Dn_get (ci := 5) (j := 13) (T := TX5) (N := 25) (Cn := RX5) (q := 33) C rfl iX5 (by decide) q_723 dX5_addBand_30 rfl ?_
    refine Dn_ild_n (i := 2) (q := 34) C dX5_addBand_33 rfl rfl ?_
    refine Dn_iconst (v := 1) (q := 35) C dX5_addBand_34 (by decide) rfl ?_
    refine Dn_iadd (q := 36) C dX5_addBand_35 rfl ?_
    refine Dn_ild_n (i := 3) (q := 37) C dX5_addBand_36 rfl rfl ?_
    refine Dn_iadd (q := 38) C dX5_addBand_37 rfl ?_
    refine Dn_ald_n (i := 0) (q := 39) C dX5_addBand_38 rfl rfl ?_
    refine Dn_get (ci := 5) (j := 4) (T := TX5) (N := 25) (Cn := RX5) (q := 42) C rfl iX5 (by decide) q_714 dX5_addBand_39 rfl ?_
    refine Dn_ild_n (i := 1) (q := 43) C dX5_addBand_42 rfl rfl ?_
    refine Dn_iconst (v := 1) (q := 44) C dX5_addBand_43 (by decide) rfl ?_
    refine Dn_iadd (q := 45) C dX5_addBand_44 rfl ?_
    refine Dn_ild_n (i := 3) (q := 46) C dX5_addBand_45 rfl rfl ?_
    refine Dn_iadd (q := 47) C dX5_addBand_46 rfl ?_
    refine Dn_iald (q := 48) C dX5_addBand_47 rfl ?_
    refine Dn_iast (q := 49) C dX5_addBand_48 rfl ?_
    refine Dn_inc (z := 1) (q := 52) C dX5_addBand_49 (by decide) (by decide) rfl ?_
    refine Dn_goto (t := 24) C dX5_addBand_52 (by decide) ?_
    exact hB24
def jX5_addBand : mK := i_push (.int 7) (i_ald 0 (i_get 5 14 (i_ib (fun x y => x * y) (i_ist 2 (i_ald 0 (i_get 5 13 (i_ild 2 (i_ald 0 (i_get 5 4 (i_ild 1 (i_iald (i_push (.int 3) (i_ib (fun x y => x - y) (i_iast (i_push (.int 0) (i_ist 3 (jX5_addBand_24)))))))))))))))))
def FX5_addBand : mF := mEnt 4 jX5_addBand
set_option maxRecDepth 20000 in
theorem kX5_addBand (l : Launch) (G : va_G) (tg : Nat → ClassId) : Ct l G tg yX5_addBand cX5_addBand 4 none rX5_addBand FX5_addBand := by
  refine Ct.of RX5 (by decide) rfl (fun X C hX => ?_)
  unfold jX5_addBand
  refine Dn_bipush (v := 7) (q := 2) C dX5_addBand_0 (by decide) rfl ?_
  refine Dn_ald_n (i := 0) (q := 3) C dX5_addBand_2 rfl rfl ?_
  refine Dn_get (ci := 5) (j := 14) (T := TX5) (N := 25) (Cn := RX5) (q := 6) C rfl iX5 (by decide) q_724 dX5_addBand_3 rfl ?_
  refine Dn_imul (q := 7) C dX5_addBand_6 rfl ?_
  refine Dn_ist_n (i := 2) (q := 8) C dX5_addBand_7 rfl (by decide) rfl ?_
  refine Dn_ald_n (i := 0) (q := 9) C dX5_addBand_8 rfl rfl ?_
  refine Dn_get (ci := 5) (j := 13) (T := TX5) (N := 25) (Cn := RX5) (q := 12) C rfl iX5 (by decide) q_723 dX5_addBand_9 rfl ?_
  refine Dn_ild_n (i := 2) (q := 13) C dX5_addBand_12 rfl rfl ?_
  refine Dn_ald_n (i := 0) (q := 14) C dX5_addBand_13 rfl rfl ?_
  refine Dn_get (ci := 5) (j := 4) (T := TX5) (N := 25) (Cn := RX5) (q := 17) C rfl iX5 (by decide) q_714 dX5_addBand_14 rfl ?_
  refine Dn_ild_n (i := 1) (q := 18) C dX5_addBand_17 rfl rfl ?_
  refine Dn_iald (q := 19) C dX5_addBand_18 rfl ?_
  refine Dn_iconst (v := 3) (q := 20) C dX5_addBand_19 (by decide) rfl ?_
  refine Dn_isub (q := 21) C dX5_addBand_20 rfl ?_
  refine Dn_iast (q := 22) C dX5_addBand_21 rfl ?_
  refine Dn_iconst (v := 0) (q := 23) C dX5_addBand_22 (by decide) rfl ?_
  refine Dn_ist_n (i := 3) (q := 24) C dX5_addBand_23 rfl (by decide) rfl ?_
  exact JX5_addBand_24 C hX
abbrev rX5_tell : Room := ({ frames := 1, cells := 0, slots := 0, locals := 23 } : Room)
def jX5_tell_187 : mK := i_ald 0 (i_ild 1 (i_callV 5 1 FX5_addBand (i_vret)))
set_option maxRecDepth 20000 in
theorem JX5_tell_187 {X : mC} (C : Cx X rX5_tell cX5_tell 5 RX5 none) (hX : Rx X) : Den X rX5_tell 5 187 jX5_tell_187 := by
  unfold jX5_tell_187
  refine Dn_ald_n (i := 0) (q := 188) C dX5_tell_187 rfl rfl ?_
  refine Dn_ild_n (i := 1) (q := 189) C dX5_tell_188 rfl rfl ?_
  refine Dn_callV (ci := 5) (T := TX5) (N := 25) (q := 192) C rfl (kX5_addBand X.l X.G X.tg) q_879 q_876 q_878 q_25 q_50 ⟨rfl, rfl⟩ (by decide +kernel) ⟨by decide, by decide⟩ dX5_tell_189 rfl ?_
  exact Dn_vret C hX dX5_tell_192
def jX5_tell_155 : mK := i_loop (fun B155 => i_ild 4 (i_ild 3 (i_icgt (i_vret) (i_ald 0 (i_dup (i_get 5 11 (i_push (.long 1) (i_ild 4 (i_ls (fun x y => x <<< (y.toInt64 &&& 63)) (i_lb (fun x y => x ||| y) (i_putl 5 11 (i_inc 4 1 (B155))))))))))))) 1000
set_option maxRecDepth 20000 in
theorem JX5_tell_155 {X : mC} (C : Cx X rX5_tell cX5_tell 5 RX5 none) (hX : Rx X) : Den X rX5_tell 5 155 jX5_tell_155 := by
  unfold jX5_tell_155
  refine Dn_loop (fun B155 hB155 => ?_) 1000
  refine Dn_ild (q := 157) C dX5_tell_155 rfl ?_
  refine Dn_ild_n (i := 3) (q := 158) C dX5_tell_157 rfl rfl ?_
  refine Dn_icgt (t := 180) (q := 161) C dX5_tell_158 (by decide) rfl ?_ ?_
  · exact Dn_vret C hX dX5_tell_180
  · refine Dn_ald_n (i := 0) (q := 162) C dX5_tell_161 rfl rfl ?_
    refine Dn_dup (q := 163) C dX5_tell_162 rfl ?_
    refine Dn_get (ci := 5) (j := 11) (T := TX5) (N := 25) (Cn := RX5) (q := 166) C rfl iX5 (by decide) q_721 dX5_tell_163 rfl ?_
    refine Dn_lconst (v := 1) (q := 167) C dX5_tell_166 (by decide) rfl ?_
    refine Dn_ild (q := 169) C dX5_tell_167 rfl ?_
    refine Dn_lshl (q := 170) C dX5_tell_169 rfl ?_
    refine Dn_lor (q := 171) C dX5_tell_170 rfl ?_
    refine Dn_putl (ci := 5) (j := 11) (T := TX5) (N := 25) (Cn := RX5) (q := 174) C rfl iX5 tyX5 tyX5_ok nmX5 (by decide) q_721 rfl (by decide +kernel) dX5_tell_171 rfl ?_
    refine Dn_inc (z := 1) (q := 177) C dX5_tell_174 (by decide) (by decide) rfl ?_
    refine Dn_goto (t := 155) C dX5_tell_177 (by decide) ?_
    exact hB155
def jX5_tell : mK := i_ald 0 (i_get 5 4 (i_ild 1 (i_push (.int 1) (i_ib (fun x y => x + y) (i_iald (i_ist 2 (i_ald 0 (i_get 5 4 (i_ild 1 (i_push (.int 2) (i_ib (fun x y => x + y) (i_iald (i_ist 3 (i_ald 0 (i_get 5 4 (i_ild 1 (i_iald (i_sw 0 11 [i_ald 0 (i_ild 2 (i_ild 3 (i_callV 5 2 FX5_clear (i_vret)))), i_ald 0 (i_ild 2 (i_puti 5 8 (i_vret))), i_ald 0 (i_ild 2 (i_puti 5 9 (i_ald 0 (i_ild 3 (i_puti 5 10 (i_vret)))))), jX5_tell_187, jX5_tell_187, jX5_tell_187, jX5_tell_187, i_ald 0 (i_get 5 13 (i_push (.int 7) (i_ild 2 (i_ib (fun x y => x * y) (i_push (.int 5) (i_ib (fun x y => x + y) (i_ild 3 (i_iast (i_vret))))))))), i_ald 0 (i_get 5 13 (i_push (.int 7) (i_ild 2 (i_ib (fun x y => x * y) (i_push (.int 6) (i_ib (fun x y => x + y) (i_ild 3 (i_iast (i_vret))))))))), i_ald 0 (i_dup (i_get 5 12 (i_push (.long 1) (i_ild 2 (i_ls (fun x y => x <<< (y.toInt64 &&& 63)) (i_lb (fun x y => x ||| y) (i_putl 5 12 (i_vret)))))))), i_ild 2 (i_ist 4 (jX5_tell_155)), i_ald 0 (i_push (.int 0) (i_puti 5 14 (i_vret)))] (jX5_tell_187)))))))))))))))))))
def FX5_tell : mF := mEnt 5 jX5_tell
set_option maxRecDepth 20000 in
theorem kX5_tell (l : Launch) (G : va_G) (tg : Nat → ClassId) : Ct l G tg yX5_tell cX5_tell 5 none rX5_tell FX5_tell := by
  refine Ct.of RX5 (by decide) rfl (fun X C hX => ?_)
  unfold jX5_tell
  refine Dn_ald_n (i := 0) (q := 1) C dX5_tell_0 rfl rfl ?_
  refine Dn_get (ci := 5) (j := 4) (T := TX5) (N := 25) (Cn := RX5) (q := 4) C rfl iX5 (by decide) q_714 dX5_tell_1 rfl ?_
  refine Dn_ild_n (i := 1) (q := 5) C dX5_tell_4 rfl rfl ?_
  refine Dn_iconst (v := 1) (q := 6) C dX5_tell_5 (by decide) rfl ?_
  refine Dn_iadd (q := 7) C dX5_tell_6 rfl ?_
  refine Dn_iald (q := 8) C dX5_tell_7 rfl ?_
  refine Dn_ist_n (i := 2) (q := 9) C dX5_tell_8 rfl (by decide) rfl ?_
  refine Dn_ald_n (i := 0) (q := 10) C dX5_tell_9 rfl rfl ?_
  refine Dn_get (ci := 5) (j := 4) (T := TX5) (N := 25) (Cn := RX5) (q := 13) C rfl iX5 (by decide) q_714 dX5_tell_10 rfl ?_
  refine Dn_ild_n (i := 1) (q := 14) C dX5_tell_13 rfl rfl ?_
  refine Dn_iconst (v := 2) (q := 15) C dX5_tell_14 (by decide) rfl ?_
  refine Dn_iadd (q := 16) C dX5_tell_15 rfl ?_
  refine Dn_iald (q := 17) C dX5_tell_16 rfl ?_
  refine Dn_ist_n (i := 3) (q := 18) C dX5_tell_17 rfl (by decide) rfl ?_
  refine Dn_ald_n (i := 0) (q := 19) C dX5_tell_18 rfl rfl ?_
  refine Dn_get (ci := 5) (j := 4) (T := TX5) (N := 25) (Cn := RX5) (q := 22) C rfl iX5 (by decide) q_714 dX5_tell_19 rfl ?_
  refine Dn_ild_n (i := 1) (q := 23) C dX5_tell_22 rfl rfl ?_
  refine Dn_iald (q := 24) C dX5_tell_23 rfl ?_
  refine Dn_sw (td := 187) (ts := [88, 95, 101, 187, 187, 187, 187, 112, 125, 139, 152, 181]) C dX5_tell_24 (by decide) (by decide +kernel) rfl ?_ ?_
  · exact JX5_tell_187 C hX
  · show DenL _ _ _ _ _
    refine DenL_cons ?_ ?_
    · refine Dn_ald_n (i := 0) (q := 89) C dX5_tell_88 rfl rfl ?_
      refine Dn_ild_n (i := 2) (q := 90) C dX5_tell_89 rfl rfl ?_
      refine Dn_ild_n (i := 3) (q := 91) C dX5_tell_90 rfl rfl ?_
      refine Dn_callV (ci := 5) (T := TX5) (N := 25) (q := 94) C rfl (kX5_clear X.l X.G X.tg) q_875 q_872 q_874 q_24 q_50 ⟨rfl, rfl⟩ (by decide +kernel) ⟨by decide, by decide⟩ dX5_tell_91 rfl ?_
      exact Dn_vret C hX dX5_tell_94
    refine DenL_cons ?_ ?_
    · refine Dn_ald_n (i := 0) (q := 96) C dX5_tell_95 rfl rfl ?_
      refine Dn_ild_n (i := 2) (q := 97) C dX5_tell_96 rfl rfl ?_
      refine Dn_puti (ci := 5) (j := 8) (T := TX5) (N := 25) (Cn := RX5) (q := 100) C rfl iX5 tyX5 tyX5_ok nmX5 (by decide) q_718 rfl (by decide +kernel) dX5_tell_97 rfl ?_
      exact Dn_vret C hX dX5_tell_100
    refine DenL_cons ?_ ?_
    · refine Dn_ald_n (i := 0) (q := 102) C dX5_tell_101 rfl rfl ?_
      refine Dn_ild_n (i := 2) (q := 103) C dX5_tell_102 rfl rfl ?_
      refine Dn_puti (ci := 5) (j := 9) (T := TX5) (N := 25) (Cn := RX5) (q := 106) C rfl iX5 tyX5 tyX5_ok nmX5 (by decide) q_719 rfl (by decide +kernel) dX5_tell_103 rfl ?_
      refine Dn_ald_n (i := 0) (q := 107) C dX5_tell_106 rfl rfl ?_
      refine Dn_ild_n (i := 3) (q := 108) C dX5_tell_107 rfl rfl ?_
      refine Dn_puti (ci := 5) (j := 10) (T := TX5) (N := 25) (Cn := RX5) (q := 111) C rfl iX5 tyX5 tyX5_ok nmX5 (by decide) q_720 rfl (by decide +kernel) dX5_tell_108 rfl ?_
      exact Dn_vret C hX dX5_tell_111
    refine DenL_cons ?_ ?_
    · exact JX5_tell_187 C hX
    refine DenL_cons ?_ ?_
    · exact JX5_tell_187 C hX
    refine DenL_cons ?_ ?_
    · exact JX5_tell_187 C hX
    refine DenL_cons ?_ ?_
    · exact JX5_tell_187 C hX
    refine DenL_cons ?_ ?_
    · refine Dn_ald_n (i := 0) (q := 113) C dX5_tell_112 rfl rfl ?_
      refine Dn_get (ci := 5) (j := 13) (T := TX5) (N := 25) (Cn := RX5) (q := 116) C rfl iX5 (by decide) q_723 dX5_tell_113 rfl ?_
      refine Dn_bipush (v := 7) (q := 118) C dX5_tell_116 (by decide) rfl ?_
      refine Dn_ild_n (i := 2) (q := 119) C dX5_tell_118 rfl rfl ?_
      refine Dn_imul (q := 120) C dX5_tell_119 rfl ?_
      refine Dn_iconst (v := 5) (q := 121) C dX5_tell_120 (by decide) rfl ?_
      refine Dn_iadd (q := 122) C dX5_tell_121 rfl ?_
      refine Dn_ild_n (i := 3) (q := 123) C dX5_tell_122 rfl rfl ?_
      refine Dn_iast (q := 124) C dX5_tell_123 rfl ?_
      exact Dn_vret C hX dX5_tell_124
    refine DenL_cons ?_ ?_
    · refine Dn_ald_n (i := 0) (q := 126) C dX5_tell_125 rfl rfl ?_
      refine Dn_get (ci := 5) (j := 13) (T := TX5) (N := 25) (Cn := RX5) (q := 129) C rfl iX5 (by decide) q_723 dX5_tell_126 rfl ?_
      refine Dn_bipush (v := 7) (q := 131) C dX5_tell_129 (by decide) rfl ?_
      refine Dn_ild_n (i := 2) (q := 132) C dX5_tell_131 rfl rfl ?_
      refine Dn_imul (q := 133) C dX5_tell_132 rfl ?_
      refine Dn_bipush (v := 6) (q := 135) C dX5_tell_133 (by decide) rfl ?_
      refine Dn_iadd (q := 136) C dX5_tell_135 rfl ?_
      refine Dn_ild_n (i := 3) (q := 137) C dX5_tell_136 rfl rfl ?_
      refine Dn_iast (q := 138) C dX5_tell_137 rfl ?_
      exact Dn_vret C hX dX5_tell_138
    refine DenL_cons ?_ ?_
    · refine Dn_ald_n (i := 0) (q := 140) C dX5_tell_139 rfl rfl ?_
      refine Dn_dup (q := 141) C dX5_tell_140 rfl ?_
      refine Dn_get (ci := 5) (j := 12) (T := TX5) (N := 25) (Cn := RX5) (q := 144) C rfl iX5 (by decide) q_722 dX5_tell_141 rfl ?_
      refine Dn_lconst (v := 1) (q := 145) C dX5_tell_144 (by decide) rfl ?_
      refine Dn_ild_n (i := 2) (q := 146) C dX5_tell_145 rfl rfl ?_
      refine Dn_lshl (q := 147) C dX5_tell_146 rfl ?_
      refine Dn_lor (q := 148) C dX5_tell_147 rfl ?_
      refine Dn_putl (ci := 5) (j := 12) (T := TX5) (N := 25) (Cn := RX5) (q := 151) C rfl iX5 tyX5 tyX5_ok nmX5 (by decide) q_722 rfl (by decide +kernel) dX5_tell_148 rfl ?_
      exact Dn_vret C hX dX5_tell_151
    refine DenL_cons ?_ ?_
    · refine Dn_ild_n (i := 2) (q := 153) C dX5_tell_152 rfl rfl ?_
      refine Dn_ist (q := 155) C dX5_tell_153 (by decide) rfl ?_
      exact JX5_tell_155 C hX
    refine DenL_cons ?_ ?_
    · refine Dn_ald_n (i := 0) (q := 182) C dX5_tell_181 rfl rfl ?_
      refine Dn_iconst (v := 0) (q := 183) C dX5_tell_182 (by decide) rfl ?_
      refine Dn_puti (ci := 5) (j := 14) (T := TX5) (N := 25) (Cn := RX5) (q := 186) C rfl iX5 tyX5 tyX5_ok nmX5 (by decide) q_724 rfl (by decide +kernel) dX5_tell_183 rfl ?_
      exact Dn_vret C hX dX5_tell_186
    exact DenL_nil
abbrev rX5_park : Room := ({ frames := 7, cells := 0, slots := 0, locals := 153 } : Room)
def jX5_park_97 (B67 : mK) : mK := i_iast (i_inc 1 (-1) (B67))
set_option maxRecDepth 20000 in
theorem JX5_park_97 {X : mC} (C : Cx X rX5_park cX5_park 2 RX5 (some FieldType.int)) (hX : Rx X) (B67 : mK) (hB67 : Den X rX5_park 2 67 B67) : Den X rX5_park 2 97 (jX5_park_97 B67) := by
  unfold jX5_park_97
  refine Dn_iast (q := 98) C dX5_park_97 rfl ?_
  refine Dn_inc (z := (-1)) (q := 101) C dX5_park_98 (by decide) (by decide) rfl ?_
  refine Dn_goto (t := 67) C dX5_park_101 (by decide) ?_
  exact hB67
def jX5_park_67 : mK := i_loop (fun B67 => i_ild 1 (i_iflt (i_ald 0 (i_get 5 0 (i_push (.int 2) (i_push (.int 0) (i_iast (i_ald 0 (i_push (.int 0) (i_puti 5 24 (i_ald 0 (i_get 5 1 (i_push (.int 0) (i_push (.int 0) (i_zast (i_ald 0 (i_get 5 1 (i_push (.int 1) (i_push (.int 0) (i_zast (i_ald 0 (i_push (.int 0) (i_puti 5 3 (i_ald 0 (i_get 5 5 (i_iret)))))))))))))))))))))))) (i_ald 0 (i_get 5 0 (i_push (.int 1) (i_ald 0 (i_get 5 11 (i_ild 1 (i_call 2 FX5_has (i_ifeq (i_ald 0 (i_get 5 0 (i_push (.int 1) (i_iald ((jX5_park_97 B67)))))) (i_ild 1 ((jX5_park_97 B67))))))))))))) 1000
set_option maxRecDepth 20000 in
theorem JX5_park_67 {X : mC} (C : Cx X rX5_park cX5_park 2 RX5 (some FieldType.int)) (hX : Rx X) : Den X rX5_park 2 67 jX5_park_67 := by
  unfold jX5_park_67
  refine Dn_loop (fun B67 hB67 => ?_) 1000
  refine Dn_ild_n (i := 1) (q := 68) C dX5_park_67 rfl rfl ?_
  refine Dn_iflt (t := 104) (q := 71) C dX5_park_68 (by decide) rfl ?_ ?_
  · refine Dn_ald_n (i := 0) (q := 105) C dX5_park_104 rfl rfl ?_
    refine Dn_get (ci := 5) (j := 0) (T := TX5) (N := 25) (Cn := RX5) (q := 108) C rfl iX5 (by decide) q_710 dX5_park_105 rfl ?_
    refine Dn_iconst (v := 2) (q := 109) C dX5_park_108 (by decide) rfl ?_
    refine Dn_iconst (v := 0) (q := 110) C dX5_park_109 (by decide) rfl ?_
    refine Dn_iast (q := 111) C dX5_park_110 rfl ?_
    refine Dn_ald_n (i := 0) (q := 112) C dX5_park_111 rfl rfl ?_
    refine Dn_iconst (v := 0) (q := 113) C dX5_park_112 (by decide) rfl ?_
    refine Dn_puti (ci := 5) (j := 24) (T := TX5) (N := 25) (Cn := RX5) (q := 116) C rfl iX5 tyX5 tyX5_ok nmX5 (by decide) q_734 rfl (by decide +kernel) dX5_park_113 rfl ?_
    refine Dn_ald_n (i := 0) (q := 117) C dX5_park_116 rfl rfl ?_
    refine Dn_get (ci := 5) (j := 1) (T := TX5) (N := 25) (Cn := RX5) (q := 120) C rfl iX5 (by decide) q_711 dX5_park_117 rfl ?_
    refine Dn_iconst (v := 0) (q := 121) C dX5_park_120 (by decide) rfl ?_
    refine Dn_iconst (v := 0) (q := 122) C dX5_park_121 (by decide) rfl ?_
    refine Dn_zast (q := 123) C dX5_park_122 rfl ?_
    refine Dn_ald_n (i := 0) (q := 124) C dX5_park_123 rfl rfl ?_
    refine Dn_get (ci := 5) (j := 1) (T := TX5) (N := 25) (Cn := RX5) (q := 127) C rfl iX5 (by decide) q_711 dX5_park_124 rfl ?_
    refine Dn_iconst (v := 1) (q := 128) C dX5_park_127 (by decide) rfl ?_
    refine Dn_iconst (v := 0) (q := 129) C dX5_park_128 (by decide) rfl ?_
    refine Dn_zast (q := 130) C dX5_park_129 rfl ?_
    refine Dn_ald_n (i := 0) (q := 131) C dX5_park_130 rfl rfl ?_
    refine Dn_iconst (v := 0) (q := 132) C dX5_park_131 (by decide) rfl ?_
    refine Dn_puti (ci := 5) (j := 3) (T := TX5) (N := 25) (Cn := RX5) (q := 135) C rfl iX5 tyX5 tyX5_ok nmX5 (by decide) q_713 rfl (by decide +kernel) dX5_park_132 rfl ?_
    refine Dn_ald_n (i := 0) (q := 136) C dX5_park_135 rfl rfl ?_
    refine Dn_get (ci := 5) (j := 5) (T := TX5) (N := 25) (Cn := RX5) (q := 139) C rfl iX5 (by decide) q_715 dX5_park_136 rfl ?_
    exact Dn_iret C hX dX5_park_139
  · refine Dn_ald_n (i := 0) (q := 72) C dX5_park_71 rfl rfl ?_
    refine Dn_get (ci := 5) (j := 0) (T := TX5) (N := 25) (Cn := RX5) (q := 75) C rfl iX5 (by decide) q_710 dX5_park_72 rfl ?_
    refine Dn_iconst (v := 1) (q := 76) C dX5_park_75 (by decide) rfl ?_
    refine Dn_ald_n (i := 0) (q := 77) C dX5_park_76 rfl rfl ?_
    refine Dn_get (ci := 5) (j := 11) (T := TX5) (N := 25) (Cn := RX5) (q := 80) C rfl iX5 (by decide) q_721 dX5_park_77 rfl ?_
    refine Dn_ild_n (i := 1) (q := 81) C dX5_park_80 rfl rfl ?_
    refine Dn_callS (q := 84) C (kX5_has X.l X.G X.tg) q_862 q_860 q_861 q_50 ⟨rfl, rfl⟩ (by decide +kernel) ⟨by decide, by decide⟩ dX5_park_81 rfl ?_
    refine Dn_ifeq (t := 91) (q := 87) C dX5_park_84 (by decide) rfl ?_ ?_
    · refine Dn_ald_n (i := 0) (q := 92) C dX5_park_91 rfl rfl ?_
      refine Dn_get (ci := 5) (j := 0) (T := TX5) (N := 25) (Cn := RX5) (q := 95) C rfl iX5 (by decide) q_710 dX5_park_92 rfl ?_
      refine Dn_iconst (v := 1) (q := 96) C dX5_park_95 (by decide) rfl ?_
      refine Dn_iald (q := 97) C dX5_park_96 rfl ?_
      exact JX5_park_97 C hX B67 hB67
    · refine Dn_ild_n (i := 1) (q := 88) C dX5_park_87 rfl rfl ?_
      refine Dn_goto (t := 97) C dX5_park_88 (by decide) ?_
      exact JX5_park_97 C hX B67 hB67
def jX5_park_13 : mK := i_loop (fun B13 => i_ild 1 (i_ald 0 (i_get 5 5 (i_icge (i_ald 0 (i_get 5 0 (i_push (.int 0) (i_push (.int 1) (i_ald 0 (i_get 5 14 (i_ib (fun x y => x <<< (y &&& 31)) (i_push (.int 1) (i_ib (fun x y => x - y) (i_iast (i_ald 0 (i_get 5 0 (i_push (.int 1) (i_push (.int (-1)) (i_iast (i_ald 0 (i_get 5 6 (i_ald 0 (i_get 5 7 (i_ib (fun x y => x * y) (i_push (.int 1) (i_ib (fun x y => x - y) (i_ist 1 (jX5_park_67)))))))))))))))))))))))) (i_ald 0 (i_push (.int 5) (i_ild 1 (i_ib (fun x y => x * y) (i_callV 5 1 FX5_tell (i_inc 1 1 (B13))))))))))) 1000
set_option maxRecDepth 20000 in
theorem JX5_park_13 {X : mC} (C : Cx X rX5_park cX5_park 2 RX5 (some FieldType.int)) (hX : Rx X) : Den X rX5_park 2 13 jX5_park_13 := by
  unfold jX5_park_13
  refine Dn_loop (fun B13 hB13 => ?_) 1000
  refine Dn_ild_n (i := 1) (q := 14) C dX5_park_13 rfl rfl ?_
  refine Dn_ald_n (i := 0) (q := 15) C dX5_park_14 rfl rfl ?_
  refine Dn_get (ci := 5) (j := 5) (T := TX5) (N := 25) (Cn := RX5) (q := 18) C rfl iX5 (by decide) q_715 dX5_park_15 rfl ?_
  refine Dn_icge (t := 34) (q := 21) C dX5_park_18 (by decide) rfl ?_ ?_
  · refine Dn_ald_n (i := 0) (q := 35) C dX5_park_34 rfl rfl ?_
    refine Dn_get (ci := 5) (j := 0) (T := TX5) (N := 25) (Cn := RX5) (q := 38) C rfl iX5 (by decide) q_710 dX5_park_35 rfl ?_
    refine Dn_iconst (v := 0) (q := 39) C dX5_park_38 (by decide) rfl ?_
    refine Dn_iconst (v := 1) (q := 40) C dX5_park_39 (by decide) rfl ?_
    refine Dn_ald_n (i := 0) (q := 41) C dX5_park_40 rfl rfl ?_
    refine Dn_get (ci := 5) (j := 14) (T := TX5) (N := 25) (Cn := RX5) (q := 44) C rfl iX5 (by decide) q_724 dX5_park_41 rfl ?_
    refine Dn_ishl (q := 45) C dX5_park_44 rfl ?_
    refine Dn_iconst (v := 1) (q := 46) C dX5_park_45 (by decide) rfl ?_
    refine Dn_isub (q := 47) C dX5_park_46 rfl ?_
    refine Dn_iast (q := 48) C dX5_park_47 rfl ?_
    refine Dn_ald_n (i := 0) (q := 49) C dX5_park_48 rfl rfl ?_
    refine Dn_get (ci := 5) (j := 0) (T := TX5) (N := 25) (Cn := RX5) (q := 52) C rfl iX5 (by decide) q_710 dX5_park_49 rfl ?_
    refine Dn_iconst (v := 1) (q := 53) C dX5_park_52 (by decide) rfl ?_
    refine Dn_iconst (v := (-1)) (q := 54) C dX5_park_53 (by decide) rfl ?_
    refine Dn_iast (q := 55) C dX5_park_54 rfl ?_
    refine Dn_ald_n (i := 0) (q := 56) C dX5_park_55 rfl rfl ?_
    refine Dn_get (ci := 5) (j := 6) (T := TX5) (N := 25) (Cn := RX5) (q := 59) C rfl iX5 (by decide) q_716 dX5_park_56 rfl ?_
    refine Dn_ald_n (i := 0) (q := 60) C dX5_park_59 rfl rfl ?_
    refine Dn_get (ci := 5) (j := 7) (T := TX5) (N := 25) (Cn := RX5) (q := 63) C rfl iX5 (by decide) q_717 dX5_park_60 rfl ?_
    refine Dn_imul (q := 64) C dX5_park_63 rfl ?_
    refine Dn_iconst (v := 1) (q := 65) C dX5_park_64 (by decide) rfl ?_
    refine Dn_isub (q := 66) C dX5_park_65 rfl ?_
    refine Dn_ist_n (i := 1) (q := 67) C dX5_park_66 rfl (by decide) rfl ?_
    exact JX5_park_67 C hX
  · refine Dn_ald_n (i := 0) (q := 22) C dX5_park_21 rfl rfl ?_
    refine Dn_iconst (v := 5) (q := 23) C dX5_park_22 (by decide) rfl ?_
    refine Dn_ild_n (i := 1) (q := 24) C dX5_park_23 rfl rfl ?_
    refine Dn_imul (q := 25) C dX5_park_24 rfl ?_
    refine Dn_callV (ci := 5) (T := TX5) (N := 25) (q := 28) C rfl (kX5_tell X.l X.G X.tg) q_871 q_868 q_870 q_23 q_50 ⟨rfl, rfl⟩ (by decide +kernel) ⟨by decide, by decide⟩ dX5_park_25 rfl ?_
    refine Dn_inc (z := 1) (q := 31) C dX5_park_28 (by decide) (by decide) rfl ?_
    refine Dn_goto (t := 13) C dX5_park_31 (by decide) ?_
    exact hB13
def jX5_park : mK := i_ald 0 (i_callV 5 0 FX5_fault (i_push (.int (-1)) (i_iceq (i_push (.int 0) (i_ist 1 (jX5_park_13))) (i_push (.int (-4)) (i_iret)))))
def FX5_park : mF := mEnt 2 jX5_park
set_option maxRecDepth 20000 in
theorem kX5_park (l : Launch) (G : va_G) (tg : Nat → ClassId) : Ct l G tg yX5_park cX5_park 2 (some FieldType.int) rX5_park FX5_park := by
  refine Ct.of RX5 (by decide) rfl (fun X C hX => ?_)
  unfold jX5_park
  refine Dn_ald_n (i := 0) (q := 1) C dX5_park_0 rfl rfl ?_
  refine Dn_callV (ci := 5) (T := TX5) (N := 25) (q := 4) C rfl (kX5_fault X.l X.G X.tg) q_803 q_867 q_801 q_802 q_50 ⟨rfl, rfl⟩ (by decide +kernel) ⟨by decide, by decide⟩ dX5_park_1 rfl ?_
  refine Dn_iconst (v := (-1)) (q := 5) C dX5_park_4 (by decide) rfl ?_
  refine Dn_iceq (t := 11) (q := 8) C dX5_park_5 (by decide) rfl ?_ ?_
  · refine Dn_iconst (v := 0) (q := 12) C dX5_park_11 (by decide) rfl ?_
    refine Dn_ist_n (i := 1) (q := 13) C dX5_park_12 rfl (by decide) rfl ?_
    exact JX5_park_13 C hX
  · refine Dn_bipush (v := (-4)) (q := 10) C dX5_park_8 (by decide) rfl ?_
    exact Dn_iret C hX dX5_park_10
abbrev rX5_isPlace : Room := ({ frames := 1, cells := 0, slots := 0, locals := 25 } : Room)
def jX5_isPlace : mK := i_ild 1 (i_i2l (i_push (.long 0) (i_ald 0 (i_get 5 6 (i_ald 0 (i_get 5 7 (i_ib (fun x y => x * y) (i_push (.int 1) (i_ib (fun x y => x - y) (i_i2l (i_call 3 FX5_in (i_nret .boolean))))))))))))
def FX5_isPlace : mF := mEnt 2 jX5_isPlace
set_option maxRecDepth 20000 in
theorem kX5_isPlace (l : Launch) (G : va_G) (tg : Nat → ClassId) : Ct l G tg yX5_isPlace cX5_isPlace 2 (some FieldType.boolean) rX5_isPlace FX5_isPlace := by
  refine Ct.of RX5 (by decide) rfl (fun X C hX => ?_)
  unfold jX5_isPlace
  refine Dn_ild_n (i := 1) (q := 1) C dX5_isPlace_0 rfl rfl ?_
  refine Dn_i2l (q := 2) C dX5_isPlace_1 rfl ?_
  refine Dn_lconst (v := 0) (q := 3) C dX5_isPlace_2 (by decide) rfl ?_
  refine Dn_ald_n (i := 0) (q := 4) C dX5_isPlace_3 rfl rfl ?_
  refine Dn_get (ci := 5) (j := 6) (T := TX5) (N := 25) (Cn := RX5) (q := 7) C rfl iX5 (by decide) q_716 dX5_isPlace_4 rfl ?_
  refine Dn_ald_n (i := 0) (q := 8) C dX5_isPlace_7 rfl rfl ?_
  refine Dn_get (ci := 5) (j := 7) (T := TX5) (N := 25) (Cn := RX5) (q := 11) C rfl iX5 (by decide) q_717 dX5_isPlace_8 rfl ?_
  refine Dn_imul (q := 12) C dX5_isPlace_11 rfl ?_
  refine Dn_iconst (v := 1) (q := 13) C dX5_isPlace_12 (by decide) rfl ?_
  refine Dn_isub (q := 14) C dX5_isPlace_13 rfl ?_
  refine Dn_i2l (q := 15) C dX5_isPlace_14 rfl ?_
  refine Dn_callS (q := 18) C (kX5_in X.l X.G X.tg) q_794 q_792 q_793 q_50 ⟨rfl, rfl⟩ (by decide +kernel) ⟨by decide, by decide⟩ dX5_isPlace_15 rfl ?_
  exact Dn_nret C hX dX5_isPlace_18
abbrev rX5_isBand : Room := ({ frames := 1, cells := 0, slots := 0, locals := 25 } : Room)
def jX5_isBand : mK := i_ild 1 (i_i2l (i_push (.long 0) (i_ald 0 (i_get 5 14 (i_push (.int 1) (i_ib (fun x y => x - y) (i_i2l (i_call 3 FX5_in (i_nret .boolean)))))))))
def FX5_isBand : mF := mEnt 2 jX5_isBand
set_option maxRecDepth 20000 in
theorem kX5_isBand (l : Launch) (G : va_G) (tg : Nat → ClassId) : Ct l G tg yX5_isBand cX5_isBand 2 (some FieldType.boolean) rX5_isBand FX5_isBand := by
  refine Ct.of RX5 (by decide) rfl (fun X C hX => ?_)
  unfold jX5_isBand
  refine Dn_ild_n (i := 1) (q := 1) C dX5_isBand_0 rfl rfl ?_
  refine Dn_i2l (q := 2) C dX5_isBand_1 rfl ?_
  refine Dn_lconst (v := 0) (q := 3) C dX5_isBand_2 (by decide) rfl ?_
  refine Dn_ald_n (i := 0) (q := 4) C dX5_isBand_3 rfl rfl ?_
  refine Dn_get (ci := 5) (j := 14) (T := TX5) (N := 25) (Cn := RX5) (q := 7) C rfl iX5 (by decide) q_724 dX5_isBand_4 rfl ?_
  refine Dn_iconst (v := 1) (q := 8) C dX5_isBand_7 (by decide) rfl ?_
  refine Dn_isub (q := 9) C dX5_isBand_8 rfl ?_
  refine Dn_i2l (q := 10) C dX5_isBand_9 rfl ?_
  refine Dn_callS (q := 13) C (kX5_in X.l X.G X.tg) q_794 q_792 q_793 q_50 ⟨rfl, rfl⟩ (by decide +kernel) ⟨by decide, by decide⟩ dX5_isBand_10 rfl ?_
  exact Dn_nret C hX dX5_isBand_13
abbrev rX5_far : Room := ({ frames := 0, cells := 0, slots := 0, locals := 0 } : Room)
def jX5_far_52 : mK := i_ib (fun x y => x + y) (i_iret)
set_option maxRecDepth 20000 in
theorem JX5_far_52 {X : mC} (C : Cx X rX5_far cX5_far 5 RX5 (some FieldType.int)) (hX : Rx X) : Den X rX5_far 5 52 jX5_far_52 := by
  unfold jX5_far_52
  refine Dn_iadd (q := 53) C dX5_far_52 rfl ?_
  exact Dn_iret C hX dX5_far_53
def jX5_far_39 : mK := i_ild 4 (i_ifge (i_ild 4 (jX5_far_52)) (i_ild 4 (i_ii (fun x => 0 - x) (jX5_far_52))))
set_option maxRecDepth 20000 in
theorem JX5_far_39 {X : mC} (C : Cx X rX5_far cX5_far 5 RX5 (some FieldType.int)) (hX : Rx X) : Den X rX5_far 5 39 jX5_far_39 := by
  unfold jX5_far_39
  refine Dn_ild (q := 41) C dX5_far_39 rfl ?_
  refine Dn_ifge (t := 50) (q := 44) C dX5_far_41 (by decide) rfl ?_ ?_
  · refine Dn_ild (q := 52) C dX5_far_50 rfl ?_
    exact JX5_far_52 C hX
  · refine Dn_ild (q := 46) C dX5_far_44 rfl ?_
    refine Dn_ineg (q := 47) C dX5_far_46 rfl ?_
    refine Dn_goto (t := 52) C dX5_far_47 (by decide) ?_
    exact JX5_far_52 C hX
def jX5_far : mK := i_ild 1 (i_ald 0 (i_get 5 6 (i_irem (i_ild 2 (i_ald 0 (i_get 5 6 (i_irem (i_ib (fun x y => x - y) (i_ist 3 (i_ild 1 (i_ald 0 (i_get 5 6 (i_idiv (i_ild 2 (i_ald 0 (i_get 5 6 (i_idiv (i_ib (fun x y => x - y) (i_ist 4 (i_ild 3 (i_ifge (i_ild 3 (jX5_far_39)) (i_ild 3 (i_ii (fun x => 0 - x) (jX5_far_39))))))))))))))))))))))))
def FX5_far : mF := mEnt 5 jX5_far
set_option maxRecDepth 20000 in
theorem kX5_far (l : Launch) (G : va_G) (tg : Nat → ClassId) : Ct l G tg yX5_far cX5_far 5 (some FieldType.int) rX5_far FX5_far := by
  refine Ct.of RX5 (by decide) rfl (fun X C hX => ?_)
  unfold jX5_far
  refine Dn_ild_n (i := 1) (q := 1) C dX5_far_0 rfl rfl ?_
  refine Dn_ald_n (i := 0) (q := 2) C dX5_far_1 rfl rfl ?_
  refine Dn_get (ci := 5) (j := 6) (T := TX5) (N := 25) (Cn := RX5) (q := 5) C rfl iX5 (by decide) q_716 dX5_far_2 rfl ?_
  refine Dn_irem (q := 6) C dX5_far_5 rfl ?_
  refine Dn_ild_n (i := 2) (q := 7) C dX5_far_6 rfl rfl ?_
  refine Dn_ald_n (i := 0) (q := 8) C dX5_far_7 rfl rfl ?_
  refine Dn_get (ci := 5) (j := 6) (T := TX5) (N := 25) (Cn := RX5) (q := 11) C rfl iX5 (by decide) q_716 dX5_far_8 rfl ?_
  refine Dn_irem (q := 12) C dX5_far_11 rfl ?_
  refine Dn_isub (q := 13) C dX5_far_12 rfl ?_
  refine Dn_ist_n (i := 3) (q := 14) C dX5_far_13 rfl (by decide) rfl ?_
  refine Dn_ild_n (i := 1) (q := 15) C dX5_far_14 rfl rfl ?_
  refine Dn_ald_n (i := 0) (q := 16) C dX5_far_15 rfl rfl ?_
  refine Dn_get (ci := 5) (j := 6) (T := TX5) (N := 25) (Cn := RX5) (q := 19) C rfl iX5 (by decide) q_716 dX5_far_16 rfl ?_
  refine Dn_idiv (q := 20) C dX5_far_19 rfl ?_
  refine Dn_ild_n (i := 2) (q := 21) C dX5_far_20 rfl rfl ?_
  refine Dn_ald_n (i := 0) (q := 22) C dX5_far_21 rfl rfl ?_
  refine Dn_get (ci := 5) (j := 6) (T := TX5) (N := 25) (Cn := RX5) (q := 25) C rfl iX5 (by decide) q_716 dX5_far_22 rfl ?_
  refine Dn_idiv (q := 26) C dX5_far_25 rfl ?_
  refine Dn_isub (q := 27) C dX5_far_26 rfl ?_
  refine Dn_ist (q := 29) C dX5_far_27 (by decide) rfl ?_
  refine Dn_ild_n (i := 3) (q := 30) C dX5_far_29 rfl rfl ?_
  refine Dn_ifge (t := 38) (q := 33) C dX5_far_30 (by decide) rfl ?_ ?_
  · refine Dn_ild_n (i := 3) (q := 39) C dX5_far_38 rfl rfl ?_
    exact JX5_far_39 C hX
  · refine Dn_ild_n (i := 3) (q := 34) C dX5_far_33 rfl rfl ?_
    refine Dn_ineg (q := 35) C dX5_far_34 rfl ?_
    refine Dn_goto (t := 39) C dX5_far_35 (by decide) ?_
    exact JX5_far_39 C hX
abbrev rX5_fluteAt : Room := ({ frames := 1, cells := 0, slots := 0, locals := 24 } : Room)
def jX5_fluteAt_29 : mK := i_iret
set_option maxRecDepth 20000 in
theorem JX5_fluteAt_29 {X : mC} (C : Cx X rX5_fluteAt cX5_fluteAt 3 RX5 (some FieldType.int)) (hX : Rx X) : Den X rX5_fluteAt 3 29 jX5_fluteAt_29 := by
  unfold jX5_fluteAt_29
  exact Dn_iret C hX dX5_fluteAt_29
def jX5_fluteAt : mK := i_ald 0 (i_get 5 10 (i_ald 0 (i_get 5 8 (i_ald 0 (i_ald 0 (i_get 5 9 (i_ild 1 (i_callV 5 2 FX5_far (i_ib (fun x y => x * y) (i_ib (fun x y => x - y) (i_ist 2 (i_ild 2 (i_ifle (i_push (.int 0) (jX5_fluteAt_29)) (i_ild 2 (jX5_fluteAt_29)))))))))))))))
def FX5_fluteAt : mF := mEnt 3 jX5_fluteAt
set_option maxRecDepth 20000 in
theorem kX5_fluteAt (l : Launch) (G : va_G) (tg : Nat → ClassId) : Ct l G tg yX5_fluteAt cX5_fluteAt 3 (some FieldType.int) rX5_fluteAt FX5_fluteAt := by
  refine Ct.of RX5 (by decide) rfl (fun X C hX => ?_)
  unfold jX5_fluteAt
  refine Dn_ald_n (i := 0) (q := 1) C dX5_fluteAt_0 rfl rfl ?_
  refine Dn_get (ci := 5) (j := 10) (T := TX5) (N := 25) (Cn := RX5) (q := 4) C rfl iX5 (by decide) q_720 dX5_fluteAt_1 rfl ?_
  refine Dn_ald_n (i := 0) (q := 5) C dX5_fluteAt_4 rfl rfl ?_
  refine Dn_get (ci := 5) (j := 8) (T := TX5) (N := 25) (Cn := RX5) (q := 8) C rfl iX5 (by decide) q_718 dX5_fluteAt_5 rfl ?_
  refine Dn_ald_n (i := 0) (q := 9) C dX5_fluteAt_8 rfl rfl ?_
  refine Dn_ald_n (i := 0) (q := 10) C dX5_fluteAt_9 rfl rfl ?_
  refine Dn_get (ci := 5) (j := 9) (T := TX5) (N := 25) (Cn := RX5) (q := 13) C rfl iX5 (by decide) q_719 dX5_fluteAt_10 rfl ?_
  refine Dn_ild_n (i := 1) (q := 14) C dX5_fluteAt_13 rfl rfl ?_
  refine Dn_callV (ci := 5) (T := TX5) (N := 25) (q := 17) C rfl (kX5_far X.l X.G X.tg) q_895 q_892 q_894 q_28 q_50 ⟨rfl, rfl⟩ (by decide +kernel) ⟨by decide, by decide⟩ dX5_fluteAt_14 rfl ?_
  refine Dn_imul (q := 18) C dX5_fluteAt_17 rfl ?_
  refine Dn_isub (q := 19) C dX5_fluteAt_18 rfl ?_
  refine Dn_ist_n (i := 2) (q := 20) C dX5_fluteAt_19 rfl (by decide) rfl ?_
  refine Dn_ild_n (i := 2) (q := 21) C dX5_fluteAt_20 rfl rfl ?_
  refine Dn_ifle (t := 28) (q := 24) C dX5_fluteAt_21 (by decide) rfl ?_ ?_
  · refine Dn_iconst (v := 0) (q := 29) C dX5_fluteAt_28 (by decide) rfl ?_
    exact JX5_fluteAt_29 C hX
  · refine Dn_ild_n (i := 2) (q := 25) C dX5_fluteAt_24 rfl rfl ?_
    refine Dn_goto (t := 29) C dX5_fluteAt_25 (by decide) ?_
    exact JX5_fluteAt_29 C hX
abbrev rX5_isToSide : Room := ({ frames := 0, cells := 0, slots := 0, locals := 0 } : Room)
def jX5_isToSide_122 : mK := i_nret .boolean
set_option maxRecDepth 20000 in
theorem JX5_isToSide_122 {X : mC} (C : Cx X rX5_isToSide cX5_isToSide 7 RX5 (some FieldType.boolean)) (hX : Rx X) : Den X rX5_isToSide 7 122 jX5_isToSide_122 := by
  unfold jX5_isToSide_122
  exact Dn_nret C hX dX5_isToSide_122
def jX5_isToSide : mK := i_ald 0 (i_get 5 13 (i_push (.int 7) (i_ild 1 (i_ib (fun x y => x * y) (i_push (.int 1) (i_ib (fun x y => x + y) (i_iald (i_ist 3 (i_ald 0 (i_get 5 13 (i_push (.int 7) (i_ild 1 (i_ib (fun x y => x * y) (i_push (.int 6) (i_ib (fun x y => x + y) (i_iald (i_ist 4 (i_ild 2 (i_ald 0 (i_get 5 6 (i_irem (i_ild 3 (i_ald 0 (i_get 5 6 (i_irem (i_ib (fun x y => x - y) (i_ist 5 (i_ild 2 (i_ald 0 (i_get 5 6 (i_idiv (i_ild 3 (i_ald 0 (i_get 5 6 (i_idiv (i_ib (fun x y => x - y) (i_ist 6 (i_ild 4 (i_ifne (i_ild 4 (i_push (.int 1) (i_icne (i_ild 4 (i_push (.int 2) (i_icne (i_ild 5 (i_ifge (i_push (.int 0) (jX5_isToSide_122)) (i_push (.int 1) (jX5_isToSide_122)))) (i_ild 6 (i_ifle (i_push (.int 0) (jX5_isToSide_122)) (i_push (.int 1) (jX5_isToSide_122))))))) (i_ild 5 (i_ifle (i_push (.int 0) (jX5_isToSide_122)) (i_push (.int 1) (jX5_isToSide_122))))))) (i_ild 6 (i_ifge (i_push (.int 0) (jX5_isToSide_122)) (i_push (.int 1) (jX5_isToSide_122)))))))))))))))))))))))))))))))))))))))))))
def FX5_isToSide : mF := mEnt 7 jX5_isToSide
set_option maxRecDepth 20000 in
theorem kX5_isToSide (l : Launch) (G : va_G) (tg : Nat → ClassId) : Ct l G tg yX5_isToSide cX5_isToSide 7 (some FieldType.boolean) rX5_isToSide FX5_isToSide := by
  refine Ct.of RX5 (by decide) rfl (fun X C hX => ?_)
  unfold jX5_isToSide
  refine Dn_ald_n (i := 0) (q := 1) C dX5_isToSide_0 rfl rfl ?_
  refine Dn_get (ci := 5) (j := 13) (T := TX5) (N := 25) (Cn := RX5) (q := 4) C rfl iX5 (by decide) q_723 dX5_isToSide_1 rfl ?_
  refine Dn_bipush (v := 7) (q := 6) C dX5_isToSide_4 (by decide) rfl ?_
  refine Dn_ild_n (i := 1) (q := 7) C dX5_isToSide_6 rfl rfl ?_
  refine Dn_imul (q := 8) C dX5_isToSide_7 rfl ?_
  refine Dn_iconst (v := 1) (q := 9) C dX5_isToSide_8 (by decide) rfl ?_
  refine Dn_iadd (q := 10) C dX5_isToSide_9 rfl ?_
  refine Dn_iald (q := 11) C dX5_isToSide_10 rfl ?_
  refine Dn_ist_n (i := 3) (q := 12) C dX5_isToSide_11 rfl (by decide) rfl ?_
  refine Dn_ald_n (i := 0) (q := 13) C dX5_isToSide_12 rfl rfl ?_
  refine Dn_get (ci := 5) (j := 13) (T := TX5) (N := 25) (Cn := RX5) (q := 16) C rfl iX5 (by decide) q_723 dX5_isToSide_13 rfl ?_
  refine Dn_bipush (v := 7) (q := 18) C dX5_isToSide_16 (by decide) rfl ?_
  refine Dn_ild_n (i := 1) (q := 19) C dX5_isToSide_18 rfl rfl ?_
  refine Dn_imul (q := 20) C dX5_isToSide_19 rfl ?_
  refine Dn_bipush (v := 6) (q := 22) C dX5_isToSide_20 (by decide) rfl ?_
  refine Dn_iadd (q := 23) C dX5_isToSide_22 rfl ?_
  refine Dn_iald (q := 24) C dX5_isToSide_23 rfl ?_
  refine Dn_ist (q := 26) C dX5_isToSide_24 (by decide) rfl ?_
  refine Dn_ild_n (i := 2) (q := 27) C dX5_isToSide_26 rfl rfl ?_
  refine Dn_ald_n (i := 0) (q := 28) C dX5_isToSide_27 rfl rfl ?_
  refine Dn_get (ci := 5) (j := 6) (T := TX5) (N := 25) (Cn := RX5) (q := 31) C rfl iX5 (by decide) q_716 dX5_isToSide_28 rfl ?_
  refine Dn_irem (q := 32) C dX5_isToSide_31 rfl ?_
  refine Dn_ild_n (i := 3) (q := 33) C dX5_isToSide_32 rfl rfl ?_
  refine Dn_ald_n (i := 0) (q := 34) C dX5_isToSide_33 rfl rfl ?_
  refine Dn_get (ci := 5) (j := 6) (T := TX5) (N := 25) (Cn := RX5) (q := 37) C rfl iX5 (by decide) q_716 dX5_isToSide_34 rfl ?_
  refine Dn_irem (q := 38) C dX5_isToSide_37 rfl ?_
  refine Dn_isub (q := 39) C dX5_isToSide_38 rfl ?_
  refine Dn_ist (q := 41) C dX5_isToSide_39 (by decide) rfl ?_
  refine Dn_ild_n (i := 2) (q := 42) C dX5_isToSide_41 rfl rfl ?_
  refine Dn_ald_n (i := 0) (q := 43) C dX5_isToSide_42 rfl rfl ?_
  refine Dn_get (ci := 5) (j := 6) (T := TX5) (N := 25) (Cn := RX5) (q := 46) C rfl iX5 (by decide) q_716 dX5_isToSide_43 rfl ?_
  refine Dn_idiv (q := 47) C dX5_isToSide_46 rfl ?_
  refine Dn_ild_n (i := 3) (q := 48) C dX5_isToSide_47 rfl rfl ?_
  refine Dn_ald_n (i := 0) (q := 49) C dX5_isToSide_48 rfl rfl ?_
  refine Dn_get (ci := 5) (j := 6) (T := TX5) (N := 25) (Cn := RX5) (q := 52) C rfl iX5 (by decide) q_716 dX5_isToSide_49 rfl ?_
  refine Dn_idiv (q := 53) C dX5_isToSide_52 rfl ?_
  refine Dn_isub (q := 54) C dX5_isToSide_53 rfl ?_
  refine Dn_ist (q := 56) C dX5_isToSide_54 (by decide) rfl ?_
  refine Dn_ild (q := 58) C dX5_isToSide_56 rfl ?_
  refine Dn_ifne (t := 74) (q := 61) C dX5_isToSide_58 (by decide) rfl ?_ ?_
  · refine Dn_ild (q := 76) C dX5_isToSide_74 rfl ?_
    refine Dn_iconst (v := 1) (q := 77) C dX5_isToSide_76 (by decide) rfl ?_
    refine Dn_icne (t := 93) (q := 80) C dX5_isToSide_77 (by decide) rfl ?_ ?_
    · refine Dn_ild (q := 95) C dX5_isToSide_93 rfl ?_
      refine Dn_iconst (v := 2) (q := 96) C dX5_isToSide_95 (by decide) rfl ?_
      refine Dn_icne (t := 112) (q := 99) C dX5_isToSide_96 (by decide) rfl ?_ ?_
      · refine Dn_ild (q := 114) C dX5_isToSide_112 rfl ?_
        refine Dn_ifge (t := 121) (q := 117) C dX5_isToSide_114 (by decide) rfl ?_ ?_
        · refine Dn_iconst (v := 0) (q := 122) C dX5_isToSide_121 (by decide) rfl ?_
          exact JX5_isToSide_122 C hX
        · refine Dn_iconst (v := 1) (q := 118) C dX5_isToSide_117 (by decide) rfl ?_
          refine Dn_goto (t := 122) C dX5_isToSide_118 (by decide) ?_
          exact JX5_isToSide_122 C hX
      · refine Dn_ild (q := 101) C dX5_isToSide_99 rfl ?_
        refine Dn_ifle (t := 108) (q := 104) C dX5_isToSide_101 (by decide) rfl ?_ ?_
        · refine Dn_iconst (v := 0) (q := 109) C dX5_isToSide_108 (by decide) rfl ?_
          refine Dn_goto (t := 122) C dX5_isToSide_109 (by decide) ?_
          exact JX5_isToSide_122 C hX
        · refine Dn_iconst (v := 1) (q := 105) C dX5_isToSide_104 (by decide) rfl ?_
          refine Dn_goto (t := 122) C dX5_isToSide_105 (by decide) ?_
          exact JX5_isToSide_122 C hX
    · refine Dn_ild (q := 82) C dX5_isToSide_80 rfl ?_
      refine Dn_ifle (t := 89) (q := 85) C dX5_isToSide_82 (by decide) rfl ?_ ?_
      · refine Dn_iconst (v := 0) (q := 90) C dX5_isToSide_89 (by decide) rfl ?_
        refine Dn_goto (t := 122) C dX5_isToSide_90 (by decide) ?_
        exact JX5_isToSide_122 C hX
      · refine Dn_iconst (v := 1) (q := 86) C dX5_isToSide_85 (by decide) rfl ?_
        refine Dn_goto (t := 122) C dX5_isToSide_86 (by decide) ?_
        exact JX5_isToSide_122 C hX
  · refine Dn_ild (q := 63) C dX5_isToSide_61 rfl ?_
    refine Dn_ifge (t := 70) (q := 66) C dX5_isToSide_63 (by decide) rfl ?_ ?_
    · refine Dn_iconst (v := 0) (q := 71) C dX5_isToSide_70 (by decide) rfl ?_
      refine Dn_goto (t := 122) C dX5_isToSide_71 (by decide) ?_
      exact JX5_isToSide_122 C hX
    · refine Dn_iconst (v := 1) (q := 67) C dX5_isToSide_66 (by decide) rfl ?_
      refine Dn_goto (t := 122) C dX5_isToSide_67 (by decide) ?_
      exact JX5_isToSide_122 C hX
abbrev rX5_soundOf : Room := ({ frames := 1, cells := 0, slots := 0, locals := 26 } : Room)
def jX5_soundOf_151 : mK := i_iret
set_option maxRecDepth 20000 in
theorem JX5_soundOf_151 {X : mC} (C : Cx X rX5_soundOf cX5_soundOf 7 RX5 (some FieldType.int)) (hX : Rx X) : Den X rX5_soundOf 7 151 jX5_soundOf_151 := by
  unfold jX5_soundOf_151
  exact Dn_iret C hX dX5_soundOf_151
def jX5_soundOf_149 : mK := i_ild 6 (jX5_soundOf_151)
set_option maxRecDepth 20000 in
theorem JX5_soundOf_149 {X : mC} (C : Cx X rX5_soundOf cX5_soundOf 7 RX5 (some FieldType.int)) (hX : Rx X) : Den X rX5_soundOf 7 149 jX5_soundOf_149 := by
  unfold jX5_soundOf_149
  refine Dn_ild (q := 151) C dX5_soundOf_149 rfl ?_
  exact JX5_soundOf_151 C hX
def jX5_soundOf_115 : mK := i_ist 6 (i_ild 5 (i_push (.int 3) (i_iceq (jX5_soundOf_149) (i_ald 0 (i_get 5 12 (i_ald 0 (i_get 5 13 (i_ild 4 (i_push (.int 1) (i_ib (fun x y => x + y) (i_iald (i_call 2 FX5_has (i_ifeq (jX5_soundOf_149) (i_ild 6 (i_push (.int 2) (i_idiv (jX5_soundOf_151)))))))))))))))))
set_option maxRecDepth 20000 in
theorem JX5_soundOf_115 {X : mC} (C : Cx X rX5_soundOf cX5_soundOf 7 RX5 (some FieldType.int)) (hX : Rx X) : Den X rX5_soundOf 7 115 jX5_soundOf_115 := by
  unfold jX5_soundOf_115
  refine Dn_ist (q := 117) C dX5_soundOf_115 (by decide) rfl ?_
  refine Dn_ild (q := 119) C dX5_soundOf_117 rfl ?_
  refine Dn_iconst (v := 3) (q := 120) C dX5_soundOf_119 (by decide) rfl ?_
  refine Dn_iceq (t := 149) (q := 123) C dX5_soundOf_120 (by decide) rfl ?_ ?_
  · exact JX5_soundOf_149 C hX
  · refine Dn_ald_n (i := 0) (q := 124) C dX5_soundOf_123 rfl rfl ?_
    refine Dn_get (ci := 5) (j := 12) (T := TX5) (N := 25) (Cn := RX5) (q := 127) C rfl iX5 (by decide) q_722 dX5_soundOf_124 rfl ?_
    refine Dn_ald_n (i := 0) (q := 128) C dX5_soundOf_127 rfl rfl ?_
    refine Dn_get (ci := 5) (j := 13) (T := TX5) (N := 25) (Cn := RX5) (q := 131) C rfl iX5 (by decide) q_723 dX5_soundOf_128 rfl ?_
    refine Dn_ild (q := 133) C dX5_soundOf_131 rfl ?_
    refine Dn_iconst (v := 1) (q := 134) C dX5_soundOf_133 (by decide) rfl ?_
    refine Dn_iadd (q := 135) C dX5_soundOf_134 rfl ?_
    refine Dn_iald (q := 136) C dX5_soundOf_135 rfl ?_
    refine Dn_callS (q := 139) C (kX5_has X.l X.G X.tg) q_862 q_860 q_861 q_50 ⟨rfl, rfl⟩ (by decide +kernel) ⟨by decide, by decide⟩ dX5_soundOf_136 rfl ?_
    refine Dn_ifeq (t := 149) (q := 142) C dX5_soundOf_139 (by decide) rfl ?_ ?_
    · exact JX5_soundOf_149 C hX
    · refine Dn_ild (q := 144) C dX5_soundOf_142 rfl ?_
      refine Dn_iconst (v := 2) (q := 145) C dX5_soundOf_144 (by decide) rfl ?_
      refine Dn_idiv (q := 146) C dX5_soundOf_145 rfl ?_
      refine Dn_goto (t := 151) C dX5_soundOf_146 (by decide) ?_
      exact JX5_soundOf_151 C hX
def jX5_soundOf_73 : mK := i_ald 0 (i_get 5 13 (i_ild 4 (i_push (.int 2) (i_ib (fun x y => x + y) (i_iald (i_ald 0 (i_get 5 8 (i_ald 0 (i_ald 0 (i_get 5 13 (i_ild 4 (i_push (.int 1) (i_ib (fun x y => x + y) (i_iald (i_ild 2 (i_callV 5 2 FX5_far (i_ib (fun x y => x * y) (i_ib (fun x y => x - y) (i_ist 6 (i_ild 6 (i_ifle (i_push (.int 0) (jX5_soundOf_115)) (i_ild 6 (jX5_soundOf_115)))))))))))))))))))))))
set_option maxRecDepth 20000 in
theorem JX5_soundOf_73 {X : mC} (C : Cx X rX5_soundOf cX5_soundOf 7 RX5 (some FieldType.int)) (hX : Rx X) : Den X rX5_soundOf 7 73 jX5_soundOf_73 := by
  unfold jX5_soundOf_73
  refine Dn_ald_n (i := 0) (q := 74) C dX5_soundOf_73 rfl rfl ?_
  refine Dn_get (ci := 5) (j := 13) (T := TX5) (N := 25) (Cn := RX5) (q := 77) C rfl iX5 (by decide) q_723 dX5_soundOf_74 rfl ?_
  refine Dn_ild (q := 79) C dX5_soundOf_77 rfl ?_
  refine Dn_iconst (v := 2) (q := 80) C dX5_soundOf_79 (by decide) rfl ?_
  refine Dn_iadd (q := 81) C dX5_soundOf_80 rfl ?_
  refine Dn_iald (q := 82) C dX5_soundOf_81 rfl ?_
  refine Dn_ald_n (i := 0) (q := 83) C dX5_soundOf_82 rfl rfl ?_
  refine Dn_get (ci := 5) (j := 8) (T := TX5) (N := 25) (Cn := RX5) (q := 86) C rfl iX5 (by decide) q_718 dX5_soundOf_83 rfl ?_
  refine Dn_ald_n (i := 0) (q := 87) C dX5_soundOf_86 rfl rfl ?_
  refine Dn_ald_n (i := 0) (q := 88) C dX5_soundOf_87 rfl rfl ?_
  refine Dn_get (ci := 5) (j := 13) (T := TX5) (N := 25) (Cn := RX5) (q := 91) C rfl iX5 (by decide) q_723 dX5_soundOf_88 rfl ?_
  refine Dn_ild (q := 93) C dX5_soundOf_91 rfl ?_
  refine Dn_iconst (v := 1) (q := 94) C dX5_soundOf_93 (by decide) rfl ?_
  refine Dn_iadd (q := 95) C dX5_soundOf_94 rfl ?_
  refine Dn_iald (q := 96) C dX5_soundOf_95 rfl ?_
  refine Dn_ild_n (i := 2) (q := 97) C dX5_soundOf_96 rfl rfl ?_
  refine Dn_callV (ci := 5) (T := TX5) (N := 25) (q := 100) C rfl (kX5_far X.l X.G X.tg) q_895 q_892 q_894 q_28 q_50 ⟨rfl, rfl⟩ (by decide +kernel) ⟨by decide, by decide⟩ dX5_soundOf_97 rfl ?_
  refine Dn_imul (q := 101) C dX5_soundOf_100 rfl ?_
  refine Dn_isub (q := 102) C dX5_soundOf_101 rfl ?_
  refine Dn_ist (q := 104) C dX5_soundOf_102 (by decide) rfl ?_
  refine Dn_ild (q := 106) C dX5_soundOf_104 rfl ?_
  refine Dn_ifle (t := 114) (q := 109) C dX5_soundOf_106 (by decide) rfl ?_ ?_
  · refine Dn_iconst (v := 0) (q := 115) C dX5_soundOf_114 (by decide) rfl ?_
    exact JX5_soundOf_115 C hX
  · refine Dn_ild (q := 111) C dX5_soundOf_109 rfl ?_
    refine Dn_goto (t := 115) C dX5_soundOf_111 (by decide) ?_
    exact JX5_soundOf_115 C hX
def jX5_soundOf_71 : mK := i_push (.int 0) (i_iret)
set_option maxRecDepth 20000 in
theorem JX5_soundOf_71 {X : mC} (C : Cx X rX5_soundOf cX5_soundOf 7 RX5 (some FieldType.int)) (hX : Rx X) : Den X rX5_soundOf 7 71 jX5_soundOf_71 := by
  unfold jX5_soundOf_71
  refine Dn_iconst (v := 0) (q := 72) C dX5_soundOf_71 (by decide) rfl ?_
  exact Dn_iret C hX dX5_soundOf_72
def jX5_soundOf_56 : mK := i_ild 5 (i_push (.int 1) (i_icne (jX5_soundOf_73) (i_ald 0 (i_ild 1 (i_ild 2 (i_callV 5 2 FX5_isToSide (i_ifne (jX5_soundOf_73) (jX5_soundOf_71))))))))
set_option maxRecDepth 20000 in
theorem JX5_soundOf_56 {X : mC} (C : Cx X rX5_soundOf cX5_soundOf 7 RX5 (some FieldType.int)) (hX : Rx X) : Den X rX5_soundOf 7 56 jX5_soundOf_56 := by
  unfold jX5_soundOf_56
  refine Dn_ild (q := 58) C dX5_soundOf_56 rfl ?_
  refine Dn_iconst (v := 1) (q := 59) C dX5_soundOf_58 (by decide) rfl ?_
  refine Dn_icne (t := 73) (q := 62) C dX5_soundOf_59 (by decide) rfl ?_ ?_
  · exact JX5_soundOf_73 C hX
  · refine Dn_ald_n (i := 0) (q := 63) C dX5_soundOf_62 rfl rfl ?_
    refine Dn_ild_n (i := 1) (q := 64) C dX5_soundOf_63 rfl rfl ?_
    refine Dn_ild_n (i := 2) (q := 65) C dX5_soundOf_64 rfl rfl ?_
    refine Dn_callV (ci := 5) (T := TX5) (N := 25) (q := 68) C rfl (kX5_isToSide X.l X.G X.tg) q_916 q_913 q_915 q_31 q_50 ⟨rfl, rfl⟩ (by decide +kernel) ⟨by decide, by decide⟩ dX5_soundOf_65 rfl ?_
    refine Dn_ifne (t := 73) (q := 71) C dX5_soundOf_68 (by decide) rfl ?_ ?_
    · exact JX5_soundOf_73 C hX
    · exact JX5_soundOf_71 C hX
def jX5_soundOf : mK := i_push (.int 7) (i_ild 1 (i_ib (fun x y => x * y) (i_ist 4 (i_ald 0 (i_get 5 13 (i_ild 4 (i_iald (i_ist 5 (i_ild 3 (i_i2l (i_ald 0 (i_get 5 13 (i_ild 4 (i_push (.int 3) (i_ib (fun x y => x + y) (i_iald (i_i2l (i_ald 0 (i_get 5 13 (i_ild 4 (i_push (.int 4) (i_ib (fun x y => x + y) (i_iald (i_i2l (i_call 3 FX5_in (i_ifeq (jX5_soundOf_71) (i_ild 5 (i_push (.int 2) (i_icne (jX5_soundOf_56) (i_ild 3 (i_push (.int 2) (i_irem (i_push (.int 1) (i_iceq (jX5_soundOf_71) (jX5_soundOf_56)))))))))))))))))))))))))))))))))))
def FX5_soundOf : mF := mEnt 7 jX5_soundOf
set_option maxRecDepth 20000 in
theorem kX5_soundOf (l : Launch) (G : va_G) (tg : Nat → ClassId) : Ct l G tg yX5_soundOf cX5_soundOf 7 (some FieldType.int) rX5_soundOf FX5_soundOf := by
  refine Ct.of RX5 (by decide) rfl (fun X C hX => ?_)
  unfold jX5_soundOf
  refine Dn_bipush (v := 7) (q := 2) C dX5_soundOf_0 (by decide) rfl ?_
  refine Dn_ild_n (i := 1) (q := 3) C dX5_soundOf_2 rfl rfl ?_
  refine Dn_imul (q := 4) C dX5_soundOf_3 rfl ?_
  refine Dn_ist (q := 6) C dX5_soundOf_4 (by decide) rfl ?_
  refine Dn_ald_n (i := 0) (q := 7) C dX5_soundOf_6 rfl rfl ?_
  refine Dn_get (ci := 5) (j := 13) (T := TX5) (N := 25) (Cn := RX5) (q := 10) C rfl iX5 (by decide) q_723 dX5_soundOf_7 rfl ?_
  refine Dn_ild (q := 12) C dX5_soundOf_10 rfl ?_
  refine Dn_iald (q := 13) C dX5_soundOf_12 rfl ?_
  refine Dn_ist (q := 15) C dX5_soundOf_13 (by decide) rfl ?_
  refine Dn_ild_n (i := 3) (q := 16) C dX5_soundOf_15 rfl rfl ?_
  refine Dn_i2l (q := 17) C dX5_soundOf_16 rfl ?_
  refine Dn_ald_n (i := 0) (q := 18) C dX5_soundOf_17 rfl rfl ?_
  refine Dn_get (ci := 5) (j := 13) (T := TX5) (N := 25) (Cn := RX5) (q := 21) C rfl iX5 (by decide) q_723 dX5_soundOf_18 rfl ?_
  refine Dn_ild (q := 23) C dX5_soundOf_21 rfl ?_
  refine Dn_iconst (v := 3) (q := 24) C dX5_soundOf_23 (by decide) rfl ?_
  refine Dn_iadd (q := 25) C dX5_soundOf_24 rfl ?_
  refine Dn_iald (q := 26) C dX5_soundOf_25 rfl ?_
  refine Dn_i2l (q := 27) C dX5_soundOf_26 rfl ?_
  refine Dn_ald_n (i := 0) (q := 28) C dX5_soundOf_27 rfl rfl ?_
  refine Dn_get (ci := 5) (j := 13) (T := TX5) (N := 25) (Cn := RX5) (q := 31) C rfl iX5 (by decide) q_723 dX5_soundOf_28 rfl ?_
  refine Dn_ild (q := 33) C dX5_soundOf_31 rfl ?_
  refine Dn_iconst (v := 4) (q := 34) C dX5_soundOf_33 (by decide) rfl ?_
  refine Dn_iadd (q := 35) C dX5_soundOf_34 rfl ?_
  refine Dn_iald (q := 36) C dX5_soundOf_35 rfl ?_
  refine Dn_i2l (q := 37) C dX5_soundOf_36 rfl ?_
  refine Dn_callS (q := 40) C (kX5_in X.l X.G X.tg) q_794 q_792 q_793 q_50 ⟨rfl, rfl⟩ (by decide +kernel) ⟨by decide, by decide⟩ dX5_soundOf_37 rfl ?_
  refine Dn_ifeq (t := 71) (q := 43) C dX5_soundOf_40 (by decide) rfl ?_ ?_
  · exact JX5_soundOf_71 C hX
  · refine Dn_ild (q := 45) C dX5_soundOf_43 rfl ?_
    refine Dn_iconst (v := 2) (q := 46) C dX5_soundOf_45 (by decide) rfl ?_
    refine Dn_icne (t := 56) (q := 49) C dX5_soundOf_46 (by decide) rfl ?_ ?_
    · exact JX5_soundOf_56 C hX
    · refine Dn_ild_n (i := 3) (q := 50) C dX5_soundOf_49 rfl rfl ?_
      refine Dn_iconst (v := 2) (q := 51) C dX5_soundOf_50 (by decide) rfl ?_
      refine Dn_irem (q := 52) C dX5_soundOf_51 rfl ?_
      refine Dn_iconst (v := 1) (q := 53) C dX5_soundOf_52 (by decide) rfl ?_
      refine Dn_iceq (t := 71) (q := 56) C dX5_soundOf_53 (by decide) rfl ?_ ?_
      · exact JX5_soundOf_71 C hX
      · exact JX5_soundOf_56 C hX
abbrev rX5_noiseBy : Room := ({ frames := 2, cells := 0, slots := 0, locals := 52 } : Room)
def jX5_noiseBy_39 (B6 : mK) : mK := i_ib (fun x y => x + y) (i_ist 4 (i_inc 5 1 (B6)))
set_option maxRecDepth 20000 in
theorem JX5_noiseBy_39 {X : mC} (C : Cx X rX5_noiseBy cX5_noiseBy 6 RX5 (some FieldType.int)) (hX : Rx X) (B6 : mK) (hB6 : Den X rX5_noiseBy 6 6 B6) : Den X rX5_noiseBy 6 39 (jX5_noiseBy_39 B6) := by
  unfold jX5_noiseBy_39
  refine Dn_iadd (q := 40) C dX5_noiseBy_39 rfl ?_
  refine Dn_ist (q := 42) C dX5_noiseBy_40 (by decide) rfl ?_
  refine Dn_inc (z := 1) (q := 45) C dX5_noiseBy_42 (by decide) (by decide) rfl ?_
  refine Dn_goto (t := 6) C dX5_noiseBy_45 (by decide) ?_
  exact hB6
def jX5_noiseBy_6 : mK := i_loop (fun B6 => i_ild 5 (i_ald 0 (i_get 5 14 (i_icge (i_ild 4 (i_iret)) (i_ild 4 (i_ild 1 (i_i2l (i_ild 5 (i_call 2 FX5_has (i_ifeq (i_push (.int 0) ((jX5_noiseBy_39 B6))) (i_ald 0 (i_ild 5 (i_ild 2 (i_ild 3 (i_callV 5 3 FX5_soundOf ((jX5_noiseBy_39 B6))))))))))))))))) 1000
set_option maxRecDepth 20000 in
theorem JX5_noiseBy_6 {X : mC} (C : Cx X rX5_noiseBy cX5_noiseBy 6 RX5 (some FieldType.int)) (hX : Rx X) : Den X rX5_noiseBy 6 6 jX5_noiseBy_6 := by
  unfold jX5_noiseBy_6
  refine Dn_loop (fun B6 hB6 => ?_) 1000
  refine Dn_ild (q := 8) C dX5_noiseBy_6 rfl ?_
  refine Dn_ald_n (i := 0) (q := 9) C dX5_noiseBy_8 rfl rfl ?_
  refine Dn_get (ci := 5) (j := 14) (T := TX5) (N := 25) (Cn := RX5) (q := 12) C rfl iX5 (by decide) q_724 dX5_noiseBy_9 rfl ?_
  refine Dn_icge (t := 48) (q := 15) C dX5_noiseBy_12 (by decide) rfl ?_ ?_
  · refine Dn_ild (q := 50) C dX5_noiseBy_48 rfl ?_
    exact Dn_iret C hX dX5_noiseBy_50
  · refine Dn_ild (q := 17) C dX5_noiseBy_15 rfl ?_
    refine Dn_ild_n (i := 1) (q := 18) C dX5_noiseBy_17 rfl rfl ?_
    refine Dn_i2l (q := 19) C dX5_noiseBy_18 rfl ?_
    refine Dn_ild (q := 21) C dX5_noiseBy_19 rfl ?_
    refine Dn_callS (q := 24) C (kX5_has X.l X.G X.tg) q_862 q_860 q_861 q_50 ⟨rfl, rfl⟩ (by decide +kernel) ⟨by decide, by decide⟩ dX5_noiseBy_21 rfl ?_
    refine Dn_ifeq (t := 38) (q := 27) C dX5_noiseBy_24 (by decide) rfl ?_ ?_
    · refine Dn_iconst (v := 0) (q := 39) C dX5_noiseBy_38 (by decide) rfl ?_
      exact JX5_noiseBy_39 C hX B6 hB6
    · refine Dn_ald_n (i := 0) (q := 28) C dX5_noiseBy_27 rfl rfl ?_
      refine Dn_ild (q := 30) C dX5_noiseBy_28 rfl ?_
      refine Dn_ild_n (i := 2) (q := 31) C dX5_noiseBy_30 rfl rfl ?_
      refine Dn_ild_n (i := 3) (q := 32) C dX5_noiseBy_31 rfl rfl ?_
      refine Dn_callV (ci := 5) (T := TX5) (N := 25) (q := 35) C rfl (kX5_soundOf X.l X.G X.tg) q_912 q_909 q_911 q_30 q_50 ⟨rfl, rfl⟩ (by decide +kernel) ⟨by decide, by decide⟩ dX5_noiseBy_32 rfl ?_
      refine Dn_goto (t := 39) C dX5_noiseBy_35 (by decide) ?_
      exact JX5_noiseBy_39 C hX B6 hB6
def jX5_noiseBy : mK := i_push (.int 0) (i_ist 4 (i_push (.int 0) (i_ist 5 (jX5_noiseBy_6))))
def FX5_noiseBy : mF := mEnt 6 jX5_noiseBy
set_option maxRecDepth 20000 in
theorem kX5_noiseBy (l : Launch) (G : va_G) (tg : Nat → ClassId) : Ct l G tg yX5_noiseBy cX5_noiseBy 6 (some FieldType.int) rX5_noiseBy FX5_noiseBy := by
  refine Ct.of RX5 (by decide) rfl (fun X C hX => ?_)
  unfold jX5_noiseBy
  refine Dn_iconst (v := 0) (q := 1) C dX5_noiseBy_0 (by decide) rfl ?_
  refine Dn_ist (q := 3) C dX5_noiseBy_1 (by decide) rfl ?_
  refine Dn_iconst (v := 0) (q := 4) C dX5_noiseBy_3 (by decide) rfl ?_
  refine Dn_ist (q := 6) C dX5_noiseBy_4 (by decide) rfl ?_
  exact JX5_noiseBy_6 C hX
abbrev rX5_isHeard : Room := ({ frames := 3, cells := 0, slots := 0, locals := 77 } : Room)
def jX5_isHeard_20 : mK := i_nret .boolean
set_option maxRecDepth 20000 in
theorem JX5_isHeard_20 {X : mC} (C : Cx X rX5_isHeard cX5_isHeard 4 RX5 (some FieldType.boolean)) (hX : Rx X) : Den X rX5_isHeard 4 20 jX5_isHeard_20 := by
  unfold jX5_isHeard_20
  exact Dn_nret C hX dX5_isHeard_20
def jX5_isHeard : mK := i_ald 0 (i_ild 2 (i_callV 5 1 FX5_fluteAt (i_ald 0 (i_ild 1 (i_ild 2 (i_ild 3 (i_callV 5 3 FX5_noiseBy (i_icle (i_push (.int 0) (jX5_isHeard_20)) (i_push (.int 1) (jX5_isHeard_20))))))))))
def FX5_isHeard : mF := mEnt 4 jX5_isHeard
set_option maxRecDepth 20000 in
theorem kX5_isHeard (l : Launch) (G : va_G) (tg : Nat → ClassId) : Ct l G tg yX5_isHeard cX5_isHeard 4 (some FieldType.boolean) rX5_isHeard FX5_isHeard := by
  refine Ct.of RX5 (by decide) rfl (fun X C hX => ?_)
  unfold jX5_isHeard
  refine Dn_ald_n (i := 0) (q := 1) C dX5_isHeard_0 rfl rfl ?_
  refine Dn_ild_n (i := 2) (q := 2) C dX5_isHeard_1 rfl rfl ?_
  refine Dn_callV (ci := 5) (T := TX5) (N := 25) (q := 5) C rfl (kX5_fluteAt X.l X.G X.tg) q_891 q_888 q_890 q_27 q_50 ⟨rfl, rfl⟩ (by decide +kernel) ⟨by decide, by decide⟩ dX5_isHeard_2 rfl ?_
  refine Dn_ald_n (i := 0) (q := 6) C dX5_isHeard_5 rfl rfl ?_
  refine Dn_ild_n (i := 1) (q := 7) C dX5_isHeard_6 rfl rfl ?_
  refine Dn_ild_n (i := 2) (q := 8) C dX5_isHeard_7 rfl rfl ?_
  refine Dn_ild_n (i := 3) (q := 9) C dX5_isHeard_8 rfl rfl ?_
  refine Dn_callV (ci := 5) (T := TX5) (N := 25) (q := 12) C rfl (kX5_noiseBy X.l X.G X.tg) q_936 q_933 q_935 q_32 q_50 ⟨rfl, rfl⟩ (by decide +kernel) ⟨by decide, by decide⟩ dX5_isHeard_9 rfl ?_
  refine Dn_icle (t := 19) (q := 15) C dX5_isHeard_12 (by decide) rfl ?_ ?_
  · refine Dn_iconst (v := 0) (q := 20) C dX5_isHeard_19 (by decide) rfl ?_
    exact JX5_isHeard_20 C hX
  · refine Dn_iconst (v := 1) (q := 16) C dX5_isHeard_15 (by decide) rfl ?_
    refine Dn_goto (t := 20) C dX5_isHeard_16 (by decide) ?_
    exact JX5_isHeard_20 C hX
abbrev rX5_marginBy : Room := ({ frames := 3, cells := 0, slots := 0, locals := 77 } : Room)
def jX5_marginBy_76 (B6 : mK) (B15 : mK) : mK := i_ist 2 (i_inc 4 1 (B15))
set_option maxRecDepth 20000 in
theorem JX5_marginBy_76 {X : mC} (C : Cx X rX5_marginBy cX5_marginBy 6 RX5 (some FieldType.int)) (hX : Rx X) (B6 : mK) (hB6 : Den X rX5_marginBy 6 6 B6) (B15 : mK) (hB15 : Den X rX5_marginBy 6 15 B15) : Den X rX5_marginBy 6 76 (jX5_marginBy_76 B6 B15) := by
  unfold jX5_marginBy_76
  refine Dn_ist_n (i := 2) (q := 77) C dX5_marginBy_76 rfl (by decide) rfl ?_
  refine Dn_inc (z := 1) (q := 80) C dX5_marginBy_77 (by decide) (by decide) rfl ?_
  refine Dn_goto (t := 15) C dX5_marginBy_80 (by decide) ?_
  exact hB15
def jX5_marginBy_62 (B6 : mK) (B15 : mK) : mK := i_ist 5 (i_ild 5 (i_ild 2 (i_icge (i_ild 2 ((jX5_marginBy_76 B6 B15))) (i_ild 5 ((jX5_marginBy_76 B6 B15))))))
set_option maxRecDepth 20000 in
theorem JX5_marginBy_62 {X : mC} (C : Cx X rX5_marginBy cX5_marginBy 6 RX5 (some FieldType.int)) (hX : Rx X) (B6 : mK) (hB6 : Den X rX5_marginBy 6 6 B6) (B15 : mK) (hB15 : Den X rX5_marginBy 6 15 B15) : Den X rX5_marginBy 6 62 (jX5_marginBy_62 B6 B15) := by
  unfold jX5_marginBy_62
  refine Dn_ist (q := 64) C dX5_marginBy_62 (by decide) rfl ?_
  refine Dn_ild (q := 66) C dX5_marginBy_64 rfl ?_
  refine Dn_ild_n (i := 2) (q := 67) C dX5_marginBy_66 rfl rfl ?_
  refine Dn_icge (t := 75) (q := 70) C dX5_marginBy_67 (by decide) rfl ?_ ?_
  · refine Dn_ild_n (i := 2) (q := 76) C dX5_marginBy_75 rfl rfl ?_
    exact JX5_marginBy_76 C hX B6 hB6 B15 hB15
  · refine Dn_ild (q := 72) C dX5_marginBy_70 rfl ?_
    refine Dn_goto (t := 76) C dX5_marginBy_72 (by decide) ?_
    exact JX5_marginBy_76 C hX B6 hB6 B15 hB15
def jX5_marginBy_15 (B6 : mK) : mK := i_loop (fun B15 => i_ild 4 (i_ald 0 (i_get 5 6 (i_ald 0 (i_get 5 7 (i_ib (fun x y => x * y) (i_icge (i_inc 3 1 (B6)) (i_ald 0 (i_get 5 11 (i_ild 4 (i_call 2 FX5_has (i_ifeq (i_push (.int 999) ((jX5_marginBy_62 B6 B15))) (i_ald 0 (i_ild 4 (i_callV 5 1 FX5_fluteAt (i_ald 0 (i_ild 1 (i_ild 4 (i_ild 3 (i_callV 5 3 FX5_noiseBy (i_ib (fun x y => x - y) ((jX5_marginBy_62 B6 B15))))))))))))))))))))))) 1000
set_option maxRecDepth 20000 in
theorem JX5_marginBy_15 {X : mC} (C : Cx X rX5_marginBy cX5_marginBy 6 RX5 (some FieldType.int)) (hX : Rx X) (B6 : mK) (hB6 : Den X rX5_marginBy 6 6 B6) : Den X rX5_marginBy 6 15 (jX5_marginBy_15 B6) := by
  unfold jX5_marginBy_15
  refine Dn_loop (fun B15 hB15 => ?_) 1000
  refine Dn_ild (q := 17) C dX5_marginBy_15 rfl ?_
  refine Dn_ald_n (i := 0) (q := 18) C dX5_marginBy_17 rfl rfl ?_
  refine Dn_get (ci := 5) (j := 6) (T := TX5) (N := 25) (Cn := RX5) (q := 21) C rfl iX5 (by decide) q_716 dX5_marginBy_18 rfl ?_
  refine Dn_ald_n (i := 0) (q := 22) C dX5_marginBy_21 rfl rfl ?_
  refine Dn_get (ci := 5) (j := 7) (T := TX5) (N := 25) (Cn := RX5) (q := 25) C rfl iX5 (by decide) q_717 dX5_marginBy_22 rfl ?_
  refine Dn_imul (q := 26) C dX5_marginBy_25 rfl ?_
  refine Dn_icge (t := 83) (q := 29) C dX5_marginBy_26 (by decide) rfl ?_ ?_
  · refine Dn_inc (z := 1) (q := 86) C dX5_marginBy_83 (by decide) (by decide) rfl ?_
    refine Dn_goto (t := 6) C dX5_marginBy_86 (by decide) ?_
    exact hB6
  · refine Dn_ald_n (i := 0) (q := 30) C dX5_marginBy_29 rfl rfl ?_
    refine Dn_get (ci := 5) (j := 11) (T := TX5) (N := 25) (Cn := RX5) (q := 33) C rfl iX5 (by decide) q_721 dX5_marginBy_30 rfl ?_
    refine Dn_ild (q := 35) C dX5_marginBy_33 rfl ?_
    refine Dn_callS (q := 38) C (kX5_has X.l X.G X.tg) q_862 q_860 q_861 q_50 ⟨rfl, rfl⟩ (by decide +kernel) ⟨by decide, by decide⟩ dX5_marginBy_35 rfl ?_
    refine Dn_ifeq (t := 59) (q := 41) C dX5_marginBy_38 (by decide) rfl ?_ ?_
    · refine Dn_sipush (v := 999) (q := 62) C dX5_marginBy_59 (by decide) rfl ?_
      exact JX5_marginBy_62 C hX B6 hB6 B15 hB15
    · refine Dn_ald_n (i := 0) (q := 42) C dX5_marginBy_41 rfl rfl ?_
      refine Dn_ild (q := 44) C dX5_marginBy_42 rfl ?_
      refine Dn_callV (ci := 5) (T := TX5) (N := 25) (q := 47) C rfl (kX5_fluteAt X.l X.G X.tg) q_891 q_888 q_890 q_27 q_50 ⟨rfl, rfl⟩ (by decide +kernel) ⟨by decide, by decide⟩ dX5_marginBy_44 rfl ?_
      refine Dn_ald_n (i := 0) (q := 48) C dX5_marginBy_47 rfl rfl ?_
      refine Dn_ild_n (i := 1) (q := 49) C dX5_marginBy_48 rfl rfl ?_
      refine Dn_ild (q := 51) C dX5_marginBy_49 rfl ?_
      refine Dn_ild_n (i := 3) (q := 52) C dX5_marginBy_51 rfl rfl ?_
      refine Dn_callV (ci := 5) (T := TX5) (N := 25) (q := 55) C rfl (kX5_noiseBy X.l X.G X.tg) q_936 q_933 q_935 q_32 q_50 ⟨rfl, rfl⟩ (by decide +kernel) ⟨by decide, by decide⟩ dX5_marginBy_52 rfl ?_
      refine Dn_isub (q := 56) C dX5_marginBy_55 rfl ?_
      refine Dn_goto (t := 62) C dX5_marginBy_56 (by decide) ?_
      exact JX5_marginBy_62 C hX B6 hB6 B15 hB15
def jX5_marginBy_6 : mK := i_loop (fun B6 => i_ild 3 (i_push (.int 12) (i_icge (i_ild 2 (i_iret)) (i_push (.int 0) (i_ist 4 ((jX5_marginBy_15 B6))))))) 1000
set_option maxRecDepth 20000 in
theorem JX5_marginBy_6 {X : mC} (C : Cx X rX5_marginBy cX5_marginBy 6 RX5 (some FieldType.int)) (hX : Rx X) : Den X rX5_marginBy 6 6 jX5_marginBy_6 := by
  unfold jX5_marginBy_6
  refine Dn_loop (fun B6 hB6 => ?_) 1000
  refine Dn_ild_n (i := 3) (q := 7) C dX5_marginBy_6 rfl rfl ?_
  refine Dn_bipush (v := 12) (q := 9) C dX5_marginBy_7 (by decide) rfl ?_
  refine Dn_icge (t := 89) (q := 12) C dX5_marginBy_9 (by decide) rfl ?_ ?_
  · refine Dn_ild_n (i := 2) (q := 90) C dX5_marginBy_89 rfl rfl ?_
    exact Dn_iret C hX dX5_marginBy_90
  · refine Dn_iconst (v := 0) (q := 13) C dX5_marginBy_12 (by decide) rfl ?_
    refine Dn_ist (q := 15) C dX5_marginBy_13 (by decide) rfl ?_
    exact JX5_marginBy_15 C hX B6 hB6
def jX5_marginBy : mK := i_push (.int 999) (i_ist 2 (i_push (.int 0) (i_ist 3 (jX5_marginBy_6))))
def FX5_marginBy : mF := mEnt 6 jX5_marginBy
set_option maxRecDepth 20000 in
theorem kX5_marginBy (l : Launch) (G : va_G) (tg : Nat → ClassId) : Ct l G tg yX5_marginBy cX5_marginBy 6 (some FieldType.int) rX5_marginBy FX5_marginBy := by
  refine Ct.of RX5 (by decide) rfl (fun X C hX => ?_)
  unfold jX5_marginBy
  refine Dn_sipush (v := 999) (q := 3) C dX5_marginBy_0 (by decide) rfl ?_
  refine Dn_ist_n (i := 2) (q := 4) C dX5_marginBy_3 rfl (by decide) rfl ?_
  refine Dn_iconst (v := 0) (q := 5) C dX5_marginBy_4 (by decide) rfl ?_
  refine Dn_ist_n (i := 3) (q := 6) C dX5_marginBy_5 rfl (by decide) rfl ?_
  exact JX5_marginBy_6 C hX
abbrev rX5_holdsBy : Room := ({ frames := 4, cells := 0, slots := 0, locals := 102 } : Room)
def jX5_holdsBy_13 : mK := i_nret .boolean
set_option maxRecDepth 20000 in
theorem JX5_holdsBy_13 {X : mC} (C : Cx X rX5_holdsBy cX5_holdsBy 2 RX5 (some FieldType.boolean)) (hX : Rx X) : Den X rX5_holdsBy 2 13 jX5_holdsBy_13 := by
  unfold jX5_holdsBy_13
  exact Dn_nret C hX dX5_holdsBy_13
def jX5_holdsBy : mK := i_ald 0 (i_ild 1 (i_callV 5 1 FX5_marginBy (i_ifle (i_push (.int 0) (jX5_holdsBy_13)) (i_push (.int 1) (jX5_holdsBy_13)))))
def FX5_holdsBy : mF := mEnt 2 jX5_holdsBy
set_option maxRecDepth 20000 in
theorem kX5_holdsBy (l : Launch) (G : va_G) (tg : Nat → ClassId) : Ct l G tg yX5_holdsBy cX5_holdsBy 2 (some FieldType.boolean) rX5_holdsBy FX5_holdsBy := by
  refine Ct.of RX5 (by decide) rfl (fun X C hX => ?_)
  unfold jX5_holdsBy
  refine Dn_ald_n (i := 0) (q := 1) C dX5_holdsBy_0 rfl rfl ?_
  refine Dn_ild_n (i := 1) (q := 2) C dX5_holdsBy_1 rfl rfl ?_
  refine Dn_callV (ci := 5) (T := TX5) (N := 25) (q := 5) C rfl (kX5_marginBy X.l X.G X.tg) q_981 q_978 q_980 q_38 q_50 ⟨rfl, rfl⟩ (by decide +kernel) ⟨by decide, by decide⟩ dX5_holdsBy_2 rfl ?_
  refine Dn_ifle (t := 12) (q := 8) C dX5_holdsBy_5 (by decide) rfl ?_ ?_
  · refine Dn_iconst (v := 0) (q := 13) C dX5_holdsBy_12 (by decide) rfl ?_
    exact JX5_holdsBy_13 C hX
  · refine Dn_iconst (v := 1) (q := 9) C dX5_holdsBy_8 (by decide) rfl ?_
    refine Dn_goto (t := 13) C dX5_holdsBy_9 (by decide) ?_
    exact JX5_holdsBy_13 C hX
abbrev rX5_place : Room := ({ frames := 2, cells := 0, slots := 0, locals := 46 } : Room)
def jX5_place_129 : mK := i_iret
set_option maxRecDepth 20000 in
theorem JX5_place_129 {X : mC} (C : Cx X rX5_place cX5_place 5 RX5 (some FieldType.int)) (hX : Rx X) : Den X rX5_place 5 129 jX5_place_129 := by
  unfold jX5_place_129
  exact Dn_iret C hX dX5_place_129
def jX5_place_50 (B16 : mK) : mK := i_ib (fun x y => x ||| y) (i_ist 3 (i_inc 4 1 (B16)))
set_option maxRecDepth 20000 in
theorem JX5_place_50 {X : mC} (C : Cx X rX5_place cX5_place 5 RX5 (some FieldType.int)) (hX : Rx X) (B16 : mK) (hB16 : Den X rX5_place 5 16 B16) : Den X rX5_place 5 50 (jX5_place_50 B16) := by
  unfold jX5_place_50
  refine Dn_ior (q := 51) C dX5_place_50 rfl ?_
  refine Dn_ist_n (i := 3) (q := 52) C dX5_place_51 rfl (by decide) rfl ?_
  refine Dn_inc (z := 1) (q := 55) C dX5_place_52 (by decide) (by decide) rfl ?_
  refine Dn_goto (t := 16) C dX5_place_55 (by decide) ?_
  exact hB16
def jX5_place_16 : mK := i_loop (fun B16 => i_ild 4 (i_ald 0 (i_get 5 14 (i_icge (i_ild 2 (i_ifne (i_ild 2 (i_push (.int 1) (i_icne (i_ild 2 (i_push (.int 2) (i_icne (i_ild 2 (i_push (.int 3) (i_icne (i_push (.int (-3)) (jX5_place_129)) (i_ald 0 (i_ild 1 (i_callV 5 1 FX5_fluteAt (jX5_place_129))))))) (i_ild 3 (jX5_place_129))))) (i_ald 0 (i_get 5 12 (i_ild 1 (i_call 2 FX5_has (i_ifeq (i_push (.int 0) (jX5_place_129)) (i_push (.int 1) (jX5_place_129)))))))))) (i_ald 0 (i_get 5 11 (i_ild 1 (i_call 2 FX5_has (i_ifeq (i_push (.int 0) (jX5_place_129)) (i_push (.int 1) (jX5_place_129))))))))) (i_ild 3 (i_ald 0 (i_get 5 13 (i_push (.int 7) (i_ild 4 (i_ib (fun x y => x * y) (i_push (.int 1) (i_ib (fun x y => x + y) (i_iald (i_ild 1 (i_icne (i_push (.int 0) ((jX5_place_50 B16))) (i_push (.int 1) (i_ild 4 (i_ib (fun x y => x <<< (y &&& 31)) ((jX5_place_50 B16)))))))))))))))))))) 1000
set_option maxRecDepth 20000 in
theorem JX5_place_16 {X : mC} (C : Cx X rX5_place cX5_place 5 RX5 (some FieldType.int)) (hX : Rx X) : Den X rX5_place 5 16 jX5_place_16 := by
  unfold jX5_place_16
  refine Dn_loop (fun B16 hB16 => ?_) 1000
  refine Dn_ild (q := 18) C dX5_place_16 rfl ?_
  refine Dn_ald_n (i := 0) (q := 19) C dX5_place_18 rfl rfl ?_
  refine Dn_get (ci := 5) (j := 14) (T := TX5) (N := 25) (Cn := RX5) (q := 22) C rfl iX5 (by decide) q_724 dX5_place_19 rfl ?_
  refine Dn_icge (t := 58) (q := 25) C dX5_place_22 (by decide) rfl ?_ ?_
  · refine Dn_ild_n (i := 2) (q := 59) C dX5_place_58 rfl rfl ?_
    refine Dn_ifne (t := 81) (q := 62) C dX5_place_59 (by decide) rfl ?_ ?_
    · refine Dn_ild_n (i := 2) (q := 82) C dX5_place_81 rfl rfl ?_
      refine Dn_iconst (v := 1) (q := 83) C dX5_place_82 (by decide) rfl ?_
      refine Dn_icne (t := 105) (q := 86) C dX5_place_83 (by decide) rfl ?_ ?_
      · refine Dn_ild_n (i := 2) (q := 106) C dX5_place_105 rfl rfl ?_
        refine Dn_iconst (v := 2) (q := 107) C dX5_place_106 (by decide) rfl ?_
        refine Dn_icne (t := 114) (q := 110) C dX5_place_107 (by decide) rfl ?_ ?_
        · refine Dn_ild_n (i := 2) (q := 115) C dX5_place_114 rfl rfl ?_
          refine Dn_iconst (v := 3) (q := 116) C dX5_place_115 (by decide) rfl ?_
          refine Dn_icne (t := 127) (q := 119) C dX5_place_116 (by decide) rfl ?_ ?_
          · refine Dn_bipush (v := (-3)) (q := 129) C dX5_place_127 (by decide) rfl ?_
            exact JX5_place_129 C hX
          · refine Dn_ald_n (i := 0) (q := 120) C dX5_place_119 rfl rfl ?_
            refine Dn_ild_n (i := 1) (q := 121) C dX5_place_120 rfl rfl ?_
            refine Dn_callV (ci := 5) (T := TX5) (N := 25) (q := 124) C rfl (kX5_fluteAt X.l X.G X.tg) q_891 q_888 q_890 q_27 q_50 ⟨rfl, rfl⟩ (by decide +kernel) ⟨by decide, by decide⟩ dX5_place_121 rfl ?_
            refine Dn_goto (t := 129) C dX5_place_124 (by decide) ?_
            exact JX5_place_129 C hX
        · refine Dn_ild_n (i := 3) (q := 111) C dX5_place_110 rfl rfl ?_
          refine Dn_goto (t := 129) C dX5_place_111 (by decide) ?_
          exact JX5_place_129 C hX
      · refine Dn_ald_n (i := 0) (q := 87) C dX5_place_86 rfl rfl ?_
        refine Dn_get (ci := 5) (j := 12) (T := TX5) (N := 25) (Cn := RX5) (q := 90) C rfl iX5 (by decide) q_722 dX5_place_87 rfl ?_
        refine Dn_ild_n (i := 1) (q := 91) C dX5_place_90 rfl rfl ?_
        refine Dn_callS (q := 94) C (kX5_has X.l X.G X.tg) q_862 q_860 q_861 q_50 ⟨rfl, rfl⟩ (by decide +kernel) ⟨by decide, by decide⟩ dX5_place_91 rfl ?_
        refine Dn_ifeq (t := 101) (q := 97) C dX5_place_94 (by decide) rfl ?_ ?_
        · refine Dn_iconst (v := 0) (q := 102) C dX5_place_101 (by decide) rfl ?_
          refine Dn_goto (t := 129) C dX5_place_102 (by decide) ?_
          exact JX5_place_129 C hX
        · refine Dn_iconst (v := 1) (q := 98) C dX5_place_97 (by decide) rfl ?_
          refine Dn_goto (t := 129) C dX5_place_98 (by decide) ?_
          exact JX5_place_129 C hX
    · refine Dn_ald_n (i := 0) (q := 63) C dX5_place_62 rfl rfl ?_
      refine Dn_get (ci := 5) (j := 11) (T := TX5) (N := 25) (Cn := RX5) (q := 66) C rfl iX5 (by decide) q_721 dX5_place_63 rfl ?_
      refine Dn_ild_n (i := 1) (q := 67) C dX5_place_66 rfl rfl ?_
      refine Dn_callS (q := 70) C (kX5_has X.l X.G X.tg) q_862 q_860 q_861 q_50 ⟨rfl, rfl⟩ (by decide +kernel) ⟨by decide, by decide⟩ dX5_place_67 rfl ?_
      refine Dn_ifeq (t := 77) (q := 73) C dX5_place_70 (by decide) rfl ?_ ?_
      · refine Dn_iconst (v := 0) (q := 78) C dX5_place_77 (by decide) rfl ?_
        refine Dn_goto (t := 129) C dX5_place_78 (by decide) ?_
        exact JX5_place_129 C hX
      · refine Dn_iconst (v := 1) (q := 74) C dX5_place_73 (by decide) rfl ?_
        refine Dn_goto (t := 129) C dX5_place_74 (by decide) ?_
        exact JX5_place_129 C hX
  · refine Dn_ild_n (i := 3) (q := 26) C dX5_place_25 rfl rfl ?_
    refine Dn_ald_n (i := 0) (q := 27) C dX5_place_26 rfl rfl ?_
    refine Dn_get (ci := 5) (j := 13) (T := TX5) (N := 25) (Cn := RX5) (q := 30) C rfl iX5 (by decide) q_723 dX5_place_27 rfl ?_
    refine Dn_bipush (v := 7) (q := 32) C dX5_place_30 (by decide) rfl ?_
    refine Dn_ild (q := 34) C dX5_place_32 rfl ?_
    refine Dn_imul (q := 35) C dX5_place_34 rfl ?_
    refine Dn_iconst (v := 1) (q := 36) C dX5_place_35 (by decide) rfl ?_
    refine Dn_iadd (q := 37) C dX5_place_36 rfl ?_
    refine Dn_iald (q := 38) C dX5_place_37 rfl ?_
    refine Dn_ild_n (i := 1) (q := 39) C dX5_place_38 rfl rfl ?_
    refine Dn_icne (t := 49) (q := 42) C dX5_place_39 (by decide) rfl ?_ ?_
    · refine Dn_iconst (v := 0) (q := 50) C dX5_place_49 (by decide) rfl ?_
      exact JX5_place_50 C hX B16 hB16
    · refine Dn_iconst (v := 1) (q := 43) C dX5_place_42 (by decide) rfl ?_
      refine Dn_ild (q := 45) C dX5_place_43 rfl ?_
      refine Dn_ishl (q := 46) C dX5_place_45 rfl ?_
      refine Dn_goto (t := 50) C dX5_place_46 (by decide) ?_
      exact JX5_place_50 C hX B16 hB16
def jX5_place : mK := i_ald 0 (i_ild 1 (i_callV 5 1 FX5_isPlace (i_ifne (i_push (.int 0) (i_ist 3 (i_push (.int 0) (i_ist 4 (jX5_place_16))))) (i_push (.int (-2)) (i_iret)))))
def FX5_place : mF := mEnt 5 jX5_place
set_option maxRecDepth 20000 in
theorem kX5_place (l : Launch) (G : va_G) (tg : Nat → ClassId) : Ct l G tg yX5_place cX5_place 5 (some FieldType.int) rX5_place FX5_place := by
  refine Ct.of RX5 (by decide) rfl (fun X C hX => ?_)
  unfold jX5_place
  refine Dn_ald_n (i := 0) (q := 1) C dX5_place_0 rfl rfl ?_
  refine Dn_ild_n (i := 1) (q := 2) C dX5_place_1 rfl rfl ?_
  refine Dn_callV (ci := 5) (T := TX5) (N := 25) (q := 5) C rfl (kX5_isPlace X.l X.G X.tg) q_887 q_884 q_886 q_26 q_50 ⟨rfl, rfl⟩ (by decide +kernel) ⟨by decide, by decide⟩ dX5_place_2 rfl ?_
  refine Dn_ifne (t := 11) (q := 8) C dX5_place_5 (by decide) rfl ?_ ?_
  · refine Dn_iconst (v := 0) (q := 12) C dX5_place_11 (by decide) rfl ?_
    refine Dn_ist_n (i := 3) (q := 13) C dX5_place_12 rfl (by decide) rfl ?_
    refine Dn_iconst (v := 0) (q := 14) C dX5_place_13 (by decide) rfl ?_
    refine Dn_ist (q := 16) C dX5_place_14 (by decide) rfl ?_
    exact JX5_place_16 C hX
  · refine Dn_bipush (v := (-2)) (q := 10) C dX5_place_8 (by decide) rfl ?_
    exact Dn_iret C hX dX5_place_10
abbrev rX5_band : Room := ({ frames := 2, cells := 0, slots := 0, locals := 46 } : Room)
def jX5_band_58 : mK := i_iret
set_option maxRecDepth 20000 in
theorem JX5_band_58 {X : mC} (C : Cx X rX5_band cX5_band 3 RX5 (some FieldType.int)) (hX : Rx X) : Den X rX5_band 3 58 jX5_band_58 := by
  unfold jX5_band_58
  exact Dn_iret C hX dX5_band_58
def jX5_band : mK := i_ald 0 (i_ild 1 (i_callV 5 1 FX5_isBand (i_ifne (i_ild 2 (i_i2l (i_push (.long 0) (i_push (.long 6) (i_call 3 FX5_in (i_ifeq (i_ild 2 (i_push (.int 7) (i_icne (i_push (.int (-3)) (jX5_band_58)) (i_ald 0 (i_get 5 0 (i_push (.int 0) (i_iald (i_ild 1 (i_ib (fun x y => x >>> (y &&& 31)) (i_push (.int 1) (i_ib (fun x y => x &&& y) (jX5_band_58)))))))))))) (i_ald 0 (i_get 5 13 (i_push (.int 7) (i_ild 1 (i_ib (fun x y => x * y) (i_ild 2 (i_ib (fun x y => x + y) (i_iald (jX5_band_58))))))))))))))) (i_push (.int (-2)) (i_iret)))))
def FX5_band : mF := mEnt 3 jX5_band
set_option maxRecDepth 20000 in
theorem kX5_band (l : Launch) (G : va_G) (tg : Nat → ClassId) : Ct l G tg yX5_band cX5_band 3 (some FieldType.int) rX5_band FX5_band := by
  refine Ct.of RX5 (by decide) rfl (fun X C hX => ?_)
  unfold jX5_band
  refine Dn_ald_n (i := 0) (q := 1) C dX5_band_0 rfl rfl ?_
  refine Dn_ild_n (i := 1) (q := 2) C dX5_band_1 rfl rfl ?_
  refine Dn_callV (ci := 5) (T := TX5) (N := 25) (q := 5) C rfl (kX5_isBand X.l X.G X.tg) q_903 q_900 q_902 q_29 q_50 ⟨rfl, rfl⟩ (by decide +kernel) ⟨by decide, by decide⟩ dX5_band_2 rfl ?_
  refine Dn_ifne (t := 11) (q := 8) C dX5_band_5 (by decide) rfl ?_ ?_
  · refine Dn_ild_n (i := 2) (q := 12) C dX5_band_11 rfl rfl ?_
    refine Dn_i2l (q := 13) C dX5_band_12 rfl ?_
    refine Dn_lconst (v := 0) (q := 14) C dX5_band_13 (by decide) rfl ?_
    refine Dn_ldc2 (q := 17) C dX5_band_14 q_843 rfl ?_
    refine Dn_callS (q := 20) C (kX5_in X.l X.G X.tg) q_794 q_792 q_793 q_50 ⟨rfl, rfl⟩ (by decide +kernel) ⟨by decide, by decide⟩ dX5_band_17 rfl ?_
    refine Dn_ifeq (t := 37) (q := 23) C dX5_band_20 (by decide) rfl ?_ ?_
    · refine Dn_ild_n (i := 2) (q := 38) C dX5_band_37 rfl rfl ?_
      refine Dn_bipush (v := 7) (q := 40) C dX5_band_38 (by decide) rfl ?_
      refine Dn_icne (t := 56) (q := 43) C dX5_band_40 (by decide) rfl ?_ ?_
      · refine Dn_bipush (v := (-3)) (q := 58) C dX5_band_56 (by decide) rfl ?_
        exact JX5_band_58 C hX
      · refine Dn_ald_n (i := 0) (q := 44) C dX5_band_43 rfl rfl ?_
        refine Dn_get (ci := 5) (j := 0) (T := TX5) (N := 25) (Cn := RX5) (q := 47) C rfl iX5 (by decide) q_710 dX5_band_44 rfl ?_
        refine Dn_iconst (v := 0) (q := 48) C dX5_band_47 (by decide) rfl ?_
        refine Dn_iald (q := 49) C dX5_band_48 rfl ?_
        refine Dn_ild_n (i := 1) (q := 50) C dX5_band_49 rfl rfl ?_
        refine Dn_ishr (q := 51) C dX5_band_50 rfl ?_
        refine Dn_iconst (v := 1) (q := 52) C dX5_band_51 (by decide) rfl ?_
        refine Dn_iand (q := 53) C dX5_band_52 rfl ?_
        refine Dn_goto (t := 58) C dX5_band_53 (by decide) ?_
        exact JX5_band_58 C hX
    · refine Dn_ald_n (i := 0) (q := 24) C dX5_band_23 rfl rfl ?_
      refine Dn_get (ci := 5) (j := 13) (T := TX5) (N := 25) (Cn := RX5) (q := 27) C rfl iX5 (by decide) q_723 dX5_band_24 rfl ?_
      refine Dn_bipush (v := 7) (q := 29) C dX5_band_27 (by decide) rfl ?_
      refine Dn_ild_n (i := 1) (q := 30) C dX5_band_29 rfl rfl ?_
      refine Dn_imul (q := 31) C dX5_band_30 rfl ?_
      refine Dn_ild_n (i := 2) (q := 32) C dX5_band_31 rfl rfl ?_
      refine Dn_iadd (q := 33) C dX5_band_32 rfl ?_
      refine Dn_iald (q := 34) C dX5_band_33 rfl ?_
      refine Dn_goto (t := 58) C dX5_band_34 (by decide) ?_
      exact JX5_band_58 C hX
  · refine Dn_bipush (v := (-2)) (q := 10) C dX5_band_8 (by decide) rfl ?_
    exact Dn_iret C hX dX5_band_10
abbrev rX5_as : Room := ({ frames := 2, cells := 0, slots := 0, locals := 52 } : Room)
def jX5_as_119 : mK := i_iret
set_option maxRecDepth 20000 in
theorem JX5_as_119 {X : mC} (C : Cx X rX5_as cX5_as 5 RX5 (some FieldType.int)) (hX : Rx X) : Den X rX5_as 5 119 jX5_as_119 := by
  unfold jX5_as_119
  exact Dn_iret C hX dX5_as_119
def jX5_as_85 : mK := i_ist 4 (i_ild 4 (i_ifeq (i_push (.int (-4)) (jX5_as_119)) (i_ald 0 (i_ild 1 (i_ald 0 (i_get 5 13 (i_push (.int 7) (i_ild 1 (i_ib (fun x y => x * y) (i_push (.int 1) (i_ib (fun x y => x + y) (i_iald (i_ald 0 (i_get 5 0 (i_push (.int 2) (i_iald (i_callV 5 3 FX5_soundOf (jX5_as_119))))))))))))))))))
set_option maxRecDepth 20000 in
theorem JX5_as_85 {X : mC} (C : Cx X rX5_as cX5_as 5 RX5 (some FieldType.int)) (hX : Rx X) : Den X rX5_as 5 85 jX5_as_85 := by
  unfold jX5_as_85
  refine Dn_ist (q := 87) C dX5_as_85 (by decide) rfl ?_
  refine Dn_ild (q := 89) C dX5_as_87 rfl ?_
  refine Dn_ifeq (t := 117) (q := 92) C dX5_as_89 (by decide) rfl ?_ ?_
  · refine Dn_bipush (v := (-4)) (q := 119) C dX5_as_117 (by decide) rfl ?_
    exact JX5_as_119 C hX
  · refine Dn_ald_n (i := 0) (q := 93) C dX5_as_92 rfl rfl ?_
    refine Dn_ild_n (i := 1) (q := 94) C dX5_as_93 rfl rfl ?_
    refine Dn_ald_n (i := 0) (q := 95) C dX5_as_94 rfl rfl ?_
    refine Dn_get (ci := 5) (j := 13) (T := TX5) (N := 25) (Cn := RX5) (q := 98) C rfl iX5 (by decide) q_723 dX5_as_95 rfl ?_
    refine Dn_bipush (v := 7) (q := 100) C dX5_as_98 (by decide) rfl ?_
    refine Dn_ild_n (i := 1) (q := 101) C dX5_as_100 rfl rfl ?_
    refine Dn_imul (q := 102) C dX5_as_101 rfl ?_
    refine Dn_iconst (v := 1) (q := 103) C dX5_as_102 (by decide) rfl ?_
    refine Dn_iadd (q := 104) C dX5_as_103 rfl ?_
    refine Dn_iald (q := 105) C dX5_as_104 rfl ?_
    refine Dn_ald_n (i := 0) (q := 106) C dX5_as_105 rfl rfl ?_
    refine Dn_get (ci := 5) (j := 0) (T := TX5) (N := 25) (Cn := RX5) (q := 109) C rfl iX5 (by decide) q_710 dX5_as_106 rfl ?_
    refine Dn_iconst (v := 2) (q := 110) C dX5_as_109 (by decide) rfl ?_
    refine Dn_iald (q := 111) C dX5_as_110 rfl ?_
    refine Dn_callV (ci := 5) (T := TX5) (N := 25) (q := 114) C rfl (kX5_soundOf X.l X.G X.tg) q_912 q_909 q_911 q_30 q_50 ⟨rfl, rfl⟩ (by decide +kernel) ⟨by decide, by decide⟩ dX5_as_111 rfl ?_
    refine Dn_goto (t := 119) C dX5_as_114 (by decide) ?_
    exact JX5_as_119 C hX
def jX5_as_84 : mK := i_push (.int 0) (jX5_as_85)
set_option maxRecDepth 20000 in
theorem JX5_as_84 {X : mC} (C : Cx X rX5_as cX5_as 5 RX5 (some FieldType.int)) (hX : Rx X) : Den X rX5_as 5 84 jX5_as_84 := by
  unfold jX5_as_84
  refine Dn_iconst (v := 0) (q := 85) C dX5_as_84 (by decide) rfl ?_
  exact JX5_as_85 C hX
def jX5_as_80 : mK := i_push (.int 1) (jX5_as_85)
set_option maxRecDepth 20000 in
theorem JX5_as_80 {X : mC} (C : Cx X rX5_as cX5_as 5 RX5 (some FieldType.int)) (hX : Rx X) : Den X rX5_as 5 80 jX5_as_80 := by
  unfold jX5_as_80
  refine Dn_iconst (v := 1) (q := 81) C dX5_as_80 (by decide) rfl ?_
  refine Dn_goto (t := 85) C dX5_as_81 (by decide) ?_
  exact JX5_as_85 C hX
def jX5_as_70 : mK := i_ild 2 (i_push (.int 4) (i_icne (jX5_as_84) (i_ild 3 (i_push (.int 3) (i_icne (jX5_as_84) (jX5_as_80))))))
set_option maxRecDepth 20000 in
theorem JX5_as_70 {X : mC} (C : Cx X rX5_as cX5_as 5 RX5 (some FieldType.int)) (hX : Rx X) : Den X rX5_as 5 70 jX5_as_70 := by
  unfold jX5_as_70
  refine Dn_ild_n (i := 2) (q := 71) C dX5_as_70 rfl rfl ?_
  refine Dn_iconst (v := 4) (q := 72) C dX5_as_71 (by decide) rfl ?_
  refine Dn_icne (t := 84) (q := 75) C dX5_as_72 (by decide) rfl ?_ ?_
  · exact JX5_as_84 C hX
  · refine Dn_ild_n (i := 3) (q := 76) C dX5_as_75 rfl rfl ?_
    refine Dn_iconst (v := 3) (q := 77) C dX5_as_76 (by decide) rfl ?_
    refine Dn_icne (t := 84) (q := 80) C dX5_as_77 (by decide) rfl ?_ ?_
    · exact JX5_as_84 C hX
    · exact JX5_as_80 C hX
def jX5_as_60 : mK := i_ild 2 (i_push (.int 3) (i_icne (jX5_as_70) (i_ild 3 (i_push (.int 2) (i_iceq (jX5_as_80) (jX5_as_70))))))
set_option maxRecDepth 20000 in
theorem JX5_as_60 {X : mC} (C : Cx X rX5_as cX5_as 5 RX5 (some FieldType.int)) (hX : Rx X) : Den X rX5_as 5 60 jX5_as_60 := by
  unfold jX5_as_60
  refine Dn_ild_n (i := 2) (q := 61) C dX5_as_60 rfl rfl ?_
  refine Dn_iconst (v := 3) (q := 62) C dX5_as_61 (by decide) rfl ?_
  refine Dn_icne (t := 70) (q := 65) C dX5_as_62 (by decide) rfl ?_ ?_
  · exact JX5_as_70 C hX
  · refine Dn_ild_n (i := 3) (q := 66) C dX5_as_65 rfl rfl ?_
    refine Dn_iconst (v := 2) (q := 67) C dX5_as_66 (by decide) rfl ?_
    refine Dn_iceq (t := 80) (q := 70) C dX5_as_67 (by decide) rfl ?_ ?_
    · exact JX5_as_80 C hX
    · exact JX5_as_70 C hX
def jX5_as_50 : mK := i_ild 2 (i_push (.int 2) (i_icne (jX5_as_60) (i_ild 3 (i_push (.int 1) (i_iceq (jX5_as_80) (jX5_as_60))))))
set_option maxRecDepth 20000 in
theorem JX5_as_50 {X : mC} (C : Cx X rX5_as cX5_as 5 RX5 (some FieldType.int)) (hX : Rx X) : Den X rX5_as 5 50 jX5_as_50 := by
  unfold jX5_as_50
  refine Dn_ild_n (i := 2) (q := 51) C dX5_as_50 rfl rfl ?_
  refine Dn_iconst (v := 2) (q := 52) C dX5_as_51 (by decide) rfl ?_
  refine Dn_icne (t := 60) (q := 55) C dX5_as_52 (by decide) rfl ?_ ?_
  · exact JX5_as_60 C hX
  · refine Dn_ild_n (i := 3) (q := 56) C dX5_as_55 rfl rfl ?_
    refine Dn_iconst (v := 1) (q := 57) C dX5_as_56 (by decide) rfl ?_
    refine Dn_iceq (t := 80) (q := 60) C dX5_as_57 (by decide) rfl ?_ ?_
    · exact JX5_as_80 C hX
    · exact JX5_as_60 C hX
def jX5_as : mK := i_ald 0 (i_ild 1 (i_callV 5 1 FX5_isBand (i_ifne (i_ild 2 (i_i2l (i_push (.long 0) (i_push (.long 4) (i_call 3 FX5_in (i_ifne (i_ald 0 (i_get 5 13 (i_push (.int 7) (i_ild 1 (i_ib (fun x y => x * y) (i_iald (i_ist 3 (i_ild 2 (i_ifeq (jX5_as_80) (i_ild 2 (i_push (.int 1) (i_icne (jX5_as_50) (i_ild 3 (i_push (.int 3) (i_icne (jX5_as_80) (jX5_as_50)))))))))))))))) (i_push (.int (-3)) (i_iret)))))))) (i_push (.int (-2)) (i_iret)))))
def FX5_as : mF := mEnt 5 jX5_as
set_option maxRecDepth 20000 in
theorem kX5_as (l : Launch) (G : va_G) (tg : Nat → ClassId) : Ct l G tg yX5_as cX5_as 5 (some FieldType.int) rX5_as FX5_as := by
  refine Ct.of RX5 (by decide) rfl (fun X C hX => ?_)
  unfold jX5_as
  refine Dn_ald_n (i := 0) (q := 1) C dX5_as_0 rfl rfl ?_
  refine Dn_ild_n (i := 1) (q := 2) C dX5_as_1 rfl rfl ?_
  refine Dn_callV (ci := 5) (T := TX5) (N := 25) (q := 5) C rfl (kX5_isBand X.l X.G X.tg) q_903 q_900 q_902 q_29 q_50 ⟨rfl, rfl⟩ (by decide +kernel) ⟨by decide, by decide⟩ dX5_as_2 rfl ?_
  refine Dn_ifne (t := 11) (q := 8) C dX5_as_5 (by decide) rfl ?_ ?_
  · refine Dn_ild_n (i := 2) (q := 12) C dX5_as_11 rfl rfl ?_
    refine Dn_i2l (q := 13) C dX5_as_12 rfl ?_
    refine Dn_lconst (v := 0) (q := 14) C dX5_as_13 (by decide) rfl ?_
    refine Dn_ldc2 (q := 17) C dX5_as_14 q_908 rfl ?_
    refine Dn_callS (q := 20) C (kX5_in X.l X.G X.tg) q_794 q_792 q_793 q_50 ⟨rfl, rfl⟩ (by decide +kernel) ⟨by decide, by decide⟩ dX5_as_17 rfl ?_
    refine Dn_ifne (t := 26) (q := 23) C dX5_as_20 (by decide) rfl ?_ ?_
    · refine Dn_ald_n (i := 0) (q := 27) C dX5_as_26 rfl rfl ?_
      refine Dn_get (ci := 5) (j := 13) (T := TX5) (N := 25) (Cn := RX5) (q := 30) C rfl iX5 (by decide) q_723 dX5_as_27 rfl ?_
      refine Dn_bipush (v := 7) (q := 32) C dX5_as_30 (by decide) rfl ?_
      refine Dn_ild_n (i := 1) (q := 33) C dX5_as_32 rfl rfl ?_
      refine Dn_imul (q := 34) C dX5_as_33 rfl ?_
      refine Dn_iald (q := 35) C dX5_as_34 rfl ?_
      refine Dn_ist_n (i := 3) (q := 36) C dX5_as_35 rfl (by decide) rfl ?_
      refine Dn_ild_n (i := 2) (q := 37) C dX5_as_36 rfl rfl ?_
      refine Dn_ifeq (t := 80) (q := 40) C dX5_as_37 (by decide) rfl ?_ ?_
      · exact JX5_as_80 C hX
      · refine Dn_ild_n (i := 2) (q := 41) C dX5_as_40 rfl rfl ?_
        refine Dn_iconst (v := 1) (q := 42) C dX5_as_41 (by decide) rfl ?_
        refine Dn_icne (t := 50) (q := 45) C dX5_as_42 (by decide) rfl ?_ ?_
        · exact JX5_as_50 C hX
        · refine Dn_ild_n (i := 3) (q := 46) C dX5_as_45 rfl rfl ?_
          refine Dn_iconst (v := 3) (q := 47) C dX5_as_46 (by decide) rfl ?_
          refine Dn_icne (t := 80) (q := 50) C dX5_as_47 (by decide) rfl ?_ ?_
          · exact JX5_as_80 C hX
          · exact JX5_as_50 C hX
    · refine Dn_bipush (v := (-3)) (q := 25) C dX5_as_23 (by decide) rfl ?_
      exact Dn_iret C hX dX5_as_25
  · refine Dn_bipush (v := (-2)) (q := 10) C dX5_as_8 (by decide) rfl ?_
    exact Dn_iret C hX dX5_as_10
abbrev rX5_licence : Room := ({ frames := 2, cells := 0, slots := 0, locals := 46 } : Room)
def jX5_licence : mK := i_ald 0 (i_ild 1 (i_callV 5 1 FX5_isBand (i_ifne (i_ild 2 (i_i2l (i_push (.long 0) (i_push (.long 1) (i_call 3 FX5_in (i_ifne (i_ald 0 (i_get 5 0 (i_push (.int 0) (i_iald (i_ild 1 (i_ib (fun x y => x >>> (y &&& 31)) (i_push (.int 1) (i_ib (fun x y => x &&& y) (i_ist 3 (i_ald 0 (i_get 5 0 (i_push (.int 0) (i_ald 0 (i_get 5 0 (i_push (.int 0) (i_iald (i_push (.int 1) (i_ild 1 (i_ib (fun x y => x <<< (y &&& 31)) (i_push (.int (-1)) (i_ib (fun x y => x ^^^ y) (i_ib (fun x y => x &&& y) (i_ild 2 (i_ild 1 (i_ib (fun x y => x <<< (y &&& 31)) (i_ib (fun x y => x ||| y) (i_iast (i_ild 3 (i_iret))))))))))))))))))))))))))))) (i_push (.int (-3)) (i_iret)))))))) (i_push (.int (-2)) (i_iret)))))
def FX5_licence : mF := mEnt 4 jX5_licence
set_option maxRecDepth 20000 in
theorem kX5_licence (l : Launch) (G : va_G) (tg : Nat → ClassId) : Ct l G tg yX5_licence cX5_licence 4 (some FieldType.int) rX5_licence FX5_licence := by
  refine Ct.of RX5 (by decide) rfl (fun X C hX => ?_)
  unfold jX5_licence
  refine Dn_ald_n (i := 0) (q := 1) C dX5_licence_0 rfl rfl ?_
  refine Dn_ild_n (i := 1) (q := 2) C dX5_licence_1 rfl rfl ?_
  refine Dn_callV (ci := 5) (T := TX5) (N := 25) (q := 5) C rfl (kX5_isBand X.l X.G X.tg) q_903 q_900 q_902 q_29 q_50 ⟨rfl, rfl⟩ (by decide +kernel) ⟨by decide, by decide⟩ dX5_licence_2 rfl ?_
  refine Dn_ifne (t := 11) (q := 8) C dX5_licence_5 (by decide) rfl ?_ ?_
  · refine Dn_ild_n (i := 2) (q := 12) C dX5_licence_11 rfl rfl ?_
    refine Dn_i2l (q := 13) C dX5_licence_12 rfl ?_
    refine Dn_lconst (v := 0) (q := 14) C dX5_licence_13 (by decide) rfl ?_
    refine Dn_lconst (v := 1) (q := 15) C dX5_licence_14 (by decide) rfl ?_
    refine Dn_callS (q := 18) C (kX5_in X.l X.G X.tg) q_794 q_792 q_793 q_50 ⟨rfl, rfl⟩ (by decide +kernel) ⟨by decide, by decide⟩ dX5_licence_15 rfl ?_
    refine Dn_ifne (t := 24) (q := 21) C dX5_licence_18 (by decide) rfl ?_ ?_
    · refine Dn_ald_n (i := 0) (q := 25) C dX5_licence_24 rfl rfl ?_
      refine Dn_get (ci := 5) (j := 0) (T := TX5) (N := 25) (Cn := RX5) (q := 28) C rfl iX5 (by decide) q_710 dX5_licence_25 rfl ?_
      refine Dn_iconst (v := 0) (q := 29) C dX5_licence_28 (by decide) rfl ?_
      refine Dn_iald (q := 30) C dX5_licence_29 rfl ?_
      refine Dn_ild_n (i := 1) (q := 31) C dX5_licence_30 rfl rfl ?_
      refine Dn_ishr (q := 32) C dX5_licence_31 rfl ?_
      refine Dn_iconst (v := 1) (q := 33) C dX5_licence_32 (by decide) rfl ?_
      refine Dn_iand (q := 34) C dX5_licence_33 rfl ?_
      refine Dn_ist_n (i := 3) (q := 35) C dX5_licence_34 rfl (by decide) rfl ?_
      refine Dn_ald_n (i := 0) (q := 36) C dX5_licence_35 rfl rfl ?_
      refine Dn_get (ci := 5) (j := 0) (T := TX5) (N := 25) (Cn := RX5) (q := 39) C rfl iX5 (by decide) q_710 dX5_licence_36 rfl ?_
      refine Dn_iconst (v := 0) (q := 40) C dX5_licence_39 (by decide) rfl ?_
      refine Dn_ald_n (i := 0) (q := 41) C dX5_licence_40 rfl rfl ?_
      refine Dn_get (ci := 5) (j := 0) (T := TX5) (N := 25) (Cn := RX5) (q := 44) C rfl iX5 (by decide) q_710 dX5_licence_41 rfl ?_
      refine Dn_iconst (v := 0) (q := 45) C dX5_licence_44 (by decide) rfl ?_
      refine Dn_iald (q := 46) C dX5_licence_45 rfl ?_
      refine Dn_iconst (v := 1) (q := 47) C dX5_licence_46 (by decide) rfl ?_
      refine Dn_ild_n (i := 1) (q := 48) C dX5_licence_47 rfl rfl ?_
      refine Dn_ishl (q := 49) C dX5_licence_48 rfl ?_
      refine Dn_iconst (v := (-1)) (q := 50) C dX5_licence_49 (by decide) rfl ?_
      refine Dn_ixor (q := 51) C dX5_licence_50 rfl ?_
      refine Dn_iand (q := 52) C dX5_licence_51 rfl ?_
      refine Dn_ild_n (i := 2) (q := 53) C dX5_licence_52 rfl rfl ?_
      refine Dn_ild_n (i := 1) (q := 54) C dX5_licence_53 rfl rfl ?_
      refine Dn_ishl (q := 55) C dX5_licence_54 rfl ?_
      refine Dn_ior (q := 56) C dX5_licence_55 rfl ?_
      refine Dn_iast (q := 57) C dX5_licence_56 rfl ?_
      refine Dn_ild_n (i := 3) (q := 58) C dX5_licence_57 rfl rfl ?_
      exact Dn_iret C hX dX5_licence_58
    · refine Dn_bipush (v := (-3)) (q := 23) C dX5_licence_21 (by decide) rfl ?_
      exact Dn_iret C hX dX5_licence_23
  · refine Dn_bipush (v := (-2)) (q := 10) C dX5_licence_8 (by decide) rfl ?_
    exact Dn_iret C hX dX5_licence_10
abbrev rX5_isHour : Room := ({ frames := 1, cells := 0, slots := 0, locals := 25 } : Room)
def jX5_isHour : mK := i_ild 0 (i_i2l (i_push (.long 0) (i_push (.long 11) (i_call 3 FX5_in (i_nret .boolean)))))
def FX5_isHour : mF := mEnt 1 jX5_isHour
set_option maxRecDepth 20000 in
theorem kX5_isHour (l : Launch) (G : va_G) (tg : Nat → ClassId) : Ct l G tg yX5_isHour cX5_isHour 1 (some FieldType.boolean) rX5_isHour FX5_isHour := by
  refine Ct.of RX5 (by decide) rfl (fun X C hX => ?_)
  unfold jX5_isHour
  refine Dn_ild_n (i := 0) (q := 1) C dX5_isHour_0 rfl rfl ?_
  refine Dn_i2l (q := 2) C dX5_isHour_1 rfl ?_
  refine Dn_lconst (v := 0) (q := 3) C dX5_isHour_2 (by decide) rfl ?_
  refine Dn_ldc2 (q := 6) C dX5_isHour_3 q_928 rfl ?_
  refine Dn_callS (q := 9) C (kX5_in X.l X.G X.tg) q_794 q_792 q_793 q_50 ⟨rfl, rfl⟩ (by decide +kernel) ⟨by decide, by decide⟩ dX5_isHour_6 rfl ?_
  exact Dn_nret C hX dX5_isHour_9
abbrev rX5_sound : Room := ({ frames := 2, cells := 0, slots := 0, locals := 52 } : Room)
def jX5_sound_38 : mK := i_iret
set_option maxRecDepth 20000 in
theorem JX5_sound_38 {X : mC} (C : Cx X rX5_sound cX5_sound 4 RX5 (some FieldType.int)) (hX : Rx X) : Den X rX5_sound 4 38 jX5_sound_38 := by
  unfold jX5_sound_38
  exact Dn_iret C hX dX5_sound_38
def jX5_sound_16 : mK := i_push (.int (-2)) (i_iret)
set_option maxRecDepth 20000 in
theorem JX5_sound_16 {X : mC} (C : Cx X rX5_sound cX5_sound 4 RX5 (some FieldType.int)) (hX : Rx X) : Den X rX5_sound 4 16 jX5_sound_16 := by
  unfold jX5_sound_16
  refine Dn_bipush (v := (-2)) (q := 18) C dX5_sound_16 (by decide) rfl ?_
  exact Dn_iret C hX dX5_sound_18
def jX5_sound : mK := i_ald 0 (i_ild 1 (i_callV 5 1 FX5_isBand (i_ifeq (jX5_sound_16) (i_ald 0 (i_ild 2 (i_callV 5 1 FX5_isPlace (i_ifne (i_ild 3 (i_call 1 FX5_isHour (i_ifeq (i_push (.int (-3)) (jX5_sound_38)) (i_ald 0 (i_ild 1 (i_ild 2 (i_ild 3 (i_callV 5 3 FX5_soundOf (jX5_sound_38))))))))) (jX5_sound_16))))))))
def FX5_sound : mF := mEnt 4 jX5_sound
set_option maxRecDepth 20000 in
theorem kX5_sound (l : Launch) (G : va_G) (tg : Nat → ClassId) : Ct l G tg yX5_sound cX5_sound 4 (some FieldType.int) rX5_sound FX5_sound := by
  refine Ct.of RX5 (by decide) rfl (fun X C hX => ?_)
  unfold jX5_sound
  refine Dn_ald_n (i := 0) (q := 1) C dX5_sound_0 rfl rfl ?_
  refine Dn_ild_n (i := 1) (q := 2) C dX5_sound_1 rfl rfl ?_
  refine Dn_callV (ci := 5) (T := TX5) (N := 25) (q := 5) C rfl (kX5_isBand X.l X.G X.tg) q_903 q_900 q_902 q_29 q_50 ⟨rfl, rfl⟩ (by decide +kernel) ⟨by decide, by decide⟩ dX5_sound_2 rfl ?_
  refine Dn_ifeq (t := 16) (q := 8) C dX5_sound_5 (by decide) rfl ?_ ?_
  · exact JX5_sound_16 C hX
  · refine Dn_ald_n (i := 0) (q := 9) C dX5_sound_8 rfl rfl ?_
    refine Dn_ild_n (i := 2) (q := 10) C dX5_sound_9 rfl rfl ?_
    refine Dn_callV (ci := 5) (T := TX5) (N := 25) (q := 13) C rfl (kX5_isPlace X.l X.G X.tg) q_887 q_884 q_886 q_26 q_50 ⟨rfl, rfl⟩ (by decide +kernel) ⟨by decide, by decide⟩ dX5_sound_10 rfl ?_
    refine Dn_ifne (t := 19) (q := 16) C dX5_sound_13 (by decide) rfl ?_ ?_
    · refine Dn_ild_n (i := 3) (q := 20) C dX5_sound_19 rfl rfl ?_
      refine Dn_callS (q := 23) C (kX5_isHour X.l X.G X.tg) q_927 q_925 q_926 q_50 ⟨rfl, rfl⟩ (by decide +kernel) ⟨by decide, by decide⟩ dX5_sound_20 rfl ?_
      refine Dn_ifeq (t := 36) (q := 26) C dX5_sound_23 (by decide) rfl ?_ ?_
      · refine Dn_bipush (v := (-3)) (q := 38) C dX5_sound_36 (by decide) rfl ?_
        exact JX5_sound_38 C hX
      · refine Dn_ald_n (i := 0) (q := 27) C dX5_sound_26 rfl rfl ?_
        refine Dn_ild_n (i := 1) (q := 28) C dX5_sound_27 rfl rfl ?_
        refine Dn_ild_n (i := 2) (q := 29) C dX5_sound_28 rfl rfl ?_
        refine Dn_ild_n (i := 3) (q := 30) C dX5_sound_29 rfl rfl ?_
        refine Dn_callV (ci := 5) (T := TX5) (N := 25) (q := 33) C rfl (kX5_soundOf X.l X.G X.tg) q_912 q_909 q_911 q_30 q_50 ⟨rfl, rfl⟩ (by decide +kernel) ⟨by decide, by decide⟩ dX5_sound_30 rfl ?_
        refine Dn_goto (t := 38) C dX5_sound_33 (by decide) ?_
        exact JX5_sound_38 C hX
    · exact JX5_sound_16 C hX
abbrev rX5_noise : Room := ({ frames := 3, cells := 0, slots := 0, locals := 77 } : Room)
def jX5_noise_35 : mK := i_iret
set_option maxRecDepth 20000 in
theorem JX5_noise_35 {X : mC} (C : Cx X rX5_noise cX5_noise 3 RX5 (some FieldType.int)) (hX : Rx X) : Den X rX5_noise 3 35 jX5_noise_35 := by
  unfold jX5_noise_35
  exact Dn_iret C hX dX5_noise_35
def jX5_noise : mK := i_ald 0 (i_ild 1 (i_callV 5 1 FX5_isPlace (i_ifne (i_ild 2 (i_call 1 FX5_isHour (i_ifeq (i_push (.int (-3)) (jX5_noise_35)) (i_ald 0 (i_ald 0 (i_get 5 0 (i_push (.int 0) (i_iald (i_ild 1 (i_ild 2 (i_callV 5 3 FX5_noiseBy (jX5_noise_35)))))))))))) (i_push (.int (-2)) (i_iret)))))
def FX5_noise : mF := mEnt 3 jX5_noise
set_option maxRecDepth 20000 in
theorem kX5_noise (l : Launch) (G : va_G) (tg : Nat → ClassId) : Ct l G tg yX5_noise cX5_noise 3 (some FieldType.int) rX5_noise FX5_noise := by
  refine Ct.of RX5 (by decide) rfl (fun X C hX => ?_)
  unfold jX5_noise
  refine Dn_ald_n (i := 0) (q := 1) C dX5_noise_0 rfl rfl ?_
  refine Dn_ild_n (i := 1) (q := 2) C dX5_noise_1 rfl rfl ?_
  refine Dn_callV (ci := 5) (T := TX5) (N := 25) (q := 5) C rfl (kX5_isPlace X.l X.G X.tg) q_887 q_884 q_886 q_26 q_50 ⟨rfl, rfl⟩ (by decide +kernel) ⟨by decide, by decide⟩ dX5_noise_2 rfl ?_
  refine Dn_ifne (t := 11) (q := 8) C dX5_noise_5 (by decide) rfl ?_ ?_
  · refine Dn_ild_n (i := 2) (q := 12) C dX5_noise_11 rfl rfl ?_
    refine Dn_callS (q := 15) C (kX5_isHour X.l X.G X.tg) q_927 q_925 q_926 q_50 ⟨rfl, rfl⟩ (by decide +kernel) ⟨by decide, by decide⟩ dX5_noise_12 rfl ?_
    refine Dn_ifeq (t := 33) (q := 18) C dX5_noise_15 (by decide) rfl ?_ ?_
    · refine Dn_bipush (v := (-3)) (q := 35) C dX5_noise_33 (by decide) rfl ?_
      exact JX5_noise_35 C hX
    · refine Dn_ald_n (i := 0) (q := 19) C dX5_noise_18 rfl rfl ?_
      refine Dn_ald_n (i := 0) (q := 20) C dX5_noise_19 rfl rfl ?_
      refine Dn_get (ci := 5) (j := 0) (T := TX5) (N := 25) (Cn := RX5) (q := 23) C rfl iX5 (by decide) q_710 dX5_noise_20 rfl ?_
      refine Dn_iconst (v := 0) (q := 24) C dX5_noise_23 (by decide) rfl ?_
      refine Dn_iald (q := 25) C dX5_noise_24 rfl ?_
      refine Dn_ild_n (i := 1) (q := 26) C dX5_noise_25 rfl rfl ?_
      refine Dn_ild_n (i := 2) (q := 27) C dX5_noise_26 rfl rfl ?_
      refine Dn_callV (ci := 5) (T := TX5) (N := 25) (q := 30) C rfl (kX5_noiseBy X.l X.G X.tg) q_936 q_933 q_935 q_32 q_50 ⟨rfl, rfl⟩ (by decide +kernel) ⟨by decide, by decide⟩ dX5_noise_27 rfl ?_
      refine Dn_goto (t := 35) C dX5_noise_30 (by decide) ?_
      exact JX5_noise_35 C hX
  · refine Dn_bipush (v := (-2)) (q := 10) C dX5_noise_8 (by decide) rfl ?_
    exact Dn_iret C hX dX5_noise_10
abbrev rX5_step : Room := ({ frames := 4, cells := 0, slots := 0, locals := 100 } : Room)
def jX5_step_99 : mK := i_iret
set_option maxRecDepth 20000 in
theorem JX5_step_99 {X : mC} (C : Cx X rX5_step cX5_step 2 RX5 (some FieldType.int)) (hX : Rx X) : Den X rX5_step 2 99 jX5_step_99 := by
  unfold jX5_step_99
  exact Dn_iret C hX dX5_step_99
def jX5_step_47 : mK := i_push (.int (-4)) (i_iret)
set_option maxRecDepth 20000 in
theorem JX5_step_47 {X : mC} (C : Cx X rX5_step cX5_step 2 RX5 (some FieldType.int)) (hX : Rx X) : Den X rX5_step 2 47 jX5_step_47 := by
  unfold jX5_step_47
  refine Dn_bipush (v := (-4)) (q := 49) C dX5_step_47 (by decide) rfl ?_
  exact Dn_iret C hX dX5_step_49
def jX5_step : mK := i_ald 0 (i_ild 1 (i_callV 5 1 FX5_isPlace (i_ifne (i_ald 0 (i_get 5 0 (i_push (.int 1) (i_iald (i_push (.int (-1)) (i_iceq (jX5_step_47) (i_ald 0 (i_ald 0 (i_get 5 0 (i_push (.int 1) (i_iald (i_ild 1 (i_callV 5 2 FX5_far (i_push (.int 1) (i_icgt (jX5_step_47) (i_ald 0 (i_get 5 11 (i_ild 1 (i_call 2 FX5_has (i_ifne (i_ald 0 (i_get 5 0 (i_push (.int 1) (i_ild 1 (i_iast (i_ald 0 (i_get 5 0 (i_push (.int 2) (i_ald 0 (i_get 5 0 (i_push (.int 2) (i_iald (i_push (.int 1) (i_ib (fun x y => x + y) (i_push (.int 12) (i_irem (i_iast (i_ald 0 (i_ald 0 (i_get 5 0 (i_push (.int 0) (i_iald (i_ild 1 (i_ald 0 (i_get 5 0 (i_push (.int 2) (i_iald (i_callV 5 3 FX5_isHeard (i_ifeq (i_push (.int 0) (jX5_step_99)) (i_push (.int 1) (jX5_step_99))))))))))))))))))))))))))))))) (jX5_step_47))))))))))))))))))))) (i_push (.int (-2)) (i_iret)))))
def FX5_step : mF := mEnt 2 jX5_step
set_option maxRecDepth 20000 in
theorem kX5_step (l : Launch) (G : va_G) (tg : Nat → ClassId) : Ct l G tg yX5_step cX5_step 2 (some FieldType.int) rX5_step FX5_step := by
  refine Ct.of RX5 (by decide) rfl (fun X C hX => ?_)
  unfold jX5_step
  refine Dn_ald_n (i := 0) (q := 1) C dX5_step_0 rfl rfl ?_
  refine Dn_ild_n (i := 1) (q := 2) C dX5_step_1 rfl rfl ?_
  refine Dn_callV (ci := 5) (T := TX5) (N := 25) (q := 5) C rfl (kX5_isPlace X.l X.G X.tg) q_887 q_884 q_886 q_26 q_50 ⟨rfl, rfl⟩ (by decide +kernel) ⟨by decide, by decide⟩ dX5_step_2 rfl ?_
  refine Dn_ifne (t := 11) (q := 8) C dX5_step_5 (by decide) rfl ?_ ?_
  · refine Dn_ald_n (i := 0) (q := 12) C dX5_step_11 rfl rfl ?_
    refine Dn_get (ci := 5) (j := 0) (T := TX5) (N := 25) (Cn := RX5) (q := 15) C rfl iX5 (by decide) q_710 dX5_step_12 rfl ?_
    refine Dn_iconst (v := 1) (q := 16) C dX5_step_15 (by decide) rfl ?_
    refine Dn_iald (q := 17) C dX5_step_16 rfl ?_
    refine Dn_iconst (v := (-1)) (q := 18) C dX5_step_17 (by decide) rfl ?_
    refine Dn_iceq (t := 47) (q := 21) C dX5_step_18 (by decide) rfl ?_ ?_
    · exact JX5_step_47 C hX
    · refine Dn_ald_n (i := 0) (q := 22) C dX5_step_21 rfl rfl ?_
      refine Dn_ald_n (i := 0) (q := 23) C dX5_step_22 rfl rfl ?_
      refine Dn_get (ci := 5) (j := 0) (T := TX5) (N := 25) (Cn := RX5) (q := 26) C rfl iX5 (by decide) q_710 dX5_step_23 rfl ?_
      refine Dn_iconst (v := 1) (q := 27) C dX5_step_26 (by decide) rfl ?_
      refine Dn_iald (q := 28) C dX5_step_27 rfl ?_
      refine Dn_ild_n (i := 1) (q := 29) C dX5_step_28 rfl rfl ?_
      refine Dn_callV (ci := 5) (T := TX5) (N := 25) (q := 32) C rfl (kX5_far X.l X.G X.tg) q_895 q_892 q_894 q_28 q_50 ⟨rfl, rfl⟩ (by decide +kernel) ⟨by decide, by decide⟩ dX5_step_29 rfl ?_
      refine Dn_iconst (v := 1) (q := 33) C dX5_step_32 (by decide) rfl ?_
      refine Dn_icgt (t := 47) (q := 36) C dX5_step_33 (by decide) rfl ?_ ?_
      · exact JX5_step_47 C hX
      · refine Dn_ald_n (i := 0) (q := 37) C dX5_step_36 rfl rfl ?_
        refine Dn_get (ci := 5) (j := 11) (T := TX5) (N := 25) (Cn := RX5) (q := 40) C rfl iX5 (by decide) q_721 dX5_step_37 rfl ?_
        refine Dn_ild_n (i := 1) (q := 41) C dX5_step_40 rfl rfl ?_
        refine Dn_callS (q := 44) C (kX5_has X.l X.G X.tg) q_862 q_860 q_861 q_50 ⟨rfl, rfl⟩ (by decide +kernel) ⟨by decide, by decide⟩ dX5_step_41 rfl ?_
        refine Dn_ifne (t := 50) (q := 47) C dX5_step_44 (by decide) rfl ?_ ?_
        · refine Dn_ald_n (i := 0) (q := 51) C dX5_step_50 rfl rfl ?_
          refine Dn_get (ci := 5) (j := 0) (T := TX5) (N := 25) (Cn := RX5) (q := 54) C rfl iX5 (by decide) q_710 dX5_step_51 rfl ?_
          refine Dn_iconst (v := 1) (q := 55) C dX5_step_54 (by decide) rfl ?_
          refine Dn_ild_n (i := 1) (q := 56) C dX5_step_55 rfl rfl ?_
          refine Dn_iast (q := 57) C dX5_step_56 rfl ?_
          refine Dn_ald_n (i := 0) (q := 58) C dX5_step_57 rfl rfl ?_
          refine Dn_get (ci := 5) (j := 0) (T := TX5) (N := 25) (Cn := RX5) (q := 61) C rfl iX5 (by decide) q_710 dX5_step_58 rfl ?_
          refine Dn_iconst (v := 2) (q := 62) C dX5_step_61 (by decide) rfl ?_
          refine Dn_ald_n (i := 0) (q := 63) C dX5_step_62 rfl rfl ?_
          refine Dn_get (ci := 5) (j := 0) (T := TX5) (N := 25) (Cn := RX5) (q := 66) C rfl iX5 (by decide) q_710 dX5_step_63 rfl ?_
          refine Dn_iconst (v := 2) (q := 67) C dX5_step_66 (by decide) rfl ?_
          refine Dn_iald (q := 68) C dX5_step_67 rfl ?_
          refine Dn_iconst (v := 1) (q := 69) C dX5_step_68 (by decide) rfl ?_
          refine Dn_iadd (q := 70) C dX5_step_69 rfl ?_
          refine Dn_bipush (v := 12) (q := 72) C dX5_step_70 (by decide) rfl ?_
          refine Dn_irem (q := 73) C dX5_step_72 rfl ?_
          refine Dn_iast (q := 74) C dX5_step_73 rfl ?_
          refine Dn_ald_n (i := 0) (q := 75) C dX5_step_74 rfl rfl ?_
          refine Dn_ald_n (i := 0) (q := 76) C dX5_step_75 rfl rfl ?_
          refine Dn_get (ci := 5) (j := 0) (T := TX5) (N := 25) (Cn := RX5) (q := 79) C rfl iX5 (by decide) q_710 dX5_step_76 rfl ?_
          refine Dn_iconst (v := 0) (q := 80) C dX5_step_79 (by decide) rfl ?_
          refine Dn_iald (q := 81) C dX5_step_80 rfl ?_
          refine Dn_ild_n (i := 1) (q := 82) C dX5_step_81 rfl rfl ?_
          refine Dn_ald_n (i := 0) (q := 83) C dX5_step_82 rfl rfl ?_
          refine Dn_get (ci := 5) (j := 0) (T := TX5) (N := 25) (Cn := RX5) (q := 86) C rfl iX5 (by decide) q_710 dX5_step_83 rfl ?_
          refine Dn_iconst (v := 2) (q := 87) C dX5_step_86 (by decide) rfl ?_
          refine Dn_iald (q := 88) C dX5_step_87 rfl ?_
          refine Dn_callV (ci := 5) (T := TX5) (N := 25) (q := 91) C rfl (kX5_isHeard X.l X.G X.tg) q_944 q_941 q_943 q_33 q_50 ⟨rfl, rfl⟩ (by decide +kernel) ⟨by decide, by decide⟩ dX5_step_88 rfl ?_
          refine Dn_ifeq (t := 98) (q := 94) C dX5_step_91 (by decide) rfl ?_ ?_
          · refine Dn_iconst (v := 0) (q := 99) C dX5_step_98 (by decide) rfl ?_
            exact JX5_step_99 C hX
          · refine Dn_iconst (v := 1) (q := 95) C dX5_step_94 (by decide) rfl ?_
            refine Dn_goto (t := 99) C dX5_step_95 (by decide) ?_
            exact JX5_step_99 C hX
        · exact JX5_step_47 C hX
  · refine Dn_bipush (v := (-2)) (q := 10) C dX5_step_8 (by decide) rfl ?_
    exact Dn_iret C hX dX5_step_10
abbrev rX5_copy : Room := ({ frames := 0, cells := 0, slots := 0, locals := 0 } : Room)
def jX5_copy_2 : mK := i_loop (fun B2 => i_ild 3 (i_push (.int 3) (i_icge (i_vret) (i_ald 0 (i_get 5 0 (i_push (.int 3) (i_ild 2 (i_ib (fun x y => x * y) (i_ild 3 (i_ib (fun x y => x + y) (i_ald 0 (i_get 5 0 (i_push (.int 3) (i_ild 1 (i_ib (fun x y => x * y) (i_ild 3 (i_ib (fun x y => x + y) (i_iald (i_iast (i_inc 3 1 (B2))))))))))))))))))))) 1000
set_option maxRecDepth 20000 in
theorem JX5_copy_2 {X : mC} (C : Cx X rX5_copy cX5_copy 4 RX5 none) (hX : Rx X) : Den X rX5_copy 4 2 jX5_copy_2 := by
  unfold jX5_copy_2
  refine Dn_loop (fun B2 hB2 => ?_) 1000
  refine Dn_ild_n (i := 3) (q := 3) C dX5_copy_2 rfl rfl ?_
  refine Dn_iconst (v := 3) (q := 4) C dX5_copy_3 (by decide) rfl ?_
  refine Dn_icge (t := 33) (q := 7) C dX5_copy_4 (by decide) rfl ?_ ?_
  · exact Dn_vret C hX dX5_copy_33
  · refine Dn_ald_n (i := 0) (q := 8) C dX5_copy_7 rfl rfl ?_
    refine Dn_get (ci := 5) (j := 0) (T := TX5) (N := 25) (Cn := RX5) (q := 11) C rfl iX5 (by decide) q_710 dX5_copy_8 rfl ?_
    refine Dn_iconst (v := 3) (q := 12) C dX5_copy_11 (by decide) rfl ?_
    refine Dn_ild_n (i := 2) (q := 13) C dX5_copy_12 rfl rfl ?_
    refine Dn_imul (q := 14) C dX5_copy_13 rfl ?_
    refine Dn_ild_n (i := 3) (q := 15) C dX5_copy_14 rfl rfl ?_
    refine Dn_iadd (q := 16) C dX5_copy_15 rfl ?_
    refine Dn_ald_n (i := 0) (q := 17) C dX5_copy_16 rfl rfl ?_
    refine Dn_get (ci := 5) (j := 0) (T := TX5) (N := 25) (Cn := RX5) (q := 20) C rfl iX5 (by decide) q_710 dX5_copy_17 rfl ?_
    refine Dn_iconst (v := 3) (q := 21) C dX5_copy_20 (by decide) rfl ?_
    refine Dn_ild_n (i := 1) (q := 22) C dX5_copy_21 rfl rfl ?_
    refine Dn_imul (q := 23) C dX5_copy_22 rfl ?_
    refine Dn_ild_n (i := 3) (q := 24) C dX5_copy_23 rfl rfl ?_
    refine Dn_iadd (q := 25) C dX5_copy_24 rfl ?_
    refine Dn_iald (q := 26) C dX5_copy_25 rfl ?_
    refine Dn_iast (q := 27) C dX5_copy_26 rfl ?_
    refine Dn_inc (z := 1) (q := 30) C dX5_copy_27 (by decide) (by decide) rfl ?_
    refine Dn_goto (t := 2) C dX5_copy_30 (by decide) ?_
    exact hB2
def jX5_copy : mK := i_push (.int 0) (i_ist 3 (jX5_copy_2))
def FX5_copy : mF := mEnt 4 jX5_copy
set_option maxRecDepth 20000 in
theorem kX5_copy (l : Launch) (G : va_G) (tg : Nat → ClassId) : Ct l G tg yX5_copy cX5_copy 4 none rX5_copy FX5_copy := by
  refine Ct.of RX5 (by decide) rfl (fun X C hX => ?_)
  unfold jX5_copy
  refine Dn_iconst (v := 0) (q := 1) C dX5_copy_0 (by decide) rfl ?_
  refine Dn_ist_n (i := 3) (q := 2) C dX5_copy_1 rfl (by decide) rfl ?_
  exact JX5_copy_2 C hX
abbrev rX5_keep : Room := ({ frames := 1, cells := 0, slots := 0, locals := 25 } : Room)
def jX5_keep : mK := i_ild 1 (i_i2l (i_push (.long 0) (i_push (.long 1) (i_call 3 FX5_in (i_ifne (i_ald 0 (i_push (.int 0) (i_push (.int 1) (i_ild 1 (i_ib (fun x y => x + y) (i_callV 5 2 FX5_copy (i_ald 0 (i_get 5 1 (i_ild 1 (i_push (.int 1) (i_zast (i_ald 0 (i_get 5 0 (i_push (.int 2) (i_iald (i_iret)))))))))))))))) (i_push (.int (-2)) (i_iret)))))))
def FX5_keep : mF := mEnt 2 jX5_keep
set_option maxRecDepth 20000 in
theorem kX5_keep (l : Launch) (G : va_G) (tg : Nat → ClassId) : Ct l G tg yX5_keep cX5_keep 2 (some FieldType.int) rX5_keep FX5_keep := by
  refine Ct.of RX5 (by decide) rfl (fun X C hX => ?_)
  unfold jX5_keep
  refine Dn_ild_n (i := 1) (q := 1) C dX5_keep_0 rfl rfl ?_
  refine Dn_i2l (q := 2) C dX5_keep_1 rfl ?_
  refine Dn_lconst (v := 0) (q := 3) C dX5_keep_2 (by decide) rfl ?_
  refine Dn_lconst (v := 1) (q := 4) C dX5_keep_3 (by decide) rfl ?_
  refine Dn_callS (q := 7) C (kX5_in X.l X.G X.tg) q_794 q_792 q_793 q_50 ⟨rfl, rfl⟩ (by decide +kernel) ⟨by decide, by decide⟩ dX5_keep_4 rfl ?_
  refine Dn_ifne (t := 13) (q := 10) C dX5_keep_7 (by decide) rfl ?_ ?_
  · refine Dn_ald_n (i := 0) (q := 14) C dX5_keep_13 rfl rfl ?_
    refine Dn_iconst (v := 0) (q := 15) C dX5_keep_14 (by decide) rfl ?_
    refine Dn_iconst (v := 1) (q := 16) C dX5_keep_15 (by decide) rfl ?_
    refine Dn_ild_n (i := 1) (q := 17) C dX5_keep_16 rfl rfl ?_
    refine Dn_iadd (q := 18) C dX5_keep_17 rfl ?_
    refine Dn_callV (ci := 5) (T := TX5) (N := 25) (q := 21) C rfl (kX5_copy X.l X.G X.tg) q_952 q_949 q_951 q_34 q_50 ⟨rfl, rfl⟩ (by decide +kernel) ⟨by decide, by decide⟩ dX5_keep_18 rfl ?_
    refine Dn_ald_n (i := 0) (q := 22) C dX5_keep_21 rfl rfl ?_
    refine Dn_get (ci := 5) (j := 1) (T := TX5) (N := 25) (Cn := RX5) (q := 25) C rfl iX5 (by decide) q_711 dX5_keep_22 rfl ?_
    refine Dn_ild_n (i := 1) (q := 26) C dX5_keep_25 rfl rfl ?_
    refine Dn_iconst (v := 1) (q := 27) C dX5_keep_26 (by decide) rfl ?_
    refine Dn_zast (q := 28) C dX5_keep_27 rfl ?_
    refine Dn_ald_n (i := 0) (q := 29) C dX5_keep_28 rfl rfl ?_
    refine Dn_get (ci := 5) (j := 0) (T := TX5) (N := 25) (Cn := RX5) (q := 32) C rfl iX5 (by decide) q_710 dX5_keep_29 rfl ?_
    refine Dn_iconst (v := 2) (q := 33) C dX5_keep_32 (by decide) rfl ?_
    refine Dn_iald (q := 34) C dX5_keep_33 rfl ?_
    exact Dn_iret C hX dX5_keep_34
  · refine Dn_bipush (v := (-2)) (q := 12) C dX5_keep_10 (by decide) rfl ?_
    exact Dn_iret C hX dX5_keep_12
abbrev rX5_back : Room := ({ frames := 1, cells := 0, slots := 0, locals := 25 } : Room)
def jX5_back : mK := i_ild 1 (i_i2l (i_push (.long 0) (i_push (.long 1) (i_call 3 FX5_in (i_ifne (i_ald 0 (i_get 5 1 (i_ild 1 (i_zald (i_ifne (i_ald 0 (i_push (.int 1) (i_ild 1 (i_ib (fun x y => x + y) (i_push (.int 0) (i_callV 5 2 FX5_copy (i_ald 0 (i_get 5 0 (i_push (.int 2) (i_iald (i_iret))))))))))) (i_push (.int (-4)) (i_iret))))))) (i_push (.int (-2)) (i_iret)))))))
def FX5_back : mF := mEnt 2 jX5_back
set_option maxRecDepth 20000 in
theorem kX5_back (l : Launch) (G : va_G) (tg : Nat → ClassId) : Ct l G tg yX5_back cX5_back 2 (some FieldType.int) rX5_back FX5_back := by
  refine Ct.of RX5 (by decide) rfl (fun X C hX => ?_)
  unfold jX5_back
  refine Dn_ild_n (i := 1) (q := 1) C dX5_back_0 rfl rfl ?_
  refine Dn_i2l (q := 2) C dX5_back_1 rfl ?_
  refine Dn_lconst (v := 0) (q := 3) C dX5_back_2 (by decide) rfl ?_
  refine Dn_lconst (v := 1) (q := 4) C dX5_back_3 (by decide) rfl ?_
  refine Dn_callS (q := 7) C (kX5_in X.l X.G X.tg) q_794 q_792 q_793 q_50 ⟨rfl, rfl⟩ (by decide +kernel) ⟨by decide, by decide⟩ dX5_back_4 rfl ?_
  refine Dn_ifne (t := 13) (q := 10) C dX5_back_7 (by decide) rfl ?_ ?_
  · refine Dn_ald_n (i := 0) (q := 14) C dX5_back_13 rfl rfl ?_
    refine Dn_get (ci := 5) (j := 1) (T := TX5) (N := 25) (Cn := RX5) (q := 17) C rfl iX5 (by decide) q_711 dX5_back_14 rfl ?_
    refine Dn_ild_n (i := 1) (q := 18) C dX5_back_17 rfl rfl ?_
    refine Dn_zald (q := 19) C dX5_back_18 rfl ?_
    refine Dn_ifne (t := 25) (q := 22) C dX5_back_19 (by decide) rfl ?_ ?_
    · refine Dn_ald_n (i := 0) (q := 26) C dX5_back_25 rfl rfl ?_
      refine Dn_iconst (v := 1) (q := 27) C dX5_back_26 (by decide) rfl ?_
      refine Dn_ild_n (i := 1) (q := 28) C dX5_back_27 rfl rfl ?_
      refine Dn_iadd (q := 29) C dX5_back_28 rfl ?_
      refine Dn_iconst (v := 0) (q := 30) C dX5_back_29 (by decide) rfl ?_
      refine Dn_callV (ci := 5) (T := TX5) (N := 25) (q := 33) C rfl (kX5_copy X.l X.G X.tg) q_952 q_949 q_951 q_34 q_50 ⟨rfl, rfl⟩ (by decide +kernel) ⟨by decide, by decide⟩ dX5_back_30 rfl ?_
      refine Dn_ald_n (i := 0) (q := 34) C dX5_back_33 rfl rfl ?_
      refine Dn_get (ci := 5) (j := 0) (T := TX5) (N := 25) (Cn := RX5) (q := 37) C rfl iX5 (by decide) q_710 dX5_back_34 rfl ?_
      refine Dn_iconst (v := 2) (q := 38) C dX5_back_37 (by decide) rfl ?_
      refine Dn_iald (q := 39) C dX5_back_38 rfl ?_
      exact Dn_iret C hX dX5_back_39
    · refine Dn_bipush (v := (-4)) (q := 24) C dX5_back_22 (by decide) rfl ?_
      exact Dn_iret C hX dX5_back_24
  · refine Dn_bipush (v := (-2)) (q := 12) C dX5_back_10 (by decide) rfl ?_
    exact Dn_iret C hX dX5_back_12
abbrev rX5_loudest : Room := ({ frames := 2, cells := 0, slots := 0, locals := 52 } : Room)
def jX5_loudest_72 (B9 : mK) : mK := i_ist 5 (i_inc 6 1 (B9))
set_option maxRecDepth 20000 in
theorem JX5_loudest_72 {X : mC} (C : Cx X rX5_loudest cX5_loudest 8 RX5 (some FieldType.int)) (hX : Rx X) (B9 : mK) (hB9 : Den X rX5_loudest 8 9 B9) : Den X rX5_loudest 8 72 (jX5_loudest_72 B9) := by
  unfold jX5_loudest_72
  refine Dn_ist (q := 74) C dX5_loudest_72 (by decide) rfl ?_
  refine Dn_inc (z := 1) (q := 77) C dX5_loudest_74 (by decide) (by decide) rfl ?_
  refine Dn_goto (t := 9) C dX5_loudest_77 (by decide) ?_
  exact hB9
def jX5_loudest_56 (B9 : mK) : mK := i_ist 4 (i_ild 7 (i_ild 5 (i_icle (i_ild 5 ((jX5_loudest_72 B9))) (i_ild 7 ((jX5_loudest_72 B9))))))
set_option maxRecDepth 20000 in
theorem JX5_loudest_56 {X : mC} (C : Cx X rX5_loudest cX5_loudest 8 RX5 (some FieldType.int)) (hX : Rx X) (B9 : mK) (hB9 : Den X rX5_loudest 8 9 B9) : Den X rX5_loudest 8 56 (jX5_loudest_56 B9) := by
  unfold jX5_loudest_56
  refine Dn_ist (q := 58) C dX5_loudest_56 (by decide) rfl ?_
  refine Dn_ild (q := 60) C dX5_loudest_58 rfl ?_
  refine Dn_ild (q := 62) C dX5_loudest_60 rfl ?_
  refine Dn_icle (t := 70) (q := 65) C dX5_loudest_62 (by decide) rfl ?_ ?_
  · refine Dn_ild (q := 72) C dX5_loudest_70 rfl ?_
    exact JX5_loudest_72 C hX B9 hB9
  · refine Dn_ild (q := 67) C dX5_loudest_65 rfl ?_
    refine Dn_goto (t := 72) C dX5_loudest_67 (by decide) ?_
    exact JX5_loudest_72 C hX B9 hB9
def jX5_loudest_40 (B9 : mK) : mK := i_ist 7 (i_ild 7 (i_ild 5 (i_icle (i_ild 4 ((jX5_loudest_56 B9))) (i_ild 6 ((jX5_loudest_56 B9))))))
set_option maxRecDepth 20000 in
theorem JX5_loudest_40 {X : mC} (C : Cx X rX5_loudest cX5_loudest 8 RX5 (some FieldType.int)) (hX : Rx X) (B9 : mK) (hB9 : Den X rX5_loudest 8 9 B9) : Den X rX5_loudest 8 40 (jX5_loudest_40 B9) := by
  unfold jX5_loudest_40
  refine Dn_ist (q := 42) C dX5_loudest_40 (by decide) rfl ?_
  refine Dn_ild (q := 44) C dX5_loudest_42 rfl ?_
  refine Dn_ild (q := 46) C dX5_loudest_44 rfl ?_
  refine Dn_icle (t := 54) (q := 49) C dX5_loudest_46 (by decide) rfl ?_ ?_
  · refine Dn_ild (q := 56) C dX5_loudest_54 rfl ?_
    exact JX5_loudest_56 C hX B9 hB9
  · refine Dn_ild (q := 51) C dX5_loudest_49 rfl ?_
    refine Dn_goto (t := 56) C dX5_loudest_51 (by decide) ?_
    exact JX5_loudest_56 C hX B9 hB9
def jX5_loudest_9 : mK := i_loop (fun B9 => i_ild 6 (i_ald 0 (i_get 5 14 (i_icge (i_ild 4 (i_iret)) (i_ild 1 (i_i2l (i_ild 6 (i_call 2 FX5_has (i_ifeq (i_push (.int 0) ((jX5_loudest_40 B9))) (i_ald 0 (i_ild 6 (i_ild 2 (i_ild 3 (i_callV 5 3 FX5_soundOf ((jX5_loudest_40 B9)))))))))))))))) 1000
set_option maxRecDepth 20000 in
theorem JX5_loudest_9 {X : mC} (C : Cx X rX5_loudest cX5_loudest 8 RX5 (some FieldType.int)) (hX : Rx X) : Den X rX5_loudest 8 9 jX5_loudest_9 := by
  unfold jX5_loudest_9
  refine Dn_loop (fun B9 hB9 => ?_) 1000
  refine Dn_ild (q := 11) C dX5_loudest_9 rfl ?_
  refine Dn_ald_n (i := 0) (q := 12) C dX5_loudest_11 rfl rfl ?_
  refine Dn_get (ci := 5) (j := 14) (T := TX5) (N := 25) (Cn := RX5) (q := 15) C rfl iX5 (by decide) q_724 dX5_loudest_12 rfl ?_
  refine Dn_icge (t := 80) (q := 18) C dX5_loudest_15 (by decide) rfl ?_ ?_
  · refine Dn_ild (q := 82) C dX5_loudest_80 rfl ?_
    exact Dn_iret C hX dX5_loudest_82
  · refine Dn_ild_n (i := 1) (q := 19) C dX5_loudest_18 rfl rfl ?_
    refine Dn_i2l (q := 20) C dX5_loudest_19 rfl ?_
    refine Dn_ild (q := 22) C dX5_loudest_20 rfl ?_
    refine Dn_callS (q := 25) C (kX5_has X.l X.G X.tg) q_862 q_860 q_861 q_50 ⟨rfl, rfl⟩ (by decide +kernel) ⟨by decide, by decide⟩ dX5_loudest_22 rfl ?_
    refine Dn_ifeq (t := 39) (q := 28) C dX5_loudest_25 (by decide) rfl ?_ ?_
    · refine Dn_iconst (v := 0) (q := 40) C dX5_loudest_39 (by decide) rfl ?_
      exact JX5_loudest_40 C hX B9 hB9
    · refine Dn_ald_n (i := 0) (q := 29) C dX5_loudest_28 rfl rfl ?_
      refine Dn_ild (q := 31) C dX5_loudest_29 rfl ?_
      refine Dn_ild_n (i := 2) (q := 32) C dX5_loudest_31 rfl rfl ?_
      refine Dn_ild_n (i := 3) (q := 33) C dX5_loudest_32 rfl rfl ?_
      refine Dn_callV (ci := 5) (T := TX5) (N := 25) (q := 36) C rfl (kX5_soundOf X.l X.G X.tg) q_912 q_909 q_911 q_30 q_50 ⟨rfl, rfl⟩ (by decide +kernel) ⟨by decide, by decide⟩ dX5_loudest_33 rfl ?_
      refine Dn_goto (t := 40) C dX5_loudest_36 (by decide) ?_
      exact JX5_loudest_40 C hX B9 hB9
def jX5_loudest : mK := i_push (.int (-1)) (i_ist 4 (i_push (.int 0) (i_ist 5 (i_push (.int 0) (i_ist 6 (jX5_loudest_9))))))
def FX5_loudest : mF := mEnt 8 jX5_loudest
set_option maxRecDepth 20000 in
theorem kX5_loudest (l : Launch) (G : va_G) (tg : Nat → ClassId) : Ct l G tg yX5_loudest cX5_loudest 8 (some FieldType.int) rX5_loudest FX5_loudest := by
  refine Ct.of RX5 (by decide) rfl (fun X C hX => ?_)
  unfold jX5_loudest
  refine Dn_iconst (v := (-1)) (q := 1) C dX5_loudest_0 (by decide) rfl ?_
  refine Dn_ist (q := 3) C dX5_loudest_1 (by decide) rfl ?_
  refine Dn_iconst (v := 0) (q := 4) C dX5_loudest_3 (by decide) rfl ?_
  refine Dn_ist (q := 6) C dX5_loudest_4 (by decide) rfl ?_
  refine Dn_iconst (v := 0) (q := 7) C dX5_loudest_6 (by decide) rfl ?_
  refine Dn_ist (q := 9) C dX5_loudest_7 (by decide) rfl ?_
  exact JX5_loudest_9 C hX
abbrev rX5_first : Room := ({ frames := 4, cells := 0, slots := 0, locals := 100 } : Room)
def jX5_first_94 (B17 : mK) (B25 : mK) : mK := i_inc 3 1 (B25)
set_option maxRecDepth 20000 in
theorem JX5_first_94 {X : mC} (C : Cx X rX5_first cX5_first 4 RX5 (some FieldType.int)) (hX : Rx X) (B17 : mK) (hB17 : Den X rX5_first 4 17 B17) (B25 : mK) (hB25 : Den X rX5_first 4 25 B25) : Den X rX5_first 4 94 (jX5_first_94 B17 B25) := by
  unfold jX5_first_94
  refine Dn_inc (z := 1) (q := 97) C dX5_first_94 (by decide) (by decide) rfl ?_
  refine Dn_goto (t := 25) C dX5_first_97 (by decide) ?_
  exact hB25
def jX5_first_93 : mK := i_iret
set_option maxRecDepth 20000 in
theorem JX5_first_93 {X : mC} (C : Cx X rX5_first cX5_first 4 RX5 (some FieldType.int)) (hX : Rx X) : Den X rX5_first 4 93 jX5_first_93 := by
  unfold jX5_first_93
  exact Dn_iret C hX dX5_first_93
def jX5_first_25 (B17 : mK) : mK := i_loop (fun B25 => i_ild 3 (i_ald 0 (i_get 5 6 (i_ald 0 (i_get 5 7 (i_ib (fun x y => x * y) (i_icge (i_inc 2 1 (B17)) (i_ald 0 (i_get 5 11 (i_ild 3 (i_call 2 FX5_has (i_ifeq ((jX5_first_94 B17 B25)) (i_ald 0 (i_ald 0 (i_get 5 0 (i_push (.int 0) (i_iald (i_ild 3 (i_ild 2 (i_callV 5 3 FX5_isHeard (i_ifne ((jX5_first_94 B17 B25)) (i_ild 1 (i_ifne (i_ild 1 (i_push (.int 1) (i_icne (i_ald 0 (i_ald 0 (i_get 5 0 (i_push (.int 0) (i_iald (i_ild 3 (i_ild 2 (i_callV 5 3 FX5_loudest (jX5_first_93))))))))) (i_ild 3 (jX5_first_93))))) (i_ild 2 (jX5_first_93))))))))))))))))))))))))) 1000
set_option maxRecDepth 20000 in
theorem JX5_first_25 {X : mC} (C : Cx X rX5_first cX5_first 4 RX5 (some FieldType.int)) (hX : Rx X) (B17 : mK) (hB17 : Den X rX5_first 4 17 B17) : Den X rX5_first 4 25 (jX5_first_25 B17) := by
  unfold jX5_first_25
  refine Dn_loop (fun B25 hB25 => ?_) 1000
  refine Dn_ild_n (i := 3) (q := 26) C dX5_first_25 rfl rfl ?_
  refine Dn_ald_n (i := 0) (q := 27) C dX5_first_26 rfl rfl ?_
  refine Dn_get (ci := 5) (j := 6) (T := TX5) (N := 25) (Cn := RX5) (q := 30) C rfl iX5 (by decide) q_716 dX5_first_27 rfl ?_
  refine Dn_ald_n (i := 0) (q := 31) C dX5_first_30 rfl rfl ?_
  refine Dn_get (ci := 5) (j := 7) (T := TX5) (N := 25) (Cn := RX5) (q := 34) C rfl iX5 (by decide) q_717 dX5_first_31 rfl ?_
  refine Dn_imul (q := 35) C dX5_first_34 rfl ?_
  refine Dn_icge (t := 100) (q := 38) C dX5_first_35 (by decide) rfl ?_ ?_
  · refine Dn_inc (z := 1) (q := 103) C dX5_first_100 (by decide) (by decide) rfl ?_
    refine Dn_goto (t := 17) C dX5_first_103 (by decide) ?_
    exact hB17
  · refine Dn_ald_n (i := 0) (q := 39) C dX5_first_38 rfl rfl ?_
    refine Dn_get (ci := 5) (j := 11) (T := TX5) (N := 25) (Cn := RX5) (q := 42) C rfl iX5 (by decide) q_721 dX5_first_39 rfl ?_
    refine Dn_ild_n (i := 3) (q := 43) C dX5_first_42 rfl rfl ?_
    refine Dn_callS (q := 46) C (kX5_has X.l X.G X.tg) q_862 q_860 q_861 q_50 ⟨rfl, rfl⟩ (by decide +kernel) ⟨by decide, by decide⟩ dX5_first_43 rfl ?_
    refine Dn_ifeq (t := 94) (q := 49) C dX5_first_46 (by decide) rfl ?_ ?_
    · exact JX5_first_94 C hX B17 hB17 B25 hB25
    · refine Dn_ald_n (i := 0) (q := 50) C dX5_first_49 rfl rfl ?_
      refine Dn_ald_n (i := 0) (q := 51) C dX5_first_50 rfl rfl ?_
      refine Dn_get (ci := 5) (j := 0) (T := TX5) (N := 25) (Cn := RX5) (q := 54) C rfl iX5 (by decide) q_710 dX5_first_51 rfl ?_
      refine Dn_iconst (v := 0) (q := 55) C dX5_first_54 (by decide) rfl ?_
      refine Dn_iald (q := 56) C dX5_first_55 rfl ?_
      refine Dn_ild_n (i := 3) (q := 57) C dX5_first_56 rfl rfl ?_
      refine Dn_ild_n (i := 2) (q := 58) C dX5_first_57 rfl rfl ?_
      refine Dn_callV (ci := 5) (T := TX5) (N := 25) (q := 61) C rfl (kX5_isHeard X.l X.G X.tg) q_944 q_941 q_943 q_33 q_50 ⟨rfl, rfl⟩ (by decide +kernel) ⟨by decide, by decide⟩ dX5_first_58 rfl ?_
      refine Dn_ifne (t := 94) (q := 64) C dX5_first_61 (by decide) rfl ?_ ?_
      · exact JX5_first_94 C hX B17 hB17 B25 hB25
      · refine Dn_ild_n (i := 1) (q := 65) C dX5_first_64 rfl rfl ?_
        refine Dn_ifne (t := 72) (q := 68) C dX5_first_65 (by decide) rfl ?_ ?_
        · refine Dn_ild_n (i := 1) (q := 73) C dX5_first_72 rfl rfl ?_
          refine Dn_iconst (v := 1) (q := 74) C dX5_first_73 (by decide) rfl ?_
          refine Dn_icne (t := 81) (q := 77) C dX5_first_74 (by decide) rfl ?_ ?_
          · refine Dn_ald_n (i := 0) (q := 82) C dX5_first_81 rfl rfl ?_
            refine Dn_ald_n (i := 0) (q := 83) C dX5_first_82 rfl rfl ?_
            refine Dn_get (ci := 5) (j := 0) (T := TX5) (N := 25) (Cn := RX5) (q := 86) C rfl iX5 (by decide) q_710 dX5_first_83 rfl ?_
            refine Dn_iconst (v := 0) (q := 87) C dX5_first_86 (by decide) rfl ?_
            refine Dn_iald (q := 88) C dX5_first_87 rfl ?_
            refine Dn_ild_n (i := 3) (q := 89) C dX5_first_88 rfl rfl ?_
            refine Dn_ild_n (i := 2) (q := 90) C dX5_first_89 rfl rfl ?_
            refine Dn_callV (ci := 5) (T := TX5) (N := 25) (q := 93) C rfl (kX5_loudest X.l X.G X.tg) q_965 q_962 q_964 q_35 q_50 ⟨rfl, rfl⟩ (by decide +kernel) ⟨by decide, by decide⟩ dX5_first_90 rfl ?_
            exact JX5_first_93 C hX
          · refine Dn_ild_n (i := 3) (q := 78) C dX5_first_77 rfl rfl ?_
            refine Dn_goto (t := 93) C dX5_first_78 (by decide) ?_
            exact JX5_first_93 C hX
        · refine Dn_ild_n (i := 2) (q := 69) C dX5_first_68 rfl rfl ?_
          refine Dn_goto (t := 93) C dX5_first_69 (by decide) ?_
          exact JX5_first_93 C hX
def jX5_first_17 : mK := i_loop (fun B17 => i_ild 2 (i_push (.int 12) (i_icge (i_push (.int (-1)) (i_iret)) (i_push (.int 0) (i_ist 3 ((jX5_first_25 B17))))))) 1000
set_option maxRecDepth 20000 in
theorem JX5_first_17 {X : mC} (C : Cx X rX5_first cX5_first 4 RX5 (some FieldType.int)) (hX : Rx X) : Den X rX5_first 4 17 jX5_first_17 := by
  unfold jX5_first_17
  refine Dn_loop (fun B17 hB17 => ?_) 1000
  refine Dn_ild_n (i := 2) (q := 18) C dX5_first_17 rfl rfl ?_
  refine Dn_bipush (v := 12) (q := 20) C dX5_first_18 (by decide) rfl ?_
  refine Dn_icge (t := 106) (q := 23) C dX5_first_20 (by decide) rfl ?_ ?_
  · refine Dn_iconst (v := (-1)) (q := 107) C dX5_first_106 (by decide) rfl ?_
    exact Dn_iret C hX dX5_first_107
  · refine Dn_iconst (v := 0) (q := 24) C dX5_first_23 (by decide) rfl ?_
    refine Dn_ist_n (i := 3) (q := 25) C dX5_first_24 rfl (by decide) rfl ?_
    exact JX5_first_25 C hX B17 hB17
def jX5_first : mK := i_ild 1 (i_i2l (i_push (.long 0) (i_push (.long 2) (i_call 3 FX5_in (i_ifne (i_push (.int 0) (i_ist 2 (jX5_first_17))) (i_push (.int (-3)) (i_iret)))))))
def FX5_first : mF := mEnt 4 jX5_first
set_option maxRecDepth 20000 in
theorem kX5_first (l : Launch) (G : va_G) (tg : Nat → ClassId) : Ct l G tg yX5_first cX5_first 4 (some FieldType.int) rX5_first FX5_first := by
  refine Ct.of RX5 (by decide) rfl (fun X C hX => ?_)
  unfold jX5_first
  refine Dn_ild_n (i := 1) (q := 1) C dX5_first_0 rfl rfl ?_
  refine Dn_i2l (q := 2) C dX5_first_1 rfl ?_
  refine Dn_lconst (v := 0) (q := 3) C dX5_first_2 (by decide) rfl ?_
  refine Dn_ldc2 (q := 6) C dX5_first_3 q_961 rfl ?_
  refine Dn_callS (q := 9) C (kX5_in X.l X.G X.tg) q_794 q_792 q_793 q_50 ⟨rfl, rfl⟩ (by decide +kernel) ⟨by decide, by decide⟩ dX5_first_6 rfl ?_
  refine Dn_ifne (t := 15) (q := 12) C dX5_first_9 (by decide) rfl ?_ ?_
  · refine Dn_iconst (v := 0) (q := 16) C dX5_first_15 (by decide) rfl ?_
    refine Dn_ist_n (i := 2) (q := 17) C dX5_first_16 rfl (by decide) rfl ?_
    exact JX5_first_17 C hX
  · refine Dn_bipush (v := (-3)) (q := 14) C dX5_first_12 (by decide) rfl ?_
    exact Dn_iret C hX dX5_first_14
abbrev rX5_worthOf : Room := ({ frames := 1, cells := 0, slots := 0, locals := 22 } : Room)
def jX5_worthOf_37 (B4 : mK) : mK := i_ib (fun x y => x + y) (i_ist 2 (i_inc 3 1 (B4)))
set_option maxRecDepth 20000 in
theorem JX5_worthOf_37 {X : mC} (C : Cx X rX5_worthOf cX5_worthOf 4 RX5 (some FieldType.int)) (hX : Rx X) (B4 : mK) (hB4 : Den X rX5_worthOf 4 4 B4) : Den X rX5_worthOf 4 37 (jX5_worthOf_37 B4) := by
  unfold jX5_worthOf_37
  refine Dn_iadd (q := 38) C dX5_worthOf_37 rfl ?_
  refine Dn_ist_n (i := 2) (q := 39) C dX5_worthOf_38 rfl (by decide) rfl ?_
  refine Dn_inc (z := 1) (q := 42) C dX5_worthOf_39 (by decide) (by decide) rfl ?_
  refine Dn_goto (t := 4) C dX5_worthOf_42 (by decide) ?_
  exact hB4
def jX5_worthOf_4 : mK := i_loop (fun B4 => i_ild 3 (i_ald 0 (i_get 5 14 (i_icge (i_ild 2 (i_iret)) (i_ild 2 (i_ild 1 (i_i2l (i_ild 3 (i_call 2 FX5_has (i_ifeq (i_push (.int 0) ((jX5_worthOf_37 B4))) (i_ald 0 (i_get 5 13 (i_push (.int 7) (i_ild 3 (i_ib (fun x y => x * y) (i_push (.int 5) (i_ib (fun x y => x + y) (i_iald ((jX5_worthOf_37 B4)))))))))))))))))))) 1000
set_option maxRecDepth 20000 in
theorem JX5_worthOf_4 {X : mC} (C : Cx X rX5_worthOf cX5_worthOf 4 RX5 (some FieldType.int)) (hX : Rx X) : Den X rX5_worthOf 4 4 jX5_worthOf_4 := by
  unfold jX5_worthOf_4
  refine Dn_loop (fun B4 hB4 => ?_) 1000
  refine Dn_ild_n (i := 3) (q := 5) C dX5_worthOf_4 rfl rfl ?_
  refine Dn_ald_n (i := 0) (q := 6) C dX5_worthOf_5 rfl rfl ?_
  refine Dn_get (ci := 5) (j := 14) (T := TX5) (N := 25) (Cn := RX5) (q := 9) C rfl iX5 (by decide) q_724 dX5_worthOf_6 rfl ?_
  refine Dn_icge (t := 45) (q := 12) C dX5_worthOf_9 (by decide) rfl ?_ ?_
  · refine Dn_ild_n (i := 2) (q := 46) C dX5_worthOf_45 rfl rfl ?_
    exact Dn_iret C hX dX5_worthOf_46
  · refine Dn_ild_n (i := 2) (q := 13) C dX5_worthOf_12 rfl rfl ?_
    refine Dn_ild_n (i := 1) (q := 14) C dX5_worthOf_13 rfl rfl ?_
    refine Dn_i2l (q := 15) C dX5_worthOf_14 rfl ?_
    refine Dn_ild_n (i := 3) (q := 16) C dX5_worthOf_15 rfl rfl ?_
    refine Dn_callS (q := 19) C (kX5_has X.l X.G X.tg) q_862 q_860 q_861 q_50 ⟨rfl, rfl⟩ (by decide +kernel) ⟨by decide, by decide⟩ dX5_worthOf_16 rfl ?_
    refine Dn_ifeq (t := 36) (q := 22) C dX5_worthOf_19 (by decide) rfl ?_ ?_
    · refine Dn_iconst (v := 0) (q := 37) C dX5_worthOf_36 (by decide) rfl ?_
      exact JX5_worthOf_37 C hX B4 hB4
    · refine Dn_ald_n (i := 0) (q := 23) C dX5_worthOf_22 rfl rfl ?_
      refine Dn_get (ci := 5) (j := 13) (T := TX5) (N := 25) (Cn := RX5) (q := 26) C rfl iX5 (by decide) q_723 dX5_worthOf_23 rfl ?_
      refine Dn_bipush (v := 7) (q := 28) C dX5_worthOf_26 (by decide) rfl ?_
      refine Dn_ild_n (i := 3) (q := 29) C dX5_worthOf_28 rfl rfl ?_
      refine Dn_imul (q := 30) C dX5_worthOf_29 rfl ?_
      refine Dn_iconst (v := 5) (q := 31) C dX5_worthOf_30 (by decide) rfl ?_
      refine Dn_iadd (q := 32) C dX5_worthOf_31 rfl ?_
      refine Dn_iald (q := 33) C dX5_worthOf_32 rfl ?_
      refine Dn_goto (t := 37) C dX5_worthOf_33 (by decide) ?_
      exact JX5_worthOf_37 C hX B4 hB4
def jX5_worthOf : mK := i_push (.int 0) (i_ist 2 (i_push (.int 0) (i_ist 3 (jX5_worthOf_4))))
def FX5_worthOf : mF := mEnt 4 jX5_worthOf
set_option maxRecDepth 20000 in
theorem kX5_worthOf (l : Launch) (G : va_G) (tg : Nat → ClassId) : Ct l G tg yX5_worthOf cX5_worthOf 4 (some FieldType.int) rX5_worthOf FX5_worthOf := by
  refine Ct.of RX5 (by decide) rfl (fun X C hX => ?_)
  unfold jX5_worthOf
  refine Dn_iconst (v := 0) (q := 1) C dX5_worthOf_0 (by decide) rfl ?_
  refine Dn_ist_n (i := 2) (q := 2) C dX5_worthOf_1 rfl (by decide) rfl ?_
  refine Dn_iconst (v := 0) (q := 3) C dX5_worthOf_2 (by decide) rfl ?_
  refine Dn_ist_n (i := 3) (q := 4) C dX5_worthOf_3 rfl (by decide) rfl ?_
  exact JX5_worthOf_4 C hX
abbrev rX5_most : Room := ({ frames := 5, cells := 0, slots := 0, locals := 123 } : Room)
def jX5_most_87 : mK := i_iret
set_option maxRecDepth 20000 in
theorem JX5_most_87 {X : mC} (C : Cx X rX5_most cX5_most 4 RX5 (some FieldType.int)) (hX : Rx X) : Den X rX5_most 4 87 jX5_most_87 := by
  unfold jX5_most_87
  exact Dn_iret C hX dX5_most_87
def jX5_most_58 (B17 : mK) : mK := i_ist 2 (i_inc 3 1 (B17))
set_option maxRecDepth 20000 in
theorem JX5_most_58 {X : mC} (C : Cx X rX5_most cX5_most 4 RX5 (some FieldType.int)) (hX : Rx X) (B17 : mK) (hB17 : Den X rX5_most 4 17 B17) : Den X rX5_most 4 58 (jX5_most_58 B17) := by
  unfold jX5_most_58
  refine Dn_ist_n (i := 2) (q := 59) C dX5_most_58 rfl (by decide) rfl ?_
  refine Dn_inc (z := 1) (q := 62) C dX5_most_59 (by decide) (by decide) rfl ?_
  refine Dn_goto (t := 17) C dX5_most_62 (by decide) ?_
  exact hB17
def jX5_most_57 (B17 : mK) : mK := i_ild 2 ((jX5_most_58 B17))
set_option maxRecDepth 20000 in
theorem JX5_most_57 {X : mC} (C : Cx X rX5_most cX5_most 4 RX5 (some FieldType.int)) (hX : Rx X) (B17 : mK) (hB17 : Den X rX5_most 4 17 B17) : Den X rX5_most 4 57 (jX5_most_57 B17) := by
  unfold jX5_most_57
  refine Dn_ild_n (i := 2) (q := 58) C dX5_most_57 rfl rfl ?_
  exact JX5_most_58 C hX B17 hB17
def jX5_most_45 (B17 : mK) : mK := i_ald 0 (i_ild 3 (i_callV 5 1 FX5_holdsBy (i_ifeq ((jX5_most_57 B17)) (i_ild 3 ((jX5_most_58 B17))))))
set_option maxRecDepth 20000 in
theorem JX5_most_45 {X : mC} (C : Cx X rX5_most cX5_most 4 RX5 (some FieldType.int)) (hX : Rx X) (B17 : mK) (hB17 : Den X rX5_most 4 17 B17) : Den X rX5_most 4 45 (jX5_most_45 B17) := by
  unfold jX5_most_45
  refine Dn_ald_n (i := 0) (q := 46) C dX5_most_45 rfl rfl ?_
  refine Dn_ild_n (i := 3) (q := 47) C dX5_most_46 rfl rfl ?_
  refine Dn_callV (ci := 5) (T := TX5) (N := 25) (q := 50) C rfl (kX5_holdsBy X.l X.G X.tg) q_977 q_974 q_976 q_37 q_50 ⟨rfl, rfl⟩ (by decide +kernel) ⟨by decide, by decide⟩ dX5_most_47 rfl ?_
  refine Dn_ifeq (t := 57) (q := 53) C dX5_most_50 (by decide) rfl ?_ ?_
  · exact JX5_most_57 C hX B17 hB17
  · refine Dn_ild_n (i := 3) (q := 54) C dX5_most_53 rfl rfl ?_
    refine Dn_goto (t := 58) C dX5_most_54 (by decide) ?_
    exact JX5_most_58 C hX B17 hB17
def jX5_most_17 : mK := i_loop (fun B17 => i_ild 3 (i_push (.int 1) (i_ald 0 (i_get 5 14 (i_ib (fun x y => x <<< (y &&& 31)) (i_icge (i_ild 2 (i_push (.int (-1)) (i_icne (i_ild 1 (i_ifne (i_ild 2 (jX5_most_87)) (i_ald 0 (i_ild 2 (i_callV 5 1 FX5_worthOf (jX5_most_87)))))) (i_push (.int (-1)) (jX5_most_87))))) (i_ild 2 (i_push (.int (-1)) (i_iceq ((jX5_most_45 B17)) (i_ald 0 (i_ild 3 (i_callV 5 1 FX5_worthOf (i_ald 0 (i_ild 2 (i_callV 5 1 FX5_worthOf (i_icle ((jX5_most_57 B17)) ((jX5_most_45 B17)))))))))))))))))) 1000
set_option maxRecDepth 20000 in
theorem JX5_most_17 {X : mC} (C : Cx X rX5_most cX5_most 4 RX5 (some FieldType.int)) (hX : Rx X) : Den X rX5_most 4 17 jX5_most_17 := by
  unfold jX5_most_17
  refine Dn_loop (fun B17 hB17 => ?_) 1000
  refine Dn_ild_n (i := 3) (q := 18) C dX5_most_17 rfl rfl ?_
  refine Dn_iconst (v := 1) (q := 19) C dX5_most_18 (by decide) rfl ?_
  refine Dn_ald_n (i := 0) (q := 20) C dX5_most_19 rfl rfl ?_
  refine Dn_get (ci := 5) (j := 14) (T := TX5) (N := 25) (Cn := RX5) (q := 23) C rfl iX5 (by decide) q_724 dX5_most_20 rfl ?_
  refine Dn_ishl (q := 24) C dX5_most_23 rfl ?_
  refine Dn_icge (t := 65) (q := 27) C dX5_most_24 (by decide) rfl ?_ ?_
  · refine Dn_ild_n (i := 2) (q := 66) C dX5_most_65 rfl rfl ?_
    refine Dn_iconst (v := (-1)) (q := 67) C dX5_most_66 (by decide) rfl ?_
    refine Dn_icne (t := 74) (q := 70) C dX5_most_67 (by decide) rfl ?_ ?_
    · refine Dn_ild_n (i := 1) (q := 75) C dX5_most_74 rfl rfl ?_
      refine Dn_ifne (t := 86) (q := 78) C dX5_most_75 (by decide) rfl ?_ ?_
      · refine Dn_ild_n (i := 2) (q := 87) C dX5_most_86 rfl rfl ?_
        exact JX5_most_87 C hX
      · refine Dn_ald_n (i := 0) (q := 79) C dX5_most_78 rfl rfl ?_
        refine Dn_ild_n (i := 2) (q := 80) C dX5_most_79 rfl rfl ?_
        refine Dn_callV (ci := 5) (T := TX5) (N := 25) (q := 83) C rfl (kX5_worthOf X.l X.G X.tg) q_973 q_970 q_972 q_36 q_50 ⟨rfl, rfl⟩ (by decide +kernel) ⟨by decide, by decide⟩ dX5_most_80 rfl ?_
        refine Dn_goto (t := 87) C dX5_most_83 (by decide) ?_
        exact JX5_most_87 C hX
    · refine Dn_iconst (v := (-1)) (q := 71) C dX5_most_70 (by decide) rfl ?_
      refine Dn_goto (t := 87) C dX5_most_71 (by decide) ?_
      exact JX5_most_87 C hX
  · refine Dn_ild_n (i := 2) (q := 28) C dX5_most_27 rfl rfl ?_
    refine Dn_iconst (v := (-1)) (q := 29) C dX5_most_28 (by decide) rfl ?_
    refine Dn_iceq (t := 45) (q := 32) C dX5_most_29 (by decide) rfl ?_ ?_
    · exact JX5_most_45 C hX B17 hB17
    · refine Dn_ald_n (i := 0) (q := 33) C dX5_most_32 rfl rfl ?_
      refine Dn_ild_n (i := 3) (q := 34) C dX5_most_33 rfl rfl ?_
      refine Dn_callV (ci := 5) (T := TX5) (N := 25) (q := 37) C rfl (kX5_worthOf X.l X.G X.tg) q_973 q_970 q_972 q_36 q_50 ⟨rfl, rfl⟩ (by decide +kernel) ⟨by decide, by decide⟩ dX5_most_34 rfl ?_
      refine Dn_ald_n (i := 0) (q := 38) C dX5_most_37 rfl rfl ?_
      refine Dn_ild_n (i := 2) (q := 39) C dX5_most_38 rfl rfl ?_
      refine Dn_callV (ci := 5) (T := TX5) (N := 25) (q := 42) C rfl (kX5_worthOf X.l X.G X.tg) q_973 q_970 q_972 q_36 q_50 ⟨rfl, rfl⟩ (by decide +kernel) ⟨by decide, by decide⟩ dX5_most_39 rfl ?_
      refine Dn_icle (t := 57) (q := 45) C dX5_most_42 (by decide) rfl ?_ ?_
      · exact JX5_most_57 C hX B17 hB17
      · exact JX5_most_45 C hX B17 hB17
def jX5_most : mK := i_ild 1 (i_i2l (i_push (.long 0) (i_push (.long 1) (i_call 3 FX5_in (i_ifne (i_push (.int (-1)) (i_ist 2 (i_push (.int 0) (i_ist 3 (jX5_most_17))))) (i_push (.int (-3)) (i_iret)))))))
def FX5_most : mF := mEnt 4 jX5_most
set_option maxRecDepth 20000 in
theorem kX5_most (l : Launch) (G : va_G) (tg : Nat → ClassId) : Ct l G tg yX5_most cX5_most 4 (some FieldType.int) rX5_most FX5_most := by
  refine Ct.of RX5 (by decide) rfl (fun X C hX => ?_)
  unfold jX5_most
  refine Dn_ild_n (i := 1) (q := 1) C dX5_most_0 rfl rfl ?_
  refine Dn_i2l (q := 2) C dX5_most_1 rfl ?_
  refine Dn_lconst (v := 0) (q := 3) C dX5_most_2 (by decide) rfl ?_
  refine Dn_lconst (v := 1) (q := 4) C dX5_most_3 (by decide) rfl ?_
  refine Dn_callS (q := 7) C (kX5_in X.l X.G X.tg) q_794 q_792 q_793 q_50 ⟨rfl, rfl⟩ (by decide +kernel) ⟨by decide, by decide⟩ dX5_most_4 rfl ?_
  refine Dn_ifne (t := 13) (q := 10) C dX5_most_7 (by decide) rfl ?_ ?_
  · refine Dn_iconst (v := (-1)) (q := 14) C dX5_most_13 (by decide) rfl ?_
    refine Dn_ist_n (i := 2) (q := 15) C dX5_most_14 rfl (by decide) rfl ?_
    refine Dn_iconst (v := 0) (q := 16) C dX5_most_15 (by decide) rfl ?_
    refine Dn_ist_n (i := 3) (q := 17) C dX5_most_16 rfl (by decide) rfl ?_
    exact JX5_most_17 C hX
  · refine Dn_bipush (v := (-3)) (q := 12) C dX5_most_10 (by decide) rfl ?_
    exact Dn_iret C hX dX5_most_12
abbrev rX5_stands : Room := ({ frames := 5, cells := 0, slots := 0, locals := 123 } : Room)
def jX5_stands_82 (B29 : mK) : mK := i_lb (fun x y => x ||| y) (i_lst 3 (i_inc 5 1 (B29)))
set_option maxRecDepth 20000 in
theorem JX5_stands_82 {X : mC} (C : Cx X rX5_stands cX5_stands 6 RX5 (some FieldType.long)) (hX : Rx X) (B29 : mK) (hB29 : Den X rX5_stands 6 29 B29) : Den X rX5_stands 6 82 (jX5_stands_82 B29) := by
  unfold jX5_stands_82
  refine Dn_lor (q := 83) C dX5_stands_82 rfl ?_
  refine Dn_lst_n (i := 3) (q := 84) C dX5_stands_83 rfl (by decide) rfl ?_
  refine Dn_inc (z := 1) (q := 87) C dX5_stands_84 (by decide) (by decide) rfl ?_
  refine Dn_goto (t := 29) C dX5_stands_87 (by decide) ?_
  exact hB29
def jX5_stands_29 : mK := i_loop (fun B29 => i_ild 5 (i_ald 0 (i_get 5 6 (i_ald 0 (i_get 5 7 (i_ib (fun x y => x * y) (i_icge (i_ald 0 (i_get 5 13 (i_push (.int 7) (i_ild 1 (i_ib (fun x y => x * y) (i_push (.int 1) (i_ib (fun x y => x + y) (i_ild 2 (i_iast (i_lld 3 (i_lret))))))))))) (i_ald 0 (i_get 5 13 (i_push (.int 7) (i_ild 1 (i_ib (fun x y => x * y) (i_push (.int 1) (i_ib (fun x y => x + y) (i_ild 5 (i_iast (i_lld 3 (i_ald 0 (i_ald 0 (i_get 5 0 (i_push (.int 0) (i_iald (i_push (.int 1) (i_ild 1 (i_ib (fun x y => x <<< (y &&& 31)) (i_ib (fun x y => x ||| y) (i_callV 5 1 FX5_holdsBy (i_ifeq (i_push (.long 0) ((jX5_stands_82 B29))) (i_push (.long 1) (i_ild 5 (i_ls (fun x y => x <<< (y.toInt64 &&& 63)) ((jX5_stands_82 B29))))))))))))))))))))))))))))))))) 1000
set_option maxRecDepth 20000 in
theorem JX5_stands_29 {X : mC} (C : Cx X rX5_stands cX5_stands 6 RX5 (some FieldType.long)) (hX : Rx X) : Den X rX5_stands 6 29 jX5_stands_29 := by
  unfold jX5_stands_29
  refine Dn_loop (fun B29 hB29 => ?_) 1000
  refine Dn_ild (q := 31) C dX5_stands_29 rfl ?_
  refine Dn_ald_n (i := 0) (q := 32) C dX5_stands_31 rfl rfl ?_
  refine Dn_get (ci := 5) (j := 6) (T := TX5) (N := 25) (Cn := RX5) (q := 35) C rfl iX5 (by decide) q_716 dX5_stands_32 rfl ?_
  refine Dn_ald_n (i := 0) (q := 36) C dX5_stands_35 rfl rfl ?_
  refine Dn_get (ci := 5) (j := 7) (T := TX5) (N := 25) (Cn := RX5) (q := 39) C rfl iX5 (by decide) q_717 dX5_stands_36 rfl ?_
  refine Dn_imul (q := 40) C dX5_stands_39 rfl ?_
  refine Dn_icge (t := 90) (q := 43) C dX5_stands_40 (by decide) rfl ?_ ?_
  · refine Dn_ald_n (i := 0) (q := 91) C dX5_stands_90 rfl rfl ?_
    refine Dn_get (ci := 5) (j := 13) (T := TX5) (N := 25) (Cn := RX5) (q := 94) C rfl iX5 (by decide) q_723 dX5_stands_91 rfl ?_
    refine Dn_bipush (v := 7) (q := 96) C dX5_stands_94 (by decide) rfl ?_
    refine Dn_ild_n (i := 1) (q := 97) C dX5_stands_96 rfl rfl ?_
    refine Dn_imul (q := 98) C dX5_stands_97 rfl ?_
    refine Dn_iconst (v := 1) (q := 99) C dX5_stands_98 (by decide) rfl ?_
    refine Dn_iadd (q := 100) C dX5_stands_99 rfl ?_
    refine Dn_ild_n (i := 2) (q := 101) C dX5_stands_100 rfl rfl ?_
    refine Dn_iast (q := 102) C dX5_stands_101 rfl ?_
    refine Dn_lld_n (i := 3) (q := 103) C dX5_stands_102 rfl rfl ?_
    exact Dn_lret C hX dX5_stands_103
  · refine Dn_ald_n (i := 0) (q := 44) C dX5_stands_43 rfl rfl ?_
    refine Dn_get (ci := 5) (j := 13) (T := TX5) (N := 25) (Cn := RX5) (q := 47) C rfl iX5 (by decide) q_723 dX5_stands_44 rfl ?_
    refine Dn_bipush (v := 7) (q := 49) C dX5_stands_47 (by decide) rfl ?_
    refine Dn_ild_n (i := 1) (q := 50) C dX5_stands_49 rfl rfl ?_
    refine Dn_imul (q := 51) C dX5_stands_50 rfl ?_
    refine Dn_iconst (v := 1) (q := 52) C dX5_stands_51 (by decide) rfl ?_
    refine Dn_iadd (q := 53) C dX5_stands_52 rfl ?_
    refine Dn_ild (q := 55) C dX5_stands_53 rfl ?_
    refine Dn_iast (q := 56) C dX5_stands_55 rfl ?_
    refine Dn_lld_n (i := 3) (q := 57) C dX5_stands_56 rfl rfl ?_
    refine Dn_ald_n (i := 0) (q := 58) C dX5_stands_57 rfl rfl ?_
    refine Dn_ald_n (i := 0) (q := 59) C dX5_stands_58 rfl rfl ?_
    refine Dn_get (ci := 5) (j := 0) (T := TX5) (N := 25) (Cn := RX5) (q := 62) C rfl iX5 (by decide) q_710 dX5_stands_59 rfl ?_
    refine Dn_iconst (v := 0) (q := 63) C dX5_stands_62 (by decide) rfl ?_
    refine Dn_iald (q := 64) C dX5_stands_63 rfl ?_
    refine Dn_iconst (v := 1) (q := 65) C dX5_stands_64 (by decide) rfl ?_
    refine Dn_ild_n (i := 1) (q := 66) C dX5_stands_65 rfl rfl ?_
    refine Dn_ishl (q := 67) C dX5_stands_66 rfl ?_
    refine Dn_ior (q := 68) C dX5_stands_67 rfl ?_
    refine Dn_callV (ci := 5) (T := TX5) (N := 25) (q := 71) C rfl (kX5_holdsBy X.l X.G X.tg) q_977 q_974 q_976 q_37 q_50 ⟨rfl, rfl⟩ (by decide +kernel) ⟨by decide, by decide⟩ dX5_stands_68 rfl ?_
    refine Dn_ifeq (t := 81) (q := 74) C dX5_stands_71 (by decide) rfl ?_ ?_
    · refine Dn_lconst (v := 0) (q := 82) C dX5_stands_81 (by decide) rfl ?_
      exact JX5_stands_82 C hX B29 hB29
    · refine Dn_lconst (v := 1) (q := 75) C dX5_stands_74 (by decide) rfl ?_
      refine Dn_ild (q := 77) C dX5_stands_75 rfl ?_
      refine Dn_lshl (q := 78) C dX5_stands_77 rfl ?_
      refine Dn_goto (t := 82) C dX5_stands_78 (by decide) ?_
      exact JX5_stands_82 C hX B29 hB29
def jX5_stands : mK := i_ald 0 (i_ild 1 (i_callV 5 1 FX5_isBand (i_ifne (i_ald 0 (i_get 5 13 (i_push (.int 7) (i_ild 1 (i_ib (fun x y => x * y) (i_push (.int 1) (i_ib (fun x y => x + y) (i_iald (i_ist 2 (i_push (.long 0) (i_lst 3 (i_push (.int 0) (i_ist 5 (jX5_stands_29)))))))))))))) (i_push (.long (-2)) (i_lret)))))
def FX5_stands : mF := mEnt 6 jX5_stands
set_option maxRecDepth 20000 in
theorem kX5_stands (l : Launch) (G : va_G) (tg : Nat → ClassId) : Ct l G tg yX5_stands cX5_stands 6 (some FieldType.long) rX5_stands FX5_stands := by
  refine Ct.of RX5 (by decide) rfl (fun X C hX => ?_)
  unfold jX5_stands
  refine Dn_ald_n (i := 0) (q := 1) C dX5_stands_0 rfl rfl ?_
  refine Dn_ild_n (i := 1) (q := 2) C dX5_stands_1 rfl rfl ?_
  refine Dn_callV (ci := 5) (T := TX5) (N := 25) (q := 5) C rfl (kX5_isBand X.l X.G X.tg) q_903 q_900 q_902 q_29 q_50 ⟨rfl, rfl⟩ (by decide +kernel) ⟨by decide, by decide⟩ dX5_stands_2 rfl ?_
  refine Dn_ifne (t := 12) (q := 8) C dX5_stands_5 (by decide) rfl ?_ ?_
  · refine Dn_ald_n (i := 0) (q := 13) C dX5_stands_12 rfl rfl ?_
    refine Dn_get (ci := 5) (j := 13) (T := TX5) (N := 25) (Cn := RX5) (q := 16) C rfl iX5 (by decide) q_723 dX5_stands_13 rfl ?_
    refine Dn_bipush (v := 7) (q := 18) C dX5_stands_16 (by decide) rfl ?_
    refine Dn_ild_n (i := 1) (q := 19) C dX5_stands_18 rfl rfl ?_
    refine Dn_imul (q := 20) C dX5_stands_19 rfl ?_
    refine Dn_iconst (v := 1) (q := 21) C dX5_stands_20 (by decide) rfl ?_
    refine Dn_iadd (q := 22) C dX5_stands_21 rfl ?_
    refine Dn_iald (q := 23) C dX5_stands_22 rfl ?_
    refine Dn_ist_n (i := 2) (q := 24) C dX5_stands_23 rfl (by decide) rfl ?_
    refine Dn_lconst (v := 0) (q := 25) C dX5_stands_24 (by decide) rfl ?_
    refine Dn_lst_n (i := 3) (q := 26) C dX5_stands_25 rfl (by decide) rfl ?_
    refine Dn_iconst (v := 0) (q := 27) C dX5_stands_26 (by decide) rfl ?_
    refine Dn_ist (q := 29) C dX5_stands_27 (by decide) rfl ?_
    exact JX5_stands_29 C hX
  · refine Dn_ldc2 (q := 11) C dX5_stands_8 q_986 rfl ?_
    exact Dn_lret C hX dX5_stands_11
abbrev rX5_sides : Room := ({ frames := 5, cells := 0, slots := 0, locals := 123 } : Room)
def jX5_sides_91 (B45 : mK) : mK := i_ib (fun x y => x ||| y) (i_ist 3 (i_inc 4 1 (B45)))
set_option maxRecDepth 20000 in
theorem JX5_sides_91 {X : mC} (C : Cx X rX5_sides cX5_sides 5 RX5 (some FieldType.int)) (hX : Rx X) (B45 : mK) (hB45 : Den X rX5_sides 5 45 B45) : Den X rX5_sides 5 91 (jX5_sides_91 B45) := by
  unfold jX5_sides_91
  refine Dn_ior (q := 92) C dX5_sides_91 rfl ?_
  refine Dn_ist_n (i := 3) (q := 93) C dX5_sides_92 rfl (by decide) rfl ?_
  refine Dn_inc (z := 1) (q := 96) C dX5_sides_93 (by decide) (by decide) rfl ?_
  refine Dn_goto (t := 45) C dX5_sides_96 (by decide) ?_
  exact hB45
def jX5_sides_45 : mK := i_loop (fun B45 => i_ild 4 (i_push (.int 4) (i_icge (i_ald 0 (i_get 5 13 (i_push (.int 7) (i_ild 1 (i_ib (fun x y => x * y) (i_push (.int 6) (i_ib (fun x y => x + y) (i_ild 2 (i_iast (i_ild 3 (i_iret))))))))))) (i_ald 0 (i_get 5 13 (i_push (.int 7) (i_ild 1 (i_ib (fun x y => x * y) (i_push (.int 6) (i_ib (fun x y => x + y) (i_ild 4 (i_iast (i_ild 3 (i_ald 0 (i_ald 0 (i_get 5 0 (i_push (.int 0) (i_iald (i_push (.int 1) (i_ild 1 (i_ib (fun x y => x <<< (y &&& 31)) (i_ib (fun x y => x ||| y) (i_callV 5 1 FX5_holdsBy (i_ifeq (i_push (.int 0) ((jX5_sides_91 B45))) (i_push (.int 1) (i_ild 4 (i_ib (fun x y => x <<< (y &&& 31)) ((jX5_sides_91 B45))))))))))))))))))))))))))))) 1000
set_option maxRecDepth 20000 in
theorem JX5_sides_45 {X : mC} (C : Cx X rX5_sides cX5_sides 5 RX5 (some FieldType.int)) (hX : Rx X) : Den X rX5_sides 5 45 jX5_sides_45 := by
  unfold jX5_sides_45
  refine Dn_loop (fun B45 hB45 => ?_) 1000
  refine Dn_ild (q := 47) C dX5_sides_45 rfl ?_
  refine Dn_iconst (v := 4) (q := 48) C dX5_sides_47 (by decide) rfl ?_
  refine Dn_icge (t := 99) (q := 51) C dX5_sides_48 (by decide) rfl ?_ ?_
  · refine Dn_ald_n (i := 0) (q := 100) C dX5_sides_99 rfl rfl ?_
    refine Dn_get (ci := 5) (j := 13) (T := TX5) (N := 25) (Cn := RX5) (q := 103) C rfl iX5 (by decide) q_723 dX5_sides_100 rfl ?_
    refine Dn_bipush (v := 7) (q := 105) C dX5_sides_103 (by decide) rfl ?_
    refine Dn_ild_n (i := 1) (q := 106) C dX5_sides_105 rfl rfl ?_
    refine Dn_imul (q := 107) C dX5_sides_106 rfl ?_
    refine Dn_bipush (v := 6) (q := 109) C dX5_sides_107 (by decide) rfl ?_
    refine Dn_iadd (q := 110) C dX5_sides_109 rfl ?_
    refine Dn_ild_n (i := 2) (q := 111) C dX5_sides_110 rfl rfl ?_
    refine Dn_iast (q := 112) C dX5_sides_111 rfl ?_
    refine Dn_ild_n (i := 3) (q := 113) C dX5_sides_112 rfl rfl ?_
    exact Dn_iret C hX dX5_sides_113
  · refine Dn_ald_n (i := 0) (q := 52) C dX5_sides_51 rfl rfl ?_
    refine Dn_get (ci := 5) (j := 13) (T := TX5) (N := 25) (Cn := RX5) (q := 55) C rfl iX5 (by decide) q_723 dX5_sides_52 rfl ?_
    refine Dn_bipush (v := 7) (q := 57) C dX5_sides_55 (by decide) rfl ?_
    refine Dn_ild_n (i := 1) (q := 58) C dX5_sides_57 rfl rfl ?_
    refine Dn_imul (q := 59) C dX5_sides_58 rfl ?_
    refine Dn_bipush (v := 6) (q := 61) C dX5_sides_59 (by decide) rfl ?_
    refine Dn_iadd (q := 62) C dX5_sides_61 rfl ?_
    refine Dn_ild (q := 64) C dX5_sides_62 rfl ?_
    refine Dn_iast (q := 65) C dX5_sides_64 rfl ?_
    refine Dn_ild_n (i := 3) (q := 66) C dX5_sides_65 rfl rfl ?_
    refine Dn_ald_n (i := 0) (q := 67) C dX5_sides_66 rfl rfl ?_
    refine Dn_ald_n (i := 0) (q := 68) C dX5_sides_67 rfl rfl ?_
    refine Dn_get (ci := 5) (j := 0) (T := TX5) (N := 25) (Cn := RX5) (q := 71) C rfl iX5 (by decide) q_710 dX5_sides_68 rfl ?_
    refine Dn_iconst (v := 0) (q := 72) C dX5_sides_71 (by decide) rfl ?_
    refine Dn_iald (q := 73) C dX5_sides_72 rfl ?_
    refine Dn_iconst (v := 1) (q := 74) C dX5_sides_73 (by decide) rfl ?_
    refine Dn_ild_n (i := 1) (q := 75) C dX5_sides_74 rfl rfl ?_
    refine Dn_ishl (q := 76) C dX5_sides_75 rfl ?_
    refine Dn_ior (q := 77) C dX5_sides_76 rfl ?_
    refine Dn_callV (ci := 5) (T := TX5) (N := 25) (q := 80) C rfl (kX5_holdsBy X.l X.G X.tg) q_977 q_974 q_976 q_37 q_50 ⟨rfl, rfl⟩ (by decide +kernel) ⟨by decide, by decide⟩ dX5_sides_77 rfl ?_
    refine Dn_ifeq (t := 90) (q := 83) C dX5_sides_80 (by decide) rfl ?_ ?_
    · refine Dn_iconst (v := 0) (q := 91) C dX5_sides_90 (by decide) rfl ?_
      exact JX5_sides_91 C hX B45 hB45
    · refine Dn_iconst (v := 1) (q := 84) C dX5_sides_83 (by decide) rfl ?_
      refine Dn_ild (q := 86) C dX5_sides_84 rfl ?_
      refine Dn_ishl (q := 87) C dX5_sides_86 rfl ?_
      refine Dn_goto (t := 91) C dX5_sides_87 (by decide) ?_
      exact JX5_sides_91 C hX B45 hB45
def jX5_sides : mK := i_ald 0 (i_ild 1 (i_callV 5 1 FX5_isBand (i_ifne (i_ald 0 (i_get 5 13 (i_push (.int 7) (i_ild 1 (i_ib (fun x y => x * y) (i_iald (i_push (.int 1) (i_iceq (i_ald 0 (i_get 5 13 (i_push (.int 7) (i_ild 1 (i_ib (fun x y => x * y) (i_push (.int 6) (i_ib (fun x y => x + y) (i_iald (i_ist 2 (i_push (.int 0) (i_ist 3 (i_push (.int 0) (i_ist 4 (jX5_sides_45)))))))))))))) (i_push (.int (-4)) (i_iret)))))))))) (i_push (.int (-2)) (i_iret)))))
def FX5_sides : mF := mEnt 5 jX5_sides
set_option maxRecDepth 20000 in
theorem kX5_sides (l : Launch) (G : va_G) (tg : Nat → ClassId) : Ct l G tg yX5_sides cX5_sides 5 (some FieldType.int) rX5_sides FX5_sides := by
  refine Ct.of RX5 (by decide) rfl (fun X C hX => ?_)
  unfold jX5_sides
  refine Dn_ald_n (i := 0) (q := 1) C dX5_sides_0 rfl rfl ?_
  refine Dn_ild_n (i := 1) (q := 2) C dX5_sides_1 rfl rfl ?_
  refine Dn_callV (ci := 5) (T := TX5) (N := 25) (q := 5) C rfl (kX5_isBand X.l X.G X.tg) q_903 q_900 q_902 q_29 q_50 ⟨rfl, rfl⟩ (by decide +kernel) ⟨by decide, by decide⟩ dX5_sides_2 rfl ?_
  refine Dn_ifne (t := 11) (q := 8) C dX5_sides_5 (by decide) rfl ?_ ?_
  · refine Dn_ald_n (i := 0) (q := 12) C dX5_sides_11 rfl rfl ?_
    refine Dn_get (ci := 5) (j := 13) (T := TX5) (N := 25) (Cn := RX5) (q := 15) C rfl iX5 (by decide) q_723 dX5_sides_12 rfl ?_
    refine Dn_bipush (v := 7) (q := 17) C dX5_sides_15 (by decide) rfl ?_
    refine Dn_ild_n (i := 1) (q := 18) C dX5_sides_17 rfl rfl ?_
    refine Dn_imul (q := 19) C dX5_sides_18 rfl ?_
    refine Dn_iald (q := 20) C dX5_sides_19 rfl ?_
    refine Dn_iconst (v := 1) (q := 21) C dX5_sides_20 (by decide) rfl ?_
    refine Dn_iceq (t := 27) (q := 24) C dX5_sides_21 (by decide) rfl ?_ ?_
    · refine Dn_ald_n (i := 0) (q := 28) C dX5_sides_27 rfl rfl ?_
      refine Dn_get (ci := 5) (j := 13) (T := TX5) (N := 25) (Cn := RX5) (q := 31) C rfl iX5 (by decide) q_723 dX5_sides_28 rfl ?_
      refine Dn_bipush (v := 7) (q := 33) C dX5_sides_31 (by decide) rfl ?_
      refine Dn_ild_n (i := 1) (q := 34) C dX5_sides_33 rfl rfl ?_
      refine Dn_imul (q := 35) C dX5_sides_34 rfl ?_
      refine Dn_bipush (v := 6) (q := 37) C dX5_sides_35 (by decide) rfl ?_
      refine Dn_iadd (q := 38) C dX5_sides_37 rfl ?_
      refine Dn_iald (q := 39) C dX5_sides_38 rfl ?_
      refine Dn_ist_n (i := 2) (q := 40) C dX5_sides_39 rfl (by decide) rfl ?_
      refine Dn_iconst (v := 0) (q := 41) C dX5_sides_40 (by decide) rfl ?_
      refine Dn_ist_n (i := 3) (q := 42) C dX5_sides_41 rfl (by decide) rfl ?_
      refine Dn_iconst (v := 0) (q := 43) C dX5_sides_42 (by decide) rfl ?_
      refine Dn_ist (q := 45) C dX5_sides_43 (by decide) rfl ?_
      exact JX5_sides_45 C hX
    · refine Dn_bipush (v := (-4)) (q := 26) C dX5_sides_24 (by decide) rfl ?_
      exact Dn_iret C hX dX5_sides_26
  · refine Dn_bipush (v := (-2)) (q := 10) C dX5_sides_8 (by decide) rfl ?_
    exact Dn_iret C hX dX5_sides_10
abbrev rX5_laySpots : Room := ({ frames := 1, cells := 0, slots := 0, locals := 22 } : Room)
def jX5_laySpots_98 (B7 : mK) : mK := i_inc 1 1 (B7)
set_option maxRecDepth 20000 in
theorem JX5_laySpots_98 {X : mC} (C : Cx X rX5_laySpots cX5_laySpots 4 RX5 none) (hX : Rx X) (B7 : mK) (hB7 : Den X rX5_laySpots 4 7 B7) : Den X rX5_laySpots 4 98 (jX5_laySpots_98 B7) := by
  unfold jX5_laySpots_98
  refine Dn_inc (z := 1) (q := 101) C dX5_laySpots_98 (by decide) (by decide) rfl ?_
  refine Dn_goto (t := 7) C dX5_laySpots_101 (by decide) ?_
  exact hB7
def jX5_laySpots_56 (B7 : mK) (B24 : mK) : mK := i_ist 2 (i_inc 3 1 (B24))
set_option maxRecDepth 20000 in
theorem JX5_laySpots_56 {X : mC} (C : Cx X rX5_laySpots cX5_laySpots 4 RX5 none) (hX : Rx X) (B7 : mK) (hB7 : Den X rX5_laySpots 4 7 B7) (B24 : mK) (hB24 : Den X rX5_laySpots 4 24 B24) : Den X rX5_laySpots 4 56 (jX5_laySpots_56 B7 B24) := by
  unfold jX5_laySpots_56
  refine Dn_ist_n (i := 2) (q := 57) C dX5_laySpots_56 rfl (by decide) rfl ?_
  refine Dn_inc (z := 1) (q := 60) C dX5_laySpots_57 (by decide) (by decide) rfl ?_
  refine Dn_goto (t := 24) C dX5_laySpots_60 (by decide) ?_
  exact hB24
def jX5_laySpots_51 (B7 : mK) (B24 : mK) : mK := i_push (.int 1) ((jX5_laySpots_56 B7 B24))
set_option maxRecDepth 20000 in
theorem JX5_laySpots_51 {X : mC} (C : Cx X rX5_laySpots cX5_laySpots 4 RX5 none) (hX : Rx X) (B7 : mK) (hB7 : Den X rX5_laySpots 4 7 B7) (B24 : mK) (hB24 : Den X rX5_laySpots 4 24 B24) : Den X rX5_laySpots 4 51 (jX5_laySpots_51 B7 B24) := by
  unfold jX5_laySpots_51
  refine Dn_iconst (v := 1) (q := 52) C dX5_laySpots_51 (by decide) rfl ?_
  refine Dn_goto (t := 56) C dX5_laySpots_52 (by decide) ?_
  exact JX5_laySpots_56 C hX B7 hB7 B24 hB24
def jX5_laySpots_24 (B7 : mK) : mK := i_loop (fun B24 => i_ild 3 (i_ald 0 (i_get 5 14 (i_icge (i_ild 2 (i_ifeq ((jX5_laySpots_98 B7)) (i_ald 0 (i_get 5 12 (i_ild 1 (i_call 2 FX5_has (i_ifne ((jX5_laySpots_98 B7)) (i_ald 0 (i_get 5 21 (i_ald 0 (i_get 5 22 (i_ild 1 (i_iast (i_ald 0 (i_dup (i_get 5 22 (i_push (.int 1) (i_ib (fun x y => x + y) (i_puti 5 22 ((jX5_laySpots_98 B7))))))))))))))))))))) (i_ild 2 (i_ifne ((jX5_laySpots_51 B7 B24)) (i_ald 0 (i_get 5 13 (i_push (.int 7) (i_ild 3 (i_ib (fun x y => x * y) (i_push (.int 1) (i_ib (fun x y => x + y) (i_iald (i_ild 1 (i_icne (i_push (.int 0) ((jX5_laySpots_56 B7 B24))) ((jX5_laySpots_51 B7 B24)))))))))))))))))) 1000
set_option maxRecDepth 20000 in
theorem JX5_laySpots_24 {X : mC} (C : Cx X rX5_laySpots cX5_laySpots 4 RX5 none) (hX : Rx X) (B7 : mK) (hB7 : Den X rX5_laySpots 4 7 B7) : Den X rX5_laySpots 4 24 (jX5_laySpots_24 B7) := by
  unfold jX5_laySpots_24
  refine Dn_loop (fun B24 hB24 => ?_) 1000
  refine Dn_ild_n (i := 3) (q := 25) C dX5_laySpots_24 rfl rfl ?_
  refine Dn_ald_n (i := 0) (q := 26) C dX5_laySpots_25 rfl rfl ?_
  refine Dn_get (ci := 5) (j := 14) (T := TX5) (N := 25) (Cn := RX5) (q := 29) C rfl iX5 (by decide) q_724 dX5_laySpots_26 rfl ?_
  refine Dn_icge (t := 63) (q := 32) C dX5_laySpots_29 (by decide) rfl ?_ ?_
  · refine Dn_ild_n (i := 2) (q := 64) C dX5_laySpots_63 rfl rfl ?_
    refine Dn_ifeq (t := 98) (q := 67) C dX5_laySpots_64 (by decide) rfl ?_ ?_
    · exact JX5_laySpots_98 C hX B7 hB7
    · refine Dn_ald_n (i := 0) (q := 68) C dX5_laySpots_67 rfl rfl ?_
      refine Dn_get (ci := 5) (j := 12) (T := TX5) (N := 25) (Cn := RX5) (q := 71) C rfl iX5 (by decide) q_722 dX5_laySpots_68 rfl ?_
      refine Dn_ild_n (i := 1) (q := 72) C dX5_laySpots_71 rfl rfl ?_
      refine Dn_callS (q := 75) C (kX5_has X.l X.G X.tg) q_862 q_860 q_861 q_50 ⟨rfl, rfl⟩ (by decide +kernel) ⟨by decide, by decide⟩ dX5_laySpots_72 rfl ?_
      refine Dn_ifne (t := 98) (q := 78) C dX5_laySpots_75 (by decide) rfl ?_ ?_
      · exact JX5_laySpots_98 C hX B7 hB7
      · refine Dn_ald_n (i := 0) (q := 79) C dX5_laySpots_78 rfl rfl ?_
        refine Dn_get (ci := 5) (j := 21) (T := TX5) (N := 25) (Cn := RX5) (q := 82) C rfl iX5 (by decide) q_731 dX5_laySpots_79 rfl ?_
        refine Dn_ald_n (i := 0) (q := 83) C dX5_laySpots_82 rfl rfl ?_
        refine Dn_get (ci := 5) (j := 22) (T := TX5) (N := 25) (Cn := RX5) (q := 86) C rfl iX5 (by decide) q_732 dX5_laySpots_83 rfl ?_
        refine Dn_ild_n (i := 1) (q := 87) C dX5_laySpots_86 rfl rfl ?_
        refine Dn_iast (q := 88) C dX5_laySpots_87 rfl ?_
        refine Dn_ald_n (i := 0) (q := 89) C dX5_laySpots_88 rfl rfl ?_
        refine Dn_dup (q := 90) C dX5_laySpots_89 rfl ?_
        refine Dn_get (ci := 5) (j := 22) (T := TX5) (N := 25) (Cn := RX5) (q := 93) C rfl iX5 (by decide) q_732 dX5_laySpots_90 rfl ?_
        refine Dn_iconst (v := 1) (q := 94) C dX5_laySpots_93 (by decide) rfl ?_
        refine Dn_iadd (q := 95) C dX5_laySpots_94 rfl ?_
        refine Dn_puti (ci := 5) (j := 22) (T := TX5) (N := 25) (Cn := RX5) (q := 98) C rfl iX5 tyX5 tyX5_ok nmX5 (by decide) q_732 rfl (by decide +kernel) dX5_laySpots_95 rfl ?_
        exact JX5_laySpots_98 C hX B7 hB7
  · refine Dn_ild_n (i := 2) (q := 33) C dX5_laySpots_32 rfl rfl ?_
    refine Dn_ifne (t := 51) (q := 36) C dX5_laySpots_33 (by decide) rfl ?_ ?_
    · exact JX5_laySpots_51 C hX B7 hB7 B24 hB24
    · refine Dn_ald_n (i := 0) (q := 37) C dX5_laySpots_36 rfl rfl ?_
      refine Dn_get (ci := 5) (j := 13) (T := TX5) (N := 25) (Cn := RX5) (q := 40) C rfl iX5 (by decide) q_723 dX5_laySpots_37 rfl ?_
      refine Dn_bipush (v := 7) (q := 42) C dX5_laySpots_40 (by decide) rfl ?_
      refine Dn_ild_n (i := 3) (q := 43) C dX5_laySpots_42 rfl rfl ?_
      refine Dn_imul (q := 44) C dX5_laySpots_43 rfl ?_
      refine Dn_iconst (v := 1) (q := 45) C dX5_laySpots_44 (by decide) rfl ?_
      refine Dn_iadd (q := 46) C dX5_laySpots_45 rfl ?_
      refine Dn_iald (q := 47) C dX5_laySpots_46 rfl ?_
      refine Dn_ild_n (i := 1) (q := 48) C dX5_laySpots_47 rfl rfl ?_
      refine Dn_icne (t := 55) (q := 51) C dX5_laySpots_48 (by decide) rfl ?_ ?_
      · refine Dn_iconst (v := 0) (q := 56) C dX5_laySpots_55 (by decide) rfl ?_
        exact JX5_laySpots_56 C hX B7 hB7 B24 hB24
      · exact JX5_laySpots_51 C hX B7 hB7 B24 hB24
def jX5_laySpots_7 : mK := i_loop (fun B7 => i_ild 1 (i_ald 0 (i_get 5 6 (i_ald 0 (i_get 5 7 (i_ib (fun x y => x * y) (i_icge (i_vret) (i_push (.int 0) (i_ist 2 (i_push (.int 0) (i_ist 3 ((jX5_laySpots_24 B7))))))))))))) 1000
set_option maxRecDepth 20000 in
theorem JX5_laySpots_7 {X : mC} (C : Cx X rX5_laySpots cX5_laySpots 4 RX5 none) (hX : Rx X) : Den X rX5_laySpots 4 7 jX5_laySpots_7 := by
  unfold jX5_laySpots_7
  refine Dn_loop (fun B7 hB7 => ?_) 1000
  refine Dn_ild_n (i := 1) (q := 8) C dX5_laySpots_7 rfl rfl ?_
  refine Dn_ald_n (i := 0) (q := 9) C dX5_laySpots_8 rfl rfl ?_
  refine Dn_get (ci := 5) (j := 6) (T := TX5) (N := 25) (Cn := RX5) (q := 12) C rfl iX5 (by decide) q_716 dX5_laySpots_9 rfl ?_
  refine Dn_ald_n (i := 0) (q := 13) C dX5_laySpots_12 rfl rfl ?_
  refine Dn_get (ci := 5) (j := 7) (T := TX5) (N := 25) (Cn := RX5) (q := 16) C rfl iX5 (by decide) q_717 dX5_laySpots_13 rfl ?_
  refine Dn_imul (q := 17) C dX5_laySpots_16 rfl ?_
  refine Dn_icge (t := 104) (q := 20) C dX5_laySpots_17 (by decide) rfl ?_ ?_
  · exact Dn_vret C hX dX5_laySpots_104
  · refine Dn_iconst (v := 0) (q := 21) C dX5_laySpots_20 (by decide) rfl ?_
    refine Dn_ist_n (i := 2) (q := 22) C dX5_laySpots_21 rfl (by decide) rfl ?_
    refine Dn_iconst (v := 0) (q := 23) C dX5_laySpots_22 (by decide) rfl ?_
    refine Dn_ist_n (i := 3) (q := 24) C dX5_laySpots_23 rfl (by decide) rfl ?_
    exact JX5_laySpots_24 C hX B7 hB7
def jX5_laySpots : mK := i_ald 0 (i_push (.int 0) (i_puti 5 22 (i_push (.int 0) (i_ist 1 (jX5_laySpots_7)))))
def FX5_laySpots : mF := mEnt 4 jX5_laySpots
set_option maxRecDepth 20000 in
theorem kX5_laySpots (l : Launch) (G : va_G) (tg : Nat → ClassId) : Ct l G tg yX5_laySpots cX5_laySpots 4 none rX5_laySpots FX5_laySpots := by
  refine Ct.of RX5 (by decide) rfl (fun X C hX => ?_)
  unfold jX5_laySpots
  refine Dn_ald_n (i := 0) (q := 1) C dX5_laySpots_0 rfl rfl ?_
  refine Dn_iconst (v := 0) (q := 2) C dX5_laySpots_1 (by decide) rfl ?_
  refine Dn_puti (ci := 5) (j := 22) (T := TX5) (N := 25) (Cn := RX5) (q := 5) C rfl iX5 tyX5 tyX5_ok nmX5 (by decide) q_732 rfl (by decide +kernel) dX5_laySpots_2 rfl ?_
  refine Dn_iconst (v := 0) (q := 6) C dX5_laySpots_5 (by decide) rfl ?_
  refine Dn_ist_n (i := 1) (q := 7) C dX5_laySpots_6 rfl (by decide) rfl ?_
  exact JX5_laySpots_7 C hX
abbrev rX5_placesOf : Room := ({ frames := 1, cells := 0, slots := 0, locals := 22 } : Room)
def jX5_placesOf_38 (B5 : mK) : mK := i_lb (fun x y => x ||| y) (i_lst 2 (i_inc 4 1 (B5)))
set_option maxRecDepth 20000 in
theorem JX5_placesOf_38 {X : mC} (C : Cx X rX5_placesOf cX5_placesOf 5 RX5 (some FieldType.long)) (hX : Rx X) (B5 : mK) (hB5 : Den X rX5_placesOf 5 5 B5) : Den X rX5_placesOf 5 38 (jX5_placesOf_38 B5) := by
  unfold jX5_placesOf_38
  refine Dn_lor (q := 39) C dX5_placesOf_38 rfl ?_
  refine Dn_lst_n (i := 2) (q := 40) C dX5_placesOf_39 rfl (by decide) rfl ?_
  refine Dn_inc (z := 1) (q := 43) C dX5_placesOf_40 (by decide) (by decide) rfl ?_
  refine Dn_goto (t := 5) C dX5_placesOf_43 (by decide) ?_
  exact hB5
def jX5_placesOf_5 : mK := i_loop (fun B5 => i_ild 4 (i_ald 0 (i_get 5 22 (i_icge (i_lld 2 (i_lret)) (i_lld 2 (i_ild 1 (i_i2l (i_ild 4 (i_call 2 FX5_has (i_ifeq (i_push (.long 0) ((jX5_placesOf_38 B5))) (i_push (.long 1) (i_ald 0 (i_get 5 21 (i_ild 4 (i_iald (i_ls (fun x y => x <<< (y.toInt64 &&& 63)) ((jX5_placesOf_38 B5)))))))))))))))))) 1000
set_option maxRecDepth 20000 in
theorem JX5_placesOf_5 {X : mC} (C : Cx X rX5_placesOf cX5_placesOf 5 RX5 (some FieldType.long)) (hX : Rx X) : Den X rX5_placesOf 5 5 jX5_placesOf_5 := by
  unfold jX5_placesOf_5
  refine Dn_loop (fun B5 hB5 => ?_) 1000
  refine Dn_ild (q := 7) C dX5_placesOf_5 rfl ?_
  refine Dn_ald_n (i := 0) (q := 8) C dX5_placesOf_7 rfl rfl ?_
  refine Dn_get (ci := 5) (j := 22) (T := TX5) (N := 25) (Cn := RX5) (q := 11) C rfl iX5 (by decide) q_732 dX5_placesOf_8 rfl ?_
  refine Dn_icge (t := 46) (q := 14) C dX5_placesOf_11 (by decide) rfl ?_ ?_
  · refine Dn_lld_n (i := 2) (q := 47) C dX5_placesOf_46 rfl rfl ?_
    exact Dn_lret C hX dX5_placesOf_47
  · refine Dn_lld_n (i := 2) (q := 15) C dX5_placesOf_14 rfl rfl ?_
    refine Dn_ild_n (i := 1) (q := 16) C dX5_placesOf_15 rfl rfl ?_
    refine Dn_i2l (q := 17) C dX5_placesOf_16 rfl ?_
    refine Dn_ild (q := 19) C dX5_placesOf_17 rfl ?_
    refine Dn_callS (q := 22) C (kX5_has X.l X.G X.tg) q_862 q_860 q_861 q_50 ⟨rfl, rfl⟩ (by decide +kernel) ⟨by decide, by decide⟩ dX5_placesOf_19 rfl ?_
    refine Dn_ifeq (t := 37) (q := 25) C dX5_placesOf_22 (by decide) rfl ?_ ?_
    · refine Dn_lconst (v := 0) (q := 38) C dX5_placesOf_37 (by decide) rfl ?_
      exact JX5_placesOf_38 C hX B5 hB5
    · refine Dn_lconst (v := 1) (q := 26) C dX5_placesOf_25 (by decide) rfl ?_
      refine Dn_ald_n (i := 0) (q := 27) C dX5_placesOf_26 rfl rfl ?_
      refine Dn_get (ci := 5) (j := 21) (T := TX5) (N := 25) (Cn := RX5) (q := 30) C rfl iX5 (by decide) q_731 dX5_placesOf_27 rfl ?_
      refine Dn_ild (q := 32) C dX5_placesOf_30 rfl ?_
      refine Dn_iald (q := 33) C dX5_placesOf_32 rfl ?_
      refine Dn_lshl (q := 34) C dX5_placesOf_33 rfl ?_
      refine Dn_goto (t := 38) C dX5_placesOf_34 (by decide) ?_
      exact JX5_placesOf_38 C hX B5 hB5
def jX5_placesOf : mK := i_push (.long 0) (i_lst 2 (i_push (.int 0) (i_ist 4 (jX5_placesOf_5))))
def FX5_placesOf : mF := mEnt 5 jX5_placesOf
set_option maxRecDepth 20000 in
theorem kX5_placesOf (l : Launch) (G : va_G) (tg : Nat → ClassId) : Ct l G tg yX5_placesOf cX5_placesOf 5 (some FieldType.long) rX5_placesOf FX5_placesOf := by
  refine Ct.of RX5 (by decide) rfl (fun X C hX => ?_)
  unfold jX5_placesOf
  refine Dn_lconst (v := 0) (q := 1) C dX5_placesOf_0 (by decide) rfl ?_
  refine Dn_lst_n (i := 2) (q := 2) C dX5_placesOf_1 rfl (by decide) rfl ?_
  refine Dn_iconst (v := 0) (q := 3) C dX5_placesOf_2 (by decide) rfl ?_
  refine Dn_ist (q := 5) C dX5_placesOf_3 (by decide) rfl ?_
  exact JX5_placesOf_5 C hX
abbrev rX5_hedged : Room := ({ frames := 5, cells := 0, slots := 0, locals := 123 } : Room)
def jX5_hedged_135 : mK := i_lret
set_option maxRecDepth 20000 in
theorem JX5_hedged_135 {X : mC} (C : Cx X rX5_hedged cX5_hedged 6 RX5 (some FieldType.long)) (hX : Rx X) : Den X rX5_hedged 6 135 jX5_hedged_135 := by
  unfold jX5_hedged_135
  exact Dn_lret C hX dX5_hedged_135
def jX5_hedged_93 (B29 : mK) : mK := i_inc 5 1 (B29)
set_option maxRecDepth 20000 in
theorem JX5_hedged_93 {X : mC} (C : Cx X rX5_hedged cX5_hedged 6 RX5 (some FieldType.long)) (hX : Rx X) (B29 : mK) (hB29 : Den X rX5_hedged 6 29 B29) : Den X rX5_hedged 6 93 (jX5_hedged_93 B29) := by
  unfold jX5_hedged_93
  refine Dn_inc (z := 1) (q := 96) C dX5_hedged_93 (by decide) (by decide) rfl ?_
  refine Dn_goto (t := 29) C dX5_hedged_96 (by decide) ?_
  exact hB29
def jX5_hedged_91 (B29 : mK) : mK := i_ist 4 ((jX5_hedged_93 B29))
set_option maxRecDepth 20000 in
theorem JX5_hedged_91 {X : mC} (C : Cx X rX5_hedged cX5_hedged 6 RX5 (some FieldType.long)) (hX : Rx X) (B29 : mK) (hB29 : Den X rX5_hedged 6 29 B29) : Den X rX5_hedged 6 91 (jX5_hedged_91 B29) := by
  unfold jX5_hedged_91
  refine Dn_ist (q := 93) C dX5_hedged_91 (by decide) rfl ?_
  exact JX5_hedged_93 C hX B29 hB29
def jX5_hedged_59 (B29 : mK) : mK := i_ald 0 (i_lld 2 (i_ald 0 (i_ild 5 (i_callV 5 1 FX5_placesOf (i_lb (fun x y => x ||| y) (i_putl 5 12 (i_ald 0 (i_ald 0 (i_get 5 0 (i_push (.int 0) (i_iald (i_callV 5 1 FX5_holdsBy (i_ifeq (i_ild 4 ((jX5_hedged_91 B29))) (i_ild 5 ((jX5_hedged_91 B29))))))))))))))))
set_option maxRecDepth 20000 in
theorem JX5_hedged_59 {X : mC} (C : Cx X rX5_hedged cX5_hedged 6 RX5 (some FieldType.long)) (hX : Rx X) (B29 : mK) (hB29 : Den X rX5_hedged 6 29 B29) : Den X rX5_hedged 6 59 (jX5_hedged_59 B29) := by
  unfold jX5_hedged_59
  refine Dn_ald_n (i := 0) (q := 60) C dX5_hedged_59 rfl rfl ?_
  refine Dn_lld_n (i := 2) (q := 61) C dX5_hedged_60 rfl rfl ?_
  refine Dn_ald_n (i := 0) (q := 62) C dX5_hedged_61 rfl rfl ?_
  refine Dn_ild (q := 64) C dX5_hedged_62 rfl ?_
  refine Dn_callV (ci := 5) (T := TX5) (N := 25) (q := 67) C rfl (kX5_placesOf X.l X.G X.tg) q_1006 q_1003 q_1005 q_40 q_50 ⟨rfl, rfl⟩ (by decide +kernel) ⟨by decide, by decide⟩ dX5_hedged_64 rfl ?_
  refine Dn_lor (q := 68) C dX5_hedged_67 rfl ?_
  refine Dn_putl (ci := 5) (j := 12) (T := TX5) (N := 25) (Cn := RX5) (q := 71) C rfl iX5 tyX5 tyX5_ok nmX5 (by decide) q_722 rfl (by decide +kernel) dX5_hedged_68 rfl ?_
  refine Dn_ald_n (i := 0) (q := 72) C dX5_hedged_71 rfl rfl ?_
  refine Dn_ald_n (i := 0) (q := 73) C dX5_hedged_72 rfl rfl ?_
  refine Dn_get (ci := 5) (j := 0) (T := TX5) (N := 25) (Cn := RX5) (q := 76) C rfl iX5 (by decide) q_710 dX5_hedged_73 rfl ?_
  refine Dn_iconst (v := 0) (q := 77) C dX5_hedged_76 (by decide) rfl ?_
  refine Dn_iald (q := 78) C dX5_hedged_77 rfl ?_
  refine Dn_callV (ci := 5) (T := TX5) (N := 25) (q := 81) C rfl (kX5_holdsBy X.l X.G X.tg) q_977 q_974 q_976 q_37 q_50 ⟨rfl, rfl⟩ (by decide +kernel) ⟨by decide, by decide⟩ dX5_hedged_78 rfl ?_
  refine Dn_ifeq (t := 89) (q := 84) C dX5_hedged_81 (by decide) rfl ?_ ?_
  · refine Dn_ild (q := 91) C dX5_hedged_89 rfl ?_
    exact JX5_hedged_91 C hX B29 hB29
  · refine Dn_ild (q := 86) C dX5_hedged_84 rfl ?_
    refine Dn_goto (t := 91) C dX5_hedged_86 (by decide) ?_
    exact JX5_hedged_91 C hX B29 hB29
def jX5_hedged_29 : mK := i_loop (fun B29 => i_ild 5 (i_push (.int 1) (i_ald 0 (i_get 5 22 (i_ib (fun x y => x <<< (y &&& 31)) (i_icge (i_ald 0 (i_lld 2 (i_putl 5 12 (i_ild 4 (i_push (.int (-1)) (i_icne (i_ild 1 (i_ifne (i_ald 0 (i_ild 4 (i_callV 5 1 FX5_placesOf (jX5_hedged_135)))) (i_ild 4 (i_call 1 FX5_bits (i_i2l (jX5_hedged_135)))))) (i_push (.long (-1)) (jX5_hedged_135)))))))) (i_ild 4 (i_push (.int (-1)) (i_iceq ((jX5_hedged_59 B29)) (i_ild 5 (i_call 1 FX5_bits (i_ild 4 (i_call 1 FX5_bits (i_icge ((jX5_hedged_93 B29)) ((jX5_hedged_59 B29)))))))))))))))) 1000
set_option maxRecDepth 20000 in
theorem JX5_hedged_29 {X : mC} (C : Cx X rX5_hedged cX5_hedged 6 RX5 (some FieldType.long)) (hX : Rx X) : Den X rX5_hedged 6 29 jX5_hedged_29 := by
  unfold jX5_hedged_29
  refine Dn_loop (fun B29 hB29 => ?_) 1000
  refine Dn_ild (q := 31) C dX5_hedged_29 rfl ?_
  refine Dn_iconst (v := 1) (q := 32) C dX5_hedged_31 (by decide) rfl ?_
  refine Dn_ald_n (i := 0) (q := 33) C dX5_hedged_32 rfl rfl ?_
  refine Dn_get (ci := 5) (j := 22) (T := TX5) (N := 25) (Cn := RX5) (q := 36) C rfl iX5 (by decide) q_732 dX5_hedged_33 rfl ?_
  refine Dn_ishl (q := 37) C dX5_hedged_36 rfl ?_
  refine Dn_icge (t := 99) (q := 40) C dX5_hedged_37 (by decide) rfl ?_ ?_
  · refine Dn_ald_n (i := 0) (q := 100) C dX5_hedged_99 rfl rfl ?_
    refine Dn_lld_n (i := 2) (q := 101) C dX5_hedged_100 rfl rfl ?_
    refine Dn_putl (ci := 5) (j := 12) (T := TX5) (N := 25) (Cn := RX5) (q := 104) C rfl iX5 tyX5 tyX5_ok nmX5 (by decide) q_722 rfl (by decide +kernel) dX5_hedged_101 rfl ?_
    refine Dn_ild (q := 106) C dX5_hedged_104 rfl ?_
    refine Dn_iconst (v := (-1)) (q := 107) C dX5_hedged_106 (by decide) rfl ?_
    refine Dn_icne (t := 116) (q := 110) C dX5_hedged_107 (by decide) rfl ?_ ?_
    · refine Dn_ild_n (i := 1) (q := 117) C dX5_hedged_116 rfl rfl ?_
      refine Dn_ifne (t := 129) (q := 120) C dX5_hedged_117 (by decide) rfl ?_ ?_
      · refine Dn_ald_n (i := 0) (q := 130) C dX5_hedged_129 rfl rfl ?_
        refine Dn_ild (q := 132) C dX5_hedged_130 rfl ?_
        refine Dn_callV (ci := 5) (T := TX5) (N := 25) (q := 135) C rfl (kX5_placesOf X.l X.G X.tg) q_1006 q_1003 q_1005 q_40 q_50 ⟨rfl, rfl⟩ (by decide +kernel) ⟨by decide, by decide⟩ dX5_hedged_132 rfl ?_
        exact JX5_hedged_135 C hX
      · refine Dn_ild (q := 122) C dX5_hedged_120 rfl ?_
        refine Dn_callS (q := 125) C (kX5_bits X.l X.G X.tg) q_1002 q_1000 q_1001 q_50 ⟨rfl, rfl⟩ (by decide +kernel) ⟨by decide, by decide⟩ dX5_hedged_122 rfl ?_
        refine Dn_i2l (q := 126) C dX5_hedged_125 rfl ?_
        refine Dn_goto (t := 135) C dX5_hedged_126 (by decide) ?_
        exact JX5_hedged_135 C hX
    · refine Dn_ldc2 (q := 113) C dX5_hedged_110 q_1007 rfl ?_
      refine Dn_goto (t := 135) C dX5_hedged_113 (by decide) ?_
      exact JX5_hedged_135 C hX
  · refine Dn_ild (q := 42) C dX5_hedged_40 rfl ?_
    refine Dn_iconst (v := (-1)) (q := 43) C dX5_hedged_42 (by decide) rfl ?_
    refine Dn_iceq (t := 59) (q := 46) C dX5_hedged_43 (by decide) rfl ?_ ?_
    · exact JX5_hedged_59 C hX B29 hB29
    · refine Dn_ild (q := 48) C dX5_hedged_46 rfl ?_
      refine Dn_callS (q := 51) C (kX5_bits X.l X.G X.tg) q_1002 q_1000 q_1001 q_50 ⟨rfl, rfl⟩ (by decide +kernel) ⟨by decide, by decide⟩ dX5_hedged_48 rfl ?_
      refine Dn_ild (q := 53) C dX5_hedged_51 rfl ?_
      refine Dn_callS (q := 56) C (kX5_bits X.l X.G X.tg) q_1002 q_1000 q_1001 q_50 ⟨rfl, rfl⟩ (by decide +kernel) ⟨by decide, by decide⟩ dX5_hedged_53 rfl ?_
      refine Dn_icge (t := 93) (q := 59) C dX5_hedged_56 (by decide) rfl ?_ ?_
      · exact JX5_hedged_93 C hX B29 hB29
      · exact JX5_hedged_59 C hX B29 hB29
def jX5_hedged : mK := i_ild 1 (i_i2l (i_push (.long 0) (i_push (.long 1) (i_call 3 FX5_in (i_ifne (i_ald 0 (i_callV 5 0 FX5_laySpots (i_ald 0 (i_get 5 12 (i_lst 2 (i_push (.int (-1)) (i_ist 4 (i_push (.int 0) (i_ist 5 (jX5_hedged_29)))))))))) (i_push (.long (-3)) (i_lret)))))))
def FX5_hedged : mF := mEnt 6 jX5_hedged
set_option maxRecDepth 20000 in
theorem kX5_hedged (l : Launch) (G : va_G) (tg : Nat → ClassId) : Ct l G tg yX5_hedged cX5_hedged 6 (some FieldType.long) rX5_hedged FX5_hedged := by
  refine Ct.of RX5 (by decide) rfl (fun X C hX => ?_)
  unfold jX5_hedged
  refine Dn_ild_n (i := 1) (q := 1) C dX5_hedged_0 rfl rfl ?_
  refine Dn_i2l (q := 2) C dX5_hedged_1 rfl ?_
  refine Dn_lconst (v := 0) (q := 3) C dX5_hedged_2 (by decide) rfl ?_
  refine Dn_lconst (v := 1) (q := 4) C dX5_hedged_3 (by decide) rfl ?_
  refine Dn_callS (q := 7) C (kX5_in X.l X.G X.tg) q_794 q_792 q_793 q_50 ⟨rfl, rfl⟩ (by decide +kernel) ⟨by decide, by decide⟩ dX5_hedged_4 rfl ?_
  refine Dn_ifne (t := 14) (q := 10) C dX5_hedged_7 (by decide) rfl ?_ ?_
  · refine Dn_ald_n (i := 0) (q := 15) C dX5_hedged_14 rfl rfl ?_
    refine Dn_callV (ci := 5) (T := TX5) (N := 25) (q := 18) C rfl (kX5_laySpots X.l X.G X.tg) q_999 q_996 q_998 q_39 q_50 ⟨rfl, rfl⟩ (by decide +kernel) ⟨by decide, by decide⟩ dX5_hedged_15 rfl ?_
    refine Dn_ald_n (i := 0) (q := 19) C dX5_hedged_18 rfl rfl ?_
    refine Dn_get (ci := 5) (j := 12) (T := TX5) (N := 25) (Cn := RX5) (q := 22) C rfl iX5 (by decide) q_722 dX5_hedged_19 rfl ?_
    refine Dn_lst_n (i := 2) (q := 23) C dX5_hedged_22 rfl (by decide) rfl ?_
    refine Dn_iconst (v := (-1)) (q := 24) C dX5_hedged_23 (by decide) rfl ?_
    refine Dn_ist (q := 26) C dX5_hedged_24 (by decide) rfl ?_
    refine Dn_iconst (v := 0) (q := 27) C dX5_hedged_26 (by decide) rfl ?_
    refine Dn_ist (q := 29) C dX5_hedged_27 (by decide) rfl ?_
    exact JX5_hedged_29 C hX
  · refine Dn_ldc2 (q := 13) C dX5_hedged_10 q_995 rfl ?_
    exact Dn_lret C hX dX5_hedged_13
abbrev rX5_margin : Room := ({ frames := 4, cells := 0, slots := 0, locals := 102 } : Room)
def jX5_margin : mK := i_push (.int 1000) (i_ald 0 (i_ald 0 (i_get 5 0 (i_push (.int 0) (i_iald (i_callV 5 1 FX5_marginBy (i_ib (fun x y => x + y) (i_iret))))))))
def FX5_margin : mF := mEnt 1 jX5_margin
set_option maxRecDepth 20000 in
theorem kX5_margin (l : Launch) (G : va_G) (tg : Nat → ClassId) : Ct l G tg yX5_margin cX5_margin 1 (some FieldType.int) rX5_margin FX5_margin := by
  refine Ct.of RX5 (by decide) rfl (fun X C hX => ?_)
  unfold jX5_margin
  refine Dn_sipush (v := 1000) (q := 3) C dX5_margin_0 (by decide) rfl ?_
  refine Dn_ald_n (i := 0) (q := 4) C dX5_margin_3 rfl rfl ?_
  refine Dn_ald_n (i := 0) (q := 5) C dX5_margin_4 rfl rfl ?_
  refine Dn_get (ci := 5) (j := 0) (T := TX5) (N := 25) (Cn := RX5) (q := 8) C rfl iX5 (by decide) q_710 dX5_margin_5 rfl ?_
  refine Dn_iconst (v := 0) (q := 9) C dX5_margin_8 (by decide) rfl ?_
  refine Dn_iald (q := 10) C dX5_margin_9 rfl ?_
  refine Dn_callV (ci := 5) (T := TX5) (N := 25) (q := 13) C rfl (kX5_marginBy X.l X.G X.tg) q_981 q_978 q_980 q_38 q_50 ⟨rfl, rfl⟩ (by decide +kernel) ⟨by decide, by decide⟩ dX5_margin_10 rfl ?_
  refine Dn_iadd (q := 14) C dX5_margin_13 rfl ?_
  exact Dn_iret C hX dX5_margin_14
abbrev rX5_price : Room := ({ frames := 4, cells := 0, slots := 0, locals := 102 } : Room)
def jX5_price_44 : mK := i_iret
set_option maxRecDepth 20000 in
theorem JX5_price_44 {X : mC} (C : Cx X rX5_price cX5_price 2 RX5 (some FieldType.int)) (hX : Rx X) : Den X rX5_price 2 44 jX5_price_44 := by
  unfold jX5_price_44
  exact Dn_iret C hX dX5_price_44
def jX5_price : mK := i_ald 0 (i_ild 1 (i_callV 5 1 FX5_isBand (i_ifeq (i_push (.int (-2)) (jX5_price_44)) (i_ald 0 (i_ald 0 (i_get 5 0 (i_push (.int 0) (i_iald (i_push (.int 1) (i_ild 1 (i_ib (fun x y => x <<< (y &&& 31)) (i_push (.int (-1)) (i_ib (fun x y => x ^^^ y) (i_ib (fun x y => x &&& y) (i_callV 5 1 FX5_marginBy (i_ald 0 (i_ald 0 (i_get 5 0 (i_push (.int 0) (i_iald (i_push (.int 1) (i_ild 1 (i_ib (fun x y => x <<< (y &&& 31)) (i_ib (fun x y => x ||| y) (i_callV 5 1 FX5_marginBy (i_ib (fun x y => x - y) (jX5_price_44)))))))))))))))))))))))))))
def FX5_price : mF := mEnt 2 jX5_price
set_option maxRecDepth 20000 in
theorem kX5_price (l : Launch) (G : va_G) (tg : Nat → ClassId) : Ct l G tg yX5_price cX5_price 2 (some FieldType.int) rX5_price FX5_price := by
  refine Ct.of RX5 (by decide) rfl (fun X C hX => ?_)
  unfold jX5_price
  refine Dn_ald_n (i := 0) (q := 1) C dX5_price_0 rfl rfl ?_
  refine Dn_ild_n (i := 1) (q := 2) C dX5_price_1 rfl rfl ?_
  refine Dn_callV (ci := 5) (T := TX5) (N := 25) (q := 5) C rfl (kX5_isBand X.l X.G X.tg) q_903 q_900 q_902 q_29 q_50 ⟨rfl, rfl⟩ (by decide +kernel) ⟨by decide, by decide⟩ dX5_price_2 rfl ?_
  refine Dn_ifeq (t := 42) (q := 8) C dX5_price_5 (by decide) rfl ?_ ?_
  · refine Dn_bipush (v := (-2)) (q := 44) C dX5_price_42 (by decide) rfl ?_
    exact JX5_price_44 C hX
  · refine Dn_ald_n (i := 0) (q := 9) C dX5_price_8 rfl rfl ?_
    refine Dn_ald_n (i := 0) (q := 10) C dX5_price_9 rfl rfl ?_
    refine Dn_get (ci := 5) (j := 0) (T := TX5) (N := 25) (Cn := RX5) (q := 13) C rfl iX5 (by decide) q_710 dX5_price_10 rfl ?_
    refine Dn_iconst (v := 0) (q := 14) C dX5_price_13 (by decide) rfl ?_
    refine Dn_iald (q := 15) C dX5_price_14 rfl ?_
    refine Dn_iconst (v := 1) (q := 16) C dX5_price_15 (by decide) rfl ?_
    refine Dn_ild_n (i := 1) (q := 17) C dX5_price_16 rfl rfl ?_
    refine Dn_ishl (q := 18) C dX5_price_17 rfl ?_
    refine Dn_iconst (v := (-1)) (q := 19) C dX5_price_18 (by decide) rfl ?_
    refine Dn_ixor (q := 20) C dX5_price_19 rfl ?_
    refine Dn_iand (q := 21) C dX5_price_20 rfl ?_
    refine Dn_callV (ci := 5) (T := TX5) (N := 25) (q := 24) C rfl (kX5_marginBy X.l X.G X.tg) q_981 q_978 q_980 q_38 q_50 ⟨rfl, rfl⟩ (by decide +kernel) ⟨by decide, by decide⟩ dX5_price_21 rfl ?_
    refine Dn_ald_n (i := 0) (q := 25) C dX5_price_24 rfl rfl ?_
    refine Dn_ald_n (i := 0) (q := 26) C dX5_price_25 rfl rfl ?_
    refine Dn_get (ci := 5) (j := 0) (T := TX5) (N := 25) (Cn := RX5) (q := 29) C rfl iX5 (by decide) q_710 dX5_price_26 rfl ?_
    refine Dn_iconst (v := 0) (q := 30) C dX5_price_29 (by decide) rfl ?_
    refine Dn_iald (q := 31) C dX5_price_30 rfl ?_
    refine Dn_iconst (v := 1) (q := 32) C dX5_price_31 (by decide) rfl ?_
    refine Dn_ild_n (i := 1) (q := 33) C dX5_price_32 rfl rfl ?_
    refine Dn_ishl (q := 34) C dX5_price_33 rfl ?_
    refine Dn_ior (q := 35) C dX5_price_34 rfl ?_
    refine Dn_callV (ci := 5) (T := TX5) (N := 25) (q := 38) C rfl (kX5_marginBy X.l X.G X.tg) q_981 q_978 q_980 q_38 q_50 ⟨rfl, rfl⟩ (by decide +kernel) ⟨by decide, by decide⟩ dX5_price_35 rfl ?_
    refine Dn_isub (q := 39) C dX5_price_38 rfl ?_
    refine Dn_goto (t := 44) C dX5_price_39 (by decide) ?_
    exact JX5_price_44 C hX
abbrev rX5_nextOf : Room := ({ frames := 4, cells := 0, slots := 0, locals := 100 } : Room)
def jX5_nextOf_122 (B6 : mK) : mK := i_lb (fun x y => x ||| y) (i_lst 4 (i_inc 6 1 (B6)))
set_option maxRecDepth 20000 in
theorem JX5_nextOf_122 {X : mC} (C : Cx X rX5_nextOf cX5_nextOf 9 RX5 (some FieldType.long)) (hX : Rx X) (B6 : mK) (hB6 : Den X rX5_nextOf 9 6 B6) : Den X rX5_nextOf 9 122 (jX5_nextOf_122 B6) := by
  unfold jX5_nextOf_122
  refine Dn_lor (q := 123) C dX5_nextOf_122 rfl ?_
  refine Dn_lst (q := 125) C dX5_nextOf_123 (by decide) rfl ?_
  refine Dn_inc (z := 1) (q := 128) C dX5_nextOf_125 (by decide) (by decide) rfl ?_
  refine Dn_goto (t := 6) C dX5_nextOf_128 (by decide) ?_
  exact hB6
def jX5_nextOf_121 (B6 : mK) : mK := i_push (.long 0) ((jX5_nextOf_122 B6))
set_option maxRecDepth 20000 in
theorem JX5_nextOf_121 {X : mC} (C : Cx X rX5_nextOf cX5_nextOf 9 RX5 (some FieldType.long)) (hX : Rx X) (B6 : mK) (hB6 : Den X rX5_nextOf 9 6 B6) : Den X rX5_nextOf 9 121 (jX5_nextOf_121 B6) := by
  unfold jX5_nextOf_121
  refine Dn_lconst (v := 0) (q := 122) C dX5_nextOf_121 (by decide) rfl ?_
  exact JX5_nextOf_122 C hX B6 hB6
def jX5_nextOf_71 (B6 : mK) (B26 : mK) : mK := i_ist 7 (i_inc 8 1 (B26))
set_option maxRecDepth 20000 in
theorem JX5_nextOf_71 {X : mC} (C : Cx X rX5_nextOf cX5_nextOf 9 RX5 (some FieldType.long)) (hX : Rx X) (B6 : mK) (hB6 : Den X rX5_nextOf 9 6 B6) (B26 : mK) (hB26 : Den X rX5_nextOf 9 26 B26) : Den X rX5_nextOf 9 71 (jX5_nextOf_71 B6 B26) := by
  unfold jX5_nextOf_71
  refine Dn_ist (q := 73) C dX5_nextOf_71 (by decide) rfl ?_
  refine Dn_inc (z := 1) (q := 76) C dX5_nextOf_73 (by decide) (by decide) rfl ?_
  refine Dn_goto (t := 26) C dX5_nextOf_76 (by decide) ?_
  exact hB26
def jX5_nextOf_70 (B6 : mK) (B26 : mK) : mK := i_push (.int 0) ((jX5_nextOf_71 B6 B26))
set_option maxRecDepth 20000 in
theorem JX5_nextOf_70 {X : mC} (C : Cx X rX5_nextOf cX5_nextOf 9 RX5 (some FieldType.long)) (hX : Rx X) (B6 : mK) (hB6 : Den X rX5_nextOf 9 6 B6) (B26 : mK) (hB26 : Den X rX5_nextOf 9 26 B26) : Den X rX5_nextOf 9 70 (jX5_nextOf_70 B6 B26) := by
  unfold jX5_nextOf_70
  refine Dn_iconst (v := 0) (q := 71) C dX5_nextOf_70 (by decide) rfl ?_
  exact JX5_nextOf_71 C hX B6 hB6 B26 hB26
def jX5_nextOf_66 (B6 : mK) (B26 : mK) : mK := i_push (.int 1) ((jX5_nextOf_71 B6 B26))
set_option maxRecDepth 20000 in
theorem JX5_nextOf_66 {X : mC} (C : Cx X rX5_nextOf cX5_nextOf 9 RX5 (some FieldType.long)) (hX : Rx X) (B6 : mK) (hB6 : Den X rX5_nextOf 9 6 B6) (B26 : mK) (hB26 : Den X rX5_nextOf 9 26 B26) : Den X rX5_nextOf 9 66 (jX5_nextOf_66 B6 B26) := by
  unfold jX5_nextOf_66
  refine Dn_iconst (v := 1) (q := 67) C dX5_nextOf_66 (by decide) rfl ?_
  refine Dn_goto (t := 71) C dX5_nextOf_67 (by decide) ?_
  exact JX5_nextOf_71 C hX B6 hB6 B26 hB26
def jX5_nextOf_26 (B6 : mK) : mK := i_loop (fun B26 => i_ild 8 (i_ald 0 (i_get 5 6 (i_ald 0 (i_get 5 7 (i_ib (fun x y => x * y) (i_icge (i_lld 4 (i_ild 7 (i_ifeq ((jX5_nextOf_121 B6)) (i_ald 0 (i_get 5 11 (i_ild 6 (i_call 2 FX5_has (i_ifeq ((jX5_nextOf_121 B6)) (i_ald 0 (i_ald 0 (i_get 5 0 (i_push (.int 0) (i_iald (i_ild 6 (i_ild 3 (i_callV 5 3 FX5_isHeard (i_ifeq ((jX5_nextOf_121 B6)) (i_push (.long 1) (i_ild 6 (i_ls (fun x y => x <<< (y.toInt64 &&& 63)) ((jX5_nextOf_122 B6)))))))))))))))))))))) (i_ild 7 (i_ifne ((jX5_nextOf_66 B6 B26)) (i_lld 1 (i_ild 8 (i_call 2 FX5_has (i_ifeq ((jX5_nextOf_70 B6 B26)) (i_ald 0 (i_ild 6 (i_ild 8 (i_callV 5 2 FX5_far (i_push (.int 2) (i_icge ((jX5_nextOf_70 B6 B26)) ((jX5_nextOf_66 B6 B26))))))))))))))))))))) 1000
set_option maxRecDepth 20000 in
theorem JX5_nextOf_26 {X : mC} (C : Cx X rX5_nextOf cX5_nextOf 9 RX5 (some FieldType.long)) (hX : Rx X) (B6 : mK) (hB6 : Den X rX5_nextOf 9 6 B6) : Den X rX5_nextOf 9 26 (jX5_nextOf_26 B6) := by
  unfold jX5_nextOf_26
  refine Dn_loop (fun B26 hB26 => ?_) 1000
  refine Dn_ild (q := 28) C dX5_nextOf_26 rfl ?_
  refine Dn_ald_n (i := 0) (q := 29) C dX5_nextOf_28 rfl rfl ?_
  refine Dn_get (ci := 5) (j := 6) (T := TX5) (N := 25) (Cn := RX5) (q := 32) C rfl iX5 (by decide) q_716 dX5_nextOf_29 rfl ?_
  refine Dn_ald_n (i := 0) (q := 33) C dX5_nextOf_32 rfl rfl ?_
  refine Dn_get (ci := 5) (j := 7) (T := TX5) (N := 25) (Cn := RX5) (q := 36) C rfl iX5 (by decide) q_717 dX5_nextOf_33 rfl ?_
  refine Dn_imul (q := 37) C dX5_nextOf_36 rfl ?_
  refine Dn_icge (t := 79) (q := 40) C dX5_nextOf_37 (by decide) rfl ?_ ?_
  · refine Dn_lld (q := 81) C dX5_nextOf_79 rfl ?_
    refine Dn_ild (q := 83) C dX5_nextOf_81 rfl ?_
    refine Dn_ifeq (t := 121) (q := 86) C dX5_nextOf_83 (by decide) rfl ?_ ?_
    · exact JX5_nextOf_121 C hX B6 hB6
    · refine Dn_ald_n (i := 0) (q := 87) C dX5_nextOf_86 rfl rfl ?_
      refine Dn_get (ci := 5) (j := 11) (T := TX5) (N := 25) (Cn := RX5) (q := 90) C rfl iX5 (by decide) q_721 dX5_nextOf_87 rfl ?_
      refine Dn_ild (q := 92) C dX5_nextOf_90 rfl ?_
      refine Dn_callS (q := 95) C (kX5_has X.l X.G X.tg) q_862 q_860 q_861 q_50 ⟨rfl, rfl⟩ (by decide +kernel) ⟨by decide, by decide⟩ dX5_nextOf_92 rfl ?_
      refine Dn_ifeq (t := 121) (q := 98) C dX5_nextOf_95 (by decide) rfl ?_ ?_
      · exact JX5_nextOf_121 C hX B6 hB6
      · refine Dn_ald_n (i := 0) (q := 99) C dX5_nextOf_98 rfl rfl ?_
        refine Dn_ald_n (i := 0) (q := 100) C dX5_nextOf_99 rfl rfl ?_
        refine Dn_get (ci := 5) (j := 0) (T := TX5) (N := 25) (Cn := RX5) (q := 103) C rfl iX5 (by decide) q_710 dX5_nextOf_100 rfl ?_
        refine Dn_iconst (v := 0) (q := 104) C dX5_nextOf_103 (by decide) rfl ?_
        refine Dn_iald (q := 105) C dX5_nextOf_104 rfl ?_
        refine Dn_ild (q := 107) C dX5_nextOf_105 rfl ?_
        refine Dn_ild_n (i := 3) (q := 108) C dX5_nextOf_107 rfl rfl ?_
        refine Dn_callV (ci := 5) (T := TX5) (N := 25) (q := 111) C rfl (kX5_isHeard X.l X.G X.tg) q_944 q_941 q_943 q_33 q_50 ⟨rfl, rfl⟩ (by decide +kernel) ⟨by decide, by decide⟩ dX5_nextOf_108 rfl ?_
        refine Dn_ifeq (t := 121) (q := 114) C dX5_nextOf_111 (by decide) rfl ?_ ?_
        · exact JX5_nextOf_121 C hX B6 hB6
        · refine Dn_lconst (v := 1) (q := 115) C dX5_nextOf_114 (by decide) rfl ?_
          refine Dn_ild (q := 117) C dX5_nextOf_115 rfl ?_
          refine Dn_lshl (q := 118) C dX5_nextOf_117 rfl ?_
          refine Dn_goto (t := 122) C dX5_nextOf_118 (by decide) ?_
          exact JX5_nextOf_122 C hX B6 hB6
  · refine Dn_ild (q := 42) C dX5_nextOf_40 rfl ?_
    refine Dn_ifne (t := 66) (q := 45) C dX5_nextOf_42 (by decide) rfl ?_ ?_
    · exact JX5_nextOf_66 C hX B6 hB6 B26 hB26
    · refine Dn_lld_n (i := 1) (q := 46) C dX5_nextOf_45 rfl rfl ?_
      refine Dn_ild (q := 48) C dX5_nextOf_46 rfl ?_
      refine Dn_callS (q := 51) C (kX5_has X.l X.G X.tg) q_862 q_860 q_861 q_50 ⟨rfl, rfl⟩ (by decide +kernel) ⟨by decide, by decide⟩ dX5_nextOf_48 rfl ?_
      refine Dn_ifeq (t := 70) (q := 54) C dX5_nextOf_51 (by decide) rfl ?_ ?_
      · exact JX5_nextOf_70 C hX B6 hB6 B26 hB26
      · refine Dn_ald_n (i := 0) (q := 55) C dX5_nextOf_54 rfl rfl ?_
        refine Dn_ild (q := 57) C dX5_nextOf_55 rfl ?_
        refine Dn_ild (q := 59) C dX5_nextOf_57 rfl ?_
        refine Dn_callV (ci := 5) (T := TX5) (N := 25) (q := 62) C rfl (kX5_far X.l X.G X.tg) q_895 q_892 q_894 q_28 q_50 ⟨rfl, rfl⟩ (by decide +kernel) ⟨by decide, by decide⟩ dX5_nextOf_59 rfl ?_
        refine Dn_iconst (v := 2) (q := 63) C dX5_nextOf_62 (by decide) rfl ?_
        refine Dn_icge (t := 70) (q := 66) C dX5_nextOf_63 (by decide) rfl ?_ ?_
        · exact JX5_nextOf_70 C hX B6 hB6 B26 hB26
        · exact JX5_nextOf_66 C hX B6 hB6 B26 hB26
def jX5_nextOf_6 : mK := i_loop (fun B6 => i_ild 6 (i_ald 0 (i_get 5 6 (i_ald 0 (i_get 5 7 (i_ib (fun x y => x * y) (i_icge (i_lld 4 (i_lret)) (i_push (.int 0) (i_ist 7 (i_push (.int 0) (i_ist 8 ((jX5_nextOf_26 B6))))))))))))) 1000
set_option maxRecDepth 20000 in
theorem JX5_nextOf_6 {X : mC} (C : Cx X rX5_nextOf cX5_nextOf 9 RX5 (some FieldType.long)) (hX : Rx X) : Den X rX5_nextOf 9 6 jX5_nextOf_6 := by
  unfold jX5_nextOf_6
  refine Dn_loop (fun B6 hB6 => ?_) 1000
  refine Dn_ild (q := 8) C dX5_nextOf_6 rfl ?_
  refine Dn_ald_n (i := 0) (q := 9) C dX5_nextOf_8 rfl rfl ?_
  refine Dn_get (ci := 5) (j := 6) (T := TX5) (N := 25) (Cn := RX5) (q := 12) C rfl iX5 (by decide) q_716 dX5_nextOf_9 rfl ?_
  refine Dn_ald_n (i := 0) (q := 13) C dX5_nextOf_12 rfl rfl ?_
  refine Dn_get (ci := 5) (j := 7) (T := TX5) (N := 25) (Cn := RX5) (q := 16) C rfl iX5 (by decide) q_717 dX5_nextOf_13 rfl ?_
  refine Dn_imul (q := 17) C dX5_nextOf_16 rfl ?_
  refine Dn_icge (t := 131) (q := 20) C dX5_nextOf_17 (by decide) rfl ?_ ?_
  · refine Dn_lld (q := 133) C dX5_nextOf_131 rfl ?_
    exact Dn_lret C hX dX5_nextOf_133
  · refine Dn_iconst (v := 0) (q := 21) C dX5_nextOf_20 (by decide) rfl ?_
    refine Dn_ist (q := 23) C dX5_nextOf_21 (by decide) rfl ?_
    refine Dn_iconst (v := 0) (q := 24) C dX5_nextOf_23 (by decide) rfl ?_
    refine Dn_ist (q := 26) C dX5_nextOf_24 (by decide) rfl ?_
    exact JX5_nextOf_26 C hX B6 hB6
def jX5_nextOf : mK := i_push (.long 0) (i_lst 4 (i_push (.int 0) (i_ist 6 (jX5_nextOf_6))))
def FX5_nextOf : mF := mEnt 9 jX5_nextOf
set_option maxRecDepth 20000 in
theorem kX5_nextOf (l : Launch) (G : va_G) (tg : Nat → ClassId) : Ct l G tg yX5_nextOf cX5_nextOf 9 (some FieldType.long) rX5_nextOf FX5_nextOf := by
  refine Ct.of RX5 (by decide) rfl (fun X C hX => ?_)
  unfold jX5_nextOf
  refine Dn_lconst (v := 0) (q := 1) C dX5_nextOf_0 (by decide) rfl ?_
  refine Dn_lst (q := 3) C dX5_nextOf_1 (by decide) rfl ?_
  refine Dn_iconst (v := 0) (q := 4) C dX5_nextOf_3 (by decide) rfl ?_
  refine Dn_ist (q := 6) C dX5_nextOf_4 (by decide) rfl ?_
  exact JX5_nextOf_6 C hX
abbrev rX5_way : Room := ({ frames := 5, cells := 0, slots := 0, locals := 128 } : Room)
def jX5_way_65 : mK := i_loop (fun B65 => i_ild 4 (i_push (.int 100) (i_icge (i_push (.int (-1)) (i_iret)) (i_lld 2 (i_ild 1 (i_call 2 FX5_has (i_ifeq (i_ald 0 (i_lld 2 (i_ald 0 (i_get 5 0 (i_push (.int 2) (i_iald (i_ild 4 (i_ib (fun x y => x + y) (i_push (.int 1) (i_ib (fun x y => x + y) (i_push (.int 12) (i_irem (i_callV 5 2 FX5_nextOf (i_lst 2 (i_inc 4 1 (B65)))))))))))))))) (i_ild 4 (i_iret))))))))) 1000
set_option maxRecDepth 20000 in
theorem JX5_way_65 {X : mC} (C : Cx X rX5_way cX5_way 5 RX5 (some FieldType.int)) (hX : Rx X) : Den X rX5_way 5 65 jX5_way_65 := by
  unfold jX5_way_65
  refine Dn_loop (fun B65 hB65 => ?_) 1000
  refine Dn_ild (q := 67) C dX5_way_65 rfl ?_
  refine Dn_bipush (v := 100) (q := 69) C dX5_way_67 (by decide) rfl ?_
  refine Dn_icge (t := 109) (q := 72) C dX5_way_69 (by decide) rfl ?_ ?_
  · refine Dn_iconst (v := (-1)) (q := 110) C dX5_way_109 (by decide) rfl ?_
    exact Dn_iret C hX dX5_way_110
  · refine Dn_lld_n (i := 2) (q := 73) C dX5_way_72 rfl rfl ?_
    refine Dn_ild_n (i := 1) (q := 74) C dX5_way_73 rfl rfl ?_
    refine Dn_callS (q := 77) C (kX5_has X.l X.G X.tg) q_862 q_860 q_861 q_50 ⟨rfl, rfl⟩ (by decide +kernel) ⟨by decide, by decide⟩ dX5_way_74 rfl ?_
    refine Dn_ifeq (t := 83) (q := 80) C dX5_way_77 (by decide) rfl ?_ ?_
    · refine Dn_ald_n (i := 0) (q := 84) C dX5_way_83 rfl rfl ?_
      refine Dn_lld_n (i := 2) (q := 85) C dX5_way_84 rfl rfl ?_
      refine Dn_ald_n (i := 0) (q := 86) C dX5_way_85 rfl rfl ?_
      refine Dn_get (ci := 5) (j := 0) (T := TX5) (N := 25) (Cn := RX5) (q := 89) C rfl iX5 (by decide) q_710 dX5_way_86 rfl ?_
      refine Dn_iconst (v := 2) (q := 90) C dX5_way_89 (by decide) rfl ?_
      refine Dn_iald (q := 91) C dX5_way_90 rfl ?_
      refine Dn_ild (q := 93) C dX5_way_91 rfl ?_
      refine Dn_iadd (q := 94) C dX5_way_93 rfl ?_
      refine Dn_iconst (v := 1) (q := 95) C dX5_way_94 (by decide) rfl ?_
      refine Dn_iadd (q := 96) C dX5_way_95 rfl ?_
      refine Dn_bipush (v := 12) (q := 98) C dX5_way_96 (by decide) rfl ?_
      refine Dn_irem (q := 99) C dX5_way_98 rfl ?_
      refine Dn_callV (ci := 5) (T := TX5) (N := 25) (q := 102) C rfl (kX5_nextOf X.l X.G X.tg) q_1023 q_1020 q_1022 q_41 q_50 ⟨rfl, rfl⟩ (by decide +kernel) ⟨by decide, by decide⟩ dX5_way_99 rfl ?_
      refine Dn_lst_n (i := 2) (q := 103) C dX5_way_102 rfl (by decide) rfl ?_
      refine Dn_inc (z := 1) (q := 106) C dX5_way_103 (by decide) (by decide) rfl ?_
      refine Dn_goto (t := 65) C dX5_way_106 (by decide) ?_
      exact hB65
    · refine Dn_ild (q := 82) C dX5_way_80 rfl ?_
      exact Dn_iret C hX dX5_way_82
def jX5_way_61 : mK := i_lst 2 (i_push (.int 0) (i_ist 4 (jX5_way_65)))
set_option maxRecDepth 20000 in
theorem JX5_way_61 {X : mC} (C : Cx X rX5_way cX5_way 5 RX5 (some FieldType.int)) (hX : Rx X) : Den X rX5_way 5 61 jX5_way_61 := by
  unfold jX5_way_61
  refine Dn_lst_n (i := 2) (q := 62) C dX5_way_61 rfl (by decide) rfl ?_
  refine Dn_iconst (v := 0) (q := 63) C dX5_way_62 (by decide) rfl ?_
  refine Dn_ist (q := 65) C dX5_way_63 (by decide) rfl ?_
  exact JX5_way_65 C hX
def jX5_way : mK := i_ald 0 (i_ild 1 (i_callV 5 1 FX5_isPlace (i_ifne (i_ald 0 (i_get 5 0 (i_push (.int 1) (i_iald (i_push (.int (-1)) (i_icne (i_ald 0 (i_ald 0 (i_get 5 0 (i_push (.int 0) (i_iald (i_ald 0 (i_get 5 0 (i_push (.int 1) (i_iald (i_ald 0 (i_get 5 0 (i_push (.int 2) (i_iald (i_callV 5 3 FX5_isHeard (i_ifeq (i_push (.long 0) (jX5_way_61)) (i_push (.long 1) (i_ald 0 (i_get 5 0 (i_push (.int 1) (i_iald (i_ls (fun x y => x <<< (y.toInt64 &&& 63)) (jX5_way_61)))))))))))))))))))))) (i_push (.int (-4)) (i_iret)))))))) (i_push (.int (-2)) (i_iret)))))
def FX5_way : mF := mEnt 5 jX5_way
set_option maxRecDepth 20000 in
theorem kX5_way (l : Launch) (G : va_G) (tg : Nat → ClassId) : Ct l G tg yX5_way cX5_way 5 (some FieldType.int) rX5_way FX5_way := by
  refine Ct.of RX5 (by decide) rfl (fun X C hX => ?_)
  unfold jX5_way
  refine Dn_ald_n (i := 0) (q := 1) C dX5_way_0 rfl rfl ?_
  refine Dn_ild_n (i := 1) (q := 2) C dX5_way_1 rfl rfl ?_
  refine Dn_callV (ci := 5) (T := TX5) (N := 25) (q := 5) C rfl (kX5_isPlace X.l X.G X.tg) q_887 q_884 q_886 q_26 q_50 ⟨rfl, rfl⟩ (by decide +kernel) ⟨by decide, by decide⟩ dX5_way_2 rfl ?_
  refine Dn_ifne (t := 11) (q := 8) C dX5_way_5 (by decide) rfl ?_ ?_
  · refine Dn_ald_n (i := 0) (q := 12) C dX5_way_11 rfl rfl ?_
    refine Dn_get (ci := 5) (j := 0) (T := TX5) (N := 25) (Cn := RX5) (q := 15) C rfl iX5 (by decide) q_710 dX5_way_12 rfl ?_
    refine Dn_iconst (v := 1) (q := 16) C dX5_way_15 (by decide) rfl ?_
    refine Dn_iald (q := 17) C dX5_way_16 rfl ?_
    refine Dn_iconst (v := (-1)) (q := 18) C dX5_way_17 (by decide) rfl ?_
    refine Dn_icne (t := 24) (q := 21) C dX5_way_18 (by decide) rfl ?_ ?_
    · refine Dn_ald_n (i := 0) (q := 25) C dX5_way_24 rfl rfl ?_
      refine Dn_ald_n (i := 0) (q := 26) C dX5_way_25 rfl rfl ?_
      refine Dn_get (ci := 5) (j := 0) (T := TX5) (N := 25) (Cn := RX5) (q := 29) C rfl iX5 (by decide) q_710 dX5_way_26 rfl ?_
      refine Dn_iconst (v := 0) (q := 30) C dX5_way_29 (by decide) rfl ?_
      refine Dn_iald (q := 31) C dX5_way_30 rfl ?_
      refine Dn_ald_n (i := 0) (q := 32) C dX5_way_31 rfl rfl ?_
      refine Dn_get (ci := 5) (j := 0) (T := TX5) (N := 25) (Cn := RX5) (q := 35) C rfl iX5 (by decide) q_710 dX5_way_32 rfl ?_
      refine Dn_iconst (v := 1) (q := 36) C dX5_way_35 (by decide) rfl ?_
      refine Dn_iald (q := 37) C dX5_way_36 rfl ?_
      refine Dn_ald_n (i := 0) (q := 38) C dX5_way_37 rfl rfl ?_
      refine Dn_get (ci := 5) (j := 0) (T := TX5) (N := 25) (Cn := RX5) (q := 41) C rfl iX5 (by decide) q_710 dX5_way_38 rfl ?_
      refine Dn_iconst (v := 2) (q := 42) C dX5_way_41 (by decide) rfl ?_
      refine Dn_iald (q := 43) C dX5_way_42 rfl ?_
      refine Dn_callV (ci := 5) (T := TX5) (N := 25) (q := 46) C rfl (kX5_isHeard X.l X.G X.tg) q_944 q_941 q_943 q_33 q_50 ⟨rfl, rfl⟩ (by decide +kernel) ⟨by decide, by decide⟩ dX5_way_43 rfl ?_
      refine Dn_ifeq (t := 60) (q := 49) C dX5_way_46 (by decide) rfl ?_ ?_
      · refine Dn_lconst (v := 0) (q := 61) C dX5_way_60 (by decide) rfl ?_
        exact JX5_way_61 C hX
      · refine Dn_lconst (v := 1) (q := 50) C dX5_way_49 (by decide) rfl ?_
        refine Dn_ald_n (i := 0) (q := 51) C dX5_way_50 rfl rfl ?_
        refine Dn_get (ci := 5) (j := 0) (T := TX5) (N := 25) (Cn := RX5) (q := 54) C rfl iX5 (by decide) q_710 dX5_way_51 rfl ?_
        refine Dn_iconst (v := 1) (q := 55) C dX5_way_54 (by decide) rfl ?_
        refine Dn_iald (q := 56) C dX5_way_55 rfl ?_
        refine Dn_lshl (q := 57) C dX5_way_56 rfl ?_
        refine Dn_goto (t := 61) C dX5_way_57 (by decide) ?_
        exact JX5_way_61 C hX
    · refine Dn_bipush (v := (-4)) (q := 23) C dX5_way_21 (by decide) rfl ?_
      exact Dn_iret C hX dX5_way_23
  · refine Dn_bipush (v := (-2)) (q := 10) C dX5_way_8 (by decide) rfl ?_
    exact Dn_iret C hX dX5_way_10
abbrev rX5_wind : Room := ({ frames := 3, cells := 0, slots := 0, locals := 77 } : Room)
def jX5_wind_285 : mK := i_iret
set_option maxRecDepth 20000 in
theorem JX5_wind_285 {X : mC} (C : Cx X rX5_wind cX5_wind 10 RX5 (some FieldType.int)) (hX : Rx X) : Den X rX5_wind 10 285 jX5_wind_285 := by
  unfold jX5_wind_285
  exact Dn_iret C hX dX5_wind_285
def jX5_wind_244 : mK := i_loop (fun B244 => i_ild 8 (i_ifeq (i_ild 4 (i_ifne (i_ild 6 (i_ild 7 (i_idiv (jX5_wind_285)))) (i_ild 5 (i_ild 7 (i_idiv (jX5_wind_285)))))) (i_ild 7 (i_ild 8 (i_irem (i_ist 9 (i_ild 8 (i_ist 7 (i_ild 9 (i_ist 8 (B244))))))))))) 1000
set_option maxRecDepth 20000 in
theorem JX5_wind_244 {X : mC} (C : Cx X rX5_wind cX5_wind 10 RX5 (some FieldType.int)) (hX : Rx X) : Den X rX5_wind 10 244 jX5_wind_244 := by
  unfold jX5_wind_244
  refine Dn_loop (fun B244 hB244 => ?_) 1000
  refine Dn_ild (q := 246) C dX5_wind_244 rfl ?_
  refine Dn_ifeq (t := 267) (q := 249) C dX5_wind_246 (by decide) rfl ?_ ?_
  · refine Dn_ild (q := 269) C dX5_wind_267 rfl ?_
    refine Dn_ifne (t := 280) (q := 272) C dX5_wind_269 (by decide) rfl ?_ ?_
    · refine Dn_ild (q := 282) C dX5_wind_280 rfl ?_
      refine Dn_ild (q := 284) C dX5_wind_282 rfl ?_
      refine Dn_idiv (q := 285) C dX5_wind_284 rfl ?_
      exact JX5_wind_285 C hX
    · refine Dn_ild (q := 274) C dX5_wind_272 rfl ?_
      refine Dn_ild (q := 276) C dX5_wind_274 rfl ?_
      refine Dn_idiv (q := 277) C dX5_wind_276 rfl ?_
      refine Dn_goto (t := 285) C dX5_wind_277 (by decide) ?_
      exact JX5_wind_285 C hX
  · refine Dn_ild (q := 251) C dX5_wind_249 rfl ?_
    refine Dn_ild (q := 253) C dX5_wind_251 rfl ?_
    refine Dn_irem (q := 254) C dX5_wind_253 rfl ?_
    refine Dn_ist (q := 256) C dX5_wind_254 (by decide) rfl ?_
    refine Dn_ild (q := 258) C dX5_wind_256 rfl ?_
    refine Dn_ist (q := 260) C dX5_wind_258 (by decide) rfl ?_
    refine Dn_ild (q := 262) C dX5_wind_260 rfl ?_
    refine Dn_ist (q := 264) C dX5_wind_262 (by decide) rfl ?_
    refine Dn_goto (t := 244) C dX5_wind_264 (by decide) ?_
    exact hB244
def jX5_wind_227 (B97 : mK) : mK := i_ib (fun x y => x + y) (i_ist 5 (i_inc 7 1 (B97)))
set_option maxRecDepth 20000 in
theorem JX5_wind_227 {X : mC} (C : Cx X rX5_wind cX5_wind 10 RX5 (some FieldType.int)) (hX : Rx X) (B97 : mK) (hB97 : Den X rX5_wind 10 97 B97) : Den X rX5_wind 10 227 (jX5_wind_227 B97) := by
  unfold jX5_wind_227
  refine Dn_iadd (q := 228) C dX5_wind_227 rfl ?_
  refine Dn_ist (q := 230) C dX5_wind_228 (by decide) rfl ?_
  refine Dn_inc (z := 1) (q := 233) C dX5_wind_230 (by decide) (by decide) rfl ?_
  refine Dn_goto (t := 97) C dX5_wind_233 (by decide) ?_
  exact hB97
def jX5_wind_181 (B97 : mK) (B132 : mK) : mK := i_ib (fun x y => x * y) (i_ist 8 (i_inc 9 1 (B132)))
set_option maxRecDepth 20000 in
theorem JX5_wind_181 {X : mC} (C : Cx X rX5_wind cX5_wind 10 RX5 (some FieldType.int)) (hX : Rx X) (B97 : mK) (hB97 : Den X rX5_wind 10 97 B97) (B132 : mK) (hB132 : Den X rX5_wind 10 132 B132) : Den X rX5_wind 10 181 (jX5_wind_181 B97 B132) := by
  unfold jX5_wind_181
  refine Dn_imul (q := 182) C dX5_wind_181 rfl ?_
  refine Dn_ist (q := 184) C dX5_wind_182 (by decide) rfl ?_
  refine Dn_inc (z := 1) (q := 187) C dX5_wind_184 (by decide) (by decide) rfl ?_
  refine Dn_goto (t := 132) C dX5_wind_187 (by decide) ?_
  exact hB132
def jX5_wind_132 (B97 : mK) : mK := i_loop (fun B132 => i_ild 9 (i_ald 0 (i_get 5 14 (i_icge (i_ild 5 (i_ald 0 (i_ild 1 (i_callV 5 1 FX5_fluteAt (i_ald 0 (i_ald 0 (i_get 5 0 (i_push (.int 0) (i_iald (i_ild 1 (i_ild 2 (i_callV 5 3 FX5_noiseBy (i_ald 0 (i_ild 7 (i_ild 1 (i_ild 2 (i_callV 5 3 FX5_noiseBy (i_ib (fun x y => x + y) (i_icle (i_push (.int 0) ((jX5_wind_227 B97))) (i_ild 8 ((jX5_wind_227 B97)))))))))))))))))))))) (i_ild 8 (i_ald 0 (i_get 5 0 (i_push (.int 0) (i_iald (i_i2l (i_ild 9 (i_call 2 FX5_has (i_ifne (i_ild 7 (i_i2l (i_ild 9 (i_call 2 FX5_has (i_ifeq (i_push (.int 10) (i_ild 3 (i_ib (fun x y => x - y) ((jX5_wind_181 B97 B132))))) (i_ild 3 ((jX5_wind_181 B97 B132)))))))) (i_push (.int 1) ((jX5_wind_181 B97 B132)))))))))))))))) 1000
set_option maxRecDepth 20000 in
theorem JX5_wind_132 {X : mC} (C : Cx X rX5_wind cX5_wind 10 RX5 (some FieldType.int)) (hX : Rx X) (B97 : mK) (hB97 : Den X rX5_wind 10 97 B97) : Den X rX5_wind 10 132 (jX5_wind_132 B97) := by
  unfold jX5_wind_132
  refine Dn_loop (fun B132 hB132 => ?_) 1000
  refine Dn_ild (q := 134) C dX5_wind_132 rfl ?_
  refine Dn_ald_n (i := 0) (q := 135) C dX5_wind_134 rfl rfl ?_
  refine Dn_get (ci := 5) (j := 14) (T := TX5) (N := 25) (Cn := RX5) (q := 138) C rfl iX5 (by decide) q_724 dX5_wind_135 rfl ?_
  refine Dn_icge (t := 190) (q := 141) C dX5_wind_138 (by decide) rfl ?_ ?_
  · refine Dn_ild (q := 192) C dX5_wind_190 rfl ?_
    refine Dn_ald_n (i := 0) (q := 193) C dX5_wind_192 rfl rfl ?_
    refine Dn_ild_n (i := 1) (q := 194) C dX5_wind_193 rfl rfl ?_
    refine Dn_callV (ci := 5) (T := TX5) (N := 25) (q := 197) C rfl (kX5_fluteAt X.l X.G X.tg) q_891 q_888 q_890 q_27 q_50 ⟨rfl, rfl⟩ (by decide +kernel) ⟨by decide, by decide⟩ dX5_wind_194 rfl ?_
    refine Dn_ald_n (i := 0) (q := 198) C dX5_wind_197 rfl rfl ?_
    refine Dn_ald_n (i := 0) (q := 199) C dX5_wind_198 rfl rfl ?_
    refine Dn_get (ci := 5) (j := 0) (T := TX5) (N := 25) (Cn := RX5) (q := 202) C rfl iX5 (by decide) q_710 dX5_wind_199 rfl ?_
    refine Dn_iconst (v := 0) (q := 203) C dX5_wind_202 (by decide) rfl ?_
    refine Dn_iald (q := 204) C dX5_wind_203 rfl ?_
    refine Dn_ild_n (i := 1) (q := 205) C dX5_wind_204 rfl rfl ?_
    refine Dn_ild_n (i := 2) (q := 206) C dX5_wind_205 rfl rfl ?_
    refine Dn_callV (ci := 5) (T := TX5) (N := 25) (q := 209) C rfl (kX5_noiseBy X.l X.G X.tg) q_936 q_933 q_935 q_32 q_50 ⟨rfl, rfl⟩ (by decide +kernel) ⟨by decide, by decide⟩ dX5_wind_206 rfl ?_
    refine Dn_ald_n (i := 0) (q := 210) C dX5_wind_209 rfl rfl ?_
    refine Dn_ild (q := 212) C dX5_wind_210 rfl ?_
    refine Dn_ild_n (i := 1) (q := 213) C dX5_wind_212 rfl rfl ?_
    refine Dn_ild_n (i := 2) (q := 214) C dX5_wind_213 rfl rfl ?_
    refine Dn_callV (ci := 5) (T := TX5) (N := 25) (q := 217) C rfl (kX5_noiseBy X.l X.G X.tg) q_936 q_933 q_935 q_32 q_50 ⟨rfl, rfl⟩ (by decide +kernel) ⟨by decide, by decide⟩ dX5_wind_214 rfl ?_
    refine Dn_iadd (q := 218) C dX5_wind_217 rfl ?_
    refine Dn_icle (t := 226) (q := 221) C dX5_wind_218 (by decide) rfl ?_ ?_
    · refine Dn_iconst (v := 0) (q := 227) C dX5_wind_226 (by decide) rfl ?_
      exact JX5_wind_227 C hX B97 hB97
    · refine Dn_ild (q := 223) C dX5_wind_221 rfl ?_
      refine Dn_goto (t := 227) C dX5_wind_223 (by decide) ?_
      exact JX5_wind_227 C hX B97 hB97
  · refine Dn_ild (q := 143) C dX5_wind_141 rfl ?_
    refine Dn_ald_n (i := 0) (q := 144) C dX5_wind_143 rfl rfl ?_
    refine Dn_get (ci := 5) (j := 0) (T := TX5) (N := 25) (Cn := RX5) (q := 147) C rfl iX5 (by decide) q_710 dX5_wind_144 rfl ?_
    refine Dn_iconst (v := 0) (q := 148) C dX5_wind_147 (by decide) rfl ?_
    refine Dn_iald (q := 149) C dX5_wind_148 rfl ?_
    refine Dn_i2l (q := 150) C dX5_wind_149 rfl ?_
    refine Dn_ild (q := 152) C dX5_wind_150 rfl ?_
    refine Dn_callS (q := 155) C (kX5_has X.l X.G X.tg) q_862 q_860 q_861 q_50 ⟨rfl, rfl⟩ (by decide +kernel) ⟨by decide, by decide⟩ dX5_wind_152 rfl ?_
    refine Dn_ifne (t := 162) (q := 158) C dX5_wind_155 (by decide) rfl ?_ ?_
    · refine Dn_ild (q := 164) C dX5_wind_162 rfl ?_
      refine Dn_i2l (q := 165) C dX5_wind_164 rfl ?_
      refine Dn_ild (q := 167) C dX5_wind_165 rfl ?_
      refine Dn_callS (q := 170) C (kX5_has X.l X.G X.tg) q_862 q_860 q_861 q_50 ⟨rfl, rfl⟩ (by decide +kernel) ⟨by decide, by decide⟩ dX5_wind_167 rfl ?_
      refine Dn_ifeq (t := 177) (q := 173) C dX5_wind_170 (by decide) rfl ?_ ?_
      · refine Dn_bipush (v := 10) (q := 179) C dX5_wind_177 (by decide) rfl ?_
        refine Dn_ild_n (i := 3) (q := 180) C dX5_wind_179 rfl rfl ?_
        refine Dn_isub (q := 181) C dX5_wind_180 rfl ?_
        exact JX5_wind_181 C hX B97 hB97 B132 hB132
      · refine Dn_ild_n (i := 3) (q := 174) C dX5_wind_173 rfl rfl ?_
        refine Dn_goto (t := 181) C dX5_wind_174 (by decide) ?_
        exact JX5_wind_181 C hX B97 hB97 B132 hB132
    · refine Dn_iconst (v := 1) (q := 159) C dX5_wind_158 (by decide) rfl ?_
      refine Dn_goto (t := 181) C dX5_wind_159 (by decide) ?_
      exact JX5_wind_181 C hX B97 hB97 B132 hB132
def jX5_wind_127 (B97 : mK) : mK := i_ist 8 (i_push (.int 0) (i_ist 9 ((jX5_wind_132 B97))))
set_option maxRecDepth 20000 in
theorem JX5_wind_127 {X : mC} (C : Cx X rX5_wind cX5_wind 10 RX5 (some FieldType.int)) (hX : Rx X) (B97 : mK) (hB97 : Den X rX5_wind 10 97 B97) : Den X rX5_wind 10 127 (jX5_wind_127 B97) := by
  unfold jX5_wind_127
  refine Dn_ist (q := 129) C dX5_wind_127 (by decide) rfl ?_
  refine Dn_iconst (v := 0) (q := 130) C dX5_wind_129 (by decide) rfl ?_
  refine Dn_ist (q := 132) C dX5_wind_130 (by decide) rfl ?_
  exact JX5_wind_132 C hX B97 hB97
def jX5_wind_97 : mK := i_loop (fun B97 => i_ild 7 (i_push (.int 1) (i_ald 0 (i_get 5 14 (i_ib (fun x y => x <<< (y &&& 31)) (i_icge (i_ild 5 (i_ist 7 (i_ild 6 (i_ist 8 (jX5_wind_244))))) (i_ild 7 (i_ald 0 (i_get 5 0 (i_push (.int 0) (i_iald (i_push (.int (-1)) (i_ib (fun x y => x ^^^ y) (i_ib (fun x y => x &&& y) (i_ifne (i_push (.int 0) ((jX5_wind_127 B97))) (i_push (.int 1) ((jX5_wind_127 B97)))))))))))))))))) 1000
set_option maxRecDepth 20000 in
theorem JX5_wind_97 {X : mC} (C : Cx X rX5_wind cX5_wind 10 RX5 (some FieldType.int)) (hX : Rx X) : Den X rX5_wind 10 97 jX5_wind_97 := by
  unfold jX5_wind_97
  refine Dn_loop (fun B97 hB97 => ?_) 1000
  refine Dn_ild (q := 99) C dX5_wind_97 rfl ?_
  refine Dn_iconst (v := 1) (q := 100) C dX5_wind_99 (by decide) rfl ?_
  refine Dn_ald_n (i := 0) (q := 101) C dX5_wind_100 rfl rfl ?_
  refine Dn_get (ci := 5) (j := 14) (T := TX5) (N := 25) (Cn := RX5) (q := 104) C rfl iX5 (by decide) q_724 dX5_wind_101 rfl ?_
  refine Dn_ishl (q := 105) C dX5_wind_104 rfl ?_
  refine Dn_icge (t := 236) (q := 108) C dX5_wind_105 (by decide) rfl ?_ ?_
  · refine Dn_ild (q := 238) C dX5_wind_236 rfl ?_
    refine Dn_ist (q := 240) C dX5_wind_238 (by decide) rfl ?_
    refine Dn_ild (q := 242) C dX5_wind_240 rfl ?_
    refine Dn_ist (q := 244) C dX5_wind_242 (by decide) rfl ?_
    exact JX5_wind_244 C hX
  · refine Dn_ild (q := 110) C dX5_wind_108 rfl ?_
    refine Dn_ald_n (i := 0) (q := 111) C dX5_wind_110 rfl rfl ?_
    refine Dn_get (ci := 5) (j := 0) (T := TX5) (N := 25) (Cn := RX5) (q := 114) C rfl iX5 (by decide) q_710 dX5_wind_111 rfl ?_
    refine Dn_iconst (v := 0) (q := 115) C dX5_wind_114 (by decide) rfl ?_
    refine Dn_iald (q := 116) C dX5_wind_115 rfl ?_
    refine Dn_iconst (v := (-1)) (q := 117) C dX5_wind_116 (by decide) rfl ?_
    refine Dn_ixor (q := 118) C dX5_wind_117 rfl ?_
    refine Dn_iand (q := 119) C dX5_wind_118 rfl ?_
    refine Dn_ifne (t := 126) (q := 122) C dX5_wind_119 (by decide) rfl ?_ ?_
    · refine Dn_iconst (v := 0) (q := 127) C dX5_wind_126 (by decide) rfl ?_
      exact JX5_wind_127 C hX B97 hB97
    · refine Dn_iconst (v := 1) (q := 123) C dX5_wind_122 (by decide) rfl ?_
      refine Dn_goto (t := 127) C dX5_wind_123 (by decide) ?_
      exact JX5_wind_127 C hX B97 hB97
def jX5_wind_85 (B53 : mK) : mK := i_ib (fun x y => x * y) (i_ist 6 (i_inc 7 1 (B53)))
set_option maxRecDepth 20000 in
theorem JX5_wind_85 {X : mC} (C : Cx X rX5_wind cX5_wind 10 RX5 (some FieldType.int)) (hX : Rx X) (B53 : mK) (hB53 : Den X rX5_wind 10 53 B53) : Den X rX5_wind 10 85 (jX5_wind_85 B53) := by
  unfold jX5_wind_85
  refine Dn_imul (q := 86) C dX5_wind_85 rfl ?_
  refine Dn_ist (q := 88) C dX5_wind_86 (by decide) rfl ?_
  refine Dn_inc (z := 1) (q := 91) C dX5_wind_88 (by decide) (by decide) rfl ?_
  refine Dn_goto (t := 53) C dX5_wind_91 (by decide) ?_
  exact hB53
def jX5_wind_53 : mK := i_loop (fun B53 => i_ild 7 (i_ald 0 (i_get 5 14 (i_icge (i_push (.int 0) (i_ist 7 (jX5_wind_97))) (i_ild 6 (i_ald 0 (i_get 5 0 (i_push (.int 0) (i_iald (i_i2l (i_ild 7 (i_call 2 FX5_has (i_ifeq (i_push (.int 1) ((jX5_wind_85 B53))) (i_push (.int 10) ((jX5_wind_85 B53)))))))))))))))) 1000
set_option maxRecDepth 20000 in
theorem JX5_wind_53 {X : mC} (C : Cx X rX5_wind cX5_wind 10 RX5 (some FieldType.int)) (hX : Rx X) : Den X rX5_wind 10 53 jX5_wind_53 := by
  unfold jX5_wind_53
  refine Dn_loop (fun B53 hB53 => ?_) 1000
  refine Dn_ild (q := 55) C dX5_wind_53 rfl ?_
  refine Dn_ald_n (i := 0) (q := 56) C dX5_wind_55 rfl rfl ?_
  refine Dn_get (ci := 5) (j := 14) (T := TX5) (N := 25) (Cn := RX5) (q := 59) C rfl iX5 (by decide) q_724 dX5_wind_56 rfl ?_
  refine Dn_icge (t := 94) (q := 62) C dX5_wind_59 (by decide) rfl ?_ ?_
  · refine Dn_iconst (v := 0) (q := 95) C dX5_wind_94 (by decide) rfl ?_
    refine Dn_ist (q := 97) C dX5_wind_95 (by decide) rfl ?_
    exact JX5_wind_97 C hX
  · refine Dn_ild (q := 64) C dX5_wind_62 rfl ?_
    refine Dn_ald_n (i := 0) (q := 65) C dX5_wind_64 rfl rfl ?_
    refine Dn_get (ci := 5) (j := 0) (T := TX5) (N := 25) (Cn := RX5) (q := 68) C rfl iX5 (by decide) q_710 dX5_wind_65 rfl ?_
    refine Dn_iconst (v := 0) (q := 69) C dX5_wind_68 (by decide) rfl ?_
    refine Dn_iald (q := 70) C dX5_wind_69 rfl ?_
    refine Dn_i2l (q := 71) C dX5_wind_70 rfl ?_
    refine Dn_ild (q := 73) C dX5_wind_71 rfl ?_
    refine Dn_callS (q := 76) C (kX5_has X.l X.G X.tg) q_862 q_860 q_861 q_50 ⟨rfl, rfl⟩ (by decide +kernel) ⟨by decide, by decide⟩ dX5_wind_73 rfl ?_
    refine Dn_ifeq (t := 84) (q := 79) C dX5_wind_76 (by decide) rfl ?_ ?_
    · refine Dn_iconst (v := 1) (q := 85) C dX5_wind_84 (by decide) rfl ?_
      exact JX5_wind_85 C hX B53 hB53
    · refine Dn_bipush (v := 10) (q := 81) C dX5_wind_79 (by decide) rfl ?_
      refine Dn_goto (t := 85) C dX5_wind_81 (by decide) ?_
      exact JX5_wind_85 C hX B53 hB53
def jX5_wind_41 : mK := i_push (.int (-3)) (i_iret)
set_option maxRecDepth 20000 in
theorem JX5_wind_41 {X : mC} (C : Cx X rX5_wind cX5_wind 10 RX5 (some FieldType.int)) (hX : Rx X) : Den X rX5_wind 10 41 jX5_wind_41 := by
  unfold jX5_wind_41
  refine Dn_bipush (v := (-3)) (q := 43) C dX5_wind_41 (by decide) rfl ?_
  exact Dn_iret C hX dX5_wind_43
def jX5_wind : mK := i_ald 0 (i_ild 1 (i_callV 5 1 FX5_isPlace (i_ifne (i_ild 2 (i_call 1 FX5_isHour (i_ifeq (jX5_wind_41) (i_ild 3 (i_i2l (i_push (.long 0) (i_push (.long 10) (i_call 3 FX5_in (i_ifeq (jX5_wind_41) (i_ild 4 (i_i2l (i_push (.long 0) (i_push (.long 1) (i_call 3 FX5_in (i_ifne (i_push (.int 0) (i_ist 5 (i_push (.int 1) (i_ist 6 (i_push (.int 0) (i_ist 7 (jX5_wind_53))))))) (jX5_wind_41)))))))))))))))) (i_push (.int (-2)) (i_iret)))))
def FX5_wind : mF := mEnt 10 jX5_wind
set_option maxRecDepth 20000 in
theorem kX5_wind (l : Launch) (G : va_G) (tg : Nat → ClassId) : Ct l G tg yX5_wind cX5_wind 10 (some FieldType.int) rX5_wind FX5_wind := by
  refine Ct.of RX5 (by decide) rfl (fun X C hX => ?_)
  unfold jX5_wind
  refine Dn_ald_n (i := 0) (q := 1) C dX5_wind_0 rfl rfl ?_
  refine Dn_ild_n (i := 1) (q := 2) C dX5_wind_1 rfl rfl ?_
  refine Dn_callV (ci := 5) (T := TX5) (N := 25) (q := 5) C rfl (kX5_isPlace X.l X.G X.tg) q_887 q_884 q_886 q_26 q_50 ⟨rfl, rfl⟩ (by decide +kernel) ⟨by decide, by decide⟩ dX5_wind_2 rfl ?_
  refine Dn_ifne (t := 11) (q := 8) C dX5_wind_5 (by decide) rfl ?_ ?_
  · refine Dn_ild_n (i := 2) (q := 12) C dX5_wind_11 rfl rfl ?_
    refine Dn_callS (q := 15) C (kX5_isHour X.l X.G X.tg) q_927 q_925 q_926 q_50 ⟨rfl, rfl⟩ (by decide +kernel) ⟨by decide, by decide⟩ dX5_wind_12 rfl ?_
    refine Dn_ifeq (t := 41) (q := 18) C dX5_wind_15 (by decide) rfl ?_ ?_
    · exact JX5_wind_41 C hX
    · refine Dn_ild_n (i := 3) (q := 19) C dX5_wind_18 rfl rfl ?_
      refine Dn_i2l (q := 20) C dX5_wind_19 rfl ?_
      refine Dn_lconst (v := 0) (q := 21) C dX5_wind_20 (by decide) rfl ?_
      refine Dn_ldc2 (q := 24) C dX5_wind_21 q_1028 rfl ?_
      refine Dn_callS (q := 27) C (kX5_in X.l X.G X.tg) q_794 q_792 q_793 q_50 ⟨rfl, rfl⟩ (by decide +kernel) ⟨by decide, by decide⟩ dX5_wind_24 rfl ?_
      refine Dn_ifeq (t := 41) (q := 30) C dX5_wind_27 (by decide) rfl ?_ ?_
      · exact JX5_wind_41 C hX
      · refine Dn_ild (q := 32) C dX5_wind_30 rfl ?_
        refine Dn_i2l (q := 33) C dX5_wind_32 rfl ?_
        refine Dn_lconst (v := 0) (q := 34) C dX5_wind_33 (by decide) rfl ?_
        refine Dn_lconst (v := 1) (q := 35) C dX5_wind_34 (by decide) rfl ?_
        refine Dn_callS (q := 38) C (kX5_in X.l X.G X.tg) q_794 q_792 q_793 q_50 ⟨rfl, rfl⟩ (by decide +kernel) ⟨by decide, by decide⟩ dX5_wind_35 rfl ?_
        refine Dn_ifne (t := 44) (q := 41) C dX5_wind_38 (by decide) rfl ?_ ?_
        · refine Dn_iconst (v := 0) (q := 45) C dX5_wind_44 (by decide) rfl ?_
          refine Dn_ist (q := 47) C dX5_wind_45 (by decide) rfl ?_
          refine Dn_iconst (v := 1) (q := 48) C dX5_wind_47 (by decide) rfl ?_
          refine Dn_ist (q := 50) C dX5_wind_48 (by decide) rfl ?_
          refine Dn_iconst (v := 0) (q := 51) C dX5_wind_50 (by decide) rfl ?_
          refine Dn_ist (q := 53) C dX5_wind_51 (by decide) rfl ?_
          exact JX5_wind_53 C hX
        · exact JX5_wind_41 C hX
  · refine Dn_bipush (v := (-2)) (q := 10) C dX5_wind_8 (by decide) rfl ?_
    exact Dn_iret C hX dX5_wind_10
abbrev rX5_seen : Room := ({ frames := 2, cells := 0, slots := 0, locals := 46 } : Room)
def jX5_seen_28 : mK := i_push (.int (-3)) (i_iret)
set_option maxRecDepth 20000 in
theorem JX5_seen_28 {X : mC} (C : Cx X rX5_seen cX5_seen 4 RX5 (some FieldType.int)) (hX : Rx X) : Den X rX5_seen 4 28 jX5_seen_28 := by
  unfold jX5_seen_28
  refine Dn_bipush (v := (-3)) (q := 30) C dX5_seen_28 (by decide) rfl ?_
  exact Dn_iret C hX dX5_seen_30
def jX5_seen : mK := i_ald 0 (i_ild 1 (i_callV 5 1 FX5_isPlace (i_ifne (i_ild 2 (i_call 1 FX5_isHour (i_ifeq (jX5_seen_28) (i_ild 3 (i_i2l (i_push (.long 0) (i_push (.long 1) (i_call 3 FX5_in (i_ifne (i_ald 0 (i_get 5 24 (i_push (.int 8) (i_icne (i_ald 0 (i_get 5 23 (i_push (.int 3) (i_ald 0 (i_get 5 24 (i_ib (fun x y => x * y) (i_ild 1 (i_iast (i_ald 0 (i_get 5 23 (i_push (.int 3) (i_ald 0 (i_get 5 24 (i_ib (fun x y => x * y) (i_push (.int 1) (i_ib (fun x y => x + y) (i_ild 2 (i_iast (i_ald 0 (i_get 5 23 (i_push (.int 3) (i_ald 0 (i_get 5 24 (i_ib (fun x y => x * y) (i_push (.int 2) (i_ib (fun x y => x + y) (i_ild 3 (i_iast (i_ald 0 (i_dup (i_get 5 24 (i_push (.int 1) (i_ib (fun x y => x + y) (i_puti 5 24 (i_ald 0 (i_get 5 24 (i_iret))))))))))))))))))))))))))))))))))))) (i_push (.int (-5)) (i_iret)))))) (jX5_seen_28)))))))))) (i_push (.int (-2)) (i_iret)))))
def FX5_seen : mF := mEnt 4 jX5_seen
set_option maxRecDepth 20000 in
theorem kX5_seen (l : Launch) (G : va_G) (tg : Nat → ClassId) : Ct l G tg yX5_seen cX5_seen 4 (some FieldType.int) rX5_seen FX5_seen := by
  refine Ct.of RX5 (by decide) rfl (fun X C hX => ?_)
  unfold jX5_seen
  refine Dn_ald_n (i := 0) (q := 1) C dX5_seen_0 rfl rfl ?_
  refine Dn_ild_n (i := 1) (q := 2) C dX5_seen_1 rfl rfl ?_
  refine Dn_callV (ci := 5) (T := TX5) (N := 25) (q := 5) C rfl (kX5_isPlace X.l X.G X.tg) q_887 q_884 q_886 q_26 q_50 ⟨rfl, rfl⟩ (by decide +kernel) ⟨by decide, by decide⟩ dX5_seen_2 rfl ?_
  refine Dn_ifne (t := 11) (q := 8) C dX5_seen_5 (by decide) rfl ?_ ?_
  · refine Dn_ild_n (i := 2) (q := 12) C dX5_seen_11 rfl rfl ?_
    refine Dn_callS (q := 15) C (kX5_isHour X.l X.G X.tg) q_927 q_925 q_926 q_50 ⟨rfl, rfl⟩ (by decide +kernel) ⟨by decide, by decide⟩ dX5_seen_12 rfl ?_
    refine Dn_ifeq (t := 28) (q := 18) C dX5_seen_15 (by decide) rfl ?_ ?_
    · exact JX5_seen_28 C hX
    · refine Dn_ild_n (i := 3) (q := 19) C dX5_seen_18 rfl rfl ?_
      refine Dn_i2l (q := 20) C dX5_seen_19 rfl ?_
      refine Dn_lconst (v := 0) (q := 21) C dX5_seen_20 (by decide) rfl ?_
      refine Dn_lconst (v := 1) (q := 22) C dX5_seen_21 (by decide) rfl ?_
      refine Dn_callS (q := 25) C (kX5_in X.l X.G X.tg) q_794 q_792 q_793 q_50 ⟨rfl, rfl⟩ (by decide +kernel) ⟨by decide, by decide⟩ dX5_seen_22 rfl ?_
      refine Dn_ifne (t := 31) (q := 28) C dX5_seen_25 (by decide) rfl ?_ ?_
      · refine Dn_ald_n (i := 0) (q := 32) C dX5_seen_31 rfl rfl ?_
        refine Dn_get (ci := 5) (j := 24) (T := TX5) (N := 25) (Cn := RX5) (q := 35) C rfl iX5 (by decide) q_734 dX5_seen_32 rfl ?_
        refine Dn_bipush (v := 8) (q := 37) C dX5_seen_35 (by decide) rfl ?_
        refine Dn_icne (t := 43) (q := 40) C dX5_seen_37 (by decide) rfl ?_ ?_
        · refine Dn_ald_n (i := 0) (q := 44) C dX5_seen_43 rfl rfl ?_
          refine Dn_get (ci := 5) (j := 23) (T := TX5) (N := 25) (Cn := RX5) (q := 47) C rfl iX5 (by decide) q_733 dX5_seen_44 rfl ?_
          refine Dn_iconst (v := 3) (q := 48) C dX5_seen_47 (by decide) rfl ?_
          refine Dn_ald_n (i := 0) (q := 49) C dX5_seen_48 rfl rfl ?_
          refine Dn_get (ci := 5) (j := 24) (T := TX5) (N := 25) (Cn := RX5) (q := 52) C rfl iX5 (by decide) q_734 dX5_seen_49 rfl ?_
          refine Dn_imul (q := 53) C dX5_seen_52 rfl ?_
          refine Dn_ild_n (i := 1) (q := 54) C dX5_seen_53 rfl rfl ?_
          refine Dn_iast (q := 55) C dX5_seen_54 rfl ?_
          refine Dn_ald_n (i := 0) (q := 56) C dX5_seen_55 rfl rfl ?_
          refine Dn_get (ci := 5) (j := 23) (T := TX5) (N := 25) (Cn := RX5) (q := 59) C rfl iX5 (by decide) q_733 dX5_seen_56 rfl ?_
          refine Dn_iconst (v := 3) (q := 60) C dX5_seen_59 (by decide) rfl ?_
          refine Dn_ald_n (i := 0) (q := 61) C dX5_seen_60 rfl rfl ?_
          refine Dn_get (ci := 5) (j := 24) (T := TX5) (N := 25) (Cn := RX5) (q := 64) C rfl iX5 (by decide) q_734 dX5_seen_61 rfl ?_
          refine Dn_imul (q := 65) C dX5_seen_64 rfl ?_
          refine Dn_iconst (v := 1) (q := 66) C dX5_seen_65 (by decide) rfl ?_
          refine Dn_iadd (q := 67) C dX5_seen_66 rfl ?_
          refine Dn_ild_n (i := 2) (q := 68) C dX5_seen_67 rfl rfl ?_
          refine Dn_iast (q := 69) C dX5_seen_68 rfl ?_
          refine Dn_ald_n (i := 0) (q := 70) C dX5_seen_69 rfl rfl ?_
          refine Dn_get (ci := 5) (j := 23) (T := TX5) (N := 25) (Cn := RX5) (q := 73) C rfl iX5 (by decide) q_733 dX5_seen_70 rfl ?_
          refine Dn_iconst (v := 3) (q := 74) C dX5_seen_73 (by decide) rfl ?_
          refine Dn_ald_n (i := 0) (q := 75) C dX5_seen_74 rfl rfl ?_
          refine Dn_get (ci := 5) (j := 24) (T := TX5) (N := 25) (Cn := RX5) (q := 78) C rfl iX5 (by decide) q_734 dX5_seen_75 rfl ?_
          refine Dn_imul (q := 79) C dX5_seen_78 rfl ?_
          refine Dn_iconst (v := 2) (q := 80) C dX5_seen_79 (by decide) rfl ?_
          refine Dn_iadd (q := 81) C dX5_seen_80 rfl ?_
          refine Dn_ild_n (i := 3) (q := 82) C dX5_seen_81 rfl rfl ?_
          refine Dn_iast (q := 83) C dX5_seen_82 rfl ?_
          refine Dn_ald_n (i := 0) (q := 84) C dX5_seen_83 rfl rfl ?_
          refine Dn_dup (q := 85) C dX5_seen_84 rfl ?_
          refine Dn_get (ci := 5) (j := 24) (T := TX5) (N := 25) (Cn := RX5) (q := 88) C rfl iX5 (by decide) q_734 dX5_seen_85 rfl ?_
          refine Dn_iconst (v := 1) (q := 89) C dX5_seen_88 (by decide) rfl ?_
          refine Dn_iadd (q := 90) C dX5_seen_89 rfl ?_
          refine Dn_puti (ci := 5) (j := 24) (T := TX5) (N := 25) (Cn := RX5) (q := 93) C rfl iX5 tyX5 tyX5_ok nmX5 (by decide) q_734 rfl (by decide +kernel) dX5_seen_90 rfl ?_
          refine Dn_ald_n (i := 0) (q := 94) C dX5_seen_93 rfl rfl ?_
          refine Dn_get (ci := 5) (j := 24) (T := TX5) (N := 25) (Cn := RX5) (q := 97) C rfl iX5 (by decide) q_734 dX5_seen_94 rfl ?_
          exact Dn_iret C hX dX5_seen_97
        · refine Dn_bipush (v := (-5)) (q := 42) C dX5_seen_40 (by decide) rfl ?_
          exact Dn_iret C hX dX5_seen_42
      · exact JX5_seen_28 C hX
  · refine Dn_bipush (v := (-2)) (q := 10) C dX5_seen_8 (by decide) rfl ?_
    exact Dn_iret C hX dX5_seen_10
abbrev rX5_forget : Room := ({ frames := 0, cells := 0, slots := 0, locals := 0 } : Room)
def jX5_forget : mK := i_ald 0 (i_get 5 24 (i_ist 1 (i_ald 0 (i_push (.int 0) (i_puti 5 24 (i_ild 1 (i_iret)))))))
def FX5_forget : mF := mEnt 2 jX5_forget
set_option maxRecDepth 20000 in
theorem kX5_forget (l : Launch) (G : va_G) (tg : Nat → ClassId) : Ct l G tg yX5_forget cX5_forget 2 (some FieldType.int) rX5_forget FX5_forget := by
  refine Ct.of RX5 (by decide) rfl (fun X C hX => ?_)
  unfold jX5_forget
  refine Dn_ald_n (i := 0) (q := 1) C dX5_forget_0 rfl rfl ?_
  refine Dn_get (ci := 5) (j := 24) (T := TX5) (N := 25) (Cn := RX5) (q := 4) C rfl iX5 (by decide) q_734 dX5_forget_1 rfl ?_
  refine Dn_ist_n (i := 1) (q := 5) C dX5_forget_4 rfl (by decide) rfl ?_
  refine Dn_ald_n (i := 0) (q := 6) C dX5_forget_5 rfl rfl ?_
  refine Dn_iconst (v := 0) (q := 7) C dX5_forget_6 (by decide) rfl ?_
  refine Dn_puti (ci := 5) (j := 24) (T := TX5) (N := 25) (Cn := RX5) (q := 10) C rfl iX5 tyX5 tyX5_ok nmX5 (by decide) q_734 rfl (by decide +kernel) dX5_forget_7 rfl ?_
  refine Dn_ild_n (i := 1) (q := 11) C dX5_forget_10 rfl rfl ?_
  exact Dn_iret C hX dX5_forget_11
abbrev rX5_isSoBy : Room := ({ frames := 4, cells := 0, slots := 0, locals := 100 } : Room)
def jX5_isSoBy_66 (B4 : mK) : mK := i_ist 2 (i_inc 3 1 (B4))
set_option maxRecDepth 20000 in
theorem JX5_isSoBy_66 {X : mC} (C : Cx X rX5_isSoBy cX5_isSoBy 4 RX5 (some FieldType.boolean)) (hX : Rx X) (B4 : mK) (hB4 : Den X rX5_isSoBy 4 4 B4) : Den X rX5_isSoBy 4 66 (jX5_isSoBy_66 B4) := by
  unfold jX5_isSoBy_66
  refine Dn_ist_n (i := 2) (q := 67) C dX5_isSoBy_66 rfl (by decide) rfl ?_
  refine Dn_inc (z := 1) (q := 70) C dX5_isSoBy_67 (by decide) (by decide) rfl ?_
  refine Dn_goto (t := 4) C dX5_isSoBy_70 (by decide) ?_
  exact hB4
def jX5_isSoBy_65 (B4 : mK) : mK := i_push (.int 0) ((jX5_isSoBy_66 B4))
set_option maxRecDepth 20000 in
theorem JX5_isSoBy_65 {X : mC} (C : Cx X rX5_isSoBy cX5_isSoBy 4 RX5 (some FieldType.boolean)) (hX : Rx X) (B4 : mK) (hB4 : Den X rX5_isSoBy 4 4 B4) : Den X rX5_isSoBy 4 65 (jX5_isSoBy_65 B4) := by
  unfold jX5_isSoBy_65
  refine Dn_iconst (v := 0) (q := 66) C dX5_isSoBy_65 (by decide) rfl ?_
  exact JX5_isSoBy_66 C hX B4 hB4
def jX5_isSoBy_58 (B4 : mK) : mK := i_icne ((jX5_isSoBy_65 B4)) (i_push (.int 1) ((jX5_isSoBy_66 B4)))
set_option maxRecDepth 20000 in
theorem JX5_isSoBy_58 {X : mC} (C : Cx X rX5_isSoBy cX5_isSoBy 4 RX5 (some FieldType.boolean)) (hX : Rx X) (B4 : mK) (hB4 : Den X rX5_isSoBy 4 4 B4) : Den X rX5_isSoBy 4 58 (jX5_isSoBy_58 B4) := by
  unfold jX5_isSoBy_58
  refine Dn_icne (t := 65) (q := 61) C dX5_isSoBy_58 (by decide) rfl ?_ ?_
  · exact JX5_isSoBy_65 C hX B4 hB4
  · refine Dn_iconst (v := 1) (q := 62) C dX5_isSoBy_61 (by decide) rfl ?_
    refine Dn_goto (t := 66) C dX5_isSoBy_62 (by decide) ?_
    exact JX5_isSoBy_66 C hX B4 hB4
def jX5_isSoBy_4 : mK := i_loop (fun B4 => i_ild 3 (i_ald 0 (i_get 5 24 (i_icge (i_ild 2 (i_nret .boolean)) (i_ild 2 (i_ifeq ((jX5_isSoBy_65 B4)) (i_ald 0 (i_ild 1 (i_ald 0 (i_get 5 23 (i_push (.int 3) (i_ild 3 (i_ib (fun x y => x * y) (i_iald (i_ald 0 (i_get 5 23 (i_push (.int 3) (i_ild 3 (i_ib (fun x y => x * y) (i_push (.int 1) (i_ib (fun x y => x + y) (i_iald (i_callV 5 3 FX5_isHeard (i_ald 0 (i_get 5 23 (i_push (.int 3) (i_ild 3 (i_ib (fun x y => x * y) (i_push (.int 2) (i_ib (fun x y => x + y) (i_iald (i_push (.int 1) (i_icne (i_push (.int 0) ((jX5_isSoBy_58 B4))) (i_push (.int 1) ((jX5_isSoBy_58 B4)))))))))))))))))))))))))))))))))))) 1000
set_option maxRecDepth 20000 in
theorem JX5_isSoBy_4 {X : mC} (C : Cx X rX5_isSoBy cX5_isSoBy 4 RX5 (some FieldType.boolean)) (hX : Rx X) : Den X rX5_isSoBy 4 4 jX5_isSoBy_4 := by
  unfold jX5_isSoBy_4
  refine Dn_loop (fun B4 hB4 => ?_) 1000
  refine Dn_ild_n (i := 3) (q := 5) C dX5_isSoBy_4 rfl rfl ?_
  refine Dn_ald_n (i := 0) (q := 6) C dX5_isSoBy_5 rfl rfl ?_
  refine Dn_get (ci := 5) (j := 24) (T := TX5) (N := 25) (Cn := RX5) (q := 9) C rfl iX5 (by decide) q_734 dX5_isSoBy_6 rfl ?_
  refine Dn_icge (t := 73) (q := 12) C dX5_isSoBy_9 (by decide) rfl ?_ ?_
  · refine Dn_ild_n (i := 2) (q := 74) C dX5_isSoBy_73 rfl rfl ?_
    exact Dn_nret C hX dX5_isSoBy_74
  · refine Dn_ild_n (i := 2) (q := 13) C dX5_isSoBy_12 rfl rfl ?_
    refine Dn_ifeq (t := 65) (q := 16) C dX5_isSoBy_13 (by decide) rfl ?_ ?_
    · exact JX5_isSoBy_65 C hX B4 hB4
    · refine Dn_ald_n (i := 0) (q := 17) C dX5_isSoBy_16 rfl rfl ?_
      refine Dn_ild_n (i := 1) (q := 18) C dX5_isSoBy_17 rfl rfl ?_
      refine Dn_ald_n (i := 0) (q := 19) C dX5_isSoBy_18 rfl rfl ?_
      refine Dn_get (ci := 5) (j := 23) (T := TX5) (N := 25) (Cn := RX5) (q := 22) C rfl iX5 (by decide) q_733 dX5_isSoBy_19 rfl ?_
      refine Dn_iconst (v := 3) (q := 23) C dX5_isSoBy_22 (by decide) rfl ?_
      refine Dn_ild_n (i := 3) (q := 24) C dX5_isSoBy_23 rfl rfl ?_
      refine Dn_imul (q := 25) C dX5_isSoBy_24 rfl ?_
      refine Dn_iald (q := 26) C dX5_isSoBy_25 rfl ?_
      refine Dn_ald_n (i := 0) (q := 27) C dX5_isSoBy_26 rfl rfl ?_
      refine Dn_get (ci := 5) (j := 23) (T := TX5) (N := 25) (Cn := RX5) (q := 30) C rfl iX5 (by decide) q_733 dX5_isSoBy_27 rfl ?_
      refine Dn_iconst (v := 3) (q := 31) C dX5_isSoBy_30 (by decide) rfl ?_
      refine Dn_ild_n (i := 3) (q := 32) C dX5_isSoBy_31 rfl rfl ?_
      refine Dn_imul (q := 33) C dX5_isSoBy_32 rfl ?_
      refine Dn_iconst (v := 1) (q := 34) C dX5_isSoBy_33 (by decide) rfl ?_
      refine Dn_iadd (q := 35) C dX5_isSoBy_34 rfl ?_
      refine Dn_iald (q := 36) C dX5_isSoBy_35 rfl ?_
      refine Dn_callV (ci := 5) (T := TX5) (N := 25) (q := 39) C rfl (kX5_isHeard X.l X.G X.tg) q_944 q_941 q_943 q_33 q_50 ⟨rfl, rfl⟩ (by decide +kernel) ⟨by decide, by decide⟩ dX5_isSoBy_36 rfl ?_
      refine Dn_ald_n (i := 0) (q := 40) C dX5_isSoBy_39 rfl rfl ?_
      refine Dn_get (ci := 5) (j := 23) (T := TX5) (N := 25) (Cn := RX5) (q := 43) C rfl iX5 (by decide) q_733 dX5_isSoBy_40 rfl ?_
      refine Dn_iconst (v := 3) (q := 44) C dX5_isSoBy_43 (by decide) rfl ?_
      refine Dn_ild_n (i := 3) (q := 45) C dX5_isSoBy_44 rfl rfl ?_
      refine Dn_imul (q := 46) C dX5_isSoBy_45 rfl ?_
      refine Dn_iconst (v := 2) (q := 47) C dX5_isSoBy_46 (by decide) rfl ?_
      refine Dn_iadd (q := 48) C dX5_isSoBy_47 rfl ?_
      refine Dn_iald (q := 49) C dX5_isSoBy_48 rfl ?_
      refine Dn_iconst (v := 1) (q := 50) C dX5_isSoBy_49 (by decide) rfl ?_
      refine Dn_icne (t := 57) (q := 53) C dX5_isSoBy_50 (by decide) rfl ?_ ?_
      · refine Dn_iconst (v := 0) (q := 58) C dX5_isSoBy_57 (by decide) rfl ?_
        exact JX5_isSoBy_58 C hX B4 hB4
      · refine Dn_iconst (v := 1) (q := 54) C dX5_isSoBy_53 (by decide) rfl ?_
        refine Dn_goto (t := 58) C dX5_isSoBy_54 (by decide) ?_
        exact JX5_isSoBy_58 C hX B4 hB4
def jX5_isSoBy : mK := i_push (.int 1) (i_ist 2 (i_push (.int 0) (i_ist 3 (jX5_isSoBy_4))))
def FX5_isSoBy : mF := mEnt 4 jX5_isSoBy
set_option maxRecDepth 20000 in
theorem kX5_isSoBy (l : Launch) (G : va_G) (tg : Nat → ClassId) : Ct l G tg yX5_isSoBy cX5_isSoBy 4 (some FieldType.boolean) rX5_isSoBy FX5_isSoBy := by
  refine Ct.of RX5 (by decide) rfl (fun X C hX => ?_)
  unfold jX5_isSoBy
  refine Dn_iconst (v := 1) (q := 1) C dX5_isSoBy_0 (by decide) rfl ?_
  refine Dn_ist_n (i := 2) (q := 2) C dX5_isSoBy_1 rfl (by decide) rfl ?_
  refine Dn_iconst (v := 0) (q := 3) C dX5_isSoBy_2 (by decide) rfl ?_
  refine Dn_ist_n (i := 3) (q := 4) C dX5_isSoBy_3 rfl (by decide) rfl ?_
  exact JX5_isSoBy_4 C hX
abbrev rX5_played : Room := ({ frames := 5, cells := 0, slots := 0, locals := 123 } : Room)
def jX5_played_96 : mK := i_iret
set_option maxRecDepth 20000 in
theorem JX5_played_96 {X : mC} (C : Cx X rX5_played cX5_played 6 RX5 (some FieldType.int)) (hX : Rx X) : Den X rX5_played 6 96 jX5_played_96 := by
  unfold jX5_played_96
  exact Dn_iret C hX dX5_played_96
def jX5_played_71 (B27 : mK) : mK := i_ib (fun x y => x &&& y) (i_ist 3 (i_inc 4 1 (B27)))
set_option maxRecDepth 20000 in
theorem JX5_played_71 {X : mC} (C : Cx X rX5_played cX5_played 6 RX5 (some FieldType.int)) (hX : Rx X) (B27 : mK) (hB27 : Den X rX5_played 6 27 B27) : Den X rX5_played 6 71 (jX5_played_71 B27) := by
  unfold jX5_played_71
  refine Dn_iand (q := 72) C dX5_played_71 rfl ?_
  refine Dn_ist_n (i := 3) (q := 73) C dX5_played_72 rfl (by decide) rfl ?_
  refine Dn_inc (z := 1) (q := 76) C dX5_played_73 (by decide) (by decide) rfl ?_
  refine Dn_goto (t := 27) C dX5_played_76 (by decide) ?_
  exact hB27
def jX5_played_57 (B27 : mK) : mK := i_ib (fun x y => x + y) (i_ist 2 (i_ild 3 (i_ild 5 (i_ifeq (i_push (.int (-1)) ((jX5_played_71 B27))) (i_ild 4 ((jX5_played_71 B27)))))))
set_option maxRecDepth 20000 in
theorem JX5_played_57 {X : mC} (C : Cx X rX5_played cX5_played 6 RX5 (some FieldType.int)) (hX : Rx X) (B27 : mK) (hB27 : Den X rX5_played 6 27 B27) : Den X rX5_played 6 57 (jX5_played_57 B27) := by
  unfold jX5_played_57
  refine Dn_iadd (q := 58) C dX5_played_57 rfl ?_
  refine Dn_ist_n (i := 2) (q := 59) C dX5_played_58 rfl (by decide) rfl ?_
  refine Dn_ild_n (i := 3) (q := 60) C dX5_played_59 rfl rfl ?_
  refine Dn_ild (q := 62) C dX5_played_60 rfl ?_
  refine Dn_ifeq (t := 70) (q := 65) C dX5_played_62 (by decide) rfl ?_ ?_
  · refine Dn_iconst (v := (-1)) (q := 71) C dX5_played_70 (by decide) rfl ?_
    exact JX5_played_71 C hX B27 hB27
  · refine Dn_ild (q := 67) C dX5_played_65 rfl ?_
    refine Dn_goto (t := 71) C dX5_played_67 (by decide) ?_
    exact JX5_played_71 C hX B27 hB27
def jX5_played_27 : mK := i_loop (fun B27 => i_ild 4 (i_push (.int 1) (i_ald 0 (i_get 5 14 (i_ib (fun x y => x <<< (y &&& 31)) (i_icge (i_ild 1 (i_ifne (i_ild 2 (i_ifne (i_ild 3 (jX5_played_96)) (i_push (.int (-1)) (jX5_played_96)))) (i_ild 2 (jX5_played_96)))) (i_ald 0 (i_ild 4 (i_callV 5 1 FX5_isSoBy (i_ist 5 (i_ild 2 (i_ild 5 (i_ifeq (i_push (.int 0) ((jX5_played_57 B27))) (i_push (.int 1) ((jX5_played_57 B27)))))))))))))))) 1000
set_option maxRecDepth 20000 in
theorem JX5_played_27 {X : mC} (C : Cx X rX5_played cX5_played 6 RX5 (some FieldType.int)) (hX : Rx X) : Den X rX5_played 6 27 jX5_played_27 := by
  unfold jX5_played_27
  refine Dn_loop (fun B27 hB27 => ?_) 1000
  refine Dn_ild (q := 29) C dX5_played_27 rfl ?_
  refine Dn_iconst (v := 1) (q := 30) C dX5_played_29 (by decide) rfl ?_
  refine Dn_ald_n (i := 0) (q := 31) C dX5_played_30 rfl rfl ?_
  refine Dn_get (ci := 5) (j := 14) (T := TX5) (N := 25) (Cn := RX5) (q := 34) C rfl iX5 (by decide) q_724 dX5_played_31 rfl ?_
  refine Dn_ishl (q := 35) C dX5_played_34 rfl ?_
  refine Dn_icge (t := 79) (q := 38) C dX5_played_35 (by decide) rfl ?_ ?_
  · refine Dn_ild_n (i := 1) (q := 80) C dX5_played_79 rfl rfl ?_
    refine Dn_ifne (t := 87) (q := 83) C dX5_played_80 (by decide) rfl ?_ ?_
    · refine Dn_ild_n (i := 2) (q := 88) C dX5_played_87 rfl rfl ?_
      refine Dn_ifne (t := 95) (q := 91) C dX5_played_88 (by decide) rfl ?_ ?_
      · refine Dn_ild_n (i := 3) (q := 96) C dX5_played_95 rfl rfl ?_
        exact JX5_played_96 C hX
      · refine Dn_iconst (v := (-1)) (q := 92) C dX5_played_91 (by decide) rfl ?_
        refine Dn_goto (t := 96) C dX5_played_92 (by decide) ?_
        exact JX5_played_96 C hX
    · refine Dn_ild_n (i := 2) (q := 84) C dX5_played_83 rfl rfl ?_
      refine Dn_goto (t := 96) C dX5_played_84 (by decide) ?_
      exact JX5_played_96 C hX
  · refine Dn_ald_n (i := 0) (q := 39) C dX5_played_38 rfl rfl ?_
    refine Dn_ild (q := 41) C dX5_played_39 rfl ?_
    refine Dn_callV (ci := 5) (T := TX5) (N := 25) (q := 44) C rfl (kX5_isSoBy X.l X.G X.tg) q_1044 q_1041 q_1043 q_42 q_50 ⟨rfl, rfl⟩ (by decide +kernel) ⟨by decide, by decide⟩ dX5_played_41 rfl ?_
    refine Dn_ist (q := 46) C dX5_played_44 (by decide) rfl ?_
    refine Dn_ild_n (i := 2) (q := 47) C dX5_played_46 rfl rfl ?_
    refine Dn_ild (q := 49) C dX5_played_47 rfl ?_
    refine Dn_ifeq (t := 56) (q := 52) C dX5_played_49 (by decide) rfl ?_ ?_
    · refine Dn_iconst (v := 0) (q := 57) C dX5_played_56 (by decide) rfl ?_
      exact JX5_played_57 C hX B27 hB27
    · refine Dn_iconst (v := 1) (q := 53) C dX5_played_52 (by decide) rfl ?_
      refine Dn_goto (t := 57) C dX5_played_53 (by decide) ?_
      exact JX5_played_57 C hX B27 hB27
def jX5_played : mK := i_ild 1 (i_i2l (i_push (.long 0) (i_push (.long 1) (i_call 3 FX5_in (i_ifne (i_push (.int 0) (i_ist 2 (i_push (.int 1) (i_ald 0 (i_get 5 14 (i_ib (fun x y => x <<< (y &&& 31)) (i_push (.int 1) (i_ib (fun x y => x - y) (i_ist 3 (i_push (.int 0) (i_ist 4 (jX5_played_27)))))))))))) (i_push (.int (-3)) (i_iret)))))))
def FX5_played : mF := mEnt 6 jX5_played
set_option maxRecDepth 20000 in
theorem kX5_played (l : Launch) (G : va_G) (tg : Nat → ClassId) : Ct l G tg yX5_played cX5_played 6 (some FieldType.int) rX5_played FX5_played := by
  refine Ct.of RX5 (by decide) rfl (fun X C hX => ?_)
  unfold jX5_played
  refine Dn_ild_n (i := 1) (q := 1) C dX5_played_0 rfl rfl ?_
  refine Dn_i2l (q := 2) C dX5_played_1 rfl ?_
  refine Dn_lconst (v := 0) (q := 3) C dX5_played_2 (by decide) rfl ?_
  refine Dn_lconst (v := 1) (q := 4) C dX5_played_3 (by decide) rfl ?_
  refine Dn_callS (q := 7) C (kX5_in X.l X.G X.tg) q_794 q_792 q_793 q_50 ⟨rfl, rfl⟩ (by decide +kernel) ⟨by decide, by decide⟩ dX5_played_4 rfl ?_
  refine Dn_ifne (t := 13) (q := 10) C dX5_played_7 (by decide) rfl ?_ ?_
  · refine Dn_iconst (v := 0) (q := 14) C dX5_played_13 (by decide) rfl ?_
    refine Dn_ist_n (i := 2) (q := 15) C dX5_played_14 rfl (by decide) rfl ?_
    refine Dn_iconst (v := 1) (q := 16) C dX5_played_15 (by decide) rfl ?_
    refine Dn_ald_n (i := 0) (q := 17) C dX5_played_16 rfl rfl ?_
    refine Dn_get (ci := 5) (j := 14) (T := TX5) (N := 25) (Cn := RX5) (q := 20) C rfl iX5 (by decide) q_724 dX5_played_17 rfl ?_
    refine Dn_ishl (q := 21) C dX5_played_20 rfl ?_
    refine Dn_iconst (v := 1) (q := 22) C dX5_played_21 (by decide) rfl ?_
    refine Dn_isub (q := 23) C dX5_played_22 rfl ?_
    refine Dn_ist_n (i := 3) (q := 24) C dX5_played_23 rfl (by decide) rfl ?_
    refine Dn_iconst (v := 0) (q := 25) C dX5_played_24 (by decide) rfl ?_
    refine Dn_ist (q := 27) C dX5_played_25 (by decide) rfl ?_
    exact JX5_played_27 C hX
  · refine Dn_bipush (v := (-3)) (q := 12) C dX5_played_10 (by decide) rfl ?_
    exact Dn_iret C hX dX5_played_12
abbrev rX5_count : Room := ({ frames := 0, cells := 0, slots := 0, locals := 0 } : Room)
def jX5_count : mK := i_ild 1 (i_sw 0 8 [i_ald 0 (i_get 5 6 (i_iret)), i_ald 0 (i_get 5 7 (i_iret)), i_ald 0 (i_get 5 8 (i_iret)), i_ald 0 (i_get 5 14 (i_iret)), i_ald 0 (i_get 5 0 (i_push (.int 0) (i_iald (i_iret)))), i_ald 0 (i_get 5 0 (i_push (.int 2) (i_iald (i_iret)))), i_ald 0 (i_get 5 0 (i_push (.int 1) (i_iald (i_iret)))), i_ald 0 (i_get 5 24 (i_iret)), i_ald 0 (i_get 5 3 (i_iret))] (i_push (.int (-3)) (i_iret)))
def FX5_count : mF := mEnt 2 jX5_count
set_option maxRecDepth 20000 in
theorem kX5_count (l : Launch) (G : va_G) (tg : Nat → ClassId) : Ct l G tg yX5_count cX5_count 2 (some FieldType.int) rX5_count FX5_count := by
  refine Ct.of RX5 (by decide) rfl (fun X C hX => ?_)
  unfold jX5_count
  refine Dn_ild_n (i := 1) (q := 1) C dX5_count_0 rfl rfl ?_
  refine Dn_sw (td := 103) (ts := [52, 57, 62, 67, 72, 79, 86, 93, 98]) C dX5_count_1 (by decide) (by decide +kernel) rfl ?_ ?_
  · refine Dn_bipush (v := (-3)) (q := 105) C dX5_count_103 (by decide) rfl ?_
    exact Dn_iret C hX dX5_count_105
  · show DenL _ _ _ _ _
    refine DenL_cons ?_ ?_
    · refine Dn_ald_n (i := 0) (q := 53) C dX5_count_52 rfl rfl ?_
      refine Dn_get (ci := 5) (j := 6) (T := TX5) (N := 25) (Cn := RX5) (q := 56) C rfl iX5 (by decide) q_716 dX5_count_53 rfl ?_
      exact Dn_iret C hX dX5_count_56
    refine DenL_cons ?_ ?_
    · refine Dn_ald_n (i := 0) (q := 58) C dX5_count_57 rfl rfl ?_
      refine Dn_get (ci := 5) (j := 7) (T := TX5) (N := 25) (Cn := RX5) (q := 61) C rfl iX5 (by decide) q_717 dX5_count_58 rfl ?_
      exact Dn_iret C hX dX5_count_61
    refine DenL_cons ?_ ?_
    · refine Dn_ald_n (i := 0) (q := 63) C dX5_count_62 rfl rfl ?_
      refine Dn_get (ci := 5) (j := 8) (T := TX5) (N := 25) (Cn := RX5) (q := 66) C rfl iX5 (by decide) q_718 dX5_count_63 rfl ?_
      exact Dn_iret C hX dX5_count_66
    refine DenL_cons ?_ ?_
    · refine Dn_ald_n (i := 0) (q := 68) C dX5_count_67 rfl rfl ?_
      refine Dn_get (ci := 5) (j := 14) (T := TX5) (N := 25) (Cn := RX5) (q := 71) C rfl iX5 (by decide) q_724 dX5_count_68 rfl ?_
      exact Dn_iret C hX dX5_count_71
    refine DenL_cons ?_ ?_
    · refine Dn_ald_n (i := 0) (q := 73) C dX5_count_72 rfl rfl ?_
      refine Dn_get (ci := 5) (j := 0) (T := TX5) (N := 25) (Cn := RX5) (q := 76) C rfl iX5 (by decide) q_710 dX5_count_73 rfl ?_
      refine Dn_iconst (v := 0) (q := 77) C dX5_count_76 (by decide) rfl ?_
      refine Dn_iald (q := 78) C dX5_count_77 rfl ?_
      exact Dn_iret C hX dX5_count_78
    refine DenL_cons ?_ ?_
    · refine Dn_ald_n (i := 0) (q := 80) C dX5_count_79 rfl rfl ?_
      refine Dn_get (ci := 5) (j := 0) (T := TX5) (N := 25) (Cn := RX5) (q := 83) C rfl iX5 (by decide) q_710 dX5_count_80 rfl ?_
      refine Dn_iconst (v := 2) (q := 84) C dX5_count_83 (by decide) rfl ?_
      refine Dn_iald (q := 85) C dX5_count_84 rfl ?_
      exact Dn_iret C hX dX5_count_85
    refine DenL_cons ?_ ?_
    · refine Dn_ald_n (i := 0) (q := 87) C dX5_count_86 rfl rfl ?_
      refine Dn_get (ci := 5) (j := 0) (T := TX5) (N := 25) (Cn := RX5) (q := 90) C rfl iX5 (by decide) q_710 dX5_count_87 rfl ?_
      refine Dn_iconst (v := 1) (q := 91) C dX5_count_90 (by decide) rfl ?_
      refine Dn_iald (q := 92) C dX5_count_91 rfl ?_
      exact Dn_iret C hX dX5_count_92
    refine DenL_cons ?_ ?_
    · refine Dn_ald_n (i := 0) (q := 94) C dX5_count_93 rfl rfl ?_
      refine Dn_get (ci := 5) (j := 24) (T := TX5) (N := 25) (Cn := RX5) (q := 97) C rfl iX5 (by decide) q_734 dX5_count_94 rfl ?_
      exact Dn_iret C hX dX5_count_97
    refine DenL_cons ?_ ?_
    · refine Dn_ald_n (i := 0) (q := 99) C dX5_count_98 rfl rfl ?_
      refine Dn_get (ci := 5) (j := 3) (T := TX5) (N := 25) (Cn := RX5) (q := 102) C rfl iX5 (by decide) q_713 dX5_count_99 rfl ?_
      exact Dn_iret C hX dX5_count_102
    exact DenL_nil
