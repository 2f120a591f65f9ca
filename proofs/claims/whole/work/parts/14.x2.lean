abbrev rX2_wordOf : Room := ({ frames := 0, cells := 0, slots := 0, locals := 0 } : Room)
def jX2_wordOf : mK := i_ild 0 (i_sw 0 10 [i_push (.ref (1000 + 0)) (i_aret), i_push (.ref (1000 + 1)) (i_aret), i_push (.ref (1000 + 2)) (i_aret), i_push (.ref (1000 + 3)) (i_aret), i_push (.ref (1000 + 4)) (i_aret), i_push (.ref (1000 + 5)) (i_aret), i_push (.ref (1000 + 6)) (i_aret), i_push (.ref (1000 + 7)) (i_aret), i_push (.ref (1000 + 8)) (i_aret), i_push (.ref (1000 + 9)) (i_aret), i_push (.ref (1000 + 10)) (i_aret)] (i_push (.ref (1000 + 11)) (i_aret)))
def FX2_wordOf : mF := mEnt 1 jX2_wordOf
set_option maxRecDepth 20000 in
theorem kX2_wordOf (l : Launch) (G : va_G) (tg : Nat → ClassId) : Ct l G tg yX2_wordOf cX2_wordOf 1 (some (FieldType.object "java/lang/String")) rX2_wordOf FX2_wordOf := by
  refine Ct.of RX2 (by decide) rfl (fun X C hX => ?_)
  unfold jX2_wordOf
  refine Dn_ild_n (i := 0) (q := 1) C dX2_wordOf_0 rfl rfl ?_
  refine Dn_sw (td := 93) (ts := [60, 63, 66, 69, 72, 75, 78, 81, 84, 87, 90]) C dX2_wordOf_1 (by decide) (by decide +kernel) rfl ?_ ?_
  · refine Dn_ldcS (i := 11) (q := 95) C (by decide) rfl dX2_wordOf_93 rfl ?_
    exact Dn_aret C hX dX2_wordOf_95
  · show DenL _ _ _ _ _
    refine DenL_cons ?_ ?_
    · refine Dn_ldcS (i := 0) (q := 62) C (by decide) rfl dX2_wordOf_60 rfl ?_
      exact Dn_aret C hX dX2_wordOf_62
    refine DenL_cons ?_ ?_
    · refine Dn_ldcS (i := 1) (q := 65) C (by decide) rfl dX2_wordOf_63 rfl ?_
      exact Dn_aret C hX dX2_wordOf_65
    refine DenL_cons ?_ ?_
    · refine Dn_ldcS (i := 2) (q := 68) C (by decide) rfl dX2_wordOf_66 rfl ?_
      exact Dn_aret C hX dX2_wordOf_68
    refine DenL_cons ?_ ?_
    · refine Dn_ldcS (i := 3) (q := 71) C (by decide) rfl dX2_wordOf_69 rfl ?_
      exact Dn_aret C hX dX2_wordOf_71
    refine DenL_cons ?_ ?_
    · refine Dn_ldcS (i := 4) (q := 74) C (by decide) rfl dX2_wordOf_72 rfl ?_
      exact Dn_aret C hX dX2_wordOf_74
    refine DenL_cons ?_ ?_
    · refine Dn_ldcS (i := 5) (q := 77) C (by decide) rfl dX2_wordOf_75 rfl ?_
      exact Dn_aret C hX dX2_wordOf_77
    refine DenL_cons ?_ ?_
    · refine Dn_ldcS (i := 6) (q := 80) C (by decide) rfl dX2_wordOf_78 rfl ?_
      exact Dn_aret C hX dX2_wordOf_80
    refine DenL_cons ?_ ?_
    · refine Dn_ldcS (i := 7) (q := 83) C (by decide) rfl dX2_wordOf_81 rfl ?_
      exact Dn_aret C hX dX2_wordOf_83
    refine DenL_cons ?_ ?_
    · refine Dn_ldcS (i := 8) (q := 86) C (by decide) rfl dX2_wordOf_84 rfl ?_
      exact Dn_aret C hX dX2_wordOf_86
    refine DenL_cons ?_ ?_
    · refine Dn_ldcS (i := 9) (q := 89) C (by decide) rfl dX2_wordOf_87 rfl ?_
      exact Dn_aret C hX dX2_wordOf_89
    refine DenL_cons ?_ ?_
    · refine Dn_ldcS (i := 10) (q := 92) C (by decide) rfl dX2_wordOf_90 rfl ?_
      exact Dn_aret C hX dX2_wordOf_92
    exact DenL_nil
abbrev rX2_lineOf : Room := ({ frames := 5, cells := 0, slots := 0, locals := 107 } : Room)
def jX2_lineOf_2 : mK := i_loop (fun B2 => i_ild 1 (i_push (.int 12) (i_icge (i_push (.int (-1)) (i_iret)) (i_ald 0 (i_ild 1 (i_call 1 FX2_wordOf (i_callV 3 1 FX3_isToken (i_ifeq (i_inc 1 1 (B2)) (i_ild 1 (i_iret)))))))))) 1000
set_option maxRecDepth 20000 in
theorem JX2_lineOf_2 {X : mC} (C : Cx X rX2_lineOf cX2_lineOf 2 RX2 (some FieldType.int)) (hX : Rx X) : Den X rX2_lineOf 2 2 jX2_lineOf_2 := by
  unfold jX2_lineOf_2
  refine Dn_loop (fun B2 hB2 => ?_) 1000
  refine Dn_ild_n (i := 1) (q := 3) C dX2_lineOf_2 rfl rfl ?_
  refine Dn_bipush (v := 12) (q := 5) C dX2_lineOf_3 (by decide) rfl ?_
  refine Dn_icge (t := 27) (q := 8) C dX2_lineOf_5 (by decide) rfl ?_ ?_
  · refine Dn_iconst (v := (-1)) (q := 28) C dX2_lineOf_27 (by decide) rfl ?_
    exact Dn_iret C hX dX2_lineOf_28
  · refine Dn_ald_n (i := 0) (q := 9) C dX2_lineOf_8 rfl rfl ?_
    refine Dn_ild_n (i := 1) (q := 10) C dX2_lineOf_9 rfl rfl ?_
    refine Dn_callS (q := 13) C (kX2_wordOf X.l X.G X.tg) q_363 q_361 q_362 q_46 ⟨rfl, rfl⟩ (by decide +kernel) ⟨by decide, by decide⟩ dX2_lineOf_10 rfl ?_
    refine Dn_callV (ci := 3) (T := TX3) (N := 4) (q := 16) C rfl (kX3_isToken X.l X.G X.tg) q_379 q_376 q_377 q_378 q_45 ⟨rfl, rfl⟩ (by decide +kernel) ⟨by decide, by decide⟩ dX2_lineOf_13 rfl ?_
    refine Dn_ifeq (t := 21) (q := 19) C dX2_lineOf_16 (by decide) rfl ?_ ?_
    · refine Dn_inc (z := 1) (q := 24) C dX2_lineOf_21 (by decide) (by decide) rfl ?_
      refine Dn_goto (t := 2) C dX2_lineOf_24 (by decide) ?_
      exact hB2
    · refine Dn_ild_n (i := 1) (q := 20) C dX2_lineOf_19 rfl rfl ?_
      exact Dn_iret C hX dX2_lineOf_20
def jX2_lineOf : mK := i_push (.int 0) (i_ist 1 (jX2_lineOf_2))
def FX2_lineOf : mF := mEnt 2 jX2_lineOf
set_option maxRecDepth 20000 in
theorem kX2_lineOf (l : Launch) (G : va_G) (tg : Nat → ClassId) : Ct l G tg yX2_lineOf cX2_lineOf 2 (some FieldType.int) rX2_lineOf FX2_lineOf := by
  refine Ct.of RX2 (by decide) rfl (fun X C hX => ?_)
  unfold jX2_lineOf
  refine Dn_iconst (v := 0) (q := 1) C dX2_lineOf_0 (by decide) rfl ?_
  refine Dn_ist_n (i := 1) (q := 2) C dX2_lineOf_1 rfl (by decide) rfl ?_
  exact JX2_lineOf_2 C hX
abbrev rX2_isOfBand : Room := ({ frames := 0, cells := 0, slots := 0, locals := 0 } : Room)
def jX2_isOfBand_16 : mK := i_nret .boolean
set_option maxRecDepth 20000 in
theorem JX2_isOfBand_16 {X : mC} (C : Cx X rX2_isOfBand cX2_isOfBand 1 RX2 (some FieldType.boolean)) (hX : Rx X) : Den X rX2_isOfBand 1 16 jX2_isOfBand_16 := by
  unfold jX2_isOfBand_16
  exact Dn_nret C hX dX2_isOfBand_16
def jX2_isOfBand_15 : mK := i_push (.int 0) (jX2_isOfBand_16)
set_option maxRecDepth 20000 in
theorem JX2_isOfBand_15 {X : mC} (C : Cx X rX2_isOfBand cX2_isOfBand 1 RX2 (some FieldType.boolean)) (hX : Rx X) : Den X rX2_isOfBand 1 15 jX2_isOfBand_15 := by
  unfold jX2_isOfBand_15
  refine Dn_iconst (v := 0) (q := 16) C dX2_isOfBand_15 (by decide) rfl ?_
  exact JX2_isOfBand_16 C hX
def jX2_isOfBand : mK := i_ild 0 (i_push (.int 3) (i_iclt (jX2_isOfBand_15) (i_ild 0 (i_push (.int 6) (i_icgt (jX2_isOfBand_15) (i_push (.int 1) (jX2_isOfBand_16)))))))
def FX2_isOfBand : mF := mEnt 1 jX2_isOfBand
set_option maxRecDepth 20000 in
theorem kX2_isOfBand (l : Launch) (G : va_G) (tg : Nat → ClassId) : Ct l G tg yX2_isOfBand cX2_isOfBand 1 (some FieldType.boolean) rX2_isOfBand FX2_isOfBand := by
  refine Ct.of RX2 (by decide) rfl (fun X C hX => ?_)
  unfold jX2_isOfBand
  refine Dn_ild_n (i := 0) (q := 1) C dX2_isOfBand_0 rfl rfl ?_
  refine Dn_iconst (v := 3) (q := 2) C dX2_isOfBand_1 (by decide) rfl ?_
  refine Dn_iclt (t := 15) (q := 5) C dX2_isOfBand_2 (by decide) rfl ?_ ?_
  · exact JX2_isOfBand_15 C hX
  · refine Dn_ild_n (i := 0) (q := 6) C dX2_isOfBand_5 rfl rfl ?_
    refine Dn_bipush (v := 6) (q := 8) C dX2_isOfBand_6 (by decide) rfl ?_
    refine Dn_icgt (t := 15) (q := 11) C dX2_isOfBand_8 (by decide) rfl ?_ ?_
    · exact JX2_isOfBand_15 C hX
    · refine Dn_iconst (v := 1) (q := 12) C dX2_isOfBand_11 (by decide) rfl ?_
      refine Dn_goto (t := 16) C dX2_isOfBand_12 (by decide) ?_
      exact JX2_isOfBand_16 C hX
abbrev rX2_leastNumber : Room := ({ frames := 1, cells := 0, slots := 0, locals := 20 } : Room)
def jX2_leastNumber_53 : mK := i_iret
set_option maxRecDepth 20000 in
theorem JX2_leastNumber_53 {X : mC} (C : Cx X rX2_leastNumber cX2_leastNumber 3 RX2 (some FieldType.int)) (hX : Rx X) : Den X rX2_leastNumber 3 53 jX2_leastNumber_53 := by
  unfold jX2_leastNumber_53
  exact Dn_iret C hX dX2_leastNumber_53
def jX2_leastNumber_52 : mK := i_push (.int 0) (jX2_leastNumber_53)
set_option maxRecDepth 20000 in
theorem JX2_leastNumber_52 {X : mC} (C : Cx X rX2_leastNumber cX2_leastNumber 3 RX2 (some FieldType.int)) (hX : Rx X) : Den X rX2_leastNumber 3 52 jX2_leastNumber_52 := by
  unfold jX2_leastNumber_52
  refine Dn_iconst (v := 0) (q := 53) C dX2_leastNumber_52 (by decide) rfl ?_
  exact JX2_leastNumber_53 C hX
def jX2_leastNumber_31 : mK := i_ild 1 (i_call 1 FX2_isOfBand (i_ifeq (jX2_leastNumber_52) (i_ild 2 (i_push (.int 3) (i_icne (jX2_leastNumber_52) (i_ald 0 (i_get 2 1 (i_push (.int 2) (i_iald (jX2_leastNumber_53))))))))))
set_option maxRecDepth 20000 in
theorem JX2_leastNumber_31 {X : mC} (C : Cx X rX2_leastNumber cX2_leastNumber 3 RX2 (some FieldType.int)) (hX : Rx X) : Den X rX2_leastNumber 3 31 jX2_leastNumber_31 := by
  unfold jX2_leastNumber_31
  refine Dn_ild_n (i := 1) (q := 32) C dX2_leastNumber_31 rfl rfl ?_
  refine Dn_callS (q := 35) C (kX2_isOfBand X.l X.G X.tg) q_432 q_430 q_431 q_46 ⟨rfl, rfl⟩ (by decide +kernel) ⟨by decide, by decide⟩ dX2_leastNumber_32 rfl ?_
  refine Dn_ifeq (t := 52) (q := 38) C dX2_leastNumber_35 (by decide) rfl ?_ ?_
  · exact JX2_leastNumber_52 C hX
  · refine Dn_ild_n (i := 2) (q := 39) C dX2_leastNumber_38 rfl rfl ?_
    refine Dn_iconst (v := 3) (q := 40) C dX2_leastNumber_39 (by decide) rfl ?_
    refine Dn_icne (t := 52) (q := 43) C dX2_leastNumber_40 (by decide) rfl ?_ ?_
    · exact JX2_leastNumber_52 C hX
    · refine Dn_ald_n (i := 0) (q := 44) C dX2_leastNumber_43 rfl rfl ?_
      refine Dn_get (ci := 2) (j := 1) (T := TX2) (N := 2) (Cn := RX2) (q := 47) C rfl iX2 (by decide) q_94 dX2_leastNumber_44 rfl ?_
      refine Dn_iconst (v := 2) (q := 48) C dX2_leastNumber_47 (by decide) rfl ?_
      refine Dn_iald (q := 49) C dX2_leastNumber_48 rfl ?_
      refine Dn_goto (t := 53) C dX2_leastNumber_49 (by decide) ?_
      exact JX2_leastNumber_53 C hX
def jX2_leastNumber : mK := i_ild 1 (i_ifne (i_ild 1 (i_push (.int 1) (i_icne (i_ild 1 (i_push (.int 10) (i_icne (jX2_leastNumber_31) (i_ild 2 (i_push (.int 1) (i_icne (jX2_leastNumber_31) (i_ald 0 (i_get 2 1 (i_push (.int 0) (i_iald (i_iret))))))))))) (i_push (.int 1) (i_iret))))) (i_push (.int 2) (i_iret)))
def FX2_leastNumber : mF := mEnt 3 jX2_leastNumber
set_option maxRecDepth 20000 in
theorem kX2_leastNumber (l : Launch) (G : va_G) (tg : Nat → ClassId) : Ct l G tg yX2_leastNumber cX2_leastNumber 3 (some FieldType.int) rX2_leastNumber FX2_leastNumber := by
  refine Ct.of RX2 (by decide) rfl (fun X C hX => ?_)
  unfold jX2_leastNumber
  refine Dn_ild_n (i := 1) (q := 1) C dX2_leastNumber_0 rfl rfl ?_
  refine Dn_ifne (t := 6) (q := 4) C dX2_leastNumber_1 (by decide) rfl ?_ ?_
  · refine Dn_ild_n (i := 1) (q := 7) C dX2_leastNumber_6 rfl rfl ?_
    refine Dn_iconst (v := 1) (q := 8) C dX2_leastNumber_7 (by decide) rfl ?_
    refine Dn_icne (t := 13) (q := 11) C dX2_leastNumber_8 (by decide) rfl ?_ ?_
    · refine Dn_ild_n (i := 1) (q := 14) C dX2_leastNumber_13 rfl rfl ?_
      refine Dn_bipush (v := 10) (q := 16) C dX2_leastNumber_14 (by decide) rfl ?_
      refine Dn_icne (t := 31) (q := 19) C dX2_leastNumber_16 (by decide) rfl ?_ ?_
      · exact JX2_leastNumber_31 C hX
      · refine Dn_ild_n (i := 2) (q := 20) C dX2_leastNumber_19 rfl rfl ?_
        refine Dn_iconst (v := 1) (q := 21) C dX2_leastNumber_20 (by decide) rfl ?_
        refine Dn_icne (t := 31) (q := 24) C dX2_leastNumber_21 (by decide) rfl ?_ ?_
        · exact JX2_leastNumber_31 C hX
        · refine Dn_ald_n (i := 0) (q := 25) C dX2_leastNumber_24 rfl rfl ?_
          refine Dn_get (ci := 2) (j := 1) (T := TX2) (N := 2) (Cn := RX2) (q := 28) C rfl iX2 (by decide) q_94 dX2_leastNumber_25 rfl ?_
          refine Dn_iconst (v := 0) (q := 29) C dX2_leastNumber_28 (by decide) rfl ?_
          refine Dn_iald (q := 30) C dX2_leastNumber_29 rfl ?_
          exact Dn_iret C hX dX2_leastNumber_30
    · refine Dn_iconst (v := 1) (q := 12) C dX2_leastNumber_11 (by decide) rfl ?_
      exact Dn_iret C hX dX2_leastNumber_12
  · refine Dn_iconst (v := 2) (q := 5) C dX2_leastNumber_4 (by decide) rfl ?_
    exact Dn_iret C hX dX2_leastNumber_5
abbrev rX2_greatestNumber : Room := ({ frames := 1, cells := 0, slots := 0, locals := 20 } : Room)
def jX2_greatestNumber_127 : mK := i_iret
set_option maxRecDepth 20000 in
theorem JX2_greatestNumber_127 {X : mC} (C : Cx X rX2_greatestNumber cX2_greatestNumber 3 RX2 (some FieldType.int)) (hX : Rx X) : Den X rX2_greatestNumber 3 127 jX2_greatestNumber_127 := by
  unfold jX2_greatestNumber_127
  exact Dn_iret C hX dX2_greatestNumber_127
def jX2_greatestNumber_104 : mK := i_ild 2 (i_ifne (i_ild 2 (i_push (.int 1) (i_icne (i_push (.int 11) (jX2_greatestNumber_127)) (i_push (.int 99) (jX2_greatestNumber_127))))) (i_ald 0 (i_callV 1 0 FX1_places (i_push (.int 1) (i_ib (fun x y => x - y) (i_iret))))))
set_option maxRecDepth 20000 in
theorem JX2_greatestNumber_104 {X : mC} (C : Cx X rX2_greatestNumber cX2_greatestNumber 3 RX2 (some FieldType.int)) (hX : Rx X) : Den X rX2_greatestNumber 3 104 jX2_greatestNumber_104 := by
  unfold jX2_greatestNumber_104
  refine Dn_ild_n (i := 2) (q := 105) C dX2_greatestNumber_104 rfl rfl ?_
  refine Dn_ifne (t := 115) (q := 108) C dX2_greatestNumber_105 (by decide) rfl ?_ ?_
  · refine Dn_ild_n (i := 2) (q := 116) C dX2_greatestNumber_115 rfl rfl ?_
    refine Dn_iconst (v := 1) (q := 117) C dX2_greatestNumber_116 (by decide) rfl ?_
    refine Dn_icne (t := 125) (q := 120) C dX2_greatestNumber_117 (by decide) rfl ?_ ?_
    · refine Dn_bipush (v := 11) (q := 127) C dX2_greatestNumber_125 (by decide) rfl ?_
      exact JX2_greatestNumber_127 C hX
    · refine Dn_bipush (v := 99) (q := 122) C dX2_greatestNumber_120 (by decide) rfl ?_
      refine Dn_goto (t := 127) C dX2_greatestNumber_122 (by decide) ?_
      exact JX2_greatestNumber_127 C hX
  · refine Dn_ald_n (i := 0) (q := 109) C dX2_greatestNumber_108 rfl rfl ?_
    refine Dn_callV (ci := 1) (T := TX1) (N := 9) (q := 112) C rfl (kX1_places X.l X.G X.tg) q_178 q_448 q_176 q_177 q_47 ⟨rfl, rfl⟩ (by decide +kernel) ⟨by decide, by decide⟩ dX2_greatestNumber_109 rfl ?_
    refine Dn_iconst (v := 1) (q := 113) C dX2_greatestNumber_112 (by decide) rfl ?_
    refine Dn_isub (q := 114) C dX2_greatestNumber_113 rfl ?_
    exact Dn_iret C hX dX2_greatestNumber_114
def jX2_greatestNumber_97 : mK := i_ald 0 (i_callV 1 0 FX1_places (i_push (.int 1) (i_ib (fun x y => x - y) (i_iret))))
set_option maxRecDepth 20000 in
theorem JX2_greatestNumber_97 {X : mC} (C : Cx X rX2_greatestNumber cX2_greatestNumber 3 RX2 (some FieldType.int)) (hX : Rx X) : Den X rX2_greatestNumber 3 97 jX2_greatestNumber_97 := by
  unfold jX2_greatestNumber_97
  refine Dn_ald_n (i := 0) (q := 98) C dX2_greatestNumber_97 rfl rfl ?_
  refine Dn_callV (ci := 1) (T := TX1) (N := 9) (q := 101) C rfl (kX1_places X.l X.G X.tg) q_178 q_448 q_176 q_177 q_47 ⟨rfl, rfl⟩ (by decide +kernel) ⟨by decide, by decide⟩ dX2_greatestNumber_98 rfl ?_
  refine Dn_iconst (v := 1) (q := 102) C dX2_greatestNumber_101 (by decide) rfl ?_
  refine Dn_isub (q := 103) C dX2_greatestNumber_102 rfl ?_
  exact Dn_iret C hX dX2_greatestNumber_103
def jX2_greatestNumber_96 : mK := i_iret
set_option maxRecDepth 20000 in
theorem JX2_greatestNumber_96 {X : mC} (C : Cx X rX2_greatestNumber cX2_greatestNumber 3 RX2 (some FieldType.int)) (hX : Rx X) : Den X rX2_greatestNumber 3 96 jX2_greatestNumber_96 := by
  unfold jX2_greatestNumber_96
  exact Dn_iret C hX dX2_greatestNumber_96
def jX2_greatestNumber_81 : mK := i_iret
set_option maxRecDepth 20000 in
theorem JX2_greatestNumber_81 {X : mC} (C : Cx X rX2_greatestNumber cX2_greatestNumber 3 RX2 (some FieldType.int)) (hX : Rx X) : Den X rX2_greatestNumber 3 81 jX2_greatestNumber_81 := by
  unfold jX2_greatestNumber_81
  exact Dn_iret C hX dX2_greatestNumber_81
def jX2_greatestNumber : mK := i_ild 1 (i_sw 0 10 [i_push (.int 6) (i_iret), i_push (.int 9) (i_iret), jX2_greatestNumber_104, jX2_greatestNumber_104, jX2_greatestNumber_104, jX2_greatestNumber_104, jX2_greatestNumber_104, i_ild 2 (i_ifne (i_push (.int 99) (jX2_greatestNumber_81)) (i_ald 0 (i_get 1 5 (i_push (.int 1) (i_ib (fun x y => x - y) (jX2_greatestNumber_81)))))), i_ild 2 (i_ifne (i_push (.int 3) (jX2_greatestNumber_96)) (i_ald 0 (i_get 1 5 (i_push (.int 1) (i_ib (fun x y => x - y) (jX2_greatestNumber_96)))))), jX2_greatestNumber_97, jX2_greatestNumber_97] (jX2_greatestNumber_104))
def FX2_greatestNumber : mF := mEnt 3 jX2_greatestNumber
set_option maxRecDepth 20000 in
theorem kX2_greatestNumber (l : Launch) (G : va_G) (tg : Nat → ClassId) : Ct l G tg yX2_greatestNumber cX2_greatestNumber 3 (some FieldType.int) rX2_greatestNumber FX2_greatestNumber := by
  refine Ct.of RX2 (by decide) rfl (fun X C hX => ?_)
  unfold jX2_greatestNumber
  refine Dn_ild_n (i := 1) (q := 1) C dX2_greatestNumber_0 rfl rfl ?_
  refine Dn_sw (td := 104) (ts := [60, 63, 104, 104, 104, 104, 104, 66, 82, 97, 97]) C dX2_greatestNumber_1 (by decide) (by decide +kernel) rfl ?_ ?_
  · exact JX2_greatestNumber_104 C hX
  · show DenL _ _ _ _ _
    refine DenL_cons ?_ ?_
    · refine Dn_bipush (v := 6) (q := 62) C dX2_greatestNumber_60 (by decide) rfl ?_
      exact Dn_iret C hX dX2_greatestNumber_62
    refine DenL_cons ?_ ?_
    · refine Dn_bipush (v := 9) (q := 65) C dX2_greatestNumber_63 (by decide) rfl ?_
      exact Dn_iret C hX dX2_greatestNumber_65
    refine DenL_cons ?_ ?_
    · exact JX2_greatestNumber_104 C hX
    refine DenL_cons ?_ ?_
    · exact JX2_greatestNumber_104 C hX
    refine DenL_cons ?_ ?_
    · exact JX2_greatestNumber_104 C hX
    refine DenL_cons ?_ ?_
    · exact JX2_greatestNumber_104 C hX
    refine DenL_cons ?_ ?_
    · exact JX2_greatestNumber_104 C hX
    refine DenL_cons ?_ ?_
    · refine Dn_ild_n (i := 2) (q := 67) C dX2_greatestNumber_66 rfl rfl ?_
      refine Dn_ifne (t := 79) (q := 70) C dX2_greatestNumber_67 (by decide) rfl ?_ ?_
      · refine Dn_bipush (v := 99) (q := 81) C dX2_greatestNumber_79 (by decide) rfl ?_
        exact JX2_greatestNumber_81 C hX
      · refine Dn_ald_n (i := 0) (q := 71) C dX2_greatestNumber_70 rfl rfl ?_
        refine Dn_get (ci := 1) (j := 5) (T := TX1) (N := 9) (Cn := RX1) (q := 74) C rfl iX1 (by decide) q_123 dX2_greatestNumber_71 rfl ?_
        refine Dn_iconst (v := 1) (q := 75) C dX2_greatestNumber_74 (by decide) rfl ?_
        refine Dn_isub (q := 76) C dX2_greatestNumber_75 rfl ?_
        refine Dn_goto (t := 81) C dX2_greatestNumber_76 (by decide) ?_
        exact JX2_greatestNumber_81 C hX
    refine DenL_cons ?_ ?_
    · refine Dn_ild_n (i := 2) (q := 83) C dX2_greatestNumber_82 rfl rfl ?_
      refine Dn_ifne (t := 95) (q := 86) C dX2_greatestNumber_83 (by decide) rfl ?_ ?_
      · refine Dn_iconst (v := 3) (q := 96) C dX2_greatestNumber_95 (by decide) rfl ?_
        exact JX2_greatestNumber_96 C hX
      · refine Dn_ald_n (i := 0) (q := 87) C dX2_greatestNumber_86 rfl rfl ?_
        refine Dn_get (ci := 1) (j := 5) (T := TX1) (N := 9) (Cn := RX1) (q := 90) C rfl iX1 (by decide) q_123 dX2_greatestNumber_87 rfl ?_
        refine Dn_iconst (v := 1) (q := 91) C dX2_greatestNumber_90 (by decide) rfl ?_
        refine Dn_isub (q := 92) C dX2_greatestNumber_91 rfl ?_
        refine Dn_goto (t := 96) C dX2_greatestNumber_92 (by decide) ?_
        exact JX2_greatestNumber_96 C hX
    refine DenL_cons ?_ ?_
    · exact JX2_greatestNumber_97 C hX
    refine DenL_cons ?_ ?_
    · exact JX2_greatestNumber_97 C hX
    exact DenL_nil
abbrev rX2_canStand : Room := ({ frames := 2, cells := 0, slots := 0, locals := 42 } : Room)
def jX2_canStand_69 : mK := i_nret .boolean
set_option maxRecDepth 20000 in
theorem JX2_canStand_69 {X : mC} (C : Cx X rX2_canStand cX2_canStand 5 RX2 (some FieldType.boolean)) (hX : Rx X) : Den X rX2_canStand 5 69 jX2_canStand_69 := by
  unfold jX2_canStand_69
  exact Dn_nret C hX dX2_canStand_69
def jX2_canStand_64 : mK := i_push (.int 1) (jX2_canStand_69)
set_option maxRecDepth 20000 in
theorem JX2_canStand_64 {X : mC} (C : Cx X rX2_canStand cX2_canStand 5 RX2 (some FieldType.boolean)) (hX : Rx X) : Den X rX2_canStand 5 64 jX2_canStand_64 := by
  unfold jX2_canStand_64
  refine Dn_iconst (v := 1) (q := 65) C dX2_canStand_64 (by decide) rfl ?_
  refine Dn_goto (t := 69) C dX2_canStand_65 (by decide) ?_
  exact JX2_canStand_69 C hX
def jX2_canStand_47 : mK := i_push (.int 0) (i_nret .boolean)
set_option maxRecDepth 20000 in
theorem JX2_canStand_47 {X : mC} (C : Cx X rX2_canStand cX2_canStand 5 RX2 (some FieldType.boolean)) (hX : Rx X) : Den X rX2_canStand 5 47 jX2_canStand_47 := by
  unfold jX2_canStand_47
  refine Dn_iconst (v := 0) (q := 48) C dX2_canStand_47 (by decide) rfl ?_
  exact Dn_nret C hX dX2_canStand_48
def jX2_canStand_23 : mK := i_ist 4 (i_ild 4 (i_ald 0 (i_ild 2 (i_ild 3 (i_callV 2 2 FX2_leastNumber (i_iclt (jX2_canStand_47) (i_ild 4 (i_ald 1 (i_ild 2 (i_ild 3 (i_call 3 FX2_greatestNumber (i_icle (i_ild 2 (i_push (.int 9) (i_icne (jX2_canStand_64) (i_ald 1 (i_ild 4 (i_callV 1 1 FX1_hasHedge (i_ifne (i_push (.int 0) (jX2_canStand_69)) (jX2_canStand_64)))))))) (jX2_canStand_47)))))))))))))
set_option maxRecDepth 20000 in
theorem JX2_canStand_23 {X : mC} (C : Cx X rX2_canStand cX2_canStand 5 RX2 (some FieldType.boolean)) (hX : Rx X) : Den X rX2_canStand 5 23 jX2_canStand_23 := by
  unfold jX2_canStand_23
  refine Dn_ist (q := 25) C dX2_canStand_23 (by decide) rfl ?_
  refine Dn_ild (q := 27) C dX2_canStand_25 rfl ?_
  refine Dn_ald_n (i := 0) (q := 28) C dX2_canStand_27 rfl rfl ?_
  refine Dn_ild_n (i := 2) (q := 29) C dX2_canStand_28 rfl rfl ?_
  refine Dn_ild_n (i := 3) (q := 30) C dX2_canStand_29 rfl rfl ?_
  refine Dn_callV (ci := 2) (T := TX2) (N := 2) (q := 33) C rfl (kX2_leastNumber X.l X.G X.tg) q_444 q_441 q_443 q_5 q_46 ⟨rfl, rfl⟩ (by decide +kernel) ⟨by decide, by decide⟩ dX2_canStand_30 rfl ?_
  refine Dn_iclt (t := 47) (q := 36) C dX2_canStand_33 (by decide) rfl ?_ ?_
  · exact JX2_canStand_47 C hX
  · refine Dn_ild (q := 38) C dX2_canStand_36 rfl ?_
    refine Dn_ald_n (i := 1) (q := 39) C dX2_canStand_38 rfl rfl ?_
    refine Dn_ild_n (i := 2) (q := 40) C dX2_canStand_39 rfl rfl ?_
    refine Dn_ild_n (i := 3) (q := 41) C dX2_canStand_40 rfl rfl ?_
    refine Dn_callS (q := 44) C (kX2_greatestNumber X.l X.G X.tg) q_447 q_445 q_446 q_46 ⟨rfl, rfl⟩ (by decide +kernel) ⟨by decide, by decide⟩ dX2_canStand_41 rfl ?_
    refine Dn_icle (t := 49) (q := 47) C dX2_canStand_44 (by decide) rfl ?_ ?_
    · refine Dn_ild_n (i := 2) (q := 50) C dX2_canStand_49 rfl rfl ?_
      refine Dn_bipush (v := 9) (q := 52) C dX2_canStand_50 (by decide) rfl ?_
      refine Dn_icne (t := 64) (q := 55) C dX2_canStand_52 (by decide) rfl ?_ ?_
      · exact JX2_canStand_64 C hX
      · refine Dn_ald_n (i := 1) (q := 56) C dX2_canStand_55 rfl rfl ?_
        refine Dn_ild (q := 58) C dX2_canStand_56 rfl ?_
        refine Dn_callV (ci := 1) (T := TX1) (N := 9) (q := 61) C rfl (kX1_hasHedge X.l X.G X.tg) q_226 q_449 q_224 q_225 q_47 ⟨rfl, rfl⟩ (by decide +kernel) ⟨by decide, by decide⟩ dX2_canStand_58 rfl ?_
        refine Dn_ifne (t := 68) (q := 64) C dX2_canStand_61 (by decide) rfl ?_ ?_
        · refine Dn_iconst (v := 0) (q := 69) C dX2_canStand_68 (by decide) rfl ?_
          exact JX2_canStand_69 C hX
        · exact JX2_canStand_64 C hX
    · exact JX2_canStand_47 C hX
def jX2_canStand_22 : mK := i_push (.int (-1)) (jX2_canStand_23)
set_option maxRecDepth 20000 in
theorem JX2_canStand_22 {X : mC} (C : Cx X rX2_canStand cX2_canStand 5 RX2 (some FieldType.boolean)) (hX : Rx X) : Den X rX2_canStand 5 22 jX2_canStand_22 := by
  unfold jX2_canStand_22
  refine Dn_iconst (v := (-1)) (q := 23) C dX2_canStand_22 (by decide) rfl ?_
  exact JX2_canStand_23 C hX
def jX2_canStand : mK := i_ild 3 (i_iflt (jX2_canStand_22) (i_ild 3 (i_ald 0 (i_get 2 1 (i_alen (i_icge (jX2_canStand_22) (i_ald 0 (i_get 2 1 (i_ild 3 (i_iald (jX2_canStand_23)))))))))))
def FX2_canStand : mF := mEnt 5 jX2_canStand
set_option maxRecDepth 20000 in
theorem kX2_canStand (l : Launch) (G : va_G) (tg : Nat → ClassId) : Ct l G tg yX2_canStand cX2_canStand 5 (some FieldType.boolean) rX2_canStand FX2_canStand := by
  refine Ct.of RX2 (by decide) rfl (fun X C hX => ?_)
  unfold jX2_canStand
  refine Dn_ild_n (i := 3) (q := 1) C dX2_canStand_0 rfl rfl ?_
  refine Dn_iflt (t := 22) (q := 4) C dX2_canStand_1 (by decide) rfl ?_ ?_
  · exact JX2_canStand_22 C hX
  · refine Dn_ild_n (i := 3) (q := 5) C dX2_canStand_4 rfl rfl ?_
    refine Dn_ald_n (i := 0) (q := 6) C dX2_canStand_5 rfl rfl ?_
    refine Dn_get (ci := 2) (j := 1) (T := TX2) (N := 2) (Cn := RX2) (q := 9) C rfl iX2 (by decide) q_94 dX2_canStand_6 rfl ?_
    refine Dn_alen (q := 10) C dX2_canStand_9 rfl ?_
    refine Dn_icge (t := 22) (q := 13) C dX2_canStand_10 (by decide) rfl ?_ ?_
    · exact JX2_canStand_22 C hX
    · refine Dn_ald_n (i := 0) (q := 14) C dX2_canStand_13 rfl rfl ?_
      refine Dn_get (ci := 2) (j := 1) (T := TX2) (N := 2) (Cn := RX2) (q := 17) C rfl iX2 (by decide) q_94 dX2_canStand_14 rfl ?_
      refine Dn_ild_n (i := 3) (q := 18) C dX2_canStand_17 rfl rfl ?_
      refine Dn_iald (q := 19) C dX2_canStand_18 rfl ?_
      refine Dn_goto (t := 23) C dX2_canStand_19 (by decide) ?_
      exact JX2_canStand_23 C hX
abbrev rX2_doLine : Room := ({ frames := 3, cells := 0, slots := 0, locals := 70 } : Room)
def jX2_doLine_231 : mK := i_vret
set_option maxRecDepth 20000 in
theorem JX2_doLine_231 {X : mC} (C : Cx X rX2_doLine cX2_doLine 3 RX2 none) (hX : Rx X) : Den X rX2_doLine 3 231 jX2_doLine_231 := by
  unfold jX2_doLine_231
  exact Dn_vret C hX dX2_doLine_231
def jX2_doLine_200 : mK := i_ald 1 (i_ild 2 (i_push (.int 3) (i_ib (fun x y => x - y) (i_ald 0 (i_get 2 1 (i_push (.int 0) (i_iald (i_ald 0 (i_get 2 1 (i_push (.int 1) (i_iald (i_ald 0 (i_get 2 1 (i_push (.int 2) (i_iald (i_ald 0 (i_get 2 1 (i_push (.int 3) (i_iald (i_callV 1 5 FX1_addBand (jX2_doLine_231)))))))))))))))))))))
set_option maxRecDepth 20000 in
theorem JX2_doLine_200 {X : mC} (C : Cx X rX2_doLine cX2_doLine 3 RX2 none) (hX : Rx X) : Den X rX2_doLine 3 200 jX2_doLine_200 := by
  unfold jX2_doLine_200
  refine Dn_ald_n (i := 1) (q := 201) C dX2_doLine_200 rfl rfl ?_
  refine Dn_ild_n (i := 2) (q := 202) C dX2_doLine_201 rfl rfl ?_
  refine Dn_iconst (v := 3) (q := 203) C dX2_doLine_202 (by decide) rfl ?_
  refine Dn_isub (q := 204) C dX2_doLine_203 rfl ?_
  refine Dn_ald_n (i := 0) (q := 205) C dX2_doLine_204 rfl rfl ?_
  refine Dn_get (ci := 2) (j := 1) (T := TX2) (N := 2) (Cn := RX2) (q := 208) C rfl iX2 (by decide) q_94 dX2_doLine_205 rfl ?_
  refine Dn_iconst (v := 0) (q := 209) C dX2_doLine_208 (by decide) rfl ?_
  refine Dn_iald (q := 210) C dX2_doLine_209 rfl ?_
  refine Dn_ald_n (i := 0) (q := 211) C dX2_doLine_210 rfl rfl ?_
  refine Dn_get (ci := 2) (j := 1) (T := TX2) (N := 2) (Cn := RX2) (q := 214) C rfl iX2 (by decide) q_94 dX2_doLine_211 rfl ?_
  refine Dn_iconst (v := 1) (q := 215) C dX2_doLine_214 (by decide) rfl ?_
  refine Dn_iald (q := 216) C dX2_doLine_215 rfl ?_
  refine Dn_ald_n (i := 0) (q := 217) C dX2_doLine_216 rfl rfl ?_
  refine Dn_get (ci := 2) (j := 1) (T := TX2) (N := 2) (Cn := RX2) (q := 220) C rfl iX2 (by decide) q_94 dX2_doLine_217 rfl ?_
  refine Dn_iconst (v := 2) (q := 221) C dX2_doLine_220 (by decide) rfl ?_
  refine Dn_iald (q := 222) C dX2_doLine_221 rfl ?_
  refine Dn_ald_n (i := 0) (q := 223) C dX2_doLine_222 rfl rfl ?_
  refine Dn_get (ci := 2) (j := 1) (T := TX2) (N := 2) (Cn := RX2) (q := 226) C rfl iX2 (by decide) q_94 dX2_doLine_223 rfl ?_
  refine Dn_iconst (v := 3) (q := 227) C dX2_doLine_226 (by decide) rfl ?_
  refine Dn_iald (q := 228) C dX2_doLine_227 rfl ?_
  refine Dn_callV (ci := 1) (T := TX1) (N := 9) (q := 231) C rfl (kX1_addBand X.l X.G X.tg) q_470 q_467 q_468 q_469 q_47 ⟨rfl, rfl⟩ (by decide +kernel) ⟨by decide, by decide⟩ dX2_doLine_228 rfl ?_
  exact JX2_doLine_231 C hX
def jX2_doLine : mK := i_ild 2 (i_sw 0 11 [i_ald 1 (i_ald 0 (i_get 2 1 (i_push (.int 0) (i_iald (i_ald 0 (i_get 2 1 (i_push (.int 1) (i_iald (i_callV 1 2 FX1_lay (jX2_doLine_231)))))))))), i_ald 1 (i_ald 0 (i_get 2 1 (i_push (.int 0) (i_iald (i_puti 1 2 (jX2_doLine_231)))))), i_ald 1 (i_ald 0 (i_get 2 1 (i_push (.int 0) (i_iald (i_puti 1 3 (i_ald 1 (i_ald 0 (i_get 2 1 (i_push (.int 1) (i_iald (i_puti 1 4 (jX2_doLine_231)))))))))))), jX2_doLine_200, jX2_doLine_200, jX2_doLine_200, jX2_doLine_200, i_ald 1 (i_ald 0 (i_get 2 1 (i_push (.int 0) (i_iald (i_push (.int 5) (i_ald 0 (i_get 2 1 (i_push (.int 1) (i_iald (i_callV 1 3 FX1_setTrait (jX2_doLine_231))))))))))), i_ald 1 (i_ald 0 (i_get 2 1 (i_push (.int 0) (i_iald (i_push (.int 6) (i_ald 0 (i_get 2 1 (i_push (.int 1) (i_iald (i_callV 1 3 FX1_setTrait (jX2_doLine_231))))))))))), i_ald 1 (i_ald 0 (i_get 2 1 (i_push (.int 0) (i_iald (i_callV 1 1 FX1_addHedge (jX2_doLine_231)))))), i_ald 1 (i_ald 0 (i_get 2 1 (i_push (.int 0) (i_iald (i_ald 0 (i_get 2 1 (i_push (.int 1) (i_iald (i_callV 1 2 FX1_addWalk (jX2_doLine_231)))))))))), i_ald 1 (i_push (.int 0) (i_puti 1 5 (jX2_doLine_231)))] (jX2_doLine_200))
def FX2_doLine : mF := mEnt 3 jX2_doLine
set_option maxRecDepth 20000 in
theorem kX2_doLine (l : Launch) (G : va_G) (tg : Nat → ClassId) : Ct l G tg yX2_doLine cX2_doLine 3 none rX2_doLine FX2_doLine := by
  refine Ct.of RX2 (by decide) rfl (fun X C hX => ?_)
  unfold jX2_doLine
  refine Dn_ild_n (i := 2) (q := 1) C dX2_doLine_0 rfl rfl ?_
  refine Dn_sw (td := 200) (ts := [64, 83, 96, 200, 200, 200, 200, 119, 139, 160, 173, 192]) C dX2_doLine_1 (by decide) (by decide +kernel) rfl ?_ ?_
  · exact JX2_doLine_200 C hX
  · show DenL _ _ _ _ _
    refine DenL_cons ?_ ?_
    · refine Dn_ald_n (i := 1) (q := 65) C dX2_doLine_64 rfl rfl ?_
      refine Dn_ald_n (i := 0) (q := 66) C dX2_doLine_65 rfl rfl ?_
      refine Dn_get (ci := 2) (j := 1) (T := TX2) (N := 2) (Cn := RX2) (q := 69) C rfl iX2 (by decide) q_94 dX2_doLine_66 rfl ?_
      refine Dn_iconst (v := 0) (q := 70) C dX2_doLine_69 (by decide) rfl ?_
      refine Dn_iald (q := 71) C dX2_doLine_70 rfl ?_
      refine Dn_ald_n (i := 0) (q := 72) C dX2_doLine_71 rfl rfl ?_
      refine Dn_get (ci := 2) (j := 1) (T := TX2) (N := 2) (Cn := RX2) (q := 75) C rfl iX2 (by decide) q_94 dX2_doLine_72 rfl ?_
      refine Dn_iconst (v := 1) (q := 76) C dX2_doLine_75 (by decide) rfl ?_
      refine Dn_iald (q := 77) C dX2_doLine_76 rfl ?_
      refine Dn_callV (ci := 1) (T := TX1) (N := 9) (q := 80) C rfl (kX1_lay X.l X.G X.tg) q_109 q_454 q_107 q_108 q_47 ⟨rfl, rfl⟩ (by decide +kernel) ⟨by decide, by decide⟩ dX2_doLine_77 rfl ?_
      refine Dn_goto (t := 231) C dX2_doLine_80 (by decide) ?_
      exact JX2_doLine_231 C hX
    refine DenL_cons ?_ ?_
    · refine Dn_ald_n (i := 1) (q := 84) C dX2_doLine_83 rfl rfl ?_
      refine Dn_ald_n (i := 0) (q := 85) C dX2_doLine_84 rfl rfl ?_
      refine Dn_get (ci := 2) (j := 1) (T := TX2) (N := 2) (Cn := RX2) (q := 88) C rfl iX2 (by decide) q_94 dX2_doLine_85 rfl ?_
      refine Dn_iconst (v := 0) (q := 89) C dX2_doLine_88 (by decide) rfl ?_
      refine Dn_iald (q := 90) C dX2_doLine_89 rfl ?_
      refine Dn_puti (ci := 1) (j := 2) (T := TX1) (N := 9) (Cn := RX1) (q := 93) C rfl iX1 tyX1 tyX1_ok nmX1 (by decide) q_115 rfl (by decide +kernel) dX2_doLine_90 rfl ?_
      refine Dn_goto (t := 231) C dX2_doLine_93 (by decide) ?_
      exact JX2_doLine_231 C hX
    refine DenL_cons ?_ ?_
    · refine Dn_ald_n (i := 1) (q := 97) C dX2_doLine_96 rfl rfl ?_
      refine Dn_ald_n (i := 0) (q := 98) C dX2_doLine_97 rfl rfl ?_
      refine Dn_get (ci := 2) (j := 1) (T := TX2) (N := 2) (Cn := RX2) (q := 101) C rfl iX2 (by decide) q_94 dX2_doLine_98 rfl ?_
      refine Dn_iconst (v := 0) (q := 102) C dX2_doLine_101 (by decide) rfl ?_
      refine Dn_iald (q := 103) C dX2_doLine_102 rfl ?_
      refine Dn_puti (ci := 1) (j := 3) (T := TX1) (N := 9) (Cn := RX1) (q := 106) C rfl iX1 tyX1 tyX1_ok nmX1 (by decide) q_118 rfl (by decide +kernel) dX2_doLine_103 rfl ?_
      refine Dn_ald_n (i := 1) (q := 107) C dX2_doLine_106 rfl rfl ?_
      refine Dn_ald_n (i := 0) (q := 108) C dX2_doLine_107 rfl rfl ?_
      refine Dn_get (ci := 2) (j := 1) (T := TX2) (N := 2) (Cn := RX2) (q := 111) C rfl iX2 (by decide) q_94 dX2_doLine_108 rfl ?_
      refine Dn_iconst (v := 1) (q := 112) C dX2_doLine_111 (by decide) rfl ?_
      refine Dn_iald (q := 113) C dX2_doLine_112 rfl ?_
      refine Dn_puti (ci := 1) (j := 4) (T := TX1) (N := 9) (Cn := RX1) (q := 116) C rfl iX1 tyX1 tyX1_ok nmX1 (by decide) q_120 rfl (by decide +kernel) dX2_doLine_113 rfl ?_
      refine Dn_goto (t := 231) C dX2_doLine_116 (by decide) ?_
      exact JX2_doLine_231 C hX
    refine DenL_cons ?_ ?_
    · exact JX2_doLine_200 C hX
    refine DenL_cons ?_ ?_
    · exact JX2_doLine_200 C hX
    refine DenL_cons ?_ ?_
    · exact JX2_doLine_200 C hX
    refine DenL_cons ?_ ?_
    · exact JX2_doLine_200 C hX
    refine DenL_cons ?_ ?_
    · refine Dn_ald_n (i := 1) (q := 120) C dX2_doLine_119 rfl rfl ?_
      refine Dn_ald_n (i := 0) (q := 121) C dX2_doLine_120 rfl rfl ?_
      refine Dn_get (ci := 2) (j := 1) (T := TX2) (N := 2) (Cn := RX2) (q := 124) C rfl iX2 (by decide) q_94 dX2_doLine_121 rfl ?_
      refine Dn_iconst (v := 0) (q := 125) C dX2_doLine_124 (by decide) rfl ?_
      refine Dn_iald (q := 126) C dX2_doLine_125 rfl ?_
      refine Dn_iconst (v := 5) (q := 127) C dX2_doLine_126 (by decide) rfl ?_
      refine Dn_ald_n (i := 0) (q := 128) C dX2_doLine_127 rfl rfl ?_
      refine Dn_get (ci := 2) (j := 1) (T := TX2) (N := 2) (Cn := RX2) (q := 131) C rfl iX2 (by decide) q_94 dX2_doLine_128 rfl ?_
      refine Dn_iconst (v := 1) (q := 132) C dX2_doLine_131 (by decide) rfl ?_
      refine Dn_iald (q := 133) C dX2_doLine_132 rfl ?_
      refine Dn_callV (ci := 1) (T := TX1) (N := 9) (q := 136) C rfl (kX1_setTrait X.l X.G X.tg) q_458 q_455 q_456 q_457 q_47 ⟨rfl, rfl⟩ (by decide +kernel) ⟨by decide, by decide⟩ dX2_doLine_133 rfl ?_
      refine Dn_goto (t := 231) C dX2_doLine_136 (by decide) ?_
      exact JX2_doLine_231 C hX
    refine DenL_cons ?_ ?_
    · refine Dn_ald_n (i := 1) (q := 140) C dX2_doLine_139 rfl rfl ?_
      refine Dn_ald_n (i := 0) (q := 141) C dX2_doLine_140 rfl rfl ?_
      refine Dn_get (ci := 2) (j := 1) (T := TX2) (N := 2) (Cn := RX2) (q := 144) C rfl iX2 (by decide) q_94 dX2_doLine_141 rfl ?_
      refine Dn_iconst (v := 0) (q := 145) C dX2_doLine_144 (by decide) rfl ?_
      refine Dn_iald (q := 146) C dX2_doLine_145 rfl ?_
      refine Dn_bipush (v := 6) (q := 148) C dX2_doLine_146 (by decide) rfl ?_
      refine Dn_ald_n (i := 0) (q := 149) C dX2_doLine_148 rfl rfl ?_
      refine Dn_get (ci := 2) (j := 1) (T := TX2) (N := 2) (Cn := RX2) (q := 152) C rfl iX2 (by decide) q_94 dX2_doLine_149 rfl ?_
      refine Dn_iconst (v := 1) (q := 153) C dX2_doLine_152 (by decide) rfl ?_
      refine Dn_iald (q := 154) C dX2_doLine_153 rfl ?_
      refine Dn_callV (ci := 1) (T := TX1) (N := 9) (q := 157) C rfl (kX1_setTrait X.l X.G X.tg) q_458 q_455 q_456 q_457 q_47 ⟨rfl, rfl⟩ (by decide +kernel) ⟨by decide, by decide⟩ dX2_doLine_154 rfl ?_
      refine Dn_goto (t := 231) C dX2_doLine_157 (by decide) ?_
      exact JX2_doLine_231 C hX
    refine DenL_cons ?_ ?_
    · refine Dn_ald_n (i := 1) (q := 161) C dX2_doLine_160 rfl rfl ?_
      refine Dn_ald_n (i := 0) (q := 162) C dX2_doLine_161 rfl rfl ?_
      refine Dn_get (ci := 2) (j := 1) (T := TX2) (N := 2) (Cn := RX2) (q := 165) C rfl iX2 (by decide) q_94 dX2_doLine_162 rfl ?_
      refine Dn_iconst (v := 0) (q := 166) C dX2_doLine_165 (by decide) rfl ?_
      refine Dn_iald (q := 167) C dX2_doLine_166 rfl ?_
      refine Dn_callV (ci := 1) (T := TX1) (N := 9) (q := 170) C rfl (kX1_addHedge X.l X.G X.tg) q_462 q_459 q_460 q_461 q_47 ⟨rfl, rfl⟩ (by decide +kernel) ⟨by decide, by decide⟩ dX2_doLine_167 rfl ?_
      refine Dn_goto (t := 231) C dX2_doLine_170 (by decide) ?_
      exact JX2_doLine_231 C hX
    refine DenL_cons ?_ ?_
    · refine Dn_ald_n (i := 1) (q := 174) C dX2_doLine_173 rfl rfl ?_
      refine Dn_ald_n (i := 0) (q := 175) C dX2_doLine_174 rfl rfl ?_
      refine Dn_get (ci := 2) (j := 1) (T := TX2) (N := 2) (Cn := RX2) (q := 178) C rfl iX2 (by decide) q_94 dX2_doLine_175 rfl ?_
      refine Dn_iconst (v := 0) (q := 179) C dX2_doLine_178 (by decide) rfl ?_
      refine Dn_iald (q := 180) C dX2_doLine_179 rfl ?_
      refine Dn_ald_n (i := 0) (q := 181) C dX2_doLine_180 rfl rfl ?_
      refine Dn_get (ci := 2) (j := 1) (T := TX2) (N := 2) (Cn := RX2) (q := 184) C rfl iX2 (by decide) q_94 dX2_doLine_181 rfl ?_
      refine Dn_iconst (v := 1) (q := 185) C dX2_doLine_184 (by decide) rfl ?_
      refine Dn_iald (q := 186) C dX2_doLine_185 rfl ?_
      refine Dn_callV (ci := 1) (T := TX1) (N := 9) (q := 189) C rfl (kX1_addWalk X.l X.G X.tg) q_466 q_463 q_464 q_465 q_47 ⟨rfl, rfl⟩ (by decide +kernel) ⟨by decide, by decide⟩ dX2_doLine_186 rfl ?_
      refine Dn_goto (t := 231) C dX2_doLine_189 (by decide) ?_
      exact JX2_doLine_231 C hX
    refine DenL_cons ?_ ?_
    · refine Dn_ald_n (i := 1) (q := 193) C dX2_doLine_192 rfl rfl ?_
      refine Dn_iconst (v := 0) (q := 194) C dX2_doLine_193 (by decide) rfl ?_
      refine Dn_puti (ci := 1) (j := 5) (T := TX1) (N := 9) (Cn := RX1) (q := 197) C rfl iX1 tyX1 tyX1_ok nmX1 (by decide) q_123 rfl (by decide +kernel) dX2_doLine_194 rfl ?_
      refine Dn_goto (t := 231) C dX2_doLine_197 (by decide) ?_
      exact JX2_doLine_231 C hX
    exact DenL_nil
abbrev rX2_readLine : Room := ({ frames := 6, cells := 0, slots := 0, locals := 128 } : Room)
def jX2_readLine_96 : mK := i_ald 0 (i_ald 2 (i_ild 3 (i_callV 2 2 FX2_doLine (i_push (.int 1) (i_nret .boolean)))))
set_option maxRecDepth 20000 in
theorem JX2_readLine_96 {X : mC} (C : Cx X rX2_readLine cX2_readLine 5 RX2 (some FieldType.boolean)) (hX : Rx X) : Den X rX2_readLine 5 96 jX2_readLine_96 := by
  unfold jX2_readLine_96
  refine Dn_ald_n (i := 0) (q := 97) C dX2_readLine_96 rfl rfl ?_
  refine Dn_ald_n (i := 2) (q := 98) C dX2_readLine_97 rfl rfl ?_
  refine Dn_ild_n (i := 3) (q := 99) C dX2_readLine_98 rfl rfl ?_
  refine Dn_callV (ci := 2) (T := TX2) (N := 2) (q := 102) C rfl (kX2_doLine X.l X.G X.tg) q_453 q_450 q_452 q_6 q_46 ⟨rfl, rfl⟩ (by decide +kernel) ⟨by decide, by decide⟩ dX2_readLine_99 rfl ?_
  refine Dn_iconst (v := 1) (q := 103) C dX2_readLine_102 (by decide) rfl ?_
  exact Dn_nret C hX dX2_readLine_103
def jX2_readLine_42 : mK := i_loop (fun B42 => i_ild 4 (i_push (.ref 2000) (i_ild 3 (i_nald (i_icge (jX2_readLine_96) (i_ild 4 (i_ald 0 (i_get 2 1 (i_alen (i_icge (jX2_readLine_96) (i_ald 1 (i_callV 3 0 FX3_takeToken (i_ald 0 (i_get 2 1 (i_ild 4 (i_ald 1 (i_callV 3 0 FX3_number (i_iast (i_ald 0 (i_ald 2 (i_ild 3 (i_ild 4 (i_callV 2 3 FX2_canStand (i_ifne (i_inc 4 1 (B42)) (i_push (.int 0) (i_nret .boolean)))))))))))))))))))))))))) 1000
set_option maxRecDepth 20000 in
theorem JX2_readLine_42 {X : mC} (C : Cx X rX2_readLine cX2_readLine 5 RX2 (some FieldType.boolean)) (hX : Rx X) : Den X rX2_readLine 5 42 jX2_readLine_42 := by
  unfold jX2_readLine_42
  refine Dn_loop (fun B42 hB42 => ?_) 1000
  refine Dn_ild (q := 44) C dX2_readLine_42 rfl ?_
  refine Dn_num (q := 47) C q_428 dX2_readLine_44 rfl ?_
  refine Dn_ild_n (i := 3) (q := 48) C dX2_readLine_47 rfl rfl ?_
  refine Dn_nald (q := 49) C dX2_readLine_48 rfl ?_
  refine Dn_icge (t := 96) (q := 52) C dX2_readLine_49 (by decide) rfl ?_ ?_
  · exact JX2_readLine_96 C hX
  · refine Dn_ild (q := 54) C dX2_readLine_52 rfl ?_
    refine Dn_ald_n (i := 0) (q := 55) C dX2_readLine_54 rfl rfl ?_
    refine Dn_get (ci := 2) (j := 1) (T := TX2) (N := 2) (Cn := RX2) (q := 58) C rfl iX2 (by decide) q_94 dX2_readLine_55 rfl ?_
    refine Dn_alen (q := 59) C dX2_readLine_58 rfl ?_
    refine Dn_icge (t := 96) (q := 62) C dX2_readLine_59 (by decide) rfl ?_ ?_
    · exact JX2_readLine_96 C hX
    · refine Dn_ald_n (i := 1) (q := 63) C dX2_readLine_62 rfl rfl ?_
      refine Dn_callV (ci := 3) (T := TX3) (N := 4) (q := 66) C rfl (kX3_takeToken X.l X.G X.tg) q_344 q_341 q_342 q_343 q_45 ⟨rfl, rfl⟩ (by decide +kernel) ⟨by decide, by decide⟩ dX2_readLine_63 rfl ?_
      refine Dn_ald_n (i := 0) (q := 67) C dX2_readLine_66 rfl rfl ?_
      refine Dn_get (ci := 2) (j := 1) (T := TX2) (N := 2) (Cn := RX2) (q := 70) C rfl iX2 (by decide) q_94 dX2_readLine_67 rfl ?_
      refine Dn_ild (q := 72) C dX2_readLine_70 rfl ?_
      refine Dn_ald_n (i := 1) (q := 73) C dX2_readLine_72 rfl rfl ?_
      refine Dn_callV (ci := 3) (T := TX3) (N := 4) (q := 76) C rfl (kX3_number X.l X.G X.tg) q_436 q_433 q_434 q_435 q_45 ⟨rfl, rfl⟩ (by decide +kernel) ⟨by decide, by decide⟩ dX2_readLine_73 rfl ?_
      refine Dn_iast (q := 77) C dX2_readLine_76 rfl ?_
      refine Dn_ald_n (i := 0) (q := 78) C dX2_readLine_77 rfl rfl ?_
      refine Dn_ald_n (i := 2) (q := 79) C dX2_readLine_78 rfl rfl ?_
      refine Dn_ild_n (i := 3) (q := 80) C dX2_readLine_79 rfl rfl ?_
      refine Dn_ild (q := 82) C dX2_readLine_80 rfl ?_
      refine Dn_callV (ci := 2) (T := TX2) (N := 2) (q := 85) C rfl (kX2_canStand X.l X.G X.tg) q_440 q_437 q_439 q_4 q_46 ⟨rfl, rfl⟩ (by decide +kernel) ⟨by decide, by decide⟩ dX2_readLine_82 rfl ?_
      refine Dn_ifne (t := 90) (q := 88) C dX2_readLine_85 (by decide) rfl ?_ ?_
      · refine Dn_inc (z := 1) (q := 93) C dX2_readLine_90 (by decide) (by decide) rfl ?_
        refine Dn_goto (t := 42) C dX2_readLine_93 (by decide) ?_
        exact hB42
      · refine Dn_iconst (v := 0) (q := 89) C dX2_readLine_88 (by decide) rfl ?_
        exact Dn_nret C hX dX2_readLine_89
def jX2_readLine_39 : mK := i_push (.int 0) (i_ist 4 (jX2_readLine_42))
set_option maxRecDepth 20000 in
theorem JX2_readLine_39 {X : mC} (C : Cx X rX2_readLine cX2_readLine 5 RX2 (some FieldType.boolean)) (hX : Rx X) : Den X rX2_readLine 5 39 jX2_readLine_39 := by
  unfold jX2_readLine_39
  refine Dn_iconst (v := 0) (q := 40) C dX2_readLine_39 (by decide) rfl ?_
  refine Dn_ist (q := 42) C dX2_readLine_40 (by decide) rfl ?_
  exact JX2_readLine_42 C hX
def jX2_readLine_37 : mK := i_push (.int 0) (i_nret .boolean)
set_option maxRecDepth 20000 in
theorem JX2_readLine_37 {X : mC} (C : Cx X rX2_readLine cX2_readLine 5 RX2 (some FieldType.boolean)) (hX : Rx X) : Den X rX2_readLine 5 37 jX2_readLine_37 := by
  unfold jX2_readLine_37
  refine Dn_iconst (v := 0) (q := 38) C dX2_readLine_37 (by decide) rfl ?_
  exact Dn_nret C hX dX2_readLine_38
def jX2_readLine : mK := i_ald 1 (i_callV 3 0 FX3_takeToken (i_ald 1 (i_call 1 FX2_lineOf (i_ist 3 (i_ild 3 (i_iflt (jX2_readLine_37) (i_ild 3 (i_push (.ref 2000) (i_nlen (i_icge (jX2_readLine_37) (i_ild 3 (i_call 1 FX2_isOfBand (i_ifeq (jX2_readLine_39) (i_ald 2 (i_get 1 5 (i_push (.int 6) (i_iclt (jX2_readLine_39) (jX2_readLine_37))))))))))))))))))
def FX2_readLine : mF := mEnt 5 jX2_readLine
set_option maxRecDepth 20000 in
theorem kX2_readLine (l : Launch) (G : va_G) (tg : Nat → ClassId) : Ct l G tg yX2_readLine cX2_readLine 5 (some FieldType.boolean) rX2_readLine FX2_readLine := by
  refine Ct.of RX2 (by decide) rfl (fun X C hX => ?_)
  unfold jX2_readLine
  refine Dn_ald_n (i := 1) (q := 1) C dX2_readLine_0 rfl rfl ?_
  refine Dn_callV (ci := 3) (T := TX3) (N := 4) (q := 4) C rfl (kX3_takeToken X.l X.G X.tg) q_344 q_341 q_342 q_343 q_45 ⟨rfl, rfl⟩ (by decide +kernel) ⟨by decide, by decide⟩ dX2_readLine_1 rfl ?_
  refine Dn_ald_n (i := 1) (q := 5) C dX2_readLine_4 rfl rfl ?_
  refine Dn_callS (q := 8) C (kX2_lineOf X.l X.G X.tg) q_360 q_358 q_359 q_46 ⟨rfl, rfl⟩ (by decide +kernel) ⟨by decide, by decide⟩ dX2_readLine_5 rfl ?_
  refine Dn_ist_n (i := 3) (q := 9) C dX2_readLine_8 rfl (by decide) rfl ?_
  refine Dn_ild_n (i := 3) (q := 10) C dX2_readLine_9 rfl rfl ?_
  refine Dn_iflt (t := 37) (q := 13) C dX2_readLine_10 (by decide) rfl ?_ ?_
  · exact JX2_readLine_37 C hX
  · refine Dn_ild_n (i := 3) (q := 14) C dX2_readLine_13 rfl rfl ?_
    refine Dn_num (q := 17) C q_428 dX2_readLine_14 rfl ?_
    refine Dn_nlen (q := 18) C dX2_readLine_17 rfl ?_
    refine Dn_icge (t := 37) (q := 21) C dX2_readLine_18 (by decide) rfl ?_ ?_
    · exact JX2_readLine_37 C hX
    · refine Dn_ild_n (i := 3) (q := 22) C dX2_readLine_21 rfl rfl ?_
      refine Dn_callS (q := 25) C (kX2_isOfBand X.l X.G X.tg) q_432 q_430 q_431 q_46 ⟨rfl, rfl⟩ (by decide +kernel) ⟨by decide, by decide⟩ dX2_readLine_22 rfl ?_
      refine Dn_ifeq (t := 39) (q := 28) C dX2_readLine_25 (by decide) rfl ?_ ?_
      · exact JX2_readLine_39 C hX
      · refine Dn_ald_n (i := 2) (q := 29) C dX2_readLine_28 rfl rfl ?_
        refine Dn_get (ci := 1) (j := 5) (T := TX1) (N := 9) (Cn := RX1) (q := 32) C rfl iX1 (by decide) q_123 dX2_readLine_29 rfl ?_
        refine Dn_bipush (v := 6) (q := 34) C dX2_readLine_32 (by decide) rfl ?_
        refine Dn_iclt (t := 39) (q := 37) C dX2_readLine_34 (by decide) rfl ?_ ?_
        · exact JX2_readLine_39 C hX
        · exact JX2_readLine_37 C hX
abbrev rX2_readLines : Room := ({ frames := 7, cells := 0, slots := 0, locals := 152 } : Room)
def jX2_readLines_14 : mK := i_loop (fun B14 => i_ald 0 (i_get 2 0 (i_push (.int 12) (i_icgt (i_ald 1 (i_callV 3 0 FX3_tokenPlace (i_iret))) (i_ald 0 (i_ald 1 (i_ald 3 (i_callV 2 2 FX2_readLine (i_ifne (i_ald 1 (i_callV 3 0 FX3_takeToken (i_ald 1 (i_callV 3 0 FX3_isAtEnd (i_ifeq (i_ald 1 (i_push (.ref (1000 + 12)) (i_callV 3 1 FX3_isToken (i_ifne (i_ald 0 (i_dup (i_get 2 0 (i_push (.int 1) (i_ib (fun x y => x + y) (i_puti 2 0 (B14))))))) (i_ald 1 (i_callV 3 0 FX3_tokenPlace (i_iret))))))) (i_push (.int (-1)) (i_iret))))))) (i_ald 1 (i_callV 3 0 FX3_tokenPlace (i_iret)))))))))))) 1000
set_option maxRecDepth 20000 in
theorem JX2_readLines_14 {X : mC} (C : Cx X rX2_readLines cX2_readLines 4 RX2 (some FieldType.int)) (hX : Rx X) : Den X rX2_readLines 4 14 jX2_readLines_14 := by
  unfold jX2_readLines_14
  refine Dn_loop (fun B14 hB14 => ?_) 1000
  refine Dn_ald_n (i := 0) (q := 15) C dX2_readLines_14 rfl rfl ?_
  refine Dn_get (ci := 2) (j := 0) (T := TX2) (N := 2) (Cn := RX2) (q := 18) C rfl iX2 (by decide) q_92 dX2_readLines_15 rfl ?_
  refine Dn_bipush (v := 12) (q := 20) C dX2_readLines_18 (by decide) rfl ?_
  refine Dn_icgt (t := 77) (q := 23) C dX2_readLines_20 (by decide) rfl ?_ ?_
  · refine Dn_ald_n (i := 1) (q := 78) C dX2_readLines_77 rfl rfl ?_
    refine Dn_callV (ci := 3) (T := TX3) (N := 4) (q := 81) C rfl (kX3_tokenPlace X.l X.G X.tg) q_475 q_472 q_473 q_474 q_45 ⟨rfl, rfl⟩ (by decide +kernel) ⟨by decide, by decide⟩ dX2_readLines_78 rfl ?_
    exact Dn_iret C hX dX2_readLines_81
  · refine Dn_ald_n (i := 0) (q := 24) C dX2_readLines_23 rfl rfl ?_
    refine Dn_ald_n (i := 1) (q := 25) C dX2_readLines_24 rfl rfl ?_
    refine Dn_ald_n (i := 3) (q := 26) C dX2_readLines_25 rfl rfl ?_
    refine Dn_callV (ci := 2) (T := TX2) (N := 2) (q := 29) C rfl (kX2_readLine X.l X.G X.tg) q_340 q_337 q_339 q_2 q_46 ⟨rfl, rfl⟩ (by decide +kernel) ⟨by decide, by decide⟩ dX2_readLines_26 rfl ?_
    refine Dn_ifne (t := 37) (q := 32) C dX2_readLines_29 (by decide) rfl ?_ ?_
    · refine Dn_ald_n (i := 1) (q := 38) C dX2_readLines_37 rfl rfl ?_
      refine Dn_callV (ci := 3) (T := TX3) (N := 4) (q := 41) C rfl (kX3_takeToken X.l X.G X.tg) q_344 q_341 q_342 q_343 q_45 ⟨rfl, rfl⟩ (by decide +kernel) ⟨by decide, by decide⟩ dX2_readLines_38 rfl ?_
      refine Dn_ald_n (i := 1) (q := 42) C dX2_readLines_41 rfl rfl ?_
      refine Dn_callV (ci := 3) (T := TX3) (N := 4) (q := 45) C rfl (kX3_isAtEnd X.l X.G X.tg) q_479 q_476 q_477 q_478 q_45 ⟨rfl, rfl⟩ (by decide +kernel) ⟨by decide, by decide⟩ dX2_readLines_42 rfl ?_
      refine Dn_ifeq (t := 50) (q := 48) C dX2_readLines_45 (by decide) rfl ?_ ?_
      · refine Dn_ald_n (i := 1) (q := 51) C dX2_readLines_50 rfl rfl ?_
        refine Dn_ldcS (i := 12) (q := 53) C (by decide) rfl dX2_readLines_51 rfl ?_
        refine Dn_callV (ci := 3) (T := TX3) (N := 4) (q := 56) C rfl (kX3_isToken X.l X.G X.tg) q_379 q_376 q_377 q_378 q_45 ⟨rfl, rfl⟩ (by decide +kernel) ⟨by decide, by decide⟩ dX2_readLines_53 rfl ?_
        refine Dn_ifne (t := 64) (q := 59) C dX2_readLines_56 (by decide) rfl ?_ ?_
        · refine Dn_ald_n (i := 0) (q := 65) C dX2_readLines_64 rfl rfl ?_
          refine Dn_dup (q := 66) C dX2_readLines_65 rfl ?_
          refine Dn_get (ci := 2) (j := 0) (T := TX2) (N := 2) (Cn := RX2) (q := 69) C rfl iX2 (by decide) q_92 dX2_readLines_66 rfl ?_
          refine Dn_iconst (v := 1) (q := 70) C dX2_readLines_69 (by decide) rfl ?_
          refine Dn_iadd (q := 71) C dX2_readLines_70 rfl ?_
          refine Dn_puti (ci := 2) (j := 0) (T := TX2) (N := 2) (Cn := RX2) (q := 74) C rfl iX2 tyX2 tyX2_ok nmX2 (by decide) q_92 rfl (by decide +kernel) dX2_readLines_71 rfl ?_
          refine Dn_goto (t := 14) C dX2_readLines_74 (by decide) ?_
          exact hB14
        · refine Dn_ald_n (i := 1) (q := 60) C dX2_readLines_59 rfl rfl ?_
          refine Dn_callV (ci := 3) (T := TX3) (N := 4) (q := 63) C rfl (kX3_tokenPlace X.l X.G X.tg) q_475 q_472 q_473 q_474 q_45 ⟨rfl, rfl⟩ (by decide +kernel) ⟨by decide, by decide⟩ dX2_readLines_60 rfl ?_
          exact Dn_iret C hX dX2_readLines_63
      · refine Dn_iconst (v := (-1)) (q := 49) C dX2_readLines_48 (by decide) rfl ?_
        exact Dn_iret C hX dX2_readLines_49
    · refine Dn_ald_n (i := 1) (q := 33) C dX2_readLines_32 rfl rfl ?_
      refine Dn_callV (ci := 3) (T := TX3) (N := 4) (q := 36) C rfl (kX3_tokenPlace X.l X.G X.tg) q_475 q_472 q_473 q_474 q_45 ⟨rfl, rfl⟩ (by decide +kernel) ⟨by decide, by decide⟩ dX2_readLines_33 rfl ?_
      exact Dn_iret C hX dX2_readLines_36
def jX2_readLines : mK := i_ald 3 (i_ald 2 (i_callV 1 1 FX1_become (i_ald 1 (i_callV 3 0 FX3_rewind (i_ald 0 (i_push (.int 1) (i_puti 2 0 (jX2_readLines_14))))))))
def FX2_readLines : mF := mEnt 4 jX2_readLines
set_option maxRecDepth 20000 in
theorem kX2_readLines (l : Launch) (G : va_G) (tg : Nat → ClassId) : Ct l G tg yX2_readLines cX2_readLines 4 (some FieldType.int) rX2_readLines FX2_readLines := by
  refine Ct.of RX2 (by decide) rfl (fun X C hX => ?_)
  unfold jX2_readLines
  refine Dn_ald_n (i := 3) (q := 1) C dX2_readLines_0 rfl rfl ?_
  refine Dn_ald_n (i := 2) (q := 2) C dX2_readLines_1 rfl rfl ?_
  refine Dn_callV (ci := 1) (T := TX1) (N := 9) (q := 5) C rfl (kX1_become X.l X.G X.tg) q_329 q_326 q_327 q_328 q_47 ⟨rfl, rfl⟩ (by decide +kernel) ⟨by decide, by decide⟩ dX2_readLines_2 rfl ?_
  refine Dn_ald_n (i := 1) (q := 6) C dX2_readLines_5 rfl rfl ?_
  refine Dn_callV (ci := 3) (T := TX3) (N := 4) (q := 9) C rfl (kX3_rewind X.l X.G X.tg) q_336 q_333 q_334 q_335 q_45 ⟨rfl, rfl⟩ (by decide +kernel) ⟨by decide, by decide⟩ dX2_readLines_6 rfl ?_
  refine Dn_ald_n (i := 0) (q := 10) C dX2_readLines_9 rfl rfl ?_
  refine Dn_iconst (v := 1) (q := 11) C dX2_readLines_10 (by decide) rfl ?_
  refine Dn_puti (ci := 2) (j := 0) (T := TX2) (N := 2) (Cn := RX2) (q := 14) C rfl iX2 tyX2 tyX2_ok nmX2 (by decide) q_92 rfl (by decide +kernel) dX2_readLines_11 rfl ?_
  exact JX2_readLines_14 C hX
