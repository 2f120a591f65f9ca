abbrev rX3_rewind : Room := ({ frames := 0, cells := 0, slots := 0, locals := 0 } : Room)
def jX3_rewind : mK := i_ald 0 (i_push (.int 0) (i_puti 3 3 (i_vret)))
def FX3_rewind : mF := mEnt 1 jX3_rewind
set_option maxRecDepth 20000 in
theorem kX3_rewind (l : Launch) (G : va_G) (tg : Nat → ClassId) : Ct l G tg yX3_rewind cX3_rewind 1 none rX3_rewind FX3_rewind := by
  refine Ct.of RX3 (by decide) rfl (fun X C hX => ?_)
  unfold jX3_rewind
  refine Dn_ald_n (i := 0) (q := 1) C dX3_rewind_0 rfl rfl ?_
  refine Dn_iconst (v := 0) (q := 2) C dX3_rewind_1 (by decide) rfl ?_
  refine Dn_puti (ci := 3) (j := 3) (T := TX3) (N := 4) (Cn := RX3) (q := 5) C rfl iX3 tyX3 tyX3_ok nmX3 (by decide) q_75 rfl (by decide +kernel) dX3_rewind_2 rfl ?_
  exact Dn_vret C hX dX3_rewind_5
abbrev rX3_byteAt : Room := ({ frames := 0, cells := 0, slots := 0, locals := 0 } : Room)
def jX3_byteAt_29 : mK := i_iret
set_option maxRecDepth 20000 in
theorem JX3_byteAt_29 {X : mC} (C : Cx X rX3_byteAt cX3_byteAt 2 RX3 (some FieldType.int)) (hX : Rx X) : Den X rX3_byteAt 2 29 jX3_byteAt_29 := by
  unfold jX3_byteAt_29
  exact Dn_iret C hX dX3_byteAt_29
def jX3_byteAt_28 : mK := i_push (.int (-1)) (jX3_byteAt_29)
set_option maxRecDepth 20000 in
theorem JX3_byteAt_28 {X : mC} (C : Cx X rX3_byteAt cX3_byteAt 2 RX3 (some FieldType.int)) (hX : Rx X) : Den X rX3_byteAt 2 28 jX3_byteAt_28 := by
  unfold jX3_byteAt_28
  refine Dn_iconst (v := (-1)) (q := 29) C dX3_byteAt_28 (by decide) rfl ?_
  exact JX3_byteAt_29 C hX
def jX3_byteAt : mK := i_ild 1 (i_iflt (jX3_byteAt_28) (i_ild 1 (i_ald 0 (i_get 3 0 (i_icge (jX3_byteAt_28) (i_ild 1 (i_push (.int 200) (i_icge (jX3_byteAt_28) (i_ald 0 (i_get 3 1 (i_ild 1 (i_iald (jX3_byteAt_29)))))))))))))
def FX3_byteAt : mF := mEnt 2 jX3_byteAt
set_option maxRecDepth 20000 in
theorem kX3_byteAt (l : Launch) (G : va_G) (tg : Nat → ClassId) : Ct l G tg yX3_byteAt cX3_byteAt 2 (some FieldType.int) rX3_byteAt FX3_byteAt := by
  refine Ct.of RX3 (by decide) rfl (fun X C hX => ?_)
  unfold jX3_byteAt
  refine Dn_ild_n (i := 1) (q := 1) C dX3_byteAt_0 rfl rfl ?_
  refine Dn_iflt (t := 28) (q := 4) C dX3_byteAt_1 (by decide) rfl ?_ ?_
  · exact JX3_byteAt_28 C hX
  · refine Dn_ild_n (i := 1) (q := 5) C dX3_byteAt_4 rfl rfl ?_
    refine Dn_ald_n (i := 0) (q := 6) C dX3_byteAt_5 rfl rfl ?_
    refine Dn_get (ci := 3) (j := 0) (T := TX3) (N := 4) (Cn := RX3) (q := 9) C rfl iX3 (by decide) q_71 dX3_byteAt_6 rfl ?_
    refine Dn_icge (t := 28) (q := 12) C dX3_byteAt_9 (by decide) rfl ?_ ?_
    · exact JX3_byteAt_28 C hX
    · refine Dn_ild_n (i := 1) (q := 13) C dX3_byteAt_12 rfl rfl ?_
      refine Dn_sipush (v := 200) (q := 16) C dX3_byteAt_13 (by decide) rfl ?_
      refine Dn_icge (t := 28) (q := 19) C dX3_byteAt_16 (by decide) rfl ?_ ?_
      · exact JX3_byteAt_28 C hX
      · refine Dn_ald_n (i := 0) (q := 20) C dX3_byteAt_19 rfl rfl ?_
        refine Dn_get (ci := 3) (j := 1) (T := TX3) (N := 4) (Cn := RX3) (q := 23) C rfl iX3 (by decide) q_73 dX3_byteAt_20 rfl ?_
        refine Dn_ild_n (i := 1) (q := 24) C dX3_byteAt_23 rfl rfl ?_
        refine Dn_iald (q := 25) C dX3_byteAt_24 rfl ?_
        refine Dn_goto (t := 29) C dX3_byteAt_25 (by decide) ?_
        exact JX3_byteAt_29 C hX
abbrev rX3_isDigit : Room := ({ frames := 0, cells := 0, slots := 0, locals := 0 } : Room)
def jX3_isDigit_17 : mK := i_nret .boolean
set_option maxRecDepth 20000 in
theorem JX3_isDigit_17 {X : mC} (C : Cx X rX3_isDigit cX3_isDigit 1 RX3 (some FieldType.boolean)) (hX : Rx X) : Den X rX3_isDigit 1 17 jX3_isDigit_17 := by
  unfold jX3_isDigit_17
  exact Dn_nret C hX dX3_isDigit_17
def jX3_isDigit_16 : mK := i_push (.int 0) (jX3_isDigit_17)
set_option maxRecDepth 20000 in
theorem JX3_isDigit_16 {X : mC} (C : Cx X rX3_isDigit cX3_isDigit 1 RX3 (some FieldType.boolean)) (hX : Rx X) : Den X rX3_isDigit 1 16 jX3_isDigit_16 := by
  unfold jX3_isDigit_16
  refine Dn_iconst (v := 0) (q := 17) C dX3_isDigit_16 (by decide) rfl ?_
  exact JX3_isDigit_17 C hX
def jX3_isDigit : mK := i_ild 0 (i_push (.int 48) (i_iclt (jX3_isDigit_16) (i_ild 0 (i_push (.int 57) (i_icgt (jX3_isDigit_16) (i_push (.int 1) (jX3_isDigit_17)))))))
def FX3_isDigit : mF := mEnt 1 jX3_isDigit
set_option maxRecDepth 20000 in
theorem kX3_isDigit (l : Launch) (G : va_G) (tg : Nat → ClassId) : Ct l G tg yX3_isDigit cX3_isDigit 1 (some FieldType.boolean) rX3_isDigit FX3_isDigit := by
  refine Ct.of RX3 (by decide) rfl (fun X C hX => ?_)
  unfold jX3_isDigit
  refine Dn_ild_n (i := 0) (q := 1) C dX3_isDigit_0 rfl rfl ?_
  refine Dn_bipush (v := 48) (q := 3) C dX3_isDigit_1 (by decide) rfl ?_
  refine Dn_iclt (t := 16) (q := 6) C dX3_isDigit_3 (by decide) rfl ?_ ?_
  · exact JX3_isDigit_16 C hX
  · refine Dn_ild_n (i := 0) (q := 7) C dX3_isDigit_6 rfl rfl ?_
    refine Dn_bipush (v := 57) (q := 9) C dX3_isDigit_7 (by decide) rfl ?_
    refine Dn_icgt (t := 16) (q := 12) C dX3_isDigit_9 (by decide) rfl ?_ ?_
    · exact JX3_isDigit_16 C hX
    · refine Dn_iconst (v := 1) (q := 13) C dX3_isDigit_12 (by decide) rfl ?_
      refine Dn_goto (t := 17) C dX3_isDigit_13 (by decide) ?_
      exact JX3_isDigit_17 C hX
abbrev rX3_isLetter : Room := ({ frames := 0, cells := 0, slots := 0, locals := 0 } : Room)
def jX3_isLetter_17 : mK := i_nret .boolean
set_option maxRecDepth 20000 in
theorem JX3_isLetter_17 {X : mC} (C : Cx X rX3_isLetter cX3_isLetter 1 RX3 (some FieldType.boolean)) (hX : Rx X) : Den X rX3_isLetter 1 17 jX3_isLetter_17 := by
  unfold jX3_isLetter_17
  exact Dn_nret C hX dX3_isLetter_17
def jX3_isLetter_16 : mK := i_push (.int 0) (jX3_isLetter_17)
set_option maxRecDepth 20000 in
theorem JX3_isLetter_16 {X : mC} (C : Cx X rX3_isLetter cX3_isLetter 1 RX3 (some FieldType.boolean)) (hX : Rx X) : Den X rX3_isLetter 1 16 jX3_isLetter_16 := by
  unfold jX3_isLetter_16
  refine Dn_iconst (v := 0) (q := 17) C dX3_isLetter_16 (by decide) rfl ?_
  exact JX3_isLetter_17 C hX
def jX3_isLetter : mK := i_ild 0 (i_push (.int 97) (i_iclt (jX3_isLetter_16) (i_ild 0 (i_push (.int 122) (i_icgt (jX3_isLetter_16) (i_push (.int 1) (jX3_isLetter_17)))))))
def FX3_isLetter : mF := mEnt 1 jX3_isLetter
set_option maxRecDepth 20000 in
theorem kX3_isLetter (l : Launch) (G : va_G) (tg : Nat → ClassId) : Ct l G tg yX3_isLetter cX3_isLetter 1 (some FieldType.boolean) rX3_isLetter FX3_isLetter := by
  refine Ct.of RX3 (by decide) rfl (fun X C hX => ?_)
  unfold jX3_isLetter
  refine Dn_ild_n (i := 0) (q := 1) C dX3_isLetter_0 rfl rfl ?_
  refine Dn_bipush (v := 97) (q := 3) C dX3_isLetter_1 (by decide) rfl ?_
  refine Dn_iclt (t := 16) (q := 6) C dX3_isLetter_3 (by decide) rfl ?_ ?_
  · exact JX3_isLetter_16 C hX
  · refine Dn_ild_n (i := 0) (q := 7) C dX3_isLetter_6 rfl rfl ?_
    refine Dn_bipush (v := 122) (q := 9) C dX3_isLetter_7 (by decide) rfl ?_
    refine Dn_icgt (t := 16) (q := 12) C dX3_isLetter_9 (by decide) rfl ?_ ?_
    · exact JX3_isLetter_16 C hX
    · refine Dn_iconst (v := 1) (q := 13) C dX3_isLetter_12 (by decide) rfl ?_
      refine Dn_goto (t := 17) C dX3_isLetter_13 (by decide) ?_
      exact JX3_isLetter_17 C hX
abbrev rX3_areOfOneRow : Room := ({ frames := 1, cells := 0, slots := 0, locals := 20 } : Room)
def jX3_areOfOneRow_33 : mK := i_nret .boolean
set_option maxRecDepth 20000 in
theorem JX3_areOfOneRow_33 {X : mC} (C : Cx X rX3_areOfOneRow cX3_areOfOneRow 2 RX3 (some FieldType.boolean)) (hX : Rx X) : Den X rX3_areOfOneRow 2 33 jX3_areOfOneRow_33 := by
  unfold jX3_areOfOneRow_33
  exact Dn_nret C hX dX3_areOfOneRow_33
def jX3_areOfOneRow_32 : mK := i_push (.int 0) (jX3_areOfOneRow_33)
set_option maxRecDepth 20000 in
theorem JX3_areOfOneRow_32 {X : mC} (C : Cx X rX3_areOfOneRow cX3_areOfOneRow 2 RX3 (some FieldType.boolean)) (hX : Rx X) : Den X rX3_areOfOneRow 2 32 jX3_areOfOneRow_32 := by
  unfold jX3_areOfOneRow_32
  refine Dn_iconst (v := 0) (q := 33) C dX3_areOfOneRow_32 (by decide) rfl ?_
  exact JX3_areOfOneRow_33 C hX
def jX3_areOfOneRow_28 : mK := i_push (.int 1) (jX3_areOfOneRow_33)
set_option maxRecDepth 20000 in
theorem JX3_areOfOneRow_28 {X : mC} (C : Cx X rX3_areOfOneRow cX3_areOfOneRow 2 RX3 (some FieldType.boolean)) (hX : Rx X) : Den X rX3_areOfOneRow 2 28 jX3_areOfOneRow_28 := by
  unfold jX3_areOfOneRow_28
  refine Dn_iconst (v := 1) (q := 29) C dX3_areOfOneRow_28 (by decide) rfl ?_
  refine Dn_goto (t := 33) C dX3_areOfOneRow_29 (by decide) ?_
  exact JX3_areOfOneRow_33 C hX
def jX3_areOfOneRow_14 : mK := i_ild 0 (i_call 1 FX3_isLetter (i_ifeq (jX3_areOfOneRow_32) (i_ild 1 (i_call 1 FX3_isLetter (i_ifeq (jX3_areOfOneRow_32) (jX3_areOfOneRow_28))))))
set_option maxRecDepth 20000 in
theorem JX3_areOfOneRow_14 {X : mC} (C : Cx X rX3_areOfOneRow cX3_areOfOneRow 2 RX3 (some FieldType.boolean)) (hX : Rx X) : Den X rX3_areOfOneRow 2 14 jX3_areOfOneRow_14 := by
  unfold jX3_areOfOneRow_14
  refine Dn_ild_n (i := 0) (q := 15) C dX3_areOfOneRow_14 rfl rfl ?_
  refine Dn_callS (q := 18) C (kX3_isLetter X.l X.G X.tg) q_357 q_355 q_356 q_45 ⟨rfl, rfl⟩ (by decide +kernel) ⟨by decide, by decide⟩ dX3_areOfOneRow_15 rfl ?_
  refine Dn_ifeq (t := 32) (q := 21) C dX3_areOfOneRow_18 (by decide) rfl ?_ ?_
  · exact JX3_areOfOneRow_32 C hX
  · refine Dn_ild_n (i := 1) (q := 22) C dX3_areOfOneRow_21 rfl rfl ?_
    refine Dn_callS (q := 25) C (kX3_isLetter X.l X.G X.tg) q_357 q_355 q_356 q_45 ⟨rfl, rfl⟩ (by decide +kernel) ⟨by decide, by decide⟩ dX3_areOfOneRow_22 rfl ?_
    refine Dn_ifeq (t := 32) (q := 28) C dX3_areOfOneRow_25 (by decide) rfl ?_ ?_
    · exact JX3_areOfOneRow_32 C hX
    · exact JX3_areOfOneRow_28 C hX
def jX3_areOfOneRow : mK := i_ild 0 (i_call 1 FX3_isDigit (i_ifeq (jX3_areOfOneRow_14) (i_ild 1 (i_call 1 FX3_isDigit (i_ifne (jX3_areOfOneRow_28) (jX3_areOfOneRow_14))))))
def FX3_areOfOneRow : mF := mEnt 2 jX3_areOfOneRow
set_option maxRecDepth 20000 in
theorem kX3_areOfOneRow (l : Launch) (G : va_G) (tg : Nat → ClassId) : Ct l G tg yX3_areOfOneRow cX3_areOfOneRow 2 (some FieldType.boolean) rX3_areOfOneRow FX3_areOfOneRow := by
  refine Ct.of RX3 (by decide) rfl (fun X C hX => ?_)
  unfold jX3_areOfOneRow
  refine Dn_ild_n (i := 0) (q := 1) C dX3_areOfOneRow_0 rfl rfl ?_
  refine Dn_callS (q := 4) C (kX3_isDigit X.l X.G X.tg) q_354 q_352 q_353 q_45 ⟨rfl, rfl⟩ (by decide +kernel) ⟨by decide, by decide⟩ dX3_areOfOneRow_1 rfl ?_
  refine Dn_ifeq (t := 14) (q := 7) C dX3_areOfOneRow_4 (by decide) rfl ?_ ?_
  · exact JX3_areOfOneRow_14 C hX
  · refine Dn_ild_n (i := 1) (q := 8) C dX3_areOfOneRow_7 rfl rfl ?_
    refine Dn_callS (q := 11) C (kX3_isDigit X.l X.G X.tg) q_354 q_352 q_353 q_45 ⟨rfl, rfl⟩ (by decide +kernel) ⟨by decide, by decide⟩ dX3_areOfOneRow_8 rfl ?_
    refine Dn_ifne (t := 28) (q := 14) C dX3_areOfOneRow_11 (by decide) rfl ?_ ?_
    · exact JX3_areOfOneRow_28 C hX
    · exact JX3_areOfOneRow_14 C hX
abbrev rX3_takeToken : Room := ({ frames := 2, cells := 0, slots := 0, locals := 41 } : Room)
def jX3_takeToken_119 : mK := i_vret
set_option maxRecDepth 20000 in
theorem JX3_takeToken_119 {X : mC} (C : Cx X rX3_takeToken cX3_takeToken 1 RX3 none) (hX : Rx X) : Den X rX3_takeToken 1 119 jX3_takeToken_119 := by
  unfold jX3_takeToken_119
  exact Dn_vret C hX dX3_takeToken_119
def jX3_takeToken_73 : mK := i_loop (fun B73 => i_ald 0 (i_get 3 3 (i_ald 0 (i_get 3 0 (i_icge (jX3_takeToken_119) (i_ald 0 (i_ald 0 (i_get 3 2 (i_callV 3 1 FX3_byteAt (i_ald 0 (i_ald 0 (i_get 3 3 (i_callV 3 1 FX3_byteAt (i_call 2 FX3_areOfOneRow (i_ifeq (jX3_takeToken_119) (i_ald 0 (i_dup (i_get 3 3 (i_push (.int 1) (i_ib (fun x y => x + y) (i_puti 3 3 (B73)))))))))))))))))))))) 1000
set_option maxRecDepth 20000 in
theorem JX3_takeToken_73 {X : mC} (C : Cx X rX3_takeToken cX3_takeToken 1 RX3 none) (hX : Rx X) : Den X rX3_takeToken 1 73 jX3_takeToken_73 := by
  unfold jX3_takeToken_73
  refine Dn_loop (fun B73 hB73 => ?_) 1000
  refine Dn_ald_n (i := 0) (q := 74) C dX3_takeToken_73 rfl rfl ?_
  refine Dn_get (ci := 3) (j := 3) (T := TX3) (N := 4) (Cn := RX3) (q := 77) C rfl iX3 (by decide) q_75 dX3_takeToken_74 rfl ?_
  refine Dn_ald_n (i := 0) (q := 78) C dX3_takeToken_77 rfl rfl ?_
  refine Dn_get (ci := 3) (j := 0) (T := TX3) (N := 4) (Cn := RX3) (q := 81) C rfl iX3 (by decide) q_71 dX3_takeToken_78 rfl ?_
  refine Dn_icge (t := 119) (q := 84) C dX3_takeToken_81 (by decide) rfl ?_ ?_
  · exact JX3_takeToken_119 C hX
  · refine Dn_ald_n (i := 0) (q := 85) C dX3_takeToken_84 rfl rfl ?_
    refine Dn_ald_n (i := 0) (q := 86) C dX3_takeToken_85 rfl rfl ?_
    refine Dn_get (ci := 3) (j := 2) (T := TX3) (N := 4) (Cn := RX3) (q := 89) C rfl iX3 (by decide) q_74 dX3_takeToken_86 rfl ?_
    refine Dn_callV (ci := 3) (T := TX3) (N := 4) (q := 92) C rfl (kX3_byteAt X.l X.G X.tg) q_348 q_345 q_347 q_3 q_45 ⟨rfl, rfl⟩ (by decide +kernel) ⟨by decide, by decide⟩ dX3_takeToken_89 rfl ?_
    refine Dn_ald_n (i := 0) (q := 93) C dX3_takeToken_92 rfl rfl ?_
    refine Dn_ald_n (i := 0) (q := 94) C dX3_takeToken_93 rfl rfl ?_
    refine Dn_get (ci := 3) (j := 3) (T := TX3) (N := 4) (Cn := RX3) (q := 97) C rfl iX3 (by decide) q_75 dX3_takeToken_94 rfl ?_
    refine Dn_callV (ci := 3) (T := TX3) (N := 4) (q := 100) C rfl (kX3_byteAt X.l X.G X.tg) q_348 q_345 q_347 q_3 q_45 ⟨rfl, rfl⟩ (by decide +kernel) ⟨by decide, by decide⟩ dX3_takeToken_97 rfl ?_
    refine Dn_callS (q := 103) C (kX3_areOfOneRow X.l X.G X.tg) q_351 q_349 q_350 q_45 ⟨rfl, rfl⟩ (by decide +kernel) ⟨by decide, by decide⟩ dX3_takeToken_100 rfl ?_
    refine Dn_ifeq (t := 119) (q := 106) C dX3_takeToken_103 (by decide) rfl ?_ ?_
    · exact JX3_takeToken_119 C hX
    · refine Dn_ald_n (i := 0) (q := 107) C dX3_takeToken_106 rfl rfl ?_
      refine Dn_dup (q := 108) C dX3_takeToken_107 rfl ?_
      refine Dn_get (ci := 3) (j := 3) (T := TX3) (N := 4) (Cn := RX3) (q := 111) C rfl iX3 (by decide) q_75 dX3_takeToken_108 rfl ?_
      refine Dn_iconst (v := 1) (q := 112) C dX3_takeToken_111 (by decide) rfl ?_
      refine Dn_iadd (q := 113) C dX3_takeToken_112 rfl ?_
      refine Dn_puti (ci := 3) (j := 3) (T := TX3) (N := 4) (Cn := RX3) (q := 116) C rfl iX3 tyX3 tyX3_ok nmX3 (by decide) q_75 rfl (by decide +kernel) dX3_takeToken_113 rfl ?_
      refine Dn_goto (t := 73) C dX3_takeToken_116 (by decide) ?_
      exact hB73
def jX3_takeToken_70 : mK := i_puti 3 3 (jX3_takeToken_73)
set_option maxRecDepth 20000 in
theorem JX3_takeToken_70 {X : mC} (C : Cx X rX3_takeToken cX3_takeToken 1 RX3 none) (hX : Rx X) : Den X rX3_takeToken 1 70 jX3_takeToken_70 := by
  unfold jX3_takeToken_70
  refine Dn_puti (ci := 3) (j := 3) (T := TX3) (N := 4) (Cn := RX3) (q := 73) C rfl iX3 tyX3 tyX3_ok nmX3 (by decide) q_75 rfl (by decide +kernel) dX3_takeToken_70 rfl ?_
  exact JX3_takeToken_73 C hX
def jX3_takeToken_45 : mK := i_ald 0 (i_ald 0 (i_get 3 2 (i_ald 0 (i_get 3 0 (i_icge (i_ald 0 (i_get 3 2 (jX3_takeToken_70))) (i_ald 0 (i_get 3 2 (i_push (.int 1) (i_ib (fun x y => x + y) (jX3_takeToken_70))))))))))
set_option maxRecDepth 20000 in
theorem JX3_takeToken_45 {X : mC} (C : Cx X rX3_takeToken cX3_takeToken 1 RX3 none) (hX : Rx X) : Den X rX3_takeToken 1 45 jX3_takeToken_45 := by
  unfold jX3_takeToken_45
  refine Dn_ald_n (i := 0) (q := 46) C dX3_takeToken_45 rfl rfl ?_
  refine Dn_ald_n (i := 0) (q := 47) C dX3_takeToken_46 rfl rfl ?_
  refine Dn_get (ci := 3) (j := 2) (T := TX3) (N := 4) (Cn := RX3) (q := 50) C rfl iX3 (by decide) q_74 dX3_takeToken_47 rfl ?_
  refine Dn_ald_n (i := 0) (q := 51) C dX3_takeToken_50 rfl rfl ?_
  refine Dn_get (ci := 3) (j := 0) (T := TX3) (N := 4) (Cn := RX3) (q := 54) C rfl iX3 (by decide) q_71 dX3_takeToken_51 rfl ?_
  refine Dn_icge (t := 66) (q := 57) C dX3_takeToken_54 (by decide) rfl ?_ ?_
  · refine Dn_ald_n (i := 0) (q := 67) C dX3_takeToken_66 rfl rfl ?_
    refine Dn_get (ci := 3) (j := 2) (T := TX3) (N := 4) (Cn := RX3) (q := 70) C rfl iX3 (by decide) q_74 dX3_takeToken_67 rfl ?_
    exact JX3_takeToken_70 C hX
  · refine Dn_ald_n (i := 0) (q := 58) C dX3_takeToken_57 rfl rfl ?_
    refine Dn_get (ci := 3) (j := 2) (T := TX3) (N := 4) (Cn := RX3) (q := 61) C rfl iX3 (by decide) q_74 dX3_takeToken_58 rfl ?_
    refine Dn_iconst (v := 1) (q := 62) C dX3_takeToken_61 (by decide) rfl ?_
    refine Dn_iadd (q := 63) C dX3_takeToken_62 rfl ?_
    refine Dn_goto (t := 70) C dX3_takeToken_63 (by decide) ?_
    exact JX3_takeToken_70 C hX
def jX3_takeToken_8 : mK := i_loop (fun B8 => i_ald 0 (i_get 3 2 (i_ald 0 (i_get 3 0 (i_icge (jX3_takeToken_45) (i_ald 0 (i_ald 0 (i_get 3 2 (i_callV 3 1 FX3_byteAt (i_push (.int 32) (i_icne (jX3_takeToken_45) (i_ald 0 (i_dup (i_get 3 2 (i_push (.int 1) (i_ib (fun x y => x + y) (i_puti 3 2 (B8)))))))))))))))))) 1000
set_option maxRecDepth 20000 in
theorem JX3_takeToken_8 {X : mC} (C : Cx X rX3_takeToken cX3_takeToken 1 RX3 none) (hX : Rx X) : Den X rX3_takeToken 1 8 jX3_takeToken_8 := by
  unfold jX3_takeToken_8
  refine Dn_loop (fun B8 hB8 => ?_) 1000
  refine Dn_ald_n (i := 0) (q := 9) C dX3_takeToken_8 rfl rfl ?_
  refine Dn_get (ci := 3) (j := 2) (T := TX3) (N := 4) (Cn := RX3) (q := 12) C rfl iX3 (by decide) q_74 dX3_takeToken_9 rfl ?_
  refine Dn_ald_n (i := 0) (q := 13) C dX3_takeToken_12 rfl rfl ?_
  refine Dn_get (ci := 3) (j := 0) (T := TX3) (N := 4) (Cn := RX3) (q := 16) C rfl iX3 (by decide) q_71 dX3_takeToken_13 rfl ?_
  refine Dn_icge (t := 45) (q := 19) C dX3_takeToken_16 (by decide) rfl ?_ ?_
  · exact JX3_takeToken_45 C hX
  · refine Dn_ald_n (i := 0) (q := 20) C dX3_takeToken_19 rfl rfl ?_
    refine Dn_ald_n (i := 0) (q := 21) C dX3_takeToken_20 rfl rfl ?_
    refine Dn_get (ci := 3) (j := 2) (T := TX3) (N := 4) (Cn := RX3) (q := 24) C rfl iX3 (by decide) q_74 dX3_takeToken_21 rfl ?_
    refine Dn_callV (ci := 3) (T := TX3) (N := 4) (q := 27) C rfl (kX3_byteAt X.l X.G X.tg) q_348 q_345 q_347 q_3 q_45 ⟨rfl, rfl⟩ (by decide +kernel) ⟨by decide, by decide⟩ dX3_takeToken_24 rfl ?_
    refine Dn_bipush (v := 32) (q := 29) C dX3_takeToken_27 (by decide) rfl ?_
    refine Dn_icne (t := 45) (q := 32) C dX3_takeToken_29 (by decide) rfl ?_ ?_
    · exact JX3_takeToken_45 C hX
    · refine Dn_ald_n (i := 0) (q := 33) C dX3_takeToken_32 rfl rfl ?_
      refine Dn_dup (q := 34) C dX3_takeToken_33 rfl ?_
      refine Dn_get (ci := 3) (j := 2) (T := TX3) (N := 4) (Cn := RX3) (q := 37) C rfl iX3 (by decide) q_74 dX3_takeToken_34 rfl ?_
      refine Dn_iconst (v := 1) (q := 38) C dX3_takeToken_37 (by decide) rfl ?_
      refine Dn_iadd (q := 39) C dX3_takeToken_38 rfl ?_
      refine Dn_puti (ci := 3) (j := 2) (T := TX3) (N := 4) (Cn := RX3) (q := 42) C rfl iX3 tyX3 tyX3_ok nmX3 (by decide) q_74 rfl (by decide +kernel) dX3_takeToken_39 rfl ?_
      refine Dn_goto (t := 8) C dX3_takeToken_42 (by decide) ?_
      exact hB8
def jX3_takeToken : mK := i_ald 0 (i_ald 0 (i_get 3 3 (i_puti 3 2 (jX3_takeToken_8))))
def FX3_takeToken : mF := mEnt 1 jX3_takeToken
set_option maxRecDepth 20000 in
theorem kX3_takeToken (l : Launch) (G : va_G) (tg : Nat → ClassId) : Ct l G tg yX3_takeToken cX3_takeToken 1 none rX3_takeToken FX3_takeToken := by
  refine Ct.of RX3 (by decide) rfl (fun X C hX => ?_)
  unfold jX3_takeToken
  refine Dn_ald_n (i := 0) (q := 1) C dX3_takeToken_0 rfl rfl ?_
  refine Dn_ald_n (i := 0) (q := 2) C dX3_takeToken_1 rfl rfl ?_
  refine Dn_get (ci := 3) (j := 3) (T := TX3) (N := 4) (Cn := RX3) (q := 5) C rfl iX3 (by decide) q_75 dX3_takeToken_2 rfl ?_
  refine Dn_puti (ci := 3) (j := 2) (T := TX3) (N := 4) (Cn := RX3) (q := 8) C rfl iX3 tyX3 tyX3_ok nmX3 (by decide) q_74 rfl (by decide +kernel) dX3_takeToken_5 rfl ?_
  exact JX3_takeToken_8 C hX
abbrev rX3_isToken : Room := ({ frames := 4, cells := 0, slots := 0, locals := 85 } : Room)
def jX3_isToken_20 : mK := i_loop (fun B20 => i_ild 2 (i_ald 1 (i_callT 0 FJ0_length_8abf5 (i_icge (i_push (.int 1) (i_nret .boolean)) (i_ald 0 (i_ald 0 (i_get 3 2 (i_ild 2 (i_ib (fun x y => x + y) (i_callV 3 1 FX3_byteAt (i_ald 1 (i_ild 2 (i_callT 1 FJ0_charAt_5068e (i_iceq (i_inc 2 1 (B20)) (i_push (.int 0) (i_nret .boolean)))))))))))))))) 1000
set_option maxRecDepth 20000 in
theorem JX3_isToken_20 {X : mC} (C : Cx X rX3_isToken cX3_isToken 3 RX3 (some FieldType.boolean)) (hX : Rx X) : Den X rX3_isToken 3 20 jX3_isToken_20 := by
  unfold jX3_isToken_20
  refine Dn_loop (fun B20 hB20 => ?_) 1000
  refine Dn_ild_n (i := 2) (q := 21) C dX3_isToken_20 rfl rfl ?_
  refine Dn_ald_n (i := 1) (q := 22) C dX3_isToken_21 rfl rfl ?_
  refine Dn_callT (q := 25) C rfl (kJ0_length_8abf5 X.l X.G X.tg) q_383 q_380 q_381 q_382 q_52 ⟨rfl, rfl⟩ (by decide +kernel) ⟨by decide, by decide⟩ dX3_isToken_22 rfl ?_
  refine Dn_icge (t := 54) (q := 28) C dX3_isToken_25 (by decide) rfl ?_ ?_
  · refine Dn_iconst (v := 1) (q := 55) C dX3_isToken_54 (by decide) rfl ?_
    exact Dn_nret C hX dX3_isToken_55
  · refine Dn_ald_n (i := 0) (q := 29) C dX3_isToken_28 rfl rfl ?_
    refine Dn_ald_n (i := 0) (q := 30) C dX3_isToken_29 rfl rfl ?_
    refine Dn_get (ci := 3) (j := 2) (T := TX3) (N := 4) (Cn := RX3) (q := 33) C rfl iX3 (by decide) q_74 dX3_isToken_30 rfl ?_
    refine Dn_ild_n (i := 2) (q := 34) C dX3_isToken_33 rfl rfl ?_
    refine Dn_iadd (q := 35) C dX3_isToken_34 rfl ?_
    refine Dn_callV (ci := 3) (T := TX3) (N := 4) (q := 38) C rfl (kX3_byteAt X.l X.G X.tg) q_348 q_345 q_347 q_3 q_45 ⟨rfl, rfl⟩ (by decide +kernel) ⟨by decide, by decide⟩ dX3_isToken_35 rfl ?_
    refine Dn_ald_n (i := 1) (q := 39) C dX3_isToken_38 rfl rfl ?_
    refine Dn_ild_n (i := 2) (q := 40) C dX3_isToken_39 rfl rfl ?_
    refine Dn_callT (q := 43) C rfl (kJ0_charAt_5068e X.l X.G X.tg) q_393 q_390 q_391 q_392 q_52 ⟨rfl, rfl⟩ (by decide +kernel) ⟨by decide, by decide⟩ dX3_isToken_40 rfl ?_
    refine Dn_iceq (t := 48) (q := 46) C dX3_isToken_43 (by decide) rfl ?_ ?_
    · refine Dn_inc (z := 1) (q := 51) C dX3_isToken_48 (by decide) (by decide) rfl ?_
      refine Dn_goto (t := 20) C dX3_isToken_51 (by decide) ?_
      exact hB20
    · refine Dn_iconst (v := 0) (q := 47) C dX3_isToken_46 (by decide) rfl ?_
      exact Dn_nret C hX dX3_isToken_47
def jX3_isToken : mK := i_ald 0 (i_get 3 3 (i_ald 0 (i_get 3 2 (i_ib (fun x y => x - y) (i_ald 1 (i_callT 0 FJ0_length_8abf5 (i_iceq (i_push (.int 0) (i_ist 2 (jX3_isToken_20))) (i_push (.int 0) (i_nret .boolean)))))))))
def FX3_isToken : mF := mEnt 3 jX3_isToken
set_option maxRecDepth 20000 in
theorem kX3_isToken (l : Launch) (G : va_G) (tg : Nat → ClassId) : Ct l G tg yX3_isToken cX3_isToken 3 (some FieldType.boolean) rX3_isToken FX3_isToken := by
  refine Ct.of RX3 (by decide) rfl (fun X C hX => ?_)
  unfold jX3_isToken
  refine Dn_ald_n (i := 0) (q := 1) C dX3_isToken_0 rfl rfl ?_
  refine Dn_get (ci := 3) (j := 3) (T := TX3) (N := 4) (Cn := RX3) (q := 4) C rfl iX3 (by decide) q_75 dX3_isToken_1 rfl ?_
  refine Dn_ald_n (i := 0) (q := 5) C dX3_isToken_4 rfl rfl ?_
  refine Dn_get (ci := 3) (j := 2) (T := TX3) (N := 4) (Cn := RX3) (q := 8) C rfl iX3 (by decide) q_74 dX3_isToken_5 rfl ?_
  refine Dn_isub (q := 9) C dX3_isToken_8 rfl ?_
  refine Dn_ald_n (i := 1) (q := 10) C dX3_isToken_9 rfl rfl ?_
  refine Dn_callT (q := 13) C rfl (kJ0_length_8abf5 X.l X.G X.tg) q_383 q_380 q_381 q_382 q_52 ⟨rfl, rfl⟩ (by decide +kernel) ⟨by decide, by decide⟩ dX3_isToken_10 rfl ?_
  refine Dn_iceq (t := 18) (q := 16) C dX3_isToken_13 (by decide) rfl ?_ ?_
  · refine Dn_iconst (v := 0) (q := 19) C dX3_isToken_18 (by decide) rfl ?_
    refine Dn_ist_n (i := 2) (q := 20) C dX3_isToken_19 rfl (by decide) rfl ?_
    exact JX3_isToken_20 C hX
  · refine Dn_iconst (v := 0) (q := 17) C dX3_isToken_16 (by decide) rfl ?_
    exact Dn_nret C hX dX3_isToken_17
abbrev rX3_number : Room := ({ frames := 1, cells := 0, slots := 0, locals := 21 } : Room)
def jX3_number_29 : mK := i_loop (fun B29 => i_ild 3 (i_ald 0 (i_get 3 3 (i_icge (i_ild 2 (i_iret)) (i_ald 0 (i_ild 3 (i_callV 3 1 FX3_byteAt (i_call 1 FX3_isDigit (i_ifne (i_ild 2 (i_push (.int 10) (i_ib (fun x y => x * y) (i_ald 0 (i_ild 3 (i_callV 3 1 FX3_byteAt (i_ib (fun x y => x + y) (i_push (.int 48) (i_ib (fun x y => x - y) (i_ist 2 (i_inc 3 1 (B29)))))))))))) (i_push (.int (-1)) (i_iret))))))))))) 1000
set_option maxRecDepth 20000 in
theorem JX3_number_29 {X : mC} (C : Cx X rX3_number cX3_number 4 RX3 (some FieldType.int)) (hX : Rx X) : Den X rX3_number 4 29 jX3_number_29 := by
  unfold jX3_number_29
  refine Dn_loop (fun B29 hB29 => ?_) 1000
  refine Dn_ild_n (i := 3) (q := 30) C dX3_number_29 rfl rfl ?_
  refine Dn_ald_n (i := 0) (q := 31) C dX3_number_30 rfl rfl ?_
  refine Dn_get (ci := 3) (j := 3) (T := TX3) (N := 4) (Cn := RX3) (q := 34) C rfl iX3 (by decide) q_75 dX3_number_31 rfl ?_
  refine Dn_icge (t := 70) (q := 37) C dX3_number_34 (by decide) rfl ?_ ?_
  · refine Dn_ild_n (i := 2) (q := 71) C dX3_number_70 rfl rfl ?_
    exact Dn_iret C hX dX3_number_71
  · refine Dn_ald_n (i := 0) (q := 38) C dX3_number_37 rfl rfl ?_
    refine Dn_ild_n (i := 3) (q := 39) C dX3_number_38 rfl rfl ?_
    refine Dn_callV (ci := 3) (T := TX3) (N := 4) (q := 42) C rfl (kX3_byteAt X.l X.G X.tg) q_348 q_345 q_347 q_3 q_45 ⟨rfl, rfl⟩ (by decide +kernel) ⟨by decide, by decide⟩ dX3_number_39 rfl ?_
    refine Dn_callS (q := 45) C (kX3_isDigit X.l X.G X.tg) q_354 q_352 q_353 q_45 ⟨rfl, rfl⟩ (by decide +kernel) ⟨by decide, by decide⟩ dX3_number_42 rfl ?_
    refine Dn_ifne (t := 50) (q := 48) C dX3_number_45 (by decide) rfl ?_ ?_
    · refine Dn_ild_n (i := 2) (q := 51) C dX3_number_50 rfl rfl ?_
      refine Dn_bipush (v := 10) (q := 53) C dX3_number_51 (by decide) rfl ?_
      refine Dn_imul (q := 54) C dX3_number_53 rfl ?_
      refine Dn_ald_n (i := 0) (q := 55) C dX3_number_54 rfl rfl ?_
      refine Dn_ild_n (i := 3) (q := 56) C dX3_number_55 rfl rfl ?_
      refine Dn_callV (ci := 3) (T := TX3) (N := 4) (q := 59) C rfl (kX3_byteAt X.l X.G X.tg) q_348 q_345 q_347 q_3 q_45 ⟨rfl, rfl⟩ (by decide +kernel) ⟨by decide, by decide⟩ dX3_number_56 rfl ?_
      refine Dn_iadd (q := 60) C dX3_number_59 rfl ?_
      refine Dn_bipush (v := 48) (q := 62) C dX3_number_60 (by decide) rfl ?_
      refine Dn_isub (q := 63) C dX3_number_62 rfl ?_
      refine Dn_ist_n (i := 2) (q := 64) C dX3_number_63 rfl (by decide) rfl ?_
      refine Dn_inc (z := 1) (q := 67) C dX3_number_64 (by decide) (by decide) rfl ?_
      refine Dn_goto (t := 29) C dX3_number_67 (by decide) ?_
      exact hB29
    · refine Dn_iconst (v := (-1)) (q := 49) C dX3_number_48 (by decide) rfl ?_
      exact Dn_iret C hX dX3_number_49
def jX3_number_20 : mK := i_push (.int (-1)) (i_iret)
set_option maxRecDepth 20000 in
theorem JX3_number_20 {X : mC} (C : Cx X rX3_number cX3_number 4 RX3 (some FieldType.int)) (hX : Rx X) : Den X rX3_number 4 20 jX3_number_20 := by
  unfold jX3_number_20
  refine Dn_iconst (v := (-1)) (q := 21) C dX3_number_20 (by decide) rfl ?_
  exact Dn_iret C hX dX3_number_21
def jX3_number : mK := i_ald 0 (i_get 3 3 (i_ald 0 (i_get 3 2 (i_ib (fun x y => x - y) (i_ist 1 (i_ild 1 (i_push (.int 1) (i_iclt (jX3_number_20) (i_ild 1 (i_push (.int 2) (i_icle (i_push (.int 0) (i_ist 2 (i_ald 0 (i_get 3 2 (i_ist 3 (jX3_number_29)))))) (jX3_number_20))))))))))))
def FX3_number : mF := mEnt 4 jX3_number
set_option maxRecDepth 20000 in
theorem kX3_number (l : Launch) (G : va_G) (tg : Nat → ClassId) : Ct l G tg yX3_number cX3_number 4 (some FieldType.int) rX3_number FX3_number := by
  refine Ct.of RX3 (by decide) rfl (fun X C hX => ?_)
  unfold jX3_number
  refine Dn_ald_n (i := 0) (q := 1) C dX3_number_0 rfl rfl ?_
  refine Dn_get (ci := 3) (j := 3) (T := TX3) (N := 4) (Cn := RX3) (q := 4) C rfl iX3 (by decide) q_75 dX3_number_1 rfl ?_
  refine Dn_ald_n (i := 0) (q := 5) C dX3_number_4 rfl rfl ?_
  refine Dn_get (ci := 3) (j := 2) (T := TX3) (N := 4) (Cn := RX3) (q := 8) C rfl iX3 (by decide) q_74 dX3_number_5 rfl ?_
  refine Dn_isub (q := 9) C dX3_number_8 rfl ?_
  refine Dn_ist_n (i := 1) (q := 10) C dX3_number_9 rfl (by decide) rfl ?_
  refine Dn_ild_n (i := 1) (q := 11) C dX3_number_10 rfl rfl ?_
  refine Dn_iconst (v := 1) (q := 12) C dX3_number_11 (by decide) rfl ?_
  refine Dn_iclt (t := 20) (q := 15) C dX3_number_12 (by decide) rfl ?_ ?_
  · exact JX3_number_20 C hX
  · refine Dn_ild_n (i := 1) (q := 16) C dX3_number_15 rfl rfl ?_
    refine Dn_iconst (v := 2) (q := 17) C dX3_number_16 (by decide) rfl ?_
    refine Dn_icle (t := 22) (q := 20) C dX3_number_17 (by decide) rfl ?_ ?_
    · refine Dn_iconst (v := 0) (q := 23) C dX3_number_22 (by decide) rfl ?_
      refine Dn_ist_n (i := 2) (q := 24) C dX3_number_23 rfl (by decide) rfl ?_
      refine Dn_ald_n (i := 0) (q := 25) C dX3_number_24 rfl rfl ?_
      refine Dn_get (ci := 3) (j := 2) (T := TX3) (N := 4) (Cn := RX3) (q := 28) C rfl iX3 (by decide) q_74 dX3_number_25 rfl ?_
      refine Dn_ist_n (i := 3) (q := 29) C dX3_number_28 rfl (by decide) rfl ?_
      exact JX3_number_29 C hX
    · exact JX3_number_20 C hX
abbrev rX3_tokenPlace : Room := ({ frames := 0, cells := 0, slots := 0, locals := 0 } : Room)
def jX3_tokenPlace : mK := i_ald 0 (i_get 3 2 (i_iret))
def FX3_tokenPlace : mF := mEnt 1 jX3_tokenPlace
set_option maxRecDepth 20000 in
theorem kX3_tokenPlace (l : Launch) (G : va_G) (tg : Nat → ClassId) : Ct l G tg yX3_tokenPlace cX3_tokenPlace 1 (some FieldType.int) rX3_tokenPlace FX3_tokenPlace := by
  refine Ct.of RX3 (by decide) rfl (fun X C hX => ?_)
  unfold jX3_tokenPlace
  refine Dn_ald_n (i := 0) (q := 1) C dX3_tokenPlace_0 rfl rfl ?_
  refine Dn_get (ci := 3) (j := 2) (T := TX3) (N := 4) (Cn := RX3) (q := 4) C rfl iX3 (by decide) q_74 dX3_tokenPlace_1 rfl ?_
  exact Dn_iret C hX dX3_tokenPlace_4
abbrev rX3_isAtEnd : Room := ({ frames := 0, cells := 0, slots := 0, locals := 0 } : Room)
def jX3_isAtEnd_16 : mK := i_nret .boolean
set_option maxRecDepth 20000 in
theorem JX3_isAtEnd_16 {X : mC} (C : Cx X rX3_isAtEnd cX3_isAtEnd 1 RX3 (some FieldType.boolean)) (hX : Rx X) : Den X rX3_isAtEnd 1 16 jX3_isAtEnd_16 := by
  unfold jX3_isAtEnd_16
  exact Dn_nret C hX dX3_isAtEnd_16
def jX3_isAtEnd : mK := i_ald 0 (i_get 3 2 (i_ald 0 (i_get 3 0 (i_iclt (i_push (.int 0) (jX3_isAtEnd_16)) (i_push (.int 1) (jX3_isAtEnd_16))))))
def FX3_isAtEnd : mF := mEnt 1 jX3_isAtEnd
set_option maxRecDepth 20000 in
theorem kX3_isAtEnd (l : Launch) (G : va_G) (tg : Nat → ClassId) : Ct l G tg yX3_isAtEnd cX3_isAtEnd 1 (some FieldType.boolean) rX3_isAtEnd FX3_isAtEnd := by
  refine Ct.of RX3 (by decide) rfl (fun X C hX => ?_)
  unfold jX3_isAtEnd
  refine Dn_ald_n (i := 0) (q := 1) C dX3_isAtEnd_0 rfl rfl ?_
  refine Dn_get (ci := 3) (j := 2) (T := TX3) (N := 4) (Cn := RX3) (q := 4) C rfl iX3 (by decide) q_74 dX3_isAtEnd_1 rfl ?_
  refine Dn_ald_n (i := 0) (q := 5) C dX3_isAtEnd_4 rfl rfl ?_
  refine Dn_get (ci := 3) (j := 0) (T := TX3) (N := 4) (Cn := RX3) (q := 8) C rfl iX3 (by decide) q_71 dX3_isAtEnd_5 rfl ?_
  refine Dn_iclt (t := 15) (q := 11) C dX3_isAtEnd_8 (by decide) rfl ?_ ?_
  · refine Dn_iconst (v := 0) (q := 16) C dX3_isAtEnd_15 (by decide) rfl ?_
    exact JX3_isAtEnd_16 C hX
  · refine Dn_iconst (v := 1) (q := 12) C dX3_isAtEnd_11 (by decide) rfl ?_
    refine Dn_goto (t := 16) C dX3_isAtEnd_12 (by decide) ?_
    exact JX3_isAtEnd_16 C hX
abbrev rX3_add : Room := ({ frames := 0, cells := 0, slots := 0, locals := 0 } : Room)
def jX3_add_37 : mK := i_vret
set_option maxRecDepth 20000 in
theorem JX3_add_37 {X : mC} (C : Cx X rX3_add cX3_add 2 RX3 none) (hX : Rx X) : Den X rX3_add 2 37 jX3_add_37 := by
  unfold jX3_add_37
  exact Dn_vret C hX dX3_add_37
def jX3_add : mK := i_ald 0 (i_get 3 0 (i_iflt (jX3_add_37) (i_ald 0 (i_get 3 0 (i_push (.int 200) (i_icge (jX3_add_37) (i_ald 0 (i_get 3 1 (i_ald 0 (i_get 3 0 (i_ild 1 (i_iast (i_ald 0 (i_dup (i_get 3 0 (i_push (.int 1) (i_ib (fun x y => x + y) (i_puti 3 0 (jX3_add_37)))))))))))))))))))
def FX3_add : mF := mEnt 2 jX3_add
set_option maxRecDepth 20000 in
theorem kX3_add (l : Launch) (G : va_G) (tg : Nat → ClassId) : Ct l G tg yX3_add cX3_add 2 none rX3_add FX3_add := by
  refine Ct.of RX3 (by decide) rfl (fun X C hX => ?_)
  unfold jX3_add
  refine Dn_ald_n (i := 0) (q := 1) C dX3_add_0 rfl rfl ?_
  refine Dn_get (ci := 3) (j := 0) (T := TX3) (N := 4) (Cn := RX3) (q := 4) C rfl iX3 (by decide) q_71 dX3_add_1 rfl ?_
  refine Dn_iflt (t := 37) (q := 7) C dX3_add_4 (by decide) rfl ?_ ?_
  · exact JX3_add_37 C hX
  · refine Dn_ald_n (i := 0) (q := 8) C dX3_add_7 rfl rfl ?_
    refine Dn_get (ci := 3) (j := 0) (T := TX3) (N := 4) (Cn := RX3) (q := 11) C rfl iX3 (by decide) q_71 dX3_add_8 rfl ?_
    refine Dn_sipush (v := 200) (q := 14) C dX3_add_11 (by decide) rfl ?_
    refine Dn_icge (t := 37) (q := 17) C dX3_add_14 (by decide) rfl ?_ ?_
    · exact JX3_add_37 C hX
    · refine Dn_ald_n (i := 0) (q := 18) C dX3_add_17 rfl rfl ?_
      refine Dn_get (ci := 3) (j := 1) (T := TX3) (N := 4) (Cn := RX3) (q := 21) C rfl iX3 (by decide) q_73 dX3_add_18 rfl ?_
      refine Dn_ald_n (i := 0) (q := 22) C dX3_add_21 rfl rfl ?_
      refine Dn_get (ci := 3) (j := 0) (T := TX3) (N := 4) (Cn := RX3) (q := 25) C rfl iX3 (by decide) q_71 dX3_add_22 rfl ?_
      refine Dn_ild_n (i := 1) (q := 26) C dX3_add_25 rfl rfl ?_
      refine Dn_iast (q := 27) C dX3_add_26 rfl ?_
      refine Dn_ald_n (i := 0) (q := 28) C dX3_add_27 rfl rfl ?_
      refine Dn_dup (q := 29) C dX3_add_28 rfl ?_
      refine Dn_get (ci := 3) (j := 0) (T := TX3) (N := 4) (Cn := RX3) (q := 32) C rfl iX3 (by decide) q_71 dX3_add_29 rfl ?_
      refine Dn_iconst (v := 1) (q := 33) C dX3_add_32 (by decide) rfl ?_
      refine Dn_iadd (q := 34) C dX3_add_33 rfl ?_
      refine Dn_puti (ci := 3) (j := 0) (T := TX3) (N := 4) (Cn := RX3) (q := 37) C rfl iX3 tyX3 tyX3_ok nmX3 (by decide) q_71 rfl (by decide +kernel) dX3_add_34 rfl ?_
      exact JX3_add_37 C hX
abbrev rX3_clear : Room := ({ frames := 0, cells := 0, slots := 0, locals := 0 } : Room)
def jX3_clear : mK := i_ald 0 (i_get 3 0 (i_ist 1 (i_ald 0 (i_push (.int 0) (i_puti 3 0 (i_ild 1 (i_iret)))))))
def FX3_clear : mF := mEnt 2 jX3_clear
set_option maxRecDepth 20000 in
theorem kX3_clear (l : Launch) (G : va_G) (tg : Nat → ClassId) : Ct l G tg yX3_clear cX3_clear 2 (some FieldType.int) rX3_clear FX3_clear := by
  refine Ct.of RX3 (by decide) rfl (fun X C hX => ?_)
  unfold jX3_clear
  refine Dn_ald_n (i := 0) (q := 1) C dX3_clear_0 rfl rfl ?_
  refine Dn_get (ci := 3) (j := 0) (T := TX3) (N := 4) (Cn := RX3) (q := 4) C rfl iX3 (by decide) q_71 dX3_clear_1 rfl ?_
  refine Dn_ist_n (i := 1) (q := 5) C dX3_clear_4 rfl (by decide) rfl ?_
  refine Dn_ald_n (i := 0) (q := 6) C dX3_clear_5 rfl rfl ?_
  refine Dn_iconst (v := 0) (q := 7) C dX3_clear_6 (by decide) rfl ?_
  refine Dn_puti (ci := 3) (j := 0) (T := TX3) (N := 4) (Cn := RX3) (q := 10) C rfl iX3 tyX3 tyX3_ok nmX3 (by decide) q_71 rfl (by decide +kernel) dX3_clear_7 rfl ?_
  refine Dn_ild_n (i := 1) (q := 11) C dX3_clear_10 rfl rfl ?_
  exact Dn_iret C hX dX3_clear_11
