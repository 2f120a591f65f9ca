abbrev rX1_places : Room := ({ frames := 0, cells := 0, slots := 0, locals := 0 } : Room)
def jX1_places : mK := i_ald 0 (i_get 1 0 (i_ald 0 (i_get 1 1 (i_ib (fun x y => x * y) (i_iret)))))
def FX1_places : mF := mEnt 1 jX1_places
set_option maxRecDepth 20000 in
theorem kX1_places (l : Launch) (G : va_G) (tg : Nat → ClassId) : Ct l G tg yX1_places cX1_places 1 (some FieldType.int) rX1_places FX1_places := by
  refine Ct.of RX1 (by decide) rfl (fun X C hX => ?_)
  unfold jX1_places
  refine Dn_ald_n (i := 0) (q := 1) C dX1_places_0 rfl rfl ?_
  refine Dn_get (ci := 1) (j := 0) (T := TX1) (N := 9) (Cn := RX1) (q := 4) C rfl iX1 (by decide) q_110 dX1_places_1 rfl ?_
  refine Dn_ald_n (i := 0) (q := 5) C dX1_places_4 rfl rfl ?_
  refine Dn_get (ci := 1) (j := 1) (T := TX1) (N := 9) (Cn := RX1) (q := 8) C rfl iX1 (by decide) q_112 dX1_places_5 rfl ?_
  refine Dn_imul (q := 9) C dX1_places_8 rfl ?_
  exact Dn_iret C hX dX1_places_9
abbrev rX1_column : Room := ({ frames := 0, cells := 0, slots := 0, locals := 0 } : Room)
def jX1_column_18 : mK := i_iret
set_option maxRecDepth 20000 in
theorem JX1_column_18 {X : mC} (C : Cx X rX1_column cX1_column 2 RX1 (some FieldType.int)) (hX : Rx X) : Den X rX1_column 2 18 jX1_column_18 := by
  unfold jX1_column_18
  exact Dn_iret C hX dX1_column_18
def jX1_column : mK := i_ald 0 (i_get 1 0 (i_push (.int 1) (i_icge (i_ild 1 (i_ald 0 (i_get 1 0 (i_irem (jX1_column_18))))) (i_push (.int 0) (jX1_column_18)))))
def FX1_column : mF := mEnt 2 jX1_column
set_option maxRecDepth 20000 in
theorem kX1_column (l : Launch) (G : va_G) (tg : Nat → ClassId) : Ct l G tg yX1_column cX1_column 2 (some FieldType.int) rX1_column FX1_column := by
  refine Ct.of RX1 (by decide) rfl (fun X C hX => ?_)
  unfold jX1_column
  refine Dn_ald_n (i := 0) (q := 1) C dX1_column_0 rfl rfl ?_
  refine Dn_get (ci := 1) (j := 0) (T := TX1) (N := 9) (Cn := RX1) (q := 4) C rfl iX1 (by decide) q_110 dX1_column_1 rfl ?_
  refine Dn_iconst (v := 1) (q := 5) C dX1_column_4 (by decide) rfl ?_
  refine Dn_icge (t := 12) (q := 8) C dX1_column_5 (by decide) rfl ?_ ?_
  · refine Dn_ild_n (i := 1) (q := 13) C dX1_column_12 rfl rfl ?_
    refine Dn_ald_n (i := 0) (q := 14) C dX1_column_13 rfl rfl ?_
    refine Dn_get (ci := 1) (j := 0) (T := TX1) (N := 9) (Cn := RX1) (q := 17) C rfl iX1 (by decide) q_110 dX1_column_14 rfl ?_
    refine Dn_irem (q := 18) C dX1_column_17 rfl ?_
    exact JX1_column_18 C hX
  · refine Dn_iconst (v := 0) (q := 9) C dX1_column_8 (by decide) rfl ?_
    refine Dn_goto (t := 18) C dX1_column_9 (by decide) ?_
    exact JX1_column_18 C hX
abbrev rX1_row : Room := ({ frames := 0, cells := 0, slots := 0, locals := 0 } : Room)
def jX1_row_18 : mK := i_iret
set_option maxRecDepth 20000 in
theorem JX1_row_18 {X : mC} (C : Cx X rX1_row cX1_row 2 RX1 (some FieldType.int)) (hX : Rx X) : Den X rX1_row 2 18 jX1_row_18 := by
  unfold jX1_row_18
  exact Dn_iret C hX dX1_row_18
def jX1_row : mK := i_ald 0 (i_get 1 0 (i_push (.int 1) (i_icge (i_ild 1 (i_ald 0 (i_get 1 0 (i_idiv (jX1_row_18))))) (i_push (.int 0) (jX1_row_18)))))
def FX1_row : mF := mEnt 2 jX1_row
set_option maxRecDepth 20000 in
theorem kX1_row (l : Launch) (G : va_G) (tg : Nat → ClassId) : Ct l G tg yX1_row cX1_row 2 (some FieldType.int) rX1_row FX1_row := by
  refine Ct.of RX1 (by decide) rfl (fun X C hX => ?_)
  unfold jX1_row
  refine Dn_ald_n (i := 0) (q := 1) C dX1_row_0 rfl rfl ?_
  refine Dn_get (ci := 1) (j := 0) (T := TX1) (N := 9) (Cn := RX1) (q := 4) C rfl iX1 (by decide) q_110 dX1_row_1 rfl ?_
  refine Dn_iconst (v := 1) (q := 5) C dX1_row_4 (by decide) rfl ?_
  refine Dn_icge (t := 12) (q := 8) C dX1_row_5 (by decide) rfl ?_ ?_
  · refine Dn_ild_n (i := 1) (q := 13) C dX1_row_12 rfl rfl ?_
    refine Dn_ald_n (i := 0) (q := 14) C dX1_row_13 rfl rfl ?_
    refine Dn_get (ci := 1) (j := 0) (T := TX1) (N := 9) (Cn := RX1) (q := 17) C rfl iX1 (by decide) q_110 dX1_row_14 rfl ?_
    refine Dn_idiv (q := 18) C dX1_row_17 rfl ?_
    exact JX1_row_18 C hX
  · refine Dn_iconst (v := 0) (q := 9) C dX1_row_8 (by decide) rfl ?_
    refine Dn_goto (t := 18) C dX1_row_9 (by decide) ?_
    exact JX1_row_18 C hX
abbrev rX1_far : Room := ({ frames := 1, cells := 0, slots := 0, locals := 21 } : Room)
def jX1_far : mK := i_ald 0 (i_ild 1 (i_callV 1 1 FX1_column (i_ald 0 (i_ild 2 (i_callV 1 1 FX1_column (i_ib (fun x y => x - y) (i_mabs (i_ald 0 (i_ild 1 (i_callV 1 1 FX1_row (i_ald 0 (i_ild 2 (i_callV 1 1 FX1_row (i_ib (fun x y => x - y) (i_mabs (i_ib (fun x y => x + y) (i_iret)))))))))))))))))
def FX1_far : mF := mEnt 3 jX1_far
set_option maxRecDepth 20000 in
theorem kX1_far (l : Launch) (G : va_G) (tg : Nat → ClassId) : Ct l G tg yX1_far cX1_far 3 (some FieldType.int) rX1_far FX1_far := by
  refine Ct.of RX1 (by decide) rfl (fun X C hX => ?_)
  unfold jX1_far
  refine Dn_ald_n (i := 0) (q := 1) C dX1_far_0 rfl rfl ?_
  refine Dn_ild_n (i := 1) (q := 2) C dX1_far_1 rfl rfl ?_
  refine Dn_callV (ci := 1) (T := TX1) (N := 9) (q := 5) C rfl (kX1_column X.l X.G X.tg) q_193 q_190 q_191 q_192 q_47 ⟨rfl, rfl⟩ (by decide +kernel) ⟨by decide, by decide⟩ dX1_far_2 rfl ?_
  refine Dn_ald_n (i := 0) (q := 6) C dX1_far_5 rfl rfl ?_
  refine Dn_ild_n (i := 2) (q := 7) C dX1_far_6 rfl rfl ?_
  refine Dn_callV (ci := 1) (T := TX1) (N := 9) (q := 10) C rfl (kX1_column X.l X.G X.tg) q_193 q_190 q_191 q_192 q_47 ⟨rfl, rfl⟩ (by decide +kernel) ⟨by decide, by decide⟩ dX1_far_7 rfl ?_
  refine Dn_isub (q := 11) C dX1_far_10 rfl ?_
  refine Dn_mabs (q := 14) C q_194 q_195 q_49 q_196 (by decide) (by decide) dX1_far_11 rfl ?_
  refine Dn_ald_n (i := 0) (q := 15) C dX1_far_14 rfl rfl ?_
  refine Dn_ild_n (i := 1) (q := 16) C dX1_far_15 rfl rfl ?_
  refine Dn_callV (ci := 1) (T := TX1) (N := 9) (q := 19) C rfl (kX1_row X.l X.G X.tg) q_200 q_197 q_198 q_199 q_47 ⟨rfl, rfl⟩ (by decide +kernel) ⟨by decide, by decide⟩ dX1_far_16 rfl ?_
  refine Dn_ald_n (i := 0) (q := 20) C dX1_far_19 rfl rfl ?_
  refine Dn_ild_n (i := 2) (q := 21) C dX1_far_20 rfl rfl ?_
  refine Dn_callV (ci := 1) (T := TX1) (N := 9) (q := 24) C rfl (kX1_row X.l X.G X.tg) q_200 q_197 q_198 q_199 q_47 ⟨rfl, rfl⟩ (by decide +kernel) ⟨by decide, by decide⟩ dX1_far_21 rfl ?_
  refine Dn_isub (q := 25) C dX1_far_24 rfl ?_
  refine Dn_mabs (q := 28) C q_194 q_195 q_49 q_196 (by decide) (by decide) dX1_far_25 rfl ?_
  refine Dn_iadd (q := 29) C dX1_far_28 rfl ?_
  exact Dn_iret C hX dX1_far_29
abbrev rX1_fluteSound : Room := ({ frames := 2, cells := 0, slots := 0, locals := 43 } : Room)
def jX1_fluteSound : mK := i_push (.int 0) (i_ald 0 (i_get 1 4 (i_ald 0 (i_get 1 2 (i_ald 0 (i_ald 0 (i_get 1 3 (i_ild 1 (i_callV 1 2 FX1_far (i_ib (fun x y => x * y) (i_ib (fun x y => x - y) (i_mmax (i_iret)))))))))))))
def FX1_fluteSound : mF := mEnt 2 jX1_fluteSound
set_option maxRecDepth 20000 in
theorem kX1_fluteSound (l : Launch) (G : va_G) (tg : Nat → ClassId) : Ct l G tg yX1_fluteSound cX1_fluteSound 2 (some FieldType.int) rX1_fluteSound FX1_fluteSound := by
  refine Ct.of RX1 (by decide) rfl (fun X C hX => ?_)
  unfold jX1_fluteSound
  refine Dn_iconst (v := 0) (q := 1) C dX1_fluteSound_0 (by decide) rfl ?_
  refine Dn_ald_n (i := 0) (q := 2) C dX1_fluteSound_1 rfl rfl ?_
  refine Dn_get (ci := 1) (j := 4) (T := TX1) (N := 9) (Cn := RX1) (q := 5) C rfl iX1 (by decide) q_119 dX1_fluteSound_2 rfl ?_
  refine Dn_ald_n (i := 0) (q := 6) C dX1_fluteSound_5 rfl rfl ?_
  refine Dn_get (ci := 1) (j := 2) (T := TX1) (N := 9) (Cn := RX1) (q := 9) C rfl iX1 (by decide) q_114 dX1_fluteSound_6 rfl ?_
  refine Dn_ald_n (i := 0) (q := 10) C dX1_fluteSound_9 rfl rfl ?_
  refine Dn_ald_n (i := 0) (q := 11) C dX1_fluteSound_10 rfl rfl ?_
  refine Dn_get (ci := 1) (j := 3) (T := TX1) (N := 9) (Cn := RX1) (q := 14) C rfl iX1 (by decide) q_117 dX1_fluteSound_11 rfl ?_
  refine Dn_ild_n (i := 1) (q := 15) C dX1_fluteSound_14 rfl rfl ?_
  refine Dn_callV (ci := 1) (T := TX1) (N := 9) (q := 18) C rfl (kX1_far X.l X.G X.tg) q_189 q_186 q_187 q_188 q_47 ⟨rfl, rfl⟩ (by decide +kernel) ⟨by decide, by decide⟩ dX1_fluteSound_15 rfl ?_
  refine Dn_imul (q := 19) C dX1_fluteSound_18 rfl ?_
  refine Dn_isub (q := 20) C dX1_fluteSound_19 rfl ?_
  refine Dn_mmax (q := 23) C q_201 q_202 q_49 q_203 (by decide) (by decide) dX1_fluteSound_20 rfl ?_
  exact Dn_iret C hX dX1_fluteSound_23
abbrev rX1_isTrait : Room := ({ frames := 0, cells := 0, slots := 0, locals := 0 } : Room)
def jX1_isTrait_25 : mK := i_nret .boolean
set_option maxRecDepth 20000 in
theorem JX1_isTrait_25 {X : mC} (C : Cx X rX1_isTrait cX1_isTrait 2 RX1 (some FieldType.boolean)) (hX : Rx X) : Den X rX1_isTrait 2 25 jX1_isTrait_25 := by
  unfold jX1_isTrait_25
  exact Dn_nret C hX dX1_isTrait_25
def jX1_isTrait_24 : mK := i_push (.int 0) (jX1_isTrait_25)
set_option maxRecDepth 20000 in
theorem JX1_isTrait_24 {X : mC} (C : Cx X rX1_isTrait cX1_isTrait 2 RX1 (some FieldType.boolean)) (hX : Rx X) : Den X rX1_isTrait 2 24 jX1_isTrait_24 := by
  unfold jX1_isTrait_24
  refine Dn_iconst (v := 0) (q := 25) C dX1_isTrait_24 (by decide) rfl ?_
  exact JX1_isTrait_25 C hX
def jX1_isTrait : mK := i_ild 0 (i_iflt (jX1_isTrait_24) (i_ild 0 (i_push (.int 6) (i_icge (jX1_isTrait_24) (i_ild 1 (i_iflt (jX1_isTrait_24) (i_ild 1 (i_push (.int 7) (i_icge (jX1_isTrait_24) (i_push (.int 1) (jX1_isTrait_25)))))))))))
def FX1_isTrait : mF := mEnt 2 jX1_isTrait
set_option maxRecDepth 20000 in
theorem kX1_isTrait (l : Launch) (G : va_G) (tg : Nat → ClassId) : Ct l G tg yX1_isTrait cX1_isTrait 2 (some FieldType.boolean) rX1_isTrait FX1_isTrait := by
  refine Ct.of RX1 (by decide) rfl (fun X C hX => ?_)
  unfold jX1_isTrait
  refine Dn_ild_n (i := 0) (q := 1) C dX1_isTrait_0 rfl rfl ?_
  refine Dn_iflt (t := 24) (q := 4) C dX1_isTrait_1 (by decide) rfl ?_ ?_
  · exact JX1_isTrait_24 C hX
  · refine Dn_ild_n (i := 0) (q := 5) C dX1_isTrait_4 rfl rfl ?_
    refine Dn_bipush (v := 6) (q := 7) C dX1_isTrait_5 (by decide) rfl ?_
    refine Dn_icge (t := 24) (q := 10) C dX1_isTrait_7 (by decide) rfl ?_ ?_
    · exact JX1_isTrait_24 C hX
    · refine Dn_ild_n (i := 1) (q := 11) C dX1_isTrait_10 rfl rfl ?_
      refine Dn_iflt (t := 24) (q := 14) C dX1_isTrait_11 (by decide) rfl ?_ ?_
      · exact JX1_isTrait_24 C hX
      · refine Dn_ild_n (i := 1) (q := 15) C dX1_isTrait_14 rfl rfl ?_
        refine Dn_bipush (v := 7) (q := 17) C dX1_isTrait_15 (by decide) rfl ?_
        refine Dn_icge (t := 24) (q := 20) C dX1_isTrait_17 (by decide) rfl ?_ ?_
        · exact JX1_isTrait_24 C hX
        · refine Dn_iconst (v := 1) (q := 21) C dX1_isTrait_20 (by decide) rfl ?_
          refine Dn_goto (t := 25) C dX1_isTrait_21 (by decide) ?_
          exact JX1_isTrait_25 C hX
abbrev rX1_trait : Room := ({ frames := 1, cells := 0, slots := 0, locals := 21 } : Room)
def jX1_trait_23 : mK := i_iret
set_option maxRecDepth 20000 in
theorem JX1_trait_23 {X : mC} (C : Cx X rX1_trait cX1_trait 3 RX1 (some FieldType.int)) (hX : Rx X) : Den X rX1_trait 3 23 jX1_trait_23 := by
  unfold jX1_trait_23
  exact Dn_iret C hX dX1_trait_23
def jX1_trait : mK := i_ild 1 (i_ild 2 (i_call 2 FX1_isTrait (i_ifeq (i_push (.int 0) (jX1_trait_23)) (i_ald 0 (i_get 1 8 (i_ild 1 (i_push (.int 7) (i_ib (fun x y => x * y) (i_ild 2 (i_ib (fun x y => x + y) (i_iald (jX1_trait_23))))))))))))
def FX1_trait : mF := mEnt 3 jX1_trait
set_option maxRecDepth 20000 in
theorem kX1_trait (l : Launch) (G : va_G) (tg : Nat → ClassId) : Ct l G tg yX1_trait cX1_trait 3 (some FieldType.int) rX1_trait FX1_trait := by
  refine Ct.of RX1 (by decide) rfl (fun X C hX => ?_)
  unfold jX1_trait
  refine Dn_ild_n (i := 1) (q := 1) C dX1_trait_0 rfl rfl ?_
  refine Dn_ild_n (i := 2) (q := 2) C dX1_trait_1 rfl rfl ?_
  refine Dn_callS (q := 5) C (kX1_isTrait X.l X.G X.tg) q_218 q_216 q_217 q_47 ⟨rfl, rfl⟩ (by decide +kernel) ⟨by decide, by decide⟩ dX1_trait_2 rfl ?_
  refine Dn_ifeq (t := 22) (q := 8) C dX1_trait_5 (by decide) rfl ?_ ?_
  · refine Dn_iconst (v := 0) (q := 23) C dX1_trait_22 (by decide) rfl ?_
    exact JX1_trait_23 C hX
  · refine Dn_ald_n (i := 0) (q := 9) C dX1_trait_8 rfl rfl ?_
    refine Dn_get (ci := 1) (j := 8) (T := TX1) (N := 9) (Cn := RX1) (q := 12) C rfl iX1 (by decide) q_129 dX1_trait_9 rfl ?_
    refine Dn_ild_n (i := 1) (q := 13) C dX1_trait_12 rfl rfl ?_
    refine Dn_bipush (v := 7) (q := 15) C dX1_trait_13 (by decide) rfl ?_
    refine Dn_imul (q := 16) C dX1_trait_15 rfl ?_
    refine Dn_ild_n (i := 2) (q := 17) C dX1_trait_16 rfl rfl ?_
    refine Dn_iadd (q := 18) C dX1_trait_17 rfl ?_
    refine Dn_iald (q := 19) C dX1_trait_18 rfl ?_
    refine Dn_goto (t := 23) C dX1_trait_19 (by decide) ?_
    exact JX1_trait_23 C hX
abbrev rX1_liesToSide : Room := ({ frames := 1, cells := 0, slots := 0, locals := 21 } : Room)
def jX1_liesToSide_103 : mK := i_nret .boolean
set_option maxRecDepth 20000 in
theorem JX1_liesToSide_103 {X : mC} (C : Cx X rX1_liesToSide cX1_liesToSide 4 RX1 (some FieldType.boolean)) (hX : Rx X) : Den X rX1_liesToSide 4 103 jX1_liesToSide_103 := by
  unfold jX1_liesToSide_103
  exact Dn_nret C hX dX1_liesToSide_103
def jX1_liesToSide_84 : mK := i_nret .boolean
set_option maxRecDepth 20000 in
theorem JX1_liesToSide_84 {X : mC} (C : Cx X rX1_liesToSide cX1_liesToSide 4 RX1 (some FieldType.boolean)) (hX : Rx X) : Den X rX1_liesToSide 4 84 jX1_liesToSide_84 := by
  unfold jX1_liesToSide_84
  exact Dn_nret C hX dX1_liesToSide_84
def jX1_liesToSide_65 : mK := i_nret .boolean
set_option maxRecDepth 20000 in
theorem JX1_liesToSide_65 {X : mC} (C : Cx X rX1_liesToSide cX1_liesToSide 4 RX1 (some FieldType.boolean)) (hX : Rx X) : Den X rX1_liesToSide 4 65 jX1_liesToSide_65 := by
  unfold jX1_liesToSide_65
  exact Dn_nret C hX dX1_liesToSide_65
def jX1_liesToSide_46 : mK := i_nret .boolean
set_option maxRecDepth 20000 in
theorem JX1_liesToSide_46 {X : mC} (C : Cx X rX1_liesToSide cX1_liesToSide 4 RX1 (some FieldType.boolean)) (hX : Rx X) : Den X rX1_liesToSide 4 46 jX1_liesToSide_46 := by
  unfold jX1_liesToSide_46
  exact Dn_nret C hX dX1_liesToSide_46
def jX1_liesToSide : mK := i_ild 1 (i_sw 0 2 [i_ald 0 (i_ild 3 (i_callV 1 1 FX1_row (i_ald 0 (i_ild 2 (i_callV 1 1 FX1_row (i_icge (i_push (.int 0) (jX1_liesToSide_46)) (i_push (.int 1) (jX1_liesToSide_46)))))))), i_ald 0 (i_ild 3 (i_callV 1 1 FX1_column (i_ald 0 (i_ild 2 (i_callV 1 1 FX1_column (i_icle (i_push (.int 0) (jX1_liesToSide_65)) (i_push (.int 1) (jX1_liesToSide_65)))))))), i_ald 0 (i_ild 3 (i_callV 1 1 FX1_row (i_ald 0 (i_ild 2 (i_callV 1 1 FX1_row (i_icle (i_push (.int 0) (jX1_liesToSide_84)) (i_push (.int 1) (jX1_liesToSide_84))))))))] (i_ald 0 (i_ild 3 (i_callV 1 1 FX1_column (i_ald 0 (i_ild 2 (i_callV 1 1 FX1_column (i_icge (i_push (.int 0) (jX1_liesToSide_103)) (i_push (.int 1) (jX1_liesToSide_103))))))))))
def FX1_liesToSide : mF := mEnt 4 jX1_liesToSide
set_option maxRecDepth 20000 in
theorem kX1_liesToSide (l : Launch) (G : va_G) (tg : Nat → ClassId) : Ct l G tg yX1_liesToSide cX1_liesToSide 4 (some FieldType.boolean) rX1_liesToSide FX1_liesToSide := by
  refine Ct.of RX1 (by decide) rfl (fun X C hX => ?_)
  unfold jX1_liesToSide
  refine Dn_ild_n (i := 1) (q := 1) C dX1_liesToSide_0 rfl rfl ?_
  refine Dn_sw (td := 85) (ts := [28, 47, 66]) C dX1_liesToSide_1 (by decide) (by decide +kernel) rfl ?_ ?_
  · refine Dn_ald_n (i := 0) (q := 86) C dX1_liesToSide_85 rfl rfl ?_
    refine Dn_ild_n (i := 3) (q := 87) C dX1_liesToSide_86 rfl rfl ?_
    refine Dn_callV (ci := 1) (T := TX1) (N := 9) (q := 90) C rfl (kX1_column X.l X.G X.tg) q_193 q_190 q_191 q_192 q_47 ⟨rfl, rfl⟩ (by decide +kernel) ⟨by decide, by decide⟩ dX1_liesToSide_87 rfl ?_
    refine Dn_ald_n (i := 0) (q := 91) C dX1_liesToSide_90 rfl rfl ?_
    refine Dn_ild_n (i := 2) (q := 92) C dX1_liesToSide_91 rfl rfl ?_
    refine Dn_callV (ci := 1) (T := TX1) (N := 9) (q := 95) C rfl (kX1_column X.l X.G X.tg) q_193 q_190 q_191 q_192 q_47 ⟨rfl, rfl⟩ (by decide +kernel) ⟨by decide, by decide⟩ dX1_liesToSide_92 rfl ?_
    refine Dn_icge (t := 102) (q := 98) C dX1_liesToSide_95 (by decide) rfl ?_ ?_
    · refine Dn_iconst (v := 0) (q := 103) C dX1_liesToSide_102 (by decide) rfl ?_
      exact JX1_liesToSide_103 C hX
    · refine Dn_iconst (v := 1) (q := 99) C dX1_liesToSide_98 (by decide) rfl ?_
      refine Dn_goto (t := 103) C dX1_liesToSide_99 (by decide) ?_
      exact JX1_liesToSide_103 C hX
  · show DenL _ _ _ _ _
    refine DenL_cons ?_ ?_
    · refine Dn_ald_n (i := 0) (q := 29) C dX1_liesToSide_28 rfl rfl ?_
      refine Dn_ild_n (i := 3) (q := 30) C dX1_liesToSide_29 rfl rfl ?_
      refine Dn_callV (ci := 1) (T := TX1) (N := 9) (q := 33) C rfl (kX1_row X.l X.G X.tg) q_200 q_197 q_198 q_199 q_47 ⟨rfl, rfl⟩ (by decide +kernel) ⟨by decide, by decide⟩ dX1_liesToSide_30 rfl ?_
      refine Dn_ald_n (i := 0) (q := 34) C dX1_liesToSide_33 rfl rfl ?_
      refine Dn_ild_n (i := 2) (q := 35) C dX1_liesToSide_34 rfl rfl ?_
      refine Dn_callV (ci := 1) (T := TX1) (N := 9) (q := 38) C rfl (kX1_row X.l X.G X.tg) q_200 q_197 q_198 q_199 q_47 ⟨rfl, rfl⟩ (by decide +kernel) ⟨by decide, by decide⟩ dX1_liesToSide_35 rfl ?_
      refine Dn_icge (t := 45) (q := 41) C dX1_liesToSide_38 (by decide) rfl ?_ ?_
      · refine Dn_iconst (v := 0) (q := 46) C dX1_liesToSide_45 (by decide) rfl ?_
        exact JX1_liesToSide_46 C hX
      · refine Dn_iconst (v := 1) (q := 42) C dX1_liesToSide_41 (by decide) rfl ?_
        refine Dn_goto (t := 46) C dX1_liesToSide_42 (by decide) ?_
        exact JX1_liesToSide_46 C hX
    refine DenL_cons ?_ ?_
    · refine Dn_ald_n (i := 0) (q := 48) C dX1_liesToSide_47 rfl rfl ?_
      refine Dn_ild_n (i := 3) (q := 49) C dX1_liesToSide_48 rfl rfl ?_
      refine Dn_callV (ci := 1) (T := TX1) (N := 9) (q := 52) C rfl (kX1_column X.l X.G X.tg) q_193 q_190 q_191 q_192 q_47 ⟨rfl, rfl⟩ (by decide +kernel) ⟨by decide, by decide⟩ dX1_liesToSide_49 rfl ?_
      refine Dn_ald_n (i := 0) (q := 53) C dX1_liesToSide_52 rfl rfl ?_
      refine Dn_ild_n (i := 2) (q := 54) C dX1_liesToSide_53 rfl rfl ?_
      refine Dn_callV (ci := 1) (T := TX1) (N := 9) (q := 57) C rfl (kX1_column X.l X.G X.tg) q_193 q_190 q_191 q_192 q_47 ⟨rfl, rfl⟩ (by decide +kernel) ⟨by decide, by decide⟩ dX1_liesToSide_54 rfl ?_
      refine Dn_icle (t := 64) (q := 60) C dX1_liesToSide_57 (by decide) rfl ?_ ?_
      · refine Dn_iconst (v := 0) (q := 65) C dX1_liesToSide_64 (by decide) rfl ?_
        exact JX1_liesToSide_65 C hX
      · refine Dn_iconst (v := 1) (q := 61) C dX1_liesToSide_60 (by decide) rfl ?_
        refine Dn_goto (t := 65) C dX1_liesToSide_61 (by decide) ?_
        exact JX1_liesToSide_65 C hX
    refine DenL_cons ?_ ?_
    · refine Dn_ald_n (i := 0) (q := 67) C dX1_liesToSide_66 rfl rfl ?_
      refine Dn_ild_n (i := 3) (q := 68) C dX1_liesToSide_67 rfl rfl ?_
      refine Dn_callV (ci := 1) (T := TX1) (N := 9) (q := 71) C rfl (kX1_row X.l X.G X.tg) q_200 q_197 q_198 q_199 q_47 ⟨rfl, rfl⟩ (by decide +kernel) ⟨by decide, by decide⟩ dX1_liesToSide_68 rfl ?_
      refine Dn_ald_n (i := 0) (q := 72) C dX1_liesToSide_71 rfl rfl ?_
      refine Dn_ild_n (i := 2) (q := 73) C dX1_liesToSide_72 rfl rfl ?_
      refine Dn_callV (ci := 1) (T := TX1) (N := 9) (q := 76) C rfl (kX1_row X.l X.G X.tg) q_200 q_197 q_198 q_199 q_47 ⟨rfl, rfl⟩ (by decide +kernel) ⟨by decide, by decide⟩ dX1_liesToSide_73 rfl ?_
      refine Dn_icle (t := 83) (q := 79) C dX1_liesToSide_76 (by decide) rfl ?_ ?_
      · refine Dn_iconst (v := 0) (q := 84) C dX1_liesToSide_83 (by decide) rfl ?_
        exact JX1_liesToSide_84 C hX
      · refine Dn_iconst (v := 1) (q := 80) C dX1_liesToSide_79 (by decide) rfl ?_
        refine Dn_goto (t := 84) C dX1_liesToSide_80 (by decide) ?_
        exact JX1_liesToSide_84 C hX
    exact DenL_nil
abbrev rX1_hasHedge : Room := ({ frames := 0, cells := 0, slots := 0, locals := 0 } : Room)
def jX1_hasHedge_18 : mK := i_nret .boolean
set_option maxRecDepth 20000 in
theorem JX1_hasHedge_18 {X : mC} (C : Cx X rX1_hasHedge cX1_hasHedge 2 RX1 (some FieldType.boolean)) (hX : Rx X) : Den X rX1_hasHedge 2 18 jX1_hasHedge_18 := by
  unfold jX1_hasHedge_18
  exact Dn_nret C hX dX1_hasHedge_18
def jX1_hasHedge : mK := i_ald 0 (i_get 1 7 (i_ild 1 (i_ls (fun x y => (x.toUInt64 >>> (y.toInt64.toUInt64 &&& Int64.toUInt64 63)).toInt64) (i_push (.long 1) (i_lb (fun x y => x &&& y) (i_push (.long 1) (i_lcmp (i_ifne (i_push (.int 0) (jX1_hasHedge_18)) (i_push (.int 1) (jX1_hasHedge_18))))))))))
def FX1_hasHedge : mF := mEnt 2 jX1_hasHedge
set_option maxRecDepth 20000 in
theorem kX1_hasHedge (l : Launch) (G : va_G) (tg : Nat → ClassId) : Ct l G tg yX1_hasHedge cX1_hasHedge 2 (some FieldType.boolean) rX1_hasHedge FX1_hasHedge := by
  refine Ct.of RX1 (by decide) rfl (fun X C hX => ?_)
  unfold jX1_hasHedge
  refine Dn_ald_n (i := 0) (q := 1) C dX1_hasHedge_0 rfl rfl ?_
  refine Dn_get (ci := 1) (j := 7) (T := TX1) (N := 9) (Cn := RX1) (q := 4) C rfl iX1 (by decide) q_127 dX1_hasHedge_1 rfl ?_
  refine Dn_ild_n (i := 1) (q := 5) C dX1_hasHedge_4 rfl rfl ?_
  refine Dn_lushr (q := 6) C dX1_hasHedge_5 rfl ?_
  refine Dn_lconst (v := 1) (q := 7) C dX1_hasHedge_6 (by decide) rfl ?_
  refine Dn_land (q := 8) C dX1_hasHedge_7 rfl ?_
  refine Dn_lconst (v := 1) (q := 9) C dX1_hasHedge_8 (by decide) rfl ?_
  refine Dn_lcmp (q := 10) C dX1_hasHedge_9 rfl ?_
  refine Dn_ifne (t := 17) (q := 13) C dX1_hasHedge_10 (by decide) rfl ?_ ?_
  · refine Dn_iconst (v := 0) (q := 18) C dX1_hasHedge_17 (by decide) rfl ?_
    exact JX1_hasHedge_18 C hX
  · refine Dn_iconst (v := 1) (q := 14) C dX1_hasHedge_13 (by decide) rfl ?_
    refine Dn_goto (t := 18) C dX1_hasHedge_14 (by decide) ?_
    exact JX1_hasHedge_18 C hX
abbrev rX1_bandSound : Room := ({ frames := 2, cells := 0, slots := 0, locals := 44 } : Room)
def jX1_bandSound_87 : mK := i_iret
set_option maxRecDepth 20000 in
theorem JX1_bandSound_87 {X : mC} (C : Cx X rX1_bandSound cX1_bandSound 6 RX1 (some FieldType.int)) (hX : Rx X) : Den X rX1_bandSound 6 87 jX1_bandSound_87 := by
  unfold jX1_bandSound_87
  exact Dn_iret C hX dX1_bandSound_87
def jX1_bandSound_85 : mK := i_ild 5 (jX1_bandSound_87)
set_option maxRecDepth 20000 in
theorem JX1_bandSound_85 {X : mC} (C : Cx X rX1_bandSound cX1_bandSound 6 RX1 (some FieldType.int)) (hX : Rx X) : Den X rX1_bandSound 6 85 jX1_bandSound_85 := by
  unfold jX1_bandSound_85
  refine Dn_ild (q := 87) C dX1_bandSound_85 rfl ?_
  exact JX1_bandSound_87 C hX
def jX1_bandSound_39 : mK := i_push (.int 0) (i_ald 0 (i_ild 1 (i_push (.int 2) (i_callV 1 2 FX1_trait (i_ald 0 (i_get 1 2 (i_ald 0 (i_ild 4 (i_ild 2 (i_callV 1 2 FX1_far (i_ib (fun x y => x * y) (i_ib (fun x y => x - y) (i_mmax (i_ist 5 (i_ild 3 (i_push (.int 3) (i_iceq (jX1_bandSound_85) (i_ald 0 (i_ild 4 (i_callV 1 1 FX1_hasHedge (i_ifeq (jX1_bandSound_85) (i_ild 5 (i_push (.int 2) (i_idiv (jX1_bandSound_87)))))))))))))))))))))))))
set_option maxRecDepth 20000 in
theorem JX1_bandSound_39 {X : mC} (C : Cx X rX1_bandSound cX1_bandSound 6 RX1 (some FieldType.int)) (hX : Rx X) : Den X rX1_bandSound 6 39 jX1_bandSound_39 := by
  unfold jX1_bandSound_39
  refine Dn_iconst (v := 0) (q := 40) C dX1_bandSound_39 (by decide) rfl ?_
  refine Dn_ald_n (i := 0) (q := 41) C dX1_bandSound_40 rfl rfl ?_
  refine Dn_ild_n (i := 1) (q := 42) C dX1_bandSound_41 rfl rfl ?_
  refine Dn_iconst (v := 2) (q := 43) C dX1_bandSound_42 (by decide) rfl ?_
  refine Dn_callV (ci := 1) (T := TX1) (N := 9) (q := 46) C rfl (kX1_trait X.l X.G X.tg) q_215 q_212 q_213 q_214 q_47 ⟨rfl, rfl⟩ (by decide +kernel) ⟨by decide, by decide⟩ dX1_bandSound_43 rfl ?_
  refine Dn_ald_n (i := 0) (q := 47) C dX1_bandSound_46 rfl rfl ?_
  refine Dn_get (ci := 1) (j := 2) (T := TX1) (N := 9) (Cn := RX1) (q := 50) C rfl iX1 (by decide) q_114 dX1_bandSound_47 rfl ?_
  refine Dn_ald_n (i := 0) (q := 51) C dX1_bandSound_50 rfl rfl ?_
  refine Dn_ild (q := 53) C dX1_bandSound_51 rfl ?_
  refine Dn_ild_n (i := 2) (q := 54) C dX1_bandSound_53 rfl rfl ?_
  refine Dn_callV (ci := 1) (T := TX1) (N := 9) (q := 57) C rfl (kX1_far X.l X.G X.tg) q_189 q_186 q_187 q_188 q_47 ⟨rfl, rfl⟩ (by decide +kernel) ⟨by decide, by decide⟩ dX1_bandSound_54 rfl ?_
  refine Dn_imul (q := 58) C dX1_bandSound_57 rfl ?_
  refine Dn_isub (q := 59) C dX1_bandSound_58 rfl ?_
  refine Dn_mmax (q := 62) C q_201 q_202 q_49 q_203 (by decide) (by decide) dX1_bandSound_59 rfl ?_
  refine Dn_ist (q := 64) C dX1_bandSound_62 (by decide) rfl ?_
  refine Dn_ild_n (i := 3) (q := 65) C dX1_bandSound_64 rfl rfl ?_
  refine Dn_iconst (v := 3) (q := 66) C dX1_bandSound_65 (by decide) rfl ?_
  refine Dn_iceq (t := 85) (q := 69) C dX1_bandSound_66 (by decide) rfl ?_ ?_
  · exact JX1_bandSound_85 C hX
  · refine Dn_ald_n (i := 0) (q := 70) C dX1_bandSound_69 rfl rfl ?_
    refine Dn_ild (q := 72) C dX1_bandSound_70 rfl ?_
    refine Dn_callV (ci := 1) (T := TX1) (N := 9) (q := 75) C rfl (kX1_hasHedge X.l X.G X.tg) q_226 q_223 q_224 q_225 q_47 ⟨rfl, rfl⟩ (by decide +kernel) ⟨by decide, by decide⟩ dX1_bandSound_72 rfl ?_
    refine Dn_ifeq (t := 85) (q := 78) C dX1_bandSound_75 (by decide) rfl ?_ ?_
    · exact JX1_bandSound_85 C hX
    · refine Dn_ild (q := 80) C dX1_bandSound_78 rfl ?_
      refine Dn_iconst (v := 2) (q := 81) C dX1_bandSound_80 (by decide) rfl ?_
      refine Dn_idiv (q := 82) C dX1_bandSound_81 rfl ?_
      refine Dn_goto (t := 87) C dX1_bandSound_82 (by decide) ?_
      exact JX1_bandSound_87 C hX
def jX1_bandSound : mK := i_ald 0 (i_ild 1 (i_push (.int 0) (i_callV 1 2 FX1_trait (i_ist 3 (i_ald 0 (i_ild 1 (i_push (.int 1) (i_callV 1 2 FX1_trait (i_ist 4 (i_ild 3 (i_push (.int 1) (i_icne (jX1_bandSound_39) (i_ald 0 (i_ald 0 (i_ild 1 (i_push (.int 6) (i_callV 1 2 FX1_trait (i_ild 4 (i_ild 2 (i_callV 1 3 FX1_liesToSide (i_ifne (jX1_bandSound_39) (i_push (.int 0) (i_iret)))))))))))))))))))))))
def FX1_bandSound : mF := mEnt 6 jX1_bandSound
set_option maxRecDepth 20000 in
theorem kX1_bandSound (l : Launch) (G : va_G) (tg : Nat → ClassId) : Ct l G tg yX1_bandSound cX1_bandSound 6 (some FieldType.int) rX1_bandSound FX1_bandSound := by
  refine Ct.of RX1 (by decide) rfl (fun X C hX => ?_)
  unfold jX1_bandSound
  refine Dn_ald_n (i := 0) (q := 1) C dX1_bandSound_0 rfl rfl ?_
  refine Dn_ild_n (i := 1) (q := 2) C dX1_bandSound_1 rfl rfl ?_
  refine Dn_iconst (v := 0) (q := 3) C dX1_bandSound_2 (by decide) rfl ?_
  refine Dn_callV (ci := 1) (T := TX1) (N := 9) (q := 6) C rfl (kX1_trait X.l X.G X.tg) q_215 q_212 q_213 q_214 q_47 ⟨rfl, rfl⟩ (by decide +kernel) ⟨by decide, by decide⟩ dX1_bandSound_3 rfl ?_
  refine Dn_ist_n (i := 3) (q := 7) C dX1_bandSound_6 rfl (by decide) rfl ?_
  refine Dn_ald_n (i := 0) (q := 8) C dX1_bandSound_7 rfl rfl ?_
  refine Dn_ild_n (i := 1) (q := 9) C dX1_bandSound_8 rfl rfl ?_
  refine Dn_iconst (v := 1) (q := 10) C dX1_bandSound_9 (by decide) rfl ?_
  refine Dn_callV (ci := 1) (T := TX1) (N := 9) (q := 13) C rfl (kX1_trait X.l X.G X.tg) q_215 q_212 q_213 q_214 q_47 ⟨rfl, rfl⟩ (by decide +kernel) ⟨by decide, by decide⟩ dX1_bandSound_10 rfl ?_
  refine Dn_ist (q := 15) C dX1_bandSound_13 (by decide) rfl ?_
  refine Dn_ild_n (i := 3) (q := 16) C dX1_bandSound_15 rfl rfl ?_
  refine Dn_iconst (v := 1) (q := 17) C dX1_bandSound_16 (by decide) rfl ?_
  refine Dn_icne (t := 39) (q := 20) C dX1_bandSound_17 (by decide) rfl ?_ ?_
  · exact JX1_bandSound_39 C hX
  · refine Dn_ald_n (i := 0) (q := 21) C dX1_bandSound_20 rfl rfl ?_
    refine Dn_ald_n (i := 0) (q := 22) C dX1_bandSound_21 rfl rfl ?_
    refine Dn_ild_n (i := 1) (q := 23) C dX1_bandSound_22 rfl rfl ?_
    refine Dn_bipush (v := 6) (q := 25) C dX1_bandSound_23 (by decide) rfl ?_
    refine Dn_callV (ci := 1) (T := TX1) (N := 9) (q := 28) C rfl (kX1_trait X.l X.G X.tg) q_215 q_212 q_213 q_214 q_47 ⟨rfl, rfl⟩ (by decide +kernel) ⟨by decide, by decide⟩ dX1_bandSound_25 rfl ?_
    refine Dn_ild (q := 30) C dX1_bandSound_28 rfl ?_
    refine Dn_ild_n (i := 2) (q := 31) C dX1_bandSound_30 rfl rfl ?_
    refine Dn_callV (ci := 1) (T := TX1) (N := 9) (q := 34) C rfl (kX1_liesToSide X.l X.G X.tg) q_222 q_219 q_221 q_0 q_47 ⟨rfl, rfl⟩ (by decide +kernel) ⟨by decide, by decide⟩ dX1_bandSound_31 rfl ?_
    refine Dn_ifne (t := 39) (q := 37) C dX1_bandSound_34 (by decide) rfl ?_ ?_
    · exact JX1_bandSound_39 C hX
    · refine Dn_iconst (v := 0) (q := 38) C dX1_bandSound_37 (by decide) rfl ?_
      exact Dn_iret C hX dX1_bandSound_38
abbrev rX1_plays : Room := ({ frames := 2, cells := 0, slots := 0, locals := 43 } : Room)
def jX1_plays_43 : mK := i_nret .boolean
set_option maxRecDepth 20000 in
theorem JX1_plays_43 {X : mC} (C : Cx X rX1_plays cX1_plays 3 RX1 (some FieldType.boolean)) (hX : Rx X) : Den X rX1_plays 3 43 jX1_plays_43 := by
  unfold jX1_plays_43
  exact Dn_nret C hX dX1_plays_43
def jX1_plays_38 : mK := i_push (.int 1) (jX1_plays_43)
set_option maxRecDepth 20000 in
theorem JX1_plays_38 {X : mC} (C : Cx X rX1_plays cX1_plays 3 RX1 (some FieldType.boolean)) (hX : Rx X) : Den X rX1_plays 3 38 jX1_plays_38 := by
  unfold jX1_plays_38
  refine Dn_iconst (v := 1) (q := 39) C dX1_plays_38 (by decide) rfl ?_
  refine Dn_goto (t := 43) C dX1_plays_39 (by decide) ?_
  exact JX1_plays_43 C hX
def jX1_plays_20 : mK := i_push (.int 0) (i_nret .boolean)
set_option maxRecDepth 20000 in
theorem JX1_plays_20 {X : mC} (C : Cx X rX1_plays cX1_plays 3 RX1 (some FieldType.boolean)) (hX : Rx X) : Den X rX1_plays 3 20 jX1_plays_20 := by
  unfold jX1_plays_20
  refine Dn_iconst (v := 0) (q := 21) C dX1_plays_20 (by decide) rfl ?_
  exact Dn_nret C hX dX1_plays_21
def jX1_plays : mK := i_ild 2 (i_ald 0 (i_ild 1 (i_push (.int 3) (i_callV 1 2 FX1_trait (i_iclt (jX1_plays_20) (i_ild 2 (i_ald 0 (i_ild 1 (i_push (.int 4) (i_callV 1 2 FX1_trait (i_icle (i_ald 0 (i_ild 1 (i_push (.int 0) (i_callV 1 2 FX1_trait (i_push (.int 2) (i_icne (jX1_plays_38) (i_ild 2 (i_push (.int 2) (i_irem (i_ifne (i_push (.int 0) (jX1_plays_43)) (jX1_plays_38))))))))))) (jX1_plays_20))))))))))))
def FX1_plays : mF := mEnt 3 jX1_plays
set_option maxRecDepth 20000 in
theorem kX1_plays (l : Launch) (G : va_G) (tg : Nat → ClassId) : Ct l G tg yX1_plays cX1_plays 3 (some FieldType.boolean) rX1_plays FX1_plays := by
  refine Ct.of RX1 (by decide) rfl (fun X C hX => ?_)
  unfold jX1_plays
  refine Dn_ild_n (i := 2) (q := 1) C dX1_plays_0 rfl rfl ?_
  refine Dn_ald_n (i := 0) (q := 2) C dX1_plays_1 rfl rfl ?_
  refine Dn_ild_n (i := 1) (q := 3) C dX1_plays_2 rfl rfl ?_
  refine Dn_iconst (v := 3) (q := 4) C dX1_plays_3 (by decide) rfl ?_
  refine Dn_callV (ci := 1) (T := TX1) (N := 9) (q := 7) C rfl (kX1_trait X.l X.G X.tg) q_215 q_212 q_213 q_214 q_47 ⟨rfl, rfl⟩ (by decide +kernel) ⟨by decide, by decide⟩ dX1_plays_4 rfl ?_
  refine Dn_iclt (t := 20) (q := 10) C dX1_plays_7 (by decide) rfl ?_ ?_
  · exact JX1_plays_20 C hX
  · refine Dn_ild_n (i := 2) (q := 11) C dX1_plays_10 rfl rfl ?_
    refine Dn_ald_n (i := 0) (q := 12) C dX1_plays_11 rfl rfl ?_
    refine Dn_ild_n (i := 1) (q := 13) C dX1_plays_12 rfl rfl ?_
    refine Dn_iconst (v := 4) (q := 14) C dX1_plays_13 (by decide) rfl ?_
    refine Dn_callV (ci := 1) (T := TX1) (N := 9) (q := 17) C rfl (kX1_trait X.l X.G X.tg) q_215 q_212 q_213 q_214 q_47 ⟨rfl, rfl⟩ (by decide +kernel) ⟨by decide, by decide⟩ dX1_plays_14 rfl ?_
    refine Dn_icle (t := 22) (q := 20) C dX1_plays_17 (by decide) rfl ?_ ?_
    · refine Dn_ald_n (i := 0) (q := 23) C dX1_plays_22 rfl rfl ?_
      refine Dn_ild_n (i := 1) (q := 24) C dX1_plays_23 rfl rfl ?_
      refine Dn_iconst (v := 0) (q := 25) C dX1_plays_24 (by decide) rfl ?_
      refine Dn_callV (ci := 1) (T := TX1) (N := 9) (q := 28) C rfl (kX1_trait X.l X.G X.tg) q_215 q_212 q_213 q_214 q_47 ⟨rfl, rfl⟩ (by decide +kernel) ⟨by decide, by decide⟩ dX1_plays_25 rfl ?_
      refine Dn_iconst (v := 2) (q := 29) C dX1_plays_28 (by decide) rfl ?_
      refine Dn_icne (t := 38) (q := 32) C dX1_plays_29 (by decide) rfl ?_ ?_
      · exact JX1_plays_38 C hX
      · refine Dn_ild_n (i := 2) (q := 33) C dX1_plays_32 rfl rfl ?_
        refine Dn_iconst (v := 2) (q := 34) C dX1_plays_33 (by decide) rfl ?_
        refine Dn_irem (q := 35) C dX1_plays_34 rfl ?_
        refine Dn_ifne (t := 42) (q := 38) C dX1_plays_35 (by decide) rfl ?_ ?_
        · refine Dn_iconst (v := 0) (q := 43) C dX1_plays_42 (by decide) rfl ?_
          exact JX1_plays_43 C hX
        · exact JX1_plays_38 C hX
    · exact JX1_plays_20 C hX
abbrev rX4_isHour : Room := ({ frames := 0, cells := 0, slots := 0, locals := 0 } : Room)
def jX4_isHour_15 : mK := i_nret .boolean
set_option maxRecDepth 20000 in
theorem JX4_isHour_15 {X : mC} (C : Cx X rX4_isHour cX4_isHour 1 RX4 (some FieldType.boolean)) (hX : Rx X) : Den X rX4_isHour 1 15 jX4_isHour_15 := by
  unfold jX4_isHour_15
  exact Dn_nret C hX dX4_isHour_15
def jX4_isHour_14 : mK := i_push (.int 0) (jX4_isHour_15)
set_option maxRecDepth 20000 in
theorem JX4_isHour_14 {X : mC} (C : Cx X rX4_isHour cX4_isHour 1 RX4 (some FieldType.boolean)) (hX : Rx X) : Den X rX4_isHour 1 14 jX4_isHour_14 := by
  unfold jX4_isHour_14
  refine Dn_iconst (v := 0) (q := 15) C dX4_isHour_14 (by decide) rfl ?_
  exact JX4_isHour_15 C hX
def jX4_isHour : mK := i_ild 0 (i_iflt (jX4_isHour_14) (i_ild 0 (i_push (.int 12) (i_icge (jX4_isHour_14) (i_push (.int 1) (jX4_isHour_15))))))
def FX4_isHour : mF := mEnt 1 jX4_isHour
set_option maxRecDepth 20000 in
theorem kX4_isHour (l : Launch) (G : va_G) (tg : Nat → ClassId) : Ct l G tg yX4_isHour cX4_isHour 1 (some FieldType.boolean) rX4_isHour FX4_isHour := by
  refine Ct.of RX4 (by decide) rfl (fun X C hX => ?_)
  unfold jX4_isHour
  refine Dn_ild_n (i := 0) (q := 1) C dX4_isHour_0 rfl rfl ?_
  refine Dn_iflt (t := 14) (q := 4) C dX4_isHour_1 (by decide) rfl ?_ ?_
  · exact JX4_isHour_14 C hX
  · refine Dn_ild_n (i := 0) (q := 5) C dX4_isHour_4 rfl rfl ?_
    refine Dn_bipush (v := 12) (q := 7) C dX4_isHour_5 (by decide) rfl ?_
    refine Dn_icge (t := 14) (q := 10) C dX4_isHour_7 (by decide) rfl ?_ ?_
    · exact JX4_isHour_14 C hX
    · refine Dn_iconst (v := 1) (q := 11) C dX4_isHour_10 (by decide) rfl ?_
      refine Dn_goto (t := 15) C dX4_isHour_11 (by decide) ?_
      exact JX4_isHour_15 C hX
abbrev rX4_isIn : Room := ({ frames := 0, cells := 0, slots := 0, locals := 0 } : Room)
def jX4_isIn_14 : mK := i_nret .boolean
set_option maxRecDepth 20000 in
theorem JX4_isIn_14 {X : mC} (C : Cx X rX4_isIn cX4_isIn 2 RX4 (some FieldType.boolean)) (hX : Rx X) : Den X rX4_isIn 2 14 jX4_isIn_14 := by
  unfold jX4_isIn_14
  exact Dn_nret C hX dX4_isIn_14
def jX4_isIn : mK := i_ild 1 (i_ild 0 (i_ib (fun x y => x >>> (y &&& 31)) (i_push (.int 1) (i_ib (fun x y => x &&& y) (i_push (.int 1) (i_icne (i_push (.int 0) (jX4_isIn_14)) (i_push (.int 1) (jX4_isIn_14))))))))
def FX4_isIn : mF := mEnt 2 jX4_isIn
set_option maxRecDepth 20000 in
theorem kX4_isIn (l : Launch) (G : va_G) (tg : Nat → ClassId) : Ct l G tg yX4_isIn cX4_isIn 2 (some FieldType.boolean) rX4_isIn FX4_isIn := by
  refine Ct.of RX4 (by decide) rfl (fun X C hX => ?_)
  unfold jX4_isIn
  refine Dn_ild_n (i := 1) (q := 1) C dX4_isIn_0 rfl rfl ?_
  refine Dn_ild_n (i := 0) (q := 2) C dX4_isIn_1 rfl rfl ?_
  refine Dn_ishr (q := 3) C dX4_isIn_2 rfl ?_
  refine Dn_iconst (v := 1) (q := 4) C dX4_isIn_3 (by decide) rfl ?_
  refine Dn_iand (q := 5) C dX4_isIn_4 rfl ?_
  refine Dn_iconst (v := 1) (q := 6) C dX4_isIn_5 (by decide) rfl ?_
  refine Dn_icne (t := 13) (q := 9) C dX4_isIn_6 (by decide) rfl ?_ ?_
  · refine Dn_iconst (v := 0) (q := 14) C dX4_isIn_13 (by decide) rfl ?_
    exact JX4_isIn_14 C hX
  · refine Dn_iconst (v := 1) (q := 10) C dX4_isIn_9 (by decide) rfl ?_
    refine Dn_goto (t := 14) C dX4_isIn_10 (by decide) ?_
    exact JX4_isIn_14 C hX
abbrev rX1_lay : Room := ({ frames := 0, cells := 0, slots := 0, locals := 0 } : Room)
def jX1_lay : mK := i_ald 0 (i_ild 1 (i_puti 1 0 (i_ald 0 (i_ild 2 (i_puti 1 1 (i_ald 0 (i_push (.int 2) (i_puti 1 2 (i_ald 0 (i_push (.int 0) (i_puti 1 3 (i_ald 0 (i_push (.int 50) (i_puti 1 4 (i_ald 0 (i_push (.int 0) (i_puti 1 5 (i_ald 0 (i_push (.long 0) (i_putl 1 6 (i_ald 0 (i_push (.long 0) (i_putl 1 7 (i_vret))))))))))))))))))))))))
def FX1_lay : mF := mEnt 3 jX1_lay
set_option maxRecDepth 20000 in
theorem kX1_lay (l : Launch) (G : va_G) (tg : Nat → ClassId) : Ct l G tg yX1_lay cX1_lay 3 none rX1_lay FX1_lay := by
  refine Ct.of RX1 (by decide) rfl (fun X C hX => ?_)
  unfold jX1_lay
  refine Dn_ald_n (i := 0) (q := 1) C dX1_lay_0 rfl rfl ?_
  refine Dn_ild_n (i := 1) (q := 2) C dX1_lay_1 rfl rfl ?_
  refine Dn_puti (ci := 1) (j := 0) (T := TX1) (N := 9) (Cn := RX1) (q := 5) C rfl iX1 tyX1 tyX1_ok nmX1 (by decide) q_110 rfl (by decide +kernel) dX1_lay_2 rfl ?_
  refine Dn_ald_n (i := 0) (q := 6) C dX1_lay_5 rfl rfl ?_
  refine Dn_ild_n (i := 2) (q := 7) C dX1_lay_6 rfl rfl ?_
  refine Dn_puti (ci := 1) (j := 1) (T := TX1) (N := 9) (Cn := RX1) (q := 10) C rfl iX1 tyX1 tyX1_ok nmX1 (by decide) q_112 rfl (by decide +kernel) dX1_lay_7 rfl ?_
  refine Dn_ald_n (i := 0) (q := 11) C dX1_lay_10 rfl rfl ?_
  refine Dn_iconst (v := 2) (q := 12) C dX1_lay_11 (by decide) rfl ?_
  refine Dn_puti (ci := 1) (j := 2) (T := TX1) (N := 9) (Cn := RX1) (q := 15) C rfl iX1 tyX1 tyX1_ok nmX1 (by decide) q_114 rfl (by decide +kernel) dX1_lay_12 rfl ?_
  refine Dn_ald_n (i := 0) (q := 16) C dX1_lay_15 rfl rfl ?_
  refine Dn_iconst (v := 0) (q := 17) C dX1_lay_16 (by decide) rfl ?_
  refine Dn_puti (ci := 1) (j := 3) (T := TX1) (N := 9) (Cn := RX1) (q := 20) C rfl iX1 tyX1 tyX1_ok nmX1 (by decide) q_117 rfl (by decide +kernel) dX1_lay_17 rfl ?_
  refine Dn_ald_n (i := 0) (q := 21) C dX1_lay_20 rfl rfl ?_
  refine Dn_bipush (v := 50) (q := 23) C dX1_lay_21 (by decide) rfl ?_
  refine Dn_puti (ci := 1) (j := 4) (T := TX1) (N := 9) (Cn := RX1) (q := 26) C rfl iX1 tyX1 tyX1_ok nmX1 (by decide) q_119 rfl (by decide +kernel) dX1_lay_23 rfl ?_
  refine Dn_ald_n (i := 0) (q := 27) C dX1_lay_26 rfl rfl ?_
  refine Dn_iconst (v := 0) (q := 28) C dX1_lay_27 (by decide) rfl ?_
  refine Dn_puti (ci := 1) (j := 5) (T := TX1) (N := 9) (Cn := RX1) (q := 31) C rfl iX1 tyX1 tyX1_ok nmX1 (by decide) q_121 rfl (by decide +kernel) dX1_lay_28 rfl ?_
  refine Dn_ald_n (i := 0) (q := 32) C dX1_lay_31 rfl rfl ?_
  refine Dn_lconst (v := 0) (q := 33) C dX1_lay_32 (by decide) rfl ?_
  refine Dn_putl (ci := 1) (j := 6) (T := TX1) (N := 9) (Cn := RX1) (q := 36) C rfl iX1 tyX1 tyX1_ok nmX1 (by decide) q_126 rfl (by decide +kernel) dX1_lay_33 rfl ?_
  refine Dn_ald_n (i := 0) (q := 37) C dX1_lay_36 rfl rfl ?_
  refine Dn_lconst (v := 0) (q := 38) C dX1_lay_37 (by decide) rfl ?_
  refine Dn_putl (ci := 1) (j := 7) (T := TX1) (N := 9) (Cn := RX1) (q := 41) C rfl iX1 tyX1 tyX1_ok nmX1 (by decide) q_127 rfl (by decide +kernel) dX1_lay_38 rfl ?_
  exact Dn_vret C hX dX1_lay_41
abbrev rX1_become : Room := ({ frames := 1, cells := 0, slots := 0, locals := 26 } : Room)
def jX1_become : mK := i_ald 0 (i_ald 1 (i_get 1 0 (i_puti 1 0 (i_ald 0 (i_ald 1 (i_get 1 1 (i_puti 1 1 (i_ald 0 (i_ald 1 (i_get 1 2 (i_puti 1 2 (i_ald 0 (i_ald 1 (i_get 1 3 (i_puti 1 3 (i_ald 0 (i_ald 1 (i_get 1 4 (i_puti 1 4 (i_ald 0 (i_ald 1 (i_get 1 5 (i_puti 1 5 (i_ald 0 (i_ald 1 (i_get 1 6 (i_putl 1 6 (i_ald 0 (i_ald 1 (i_get 1 7 (i_putl 1 7 (i_ald 1 (i_get 1 8 (i_push (.int 0) (i_ald 0 (i_get 1 8 (i_push (.int 0) (i_ald 0 (i_get 1 8 (i_alen (i_copy (i_vret))))))))))))))))))))))))))))))))))))))))))
def FX1_become : mF := mEnt 2 jX1_become
set_option maxRecDepth 20000 in
theorem kX1_become (l : Launch) (G : va_G) (tg : Nat → ClassId) : Ct l G tg yX1_become cX1_become 2 none rX1_become FX1_become := by
  refine Ct.of RX1 (by decide) rfl (fun X C hX => ?_)
  unfold jX1_become
  refine Dn_ald_n (i := 0) (q := 1) C dX1_become_0 rfl rfl ?_
  refine Dn_ald_n (i := 1) (q := 2) C dX1_become_1 rfl rfl ?_
  refine Dn_get (ci := 1) (j := 0) (T := TX1) (N := 9) (Cn := RX1) (q := 5) C rfl iX1 (by decide) q_110 dX1_become_2 rfl ?_
  refine Dn_puti (ci := 1) (j := 0) (T := TX1) (N := 9) (Cn := RX1) (q := 8) C rfl iX1 tyX1 tyX1_ok nmX1 (by decide) q_110 rfl (by decide +kernel) dX1_become_5 rfl ?_
  refine Dn_ald_n (i := 0) (q := 9) C dX1_become_8 rfl rfl ?_
  refine Dn_ald_n (i := 1) (q := 10) C dX1_become_9 rfl rfl ?_
  refine Dn_get (ci := 1) (j := 1) (T := TX1) (N := 9) (Cn := RX1) (q := 13) C rfl iX1 (by decide) q_112 dX1_become_10 rfl ?_
  refine Dn_puti (ci := 1) (j := 1) (T := TX1) (N := 9) (Cn := RX1) (q := 16) C rfl iX1 tyX1 tyX1_ok nmX1 (by decide) q_112 rfl (by decide +kernel) dX1_become_13 rfl ?_
  refine Dn_ald_n (i := 0) (q := 17) C dX1_become_16 rfl rfl ?_
  refine Dn_ald_n (i := 1) (q := 18) C dX1_become_17 rfl rfl ?_
  refine Dn_get (ci := 1) (j := 2) (T := TX1) (N := 9) (Cn := RX1) (q := 21) C rfl iX1 (by decide) q_114 dX1_become_18 rfl ?_
  refine Dn_puti (ci := 1) (j := 2) (T := TX1) (N := 9) (Cn := RX1) (q := 24) C rfl iX1 tyX1 tyX1_ok nmX1 (by decide) q_114 rfl (by decide +kernel) dX1_become_21 rfl ?_
  refine Dn_ald_n (i := 0) (q := 25) C dX1_become_24 rfl rfl ?_
  refine Dn_ald_n (i := 1) (q := 26) C dX1_become_25 rfl rfl ?_
  refine Dn_get (ci := 1) (j := 3) (T := TX1) (N := 9) (Cn := RX1) (q := 29) C rfl iX1 (by decide) q_117 dX1_become_26 rfl ?_
  refine Dn_puti (ci := 1) (j := 3) (T := TX1) (N := 9) (Cn := RX1) (q := 32) C rfl iX1 tyX1 tyX1_ok nmX1 (by decide) q_117 rfl (by decide +kernel) dX1_become_29 rfl ?_
  refine Dn_ald_n (i := 0) (q := 33) C dX1_become_32 rfl rfl ?_
  refine Dn_ald_n (i := 1) (q := 34) C dX1_become_33 rfl rfl ?_
  refine Dn_get (ci := 1) (j := 4) (T := TX1) (N := 9) (Cn := RX1) (q := 37) C rfl iX1 (by decide) q_119 dX1_become_34 rfl ?_
  refine Dn_puti (ci := 1) (j := 4) (T := TX1) (N := 9) (Cn := RX1) (q := 40) C rfl iX1 tyX1 tyX1_ok nmX1 (by decide) q_119 rfl (by decide +kernel) dX1_become_37 rfl ?_
  refine Dn_ald_n (i := 0) (q := 41) C dX1_become_40 rfl rfl ?_
  refine Dn_ald_n (i := 1) (q := 42) C dX1_become_41 rfl rfl ?_
  refine Dn_get (ci := 1) (j := 5) (T := TX1) (N := 9) (Cn := RX1) (q := 45) C rfl iX1 (by decide) q_121 dX1_become_42 rfl ?_
  refine Dn_puti (ci := 1) (j := 5) (T := TX1) (N := 9) (Cn := RX1) (q := 48) C rfl iX1 tyX1 tyX1_ok nmX1 (by decide) q_121 rfl (by decide +kernel) dX1_become_45 rfl ?_
  refine Dn_ald_n (i := 0) (q := 49) C dX1_become_48 rfl rfl ?_
  refine Dn_ald_n (i := 1) (q := 50) C dX1_become_49 rfl rfl ?_
  refine Dn_get (ci := 1) (j := 6) (T := TX1) (N := 9) (Cn := RX1) (q := 53) C rfl iX1 (by decide) q_126 dX1_become_50 rfl ?_
  refine Dn_putl (ci := 1) (j := 6) (T := TX1) (N := 9) (Cn := RX1) (q := 56) C rfl iX1 tyX1 tyX1_ok nmX1 (by decide) q_126 rfl (by decide +kernel) dX1_become_53 rfl ?_
  refine Dn_ald_n (i := 0) (q := 57) C dX1_become_56 rfl rfl ?_
  refine Dn_ald_n (i := 1) (q := 58) C dX1_become_57 rfl rfl ?_
  refine Dn_get (ci := 1) (j := 7) (T := TX1) (N := 9) (Cn := RX1) (q := 61) C rfl iX1 (by decide) q_127 dX1_become_58 rfl ?_
  refine Dn_putl (ci := 1) (j := 7) (T := TX1) (N := 9) (Cn := RX1) (q := 64) C rfl iX1 tyX1 tyX1_ok nmX1 (by decide) q_127 rfl (by decide +kernel) dX1_become_61 rfl ?_
  refine Dn_ald_n (i := 1) (q := 65) C dX1_become_64 rfl rfl ?_
  refine Dn_get (ci := 1) (j := 8) (T := TX1) (N := 9) (Cn := RX1) (q := 68) C rfl iX1 (by decide) q_129 dX1_become_65 rfl ?_
  refine Dn_iconst (v := 0) (q := 69) C dX1_become_68 (by decide) rfl ?_
  refine Dn_ald_n (i := 0) (q := 70) C dX1_become_69 rfl rfl ?_
  refine Dn_get (ci := 1) (j := 8) (T := TX1) (N := 9) (Cn := RX1) (q := 73) C rfl iX1 (by decide) q_129 dX1_become_70 rfl ?_
  refine Dn_iconst (v := 0) (q := 74) C dX1_become_73 (by decide) rfl ?_
  refine Dn_ald_n (i := 0) (q := 75) C dX1_become_74 rfl rfl ?_
  refine Dn_get (ci := 1) (j := 8) (T := TX1) (N := 9) (Cn := RX1) (q := 78) C rfl iX1 (by decide) q_129 dX1_become_75 rfl ?_
  refine Dn_alen (q := 79) C dX1_become_78 rfl ?_
  refine Dn_copy (q := 82) C q_330 q_332 q_331 q_51 (by decide) (by decide +kernel) dX1_become_79 rfl ?_
  exact Dn_vret C hX dX1_become_82
abbrev rX1_hasPlace : Room := ({ frames := 1, cells := 0, slots := 0, locals := 20 } : Room)
def jX1_hasPlace_17 : mK := i_nret .boolean
set_option maxRecDepth 20000 in
theorem JX1_hasPlace_17 {X : mC} (C : Cx X rX1_hasPlace cX1_hasPlace 2 RX1 (some FieldType.boolean)) (hX : Rx X) : Den X rX1_hasPlace 2 17 jX1_hasPlace_17 := by
  unfold jX1_hasPlace_17
  exact Dn_nret C hX dX1_hasPlace_17
def jX1_hasPlace_16 : mK := i_push (.int 0) (jX1_hasPlace_17)
set_option maxRecDepth 20000 in
theorem JX1_hasPlace_16 {X : mC} (C : Cx X rX1_hasPlace cX1_hasPlace 2 RX1 (some FieldType.boolean)) (hX : Rx X) : Den X rX1_hasPlace 2 16 jX1_hasPlace_16 := by
  unfold jX1_hasPlace_16
  refine Dn_iconst (v := 0) (q := 17) C dX1_hasPlace_16 (by decide) rfl ?_
  exact JX1_hasPlace_17 C hX
def jX1_hasPlace : mK := i_ild 1 (i_iflt (jX1_hasPlace_16) (i_ild 1 (i_ald 0 (i_callV 1 0 FX1_places (i_icge (jX1_hasPlace_16) (i_push (.int 1) (jX1_hasPlace_17)))))))
def FX1_hasPlace : mF := mEnt 2 jX1_hasPlace
set_option maxRecDepth 20000 in
theorem kX1_hasPlace (l : Launch) (G : va_G) (tg : Nat → ClassId) : Ct l G tg yX1_hasPlace cX1_hasPlace 2 (some FieldType.boolean) rX1_hasPlace FX1_hasPlace := by
  refine Ct.of RX1 (by decide) rfl (fun X C hX => ?_)
  unfold jX1_hasPlace
  refine Dn_ild_n (i := 1) (q := 1) C dX1_hasPlace_0 rfl rfl ?_
  refine Dn_iflt (t := 16) (q := 4) C dX1_hasPlace_1 (by decide) rfl ?_ ?_
  · exact JX1_hasPlace_16 C hX
  · refine Dn_ild_n (i := 1) (q := 5) C dX1_hasPlace_4 rfl rfl ?_
    refine Dn_ald_n (i := 0) (q := 6) C dX1_hasPlace_5 rfl rfl ?_
    refine Dn_callV (ci := 1) (T := TX1) (N := 9) (q := 9) C rfl (kX1_places X.l X.G X.tg) q_178 q_243 q_176 q_177 q_47 ⟨rfl, rfl⟩ (by decide +kernel) ⟨by decide, by decide⟩ dX1_hasPlace_6 rfl ?_
    refine Dn_icge (t := 16) (q := 12) C dX1_hasPlace_9 (by decide) rfl ?_ ?_
    · exact JX1_hasPlace_16 C hX
    · refine Dn_iconst (v := 1) (q := 13) C dX1_hasPlace_12 (by decide) rfl ?_
      refine Dn_goto (t := 17) C dX1_hasPlace_13 (by decide) ?_
      exact JX1_hasPlace_17 C hX
abbrev rX1_isOfWalk : Room := ({ frames := 0, cells := 0, slots := 0, locals := 0 } : Room)
def jX1_isOfWalk_18 : mK := i_nret .boolean
set_option maxRecDepth 20000 in
theorem JX1_isOfWalk_18 {X : mC} (C : Cx X rX1_isOfWalk cX1_isOfWalk 2 RX1 (some FieldType.boolean)) (hX : Rx X) : Den X rX1_isOfWalk 2 18 jX1_isOfWalk_18 := by
  unfold jX1_isOfWalk_18
  exact Dn_nret C hX dX1_isOfWalk_18
def jX1_isOfWalk : mK := i_ald 0 (i_get 1 6 (i_ild 1 (i_ls (fun x y => (x.toUInt64 >>> (y.toInt64.toUInt64 &&& Int64.toUInt64 63)).toInt64) (i_push (.long 1) (i_lb (fun x y => x &&& y) (i_push (.long 1) (i_lcmp (i_ifne (i_push (.int 0) (jX1_isOfWalk_18)) (i_push (.int 1) (jX1_isOfWalk_18))))))))))
def FX1_isOfWalk : mF := mEnt 2 jX1_isOfWalk
set_option maxRecDepth 20000 in
theorem kX1_isOfWalk (l : Launch) (G : va_G) (tg : Nat → ClassId) : Ct l G tg yX1_isOfWalk cX1_isOfWalk 2 (some FieldType.boolean) rX1_isOfWalk FX1_isOfWalk := by
  refine Ct.of RX1 (by decide) rfl (fun X C hX => ?_)
  unfold jX1_isOfWalk
  refine Dn_ald_n (i := 0) (q := 1) C dX1_isOfWalk_0 rfl rfl ?_
  refine Dn_get (ci := 1) (j := 6) (T := TX1) (N := 9) (Cn := RX1) (q := 4) C rfl iX1 (by decide) q_126 dX1_isOfWalk_1 rfl ?_
  refine Dn_ild_n (i := 1) (q := 5) C dX1_isOfWalk_4 rfl rfl ?_
  refine Dn_lushr (q := 6) C dX1_isOfWalk_5 rfl ?_
  refine Dn_lconst (v := 1) (q := 7) C dX1_isOfWalk_6 (by decide) rfl ?_
  refine Dn_land (q := 8) C dX1_isOfWalk_7 rfl ?_
  refine Dn_lconst (v := 1) (q := 9) C dX1_isOfWalk_8 (by decide) rfl ?_
  refine Dn_lcmp (q := 10) C dX1_isOfWalk_9 rfl ?_
  refine Dn_ifne (t := 17) (q := 13) C dX1_isOfWalk_10 (by decide) rfl ?_ ?_
  · refine Dn_iconst (v := 0) (q := 18) C dX1_isOfWalk_17 (by decide) rfl ?_
    exact JX1_isOfWalk_18 C hX
  · refine Dn_iconst (v := 1) (q := 14) C dX1_isOfWalk_13 (by decide) rfl ?_
    refine Dn_goto (t := 18) C dX1_isOfWalk_14 (by decide) ?_
    exact JX1_isOfWalk_18 C hX
abbrev rX1_addHedge : Room := ({ frames := 0, cells := 0, slots := 0, locals := 0 } : Room)
def jX1_addHedge : mK := i_ald 0 (i_dup (i_get 1 7 (i_push (.long 1) (i_ild 1 (i_ls (fun x y => x <<< (y.toInt64 &&& 63)) (i_lb (fun x y => x ||| y) (i_putl 1 7 (i_vret))))))))
def FX1_addHedge : mF := mEnt 2 jX1_addHedge
set_option maxRecDepth 20000 in
theorem kX1_addHedge (l : Launch) (G : va_G) (tg : Nat → ClassId) : Ct l G tg yX1_addHedge cX1_addHedge 2 none rX1_addHedge FX1_addHedge := by
  refine Ct.of RX1 (by decide) rfl (fun X C hX => ?_)
  unfold jX1_addHedge
  refine Dn_ald_n (i := 0) (q := 1) C dX1_addHedge_0 rfl rfl ?_
  refine Dn_dup (q := 2) C dX1_addHedge_1 rfl ?_
  refine Dn_get (ci := 1) (j := 7) (T := TX1) (N := 9) (Cn := RX1) (q := 5) C rfl iX1 (by decide) q_127 dX1_addHedge_2 rfl ?_
  refine Dn_lconst (v := 1) (q := 6) C dX1_addHedge_5 (by decide) rfl ?_
  refine Dn_ild_n (i := 1) (q := 7) C dX1_addHedge_6 rfl rfl ?_
  refine Dn_lshl (q := 8) C dX1_addHedge_7 rfl ?_
  refine Dn_lor (q := 9) C dX1_addHedge_8 rfl ?_
  refine Dn_putl (ci := 1) (j := 7) (T := TX1) (N := 9) (Cn := RX1) (q := 12) C rfl iX1 tyX1 tyX1_ok nmX1 (by decide) q_127 rfl (by decide +kernel) dX1_addHedge_9 rfl ?_
  exact Dn_vret C hX dX1_addHedge_12
abbrev rX1_addWalk : Room := ({ frames := 0, cells := 0, slots := 0, locals := 0 } : Room)
def jX1_addWalk_31 : mK := i_vret
set_option maxRecDepth 20000 in
theorem JX1_addWalk_31 {X : mC} (C : Cx X rX1_addWalk cX1_addWalk 4 RX1 none) (hX : Rx X) : Den X rX1_addWalk 4 31 jX1_addWalk_31 := by
  unfold jX1_addWalk_31
  exact Dn_vret C hX dX1_addWalk_31
def jX1_addWalk_2 : mK := i_loop (fun B2 => i_ild 3 (i_ild 2 (i_icgt (jX1_addWalk_31) (i_ild 3 (i_push (.int 36) (i_icge (jX1_addWalk_31) (i_ald 0 (i_dup (i_get 1 6 (i_push (.long 1) (i_ild 3 (i_ls (fun x y => x <<< (y.toInt64 &&& 63)) (i_lb (fun x y => x ||| y) (i_putl 1 6 (i_inc 3 1 (B2)))))))))))))))) 1000
set_option maxRecDepth 20000 in
theorem JX1_addWalk_2 {X : mC} (C : Cx X rX1_addWalk cX1_addWalk 4 RX1 none) (hX : Rx X) : Den X rX1_addWalk 4 2 jX1_addWalk_2 := by
  unfold jX1_addWalk_2
  refine Dn_loop (fun B2 hB2 => ?_) 1000
  refine Dn_ild_n (i := 3) (q := 3) C dX1_addWalk_2 rfl rfl ?_
  refine Dn_ild_n (i := 2) (q := 4) C dX1_addWalk_3 rfl rfl ?_
  refine Dn_icgt (t := 31) (q := 7) C dX1_addWalk_4 (by decide) rfl ?_ ?_
  · exact JX1_addWalk_31 C hX
  · refine Dn_ild_n (i := 3) (q := 8) C dX1_addWalk_7 rfl rfl ?_
    refine Dn_bipush (v := 36) (q := 10) C dX1_addWalk_8 (by decide) rfl ?_
    refine Dn_icge (t := 31) (q := 13) C dX1_addWalk_10 (by decide) rfl ?_ ?_
    · exact JX1_addWalk_31 C hX
    · refine Dn_ald_n (i := 0) (q := 14) C dX1_addWalk_13 rfl rfl ?_
      refine Dn_dup (q := 15) C dX1_addWalk_14 rfl ?_
      refine Dn_get (ci := 1) (j := 6) (T := TX1) (N := 9) (Cn := RX1) (q := 18) C rfl iX1 (by decide) q_126 dX1_addWalk_15 rfl ?_
      refine Dn_lconst (v := 1) (q := 19) C dX1_addWalk_18 (by decide) rfl ?_
      refine Dn_ild_n (i := 3) (q := 20) C dX1_addWalk_19 rfl rfl ?_
      refine Dn_lshl (q := 21) C dX1_addWalk_20 rfl ?_
      refine Dn_lor (q := 22) C dX1_addWalk_21 rfl ?_
      refine Dn_putl (ci := 1) (j := 6) (T := TX1) (N := 9) (Cn := RX1) (q := 25) C rfl iX1 tyX1 tyX1_ok nmX1 (by decide) q_126 rfl (by decide +kernel) dX1_addWalk_22 rfl ?_
      refine Dn_inc (z := 1) (q := 28) C dX1_addWalk_25 (by decide) (by decide) rfl ?_
      refine Dn_goto (t := 2) C dX1_addWalk_28 (by decide) ?_
      exact hB2
def jX1_addWalk : mK := i_ild 1 (i_ist 3 (jX1_addWalk_2))
def FX1_addWalk : mF := mEnt 4 jX1_addWalk
set_option maxRecDepth 20000 in
theorem kX1_addWalk (l : Launch) (G : va_G) (tg : Nat → ClassId) : Ct l G tg yX1_addWalk cX1_addWalk 4 none rX1_addWalk FX1_addWalk := by
  refine Ct.of RX1 (by decide) rfl (fun X C hX => ?_)
  unfold jX1_addWalk
  refine Dn_ild_n (i := 1) (q := 1) C dX1_addWalk_0 rfl rfl ?_
  refine Dn_ist_n (i := 3) (q := 2) C dX1_addWalk_1 rfl (by decide) rfl ?_
  exact JX1_addWalk_2 C hX
abbrev rX1_leastOfWalk : Room := ({ frames := 1, cells := 0, slots := 0, locals := 21 } : Room)
def jX1_leastOfWalk_2 : mK := i_loop (fun B2 => i_ild 1 (i_ald 0 (i_callV 1 0 FX1_places (i_icge (i_push (.int (-1)) (i_iret)) (i_ald 0 (i_ild 1 (i_callV 1 1 FX1_isOfWalk (i_ifeq (i_inc 1 1 (B2)) (i_ild 1 (i_iret)))))))))) 1000
set_option maxRecDepth 20000 in
theorem JX1_leastOfWalk_2 {X : mC} (C : Cx X rX1_leastOfWalk cX1_leastOfWalk 2 RX1 (some FieldType.int)) (hX : Rx X) : Den X rX1_leastOfWalk 2 2 jX1_leastOfWalk_2 := by
  unfold jX1_leastOfWalk_2
  refine Dn_loop (fun B2 hB2 => ?_) 1000
  refine Dn_ild_n (i := 1) (q := 3) C dX1_leastOfWalk_2 rfl rfl ?_
  refine Dn_ald_n (i := 0) (q := 4) C dX1_leastOfWalk_3 rfl rfl ?_
  refine Dn_callV (ci := 1) (T := TX1) (N := 9) (q := 7) C rfl (kX1_places X.l X.G X.tg) q_178 q_243 q_176 q_177 q_47 ⟨rfl, rfl⟩ (by decide +kernel) ⟨by decide, by decide⟩ dX1_leastOfWalk_4 rfl ?_
  refine Dn_icge (t := 26) (q := 10) C dX1_leastOfWalk_7 (by decide) rfl ?_ ?_
  · refine Dn_iconst (v := (-1)) (q := 27) C dX1_leastOfWalk_26 (by decide) rfl ?_
    exact Dn_iret C hX dX1_leastOfWalk_27
  · refine Dn_ald_n (i := 0) (q := 11) C dX1_leastOfWalk_10 rfl rfl ?_
    refine Dn_ild_n (i := 1) (q := 12) C dX1_leastOfWalk_11 rfl rfl ?_
    refine Dn_callV (ci := 1) (T := TX1) (N := 9) (q := 15) C rfl (kX1_isOfWalk X.l X.G X.tg) q_247 q_244 q_245 q_246 q_47 ⟨rfl, rfl⟩ (by decide +kernel) ⟨by decide, by decide⟩ dX1_leastOfWalk_12 rfl ?_
    refine Dn_ifeq (t := 20) (q := 18) C dX1_leastOfWalk_15 (by decide) rfl ?_ ?_
    · refine Dn_inc (z := 1) (q := 23) C dX1_leastOfWalk_20 (by decide) (by decide) rfl ?_
      refine Dn_goto (t := 2) C dX1_leastOfWalk_23 (by decide) ?_
      exact hB2
    · refine Dn_ild_n (i := 1) (q := 19) C dX1_leastOfWalk_18 rfl rfl ?_
      exact Dn_iret C hX dX1_leastOfWalk_19
def jX1_leastOfWalk : mK := i_push (.int 0) (i_ist 1 (jX1_leastOfWalk_2))
def FX1_leastOfWalk : mF := mEnt 2 jX1_leastOfWalk
set_option maxRecDepth 20000 in
theorem kX1_leastOfWalk (l : Launch) (G : va_G) (tg : Nat → ClassId) : Ct l G tg yX1_leastOfWalk cX1_leastOfWalk 2 (some FieldType.int) rX1_leastOfWalk FX1_leastOfWalk := by
  refine Ct.of RX1 (by decide) rfl (fun X C hX => ?_)
  unfold jX1_leastOfWalk
  refine Dn_iconst (v := 0) (q := 1) C dX1_leastOfWalk_0 (by decide) rfl ?_
  refine Dn_ist_n (i := 1) (q := 2) C dX1_leastOfWalk_1 rfl (by decide) rfl ?_
  exact JX1_leastOfWalk_2 C hX
abbrev rX1_around : Room := ({ frames := 1, cells := 0, slots := 0, locals := 21 } : Room)
def jX1_around_32 (B5 : mK) : mK := i_lb (fun x y => x ||| y) (i_lst 3 (i_inc 5 1 (B5)))
set_option maxRecDepth 20000 in
theorem JX1_around_32 {X : mC} (C : Cx X rX1_around cX1_around 7 RX1 (some FieldType.long)) (hX : Rx X) (B5 : mK) (hB5 : Den X rX1_around 7 5 B5) : Den X rX1_around 7 32 (jX1_around_32 B5) := by
  unfold jX1_around_32
  refine Dn_lor (q := 33) C dX1_around_32 rfl ?_
  refine Dn_lst_n (i := 3) (q := 34) C dX1_around_33 rfl (by decide) rfl ?_
  refine Dn_inc (z := 1) (q := 37) C dX1_around_34 (by decide) (by decide) rfl ?_
  refine Dn_goto (t := 5) C dX1_around_37 (by decide) ?_
  exact hB5
def jX1_around_5 : mK := i_loop (fun B5 => i_ild 5 (i_ald 0 (i_callV 1 0 FX1_places (i_icge (i_lld 3 (i_ald 0 (i_get 1 0 (i_push (.int 1) (i_ib (fun x y => x - y) (i_ls (fun x y => x <<< (y.toInt64 &&& 63)) (i_lst 5 (i_lld 1 (i_lld 1 (i_ald 0 (i_get 1 0 (i_ls (fun x y => x <<< (y.toInt64 &&& 63)) (i_lb (fun x y => x ||| y) (i_lld 1 (i_ald 0 (i_get 1 0 (i_ls (fun x y => (x.toUInt64 >>> (y.toInt64.toUInt64 &&& Int64.toUInt64 63)).toInt64) (i_lb (fun x y => x ||| y) (i_lld 1 (i_lld 5 (i_push (.long (-1)) (i_lb (fun x y => x ^^^ y) (i_lb (fun x y => x &&& y) (i_push (.int 1) (i_ls (fun x y => x <<< (y.toInt64 &&& 63)) (i_lb (fun x y => x ||| y) (i_lld 1 (i_lld 3 (i_push (.long (-1)) (i_lb (fun x y => x ^^^ y) (i_lb (fun x y => x &&& y) (i_push (.int 1) (i_ls (fun x y => (x.toUInt64 >>> (y.toInt64.toUInt64 &&& Int64.toUInt64 63)).toInt64) (i_lb (fun x y => x ||| y) (i_lret))))))))))))))))))))))))))))))))))) (i_lld 3 (i_ald 0 (i_ild 5 (i_callV 1 1 FX1_column (i_ifne (i_push (.long 0) ((jX1_around_32 B5))) (i_push (.long 1) (i_ild 5 (i_ls (fun x y => x <<< (y.toInt64 &&& 63)) ((jX1_around_32 B5)))))))))))))) 1000
set_option maxRecDepth 20000 in
theorem JX1_around_5 {X : mC} (C : Cx X rX1_around cX1_around 7 RX1 (some FieldType.long)) (hX : Rx X) : Den X rX1_around 7 5 jX1_around_5 := by
  unfold jX1_around_5
  refine Dn_loop (fun B5 hB5 => ?_) 1000
  refine Dn_ild (q := 7) C dX1_around_5 rfl ?_
  refine Dn_ald_n (i := 0) (q := 8) C dX1_around_7 rfl rfl ?_
  refine Dn_callV (ci := 1) (T := TX1) (N := 9) (q := 11) C rfl (kX1_places X.l X.G X.tg) q_178 q_243 q_176 q_177 q_47 ⟨rfl, rfl⟩ (by decide +kernel) ⟨by decide, by decide⟩ dX1_around_8 rfl ?_
  refine Dn_icge (t := 40) (q := 14) C dX1_around_11 (by decide) rfl ?_ ?_
  · refine Dn_lld_n (i := 3) (q := 41) C dX1_around_40 rfl rfl ?_
    refine Dn_ald_n (i := 0) (q := 42) C dX1_around_41 rfl rfl ?_
    refine Dn_get (ci := 1) (j := 0) (T := TX1) (N := 9) (Cn := RX1) (q := 45) C rfl iX1 (by decide) q_110 dX1_around_42 rfl ?_
    refine Dn_iconst (v := 1) (q := 46) C dX1_around_45 (by decide) rfl ?_
    refine Dn_isub (q := 47) C dX1_around_46 rfl ?_
    refine Dn_lshl (q := 48) C dX1_around_47 rfl ?_
    refine Dn_lst (q := 50) C dX1_around_48 (by decide) rfl ?_
    refine Dn_lld_n (i := 1) (q := 51) C dX1_around_50 rfl rfl ?_
    refine Dn_lld_n (i := 1) (q := 52) C dX1_around_51 rfl rfl ?_
    refine Dn_ald_n (i := 0) (q := 53) C dX1_around_52 rfl rfl ?_
    refine Dn_get (ci := 1) (j := 0) (T := TX1) (N := 9) (Cn := RX1) (q := 56) C rfl iX1 (by decide) q_110 dX1_around_53 rfl ?_
    refine Dn_lshl (q := 57) C dX1_around_56 rfl ?_
    refine Dn_lor (q := 58) C dX1_around_57 rfl ?_
    refine Dn_lld_n (i := 1) (q := 59) C dX1_around_58 rfl rfl ?_
    refine Dn_ald_n (i := 0) (q := 60) C dX1_around_59 rfl rfl ?_
    refine Dn_get (ci := 1) (j := 0) (T := TX1) (N := 9) (Cn := RX1) (q := 63) C rfl iX1 (by decide) q_110 dX1_around_60 rfl ?_
    refine Dn_lushr (q := 64) C dX1_around_63 rfl ?_
    refine Dn_lor (q := 65) C dX1_around_64 rfl ?_
    refine Dn_lld_n (i := 1) (q := 66) C dX1_around_65 rfl rfl ?_
    refine Dn_lld (q := 68) C dX1_around_66 rfl ?_
    refine Dn_ldc2 (q := 71) C dX1_around_68 q_672 rfl ?_
    refine Dn_lxor (q := 72) C dX1_around_71 rfl ?_
    refine Dn_land (q := 73) C dX1_around_72 rfl ?_
    refine Dn_iconst (v := 1) (q := 74) C dX1_around_73 (by decide) rfl ?_
    refine Dn_lshl (q := 75) C dX1_around_74 rfl ?_
    refine Dn_lor (q := 76) C dX1_around_75 rfl ?_
    refine Dn_lld_n (i := 1) (q := 77) C dX1_around_76 rfl rfl ?_
    refine Dn_lld_n (i := 3) (q := 78) C dX1_around_77 rfl rfl ?_
    refine Dn_ldc2 (q := 81) C dX1_around_78 q_672 rfl ?_
    refine Dn_lxor (q := 82) C dX1_around_81 rfl ?_
    refine Dn_land (q := 83) C dX1_around_82 rfl ?_
    refine Dn_iconst (v := 1) (q := 84) C dX1_around_83 (by decide) rfl ?_
    refine Dn_lushr (q := 85) C dX1_around_84 rfl ?_
    refine Dn_lor (q := 86) C dX1_around_85 rfl ?_
    exact Dn_lret C hX dX1_around_86
  · refine Dn_lld_n (i := 3) (q := 15) C dX1_around_14 rfl rfl ?_
    refine Dn_ald_n (i := 0) (q := 16) C dX1_around_15 rfl rfl ?_
    refine Dn_ild (q := 18) C dX1_around_16 rfl ?_
    refine Dn_callV (ci := 1) (T := TX1) (N := 9) (q := 21) C rfl (kX1_column X.l X.G X.tg) q_193 q_190 q_191 q_192 q_47 ⟨rfl, rfl⟩ (by decide +kernel) ⟨by decide, by decide⟩ dX1_around_18 rfl ?_
    refine Dn_ifne (t := 31) (q := 24) C dX1_around_21 (by decide) rfl ?_ ?_
    · refine Dn_lconst (v := 0) (q := 32) C dX1_around_31 (by decide) rfl ?_
      exact JX1_around_32 C hX B5 hB5
    · refine Dn_lconst (v := 1) (q := 25) C dX1_around_24 (by decide) rfl ?_
      refine Dn_ild (q := 27) C dX1_around_25 rfl ?_
      refine Dn_lshl (q := 28) C dX1_around_27 rfl ?_
      refine Dn_goto (t := 32) C dX1_around_28 (by decide) ?_
      exact JX1_around_32 C hX B5 hB5
def jX1_around : mK := i_push (.long 0) (i_lst 3 (i_push (.int 0) (i_ist 5 (jX1_around_5))))
def FX1_around : mF := mEnt 7 jX1_around
set_option maxRecDepth 20000 in
theorem kX1_around (l : Launch) (G : va_G) (tg : Nat → ClassId) : Ct l G tg yX1_around cX1_around 7 (some FieldType.long) rX1_around FX1_around := by
  refine Ct.of RX1 (by decide) rfl (fun X C hX => ?_)
  unfold jX1_around
  refine Dn_lconst (v := 0) (q := 1) C dX1_around_0 (by decide) rfl ?_
  refine Dn_lst_n (i := 3) (q := 2) C dX1_around_1 rfl (by decide) rfl ?_
  refine Dn_iconst (v := 0) (q := 3) C dX1_around_2 (by decide) rfl ?_
  refine Dn_ist (q := 5) C dX1_around_3 (by decide) rfl ?_
  exact JX1_around_5 C hX
abbrev rX1_hasBand : Room := ({ frames := 0, cells := 0, slots := 0, locals := 0 } : Room)
def jX1_hasBand_17 : mK := i_nret .boolean
set_option maxRecDepth 20000 in
theorem JX1_hasBand_17 {X : mC} (C : Cx X rX1_hasBand cX1_hasBand 2 RX1 (some FieldType.boolean)) (hX : Rx X) : Den X rX1_hasBand 2 17 jX1_hasBand_17 := by
  unfold jX1_hasBand_17
  exact Dn_nret C hX dX1_hasBand_17
def jX1_hasBand_16 : mK := i_push (.int 0) (jX1_hasBand_17)
set_option maxRecDepth 20000 in
theorem JX1_hasBand_16 {X : mC} (C : Cx X rX1_hasBand cX1_hasBand 2 RX1 (some FieldType.boolean)) (hX : Rx X) : Den X rX1_hasBand 2 16 jX1_hasBand_16 := by
  unfold jX1_hasBand_16
  refine Dn_iconst (v := 0) (q := 17) C dX1_hasBand_16 (by decide) rfl ?_
  exact JX1_hasBand_17 C hX
def jX1_hasBand : mK := i_ild 1 (i_iflt (jX1_hasBand_16) (i_ild 1 (i_ald 0 (i_get 1 5 (i_icge (jX1_hasBand_16) (i_push (.int 1) (jX1_hasBand_17)))))))
def FX1_hasBand : mF := mEnt 2 jX1_hasBand
set_option maxRecDepth 20000 in
theorem kX1_hasBand (l : Launch) (G : va_G) (tg : Nat → ClassId) : Ct l G tg yX1_hasBand cX1_hasBand 2 (some FieldType.boolean) rX1_hasBand FX1_hasBand := by
  refine Ct.of RX1 (by decide) rfl (fun X C hX => ?_)
  unfold jX1_hasBand
  refine Dn_ild_n (i := 1) (q := 1) C dX1_hasBand_0 rfl rfl ?_
  refine Dn_iflt (t := 16) (q := 4) C dX1_hasBand_1 (by decide) rfl ?_ ?_
  · exact JX1_hasBand_16 C hX
  · refine Dn_ild_n (i := 1) (q := 5) C dX1_hasBand_4 rfl rfl ?_
    refine Dn_ald_n (i := 0) (q := 6) C dX1_hasBand_5 rfl rfl ?_
    refine Dn_get (ci := 1) (j := 5) (T := TX1) (N := 9) (Cn := RX1) (q := 9) C rfl iX1 (by decide) q_121 dX1_hasBand_6 rfl ?_
    refine Dn_icge (t := 16) (q := 12) C dX1_hasBand_9 (by decide) rfl ?_ ?_
    · exact JX1_hasBand_16 C hX
    · refine Dn_iconst (v := 1) (q := 13) C dX1_hasBand_12 (by decide) rfl ?_
      refine Dn_goto (t := 17) C dX1_hasBand_13 (by decide) ?_
      exact JX1_hasBand_17 C hX
abbrev rX1_bandSets : Room := ({ frames := 0, cells := 0, slots := 0, locals := 0 } : Room)
def jX1_bandSets : mK := i_push (.int 1) (i_ald 0 (i_get 1 5 (i_ib (fun x y => x <<< (y &&& 31)) (i_iret))))
def FX1_bandSets : mF := mEnt 1 jX1_bandSets
set_option maxRecDepth 20000 in
theorem kX1_bandSets (l : Launch) (G : va_G) (tg : Nat → ClassId) : Ct l G tg yX1_bandSets cX1_bandSets 1 (some FieldType.int) rX1_bandSets FX1_bandSets := by
  refine Ct.of RX1 (by decide) rfl (fun X C hX => ?_)
  unfold jX1_bandSets
  refine Dn_iconst (v := 1) (q := 1) C dX1_bandSets_0 (by decide) rfl ?_
  refine Dn_ald_n (i := 0) (q := 2) C dX1_bandSets_1 rfl rfl ?_
  refine Dn_get (ci := 1) (j := 5) (T := TX1) (N := 9) (Cn := RX1) (q := 5) C rfl iX1 (by decide) q_121 dX1_bandSets_2 rfl ?_
  refine Dn_ishl (q := 6) C dX1_bandSets_5 rfl ?_
  exact Dn_iret C hX dX1_bandSets_6
abbrev rX1_setTrait : Room := ({ frames := 1, cells := 0, slots := 0, locals := 21 } : Room)
def jX1_setTrait_20 : mK := i_vret
set_option maxRecDepth 20000 in
theorem JX1_setTrait_20 {X : mC} (C : Cx X rX1_setTrait cX1_setTrait 4 RX1 none) (hX : Rx X) : Den X rX1_setTrait 4 20 jX1_setTrait_20 := by
  unfold jX1_setTrait_20
  exact Dn_vret C hX dX1_setTrait_20
def jX1_setTrait : mK := i_ild 1 (i_ild 2 (i_call 2 FX1_isTrait (i_ifeq (jX1_setTrait_20) (i_ald 0 (i_get 1 8 (i_ild 1 (i_push (.int 7) (i_ib (fun x y => x * y) (i_ild 2 (i_ib (fun x y => x + y) (i_ild 3 (i_iast (jX1_setTrait_20)))))))))))))
def FX1_setTrait : mF := mEnt 4 jX1_setTrait
set_option maxRecDepth 20000 in
theorem kX1_setTrait (l : Launch) (G : va_G) (tg : Nat → ClassId) : Ct l G tg yX1_setTrait cX1_setTrait 4 none rX1_setTrait FX1_setTrait := by
  refine Ct.of RX1 (by decide) rfl (fun X C hX => ?_)
  unfold jX1_setTrait
  refine Dn_ild_n (i := 1) (q := 1) C dX1_setTrait_0 rfl rfl ?_
  refine Dn_ild_n (i := 2) (q := 2) C dX1_setTrait_1 rfl rfl ?_
  refine Dn_callS (q := 5) C (kX1_isTrait X.l X.G X.tg) q_218 q_216 q_217 q_47 ⟨rfl, rfl⟩ (by decide +kernel) ⟨by decide, by decide⟩ dX1_setTrait_2 rfl ?_
  refine Dn_ifeq (t := 20) (q := 8) C dX1_setTrait_5 (by decide) rfl ?_ ?_
  · exact JX1_setTrait_20 C hX
  · refine Dn_ald_n (i := 0) (q := 9) C dX1_setTrait_8 rfl rfl ?_
    refine Dn_get (ci := 1) (j := 8) (T := TX1) (N := 9) (Cn := RX1) (q := 12) C rfl iX1 (by decide) q_129 dX1_setTrait_9 rfl ?_
    refine Dn_ild_n (i := 1) (q := 13) C dX1_setTrait_12 rfl rfl ?_
    refine Dn_bipush (v := 7) (q := 15) C dX1_setTrait_13 (by decide) rfl ?_
    refine Dn_imul (q := 16) C dX1_setTrait_15 rfl ?_
    refine Dn_ild_n (i := 2) (q := 17) C dX1_setTrait_16 rfl rfl ?_
    refine Dn_iadd (q := 18) C dX1_setTrait_17 rfl ?_
    refine Dn_ild_n (i := 3) (q := 19) C dX1_setTrait_18 rfl rfl ?_
    refine Dn_iast (q := 20) C dX1_setTrait_19 rfl ?_
    exact JX1_setTrait_20 C hX
abbrev rX1_addBand : Room := ({ frames := 2, cells := 0, slots := 0, locals := 44 } : Room)
def jX1_addBand : mK := i_ald 0 (i_get 1 5 (i_ist 6 (i_ild 6 (i_push (.int 6) (i_iclt (i_ald 0 (i_dup (i_get 1 5 (i_push (.int 1) (i_ib (fun x y => x + y) (i_puti 1 5 (i_ald 0 (i_ild 6 (i_push (.int 0) (i_ild 1 (i_callV 1 3 FX1_setTrait (i_ald 0 (i_ild 6 (i_push (.int 1) (i_ild 2 (i_callV 1 3 FX1_setTrait (i_ald 0 (i_ild 6 (i_push (.int 2) (i_ild 3 (i_callV 1 3 FX1_setTrait (i_ald 0 (i_ild 6 (i_push (.int 3) (i_ild 4 (i_callV 1 3 FX1_setTrait (i_ald 0 (i_ild 6 (i_push (.int 4) (i_ild 5 (i_callV 1 3 FX1_setTrait (i_ald 0 (i_ild 6 (i_push (.int 5) (i_push (.int 1) (i_callV 1 3 FX1_setTrait (i_ald 0 (i_ild 6 (i_push (.int 6) (i_push (.int 0) (i_callV 1 3 FX1_setTrait (i_vret)))))))))))))))))))))))))))))))))))))))))) (i_vret))))))
def FX1_addBand : mF := mEnt 7 jX1_addBand
set_option maxRecDepth 20000 in
theorem kX1_addBand (l : Launch) (G : va_G) (tg : Nat → ClassId) : Ct l G tg yX1_addBand cX1_addBand 7 none rX1_addBand FX1_addBand := by
  refine Ct.of RX1 (by decide) rfl (fun X C hX => ?_)
  unfold jX1_addBand
  refine Dn_ald_n (i := 0) (q := 1) C dX1_addBand_0 rfl rfl ?_
  refine Dn_get (ci := 1) (j := 5) (T := TX1) (N := 9) (Cn := RX1) (q := 4) C rfl iX1 (by decide) q_121 dX1_addBand_1 rfl ?_
  refine Dn_ist (q := 6) C dX1_addBand_4 (by decide) rfl ?_
  refine Dn_ild (q := 8) C dX1_addBand_6 rfl ?_
  refine Dn_bipush (v := 6) (q := 10) C dX1_addBand_8 (by decide) rfl ?_
  refine Dn_iclt (t := 14) (q := 13) C dX1_addBand_10 (by decide) rfl ?_ ?_
  · refine Dn_ald_n (i := 0) (q := 15) C dX1_addBand_14 rfl rfl ?_
    refine Dn_dup (q := 16) C dX1_addBand_15 rfl ?_
    refine Dn_get (ci := 1) (j := 5) (T := TX1) (N := 9) (Cn := RX1) (q := 19) C rfl iX1 (by decide) q_121 dX1_addBand_16 rfl ?_
    refine Dn_iconst (v := 1) (q := 20) C dX1_addBand_19 (by decide) rfl ?_
    refine Dn_iadd (q := 21) C dX1_addBand_20 rfl ?_
    refine Dn_puti (ci := 1) (j := 5) (T := TX1) (N := 9) (Cn := RX1) (q := 24) C rfl iX1 tyX1 tyX1_ok nmX1 (by decide) q_121 rfl (by decide +kernel) dX1_addBand_21 rfl ?_
    refine Dn_ald_n (i := 0) (q := 25) C dX1_addBand_24 rfl rfl ?_
    refine Dn_ild (q := 27) C dX1_addBand_25 rfl ?_
    refine Dn_iconst (v := 0) (q := 28) C dX1_addBand_27 (by decide) rfl ?_
    refine Dn_ild_n (i := 1) (q := 29) C dX1_addBand_28 rfl rfl ?_
    refine Dn_callV (ci := 1) (T := TX1) (N := 9) (q := 32) C rfl (kX1_setTrait X.l X.G X.tg) q_458 q_471 q_456 q_457 q_47 ⟨rfl, rfl⟩ (by decide +kernel) ⟨by decide, by decide⟩ dX1_addBand_29 rfl ?_
    refine Dn_ald_n (i := 0) (q := 33) C dX1_addBand_32 rfl rfl ?_
    refine Dn_ild (q := 35) C dX1_addBand_33 rfl ?_
    refine Dn_iconst (v := 1) (q := 36) C dX1_addBand_35 (by decide) rfl ?_
    refine Dn_ild_n (i := 2) (q := 37) C dX1_addBand_36 rfl rfl ?_
    refine Dn_callV (ci := 1) (T := TX1) (N := 9) (q := 40) C rfl (kX1_setTrait X.l X.G X.tg) q_458 q_471 q_456 q_457 q_47 ⟨rfl, rfl⟩ (by decide +kernel) ⟨by decide, by decide⟩ dX1_addBand_37 rfl ?_
    refine Dn_ald_n (i := 0) (q := 41) C dX1_addBand_40 rfl rfl ?_
    refine Dn_ild (q := 43) C dX1_addBand_41 rfl ?_
    refine Dn_iconst (v := 2) (q := 44) C dX1_addBand_43 (by decide) rfl ?_
    refine Dn_ild_n (i := 3) (q := 45) C dX1_addBand_44 rfl rfl ?_
    refine Dn_callV (ci := 1) (T := TX1) (N := 9) (q := 48) C rfl (kX1_setTrait X.l X.G X.tg) q_458 q_471 q_456 q_457 q_47 ⟨rfl, rfl⟩ (by decide +kernel) ⟨by decide, by decide⟩ dX1_addBand_45 rfl ?_
    refine Dn_ald_n (i := 0) (q := 49) C dX1_addBand_48 rfl rfl ?_
    refine Dn_ild (q := 51) C dX1_addBand_49 rfl ?_
    refine Dn_iconst (v := 3) (q := 52) C dX1_addBand_51 (by decide) rfl ?_
    refine Dn_ild (q := 54) C dX1_addBand_52 rfl ?_
    refine Dn_callV (ci := 1) (T := TX1) (N := 9) (q := 57) C rfl (kX1_setTrait X.l X.G X.tg) q_458 q_471 q_456 q_457 q_47 ⟨rfl, rfl⟩ (by decide +kernel) ⟨by decide, by decide⟩ dX1_addBand_54 rfl ?_
    refine Dn_ald_n (i := 0) (q := 58) C dX1_addBand_57 rfl rfl ?_
    refine Dn_ild (q := 60) C dX1_addBand_58 rfl ?_
    refine Dn_iconst (v := 4) (q := 61) C dX1_addBand_60 (by decide) rfl ?_
    refine Dn_ild (q := 63) C dX1_addBand_61 rfl ?_
    refine Dn_callV (ci := 1) (T := TX1) (N := 9) (q := 66) C rfl (kX1_setTrait X.l X.G X.tg) q_458 q_471 q_456 q_457 q_47 ⟨rfl, rfl⟩ (by decide +kernel) ⟨by decide, by decide⟩ dX1_addBand_63 rfl ?_
    refine Dn_ald_n (i := 0) (q := 67) C dX1_addBand_66 rfl rfl ?_
    refine Dn_ild (q := 69) C dX1_addBand_67 rfl ?_
    refine Dn_iconst (v := 5) (q := 70) C dX1_addBand_69 (by decide) rfl ?_
    refine Dn_iconst (v := 1) (q := 71) C dX1_addBand_70 (by decide) rfl ?_
    refine Dn_callV (ci := 1) (T := TX1) (N := 9) (q := 74) C rfl (kX1_setTrait X.l X.G X.tg) q_458 q_471 q_456 q_457 q_47 ⟨rfl, rfl⟩ (by decide +kernel) ⟨by decide, by decide⟩ dX1_addBand_71 rfl ?_
    refine Dn_ald_n (i := 0) (q := 75) C dX1_addBand_74 rfl rfl ?_
    refine Dn_ild (q := 77) C dX1_addBand_75 rfl ?_
    refine Dn_bipush (v := 6) (q := 79) C dX1_addBand_77 (by decide) rfl ?_
    refine Dn_iconst (v := 0) (q := 80) C dX1_addBand_79 (by decide) rfl ?_
    refine Dn_callV (ci := 1) (T := TX1) (N := 9) (q := 83) C rfl (kX1_setTrait X.l X.G X.tg) q_458 q_471 q_456 q_457 q_47 ⟨rfl, rfl⟩ (by decide +kernel) ⟨by decide, by decide⟩ dX1_addBand_80 rfl ?_
    exact Dn_vret C hX dX1_addBand_83
  · exact Dn_vret C hX dX1_addBand_13
abbrev rX1_isOfKind : Room := ({ frames := 2, cells := 0, slots := 0, locals := 43 } : Room)
def jX1_isOfKind_43 : mK := i_nret .boolean
set_option maxRecDepth 20000 in
theorem JX1_isOfKind_43 {X : mC} (C : Cx X rX1_isOfKind cX1_isOfKind 4 RX1 (some FieldType.boolean)) (hX : Rx X) : Den X rX1_isOfKind 4 43 jX1_isOfKind_43 := by
  unfold jX1_isOfKind_43
  exact Dn_nret C hX dX1_isOfKind_43
def jX1_isOfKind : mK := i_ald 0 (i_ild 1 (i_push (.int 0) (i_callV 1 2 FX1_trait (i_ist 3 (i_ild 2 (i_ifne (i_ild 2 (i_push (.int 1) (i_icne (i_ild 3 (i_ild 2 (i_push (.int 1) (i_ib (fun x y => x - y) (i_icne (i_push (.int 0) (jX1_isOfKind_43)) (i_push (.int 1) (jX1_isOfKind_43))))))) (i_ild 3 (i_push (.int 3) (i_iceq (i_push (.int 0) (jX1_isOfKind_43)) (i_push (.int 1) (jX1_isOfKind_43)))))))) (i_push (.int 1) (i_nret .boolean))))))))
def FX1_isOfKind : mF := mEnt 4 jX1_isOfKind
set_option maxRecDepth 20000 in
theorem kX1_isOfKind (l : Launch) (G : va_G) (tg : Nat → ClassId) : Ct l G tg yX1_isOfKind cX1_isOfKind 4 (some FieldType.boolean) rX1_isOfKind FX1_isOfKind := by
  refine Ct.of RX1 (by decide) rfl (fun X C hX => ?_)
  unfold jX1_isOfKind
  refine Dn_ald_n (i := 0) (q := 1) C dX1_isOfKind_0 rfl rfl ?_
  refine Dn_ild_n (i := 1) (q := 2) C dX1_isOfKind_1 rfl rfl ?_
  refine Dn_iconst (v := 0) (q := 3) C dX1_isOfKind_2 (by decide) rfl ?_
  refine Dn_callV (ci := 1) (T := TX1) (N := 9) (q := 6) C rfl (kX1_trait X.l X.G X.tg) q_215 q_212 q_213 q_214 q_47 ⟨rfl, rfl⟩ (by decide +kernel) ⟨by decide, by decide⟩ dX1_isOfKind_3 rfl ?_
  refine Dn_ist_n (i := 3) (q := 7) C dX1_isOfKind_6 rfl (by decide) rfl ?_
  refine Dn_ild_n (i := 2) (q := 8) C dX1_isOfKind_7 rfl rfl ?_
  refine Dn_ifne (t := 13) (q := 11) C dX1_isOfKind_8 (by decide) rfl ?_ ?_
  · refine Dn_ild_n (i := 2) (q := 14) C dX1_isOfKind_13 rfl rfl ?_
    refine Dn_iconst (v := 1) (q := 15) C dX1_isOfKind_14 (by decide) rfl ?_
    refine Dn_icne (t := 31) (q := 18) C dX1_isOfKind_15 (by decide) rfl ?_ ?_
    · refine Dn_ild_n (i := 3) (q := 32) C dX1_isOfKind_31 rfl rfl ?_
      refine Dn_ild_n (i := 2) (q := 33) C dX1_isOfKind_32 rfl rfl ?_
      refine Dn_iconst (v := 1) (q := 34) C dX1_isOfKind_33 (by decide) rfl ?_
      refine Dn_isub (q := 35) C dX1_isOfKind_34 rfl ?_
      refine Dn_icne (t := 42) (q := 38) C dX1_isOfKind_35 (by decide) rfl ?_ ?_
      · refine Dn_iconst (v := 0) (q := 43) C dX1_isOfKind_42 (by decide) rfl ?_
        exact JX1_isOfKind_43 C hX
      · refine Dn_iconst (v := 1) (q := 39) C dX1_isOfKind_38 (by decide) rfl ?_
        refine Dn_goto (t := 43) C dX1_isOfKind_39 (by decide) ?_
        exact JX1_isOfKind_43 C hX
    · refine Dn_ild_n (i := 3) (q := 19) C dX1_isOfKind_18 rfl rfl ?_
      refine Dn_iconst (v := 3) (q := 20) C dX1_isOfKind_19 (by decide) rfl ?_
      refine Dn_iceq (t := 27) (q := 23) C dX1_isOfKind_20 (by decide) rfl ?_ ?_
      · refine Dn_iconst (v := 0) (q := 28) C dX1_isOfKind_27 (by decide) rfl ?_
        refine Dn_goto (t := 43) C dX1_isOfKind_28 (by decide) ?_
        exact JX1_isOfKind_43 C hX
      · refine Dn_iconst (v := 1) (q := 24) C dX1_isOfKind_23 (by decide) rfl ?_
        refine Dn_goto (t := 43) C dX1_isOfKind_24 (by decide) ?_
        exact JX1_isOfKind_43 C hX
  · refine Dn_iconst (v := 1) (q := 12) C dX1_isOfKind_11 (by decide) rfl ?_
    exact Dn_nret C hX dX1_isOfKind_12
abbrev rX1_bandsAt : Room := ({ frames := 2, cells := 0, slots := 0, locals := 43 } : Room)
def jX1_bandsAt_30 (B4 : mK) : mK := i_ib (fun x y => x ||| y) (i_ist 2 (i_inc 3 1 (B4)))
set_option maxRecDepth 20000 in
theorem JX1_bandsAt_30 {X : mC} (C : Cx X rX1_bandsAt cX1_bandsAt 4 RX1 (some FieldType.int)) (hX : Rx X) (B4 : mK) (hB4 : Den X rX1_bandsAt 4 4 B4) : Den X rX1_bandsAt 4 30 (jX1_bandsAt_30 B4) := by
  unfold jX1_bandsAt_30
  refine Dn_ior (q := 31) C dX1_bandsAt_30 rfl ?_
  refine Dn_ist_n (i := 2) (q := 32) C dX1_bandsAt_31 rfl (by decide) rfl ?_
  refine Dn_inc (z := 1) (q := 35) C dX1_bandsAt_32 (by decide) (by decide) rfl ?_
  refine Dn_goto (t := 4) C dX1_bandsAt_35 (by decide) ?_
  exact hB4
def jX1_bandsAt_4 : mK := i_loop (fun B4 => i_ild 3 (i_ald 0 (i_get 1 5 (i_icge (i_ild 2 (i_iret)) (i_ild 2 (i_ald 0 (i_ild 3 (i_push (.int 1) (i_callV 1 2 FX1_trait (i_ild 1 (i_icne (i_push (.int 0) ((jX1_bandsAt_30 B4))) (i_push (.int 1) (i_ild 3 (i_ib (fun x y => x <<< (y &&& 31)) ((jX1_bandsAt_30 B4)))))))))))))))) 1000
set_option maxRecDepth 20000 in
theorem JX1_bandsAt_4 {X : mC} (C : Cx X rX1_bandsAt cX1_bandsAt 4 RX1 (some FieldType.int)) (hX : Rx X) : Den X rX1_bandsAt 4 4 jX1_bandsAt_4 := by
  unfold jX1_bandsAt_4
  refine Dn_loop (fun B4 hB4 => ?_) 1000
  refine Dn_ild_n (i := 3) (q := 5) C dX1_bandsAt_4 rfl rfl ?_
  refine Dn_ald_n (i := 0) (q := 6) C dX1_bandsAt_5 rfl rfl ?_
  refine Dn_get (ci := 1) (j := 5) (T := TX1) (N := 9) (Cn := RX1) (q := 9) C rfl iX1 (by decide) q_121 dX1_bandsAt_6 rfl ?_
  refine Dn_icge (t := 38) (q := 12) C dX1_bandsAt_9 (by decide) rfl ?_ ?_
  · refine Dn_ild_n (i := 2) (q := 39) C dX1_bandsAt_38 rfl rfl ?_
    exact Dn_iret C hX dX1_bandsAt_39
  · refine Dn_ild_n (i := 2) (q := 13) C dX1_bandsAt_12 rfl rfl ?_
    refine Dn_ald_n (i := 0) (q := 14) C dX1_bandsAt_13 rfl rfl ?_
    refine Dn_ild_n (i := 3) (q := 15) C dX1_bandsAt_14 rfl rfl ?_
    refine Dn_iconst (v := 1) (q := 16) C dX1_bandsAt_15 (by decide) rfl ?_
    refine Dn_callV (ci := 1) (T := TX1) (N := 9) (q := 19) C rfl (kX1_trait X.l X.G X.tg) q_215 q_212 q_213 q_214 q_47 ⟨rfl, rfl⟩ (by decide +kernel) ⟨by decide, by decide⟩ dX1_bandsAt_16 rfl ?_
    refine Dn_ild_n (i := 1) (q := 20) C dX1_bandsAt_19 rfl rfl ?_
    refine Dn_icne (t := 29) (q := 23) C dX1_bandsAt_20 (by decide) rfl ?_ ?_
    · refine Dn_iconst (v := 0) (q := 30) C dX1_bandsAt_29 (by decide) rfl ?_
      exact JX1_bandsAt_30 C hX B4 hB4
    · refine Dn_iconst (v := 1) (q := 24) C dX1_bandsAt_23 (by decide) rfl ?_
      refine Dn_ild_n (i := 3) (q := 25) C dX1_bandsAt_24 rfl rfl ?_
      refine Dn_ishl (q := 26) C dX1_bandsAt_25 rfl ?_
      refine Dn_goto (t := 30) C dX1_bandsAt_26 (by decide) ?_
      exact JX1_bandsAt_30 C hX B4 hB4
def jX1_bandsAt : mK := i_push (.int 0) (i_ist 2 (i_push (.int 0) (i_ist 3 (jX1_bandsAt_4))))
def FX1_bandsAt : mF := mEnt 4 jX1_bandsAt
set_option maxRecDepth 20000 in
theorem kX1_bandsAt (l : Launch) (G : va_G) (tg : Nat → ClassId) : Ct l G tg yX1_bandsAt cX1_bandsAt 4 (some FieldType.int) rX1_bandsAt FX1_bandsAt := by
  refine Ct.of RX1 (by decide) rfl (fun X C hX => ?_)
  unfold jX1_bandsAt
  refine Dn_iconst (v := 0) (q := 1) C dX1_bandsAt_0 (by decide) rfl ?_
  refine Dn_ist_n (i := 2) (q := 2) C dX1_bandsAt_1 rfl (by decide) rfl ?_
  refine Dn_iconst (v := 0) (q := 3) C dX1_bandsAt_2 (by decide) rfl ?_
  refine Dn_ist_n (i := 3) (q := 4) C dX1_bandsAt_3 rfl (by decide) rfl ?_
  exact JX1_bandsAt_4 C hX
abbrev rX1_placesOf : Room := ({ frames := 2, cells := 0, slots := 0, locals := 43 } : Room)
def jX1_placesOf_37 (B5 : mK) : mK := i_lb (fun x y => x ||| y) (i_lst 2 (i_inc 4 1 (B5)))
set_option maxRecDepth 20000 in
theorem JX1_placesOf_37 {X : mC} (C : Cx X rX1_placesOf cX1_placesOf 5 RX1 (some FieldType.long)) (hX : Rx X) (B5 : mK) (hB5 : Den X rX1_placesOf 5 5 B5) : Den X rX1_placesOf 5 37 (jX1_placesOf_37 B5) := by
  unfold jX1_placesOf_37
  refine Dn_lor (q := 38) C dX1_placesOf_37 rfl ?_
  refine Dn_lst_n (i := 2) (q := 39) C dX1_placesOf_38 rfl (by decide) rfl ?_
  refine Dn_inc (z := 1) (q := 42) C dX1_placesOf_39 (by decide) (by decide) rfl ?_
  refine Dn_goto (t := 5) C dX1_placesOf_42 (by decide) ?_
  exact hB5
def jX1_placesOf_5 : mK := i_loop (fun B5 => i_ild 4 (i_ald 0 (i_get 1 5 (i_icge (i_lld 2 (i_lret)) (i_lld 2 (i_ild 4 (i_ild 1 (i_call 2 FX4_isIn (i_ifeq (i_push (.long 0) ((jX1_placesOf_37 B5))) (i_push (.long 1) (i_ald 0 (i_ild 4 (i_push (.int 1) (i_callV 1 2 FX1_trait (i_ls (fun x y => x <<< (y.toInt64 &&& 63)) ((jX1_placesOf_37 B5))))))))))))))))) 1000
set_option maxRecDepth 20000 in
theorem JX1_placesOf_5 {X : mC} (C : Cx X rX1_placesOf cX1_placesOf 5 RX1 (some FieldType.long)) (hX : Rx X) : Den X rX1_placesOf 5 5 jX1_placesOf_5 := by
  unfold jX1_placesOf_5
  refine Dn_loop (fun B5 hB5 => ?_) 1000
  refine Dn_ild (q := 7) C dX1_placesOf_5 rfl ?_
  refine Dn_ald_n (i := 0) (q := 8) C dX1_placesOf_7 rfl rfl ?_
  refine Dn_get (ci := 1) (j := 5) (T := TX1) (N := 9) (Cn := RX1) (q := 11) C rfl iX1 (by decide) q_121 dX1_placesOf_8 rfl ?_
  refine Dn_icge (t := 45) (q := 14) C dX1_placesOf_11 (by decide) rfl ?_ ?_
  · refine Dn_lld_n (i := 2) (q := 46) C dX1_placesOf_45 rfl rfl ?_
    exact Dn_lret C hX dX1_placesOf_46
  · refine Dn_lld_n (i := 2) (q := 15) C dX1_placesOf_14 rfl rfl ?_
    refine Dn_ild (q := 17) C dX1_placesOf_15 rfl ?_
    refine Dn_ild_n (i := 1) (q := 18) C dX1_placesOf_17 rfl rfl ?_
    refine Dn_callSN (q := 21) (host := "FlutePark") C (kX4_isIn X.l X.G X.tg) q_518 (by decide +kernel) q_517 q_44 ⟨rfl, rfl⟩ (by decide +kernel) ⟨by decide, by decide⟩ dX1_placesOf_18 rfl ?_
    refine Dn_ifeq (t := 36) (q := 24) C dX1_placesOf_21 (by decide) rfl ?_ ?_
    · refine Dn_lconst (v := 0) (q := 37) C dX1_placesOf_36 (by decide) rfl ?_
      exact JX1_placesOf_37 C hX B5 hB5
    · refine Dn_lconst (v := 1) (q := 25) C dX1_placesOf_24 (by decide) rfl ?_
      refine Dn_ald_n (i := 0) (q := 26) C dX1_placesOf_25 rfl rfl ?_
      refine Dn_ild (q := 28) C dX1_placesOf_26 rfl ?_
      refine Dn_iconst (v := 1) (q := 29) C dX1_placesOf_28 (by decide) rfl ?_
      refine Dn_callV (ci := 1) (T := TX1) (N := 9) (q := 32) C rfl (kX1_trait X.l X.G X.tg) q_215 q_212 q_213 q_214 q_47 ⟨rfl, rfl⟩ (by decide +kernel) ⟨by decide, by decide⟩ dX1_placesOf_29 rfl ?_
      refine Dn_lshl (q := 33) C dX1_placesOf_32 rfl ?_
      refine Dn_goto (t := 37) C dX1_placesOf_33 (by decide) ?_
      exact JX1_placesOf_37 C hX B5 hB5
def jX1_placesOf : mK := i_push (.long 0) (i_lst 2 (i_push (.int 0) (i_ist 4 (jX1_placesOf_5))))
def FX1_placesOf : mF := mEnt 5 jX1_placesOf
set_option maxRecDepth 20000 in
theorem kX1_placesOf (l : Launch) (G : va_G) (tg : Nat → ClassId) : Ct l G tg yX1_placesOf cX1_placesOf 5 (some FieldType.long) rX1_placesOf FX1_placesOf := by
  refine Ct.of RX1 (by decide) rfl (fun X C hX => ?_)
  unfold jX1_placesOf
  refine Dn_lconst (v := 0) (q := 1) C dX1_placesOf_0 (by decide) rfl ?_
  refine Dn_lst_n (i := 2) (q := 2) C dX1_placesOf_1 rfl (by decide) rfl ?_
  refine Dn_iconst (v := 0) (q := 3) C dX1_placesOf_2 (by decide) rfl ?_
  refine Dn_ist (q := 5) C dX1_placesOf_3 (by decide) rfl ?_
  exact JX1_placesOf_5 C hX
abbrev rX1_worthOf : Room := ({ frames := 2, cells := 0, slots := 0, locals := 43 } : Room)
def jX1_worthOf_31 (B4 : mK) : mK := i_ib (fun x y => x + y) (i_ist 2 (i_inc 3 1 (B4)))
set_option maxRecDepth 20000 in
theorem JX1_worthOf_31 {X : mC} (C : Cx X rX1_worthOf cX1_worthOf 4 RX1 (some FieldType.int)) (hX : Rx X) (B4 : mK) (hB4 : Den X rX1_worthOf 4 4 B4) : Den X rX1_worthOf 4 31 (jX1_worthOf_31 B4) := by
  unfold jX1_worthOf_31
  refine Dn_iadd (q := 32) C dX1_worthOf_31 rfl ?_
  refine Dn_ist_n (i := 2) (q := 33) C dX1_worthOf_32 rfl (by decide) rfl ?_
  refine Dn_inc (z := 1) (q := 36) C dX1_worthOf_33 (by decide) (by decide) rfl ?_
  refine Dn_goto (t := 4) C dX1_worthOf_36 (by decide) ?_
  exact hB4
def jX1_worthOf_4 : mK := i_loop (fun B4 => i_ild 3 (i_ald 0 (i_get 1 5 (i_icge (i_ild 2 (i_iret)) (i_ild 2 (i_ild 3 (i_ild 1 (i_call 2 FX4_isIn (i_ifeq (i_push (.int 0) ((jX1_worthOf_31 B4))) (i_ald 0 (i_ild 3 (i_push (.int 5) (i_callV 1 2 FX1_trait ((jX1_worthOf_31 B4))))))))))))))) 1000
set_option maxRecDepth 20000 in
theorem JX1_worthOf_4 {X : mC} (C : Cx X rX1_worthOf cX1_worthOf 4 RX1 (some FieldType.int)) (hX : Rx X) : Den X rX1_worthOf 4 4 jX1_worthOf_4 := by
  unfold jX1_worthOf_4
  refine Dn_loop (fun B4 hB4 => ?_) 1000
  refine Dn_ild_n (i := 3) (q := 5) C dX1_worthOf_4 rfl rfl ?_
  refine Dn_ald_n (i := 0) (q := 6) C dX1_worthOf_5 rfl rfl ?_
  refine Dn_get (ci := 1) (j := 5) (T := TX1) (N := 9) (Cn := RX1) (q := 9) C rfl iX1 (by decide) q_121 dX1_worthOf_6 rfl ?_
  refine Dn_icge (t := 39) (q := 12) C dX1_worthOf_9 (by decide) rfl ?_ ?_
  · refine Dn_ild_n (i := 2) (q := 40) C dX1_worthOf_39 rfl rfl ?_
    exact Dn_iret C hX dX1_worthOf_40
  · refine Dn_ild_n (i := 2) (q := 13) C dX1_worthOf_12 rfl rfl ?_
    refine Dn_ild_n (i := 3) (q := 14) C dX1_worthOf_13 rfl rfl ?_
    refine Dn_ild_n (i := 1) (q := 15) C dX1_worthOf_14 rfl rfl ?_
    refine Dn_callSN (q := 18) (host := "FlutePark") C (kX4_isIn X.l X.G X.tg) q_518 (by decide +kernel) q_517 q_44 ⟨rfl, rfl⟩ (by decide +kernel) ⟨by decide, by decide⟩ dX1_worthOf_15 rfl ?_
    refine Dn_ifeq (t := 30) (q := 21) C dX1_worthOf_18 (by decide) rfl ?_ ?_
    · refine Dn_iconst (v := 0) (q := 31) C dX1_worthOf_30 (by decide) rfl ?_
      exact JX1_worthOf_31 C hX B4 hB4
    · refine Dn_ald_n (i := 0) (q := 22) C dX1_worthOf_21 rfl rfl ?_
      refine Dn_ild_n (i := 3) (q := 23) C dX1_worthOf_22 rfl rfl ?_
      refine Dn_iconst (v := 5) (q := 24) C dX1_worthOf_23 (by decide) rfl ?_
      refine Dn_callV (ci := 1) (T := TX1) (N := 9) (q := 27) C rfl (kX1_trait X.l X.G X.tg) q_215 q_212 q_213 q_214 q_47 ⟨rfl, rfl⟩ (by decide +kernel) ⟨by decide, by decide⟩ dX1_worthOf_24 rfl ?_
      refine Dn_goto (t := 31) C dX1_worthOf_27 (by decide) ?_
      exact JX1_worthOf_31 C hX B4 hB4
def jX1_worthOf : mK := i_push (.int 0) (i_ist 2 (i_push (.int 0) (i_ist 3 (jX1_worthOf_4))))
def FX1_worthOf : mF := mEnt 4 jX1_worthOf
set_option maxRecDepth 20000 in
theorem kX1_worthOf (l : Launch) (G : va_G) (tg : Nat → ClassId) : Ct l G tg yX1_worthOf cX1_worthOf 4 (some FieldType.int) rX1_worthOf FX1_worthOf := by
  refine Ct.of RX1 (by decide) rfl (fun X C hX => ?_)
  unfold jX1_worthOf
  refine Dn_iconst (v := 0) (q := 1) C dX1_worthOf_0 (by decide) rfl ?_
  refine Dn_ist_n (i := 2) (q := 2) C dX1_worthOf_1 rfl (by decide) rfl ?_
  refine Dn_iconst (v := 0) (q := 3) C dX1_worthOf_2 (by decide) rfl ?_
  refine Dn_ist_n (i := 3) (q := 4) C dX1_worthOf_3 rfl (by decide) rfl ?_
  exact JX1_worthOf_4 C hX
