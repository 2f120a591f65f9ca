abbrev rX0_listenToBand : Room := ({ frames := 3, cells := 0, slots := 0, locals := 69 } : Room)
def jX0_listenToBand_89 (B46 : mK) : mK := i_ib (fun x y => x ||| y) (i_iast (i_inc 3 1 (B46)))
set_option maxRecDepth 20000 in
theorem JX0_listenToBand_89 {X : mC} (C : Cx X rX0_listenToBand cX0_listenToBand 4 RX0 none) (hX : Rx X) (B46 : mK) (hB46 : Den X rX0_listenToBand 4 46 B46) : Den X rX0_listenToBand 4 89 (jX0_listenToBand_89 B46) := by
  unfold jX0_listenToBand_89
  refine Dn_ior (q := 90) C dX0_listenToBand_89 rfl ?_
  refine Dn_iast (q := 91) C dX0_listenToBand_90 rfl ?_
  refine Dn_inc (z := 1) (q := 94) C dX0_listenToBand_91 (by decide) (by decide) rfl ?_
  refine Dn_goto (t := 46) C dX0_listenToBand_94 (by decide) ?_
  exact hB46
def jX0_listenToBand_46 : mK := i_loop (fun B46 => i_ild 3 (i_push (.int 12) (i_icge (i_vret) (i_ald 0 (i_get 0 4 (i_ild 3 (i_dup2 (i_iald (i_push (.int 1) (i_ild 2 (i_ib (fun x y => x <<< (y &&& 31)) (i_push (.int (-1)) (i_ib (fun x y => x ^^^ y) (i_ib (fun x y => x &&& y) (i_iast (i_ald 0 (i_get 0 4 (i_ild 3 (i_dup2 (i_iald (i_ald 1 (i_ild 2 (i_ild 3 (i_callV 1 2 FX1_plays (i_ifeq (i_push (.int 0) ((jX0_listenToBand_89 B46))) (i_push (.int 1) (i_ild 2 (i_ib (fun x y => x <<< (y &&& 31)) ((jX0_listenToBand_89 B46)))))))))))))))))))))))))))))) 1000
set_option maxRecDepth 20000 in
theorem JX0_listenToBand_46 {X : mC} (C : Cx X rX0_listenToBand cX0_listenToBand 4 RX0 none) (hX : Rx X) : Den X rX0_listenToBand 4 46 jX0_listenToBand_46 := by
  unfold jX0_listenToBand_46
  refine Dn_loop (fun B46 hB46 => ?_) 1000
  refine Dn_ild_n (i := 3) (q := 47) C dX0_listenToBand_46 rfl rfl ?_
  refine Dn_bipush (v := 12) (q := 49) C dX0_listenToBand_47 (by decide) rfl ?_
  refine Dn_icge (t := 97) (q := 52) C dX0_listenToBand_49 (by decide) rfl ?_ ?_
  · exact Dn_vret C hX dX0_listenToBand_97
  · refine Dn_ald_n (i := 0) (q := 53) C dX0_listenToBand_52 rfl rfl ?_
    refine Dn_get (ci := 0) (j := 4) (T := TX0) (N := 5) (Cn := RX0) (q := 56) C rfl iX0 (by decide) q_159 dX0_listenToBand_53 rfl ?_
    refine Dn_ild_n (i := 3) (q := 57) C dX0_listenToBand_56 rfl rfl ?_
    refine Dn_dup2 (q := 58) C dX0_listenToBand_57 rfl ?_
    refine Dn_iald (q := 59) C dX0_listenToBand_58 rfl ?_
    refine Dn_iconst (v := 1) (q := 60) C dX0_listenToBand_59 (by decide) rfl ?_
    refine Dn_ild_n (i := 2) (q := 61) C dX0_listenToBand_60 rfl rfl ?_
    refine Dn_ishl (q := 62) C dX0_listenToBand_61 rfl ?_
    refine Dn_iconst (v := (-1)) (q := 63) C dX0_listenToBand_62 (by decide) rfl ?_
    refine Dn_ixor (q := 64) C dX0_listenToBand_63 rfl ?_
    refine Dn_iand (q := 65) C dX0_listenToBand_64 rfl ?_
    refine Dn_iast (q := 66) C dX0_listenToBand_65 rfl ?_
    refine Dn_ald_n (i := 0) (q := 67) C dX0_listenToBand_66 rfl rfl ?_
    refine Dn_get (ci := 0) (j := 4) (T := TX0) (N := 5) (Cn := RX0) (q := 70) C rfl iX0 (by decide) q_159 dX0_listenToBand_67 rfl ?_
    refine Dn_ild_n (i := 3) (q := 71) C dX0_listenToBand_70 rfl rfl ?_
    refine Dn_dup2 (q := 72) C dX0_listenToBand_71 rfl ?_
    refine Dn_iald (q := 73) C dX0_listenToBand_72 rfl ?_
    refine Dn_ald_n (i := 1) (q := 74) C dX0_listenToBand_73 rfl rfl ?_
    refine Dn_ild_n (i := 2) (q := 75) C dX0_listenToBand_74 rfl rfl ?_
    refine Dn_ild_n (i := 3) (q := 76) C dX0_listenToBand_75 rfl rfl ?_
    refine Dn_callV (ci := 1) (T := TX1) (N := 9) (q := 79) C rfl (kX1_plays X.l X.G X.tg) q_230 q_227 q_228 q_229 q_47 ⟨rfl, rfl⟩ (by decide +kernel) ⟨by decide, by decide⟩ dX0_listenToBand_76 rfl ?_
    refine Dn_ifeq (t := 88) (q := 82) C dX0_listenToBand_79 (by decide) rfl ?_ ?_
    · refine Dn_iconst (v := 0) (q := 89) C dX0_listenToBand_88 (by decide) rfl ?_
      exact JX0_listenToBand_89 C hX B46 hB46
    · refine Dn_iconst (v := 1) (q := 83) C dX0_listenToBand_82 (by decide) rfl ?_
      refine Dn_ild_n (i := 2) (q := 84) C dX0_listenToBand_83 rfl rfl ?_
      refine Dn_ishl (q := 85) C dX0_listenToBand_84 rfl ?_
      refine Dn_goto (t := 89) C dX0_listenToBand_85 (by decide) ?_
      exact JX0_listenToBand_89 C hX B46 hB46
def jX0_listenToBand_13 : mK := i_loop (fun B13 => i_ild 3 (i_ald 0 (i_get 0 0 (i_icge (i_push (.int 0) (i_ist 3 (jX0_listenToBand_46))) (i_ald 0 (i_get 0 3 (i_ild 2 (i_push (.int 36) (i_ib (fun x y => x * y) (i_ild 3 (i_ib (fun x y => x + y) (i_ald 1 (i_ild 2 (i_ild 3 (i_callV 1 2 FX1_bandSound (i_iast (i_inc 3 1 (B13)))))))))))))))))) 1000
set_option maxRecDepth 20000 in
theorem JX0_listenToBand_13 {X : mC} (C : Cx X rX0_listenToBand cX0_listenToBand 4 RX0 none) (hX : Rx X) : Den X rX0_listenToBand 4 13 jX0_listenToBand_13 := by
  unfold jX0_listenToBand_13
  refine Dn_loop (fun B13 hB13 => ?_) 1000
  refine Dn_ild_n (i := 3) (q := 14) C dX0_listenToBand_13 rfl rfl ?_
  refine Dn_ald_n (i := 0) (q := 15) C dX0_listenToBand_14 rfl rfl ?_
  refine Dn_get (ci := 0) (j := 0) (T := TX0) (N := 5) (Cn := RX0) (q := 18) C rfl iX0 (by decide) q_155 dX0_listenToBand_15 rfl ?_
  refine Dn_icge (t := 44) (q := 21) C dX0_listenToBand_18 (by decide) rfl ?_ ?_
  · refine Dn_iconst (v := 0) (q := 45) C dX0_listenToBand_44 (by decide) rfl ?_
    refine Dn_ist_n (i := 3) (q := 46) C dX0_listenToBand_45 rfl (by decide) rfl ?_
    exact JX0_listenToBand_46 C hX
  · refine Dn_ald_n (i := 0) (q := 22) C dX0_listenToBand_21 rfl rfl ?_
    refine Dn_get (ci := 0) (j := 3) (T := TX0) (N := 5) (Cn := RX0) (q := 25) C rfl iX0 (by decide) q_158 dX0_listenToBand_22 rfl ?_
    refine Dn_ild_n (i := 2) (q := 26) C dX0_listenToBand_25 rfl rfl ?_
    refine Dn_bipush (v := 36) (q := 28) C dX0_listenToBand_26 (by decide) rfl ?_
    refine Dn_imul (q := 29) C dX0_listenToBand_28 rfl ?_
    refine Dn_ild_n (i := 3) (q := 30) C dX0_listenToBand_29 rfl rfl ?_
    refine Dn_iadd (q := 31) C dX0_listenToBand_30 rfl ?_
    refine Dn_ald_n (i := 1) (q := 32) C dX0_listenToBand_31 rfl rfl ?_
    refine Dn_ild_n (i := 2) (q := 33) C dX0_listenToBand_32 rfl rfl ?_
    refine Dn_ild_n (i := 3) (q := 34) C dX0_listenToBand_33 rfl rfl ?_
    refine Dn_callV (ci := 1) (T := TX1) (N := 9) (q := 37) C rfl (kX1_bandSound X.l X.G X.tg) q_211 q_208 q_209 q_210 q_47 ⟨rfl, rfl⟩ (by decide +kernel) ⟨by decide, by decide⟩ dX0_listenToBand_34 rfl ?_
    refine Dn_iast (q := 38) C dX0_listenToBand_37 rfl ?_
    refine Dn_inc (z := 1) (q := 41) C dX0_listenToBand_38 (by decide) (by decide) rfl ?_
    refine Dn_goto (t := 13) C dX0_listenToBand_41 (by decide) ?_
    exact hB13
def jX0_listenToBand_10 : mK := i_vret
set_option maxRecDepth 20000 in
theorem JX0_listenToBand_10 {X : mC} (C : Cx X rX0_listenToBand cX0_listenToBand 4 RX0 none) (hX : Rx X) : Den X rX0_listenToBand 4 10 jX0_listenToBand_10 := by
  unfold jX0_listenToBand_10
  exact Dn_vret C hX dX0_listenToBand_10
def jX0_listenToBand : mK := i_ild 2 (i_iflt (jX0_listenToBand_10) (i_ild 2 (i_push (.int 6) (i_iclt (i_push (.int 0) (i_ist 3 (jX0_listenToBand_13))) (jX0_listenToBand_10)))))
def FX0_listenToBand : mF := mEnt 4 jX0_listenToBand
set_option maxRecDepth 20000 in
theorem kX0_listenToBand (l : Launch) (G : va_G) (tg : Nat → ClassId) : Ct l G tg yX0_listenToBand cX0_listenToBand 4 none rX0_listenToBand FX0_listenToBand := by
  refine Ct.of RX0 (by decide) rfl (fun X C hX => ?_)
  unfold jX0_listenToBand
  refine Dn_ild_n (i := 2) (q := 1) C dX0_listenToBand_0 rfl rfl ?_
  refine Dn_iflt (t := 10) (q := 4) C dX0_listenToBand_1 (by decide) rfl ?_ ?_
  · exact JX0_listenToBand_10 C hX
  · refine Dn_ild_n (i := 2) (q := 5) C dX0_listenToBand_4 rfl rfl ?_
    refine Dn_bipush (v := 6) (q := 7) C dX0_listenToBand_5 (by decide) rfl ?_
    refine Dn_iclt (t := 11) (q := 10) C dX0_listenToBand_7 (by decide) rfl ?_ ?_
    · refine Dn_iconst (v := 0) (q := 12) C dX0_listenToBand_11 (by decide) rfl ?_
      refine Dn_ist_n (i := 3) (q := 13) C dX0_listenToBand_12 rfl (by decide) rfl ?_
      exact JX0_listenToBand_13 C hX
    · exact JX0_listenToBand_10 C hX
abbrev rX0_listen : Room := ({ frames := 4, cells := 0, slots := 0, locals := 92 } : Room)
def jX0_listen_50 : mK := i_loop (fun B50 => i_ild 2 (i_ald 1 (i_get 1 5 (i_icge (i_vret) (i_ald 0 (i_ald 1 (i_ild 2 (i_callV 0 2 FX0_listenToBand (i_inc 2 1 (B50)))))))))) 1000
set_option maxRecDepth 20000 in
theorem JX0_listen_50 {X : mC} (C : Cx X rX0_listen cX0_listen 3 RX0 none) (hX : Rx X) : Den X rX0_listen 3 50 jX0_listen_50 := by
  unfold jX0_listen_50
  refine Dn_loop (fun B50 hB50 => ?_) 1000
  refine Dn_ild_n (i := 2) (q := 51) C dX0_listen_50 rfl rfl ?_
  refine Dn_ald_n (i := 1) (q := 52) C dX0_listen_51 rfl rfl ?_
  refine Dn_get (ci := 1) (j := 5) (T := TX1) (N := 9) (Cn := RX1) (q := 55) C rfl iX1 (by decide) q_122 dX0_listen_52 rfl ?_
  refine Dn_icge (t := 70) (q := 58) C dX0_listen_55 (by decide) rfl ?_ ?_
  · exact Dn_vret C hX dX0_listen_70
  · refine Dn_ald_n (i := 0) (q := 59) C dX0_listen_58 rfl rfl ?_
    refine Dn_ald_n (i := 1) (q := 60) C dX0_listen_59 rfl rfl ?_
    refine Dn_ild_n (i := 2) (q := 61) C dX0_listen_60 rfl rfl ?_
    refine Dn_callV (ci := 0) (T := TX0) (N := 5) (q := 64) C rfl (kX0_listenToBand X.l X.G X.tg) q_207 q_204 q_205 q_206 q_48 ⟨rfl, rfl⟩ (by decide +kernel) ⟨by decide, by decide⟩ dX0_listen_61 rfl ?_
    refine Dn_inc (z := 1) (q := 67) C dX0_listen_64 (by decide) (by decide) rfl ?_
    refine Dn_goto (t := 50) C dX0_listen_67 (by decide) ?_
    exact hB50
def jX0_listen_23 : mK := i_loop (fun B23 => i_ild 2 (i_ald 0 (i_get 0 0 (i_icge (i_push (.int 0) (i_ist 2 (jX0_listen_50))) (i_ald 0 (i_get 0 2 (i_ild 2 (i_ald 1 (i_ild 2 (i_callV 1 1 FX1_fluteSound (i_iast (i_inc 2 1 (B23))))))))))))) 1000
set_option maxRecDepth 20000 in
theorem JX0_listen_23 {X : mC} (C : Cx X rX0_listen cX0_listen 3 RX0 none) (hX : Rx X) : Den X rX0_listen 3 23 jX0_listen_23 := by
  unfold jX0_listen_23
  refine Dn_loop (fun B23 hB23 => ?_) 1000
  refine Dn_ild_n (i := 2) (q := 24) C dX0_listen_23 rfl rfl ?_
  refine Dn_ald_n (i := 0) (q := 25) C dX0_listen_24 rfl rfl ?_
  refine Dn_get (ci := 0) (j := 0) (T := TX0) (N := 5) (Cn := RX0) (q := 28) C rfl iX0 (by decide) q_155 dX0_listen_25 rfl ?_
  refine Dn_icge (t := 48) (q := 31) C dX0_listen_28 (by decide) rfl ?_ ?_
  · refine Dn_iconst (v := 0) (q := 49) C dX0_listen_48 (by decide) rfl ?_
    refine Dn_ist_n (i := 2) (q := 50) C dX0_listen_49 rfl (by decide) rfl ?_
    exact JX0_listen_50 C hX
  · refine Dn_ald_n (i := 0) (q := 32) C dX0_listen_31 rfl rfl ?_
    refine Dn_get (ci := 0) (j := 2) (T := TX0) (N := 5) (Cn := RX0) (q := 35) C rfl iX0 (by decide) q_157 dX0_listen_32 rfl ?_
    refine Dn_ild_n (i := 2) (q := 36) C dX0_listen_35 rfl rfl ?_
    refine Dn_ald_n (i := 1) (q := 37) C dX0_listen_36 rfl rfl ?_
    refine Dn_ild_n (i := 2) (q := 38) C dX0_listen_37 rfl rfl ?_
    refine Dn_callV (ci := 1) (T := TX1) (N := 9) (q := 41) C rfl (kX1_fluteSound X.l X.G X.tg) q_185 q_182 q_183 q_184 q_47 ⟨rfl, rfl⟩ (by decide +kernel) ⟨by decide, by decide⟩ dX0_listen_38 rfl ?_
    refine Dn_iast (q := 42) C dX0_listen_41 rfl ?_
    refine Dn_inc (z := 1) (q := 45) C dX0_listen_42 (by decide) (by decide) rfl ?_
    refine Dn_goto (t := 23) C dX0_listen_45 (by decide) ?_
    exact hB23
def jX0_listen : mK := i_ald 0 (i_ald 1 (i_callV 1 0 FX1_places (i_push (.int 36) (i_mmin (i_puti 0 0 (i_ald 0 (i_ald 1 (i_get 1 6 (i_putl 0 1 (i_push (.int 0) (i_ist 2 (jX0_listen_23))))))))))))
def FX0_listen : mF := mEnt 3 jX0_listen
set_option maxRecDepth 20000 in
theorem kX0_listen (l : Launch) (G : va_G) (tg : Nat → ClassId) : Ct l G tg yX0_listen cX0_listen 3 none rX0_listen FX0_listen := by
  refine Ct.of RX0 (by decide) rfl (fun X C hX => ?_)
  unfold jX0_listen
  refine Dn_ald_n (i := 0) (q := 1) C dX0_listen_0 rfl rfl ?_
  refine Dn_ald_n (i := 1) (q := 2) C dX0_listen_1 rfl rfl ?_
  refine Dn_callV (ci := 1) (T := TX1) (N := 9) (q := 5) C rfl (kX1_places X.l X.G X.tg) q_178 q_175 q_176 q_177 q_47 ⟨rfl, rfl⟩ (by decide +kernel) ⟨by decide, by decide⟩ dX0_listen_2 rfl ?_
  refine Dn_bipush (v := 36) (q := 7) C dX0_listen_5 (by decide) rfl ?_
  refine Dn_mmin (q := 10) C q_179 q_180 q_49 q_181 (by decide) (by decide) dX0_listen_7 rfl ?_
  refine Dn_puti (ci := 0) (j := 0) (T := TX0) (N := 5) (Cn := RX0) (q := 13) C rfl iX0 tyX0 tyX0_ok nmX0 (by decide) q_155 rfl (by decide +kernel) dX0_listen_10 rfl ?_
  refine Dn_ald_n (i := 0) (q := 14) C dX0_listen_13 rfl rfl ?_
  refine Dn_ald_n (i := 1) (q := 15) C dX0_listen_14 rfl rfl ?_
  refine Dn_get (ci := 1) (j := 6) (T := TX1) (N := 9) (Cn := RX1) (q := 18) C rfl iX1 (by decide) q_125 dX0_listen_15 rfl ?_
  refine Dn_putl (ci := 0) (j := 1) (T := TX0) (N := 5) (Cn := RX0) (q := 21) C rfl iX0 tyX0 tyX0_ok nmX0 (by decide) q_156 rfl (by decide +kernel) dX0_listen_18 rfl ?_
  refine Dn_iconst (v := 0) (q := 22) C dX0_listen_21 (by decide) rfl ?_
  refine Dn_ist_n (i := 2) (q := 23) C dX0_listen_22 rfl (by decide) rfl ?_
  exact JX0_listen_23 C hX
abbrev rX0_fluteAt : Room := ({ frames := 0, cells := 0, slots := 0, locals := 0 } : Room)
def jX0_fluteAt_20 : mK := i_iret
set_option maxRecDepth 20000 in
theorem JX0_fluteAt_20 {X : mC} (C : Cx X rX0_fluteAt cX0_fluteAt 2 RX0 (some FieldType.int)) (hX : Rx X) : Den X rX0_fluteAt 2 20 jX0_fluteAt_20 := by
  unfold jX0_fluteAt_20
  exact Dn_iret C hX dX0_fluteAt_20
def jX0_fluteAt_19 : mK := i_push (.int 0) (jX0_fluteAt_20)
set_option maxRecDepth 20000 in
theorem JX0_fluteAt_19 {X : mC} (C : Cx X rX0_fluteAt cX0_fluteAt 2 RX0 (some FieldType.int)) (hX : Rx X) : Den X rX0_fluteAt 2 19 jX0_fluteAt_19 := by
  unfold jX0_fluteAt_19
  refine Dn_iconst (v := 0) (q := 20) C dX0_fluteAt_19 (by decide) rfl ?_
  exact JX0_fluteAt_20 C hX
def jX0_fluteAt : mK := i_ild 1 (i_iflt (jX0_fluteAt_19) (i_ild 1 (i_push (.int 36) (i_icge (jX0_fluteAt_19) (i_ald 0 (i_get 0 2 (i_ild 1 (i_iald (jX0_fluteAt_20)))))))))
def FX0_fluteAt : mF := mEnt 2 jX0_fluteAt
set_option maxRecDepth 20000 in
theorem kX0_fluteAt (l : Launch) (G : va_G) (tg : Nat → ClassId) : Ct l G tg yX0_fluteAt cX0_fluteAt 2 (some FieldType.int) rX0_fluteAt FX0_fluteAt := by
  refine Ct.of RX0 (by decide) rfl (fun X C hX => ?_)
  unfold jX0_fluteAt
  refine Dn_ild_n (i := 1) (q := 1) C dX0_fluteAt_0 rfl rfl ?_
  refine Dn_iflt (t := 19) (q := 4) C dX0_fluteAt_1 (by decide) rfl ?_ ?_
  · exact JX0_fluteAt_19 C hX
  · refine Dn_ild_n (i := 1) (q := 5) C dX0_fluteAt_4 rfl rfl ?_
    refine Dn_bipush (v := 36) (q := 7) C dX0_fluteAt_5 (by decide) rfl ?_
    refine Dn_icge (t := 19) (q := 10) C dX0_fluteAt_7 (by decide) rfl ?_ ?_
    · exact JX0_fluteAt_19 C hX
    · refine Dn_ald_n (i := 0) (q := 11) C dX0_fluteAt_10 rfl rfl ?_
      refine Dn_get (ci := 0) (j := 2) (T := TX0) (N := 5) (Cn := RX0) (q := 14) C rfl iX0 (by decide) q_157 dX0_fluteAt_11 rfl ?_
      refine Dn_ild_n (i := 1) (q := 15) C dX0_fluteAt_14 rfl rfl ?_
      refine Dn_iald (q := 16) C dX0_fluteAt_15 rfl ?_
      refine Dn_goto (t := 20) C dX0_fluteAt_16 (by decide) ?_
      exact JX0_fluteAt_20 C hX
abbrev rX0_soundsOf : Room := ({ frames := 1, cells := 0, slots := 0, locals := 21 } : Room)
def jX0_soundsOf_56 : mK := i_ild 3 (i_iret)
set_option maxRecDepth 20000 in
theorem JX0_soundsOf_56 {X : mC} (C : Cx X rX0_soundsOf cX0_soundsOf 5 RX0 (some FieldType.int)) (hX : Rx X) : Den X rX0_soundsOf 5 56 jX0_soundsOf_56 := by
  unfold jX0_soundsOf_56
  refine Dn_ild_n (i := 3) (q := 57) C dX0_soundsOf_56 rfl rfl ?_
  exact Dn_iret C hX dX0_soundsOf_57
def jX0_soundsOf_48 (B15 : mK) : mK := i_ib (fun x y => x + y) (i_ist 3 (i_inc 4 1 (B15)))
set_option maxRecDepth 20000 in
theorem JX0_soundsOf_48 {X : mC} (C : Cx X rX0_soundsOf cX0_soundsOf 5 RX0 (some FieldType.int)) (hX : Rx X) (B15 : mK) (hB15 : Den X rX0_soundsOf 5 15 B15) : Den X rX0_soundsOf 5 48 (jX0_soundsOf_48 B15) := by
  unfold jX0_soundsOf_48
  refine Dn_iadd (q := 49) C dX0_soundsOf_48 rfl ?_
  refine Dn_ist_n (i := 3) (q := 50) C dX0_soundsOf_49 rfl (by decide) rfl ?_
  refine Dn_inc (z := 1) (q := 53) C dX0_soundsOf_50 (by decide) (by decide) rfl ?_
  refine Dn_goto (t := 15) C dX0_soundsOf_53 (by decide) ?_
  exact hB15
def jX0_soundsOf_15 : mK := i_loop (fun B15 => i_ild 4 (i_push (.int 6) (i_icge (jX0_soundsOf_56) (i_ild 3 (i_ild 4 (i_ild 1 (i_call 2 FX4_isIn (i_ifeq (i_push (.int 0) ((jX0_soundsOf_48 B15))) (i_ald 0 (i_get 0 3 (i_ild 4 (i_push (.int 36) (i_ib (fun x y => x * y) (i_ild 2 (i_ib (fun x y => x + y) (i_iald ((jX0_soundsOf_48 B15)))))))))))))))))) 1000
set_option maxRecDepth 20000 in
theorem JX0_soundsOf_15 {X : mC} (C : Cx X rX0_soundsOf cX0_soundsOf 5 RX0 (some FieldType.int)) (hX : Rx X) : Den X rX0_soundsOf 5 15 jX0_soundsOf_15 := by
  unfold jX0_soundsOf_15
  refine Dn_loop (fun B15 hB15 => ?_) 1000
  refine Dn_ild (q := 17) C dX0_soundsOf_15 rfl ?_
  refine Dn_bipush (v := 6) (q := 19) C dX0_soundsOf_17 (by decide) rfl ?_
  refine Dn_icge (t := 56) (q := 22) C dX0_soundsOf_19 (by decide) rfl ?_ ?_
  · exact JX0_soundsOf_56 C hX
  · refine Dn_ild_n (i := 3) (q := 23) C dX0_soundsOf_22 rfl rfl ?_
    refine Dn_ild (q := 25) C dX0_soundsOf_23 rfl ?_
    refine Dn_ild_n (i := 1) (q := 26) C dX0_soundsOf_25 rfl rfl ?_
    refine Dn_callSN (q := 29) (host := "FlutePark") C (kX4_isIn X.l X.G X.tg) q_518 (by decide +kernel) q_517 q_44 ⟨rfl, rfl⟩ (by decide +kernel) ⟨by decide, by decide⟩ dX0_soundsOf_26 rfl ?_
    refine Dn_ifeq (t := 47) (q := 32) C dX0_soundsOf_29 (by decide) rfl ?_ ?_
    · refine Dn_iconst (v := 0) (q := 48) C dX0_soundsOf_47 (by decide) rfl ?_
      exact JX0_soundsOf_48 C hX B15 hB15
    · refine Dn_ald_n (i := 0) (q := 33) C dX0_soundsOf_32 rfl rfl ?_
      refine Dn_get (ci := 0) (j := 3) (T := TX0) (N := 5) (Cn := RX0) (q := 36) C rfl iX0 (by decide) q_158 dX0_soundsOf_33 rfl ?_
      refine Dn_ild (q := 38) C dX0_soundsOf_36 rfl ?_
      refine Dn_bipush (v := 36) (q := 40) C dX0_soundsOf_38 (by decide) rfl ?_
      refine Dn_imul (q := 41) C dX0_soundsOf_40 rfl ?_
      refine Dn_ild_n (i := 2) (q := 42) C dX0_soundsOf_41 rfl rfl ?_
      refine Dn_iadd (q := 43) C dX0_soundsOf_42 rfl ?_
      refine Dn_iald (q := 44) C dX0_soundsOf_43 rfl ?_
      refine Dn_goto (t := 48) C dX0_soundsOf_44 (by decide) ?_
      exact JX0_soundsOf_48 C hX B15 hB15
def jX0_soundsOf : mK := i_push (.int 0) (i_ist 3 (i_ild 2 (i_iflt (jX0_soundsOf_56) (i_ild 2 (i_push (.int 36) (i_icge (jX0_soundsOf_56) (i_push (.int 0) (i_ist 4 (jX0_soundsOf_15)))))))))
def FX0_soundsOf : mF := mEnt 5 jX0_soundsOf
set_option maxRecDepth 20000 in
theorem kX0_soundsOf (l : Launch) (G : va_G) (tg : Nat → ClassId) : Ct l G tg yX0_soundsOf cX0_soundsOf 5 (some FieldType.int) rX0_soundsOf FX0_soundsOf := by
  refine Ct.of RX0 (by decide) rfl (fun X C hX => ?_)
  unfold jX0_soundsOf
  refine Dn_iconst (v := 0) (q := 1) C dX0_soundsOf_0 (by decide) rfl ?_
  refine Dn_ist_n (i := 3) (q := 2) C dX0_soundsOf_1 rfl (by decide) rfl ?_
  refine Dn_ild_n (i := 2) (q := 3) C dX0_soundsOf_2 rfl rfl ?_
  refine Dn_iflt (t := 56) (q := 6) C dX0_soundsOf_3 (by decide) rfl ?_ ?_
  · exact JX0_soundsOf_56 C hX
  · refine Dn_ild_n (i := 2) (q := 7) C dX0_soundsOf_6 rfl rfl ?_
    refine Dn_bipush (v := 36) (q := 9) C dX0_soundsOf_7 (by decide) rfl ?_
    refine Dn_icge (t := 56) (q := 12) C dX0_soundsOf_9 (by decide) rfl ?_ ?_
    · exact JX0_soundsOf_56 C hX
    · refine Dn_iconst (v := 0) (q := 13) C dX0_soundsOf_12 (by decide) rfl ?_
      refine Dn_ist (q := 15) C dX0_soundsOf_13 (by decide) rfl ?_
      exact JX0_soundsOf_15 C hX
abbrev rX0_noiseOf : Room := ({ frames := 2, cells := 0, slots := 0, locals := 45 } : Room)
def jX0_noiseOf_24 : mK := i_iret
set_option maxRecDepth 20000 in
theorem JX0_noiseOf_24 {X : mC} (C : Cx X rX0_noiseOf cX0_noiseOf 4 RX0 (some FieldType.int)) (hX : Rx X) : Den X rX0_noiseOf 4 24 jX0_noiseOf_24 := by
  unfold jX0_noiseOf_24
  exact Dn_iret C hX dX0_noiseOf_24
def jX0_noiseOf : mK := i_ild 3 (i_call 1 FX4_isHour (i_ifeq (i_push (.int 0) (jX0_noiseOf_24)) (i_ald 0 (i_ild 1 (i_ald 0 (i_get 0 4 (i_ild 3 (i_iald (i_ib (fun x y => x &&& y) (i_ild 2 (i_callV 0 2 FX0_soundsOf (jX0_noiseOf_24))))))))))))
def FX0_noiseOf : mF := mEnt 4 jX0_noiseOf
set_option maxRecDepth 20000 in
theorem kX0_noiseOf (l : Launch) (G : va_G) (tg : Nat → ClassId) : Ct l G tg yX0_noiseOf cX0_noiseOf 4 (some FieldType.int) rX0_noiseOf FX0_noiseOf := by
  refine Ct.of RX0 (by decide) rfl (fun X C hX => ?_)
  unfold jX0_noiseOf
  refine Dn_ild_n (i := 3) (q := 1) C dX0_noiseOf_0 rfl rfl ?_
  refine Dn_callSN (q := 4) (host := "FlutePark") C (kX4_isHour X.l X.G X.tg) q_534 (by decide +kernel) q_533 q_44 ⟨rfl, rfl⟩ (by decide +kernel) ⟨by decide, by decide⟩ dX0_noiseOf_1 rfl ?_
  refine Dn_ifeq (t := 23) (q := 7) C dX0_noiseOf_4 (by decide) rfl ?_ ?_
  · refine Dn_iconst (v := 0) (q := 24) C dX0_noiseOf_23 (by decide) rfl ?_
    exact JX0_noiseOf_24 C hX
  · refine Dn_ald_n (i := 0) (q := 8) C dX0_noiseOf_7 rfl rfl ?_
    refine Dn_ild_n (i := 1) (q := 9) C dX0_noiseOf_8 rfl rfl ?_
    refine Dn_ald_n (i := 0) (q := 10) C dX0_noiseOf_9 rfl rfl ?_
    refine Dn_get (ci := 0) (j := 4) (T := TX0) (N := 5) (Cn := RX0) (q := 13) C rfl iX0 (by decide) q_159 dX0_noiseOf_10 rfl ?_
    refine Dn_ild_n (i := 3) (q := 14) C dX0_noiseOf_13 rfl rfl ?_
    refine Dn_iald (q := 15) C dX0_noiseOf_14 rfl ?_
    refine Dn_iand (q := 16) C dX0_noiseOf_15 rfl ?_
    refine Dn_ild_n (i := 2) (q := 17) C dX0_noiseOf_16 rfl rfl ?_
    refine Dn_callV (ci := 0) (T := TX0) (N := 5) (q := 20) C rfl (kX0_soundsOf X.l X.G X.tg) q_538 q_535 q_537 q_7 q_48 ⟨rfl, rfl⟩ (by decide +kernel) ⟨by decide, by decide⟩ dX0_noiseOf_17 rfl ?_
    refine Dn_goto (t := 24) C dX0_noiseOf_20 (by decide) ?_
    exact JX0_noiseOf_24 C hX
abbrev rX0_isHeard : Room := ({ frames := 3, cells := 0, slots := 0, locals := 68 } : Room)
def jX0_isHeard_20 : mK := i_nret .boolean
set_option maxRecDepth 20000 in
theorem JX0_isHeard_20 {X : mC} (C : Cx X rX0_isHeard cX0_isHeard 4 RX0 (some FieldType.boolean)) (hX : Rx X) : Den X rX0_isHeard 4 20 jX0_isHeard_20 := by
  unfold jX0_isHeard_20
  exact Dn_nret C hX dX0_isHeard_20
def jX0_isHeard : mK := i_ald 0 (i_ild 2 (i_callV 0 1 FX0_fluteAt (i_ald 0 (i_ild 1 (i_ild 2 (i_ild 3 (i_callV 0 3 FX0_noiseOf (i_icle (i_push (.int 0) (jX0_isHeard_20)) (i_push (.int 1) (jX0_isHeard_20))))))))))
def FX0_isHeard : mF := mEnt 4 jX0_isHeard
set_option maxRecDepth 20000 in
theorem kX0_isHeard (l : Launch) (G : va_G) (tg : Nat → ClassId) : Ct l G tg yX0_isHeard cX0_isHeard 4 (some FieldType.boolean) rX0_isHeard FX0_isHeard := by
  refine Ct.of RX0 (by decide) rfl (fun X C hX => ?_)
  unfold jX0_isHeard
  refine Dn_ald_n (i := 0) (q := 1) C dX0_isHeard_0 rfl rfl ?_
  refine Dn_ild_n (i := 2) (q := 2) C dX0_isHeard_1 rfl rfl ?_
  refine Dn_callV (ci := 0) (T := TX0) (N := 5) (q := 5) C rfl (kX0_fluteAt X.l X.G X.tg) q_507 q_568 q_505 q_506 q_48 ⟨rfl, rfl⟩ (by decide +kernel) ⟨by decide, by decide⟩ dX0_isHeard_2 rfl ?_
  refine Dn_ald_n (i := 0) (q := 6) C dX0_isHeard_5 rfl rfl ?_
  refine Dn_ild_n (i := 1) (q := 7) C dX0_isHeard_6 rfl rfl ?_
  refine Dn_ild_n (i := 2) (q := 8) C dX0_isHeard_7 rfl rfl ?_
  refine Dn_ild_n (i := 3) (q := 9) C dX0_isHeard_8 rfl rfl ?_
  refine Dn_callV (ci := 0) (T := TX0) (N := 5) (q := 12) C rfl (kX0_noiseOf X.l X.G X.tg) q_531 q_569 q_529 q_530 q_48 ⟨rfl, rfl⟩ (by decide +kernel) ⟨by decide, by decide⟩ dX0_isHeard_9 rfl ?_
  refine Dn_icle (t := 19) (q := 15) C dX0_isHeard_12 (by decide) rfl ?_ ?_
  · refine Dn_iconst (v := 0) (q := 20) C dX0_isHeard_19 (by decide) rfl ?_
    exact JX0_isHeard_20 C hX
  · refine Dn_iconst (v := 1) (q := 16) C dX0_isHeard_15 (by decide) rfl ?_
    refine Dn_goto (t := 20) C dX0_isHeard_16 (by decide) ?_
    exact JX0_isHeard_20 C hX
abbrev rX0_heardOfWalk : Room := ({ frames := 4, cells := 0, slots := 0, locals := 91 } : Room)
def jX0_heardOfWalk_46 (B5 : mK) : mK := i_inc 5 1 (B5)
set_option maxRecDepth 20000 in
theorem JX0_heardOfWalk_46 {X : mC} (C : Cx X rX0_heardOfWalk cX0_heardOfWalk 6 RX0 (some FieldType.long)) (hX : Rx X) (B5 : mK) (hB5 : Den X rX0_heardOfWalk 6 5 B5) : Den X rX0_heardOfWalk 6 46 (jX0_heardOfWalk_46 B5) := by
  unfold jX0_heardOfWalk_46
  refine Dn_inc (z := 1) (q := 49) C dX0_heardOfWalk_46 (by decide) (by decide) rfl ?_
  refine Dn_goto (t := 5) C dX0_heardOfWalk_49 (by decide) ?_
  exact hB5
def jX0_heardOfWalk_5 : mK := i_loop (fun B5 => i_ild 5 (i_ald 0 (i_get 0 0 (i_icge (i_lld 3 (i_lret)) (i_ald 0 (i_get 0 1 (i_ild 5 (i_ls (fun x y => (x.toUInt64 >>> (y.toInt64.toUInt64 &&& Int64.toUInt64 63)).toInt64) (i_push (.long 1) (i_lb (fun x y => x &&& y) (i_push (.long 1) (i_lcmp (i_ifne ((jX0_heardOfWalk_46 B5)) (i_ald 0 (i_ild 1 (i_ild 5 (i_ild 2 (i_callV 0 3 FX0_isHeard (i_ifeq ((jX0_heardOfWalk_46 B5)) (i_lld 3 (i_push (.long 1) (i_ild 5 (i_ls (fun x y => x <<< (y.toInt64 &&& 63)) (i_lb (fun x y => x ||| y) (i_lst 3 ((jX0_heardOfWalk_46 B5))))))))))))))))))))))))))) 1000
set_option maxRecDepth 20000 in
theorem JX0_heardOfWalk_5 {X : mC} (C : Cx X rX0_heardOfWalk cX0_heardOfWalk 6 RX0 (some FieldType.long)) (hX : Rx X) : Den X rX0_heardOfWalk 6 5 jX0_heardOfWalk_5 := by
  unfold jX0_heardOfWalk_5
  refine Dn_loop (fun B5 hB5 => ?_) 1000
  refine Dn_ild (q := 7) C dX0_heardOfWalk_5 rfl ?_
  refine Dn_ald_n (i := 0) (q := 8) C dX0_heardOfWalk_7 rfl rfl ?_
  refine Dn_get (ci := 0) (j := 0) (T := TX0) (N := 5) (Cn := RX0) (q := 11) C rfl iX0 (by decide) q_155 dX0_heardOfWalk_8 rfl ?_
  refine Dn_icge (t := 52) (q := 14) C dX0_heardOfWalk_11 (by decide) rfl ?_ ?_
  · refine Dn_lld_n (i := 3) (q := 53) C dX0_heardOfWalk_52 rfl rfl ?_
    exact Dn_lret C hX dX0_heardOfWalk_53
  · refine Dn_ald_n (i := 0) (q := 15) C dX0_heardOfWalk_14 rfl rfl ?_
    refine Dn_get (ci := 0) (j := 1) (T := TX0) (N := 5) (Cn := RX0) (q := 18) C rfl iX0 (by decide) q_156 dX0_heardOfWalk_15 rfl ?_
    refine Dn_ild (q := 20) C dX0_heardOfWalk_18 rfl ?_
    refine Dn_lushr (q := 21) C dX0_heardOfWalk_20 rfl ?_
    refine Dn_lconst (v := 1) (q := 22) C dX0_heardOfWalk_21 (by decide) rfl ?_
    refine Dn_land (q := 23) C dX0_heardOfWalk_22 rfl ?_
    refine Dn_lconst (v := 1) (q := 24) C dX0_heardOfWalk_23 (by decide) rfl ?_
    refine Dn_lcmp (q := 25) C dX0_heardOfWalk_24 rfl ?_
    refine Dn_ifne (t := 46) (q := 28) C dX0_heardOfWalk_25 (by decide) rfl ?_ ?_
    · exact JX0_heardOfWalk_46 C hX B5 hB5
    · refine Dn_ald_n (i := 0) (q := 29) C dX0_heardOfWalk_28 rfl rfl ?_
      refine Dn_ild_n (i := 1) (q := 30) C dX0_heardOfWalk_29 rfl rfl ?_
      refine Dn_ild (q := 32) C dX0_heardOfWalk_30 rfl ?_
      refine Dn_ild_n (i := 2) (q := 33) C dX0_heardOfWalk_32 rfl rfl ?_
      refine Dn_callV (ci := 0) (T := TX0) (N := 5) (q := 36) C rfl (kX0_isHeard X.l X.G X.tg) q_567 q_667 q_565 q_566 q_48 ⟨rfl, rfl⟩ (by decide +kernel) ⟨by decide, by decide⟩ dX0_heardOfWalk_33 rfl ?_
      refine Dn_ifeq (t := 46) (q := 39) C dX0_heardOfWalk_36 (by decide) rfl ?_ ?_
      · exact JX0_heardOfWalk_46 C hX B5 hB5
      · refine Dn_lld_n (i := 3) (q := 40) C dX0_heardOfWalk_39 rfl rfl ?_
        refine Dn_lconst (v := 1) (q := 41) C dX0_heardOfWalk_40 (by decide) rfl ?_
        refine Dn_ild (q := 43) C dX0_heardOfWalk_41 rfl ?_
        refine Dn_lshl (q := 44) C dX0_heardOfWalk_43 rfl ?_
        refine Dn_lor (q := 45) C dX0_heardOfWalk_44 rfl ?_
        refine Dn_lst_n (i := 3) (q := 46) C dX0_heardOfWalk_45 rfl (by decide) rfl ?_
        exact JX0_heardOfWalk_46 C hX B5 hB5
def jX0_heardOfWalk : mK := i_push (.long 0) (i_lst 3 (i_push (.int 0) (i_ist 5 (jX0_heardOfWalk_5))))
def FX0_heardOfWalk : mF := mEnt 6 jX0_heardOfWalk
set_option maxRecDepth 20000 in
theorem kX0_heardOfWalk (l : Launch) (G : va_G) (tg : Nat → ClassId) : Ct l G tg yX0_heardOfWalk cX0_heardOfWalk 6 (some FieldType.long) rX0_heardOfWalk FX0_heardOfWalk := by
  refine Ct.of RX0 (by decide) rfl (fun X C hX => ?_)
  unfold jX0_heardOfWalk
  refine Dn_lconst (v := 0) (q := 1) C dX0_heardOfWalk_0 (by decide) rfl ?_
  refine Dn_lst_n (i := 3) (q := 2) C dX0_heardOfWalk_1 rfl (by decide) rfl ?_
  refine Dn_iconst (v := 0) (q := 3) C dX0_heardOfWalk_2 (by decide) rfl ?_
  refine Dn_ist (q := 5) C dX0_heardOfWalk_3 (by decide) rfl ?_
  exact JX0_heardOfWalk_5 C hX
abbrev rX0_loudestOf : Room := ({ frames := 3, cells := 0, slots := 0, locals := 68 } : Room)
def jX0_loudestOf_45 (B9 : mK) : mK := i_inc 6 1 (B9)
set_option maxRecDepth 20000 in
theorem JX0_loudestOf_45 {X : mC} (C : Cx X rX0_loudestOf cX0_loudestOf 8 RX0 (some FieldType.int)) (hX : Rx X) (B9 : mK) (hB9 : Den X rX0_loudestOf 8 9 B9) : Den X rX0_loudestOf 8 45 (jX0_loudestOf_45 B9) := by
  unfold jX0_loudestOf_45
  refine Dn_inc (z := 1) (q := 48) C dX0_loudestOf_45 (by decide) (by decide) rfl ?_
  refine Dn_goto (t := 9) C dX0_loudestOf_48 (by decide) ?_
  exact hB9
def jX0_loudestOf_9 : mK := i_loop (fun B9 => i_ild 6 (i_push (.int 6) (i_icge (i_ild 4 (i_iret)) (i_ald 0 (i_ild 1 (i_push (.int 1) (i_ild 6 (i_ib (fun x y => x <<< (y &&& 31)) (i_ib (fun x y => x &&& y) (i_ild 2 (i_ild 3 (i_callV 0 3 FX0_noiseOf (i_ist 7 (i_ild 7 (i_ild 5 (i_icle ((jX0_loudestOf_45 B9)) (i_ild 7 (i_ist 5 (i_ild 6 (i_ist 4 ((jX0_loudestOf_45 B9)))))))))))))))))))))) 1000
set_option maxRecDepth 20000 in
theorem JX0_loudestOf_9 {X : mC} (C : Cx X rX0_loudestOf cX0_loudestOf 8 RX0 (some FieldType.int)) (hX : Rx X) : Den X rX0_loudestOf 8 9 jX0_loudestOf_9 := by
  unfold jX0_loudestOf_9
  refine Dn_loop (fun B9 hB9 => ?_) 1000
  refine Dn_ild (q := 11) C dX0_loudestOf_9 rfl ?_
  refine Dn_bipush (v := 6) (q := 13) C dX0_loudestOf_11 (by decide) rfl ?_
  refine Dn_icge (t := 51) (q := 16) C dX0_loudestOf_13 (by decide) rfl ?_ ?_
  · refine Dn_ild (q := 53) C dX0_loudestOf_51 rfl ?_
    exact Dn_iret C hX dX0_loudestOf_53
  · refine Dn_ald_n (i := 0) (q := 17) C dX0_loudestOf_16 rfl rfl ?_
    refine Dn_ild_n (i := 1) (q := 18) C dX0_loudestOf_17 rfl rfl ?_
    refine Dn_iconst (v := 1) (q := 19) C dX0_loudestOf_18 (by decide) rfl ?_
    refine Dn_ild (q := 21) C dX0_loudestOf_19 rfl ?_
    refine Dn_ishl (q := 22) C dX0_loudestOf_21 rfl ?_
    refine Dn_iand (q := 23) C dX0_loudestOf_22 rfl ?_
    refine Dn_ild_n (i := 2) (q := 24) C dX0_loudestOf_23 rfl rfl ?_
    refine Dn_ild_n (i := 3) (q := 25) C dX0_loudestOf_24 rfl rfl ?_
    refine Dn_callV (ci := 0) (T := TX0) (N := 5) (q := 28) C rfl (kX0_noiseOf X.l X.G X.tg) q_531 q_569 q_529 q_530 q_48 ⟨rfl, rfl⟩ (by decide +kernel) ⟨by decide, by decide⟩ dX0_loudestOf_25 rfl ?_
    refine Dn_ist (q := 30) C dX0_loudestOf_28 (by decide) rfl ?_
    refine Dn_ild (q := 32) C dX0_loudestOf_30 rfl ?_
    refine Dn_ild (q := 34) C dX0_loudestOf_32 rfl ?_
    refine Dn_icle (t := 45) (q := 37) C dX0_loudestOf_34 (by decide) rfl ?_ ?_
    · exact JX0_loudestOf_45 C hX B9 hB9
    · refine Dn_ild (q := 39) C dX0_loudestOf_37 rfl ?_
      refine Dn_ist (q := 41) C dX0_loudestOf_39 (by decide) rfl ?_
      refine Dn_ild (q := 43) C dX0_loudestOf_41 rfl ?_
      refine Dn_ist (q := 45) C dX0_loudestOf_43 (by decide) rfl ?_
      exact JX0_loudestOf_45 C hX B9 hB9
def jX0_loudestOf : mK := i_push (.int (-1)) (i_ist 4 (i_push (.int 0) (i_ist 5 (i_push (.int 0) (i_ist 6 (jX0_loudestOf_9))))))
def FX0_loudestOf : mF := mEnt 8 jX0_loudestOf
set_option maxRecDepth 20000 in
theorem kX0_loudestOf (l : Launch) (G : va_G) (tg : Nat → ClassId) : Ct l G tg yX0_loudestOf cX0_loudestOf 8 (some FieldType.int) rX0_loudestOf FX0_loudestOf := by
  refine Ct.of RX0 (by decide) rfl (fun X C hX => ?_)
  unfold jX0_loudestOf
  refine Dn_iconst (v := (-1)) (q := 1) C dX0_loudestOf_0 (by decide) rfl ?_
  refine Dn_ist (q := 3) C dX0_loudestOf_1 (by decide) rfl ?_
  refine Dn_iconst (v := 0) (q := 4) C dX0_loudestOf_3 (by decide) rfl ?_
  refine Dn_ist (q := 6) C dX0_loudestOf_4 (by decide) rfl ?_
  refine Dn_iconst (v := 0) (q := 7) C dX0_loudestOf_6 (by decide) rfl ?_
  refine Dn_ist (q := 9) C dX0_loudestOf_7 (by decide) rfl ?_
  exact JX0_loudestOf_9 C hX
abbrev rX0_marginBy : Room := ({ frames := 2, cells := 0, slots := 0, locals := 45 } : Room)
def jX0_marginBy_44 (B6 : mK) : mK := i_inc 3 1 (B6)
set_option maxRecDepth 20000 in
theorem JX0_marginBy_44 {X : mC} (C : Cx X rX0_marginBy cX0_marginBy 4 RX0 (some FieldType.int)) (hX : Rx X) (B6 : mK) (hB6 : Den X rX0_marginBy 4 6 B6) : Den X rX0_marginBy 4 44 (jX0_marginBy_44 B6) := by
  unfold jX0_marginBy_44
  refine Dn_inc (z := 1) (q := 47) C dX0_marginBy_44 (by decide) (by decide) rfl ?_
  refine Dn_goto (t := 6) C dX0_marginBy_47 (by decide) ?_
  exact hB6
def jX0_marginBy_6 : mK := i_loop (fun B6 => i_ild 3 (i_ald 0 (i_get 0 0 (i_icge (i_ild 2 (i_iret)) (i_ald 0 (i_get 0 1 (i_ild 3 (i_ls (fun x y => (x.toUInt64 >>> (y.toInt64.toUInt64 &&& Int64.toUInt64 63)).toInt64) (i_push (.long 1) (i_lb (fun x y => x &&& y) (i_push (.long 1) (i_lcmp (i_ifne ((jX0_marginBy_44 B6)) (i_ild 2 (i_ald 0 (i_ild 3 (i_callV 0 1 FX0_fluteAt (i_ald 0 (i_ild 1 (i_ild 3 (i_callV 0 2 FX0_soundsOf (i_ib (fun x y => x - y) (i_mmin (i_ist 2 ((jX0_marginBy_44 B6)))))))))))))))))))))))))) 1000
set_option maxRecDepth 20000 in
theorem JX0_marginBy_6 {X : mC} (C : Cx X rX0_marginBy cX0_marginBy 4 RX0 (some FieldType.int)) (hX : Rx X) : Den X rX0_marginBy 4 6 jX0_marginBy_6 := by
  unfold jX0_marginBy_6
  refine Dn_loop (fun B6 hB6 => ?_) 1000
  refine Dn_ild_n (i := 3) (q := 7) C dX0_marginBy_6 rfl rfl ?_
  refine Dn_ald_n (i := 0) (q := 8) C dX0_marginBy_7 rfl rfl ?_
  refine Dn_get (ci := 0) (j := 0) (T := TX0) (N := 5) (Cn := RX0) (q := 11) C rfl iX0 (by decide) q_155 dX0_marginBy_8 rfl ?_
  refine Dn_icge (t := 50) (q := 14) C dX0_marginBy_11 (by decide) rfl ?_ ?_
  · refine Dn_ild_n (i := 2) (q := 51) C dX0_marginBy_50 rfl rfl ?_
    exact Dn_iret C hX dX0_marginBy_51
  · refine Dn_ald_n (i := 0) (q := 15) C dX0_marginBy_14 rfl rfl ?_
    refine Dn_get (ci := 0) (j := 1) (T := TX0) (N := 5) (Cn := RX0) (q := 18) C rfl iX0 (by decide) q_156 dX0_marginBy_15 rfl ?_
    refine Dn_ild_n (i := 3) (q := 19) C dX0_marginBy_18 rfl rfl ?_
    refine Dn_lushr (q := 20) C dX0_marginBy_19 rfl ?_
    refine Dn_lconst (v := 1) (q := 21) C dX0_marginBy_20 (by decide) rfl ?_
    refine Dn_land (q := 22) C dX0_marginBy_21 rfl ?_
    refine Dn_lconst (v := 1) (q := 23) C dX0_marginBy_22 (by decide) rfl ?_
    refine Dn_lcmp (q := 24) C dX0_marginBy_23 rfl ?_
    refine Dn_ifne (t := 44) (q := 27) C dX0_marginBy_24 (by decide) rfl ?_ ?_
    · exact JX0_marginBy_44 C hX B6 hB6
    · refine Dn_ild_n (i := 2) (q := 28) C dX0_marginBy_27 rfl rfl ?_
      refine Dn_ald_n (i := 0) (q := 29) C dX0_marginBy_28 rfl rfl ?_
      refine Dn_ild_n (i := 3) (q := 30) C dX0_marginBy_29 rfl rfl ?_
      refine Dn_callV (ci := 0) (T := TX0) (N := 5) (q := 33) C rfl (kX0_fluteAt X.l X.G X.tg) q_507 q_568 q_505 q_506 q_48 ⟨rfl, rfl⟩ (by decide +kernel) ⟨by decide, by decide⟩ dX0_marginBy_30 rfl ?_
      refine Dn_ald_n (i := 0) (q := 34) C dX0_marginBy_33 rfl rfl ?_
      refine Dn_ild_n (i := 1) (q := 35) C dX0_marginBy_34 rfl rfl ?_
      refine Dn_ild_n (i := 3) (q := 36) C dX0_marginBy_35 rfl rfl ?_
      refine Dn_callV (ci := 0) (T := TX0) (N := 5) (q := 39) C rfl (kX0_soundsOf X.l X.G X.tg) q_538 q_535 q_537 q_7 q_48 ⟨rfl, rfl⟩ (by decide +kernel) ⟨by decide, by decide⟩ dX0_marginBy_36 rfl ?_
      refine Dn_isub (q := 40) C dX0_marginBy_39 rfl ?_
      refine Dn_mmin (q := 43) C q_179 q_180 q_49 q_181 (by decide) (by decide) dX0_marginBy_40 rfl ?_
      refine Dn_ist_n (i := 2) (q := 44) C dX0_marginBy_43 rfl (by decide) rfl ?_
      exact JX0_marginBy_44 C hX B6 hB6
def jX0_marginBy : mK := i_push (.int 999) (i_ist 2 (i_push (.int 0) (i_ist 3 (jX0_marginBy_6))))
def FX0_marginBy : mF := mEnt 4 jX0_marginBy
set_option maxRecDepth 20000 in
theorem kX0_marginBy (l : Launch) (G : va_G) (tg : Nat → ClassId) : Ct l G tg yX0_marginBy cX0_marginBy 4 (some FieldType.int) rX0_marginBy FX0_marginBy := by
  refine Ct.of RX0 (by decide) rfl (fun X C hX => ?_)
  unfold jX0_marginBy
  refine Dn_sipush (v := 999) (q := 3) C dX0_marginBy_0 (by decide) rfl ?_
  refine Dn_ist_n (i := 2) (q := 4) C dX0_marginBy_3 rfl (by decide) rfl ?_
  refine Dn_iconst (v := 0) (q := 5) C dX0_marginBy_4 (by decide) rfl ?_
  refine Dn_ist_n (i := 3) (q := 6) C dX0_marginBy_5 rfl (by decide) rfl ?_
  exact JX0_marginBy_6 C hX
abbrev rX0_marginOf : Room := ({ frames := 3, cells := 0, slots := 0, locals := 68 } : Room)
def jX0_marginOf_56 (B9 : mK) : mK := i_inc 5 1 (B9)
set_option maxRecDepth 20000 in
theorem JX0_marginOf_56 {X : mC} (C : Cx X rX0_marginOf cX0_marginOf 7 RX0 (some FieldType.int)) (hX : Rx X) (B9 : mK) (hB9 : Den X rX0_marginOf 7 9 B9) : Den X rX0_marginOf 7 56 (jX0_marginOf_56 B9) := by
  unfold jX0_marginOf_56
  refine Dn_inc (z := 1) (q := 59) C dX0_marginOf_56 (by decide) (by decide) rfl ?_
  refine Dn_goto (t := 9) C dX0_marginOf_59 (by decide) ?_
  exact hB9
def jX0_marginOf_9 : mK := i_loop (fun B9 => i_ild 5 (i_push (.int 12) (i_icge (i_ild 2 (i_iret)) (i_ild 1 (i_ald 0 (i_get 0 4 (i_ild 5 (i_iald (i_ib (fun x y => x &&& y) (i_ist 6 (i_lld 3 (i_ild 6 (i_ls (fun x y => (x.toUInt64 >>> (y.toInt64.toUInt64 &&& Int64.toUInt64 63)).toInt64) (i_push (.long 1) (i_lb (fun x y => x &&& y) (i_push (.long 0) (i_lcmp (i_ifne ((jX0_marginOf_56 B9)) (i_lld 3 (i_push (.long 1) (i_ild 6 (i_ls (fun x y => x <<< (y.toInt64 &&& 63)) (i_lb (fun x y => x ||| y) (i_lst 3 (i_ild 2 (i_ald 0 (i_ild 6 (i_callV 0 1 FX0_marginBy (i_mmin (i_ist 2 ((jX0_marginOf_56 B9)))))))))))))))))))))))))))))))) 1000
set_option maxRecDepth 20000 in
theorem JX0_marginOf_9 {X : mC} (C : Cx X rX0_marginOf cX0_marginOf 7 RX0 (some FieldType.int)) (hX : Rx X) : Den X rX0_marginOf 7 9 jX0_marginOf_9 := by
  unfold jX0_marginOf_9
  refine Dn_loop (fun B9 hB9 => ?_) 1000
  refine Dn_ild (q := 11) C dX0_marginOf_9 rfl ?_
  refine Dn_bipush (v := 12) (q := 13) C dX0_marginOf_11 (by decide) rfl ?_
  refine Dn_icge (t := 62) (q := 16) C dX0_marginOf_13 (by decide) rfl ?_ ?_
  · refine Dn_ild_n (i := 2) (q := 63) C dX0_marginOf_62 rfl rfl ?_
    exact Dn_iret C hX dX0_marginOf_63
  · refine Dn_ild_n (i := 1) (q := 17) C dX0_marginOf_16 rfl rfl ?_
    refine Dn_ald_n (i := 0) (q := 18) C dX0_marginOf_17 rfl rfl ?_
    refine Dn_get (ci := 0) (j := 4) (T := TX0) (N := 5) (Cn := RX0) (q := 21) C rfl iX0 (by decide) q_159 dX0_marginOf_18 rfl ?_
    refine Dn_ild (q := 23) C dX0_marginOf_21 rfl ?_
    refine Dn_iald (q := 24) C dX0_marginOf_23 rfl ?_
    refine Dn_iand (q := 25) C dX0_marginOf_24 rfl ?_
    refine Dn_ist (q := 27) C dX0_marginOf_25 (by decide) rfl ?_
    refine Dn_lld_n (i := 3) (q := 28) C dX0_marginOf_27 rfl rfl ?_
    refine Dn_ild (q := 30) C dX0_marginOf_28 rfl ?_
    refine Dn_lushr (q := 31) C dX0_marginOf_30 rfl ?_
    refine Dn_lconst (v := 1) (q := 32) C dX0_marginOf_31 (by decide) rfl ?_
    refine Dn_land (q := 33) C dX0_marginOf_32 rfl ?_
    refine Dn_lconst (v := 0) (q := 34) C dX0_marginOf_33 (by decide) rfl ?_
    refine Dn_lcmp (q := 35) C dX0_marginOf_34 rfl ?_
    refine Dn_ifne (t := 56) (q := 38) C dX0_marginOf_35 (by decide) rfl ?_ ?_
    · exact JX0_marginOf_56 C hX B9 hB9
    · refine Dn_lld_n (i := 3) (q := 39) C dX0_marginOf_38 rfl rfl ?_
      refine Dn_lconst (v := 1) (q := 40) C dX0_marginOf_39 (by decide) rfl ?_
      refine Dn_ild (q := 42) C dX0_marginOf_40 rfl ?_
      refine Dn_lshl (q := 43) C dX0_marginOf_42 rfl ?_
      refine Dn_lor (q := 44) C dX0_marginOf_43 rfl ?_
      refine Dn_lst_n (i := 3) (q := 45) C dX0_marginOf_44 rfl (by decide) rfl ?_
      refine Dn_ild_n (i := 2) (q := 46) C dX0_marginOf_45 rfl rfl ?_
      refine Dn_ald_n (i := 0) (q := 47) C dX0_marginOf_46 rfl rfl ?_
      refine Dn_ild (q := 49) C dX0_marginOf_47 rfl ?_
      refine Dn_callV (ci := 0) (T := TX0) (N := 5) (q := 52) C rfl (kX0_marginBy X.l X.G X.tg) q_611 q_608 q_610 q_9 q_48 ⟨rfl, rfl⟩ (by decide +kernel) ⟨by decide, by decide⟩ dX0_marginOf_49 rfl ?_
      refine Dn_mmin (q := 55) C q_179 q_180 q_49 q_181 (by decide) (by decide) dX0_marginOf_52 rfl ?_
      refine Dn_ist_n (i := 2) (q := 56) C dX0_marginOf_55 rfl (by decide) rfl ?_
      exact JX0_marginOf_56 C hX B9 hB9
def jX0_marginOf : mK := i_push (.int 999) (i_ist 2 (i_push (.long 0) (i_lst 3 (i_push (.int 0) (i_ist 5 (jX0_marginOf_9))))))
def FX0_marginOf : mF := mEnt 7 jX0_marginOf
set_option maxRecDepth 20000 in
theorem kX0_marginOf (l : Launch) (G : va_G) (tg : Nat → ClassId) : Ct l G tg yX0_marginOf cX0_marginOf 7 (some FieldType.int) rX0_marginOf FX0_marginOf := by
  refine Ct.of RX0 (by decide) rfl (fun X C hX => ?_)
  unfold jX0_marginOf
  refine Dn_sipush (v := 999) (q := 3) C dX0_marginOf_0 (by decide) rfl ?_
  refine Dn_ist_n (i := 2) (q := 4) C dX0_marginOf_3 rfl (by decide) rfl ?_
  refine Dn_lconst (v := 0) (q := 5) C dX0_marginOf_4 (by decide) rfl ?_
  refine Dn_lst_n (i := 3) (q := 6) C dX0_marginOf_5 rfl (by decide) rfl ?_
  refine Dn_iconst (v := 0) (q := 7) C dX0_marginOf_6 (by decide) rfl ?_
  refine Dn_ist (q := 9) C dX0_marginOf_7 (by decide) rfl ?_
  exact JX0_marginOf_9 C hX
abbrev rX0_holds : Room := ({ frames := 4, cells := 0, slots := 0, locals := 94 } : Room)
def jX0_holds_13 : mK := i_nret .boolean
set_option maxRecDepth 20000 in
theorem JX0_holds_13 {X : mC} (C : Cx X rX0_holds cX0_holds 2 RX0 (some FieldType.boolean)) (hX : Rx X) : Den X rX0_holds 2 13 jX0_holds_13 := by
  unfold jX0_holds_13
  exact Dn_nret C hX dX0_holds_13
def jX0_holds : mK := i_ald 0 (i_ild 1 (i_callV 0 1 FX0_marginOf (i_ifle (i_push (.int 0) (jX0_holds_13)) (i_push (.int 1) (jX0_holds_13)))))
def FX0_holds : mF := mEnt 2 jX0_holds
set_option maxRecDepth 20000 in
theorem kX0_holds (l : Launch) (G : va_G) (tg : Nat → ClassId) : Ct l G tg yX0_holds cX0_holds 2 (some FieldType.boolean) rX0_holds FX0_holds := by
  refine Ct.of RX0 (by decide) rfl (fun X C hX => ?_)
  unfold jX0_holds
  refine Dn_ald_n (i := 0) (q := 1) C dX0_holds_0 rfl rfl ?_
  refine Dn_ild_n (i := 1) (q := 2) C dX0_holds_1 rfl rfl ?_
  refine Dn_callV (ci := 0) (T := TX0) (N := 5) (q := 5) C rfl (kX0_marginOf X.l X.G X.tg) q_607 q_604 q_605 q_606 q_48 ⟨rfl, rfl⟩ (by decide +kernel) ⟨by decide, by decide⟩ dX0_holds_2 rfl ?_
  refine Dn_ifle (t := 12) (q := 8) C dX0_holds_5 (by decide) rfl ?_ ?_
  · refine Dn_iconst (v := 0) (q := 13) C dX0_holds_12 (by decide) rfl ?_
    exact JX0_holds_13 C hX
  · refine Dn_iconst (v := 1) (q := 9) C dX0_holds_8 (by decide) rfl ?_
    refine Dn_goto (t := 13) C dX0_holds_9 (by decide) ?_
    exact JX0_holds_13 C hX
