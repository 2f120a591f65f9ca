abbrev rX4_write : Room := ({ frames := 1, cells := 0, slots := 0, locals := 21 } : Room)
def jX4_write_35 : mK := i_loop (fun B35 => i_ild 4 (i_ild 3 (i_icge (i_ald 0 (i_get 4 0 (i_get 3 0 (i_iret)))) (i_ald 0 (i_get 4 0 (i_lld 1 (i_push (.int 8) (i_ild 4 (i_ib (fun x y => x * y) (i_ls (fun x y => x >>> (y.toInt64 &&& 63)) (i_push (.long 255) (i_lb (fun x y => x &&& y) (i_l2i (i_callV 3 1 FX3_add (i_inc 4 1 (B35)))))))))))))))) 1000
set_option maxRecDepth 20000 in
theorem JX4_write_35 {X : mC} (C : Cx X rX4_write cX4_write 5 RX4 (some FieldType.int)) (hX : Rx X) : Den X rX4_write 5 35 jX4_write_35 := by
  unfold jX4_write_35
  refine Dn_loop (fun B35 hB35 => ?_) 1000
  refine Dn_ild (q := 37) C dX4_write_35 rfl ?_
  refine Dn_ild_n (i := 3) (q := 38) C dX4_write_37 rfl rfl ?_
  refine Dn_icge (t := 66) (q := 41) C dX4_write_38 (by decide) rfl ?_ ?_
  · refine Dn_ald_n (i := 0) (q := 67) C dX4_write_66 rfl rfl ?_
    refine Dn_get (ci := 4) (j := 0) (T := TX4) (N := 17) (Cn := RX4) (q := 70) C rfl iX4 (by decide) q_248 dX4_write_67 rfl ?_
    refine Dn_get (ci := 3) (j := 0) (T := TX3) (N := 4) (Cn := RX3) (q := 73) C rfl iX3 (by decide) q_72 dX4_write_70 rfl ?_
    exact Dn_iret C hX dX4_write_73
  · refine Dn_ald_n (i := 0) (q := 42) C dX4_write_41 rfl rfl ?_
    refine Dn_get (ci := 4) (j := 0) (T := TX4) (N := 17) (Cn := RX4) (q := 45) C rfl iX4 (by decide) q_248 dX4_write_42 rfl ?_
    refine Dn_lld_n (i := 1) (q := 46) C dX4_write_45 rfl rfl ?_
    refine Dn_bipush (v := 8) (q := 48) C dX4_write_46 (by decide) rfl ?_
    refine Dn_ild (q := 50) C dX4_write_48 rfl ?_
    refine Dn_imul (q := 51) C dX4_write_50 rfl ?_
    refine Dn_lshr (q := 52) C dX4_write_51 rfl ?_
    refine Dn_ldc2 (q := 55) C dX4_write_52 q_305 rfl ?_
    refine Dn_land (q := 56) C dX4_write_55 rfl ?_
    refine Dn_l2i (q := 57) C dX4_write_56 rfl ?_
    refine Dn_callV (ci := 3) (T := TX3) (N := 4) (q := 60) C rfl (kX3_add X.l X.G X.tg) q_309 q_306 q_307 q_308 q_45 ⟨rfl, rfl⟩ (by decide +kernel) ⟨by decide, by decide⟩ dX4_write_57 rfl ?_
    refine Dn_inc (z := 1) (q := 63) C dX4_write_60 (by decide) (by decide) rfl ?_
    refine Dn_goto (t := 35) C dX4_write_63 (by decide) ?_
    exact hB35
def jX4_write_11 : mK := i_push (.int (-3)) (i_iret)
set_option maxRecDepth 20000 in
theorem JX4_write_11 {X : mC} (C : Cx X rX4_write cX4_write 5 RX4 (some FieldType.int)) (hX : Rx X) : Den X rX4_write 5 11 jX4_write_11 := by
  unfold jX4_write_11
  refine Dn_bipush (v := (-3)) (q := 13) C dX4_write_11 (by decide) rfl ?_
  exact Dn_iret C hX dX4_write_13
def jX4_write : mK := i_ild 3 (i_push (.int 1) (i_iclt (jX4_write_11) (i_ild 3 (i_push (.int 8) (i_icle (i_ald 0 (i_get 4 0 (i_get 3 0 (i_ild 3 (i_ib (fun x y => x + y) (i_push (.int 200) (i_icle (i_push (.int 0) (i_ist 4 (jX4_write_35))) (i_push (.int (-5)) (i_iret))))))))) (jX4_write_11))))))
def FX4_write : mF := mEnt 5 jX4_write
set_option maxRecDepth 20000 in
theorem kX4_write (l : Launch) (G : va_G) (tg : Nat → ClassId) : Ct l G tg yX4_write cX4_write 5 (some FieldType.int) rX4_write FX4_write := by
  refine Ct.of RX4 (by decide) rfl (fun X C hX => ?_)
  unfold jX4_write
  refine Dn_ild_n (i := 3) (q := 1) C dX4_write_0 rfl rfl ?_
  refine Dn_iconst (v := 1) (q := 2) C dX4_write_1 (by decide) rfl ?_
  refine Dn_iclt (t := 11) (q := 5) C dX4_write_2 (by decide) rfl ?_ ?_
  · exact JX4_write_11 C hX
  · refine Dn_ild_n (i := 3) (q := 6) C dX4_write_5 rfl rfl ?_
    refine Dn_bipush (v := 8) (q := 8) C dX4_write_6 (by decide) rfl ?_
    refine Dn_icle (t := 14) (q := 11) C dX4_write_8 (by decide) rfl ?_ ?_
    · refine Dn_ald_n (i := 0) (q := 15) C dX4_write_14 rfl rfl ?_
      refine Dn_get (ci := 4) (j := 0) (T := TX4) (N := 17) (Cn := RX4) (q := 18) C rfl iX4 (by decide) q_248 dX4_write_15 rfl ?_
      refine Dn_get (ci := 3) (j := 0) (T := TX3) (N := 4) (Cn := RX3) (q := 21) C rfl iX3 (by decide) q_72 dX4_write_18 rfl ?_
      refine Dn_ild_n (i := 3) (q := 22) C dX4_write_21 rfl rfl ?_
      refine Dn_iadd (q := 23) C dX4_write_22 rfl ?_
      refine Dn_sipush (v := 200) (q := 26) C dX4_write_23 (by decide) rfl ?_
      refine Dn_icle (t := 32) (q := 29) C dX4_write_26 (by decide) rfl ?_ ?_
      · refine Dn_iconst (v := 0) (q := 33) C dX4_write_32 (by decide) rfl ?_
        refine Dn_ist (q := 35) C dX4_write_33 (by decide) rfl ?_
        exact JX4_write_35 C hX
      · refine Dn_bipush (v := (-5)) (q := 31) C dX4_write_29 (by decide) rfl ?_
        exact Dn_iret C hX dX4_write_31
    · exact JX4_write_11 C hX
abbrev rX4_erase : Room := ({ frames := 1, cells := 0, slots := 0, locals := 21 } : Room)
def jX4_erase : mK := i_ald 0 (i_get 4 0 (i_callV 3 0 FX3_clear (i_iret)))
def FX4_erase : mF := mEnt 1 jX4_erase
set_option maxRecDepth 20000 in
theorem kX4_erase (l : Launch) (G : va_G) (tg : Nat → ClassId) : Ct l G tg yX4_erase cX4_erase 1 (some FieldType.int) rX4_erase FX4_erase := by
  refine Ct.of RX4 (by decide) rfl (fun X C hX => ?_)
  unfold jX4_erase
  refine Dn_ald_n (i := 0) (q := 1) C dX4_erase_0 rfl rfl ?_
  refine Dn_get (ci := 4) (j := 0) (T := TX4) (N := 17) (Cn := RX4) (q := 4) C rfl iX4 (by decide) q_248 dX4_erase_1 rfl ?_
  refine Dn_callV (ci := 3) (T := TX3) (N := 4) (q := 7) C rfl (kX3_clear X.l X.G X.tg) q_317 q_314 q_315 q_316 q_45 ⟨rfl, rfl⟩ (by decide +kernel) ⟨by decide, by decide⟩ dX4_erase_4 rfl ?_
  exact Dn_iret C hX dX4_erase_7
abbrev rX4_fault : Room := ({ frames := 8, cells := 0, slots := 0, locals := 175 } : Room)
def jX4_fault : mK := i_ald 0 (i_get 4 1 (i_ald 0 (i_get 4 0 (i_ald 0 (i_get 4 2 (i_ald 0 (i_get 4 4 (i_callV 2 3 FX2_readLines (i_iret)))))))))
def FX4_fault : mF := mEnt 1 jX4_fault
set_option maxRecDepth 20000 in
theorem kX4_fault (l : Launch) (G : va_G) (tg : Nat → ClassId) : Ct l G tg yX4_fault cX4_fault 1 (some FieldType.int) rX4_fault FX4_fault := by
  refine Ct.of RX4 (by decide) rfl (fun X C hX => ?_)
  unfold jX4_fault
  refine Dn_ald_n (i := 0) (q := 1) C dX4_fault_0 rfl rfl ?_
  refine Dn_get (ci := 4) (j := 1) (T := TX4) (N := 17) (Cn := RX4) (q := 4) C rfl iX4 (by decide) q_249 dX4_fault_1 rfl ?_
  refine Dn_ald_n (i := 0) (q := 5) C dX4_fault_4 rfl rfl ?_
  refine Dn_get (ci := 4) (j := 0) (T := TX4) (N := 17) (Cn := RX4) (q := 8) C rfl iX4 (by decide) q_248 dX4_fault_5 rfl ?_
  refine Dn_ald_n (i := 0) (q := 9) C dX4_fault_8 rfl rfl ?_
  refine Dn_get (ci := 4) (j := 2) (T := TX4) (N := 17) (Cn := RX4) (q := 12) C rfl iX4 (by decide) q_250 dX4_fault_9 rfl ?_
  refine Dn_ald_n (i := 0) (q := 13) C dX4_fault_12 rfl rfl ?_
  refine Dn_get (ci := 4) (j := 4) (T := TX4) (N := 17) (Cn := RX4) (q := 16) C rfl iX4 (by decide) q_252 dX4_fault_13 rfl ?_
  refine Dn_callV (ci := 2) (T := TX2) (N := 2) (q := 19) C rfl (kX2_readLines X.l X.G X.tg) q_325 q_322 q_323 q_324 q_46 ⟨rfl, rfl⟩ (by decide +kernel) ⟨by decide, by decide⟩ dX4_fault_16 rfl ?_
  exact Dn_iret C hX dX4_fault_19
abbrev rX4_startAnew : Room := ({ frames := 2, cells := 0, slots := 0, locals := 42 } : Room)
def jX4_startAnew_36 : mK := i_loop (fun B36 => i_ild 1 (i_push (.int 2) (i_icge (i_vret) (i_ald 0 (i_get 4 11 (i_ild 1 (i_push (.int (-1)) (i_iast (i_inc 1 1 (B36)))))))))) 1000
set_option maxRecDepth 20000 in
theorem JX4_startAnew_36 {X : mC} (C : Cx X rX4_startAnew cX4_startAnew 2 RX4 none) (hX : Rx X) : Den X rX4_startAnew 2 36 jX4_startAnew_36 := by
  unfold jX4_startAnew_36
  refine Dn_loop (fun B36 hB36 => ?_) 1000
  refine Dn_ild_n (i := 1) (q := 37) C dX4_startAnew_36 rfl rfl ?_
  refine Dn_iconst (v := 2) (q := 38) C dX4_startAnew_37 (by decide) rfl ?_
  refine Dn_icge (t := 54) (q := 41) C dX4_startAnew_38 (by decide) rfl ?_ ?_
  · exact Dn_vret C hX dX4_startAnew_54
  · refine Dn_ald_n (i := 0) (q := 42) C dX4_startAnew_41 rfl rfl ?_
    refine Dn_get (ci := 4) (j := 11) (T := TX4) (N := 17) (Cn := RX4) (q := 45) C rfl iX4 (by decide) q_259 dX4_startAnew_42 rfl ?_
    refine Dn_ild_n (i := 1) (q := 46) C dX4_startAnew_45 rfl rfl ?_
    refine Dn_iconst (v := (-1)) (q := 47) C dX4_startAnew_46 (by decide) rfl ?_
    refine Dn_iast (q := 48) C dX4_startAnew_47 rfl ?_
    refine Dn_inc (z := 1) (q := 51) C dX4_startAnew_48 (by decide) (by decide) rfl ?_
    refine Dn_goto (t := 36) C dX4_startAnew_51 (by decide) ?_
    exact hB36
def jX4_startAnew : mK := i_ald 0 (i_push (.int 0) (i_puti 4 8 (i_ald 0 (i_ald 0 (i_get 4 2 (i_callV 1 0 FX1_bandSets (i_push (.int 1) (i_ib (fun x y => x - y) (i_puti 4 6 (i_ald 0 (i_ald 0 (i_get 4 2 (i_callV 1 0 FX1_leastOfWalk (i_puti 4 7 (i_ald 0 (i_push (.int 0) (i_puti 4 15 (i_push (.int 0) (i_ist 1 (jX4_startAnew_36))))))))))))))))))))
def FX4_startAnew : mF := mEnt 2 jX4_startAnew
set_option maxRecDepth 20000 in
theorem kX4_startAnew (l : Launch) (G : va_G) (tg : Nat → ClassId) : Ct l G tg yX4_startAnew cX4_startAnew 2 none rX4_startAnew FX4_startAnew := by
  refine Ct.of RX4 (by decide) rfl (fun X C hX => ?_)
  unfold jX4_startAnew
  refine Dn_ald_n (i := 0) (q := 1) C dX4_startAnew_0 rfl rfl ?_
  refine Dn_iconst (v := 0) (q := 2) C dX4_startAnew_1 (by decide) rfl ?_
  refine Dn_puti (ci := 4) (j := 8) (T := TX4) (N := 17) (Cn := RX4) (q := 5) C rfl iX4 tyX4 tyX4_ok nmX4 (by decide) q_256 rfl (by decide +kernel) dX4_startAnew_2 rfl ?_
  refine Dn_ald_n (i := 0) (q := 6) C dX4_startAnew_5 rfl rfl ?_
  refine Dn_ald_n (i := 0) (q := 7) C dX4_startAnew_6 rfl rfl ?_
  refine Dn_get (ci := 4) (j := 2) (T := TX4) (N := 17) (Cn := RX4) (q := 10) C rfl iX4 (by decide) q_250 dX4_startAnew_7 rfl ?_
  refine Dn_callV (ci := 1) (T := TX1) (N := 9) (q := 13) C rfl (kX1_bandSets X.l X.G X.tg) q_238 q_235 q_236 q_237 q_47 ⟨rfl, rfl⟩ (by decide +kernel) ⟨by decide, by decide⟩ dX4_startAnew_10 rfl ?_
  refine Dn_iconst (v := 1) (q := 14) C dX4_startAnew_13 (by decide) rfl ?_
  refine Dn_isub (q := 15) C dX4_startAnew_14 rfl ?_
  refine Dn_puti (ci := 4) (j := 6) (T := TX4) (N := 17) (Cn := RX4) (q := 18) C rfl iX4 tyX4 tyX4_ok nmX4 (by decide) q_254 rfl (by decide +kernel) dX4_startAnew_15 rfl ?_
  refine Dn_ald_n (i := 0) (q := 19) C dX4_startAnew_18 rfl rfl ?_
  refine Dn_ald_n (i := 0) (q := 20) C dX4_startAnew_19 rfl rfl ?_
  refine Dn_get (ci := 4) (j := 2) (T := TX4) (N := 17) (Cn := RX4) (q := 23) C rfl iX4 (by decide) q_250 dX4_startAnew_20 rfl ?_
  refine Dn_callV (ci := 1) (T := TX1) (N := 9) (q := 26) C rfl (kX1_leastOfWalk X.l X.G X.tg) q_242 q_239 q_240 q_241 q_47 ⟨rfl, rfl⟩ (by decide +kernel) ⟨by decide, by decide⟩ dX4_startAnew_23 rfl ?_
  refine Dn_puti (ci := 4) (j := 7) (T := TX4) (N := 17) (Cn := RX4) (q := 29) C rfl iX4 tyX4 tyX4_ok nmX4 (by decide) q_255 rfl (by decide +kernel) dX4_startAnew_26 rfl ?_
  refine Dn_ald_n (i := 0) (q := 30) C dX4_startAnew_29 rfl rfl ?_
  refine Dn_iconst (v := 0) (q := 31) C dX4_startAnew_30 (by decide) rfl ?_
  refine Dn_puti (ci := 4) (j := 15) (T := TX4) (N := 17) (Cn := RX4) (q := 34) C rfl iX4 tyX4 tyX4_ok nmX4 (by decide) q_263 rfl (by decide +kernel) dX4_startAnew_31 rfl ?_
  refine Dn_iconst (v := 0) (q := 35) C dX4_startAnew_34 (by decide) rfl ?_
  refine Dn_ist_n (i := 1) (q := 36) C dX4_startAnew_35 rfl (by decide) rfl ?_
  exact JX4_startAnew_36 C hX
abbrev rX4_park : Room := ({ frames := 8, cells := 0, slots := 0, locals := 175 } : Room)
def jX4_park : mK := i_ald 0 (i_get 4 1 (i_ald 0 (i_get 4 0 (i_ald 0 (i_get 4 2 (i_ald 0 (i_get 4 4 (i_callV 2 3 FX2_readLines (i_push (.int (-1)) (i_iceq (i_ald 0 (i_get 4 2 (i_ald 0 (i_get 4 4 (i_callV 1 1 FX1_become (i_ald 0 (i_get 4 3 (i_ald 0 (i_get 4 2 (i_callV 0 1 FX0_listen (i_ald 0 (i_get 4 0 (i_callV 3 0 FX3_clear (i_pop (i_ald 0 (i_callV 4 0 FX4_startAnew (i_ald 0 (i_get 4 1 (i_get 2 0 (i_iret)))))))))))))))))))) (i_push (.int (-4)) (i_iret))))))))))))
def FX4_park : mF := mEnt 1 jX4_park
set_option maxRecDepth 20000 in
theorem kX4_park (l : Launch) (G : va_G) (tg : Nat → ClassId) : Ct l G tg yX4_park cX4_park 1 (some FieldType.int) rX4_park FX4_park := by
  refine Ct.of RX4 (by decide) rfl (fun X C hX => ?_)
  unfold jX4_park
  refine Dn_ald_n (i := 0) (q := 1) C dX4_park_0 rfl rfl ?_
  refine Dn_get (ci := 4) (j := 1) (T := TX4) (N := 17) (Cn := RX4) (q := 4) C rfl iX4 (by decide) q_249 dX4_park_1 rfl ?_
  refine Dn_ald_n (i := 0) (q := 5) C dX4_park_4 rfl rfl ?_
  refine Dn_get (ci := 4) (j := 0) (T := TX4) (N := 17) (Cn := RX4) (q := 8) C rfl iX4 (by decide) q_248 dX4_park_5 rfl ?_
  refine Dn_ald_n (i := 0) (q := 9) C dX4_park_8 rfl rfl ?_
  refine Dn_get (ci := 4) (j := 2) (T := TX4) (N := 17) (Cn := RX4) (q := 12) C rfl iX4 (by decide) q_250 dX4_park_9 rfl ?_
  refine Dn_ald_n (i := 0) (q := 13) C dX4_park_12 rfl rfl ?_
  refine Dn_get (ci := 4) (j := 4) (T := TX4) (N := 17) (Cn := RX4) (q := 16) C rfl iX4 (by decide) q_252 dX4_park_13 rfl ?_
  refine Dn_callV (ci := 2) (T := TX2) (N := 2) (q := 19) C rfl (kX2_readLines X.l X.G X.tg) q_325 q_322 q_323 q_324 q_46 ⟨rfl, rfl⟩ (by decide +kernel) ⟨by decide, by decide⟩ dX4_park_16 rfl ?_
  refine Dn_iconst (v := (-1)) (q := 20) C dX4_park_19 (by decide) rfl ?_
  refine Dn_iceq (t := 26) (q := 23) C dX4_park_20 (by decide) rfl ?_ ?_
  · refine Dn_ald_n (i := 0) (q := 27) C dX4_park_26 rfl rfl ?_
    refine Dn_get (ci := 4) (j := 2) (T := TX4) (N := 17) (Cn := RX4) (q := 30) C rfl iX4 (by decide) q_250 dX4_park_27 rfl ?_
    refine Dn_ald_n (i := 0) (q := 31) C dX4_park_30 rfl rfl ?_
    refine Dn_get (ci := 4) (j := 4) (T := TX4) (N := 17) (Cn := RX4) (q := 34) C rfl iX4 (by decide) q_252 dX4_park_31 rfl ?_
    refine Dn_callV (ci := 1) (T := TX1) (N := 9) (q := 37) C rfl (kX1_become X.l X.G X.tg) q_329 q_486 q_327 q_328 q_47 ⟨rfl, rfl⟩ (by decide +kernel) ⟨by decide, by decide⟩ dX4_park_34 rfl ?_
    refine Dn_ald_n (i := 0) (q := 38) C dX4_park_37 rfl rfl ?_
    refine Dn_get (ci := 4) (j := 3) (T := TX4) (N := 17) (Cn := RX4) (q := 41) C rfl iX4 (by decide) q_251 dX4_park_38 rfl ?_
    refine Dn_ald_n (i := 0) (q := 42) C dX4_park_41 rfl rfl ?_
    refine Dn_get (ci := 4) (j := 2) (T := TX4) (N := 17) (Cn := RX4) (q := 45) C rfl iX4 (by decide) q_250 dX4_park_42 rfl ?_
    refine Dn_callV (ci := 0) (T := TX0) (N := 5) (q := 48) C rfl (kX0_listen X.l X.G X.tg) q_174 q_171 q_172 q_173 q_48 ⟨rfl, rfl⟩ (by decide +kernel) ⟨by decide, by decide⟩ dX4_park_45 rfl ?_
    refine Dn_ald_n (i := 0) (q := 49) C dX4_park_48 rfl rfl ?_
    refine Dn_get (ci := 4) (j := 0) (T := TX4) (N := 17) (Cn := RX4) (q := 52) C rfl iX4 (by decide) q_248 dX4_park_49 rfl ?_
    refine Dn_callV (ci := 3) (T := TX3) (N := 4) (q := 55) C rfl (kX3_clear X.l X.G X.tg) q_317 q_314 q_315 q_316 q_45 ⟨rfl, rfl⟩ (by decide +kernel) ⟨by decide, by decide⟩ dX4_park_52 rfl ?_
    refine Dn_pop (q := 56) C dX4_park_55 rfl ?_
    refine Dn_ald_n (i := 0) (q := 57) C dX4_park_56 rfl rfl ?_
    refine Dn_callV (ci := 4) (T := TX4) (N := 17) (q := 60) C rfl (kX4_startAnew X.l X.G X.tg) q_234 q_231 q_233 q_1 q_44 ⟨rfl, rfl⟩ (by decide +kernel) ⟨by decide, by decide⟩ dX4_park_57 rfl ?_
    refine Dn_ald_n (i := 0) (q := 61) C dX4_park_60 rfl rfl ?_
    refine Dn_get (ci := 4) (j := 1) (T := TX4) (N := 17) (Cn := RX4) (q := 64) C rfl iX4 (by decide) q_249 dX4_park_61 rfl ?_
    refine Dn_get (ci := 2) (j := 0) (T := TX2) (N := 2) (Cn := RX2) (q := 67) C rfl iX2 (by decide) q_93 dX4_park_64 rfl ?_
    exact Dn_iret C hX dX4_park_67
  · refine Dn_bipush (v := (-4)) (q := 25) C dX4_park_23 (by decide) rfl ?_
    exact Dn_iret C hX dX4_park_25
abbrev rX4_bitOf : Room := ({ frames := 0, cells := 0, slots := 0, locals := 0 } : Room)
def jX4_bitOf_9 : mK := i_iret
set_option maxRecDepth 20000 in
theorem JX4_bitOf_9 {X : mC} (C : Cx X rX4_bitOf cX4_bitOf 1 RX4 (some FieldType.int)) (hX : Rx X) : Den X rX4_bitOf 1 9 jX4_bitOf_9 := by
  unfold jX4_bitOf_9
  exact Dn_iret C hX dX4_bitOf_9
def jX4_bitOf : mK := i_ild 0 (i_ifeq (i_push (.int 0) (jX4_bitOf_9)) (i_push (.int 1) (jX4_bitOf_9)))
def FX4_bitOf : mF := mEnt 1 jX4_bitOf
set_option maxRecDepth 20000 in
theorem kX4_bitOf (l : Launch) (G : va_G) (tg : Nat → ClassId) : Ct l G tg yX4_bitOf cX4_bitOf 1 (some FieldType.int) rX4_bitOf FX4_bitOf := by
  refine Ct.of RX4 (by decide) rfl (fun X C hX => ?_)
  unfold jX4_bitOf
  refine Dn_ild_n (i := 0) (q := 1) C dX4_bitOf_0 rfl rfl ?_
  refine Dn_ifeq (t := 8) (q := 4) C dX4_bitOf_1 (by decide) rfl ?_ ?_
  · refine Dn_iconst (v := 0) (q := 9) C dX4_bitOf_8 (by decide) rfl ?_
    exact JX4_bitOf_9 C hX
  · refine Dn_iconst (v := 1) (q := 5) C dX4_bitOf_4 (by decide) rfl ?_
    refine Dn_goto (t := 9) C dX4_bitOf_5 (by decide) ?_
    exact JX4_bitOf_9 C hX
abbrev rX4_place : Room := ({ frames := 3, cells := 0, slots := 0, locals := 66 } : Room)
def jX4_place : mK := i_ald 0 (i_get 4 2 (i_ild 1 (i_callV 1 1 FX1_hasPlace (i_ifne (i_ild 2 (i_sw 0 3 [i_ald 0 (i_get 4 2 (i_ild 1 (i_callV 1 1 FX1_isOfWalk (i_call 1 FX4_bitOf (i_iret))))), i_ald 0 (i_get 4 2 (i_ild 1 (i_callV 1 1 FX1_hasHedge (i_call 1 FX4_bitOf (i_iret))))), i_ald 0 (i_get 4 2 (i_ild 1 (i_callV 1 1 FX1_bandsAt (i_iret)))), i_ald 0 (i_get 4 3 (i_ild 1 (i_callV 0 1 FX0_fluteAt (i_iret))))] (i_push (.int (-3)) (i_iret)))) (i_push (.int (-2)) (i_iret))))))
def FX4_place : mF := mEnt 3 jX4_place
set_option maxRecDepth 20000 in
theorem kX4_place (l : Launch) (G : va_G) (tg : Nat → ClassId) : Ct l G tg yX4_place cX4_place 3 (some FieldType.int) rX4_place FX4_place := by
  refine Ct.of RX4 (by decide) rfl (fun X C hX => ?_)
  unfold jX4_place
  refine Dn_ald_n (i := 0) (q := 1) C dX4_place_0 rfl rfl ?_
  refine Dn_get (ci := 4) (j := 2) (T := TX4) (N := 17) (Cn := RX4) (q := 4) C rfl iX4 (by decide) q_250 dX4_place_1 rfl ?_
  refine Dn_ild_n (i := 1) (q := 5) C dX4_place_4 rfl rfl ?_
  refine Dn_callV (ci := 1) (T := TX1) (N := 9) (q := 8) C rfl (kX1_hasPlace X.l X.G X.tg) q_494 q_491 q_492 q_493 q_47 ⟨rfl, rfl⟩ (by decide +kernel) ⟨by decide, by decide⟩ dX4_place_5 rfl ?_
  refine Dn_ifne (t := 14) (q := 11) C dX4_place_8 (by decide) rfl ?_ ?_
  · refine Dn_ild_n (i := 2) (q := 15) C dX4_place_14 rfl rfl ?_
    refine Dn_sw (td := 86) (ts := [44, 56, 68, 77]) C dX4_place_15 (by decide) (by decide +kernel) rfl ?_ ?_
    · refine Dn_bipush (v := (-3)) (q := 88) C dX4_place_86 (by decide) rfl ?_
      exact Dn_iret C hX dX4_place_88
    · show DenL _ _ _ _ _
      refine DenL_cons ?_ ?_
      · refine Dn_ald_n (i := 0) (q := 45) C dX4_place_44 rfl rfl ?_
        refine Dn_get (ci := 4) (j := 2) (T := TX4) (N := 17) (Cn := RX4) (q := 48) C rfl iX4 (by decide) q_250 dX4_place_45 rfl ?_
        refine Dn_ild_n (i := 1) (q := 49) C dX4_place_48 rfl rfl ?_
        refine Dn_callV (ci := 1) (T := TX1) (N := 9) (q := 52) C rfl (kX1_isOfWalk X.l X.G X.tg) q_247 q_495 q_245 q_246 q_47 ⟨rfl, rfl⟩ (by decide +kernel) ⟨by decide, by decide⟩ dX4_place_49 rfl ?_
        refine Dn_callS (q := 55) C (kX4_bitOf X.l X.G X.tg) q_498 q_496 q_497 q_44 ⟨rfl, rfl⟩ (by decide +kernel) ⟨by decide, by decide⟩ dX4_place_52 rfl ?_
        exact Dn_iret C hX dX4_place_55
      refine DenL_cons ?_ ?_
      · refine Dn_ald_n (i := 0) (q := 57) C dX4_place_56 rfl rfl ?_
        refine Dn_get (ci := 4) (j := 2) (T := TX4) (N := 17) (Cn := RX4) (q := 60) C rfl iX4 (by decide) q_250 dX4_place_57 rfl ?_
        refine Dn_ild_n (i := 1) (q := 61) C dX4_place_60 rfl rfl ?_
        refine Dn_callV (ci := 1) (T := TX1) (N := 9) (q := 64) C rfl (kX1_hasHedge X.l X.G X.tg) q_226 q_499 q_224 q_225 q_47 ⟨rfl, rfl⟩ (by decide +kernel) ⟨by decide, by decide⟩ dX4_place_61 rfl ?_
        refine Dn_callS (q := 67) C (kX4_bitOf X.l X.G X.tg) q_498 q_496 q_497 q_44 ⟨rfl, rfl⟩ (by decide +kernel) ⟨by decide, by decide⟩ dX4_place_64 rfl ?_
        exact Dn_iret C hX dX4_place_67
      refine DenL_cons ?_ ?_
      · refine Dn_ald_n (i := 0) (q := 69) C dX4_place_68 rfl rfl ?_
        refine Dn_get (ci := 4) (j := 2) (T := TX4) (N := 17) (Cn := RX4) (q := 72) C rfl iX4 (by decide) q_250 dX4_place_69 rfl ?_
        refine Dn_ild_n (i := 1) (q := 73) C dX4_place_72 rfl rfl ?_
        refine Dn_callV (ci := 1) (T := TX1) (N := 9) (q := 76) C rfl (kX1_bandsAt X.l X.G X.tg) q_503 q_500 q_501 q_502 q_47 ⟨rfl, rfl⟩ (by decide +kernel) ⟨by decide, by decide⟩ dX4_place_73 rfl ?_
        exact Dn_iret C hX dX4_place_76
      refine DenL_cons ?_ ?_
      · refine Dn_ald_n (i := 0) (q := 78) C dX4_place_77 rfl rfl ?_
        refine Dn_get (ci := 4) (j := 3) (T := TX4) (N := 17) (Cn := RX4) (q := 81) C rfl iX4 (by decide) q_251 dX4_place_78 rfl ?_
        refine Dn_ild_n (i := 1) (q := 82) C dX4_place_81 rfl rfl ?_
        refine Dn_callV (ci := 0) (T := TX0) (N := 5) (q := 85) C rfl (kX0_fluteAt X.l X.G X.tg) q_507 q_504 q_505 q_506 q_48 ⟨rfl, rfl⟩ (by decide +kernel) ⟨by decide, by decide⟩ dX4_place_82 rfl ?_
        exact Dn_iret C hX dX4_place_85
      exact DenL_nil
  · refine Dn_bipush (v := (-2)) (q := 13) C dX4_place_11 (by decide) rfl ?_
    exact Dn_iret C hX dX4_place_13
abbrev rX4_band : Room := ({ frames := 2, cells := 0, slots := 0, locals := 43 } : Room)
def jX4_band_56 : mK := i_iret
set_option maxRecDepth 20000 in
theorem JX4_band_56 {X : mC} (C : Cx X rX4_band cX4_band 3 RX4 (some FieldType.int)) (hX : Rx X) : Den X rX4_band 3 56 jX4_band_56 := by
  unfold jX4_band_56
  exact Dn_iret C hX dX4_band_56
def jX4_band_24 : mK := i_push (.int (-3)) (i_iret)
set_option maxRecDepth 20000 in
theorem JX4_band_24 {X : mC} (C : Cx X rX4_band cX4_band 3 RX4 (some FieldType.int)) (hX : Rx X) : Den X rX4_band 3 24 jX4_band_24 := by
  unfold jX4_band_24
  refine Dn_bipush (v := (-3)) (q := 26) C dX4_band_24 (by decide) rfl ?_
  exact Dn_iret C hX dX4_band_26
def jX4_band : mK := i_ald 0 (i_get 4 2 (i_ild 1 (i_callV 1 1 FX1_hasBand (i_ifne (i_ild 2 (i_iflt (jX4_band_24) (i_ild 2 (i_push (.int 7) (i_icle (i_ild 2 (i_push (.int 7) (i_icne (i_ald 0 (i_get 4 2 (i_ild 1 (i_ild 2 (i_callV 1 2 FX1_trait (jX4_band_56)))))) (i_ild 1 (i_ald 0 (i_get 4 6 (i_call 2 FX4_isIn (i_call 1 FX4_bitOf (jX4_band_56))))))))) (jX4_band_24)))))) (i_push (.int (-2)) (i_iret))))))
def FX4_band : mF := mEnt 3 jX4_band
set_option maxRecDepth 20000 in
theorem kX4_band (l : Launch) (G : va_G) (tg : Nat → ClassId) : Ct l G tg yX4_band cX4_band 3 (some FieldType.int) rX4_band FX4_band := by
  refine Ct.of RX4 (by decide) rfl (fun X C hX => ?_)
  unfold jX4_band
  refine Dn_ald_n (i := 0) (q := 1) C dX4_band_0 rfl rfl ?_
  refine Dn_get (ci := 4) (j := 2) (T := TX4) (N := 17) (Cn := RX4) (q := 4) C rfl iX4 (by decide) q_250 dX4_band_1 rfl ?_
  refine Dn_ild_n (i := 1) (q := 5) C dX4_band_4 rfl rfl ?_
  refine Dn_callV (ci := 1) (T := TX1) (N := 9) (q := 8) C rfl (kX1_hasBand X.l X.G X.tg) q_515 q_512 q_513 q_514 q_47 ⟨rfl, rfl⟩ (by decide +kernel) ⟨by decide, by decide⟩ dX4_band_5 rfl ?_
  refine Dn_ifne (t := 14) (q := 11) C dX4_band_8 (by decide) rfl ?_ ?_
  · refine Dn_ild_n (i := 2) (q := 15) C dX4_band_14 rfl rfl ?_
    refine Dn_iflt (t := 24) (q := 18) C dX4_band_15 (by decide) rfl ?_ ?_
    · exact JX4_band_24 C hX
    · refine Dn_ild_n (i := 2) (q := 19) C dX4_band_18 rfl rfl ?_
      refine Dn_bipush (v := 7) (q := 21) C dX4_band_19 (by decide) rfl ?_
      refine Dn_icle (t := 27) (q := 24) C dX4_band_21 (by decide) rfl ?_ ?_
      · refine Dn_ild_n (i := 2) (q := 28) C dX4_band_27 rfl rfl ?_
        refine Dn_bipush (v := 7) (q := 30) C dX4_band_28 (by decide) rfl ?_
        refine Dn_icne (t := 47) (q := 33) C dX4_band_30 (by decide) rfl ?_ ?_
        · refine Dn_ald_n (i := 0) (q := 48) C dX4_band_47 rfl rfl ?_
          refine Dn_get (ci := 4) (j := 2) (T := TX4) (N := 17) (Cn := RX4) (q := 51) C rfl iX4 (by decide) q_250 dX4_band_48 rfl ?_
          refine Dn_ild_n (i := 1) (q := 52) C dX4_band_51 rfl rfl ?_
          refine Dn_ild_n (i := 2) (q := 53) C dX4_band_52 rfl rfl ?_
          refine Dn_callV (ci := 1) (T := TX1) (N := 9) (q := 56) C rfl (kX1_trait X.l X.G X.tg) q_215 q_519 q_213 q_214 q_47 ⟨rfl, rfl⟩ (by decide +kernel) ⟨by decide, by decide⟩ dX4_band_53 rfl ?_
          exact JX4_band_56 C hX
        · refine Dn_ild_n (i := 1) (q := 34) C dX4_band_33 rfl rfl ?_
          refine Dn_ald_n (i := 0) (q := 35) C dX4_band_34 rfl rfl ?_
          refine Dn_get (ci := 4) (j := 6) (T := TX4) (N := 17) (Cn := RX4) (q := 38) C rfl iX4 (by decide) q_254 dX4_band_35 rfl ?_
          refine Dn_callS (q := 41) C (kX4_isIn X.l X.G X.tg) q_518 q_516 q_517 q_44 ⟨rfl, rfl⟩ (by decide +kernel) ⟨by decide, by decide⟩ dX4_band_38 rfl ?_
          refine Dn_callS (q := 44) C (kX4_bitOf X.l X.G X.tg) q_498 q_496 q_497 q_44 ⟨rfl, rfl⟩ (by decide +kernel) ⟨by decide, by decide⟩ dX4_band_41 rfl ?_
          refine Dn_goto (t := 56) C dX4_band_44 (by decide) ?_
          exact JX4_band_56 C hX
      · exact JX4_band_24 C hX
  · refine Dn_bipush (v := (-2)) (q := 13) C dX4_band_11 (by decide) rfl ?_
    exact Dn_iret C hX dX4_band_13
abbrev rX4_as : Room := ({ frames := 3, cells := 0, slots := 0, locals := 68 } : Room)
def jX4_as_23 : mK := i_push (.int (-3)) (i_iret)
set_option maxRecDepth 20000 in
theorem JX4_as_23 {X : mC} (C : Cx X rX4_as cX4_as 3 RX4 (some FieldType.int)) (hX : Rx X) : Den X rX4_as 3 23 jX4_as_23 := by
  unfold jX4_as_23
  refine Dn_bipush (v := (-3)) (q := 25) C dX4_as_23 (by decide) rfl ?_
  exact Dn_iret C hX dX4_as_25
def jX4_as : mK := i_ald 0 (i_get 4 2 (i_ild 1 (i_callV 1 1 FX1_hasBand (i_ifne (i_ild 2 (i_iflt (jX4_as_23) (i_ild 2 (i_push (.int 4) (i_icle (i_ald 0 (i_get 4 2 (i_ild 1 (i_ild 2 (i_callV 1 2 FX1_isOfKind (i_ifne (i_ald 0 (i_get 4 3 (i_push (.int 1) (i_ild 1 (i_ib (fun x y => x <<< (y &&& 31)) (i_ald 0 (i_get 4 2 (i_ild 1 (i_push (.int 1) (i_callV 1 2 FX1_trait (i_ald 0 (i_get 4 8 (i_callV 0 3 FX0_noiseOf (i_iret)))))))))))))) (i_push (.int (-4)) (i_iret)))))))) (jX4_as_23)))))) (i_push (.int (-2)) (i_iret))))))
def FX4_as : mF := mEnt 3 jX4_as
set_option maxRecDepth 20000 in
theorem kX4_as (l : Launch) (G : va_G) (tg : Nat → ClassId) : Ct l G tg yX4_as cX4_as 3 (some FieldType.int) rX4_as FX4_as := by
  refine Ct.of RX4 (by decide) rfl (fun X C hX => ?_)
  unfold jX4_as
  refine Dn_ald_n (i := 0) (q := 1) C dX4_as_0 rfl rfl ?_
  refine Dn_get (ci := 4) (j := 2) (T := TX4) (N := 17) (Cn := RX4) (q := 4) C rfl iX4 (by decide) q_250 dX4_as_1 rfl ?_
  refine Dn_ild_n (i := 1) (q := 5) C dX4_as_4 rfl rfl ?_
  refine Dn_callV (ci := 1) (T := TX1) (N := 9) (q := 8) C rfl (kX1_hasBand X.l X.G X.tg) q_515 q_512 q_513 q_514 q_47 ⟨rfl, rfl⟩ (by decide +kernel) ⟨by decide, by decide⟩ dX4_as_5 rfl ?_
  refine Dn_ifne (t := 14) (q := 11) C dX4_as_8 (by decide) rfl ?_ ?_
  · refine Dn_ild_n (i := 2) (q := 15) C dX4_as_14 rfl rfl ?_
    refine Dn_iflt (t := 23) (q := 18) C dX4_as_15 (by decide) rfl ?_ ?_
    · exact JX4_as_23 C hX
    · refine Dn_ild_n (i := 2) (q := 19) C dX4_as_18 rfl rfl ?_
      refine Dn_iconst (v := 4) (q := 20) C dX4_as_19 (by decide) rfl ?_
      refine Dn_icle (t := 26) (q := 23) C dX4_as_20 (by decide) rfl ?_ ?_
      · refine Dn_ald_n (i := 0) (q := 27) C dX4_as_26 rfl rfl ?_
        refine Dn_get (ci := 4) (j := 2) (T := TX4) (N := 17) (Cn := RX4) (q := 30) C rfl iX4 (by decide) q_250 dX4_as_27 rfl ?_
        refine Dn_ild_n (i := 1) (q := 31) C dX4_as_30 rfl rfl ?_
        refine Dn_ild_n (i := 2) (q := 32) C dX4_as_31 rfl rfl ?_
        refine Dn_callV (ci := 1) (T := TX1) (N := 9) (q := 35) C rfl (kX1_isOfKind X.l X.G X.tg) q_527 q_524 q_525 q_526 q_47 ⟨rfl, rfl⟩ (by decide +kernel) ⟨by decide, by decide⟩ dX4_as_32 rfl ?_
        refine Dn_ifne (t := 41) (q := 38) C dX4_as_35 (by decide) rfl ?_ ?_
        · refine Dn_ald_n (i := 0) (q := 42) C dX4_as_41 rfl rfl ?_
          refine Dn_get (ci := 4) (j := 3) (T := TX4) (N := 17) (Cn := RX4) (q := 45) C rfl iX4 (by decide) q_251 dX4_as_42 rfl ?_
          refine Dn_iconst (v := 1) (q := 46) C dX4_as_45 (by decide) rfl ?_
          refine Dn_ild_n (i := 1) (q := 47) C dX4_as_46 rfl rfl ?_
          refine Dn_ishl (q := 48) C dX4_as_47 rfl ?_
          refine Dn_ald_n (i := 0) (q := 49) C dX4_as_48 rfl rfl ?_
          refine Dn_get (ci := 4) (j := 2) (T := TX4) (N := 17) (Cn := RX4) (q := 52) C rfl iX4 (by decide) q_250 dX4_as_49 rfl ?_
          refine Dn_ild_n (i := 1) (q := 53) C dX4_as_52 rfl rfl ?_
          refine Dn_iconst (v := 1) (q := 54) C dX4_as_53 (by decide) rfl ?_
          refine Dn_callV (ci := 1) (T := TX1) (N := 9) (q := 57) C rfl (kX1_trait X.l X.G X.tg) q_215 q_519 q_213 q_214 q_47 ⟨rfl, rfl⟩ (by decide +kernel) ⟨by decide, by decide⟩ dX4_as_54 rfl ?_
          refine Dn_ald_n (i := 0) (q := 58) C dX4_as_57 rfl rfl ?_
          refine Dn_get (ci := 4) (j := 8) (T := TX4) (N := 17) (Cn := RX4) (q := 61) C rfl iX4 (by decide) q_256 dX4_as_58 rfl ?_
          refine Dn_callV (ci := 0) (T := TX0) (N := 5) (q := 64) C rfl (kX0_noiseOf X.l X.G X.tg) q_531 q_528 q_529 q_530 q_48 ⟨rfl, rfl⟩ (by decide +kernel) ⟨by decide, by decide⟩ dX4_as_61 rfl ?_
          exact Dn_iret C hX dX4_as_64
        · refine Dn_bipush (v := (-4)) (q := 40) C dX4_as_38 (by decide) rfl ?_
          exact Dn_iret C hX dX4_as_40
      · exact JX4_as_23 C hX
  · refine Dn_bipush (v := (-2)) (q := 13) C dX4_as_11 (by decide) rfl ?_
    exact Dn_iret C hX dX4_as_13
abbrev rX4_isBit : Room := ({ frames := 0, cells := 0, slots := 0, locals := 0 } : Room)
def jX4_isBit_14 : mK := i_nret .boolean
set_option maxRecDepth 20000 in
theorem JX4_isBit_14 {X : mC} (C : Cx X rX4_isBit cX4_isBit 1 RX4 (some FieldType.boolean)) (hX : Rx X) : Den X rX4_isBit 1 14 jX4_isBit_14 := by
  unfold jX4_isBit_14
  exact Dn_nret C hX dX4_isBit_14
def jX4_isBit_9 : mK := i_push (.int 1) (jX4_isBit_14)
set_option maxRecDepth 20000 in
theorem JX4_isBit_9 {X : mC} (C : Cx X rX4_isBit cX4_isBit 1 RX4 (some FieldType.boolean)) (hX : Rx X) : Den X rX4_isBit 1 9 jX4_isBit_9 := by
  unfold jX4_isBit_9
  refine Dn_iconst (v := 1) (q := 10) C dX4_isBit_9 (by decide) rfl ?_
  refine Dn_goto (t := 14) C dX4_isBit_10 (by decide) ?_
  exact JX4_isBit_14 C hX
def jX4_isBit : mK := i_ild 0 (i_ifeq (jX4_isBit_9) (i_ild 0 (i_push (.int 1) (i_icne (i_push (.int 0) (jX4_isBit_14)) (jX4_isBit_9)))))
def FX4_isBit : mF := mEnt 1 jX4_isBit
set_option maxRecDepth 20000 in
theorem kX4_isBit (l : Launch) (G : va_G) (tg : Nat → ClassId) : Ct l G tg yX4_isBit cX4_isBit 1 (some FieldType.boolean) rX4_isBit FX4_isBit := by
  refine Ct.of RX4 (by decide) rfl (fun X C hX => ?_)
  unfold jX4_isBit
  refine Dn_ild_n (i := 0) (q := 1) C dX4_isBit_0 rfl rfl ?_
  refine Dn_ifeq (t := 9) (q := 4) C dX4_isBit_1 (by decide) rfl ?_ ?_
  · exact JX4_isBit_9 C hX
  · refine Dn_ild_n (i := 0) (q := 5) C dX4_isBit_4 rfl rfl ?_
    refine Dn_iconst (v := 1) (q := 6) C dX4_isBit_5 (by decide) rfl ?_
    refine Dn_icne (t := 13) (q := 9) C dX4_isBit_6 (by decide) rfl ?_ ?_
    · refine Dn_iconst (v := 0) (q := 14) C dX4_isBit_13 (by decide) rfl ?_
      exact JX4_isBit_14 C hX
    · exact JX4_isBit_9 C hX
abbrev rX4_licence : Room := ({ frames := 1, cells := 0, slots := 0, locals := 21 } : Room)
def jX4_licence_63 : mK := i_puti 4 6 (i_ild 3 (i_iret))
set_option maxRecDepth 20000 in
theorem JX4_licence_63 {X : mC} (C : Cx X rX4_licence cX4_licence 4 RX4 (some FieldType.int)) (hX : Rx X) : Den X rX4_licence 4 63 jX4_licence_63 := by
  unfold jX4_licence_63
  refine Dn_puti (ci := 4) (j := 6) (T := TX4) (N := 17) (Cn := RX4) (q := 66) C rfl iX4 tyX4 tyX4_ok nmX4 (by decide) q_254 rfl (by decide +kernel) dX4_licence_63 rfl ?_
  refine Dn_ild_n (i := 3) (q := 67) C dX4_licence_66 rfl rfl ?_
  exact Dn_iret C hX dX4_licence_67
def jX4_licence : mK := i_ald 0 (i_get 4 2 (i_ild 1 (i_callV 1 1 FX1_hasBand (i_ifne (i_ild 2 (i_call 1 FX4_isBit (i_ifne (i_ild 1 (i_ald 0 (i_get 4 6 (i_call 2 FX4_isIn (i_call 1 FX4_bitOf (i_ist 3 (i_ald 0 (i_ild 2 (i_push (.int 1) (i_icne (i_ald 0 (i_get 4 6 (i_push (.int 1) (i_ild 1 (i_ib (fun x y => x <<< (y &&& 31)) (i_push (.int (-1)) (i_ib (fun x y => x ^^^ y) (i_ib (fun x y => x &&& y) (jX4_licence_63))))))))) (i_ald 0 (i_get 4 6 (i_push (.int 1) (i_ild 1 (i_ib (fun x y => x <<< (y &&& 31)) (i_ib (fun x y => x ||| y) (jX4_licence_63))))))))))))))))) (i_push (.int (-3)) (i_iret))))) (i_push (.int (-2)) (i_iret))))))
def FX4_licence : mF := mEnt 4 jX4_licence
set_option maxRecDepth 20000 in
theorem kX4_licence (l : Launch) (G : va_G) (tg : Nat → ClassId) : Ct l G tg yX4_licence cX4_licence 4 (some FieldType.int) rX4_licence FX4_licence := by
  refine Ct.of RX4 (by decide) rfl (fun X C hX => ?_)
  unfold jX4_licence
  refine Dn_ald_n (i := 0) (q := 1) C dX4_licence_0 rfl rfl ?_
  refine Dn_get (ci := 4) (j := 2) (T := TX4) (N := 17) (Cn := RX4) (q := 4) C rfl iX4 (by decide) q_250 dX4_licence_1 rfl ?_
  refine Dn_ild_n (i := 1) (q := 5) C dX4_licence_4 rfl rfl ?_
  refine Dn_callV (ci := 1) (T := TX1) (N := 9) (q := 8) C rfl (kX1_hasBand X.l X.G X.tg) q_515 q_512 q_513 q_514 q_47 ⟨rfl, rfl⟩ (by decide +kernel) ⟨by decide, by decide⟩ dX4_licence_5 rfl ?_
  refine Dn_ifne (t := 14) (q := 11) C dX4_licence_8 (by decide) rfl ?_ ?_
  · refine Dn_ild_n (i := 2) (q := 15) C dX4_licence_14 rfl rfl ?_
    refine Dn_callS (q := 18) C (kX4_isBit X.l X.G X.tg) q_546 q_544 q_545 q_44 ⟨rfl, rfl⟩ (by decide +kernel) ⟨by decide, by decide⟩ dX4_licence_15 rfl ?_
    refine Dn_ifne (t := 24) (q := 21) C dX4_licence_18 (by decide) rfl ?_ ?_
    · refine Dn_ild_n (i := 1) (q := 25) C dX4_licence_24 rfl rfl ?_
      refine Dn_ald_n (i := 0) (q := 26) C dX4_licence_25 rfl rfl ?_
      refine Dn_get (ci := 4) (j := 6) (T := TX4) (N := 17) (Cn := RX4) (q := 29) C rfl iX4 (by decide) q_254 dX4_licence_26 rfl ?_
      refine Dn_callS (q := 32) C (kX4_isIn X.l X.G X.tg) q_518 q_516 q_517 q_44 ⟨rfl, rfl⟩ (by decide +kernel) ⟨by decide, by decide⟩ dX4_licence_29 rfl ?_
      refine Dn_callS (q := 35) C (kX4_bitOf X.l X.G X.tg) q_498 q_496 q_497 q_44 ⟨rfl, rfl⟩ (by decide +kernel) ⟨by decide, by decide⟩ dX4_licence_32 rfl ?_
      refine Dn_ist_n (i := 3) (q := 36) C dX4_licence_35 rfl (by decide) rfl ?_
      refine Dn_ald_n (i := 0) (q := 37) C dX4_licence_36 rfl rfl ?_
      refine Dn_ild_n (i := 2) (q := 38) C dX4_licence_37 rfl rfl ?_
      refine Dn_iconst (v := 1) (q := 39) C dX4_licence_38 (by decide) rfl ?_
      refine Dn_icne (t := 53) (q := 42) C dX4_licence_39 (by decide) rfl ?_ ?_
      · refine Dn_ald_n (i := 0) (q := 54) C dX4_licence_53 rfl rfl ?_
        refine Dn_get (ci := 4) (j := 6) (T := TX4) (N := 17) (Cn := RX4) (q := 57) C rfl iX4 (by decide) q_254 dX4_licence_54 rfl ?_
        refine Dn_iconst (v := 1) (q := 58) C dX4_licence_57 (by decide) rfl ?_
        refine Dn_ild_n (i := 1) (q := 59) C dX4_licence_58 rfl rfl ?_
        refine Dn_ishl (q := 60) C dX4_licence_59 rfl ?_
        refine Dn_iconst (v := (-1)) (q := 61) C dX4_licence_60 (by decide) rfl ?_
        refine Dn_ixor (q := 62) C dX4_licence_61 rfl ?_
        refine Dn_iand (q := 63) C dX4_licence_62 rfl ?_
        exact JX4_licence_63 C hX
      · refine Dn_ald_n (i := 0) (q := 43) C dX4_licence_42 rfl rfl ?_
        refine Dn_get (ci := 4) (j := 6) (T := TX4) (N := 17) (Cn := RX4) (q := 46) C rfl iX4 (by decide) q_254 dX4_licence_43 rfl ?_
        refine Dn_iconst (v := 1) (q := 47) C dX4_licence_46 (by decide) rfl ?_
        refine Dn_ild_n (i := 1) (q := 48) C dX4_licence_47 rfl rfl ?_
        refine Dn_ishl (q := 49) C dX4_licence_48 rfl ?_
        refine Dn_ior (q := 50) C dX4_licence_49 rfl ?_
        refine Dn_goto (t := 63) C dX4_licence_50 (by decide) ?_
        exact JX4_licence_63 C hX
    · refine Dn_bipush (v := (-3)) (q := 23) C dX4_licence_21 (by decide) rfl ?_
      exact Dn_iret C hX dX4_licence_23
  · refine Dn_bipush (v := (-2)) (q := 13) C dX4_licence_11 (by decide) rfl ?_
    exact Dn_iret C hX dX4_licence_13
abbrev rX4_sound : Room := ({ frames := 3, cells := 0, slots := 0, locals := 68 } : Room)
def jX4_sound_22 : mK := i_push (.int (-2)) (i_iret)
set_option maxRecDepth 20000 in
theorem JX4_sound_22 {X : mC} (C : Cx X rX4_sound cX4_sound 4 RX4 (some FieldType.int)) (hX : Rx X) : Den X rX4_sound 4 22 jX4_sound_22 := by
  unfold jX4_sound_22
  refine Dn_bipush (v := (-2)) (q := 24) C dX4_sound_22 (by decide) rfl ?_
  exact Dn_iret C hX dX4_sound_24
def jX4_sound : mK := i_ald 0 (i_get 4 2 (i_ild 1 (i_callV 1 1 FX1_hasBand (i_ifeq (jX4_sound_22) (i_ald 0 (i_get 4 2 (i_ild 2 (i_callV 1 1 FX1_hasPlace (i_ifne (i_ild 3 (i_call 1 FX4_isHour (i_ifne (i_ald 0 (i_get 4 3 (i_push (.int 1) (i_ild 1 (i_ib (fun x y => x <<< (y &&& 31)) (i_ild 2 (i_ild 3 (i_callV 0 3 FX0_noiseOf (i_iret))))))))) (i_push (.int (-3)) (i_iret))))) (jX4_sound_22))))))))))
def FX4_sound : mF := mEnt 4 jX4_sound
set_option maxRecDepth 20000 in
theorem kX4_sound (l : Launch) (G : va_G) (tg : Nat → ClassId) : Ct l G tg yX4_sound cX4_sound 4 (some FieldType.int) rX4_sound FX4_sound := by
  refine Ct.of RX4 (by decide) rfl (fun X C hX => ?_)
  unfold jX4_sound
  refine Dn_ald_n (i := 0) (q := 1) C dX4_sound_0 rfl rfl ?_
  refine Dn_get (ci := 4) (j := 2) (T := TX4) (N := 17) (Cn := RX4) (q := 4) C rfl iX4 (by decide) q_250 dX4_sound_1 rfl ?_
  refine Dn_ild_n (i := 1) (q := 5) C dX4_sound_4 rfl rfl ?_
  refine Dn_callV (ci := 1) (T := TX1) (N := 9) (q := 8) C rfl (kX1_hasBand X.l X.G X.tg) q_515 q_512 q_513 q_514 q_47 ⟨rfl, rfl⟩ (by decide +kernel) ⟨by decide, by decide⟩ dX4_sound_5 rfl ?_
  refine Dn_ifeq (t := 22) (q := 11) C dX4_sound_8 (by decide) rfl ?_ ?_
  · exact JX4_sound_22 C hX
  · refine Dn_ald_n (i := 0) (q := 12) C dX4_sound_11 rfl rfl ?_
    refine Dn_get (ci := 4) (j := 2) (T := TX4) (N := 17) (Cn := RX4) (q := 15) C rfl iX4 (by decide) q_250 dX4_sound_12 rfl ?_
    refine Dn_ild_n (i := 2) (q := 16) C dX4_sound_15 rfl rfl ?_
    refine Dn_callV (ci := 1) (T := TX1) (N := 9) (q := 19) C rfl (kX1_hasPlace X.l X.G X.tg) q_494 q_491 q_492 q_493 q_47 ⟨rfl, rfl⟩ (by decide +kernel) ⟨by decide, by decide⟩ dX4_sound_16 rfl ?_
    refine Dn_ifne (t := 25) (q := 22) C dX4_sound_19 (by decide) rfl ?_ ?_
    · refine Dn_ild_n (i := 3) (q := 26) C dX4_sound_25 rfl rfl ?_
      refine Dn_callS (q := 29) C (kX4_isHour X.l X.G X.tg) q_534 q_551 q_533 q_44 ⟨rfl, rfl⟩ (by decide +kernel) ⟨by decide, by decide⟩ dX4_sound_26 rfl ?_
      refine Dn_ifne (t := 35) (q := 32) C dX4_sound_29 (by decide) rfl ?_ ?_
      · refine Dn_ald_n (i := 0) (q := 36) C dX4_sound_35 rfl rfl ?_
        refine Dn_get (ci := 4) (j := 3) (T := TX4) (N := 17) (Cn := RX4) (q := 39) C rfl iX4 (by decide) q_251 dX4_sound_36 rfl ?_
        refine Dn_iconst (v := 1) (q := 40) C dX4_sound_39 (by decide) rfl ?_
        refine Dn_ild_n (i := 1) (q := 41) C dX4_sound_40 rfl rfl ?_
        refine Dn_ishl (q := 42) C dX4_sound_41 rfl ?_
        refine Dn_ild_n (i := 2) (q := 43) C dX4_sound_42 rfl rfl ?_
        refine Dn_ild_n (i := 3) (q := 44) C dX4_sound_43 rfl rfl ?_
        refine Dn_callV (ci := 0) (T := TX0) (N := 5) (q := 47) C rfl (kX0_noiseOf X.l X.G X.tg) q_531 q_528 q_529 q_530 q_48 ⟨rfl, rfl⟩ (by decide +kernel) ⟨by decide, by decide⟩ dX4_sound_44 rfl ?_
        exact Dn_iret C hX dX4_sound_47
      · refine Dn_bipush (v := (-3)) (q := 34) C dX4_sound_32 (by decide) rfl ?_
        exact Dn_iret C hX dX4_sound_34
    · exact JX4_sound_22 C hX
abbrev rX4_noise : Room := ({ frames := 3, cells := 0, slots := 0, locals := 68 } : Room)
def jX4_noise : mK := i_ald 0 (i_get 4 2 (i_ild 1 (i_callV 1 1 FX1_hasPlace (i_ifne (i_ild 2 (i_call 1 FX4_isHour (i_ifne (i_ald 0 (i_get 4 3 (i_ald 0 (i_get 4 6 (i_ild 1 (i_ild 2 (i_callV 0 3 FX0_noiseOf (i_iret)))))))) (i_push (.int (-3)) (i_iret))))) (i_push (.int (-2)) (i_iret))))))
def FX4_noise : mF := mEnt 3 jX4_noise
set_option maxRecDepth 20000 in
theorem kX4_noise (l : Launch) (G : va_G) (tg : Nat → ClassId) : Ct l G tg yX4_noise cX4_noise 3 (some FieldType.int) rX4_noise FX4_noise := by
  refine Ct.of RX4 (by decide) rfl (fun X C hX => ?_)
  unfold jX4_noise
  refine Dn_ald_n (i := 0) (q := 1) C dX4_noise_0 rfl rfl ?_
  refine Dn_get (ci := 4) (j := 2) (T := TX4) (N := 17) (Cn := RX4) (q := 4) C rfl iX4 (by decide) q_250 dX4_noise_1 rfl ?_
  refine Dn_ild_n (i := 1) (q := 5) C dX4_noise_4 rfl rfl ?_
  refine Dn_callV (ci := 1) (T := TX1) (N := 9) (q := 8) C rfl (kX1_hasPlace X.l X.G X.tg) q_494 q_491 q_492 q_493 q_47 ⟨rfl, rfl⟩ (by decide +kernel) ⟨by decide, by decide⟩ dX4_noise_5 rfl ?_
  refine Dn_ifne (t := 14) (q := 11) C dX4_noise_8 (by decide) rfl ?_ ?_
  · refine Dn_ild_n (i := 2) (q := 15) C dX4_noise_14 rfl rfl ?_
    refine Dn_callS (q := 18) C (kX4_isHour X.l X.G X.tg) q_534 q_551 q_533 q_44 ⟨rfl, rfl⟩ (by decide +kernel) ⟨by decide, by decide⟩ dX4_noise_15 rfl ?_
    refine Dn_ifne (t := 24) (q := 21) C dX4_noise_18 (by decide) rfl ?_ ?_
    · refine Dn_ald_n (i := 0) (q := 25) C dX4_noise_24 rfl rfl ?_
      refine Dn_get (ci := 4) (j := 3) (T := TX4) (N := 17) (Cn := RX4) (q := 28) C rfl iX4 (by decide) q_251 dX4_noise_25 rfl ?_
      refine Dn_ald_n (i := 0) (q := 29) C dX4_noise_28 rfl rfl ?_
      refine Dn_get (ci := 4) (j := 6) (T := TX4) (N := 17) (Cn := RX4) (q := 32) C rfl iX4 (by decide) q_254 dX4_noise_29 rfl ?_
      refine Dn_ild_n (i := 1) (q := 33) C dX4_noise_32 rfl rfl ?_
      refine Dn_ild_n (i := 2) (q := 34) C dX4_noise_33 rfl rfl ?_
      refine Dn_callV (ci := 0) (T := TX0) (N := 5) (q := 37) C rfl (kX0_noiseOf X.l X.G X.tg) q_531 q_528 q_529 q_530 q_48 ⟨rfl, rfl⟩ (by decide +kernel) ⟨by decide, by decide⟩ dX4_noise_34 rfl ?_
      exact Dn_iret C hX dX4_noise_37
    · refine Dn_bipush (v := (-3)) (q := 23) C dX4_noise_21 (by decide) rfl ?_
      exact Dn_iret C hX dX4_noise_23
  · refine Dn_bipush (v := (-2)) (q := 13) C dX4_noise_11 (by decide) rfl ?_
    exact Dn_iret C hX dX4_noise_13
abbrev rX4_hourBehind : Room := ({ frames := 0, cells := 0, slots := 0, locals := 0 } : Room)
def jX4_hourBehind_15 : mK := i_iret
set_option maxRecDepth 20000 in
theorem JX4_hourBehind_15 {X : mC} (C : Cx X rX4_hourBehind cX4_hourBehind 1 RX4 (some FieldType.int)) (hX : Rx X) : Den X rX4_hourBehind 1 15 jX4_hourBehind_15 := by
  unfold jX4_hourBehind_15
  exact Dn_iret C hX dX4_hourBehind_15
def jX4_hourBehind : mK := i_ild 0 (i_push (.int 1) (i_ib (fun x y => x + y) (i_push (.int 12) (i_icge (i_push (.int 0) (jX4_hourBehind_15)) (i_ild 0 (i_push (.int 1) (i_ib (fun x y => x + y) (jX4_hourBehind_15))))))))
def FX4_hourBehind : mF := mEnt 1 jX4_hourBehind
set_option maxRecDepth 20000 in
theorem kX4_hourBehind (l : Launch) (G : va_G) (tg : Nat → ClassId) : Ct l G tg yX4_hourBehind cX4_hourBehind 1 (some FieldType.int) rX4_hourBehind FX4_hourBehind := by
  refine Ct.of RX4 (by decide) rfl (fun X C hX => ?_)
  unfold jX4_hourBehind
  refine Dn_ild_n (i := 0) (q := 1) C dX4_hourBehind_0 rfl rfl ?_
  refine Dn_iconst (v := 1) (q := 2) C dX4_hourBehind_1 (by decide) rfl ?_
  refine Dn_iadd (q := 3) C dX4_hourBehind_2 rfl ?_
  refine Dn_bipush (v := 12) (q := 5) C dX4_hourBehind_3 (by decide) rfl ?_
  refine Dn_icge (t := 14) (q := 8) C dX4_hourBehind_5 (by decide) rfl ?_ ?_
  · refine Dn_iconst (v := 0) (q := 15) C dX4_hourBehind_14 (by decide) rfl ?_
    exact JX4_hourBehind_15 C hX
  · refine Dn_ild_n (i := 0) (q := 9) C dX4_hourBehind_8 rfl rfl ?_
    refine Dn_iconst (v := 1) (q := 10) C dX4_hourBehind_9 (by decide) rfl ?_
    refine Dn_iadd (q := 11) C dX4_hourBehind_10 rfl ?_
    refine Dn_goto (t := 15) C dX4_hourBehind_11 (by decide) ?_
    exact JX4_hourBehind_15 C hX
abbrev rX4_step : Room := ({ frames := 4, cells := 0, slots := 0, locals := 91 } : Room)
def jX4_step_49 : mK := i_push (.int (-4)) (i_iret)
set_option maxRecDepth 20000 in
theorem JX4_step_49 {X : mC} (C : Cx X rX4_step cX4_step 2 RX4 (some FieldType.int)) (hX : Rx X) : Den X rX4_step 2 49 jX4_step_49 := by
  unfold jX4_step_49
  refine Dn_bipush (v := (-4)) (q := 51) C dX4_step_49 (by decide) rfl ?_
  exact Dn_iret C hX dX4_step_51
def jX4_step : mK := i_ald 0 (i_get 4 2 (i_ild 1 (i_callV 1 1 FX1_hasPlace (i_ifne (i_ald 0 (i_get 4 7 (i_push (.int (-1)) (i_iceq (jX4_step_49) (i_ald 0 (i_get 4 2 (i_ald 0 (i_get 4 7 (i_ild 1 (i_callV 1 2 FX1_far (i_push (.int 1) (i_icgt (jX4_step_49) (i_ald 0 (i_get 4 2 (i_ild 1 (i_callV 1 1 FX1_isOfWalk (i_ifne (i_ald 0 (i_ild 1 (i_puti 4 7 (i_ald 0 (i_ald 0 (i_get 4 8 (i_call 1 FX4_hourBehind (i_puti 4 8 (i_ald 0 (i_get 4 3 (i_ald 0 (i_get 4 6 (i_ald 0 (i_get 4 7 (i_ald 0 (i_get 4 8 (i_callV 0 3 FX0_isHeard (i_call 1 FX4_bitOf (i_iret))))))))))))))))))) (jX4_step_49)))))))))))))))))) (i_push (.int (-2)) (i_iret))))))
def FX4_step : mF := mEnt 2 jX4_step
set_option maxRecDepth 20000 in
theorem kX4_step (l : Launch) (G : va_G) (tg : Nat → ClassId) : Ct l G tg yX4_step cX4_step 2 (some FieldType.int) rX4_step FX4_step := by
  refine Ct.of RX4 (by decide) rfl (fun X C hX => ?_)
  unfold jX4_step
  refine Dn_ald_n (i := 0) (q := 1) C dX4_step_0 rfl rfl ?_
  refine Dn_get (ci := 4) (j := 2) (T := TX4) (N := 17) (Cn := RX4) (q := 4) C rfl iX4 (by decide) q_250 dX4_step_1 rfl ?_
  refine Dn_ild_n (i := 1) (q := 5) C dX4_step_4 rfl rfl ?_
  refine Dn_callV (ci := 1) (T := TX1) (N := 9) (q := 8) C rfl (kX1_hasPlace X.l X.G X.tg) q_494 q_491 q_492 q_493 q_47 ⟨rfl, rfl⟩ (by decide +kernel) ⟨by decide, by decide⟩ dX4_step_5 rfl ?_
  refine Dn_ifne (t := 14) (q := 11) C dX4_step_8 (by decide) rfl ?_ ?_
  · refine Dn_ald_n (i := 0) (q := 15) C dX4_step_14 rfl rfl ?_
    refine Dn_get (ci := 4) (j := 7) (T := TX4) (N := 17) (Cn := RX4) (q := 18) C rfl iX4 (by decide) q_255 dX4_step_15 rfl ?_
    refine Dn_iconst (v := (-1)) (q := 19) C dX4_step_18 (by decide) rfl ?_
    refine Dn_iceq (t := 49) (q := 22) C dX4_step_19 (by decide) rfl ?_ ?_
    · exact JX4_step_49 C hX
    · refine Dn_ald_n (i := 0) (q := 23) C dX4_step_22 rfl rfl ?_
      refine Dn_get (ci := 4) (j := 2) (T := TX4) (N := 17) (Cn := RX4) (q := 26) C rfl iX4 (by decide) q_250 dX4_step_23 rfl ?_
      refine Dn_ald_n (i := 0) (q := 27) C dX4_step_26 rfl rfl ?_
      refine Dn_get (ci := 4) (j := 7) (T := TX4) (N := 17) (Cn := RX4) (q := 30) C rfl iX4 (by decide) q_255 dX4_step_27 rfl ?_
      refine Dn_ild_n (i := 1) (q := 31) C dX4_step_30 rfl rfl ?_
      refine Dn_callV (ci := 1) (T := TX1) (N := 9) (q := 34) C rfl (kX1_far X.l X.G X.tg) q_189 q_560 q_187 q_188 q_47 ⟨rfl, rfl⟩ (by decide +kernel) ⟨by decide, by decide⟩ dX4_step_31 rfl ?_
      refine Dn_iconst (v := 1) (q := 35) C dX4_step_34 (by decide) rfl ?_
      refine Dn_icgt (t := 49) (q := 38) C dX4_step_35 (by decide) rfl ?_ ?_
      · exact JX4_step_49 C hX
      · refine Dn_ald_n (i := 0) (q := 39) C dX4_step_38 rfl rfl ?_
        refine Dn_get (ci := 4) (j := 2) (T := TX4) (N := 17) (Cn := RX4) (q := 42) C rfl iX4 (by decide) q_250 dX4_step_39 rfl ?_
        refine Dn_ild_n (i := 1) (q := 43) C dX4_step_42 rfl rfl ?_
        refine Dn_callV (ci := 1) (T := TX1) (N := 9) (q := 46) C rfl (kX1_isOfWalk X.l X.G X.tg) q_247 q_495 q_245 q_246 q_47 ⟨rfl, rfl⟩ (by decide +kernel) ⟨by decide, by decide⟩ dX4_step_43 rfl ?_
        refine Dn_ifne (t := 52) (q := 49) C dX4_step_46 (by decide) rfl ?_ ?_
        · refine Dn_ald_n (i := 0) (q := 53) C dX4_step_52 rfl rfl ?_
          refine Dn_ild_n (i := 1) (q := 54) C dX4_step_53 rfl rfl ?_
          refine Dn_puti (ci := 4) (j := 7) (T := TX4) (N := 17) (Cn := RX4) (q := 57) C rfl iX4 tyX4 tyX4_ok nmX4 (by decide) q_255 rfl (by decide +kernel) dX4_step_54 rfl ?_
          refine Dn_ald_n (i := 0) (q := 58) C dX4_step_57 rfl rfl ?_
          refine Dn_ald_n (i := 0) (q := 59) C dX4_step_58 rfl rfl ?_
          refine Dn_get (ci := 4) (j := 8) (T := TX4) (N := 17) (Cn := RX4) (q := 62) C rfl iX4 (by decide) q_256 dX4_step_59 rfl ?_
          refine Dn_callS (q := 65) C (kX4_hourBehind X.l X.G X.tg) q_563 q_561 q_562 q_44 ⟨rfl, rfl⟩ (by decide +kernel) ⟨by decide, by decide⟩ dX4_step_62 rfl ?_
          refine Dn_puti (ci := 4) (j := 8) (T := TX4) (N := 17) (Cn := RX4) (q := 68) C rfl iX4 tyX4 tyX4_ok nmX4 (by decide) q_256 rfl (by decide +kernel) dX4_step_65 rfl ?_
          refine Dn_ald_n (i := 0) (q := 69) C dX4_step_68 rfl rfl ?_
          refine Dn_get (ci := 4) (j := 3) (T := TX4) (N := 17) (Cn := RX4) (q := 72) C rfl iX4 (by decide) q_251 dX4_step_69 rfl ?_
          refine Dn_ald_n (i := 0) (q := 73) C dX4_step_72 rfl rfl ?_
          refine Dn_get (ci := 4) (j := 6) (T := TX4) (N := 17) (Cn := RX4) (q := 76) C rfl iX4 (by decide) q_254 dX4_step_73 rfl ?_
          refine Dn_ald_n (i := 0) (q := 77) C dX4_step_76 rfl rfl ?_
          refine Dn_get (ci := 4) (j := 7) (T := TX4) (N := 17) (Cn := RX4) (q := 80) C rfl iX4 (by decide) q_255 dX4_step_77 rfl ?_
          refine Dn_ald_n (i := 0) (q := 81) C dX4_step_80 rfl rfl ?_
          refine Dn_get (ci := 4) (j := 8) (T := TX4) (N := 17) (Cn := RX4) (q := 84) C rfl iX4 (by decide) q_256 dX4_step_81 rfl ?_
          refine Dn_callV (ci := 0) (T := TX0) (N := 5) (q := 87) C rfl (kX0_isHeard X.l X.G X.tg) q_567 q_564 q_565 q_566 q_48 ⟨rfl, rfl⟩ (by decide +kernel) ⟨by decide, by decide⟩ dX4_step_84 rfl ?_
          refine Dn_callS (q := 90) C (kX4_bitOf X.l X.G X.tg) q_498 q_496 q_497 q_44 ⟨rfl, rfl⟩ (by decide +kernel) ⟨by decide, by decide⟩ dX4_step_87 rfl ?_
          exact Dn_iret C hX dX4_step_90
        · exact JX4_step_49 C hX
  · refine Dn_bipush (v := (-2)) (q := 13) C dX4_step_11 (by decide) rfl ?_
    exact Dn_iret C hX dX4_step_13
abbrev rX4_keep : Room := ({ frames := 0, cells := 0, slots := 0, locals := 0 } : Room)
def jX4_keep_9 : mK := i_push (.int (-2)) (i_iret)
set_option maxRecDepth 20000 in
theorem JX4_keep_9 {X : mC} (C : Cx X rX4_keep cX4_keep 2 RX4 (some FieldType.int)) (hX : Rx X) : Den X rX4_keep 2 9 jX4_keep_9 := by
  unfold jX4_keep_9
  refine Dn_bipush (v := (-2)) (q := 11) C dX4_keep_9 (by decide) rfl ?_
  exact Dn_iret C hX dX4_keep_11
def jX4_keep : mK := i_ild 1 (i_iflt (jX4_keep_9) (i_ild 1 (i_push (.int 2) (i_iclt (i_ald 0 (i_get 4 9 (i_ild 1 (i_ald 0 (i_get 4 6 (i_iast (i_ald 0 (i_get 4 10 (i_ild 1 (i_ald 0 (i_get 4 7 (i_iast (i_ald 0 (i_get 4 11 (i_ild 1 (i_ald 0 (i_get 4 8 (i_iast (i_ald 0 (i_get 4 8 (i_iret))))))))))))))))))))) (jX4_keep_9)))))
def FX4_keep : mF := mEnt 2 jX4_keep
set_option maxRecDepth 20000 in
theorem kX4_keep (l : Launch) (G : va_G) (tg : Nat → ClassId) : Ct l G tg yX4_keep cX4_keep 2 (some FieldType.int) rX4_keep FX4_keep := by
  refine Ct.of RX4 (by decide) rfl (fun X C hX => ?_)
  unfold jX4_keep
  refine Dn_ild_n (i := 1) (q := 1) C dX4_keep_0 rfl rfl ?_
  refine Dn_iflt (t := 9) (q := 4) C dX4_keep_1 (by decide) rfl ?_ ?_
  · exact JX4_keep_9 C hX
  · refine Dn_ild_n (i := 1) (q := 5) C dX4_keep_4 rfl rfl ?_
    refine Dn_iconst (v := 2) (q := 6) C dX4_keep_5 (by decide) rfl ?_
    refine Dn_iclt (t := 12) (q := 9) C dX4_keep_6 (by decide) rfl ?_ ?_
    · refine Dn_ald_n (i := 0) (q := 13) C dX4_keep_12 rfl rfl ?_
      refine Dn_get (ci := 4) (j := 9) (T := TX4) (N := 17) (Cn := RX4) (q := 16) C rfl iX4 (by decide) q_257 dX4_keep_13 rfl ?_
      refine Dn_ild_n (i := 1) (q := 17) C dX4_keep_16 rfl rfl ?_
      refine Dn_ald_n (i := 0) (q := 18) C dX4_keep_17 rfl rfl ?_
      refine Dn_get (ci := 4) (j := 6) (T := TX4) (N := 17) (Cn := RX4) (q := 21) C rfl iX4 (by decide) q_254 dX4_keep_18 rfl ?_
      refine Dn_iast (q := 22) C dX4_keep_21 rfl ?_
      refine Dn_ald_n (i := 0) (q := 23) C dX4_keep_22 rfl rfl ?_
      refine Dn_get (ci := 4) (j := 10) (T := TX4) (N := 17) (Cn := RX4) (q := 26) C rfl iX4 (by decide) q_258 dX4_keep_23 rfl ?_
      refine Dn_ild_n (i := 1) (q := 27) C dX4_keep_26 rfl rfl ?_
      refine Dn_ald_n (i := 0) (q := 28) C dX4_keep_27 rfl rfl ?_
      refine Dn_get (ci := 4) (j := 7) (T := TX4) (N := 17) (Cn := RX4) (q := 31) C rfl iX4 (by decide) q_255 dX4_keep_28 rfl ?_
      refine Dn_iast (q := 32) C dX4_keep_31 rfl ?_
      refine Dn_ald_n (i := 0) (q := 33) C dX4_keep_32 rfl rfl ?_
      refine Dn_get (ci := 4) (j := 11) (T := TX4) (N := 17) (Cn := RX4) (q := 36) C rfl iX4 (by decide) q_259 dX4_keep_33 rfl ?_
      refine Dn_ild_n (i := 1) (q := 37) C dX4_keep_36 rfl rfl ?_
      refine Dn_ald_n (i := 0) (q := 38) C dX4_keep_37 rfl rfl ?_
      refine Dn_get (ci := 4) (j := 8) (T := TX4) (N := 17) (Cn := RX4) (q := 41) C rfl iX4 (by decide) q_256 dX4_keep_38 rfl ?_
      refine Dn_iast (q := 42) C dX4_keep_41 rfl ?_
      refine Dn_ald_n (i := 0) (q := 43) C dX4_keep_42 rfl rfl ?_
      refine Dn_get (ci := 4) (j := 8) (T := TX4) (N := 17) (Cn := RX4) (q := 46) C rfl iX4 (by decide) q_256 dX4_keep_43 rfl ?_
      exact Dn_iret C hX dX4_keep_46
    · exact JX4_keep_9 C hX
abbrev rX4_back : Room := ({ frames := 0, cells := 0, slots := 0, locals := 0 } : Room)
def jX4_back_9 : mK := i_push (.int (-2)) (i_iret)
set_option maxRecDepth 20000 in
theorem JX4_back_9 {X : mC} (C : Cx X rX4_back cX4_back 2 RX4 (some FieldType.int)) (hX : Rx X) : Den X rX4_back 2 9 jX4_back_9 := by
  unfold jX4_back_9
  refine Dn_bipush (v := (-2)) (q := 11) C dX4_back_9 (by decide) rfl ?_
  exact Dn_iret C hX dX4_back_11
def jX4_back : mK := i_ild 1 (i_iflt (jX4_back_9) (i_ild 1 (i_push (.int 2) (i_iclt (i_ald 0 (i_get 4 11 (i_ild 1 (i_iald (i_push (.int (-1)) (i_icne (i_ald 0 (i_ald 0 (i_get 4 9 (i_ild 1 (i_iald (i_puti 4 6 (i_ald 0 (i_ald 0 (i_get 4 10 (i_ild 1 (i_iald (i_puti 4 7 (i_ald 0 (i_ald 0 (i_get 4 11 (i_ild 1 (i_iald (i_puti 4 8 (i_ald 0 (i_get 4 8 (i_iret))))))))))))))))))))) (i_push (.int (-4)) (i_iret)))))))) (jX4_back_9)))))
def FX4_back : mF := mEnt 2 jX4_back
set_option maxRecDepth 20000 in
theorem kX4_back (l : Launch) (G : va_G) (tg : Nat → ClassId) : Ct l G tg yX4_back cX4_back 2 (some FieldType.int) rX4_back FX4_back := by
  refine Ct.of RX4 (by decide) rfl (fun X C hX => ?_)
  unfold jX4_back
  refine Dn_ild_n (i := 1) (q := 1) C dX4_back_0 rfl rfl ?_
  refine Dn_iflt (t := 9) (q := 4) C dX4_back_1 (by decide) rfl ?_ ?_
  · exact JX4_back_9 C hX
  · refine Dn_ild_n (i := 1) (q := 5) C dX4_back_4 rfl rfl ?_
    refine Dn_iconst (v := 2) (q := 6) C dX4_back_5 (by decide) rfl ?_
    refine Dn_iclt (t := 12) (q := 9) C dX4_back_6 (by decide) rfl ?_ ?_
    · refine Dn_ald_n (i := 0) (q := 13) C dX4_back_12 rfl rfl ?_
      refine Dn_get (ci := 4) (j := 11) (T := TX4) (N := 17) (Cn := RX4) (q := 16) C rfl iX4 (by decide) q_259 dX4_back_13 rfl ?_
      refine Dn_ild_n (i := 1) (q := 17) C dX4_back_16 rfl rfl ?_
      refine Dn_iald (q := 18) C dX4_back_17 rfl ?_
      refine Dn_iconst (v := (-1)) (q := 19) C dX4_back_18 (by decide) rfl ?_
      refine Dn_icne (t := 25) (q := 22) C dX4_back_19 (by decide) rfl ?_ ?_
      · refine Dn_ald_n (i := 0) (q := 26) C dX4_back_25 rfl rfl ?_
        refine Dn_ald_n (i := 0) (q := 27) C dX4_back_26 rfl rfl ?_
        refine Dn_get (ci := 4) (j := 9) (T := TX4) (N := 17) (Cn := RX4) (q := 30) C rfl iX4 (by decide) q_257 dX4_back_27 rfl ?_
        refine Dn_ild_n (i := 1) (q := 31) C dX4_back_30 rfl rfl ?_
        refine Dn_iald (q := 32) C dX4_back_31 rfl ?_
        refine Dn_puti (ci := 4) (j := 6) (T := TX4) (N := 17) (Cn := RX4) (q := 35) C rfl iX4 tyX4 tyX4_ok nmX4 (by decide) q_254 rfl (by decide +kernel) dX4_back_32 rfl ?_
        refine Dn_ald_n (i := 0) (q := 36) C dX4_back_35 rfl rfl ?_
        refine Dn_ald_n (i := 0) (q := 37) C dX4_back_36 rfl rfl ?_
        refine Dn_get (ci := 4) (j := 10) (T := TX4) (N := 17) (Cn := RX4) (q := 40) C rfl iX4 (by decide) q_258 dX4_back_37 rfl ?_
        refine Dn_ild_n (i := 1) (q := 41) C dX4_back_40 rfl rfl ?_
        refine Dn_iald (q := 42) C dX4_back_41 rfl ?_
        refine Dn_puti (ci := 4) (j := 7) (T := TX4) (N := 17) (Cn := RX4) (q := 45) C rfl iX4 tyX4 tyX4_ok nmX4 (by decide) q_255 rfl (by decide +kernel) dX4_back_42 rfl ?_
        refine Dn_ald_n (i := 0) (q := 46) C dX4_back_45 rfl rfl ?_
        refine Dn_ald_n (i := 0) (q := 47) C dX4_back_46 rfl rfl ?_
        refine Dn_get (ci := 4) (j := 11) (T := TX4) (N := 17) (Cn := RX4) (q := 50) C rfl iX4 (by decide) q_259 dX4_back_47 rfl ?_
        refine Dn_ild_n (i := 1) (q := 51) C dX4_back_50 rfl rfl ?_
        refine Dn_iald (q := 52) C dX4_back_51 rfl ?_
        refine Dn_puti (ci := 4) (j := 8) (T := TX4) (N := 17) (Cn := RX4) (q := 55) C rfl iX4 tyX4 tyX4_ok nmX4 (by decide) q_256 rfl (by decide +kernel) dX4_back_52 rfl ?_
        refine Dn_ald_n (i := 0) (q := 56) C dX4_back_55 rfl rfl ?_
        refine Dn_get (ci := 4) (j := 8) (T := TX4) (N := 17) (Cn := RX4) (q := 59) C rfl iX4 (by decide) q_256 dX4_back_56 rfl ?_
        exact Dn_iret C hX dX4_back_59
      · refine Dn_bipush (v := (-4)) (q := 24) C dX4_back_22 (by decide) rfl ?_
        exact Dn_iret C hX dX4_back_24
    · exact JX4_back_9 C hX
abbrev rX4_firstPart : Room := ({ frames := 4, cells := 0, slots := 0, locals := 95 } : Room)
def jX4_firstPart_28 : mK := i_iret
set_option maxRecDepth 20000 in
theorem JX4_firstPart_28 {X : mC} (C : Cx X rX4_firstPart cX4_firstPart 4 RX4 (some FieldType.int)) (hX : Rx X) : Den X rX4_firstPart 4 28 jX4_firstPart_28 := by
  unfold jX4_firstPart_28
  exact Dn_iret C hX dX4_firstPart_28
def jX4_firstPart : mK := i_ild 1 (i_ifne (i_ild 1 (i_push (.int 1) (i_icne (i_ald 0 (i_get 4 3 (i_ald 0 (i_get 4 6 (i_ild 2 (i_ild 3 (i_callV 0 3 FX0_loudestOf (jX4_firstPart_28)))))))) (i_ild 2 (jX4_firstPart_28))))) (i_ild 3 (i_iret)))
def FX4_firstPart : mF := mEnt 4 jX4_firstPart
set_option maxRecDepth 20000 in
theorem kX4_firstPart (l : Launch) (G : va_G) (tg : Nat → ClassId) : Ct l G tg yX4_firstPart cX4_firstPart 4 (some FieldType.int) rX4_firstPart FX4_firstPart := by
  refine Ct.of RX4 (by decide) rfl (fun X C hX => ?_)
  unfold jX4_firstPart
  refine Dn_ild_n (i := 1) (q := 1) C dX4_firstPart_0 rfl rfl ?_
  refine Dn_ifne (t := 6) (q := 4) C dX4_firstPart_1 (by decide) rfl ?_ ?_
  · refine Dn_ild_n (i := 1) (q := 7) C dX4_firstPart_6 rfl rfl ?_
    refine Dn_iconst (v := 1) (q := 8) C dX4_firstPart_7 (by decide) rfl ?_
    refine Dn_icne (t := 15) (q := 11) C dX4_firstPart_8 (by decide) rfl ?_ ?_
    · refine Dn_ald_n (i := 0) (q := 16) C dX4_firstPart_15 rfl rfl ?_
      refine Dn_get (ci := 4) (j := 3) (T := TX4) (N := 17) (Cn := RX4) (q := 19) C rfl iX4 (by decide) q_251 dX4_firstPart_16 rfl ?_
      refine Dn_ald_n (i := 0) (q := 20) C dX4_firstPart_19 rfl rfl ?_
      refine Dn_get (ci := 4) (j := 6) (T := TX4) (N := 17) (Cn := RX4) (q := 23) C rfl iX4 (by decide) q_254 dX4_firstPart_20 rfl ?_
      refine Dn_ild_n (i := 2) (q := 24) C dX4_firstPart_23 rfl rfl ?_
      refine Dn_ild_n (i := 3) (q := 25) C dX4_firstPart_24 rfl rfl ?_
      refine Dn_callV (ci := 0) (T := TX0) (N := 5) (q := 28) C rfl (kX0_loudestOf X.l X.G X.tg) q_590 q_587 q_588 q_589 q_48 ⟨rfl, rfl⟩ (by decide +kernel) ⟨by decide, by decide⟩ dX4_firstPart_25 rfl ?_
      exact JX4_firstPart_28 C hX
    · refine Dn_ild_n (i := 2) (q := 12) C dX4_firstPart_11 rfl rfl ?_
      refine Dn_goto (t := 28) C dX4_firstPart_12 (by decide) ?_
      exact JX4_firstPart_28 C hX
  · refine Dn_ild_n (i := 3) (q := 5) C dX4_firstPart_4 rfl rfl ?_
    exact Dn_iret C hX dX4_firstPart_5
abbrev rX4_first : Room := ({ frames := 5, cells := 0, slots := 0, locals := 118 } : Room)
def jX4_first_68 (B14 : mK) (B22 : mK) : mK := i_inc 3 1 (B22)
set_option maxRecDepth 20000 in
theorem JX4_first_68 {X : mC} (C : Cx X rX4_first cX4_first 4 RX4 (some FieldType.int)) (hX : Rx X) (B14 : mK) (hB14 : Den X rX4_first 4 14 B14) (B22 : mK) (hB22 : Den X rX4_first 4 22 B22) : Den X rX4_first 4 68 (jX4_first_68 B14 B22) := by
  unfold jX4_first_68
  refine Dn_inc (z := 1) (q := 71) C dX4_first_68 (by decide) (by decide) rfl ?_
  refine Dn_goto (t := 22) C dX4_first_71 (by decide) ?_
  exact hB22
def jX4_first_22 (B14 : mK) : mK := i_loop (fun B22 => i_ild 3 (i_ald 0 (i_get 4 2 (i_callV 1 0 FX1_places (i_icge (i_inc 2 1 (B14)) (i_ald 0 (i_get 4 2 (i_ild 3 (i_callV 1 1 FX1_isOfWalk (i_ifeq ((jX4_first_68 B14 B22)) (i_ald 0 (i_get 4 3 (i_ald 0 (i_get 4 6 (i_ild 3 (i_ild 2 (i_callV 0 3 FX0_isHeard (i_ifne ((jX4_first_68 B14 B22)) (i_ald 0 (i_ild 1 (i_ild 3 (i_ild 2 (i_callV 4 3 FX4_firstPart (i_iret)))))))))))))))))))))))) 1000
set_option maxRecDepth 20000 in
theorem JX4_first_22 {X : mC} (C : Cx X rX4_first cX4_first 4 RX4 (some FieldType.int)) (hX : Rx X) (B14 : mK) (hB14 : Den X rX4_first 4 14 B14) : Den X rX4_first 4 22 (jX4_first_22 B14) := by
  unfold jX4_first_22
  refine Dn_loop (fun B22 hB22 => ?_) 1000
  refine Dn_ild_n (i := 3) (q := 23) C dX4_first_22 rfl rfl ?_
  refine Dn_ald_n (i := 0) (q := 24) C dX4_first_23 rfl rfl ?_
  refine Dn_get (ci := 4) (j := 2) (T := TX4) (N := 17) (Cn := RX4) (q := 27) C rfl iX4 (by decide) q_250 dX4_first_24 rfl ?_
  refine Dn_callV (ci := 1) (T := TX1) (N := 9) (q := 30) C rfl (kX1_places X.l X.G X.tg) q_178 q_582 q_176 q_177 q_47 ⟨rfl, rfl⟩ (by decide +kernel) ⟨by decide, by decide⟩ dX4_first_27 rfl ?_
  refine Dn_icge (t := 74) (q := 33) C dX4_first_30 (by decide) rfl ?_ ?_
  · refine Dn_inc (z := 1) (q := 77) C dX4_first_74 (by decide) (by decide) rfl ?_
    refine Dn_goto (t := 14) C dX4_first_77 (by decide) ?_
    exact hB14
  · refine Dn_ald_n (i := 0) (q := 34) C dX4_first_33 rfl rfl ?_
    refine Dn_get (ci := 4) (j := 2) (T := TX4) (N := 17) (Cn := RX4) (q := 37) C rfl iX4 (by decide) q_250 dX4_first_34 rfl ?_
    refine Dn_ild_n (i := 3) (q := 38) C dX4_first_37 rfl rfl ?_
    refine Dn_callV (ci := 1) (T := TX1) (N := 9) (q := 41) C rfl (kX1_isOfWalk X.l X.G X.tg) q_247 q_495 q_245 q_246 q_47 ⟨rfl, rfl⟩ (by decide +kernel) ⟨by decide, by decide⟩ dX4_first_38 rfl ?_
    refine Dn_ifeq (t := 68) (q := 44) C dX4_first_41 (by decide) rfl ?_ ?_
    · exact JX4_first_68 C hX B14 hB14 B22 hB22
    · refine Dn_ald_n (i := 0) (q := 45) C dX4_first_44 rfl rfl ?_
      refine Dn_get (ci := 4) (j := 3) (T := TX4) (N := 17) (Cn := RX4) (q := 48) C rfl iX4 (by decide) q_251 dX4_first_45 rfl ?_
      refine Dn_ald_n (i := 0) (q := 49) C dX4_first_48 rfl rfl ?_
      refine Dn_get (ci := 4) (j := 6) (T := TX4) (N := 17) (Cn := RX4) (q := 52) C rfl iX4 (by decide) q_254 dX4_first_49 rfl ?_
      refine Dn_ild_n (i := 3) (q := 53) C dX4_first_52 rfl rfl ?_
      refine Dn_ild_n (i := 2) (q := 54) C dX4_first_53 rfl rfl ?_
      refine Dn_callV (ci := 0) (T := TX0) (N := 5) (q := 57) C rfl (kX0_isHeard X.l X.G X.tg) q_567 q_564 q_565 q_566 q_48 ⟨rfl, rfl⟩ (by decide +kernel) ⟨by decide, by decide⟩ dX4_first_54 rfl ?_
      refine Dn_ifne (t := 68) (q := 60) C dX4_first_57 (by decide) rfl ?_ ?_
      · exact JX4_first_68 C hX B14 hB14 B22 hB22
      · refine Dn_ald_n (i := 0) (q := 61) C dX4_first_60 rfl rfl ?_
        refine Dn_ild_n (i := 1) (q := 62) C dX4_first_61 rfl rfl ?_
        refine Dn_ild_n (i := 3) (q := 63) C dX4_first_62 rfl rfl ?_
        refine Dn_ild_n (i := 2) (q := 64) C dX4_first_63 rfl rfl ?_
        refine Dn_callV (ci := 4) (T := TX4) (N := 17) (q := 67) C rfl (kX4_firstPart X.l X.G X.tg) q_586 q_583 q_585 q_8 q_44 ⟨rfl, rfl⟩ (by decide +kernel) ⟨by decide, by decide⟩ dX4_first_64 rfl ?_
        exact Dn_iret C hX dX4_first_67
def jX4_first_14 : mK := i_loop (fun B14 => i_ild 2 (i_push (.int 12) (i_icge (i_push (.int (-1)) (i_iret)) (i_push (.int 0) (i_ist 3 ((jX4_first_22 B14))))))) 1000
set_option maxRecDepth 20000 in
theorem JX4_first_14 {X : mC} (C : Cx X rX4_first cX4_first 4 RX4 (some FieldType.int)) (hX : Rx X) : Den X rX4_first 4 14 jX4_first_14 := by
  unfold jX4_first_14
  refine Dn_loop (fun B14 hB14 => ?_) 1000
  refine Dn_ild_n (i := 2) (q := 15) C dX4_first_14 rfl rfl ?_
  refine Dn_bipush (v := 12) (q := 17) C dX4_first_15 (by decide) rfl ?_
  refine Dn_icge (t := 80) (q := 20) C dX4_first_17 (by decide) rfl ?_ ?_
  · refine Dn_iconst (v := (-1)) (q := 81) C dX4_first_80 (by decide) rfl ?_
    exact Dn_iret C hX dX4_first_81
  · refine Dn_iconst (v := 0) (q := 21) C dX4_first_20 (by decide) rfl ?_
    refine Dn_ist_n (i := 3) (q := 22) C dX4_first_21 rfl (by decide) rfl ?_
    exact JX4_first_22 C hX B14 hB14
def jX4_first_9 : mK := i_push (.int (-3)) (i_iret)
set_option maxRecDepth 20000 in
theorem JX4_first_9 {X : mC} (C : Cx X rX4_first cX4_first 4 RX4 (some FieldType.int)) (hX : Rx X) : Den X rX4_first 4 9 jX4_first_9 := by
  unfold jX4_first_9
  refine Dn_bipush (v := (-3)) (q := 11) C dX4_first_9 (by decide) rfl ?_
  exact Dn_iret C hX dX4_first_11
def jX4_first : mK := i_ild 1 (i_iflt (jX4_first_9) (i_ild 1 (i_push (.int 2) (i_icle (i_push (.int 0) (i_ist 2 (jX4_first_14))) (jX4_first_9)))))
def FX4_first : mF := mEnt 4 jX4_first
set_option maxRecDepth 20000 in
theorem kX4_first (l : Launch) (G : va_G) (tg : Nat → ClassId) : Ct l G tg yX4_first cX4_first 4 (some FieldType.int) rX4_first FX4_first := by
  refine Ct.of RX4 (by decide) rfl (fun X C hX => ?_)
  unfold jX4_first
  refine Dn_ild_n (i := 1) (q := 1) C dX4_first_0 rfl rfl ?_
  refine Dn_iflt (t := 9) (q := 4) C dX4_first_1 (by decide) rfl ?_ ?_
  · exact JX4_first_9 C hX
  · refine Dn_ild_n (i := 1) (q := 5) C dX4_first_4 rfl rfl ?_
    refine Dn_iconst (v := 2) (q := 6) C dX4_first_5 (by decide) rfl ?_
    refine Dn_icle (t := 12) (q := 9) C dX4_first_6 (by decide) rfl ?_ ?_
    · refine Dn_iconst (v := 0) (q := 13) C dX4_first_12 (by decide) rfl ?_
      refine Dn_ist_n (i := 2) (q := 14) C dX4_first_13 rfl (by decide) rfl ?_
      exact JX4_first_14 C hX
    · exact JX4_first_9 C hX
abbrev rX4_most : Room := ({ frames := 5, cells := 0, slots := 0, locals := 115 } : Room)
def jX4_most_79 : mK := i_iret
set_option maxRecDepth 20000 in
theorem JX4_most_79 {X : mC} (C : Cx X rX4_most cX4_most 6 RX4 (some FieldType.int)) (hX : Rx X) : Den X rX4_most 6 79 jX4_most_79 := by
  unfold jX4_most_79
  exact Dn_iret C hX dX4_most_79
def jX4_most_64 (B17 : mK) : mK := i_inc 4 1 (B17)
set_option maxRecDepth 20000 in
theorem JX4_most_64 {X : mC} (C : Cx X rX4_most cX4_most 6 RX4 (some FieldType.int)) (hX : Rx X) (B17 : mK) (hB17 : Den X rX4_most 6 17 B17) : Den X rX4_most 6 64 (jX4_most_64 B17) := by
  unfold jX4_most_64
  refine Dn_inc (z := 1) (q := 67) C dX4_most_64 (by decide) (by decide) rfl ?_
  refine Dn_goto (t := 17) C dX4_most_67 (by decide) ?_
  exact hB17
def jX4_most_17 : mK := i_loop (fun B17 => i_ild 4 (i_ald 0 (i_get 4 2 (i_callV 1 0 FX1_bandSets (i_icge (i_ild 1 (i_ifne (i_ild 3 (jX4_most_79)) (i_ild 2 (jX4_most_79)))) (i_ald 0 (i_get 4 2 (i_ild 4 (i_callV 1 1 FX1_worthOf (i_ist 5 (i_ild 5 (i_ild 2 (i_icle ((jX4_most_64 B17)) (i_ald 0 (i_get 4 3 (i_ild 4 (i_callV 0 1 FX0_holds (i_ifeq ((jX4_most_64 B17)) (i_ild 5 (i_ist 2 (i_ild 4 (i_ist 3 ((jX4_most_64 B17)))))))))))))))))))))))) 1000
set_option maxRecDepth 20000 in
theorem JX4_most_17 {X : mC} (C : Cx X rX4_most cX4_most 6 RX4 (some FieldType.int)) (hX : Rx X) : Den X rX4_most 6 17 jX4_most_17 := by
  unfold jX4_most_17
  refine Dn_loop (fun B17 hB17 => ?_) 1000
  refine Dn_ild (q := 19) C dX4_most_17 rfl ?_
  refine Dn_ald_n (i := 0) (q := 20) C dX4_most_19 rfl rfl ?_
  refine Dn_get (ci := 4) (j := 2) (T := TX4) (N := 17) (Cn := RX4) (q := 23) C rfl iX4 (by decide) q_250 dX4_most_20 rfl ?_
  refine Dn_callV (ci := 1) (T := TX1) (N := 9) (q := 26) C rfl (kX1_bandSets X.l X.G X.tg) q_238 q_235 q_236 q_237 q_47 ⟨rfl, rfl⟩ (by decide +kernel) ⟨by decide, by decide⟩ dX4_most_23 rfl ?_
  refine Dn_icge (t := 70) (q := 29) C dX4_most_26 (by decide) rfl ?_ ?_
  · refine Dn_ild_n (i := 1) (q := 71) C dX4_most_70 rfl rfl ?_
    refine Dn_ifne (t := 78) (q := 74) C dX4_most_71 (by decide) rfl ?_ ?_
    · refine Dn_ild_n (i := 3) (q := 79) C dX4_most_78 rfl rfl ?_
      exact JX4_most_79 C hX
    · refine Dn_ild_n (i := 2) (q := 75) C dX4_most_74 rfl rfl ?_
      refine Dn_goto (t := 79) C dX4_most_75 (by decide) ?_
      exact JX4_most_79 C hX
  · refine Dn_ald_n (i := 0) (q := 30) C dX4_most_29 rfl rfl ?_
    refine Dn_get (ci := 4) (j := 2) (T := TX4) (N := 17) (Cn := RX4) (q := 33) C rfl iX4 (by decide) q_250 dX4_most_30 rfl ?_
    refine Dn_ild (q := 35) C dX4_most_33 rfl ?_
    refine Dn_callV (ci := 1) (T := TX1) (N := 9) (q := 38) C rfl (kX1_worthOf X.l X.G X.tg) q_598 q_595 q_596 q_597 q_47 ⟨rfl, rfl⟩ (by decide +kernel) ⟨by decide, by decide⟩ dX4_most_35 rfl ?_
    refine Dn_ist (q := 40) C dX4_most_38 (by decide) rfl ?_
    refine Dn_ild (q := 42) C dX4_most_40 rfl ?_
    refine Dn_ild_n (i := 2) (q := 43) C dX4_most_42 rfl rfl ?_
    refine Dn_icle (t := 64) (q := 46) C dX4_most_43 (by decide) rfl ?_ ?_
    · exact JX4_most_64 C hX B17 hB17
    · refine Dn_ald_n (i := 0) (q := 47) C dX4_most_46 rfl rfl ?_
      refine Dn_get (ci := 4) (j := 3) (T := TX4) (N := 17) (Cn := RX4) (q := 50) C rfl iX4 (by decide) q_251 dX4_most_47 rfl ?_
      refine Dn_ild (q := 52) C dX4_most_50 rfl ?_
      refine Dn_callV (ci := 0) (T := TX0) (N := 5) (q := 55) C rfl (kX0_holds X.l X.G X.tg) q_603 q_600 q_601 q_602 q_48 ⟨rfl, rfl⟩ (by decide +kernel) ⟨by decide, by decide⟩ dX4_most_52 rfl ?_
      refine Dn_ifeq (t := 64) (q := 58) C dX4_most_55 (by decide) rfl ?_ ?_
      · exact JX4_most_64 C hX B17 hB17
      · refine Dn_ild (q := 60) C dX4_most_58 rfl ?_
        refine Dn_ist_n (i := 2) (q := 61) C dX4_most_60 rfl (by decide) rfl ?_
        refine Dn_ild (q := 63) C dX4_most_61 rfl ?_
        refine Dn_ist_n (i := 3) (q := 64) C dX4_most_63 rfl (by decide) rfl ?_
        exact JX4_most_64 C hX B17 hB17
def jX4_most : mK := i_ild 1 (i_call 1 FX4_isBit (i_ifne (i_push (.int (-1)) (i_ist 2 (i_push (.int (-1)) (i_ist 3 (i_push (.int 0) (i_ist 4 (jX4_most_17))))))) (i_push (.int (-3)) (i_iret))))
def FX4_most : mF := mEnt 6 jX4_most
set_option maxRecDepth 20000 in
theorem kX4_most (l : Launch) (G : va_G) (tg : Nat → ClassId) : Ct l G tg yX4_most cX4_most 6 (some FieldType.int) rX4_most FX4_most := by
  refine Ct.of RX4 (by decide) rfl (fun X C hX => ?_)
  unfold jX4_most
  refine Dn_ild_n (i := 1) (q := 1) C dX4_most_0 rfl rfl ?_
  refine Dn_callS (q := 4) C (kX4_isBit X.l X.G X.tg) q_546 q_544 q_545 q_44 ⟨rfl, rfl⟩ (by decide +kernel) ⟨by decide, by decide⟩ dX4_most_1 rfl ?_
  refine Dn_ifne (t := 10) (q := 7) C dX4_most_4 (by decide) rfl ?_ ?_
  · refine Dn_iconst (v := (-1)) (q := 11) C dX4_most_10 (by decide) rfl ?_
    refine Dn_ist_n (i := 2) (q := 12) C dX4_most_11 rfl (by decide) rfl ?_
    refine Dn_iconst (v := (-1)) (q := 13) C dX4_most_12 (by decide) rfl ?_
    refine Dn_ist_n (i := 3) (q := 14) C dX4_most_13 rfl (by decide) rfl ?_
    refine Dn_iconst (v := 0) (q := 15) C dX4_most_14 (by decide) rfl ?_
    refine Dn_ist (q := 17) C dX4_most_15 (by decide) rfl ?_
    exact JX4_most_17 C hX
  · refine Dn_bipush (v := (-3)) (q := 9) C dX4_most_7 (by decide) rfl ?_
    exact Dn_iret C hX dX4_most_9
abbrev rX4_holdingTraits : Room := ({ frames := 5, cells := 0, slots := 0, locals := 115 } : Room)
def jX4_holdingTraits_84 (B28 : mK) : mK := i_inc 6 1 (B28)
set_option maxRecDepth 20000 in
theorem JX4_holdingTraits_84 {X : mC} (C : Cx X rX4_holdingTraits cX4_holdingTraits 7 RX4 (some FieldType.long)) (hX : Rx X) (B28 : mK) (hB28 : Den X rX4_holdingTraits 7 28 B28) : Den X rX4_holdingTraits 7 84 (jX4_holdingTraits_84 B28) := by
  unfold jX4_holdingTraits_84
  refine Dn_inc (z := 1) (q := 87) C dX4_holdingTraits_84 (by decide) (by decide) rfl ?_
  refine Dn_goto (t := 28) C dX4_holdingTraits_87 (by decide) ?_
  exact hB28
def jX4_holdingTraits_28 : mK := i_loop (fun B28 => i_ild 6 (i_ild 3 (i_icge (i_lld 4 (i_lret)) (i_ald 0 (i_get 4 4 (i_ild 1 (i_ild 2 (i_ild 6 (i_callV 1 3 FX1_setTrait (i_ald 0 (i_get 4 5 (i_ald 0 (i_get 4 4 (i_ild 1 (i_callV 0 2 FX0_listenToBand (i_ald 0 (i_get 4 5 (i_ald 0 (i_get 4 6 (i_push (.int 1) (i_ild 1 (i_ib (fun x y => x <<< (y &&& 31)) (i_ib (fun x y => x ||| y) (i_callV 0 1 FX0_holds (i_ifeq ((jX4_holdingTraits_84 B28)) (i_lld 4 (i_push (.long 1) (i_ild 6 (i_ls (fun x y => x <<< (y.toInt64 &&& 63)) (i_lb (fun x y => x ||| y) (i_lst 4 ((jX4_holdingTraits_84 B28))))))))))))))))))))))))))))))))) 1000
set_option maxRecDepth 20000 in
theorem JX4_holdingTraits_28 {X : mC} (C : Cx X rX4_holdingTraits cX4_holdingTraits 7 RX4 (some FieldType.long)) (hX : Rx X) : Den X rX4_holdingTraits 7 28 jX4_holdingTraits_28 := by
  unfold jX4_holdingTraits_28
  refine Dn_loop (fun B28 hB28 => ?_) 1000
  refine Dn_ild (q := 30) C dX4_holdingTraits_28 rfl ?_
  refine Dn_ild_n (i := 3) (q := 31) C dX4_holdingTraits_30 rfl rfl ?_
  refine Dn_icge (t := 90) (q := 34) C dX4_holdingTraits_31 (by decide) rfl ?_ ?_
  · refine Dn_lld (q := 92) C dX4_holdingTraits_90 rfl ?_
    exact Dn_lret C hX dX4_holdingTraits_92
  · refine Dn_ald_n (i := 0) (q := 35) C dX4_holdingTraits_34 rfl rfl ?_
    refine Dn_get (ci := 4) (j := 4) (T := TX4) (N := 17) (Cn := RX4) (q := 38) C rfl iX4 (by decide) q_252 dX4_holdingTraits_35 rfl ?_
    refine Dn_ild_n (i := 1) (q := 39) C dX4_holdingTraits_38 rfl rfl ?_
    refine Dn_ild_n (i := 2) (q := 40) C dX4_holdingTraits_39 rfl rfl ?_
    refine Dn_ild (q := 42) C dX4_holdingTraits_40 rfl ?_
    refine Dn_callV (ci := 1) (T := TX1) (N := 9) (q := 45) C rfl (kX1_setTrait X.l X.G X.tg) q_458 q_621 q_456 q_457 q_47 ⟨rfl, rfl⟩ (by decide +kernel) ⟨by decide, by decide⟩ dX4_holdingTraits_42 rfl ?_
    refine Dn_ald_n (i := 0) (q := 46) C dX4_holdingTraits_45 rfl rfl ?_
    refine Dn_get (ci := 4) (j := 5) (T := TX4) (N := 17) (Cn := RX4) (q := 49) C rfl iX4 (by decide) q_253 dX4_holdingTraits_46 rfl ?_
    refine Dn_ald_n (i := 0) (q := 50) C dX4_holdingTraits_49 rfl rfl ?_
    refine Dn_get (ci := 4) (j := 4) (T := TX4) (N := 17) (Cn := RX4) (q := 53) C rfl iX4 (by decide) q_252 dX4_holdingTraits_50 rfl ?_
    refine Dn_ild_n (i := 1) (q := 54) C dX4_holdingTraits_53 rfl rfl ?_
    refine Dn_callV (ci := 0) (T := TX0) (N := 5) (q := 57) C rfl (kX0_listenToBand X.l X.G X.tg) q_207 q_622 q_205 q_206 q_48 ⟨rfl, rfl⟩ (by decide +kernel) ⟨by decide, by decide⟩ dX4_holdingTraits_54 rfl ?_
    refine Dn_ald_n (i := 0) (q := 58) C dX4_holdingTraits_57 rfl rfl ?_
    refine Dn_get (ci := 4) (j := 5) (T := TX4) (N := 17) (Cn := RX4) (q := 61) C rfl iX4 (by decide) q_253 dX4_holdingTraits_58 rfl ?_
    refine Dn_ald_n (i := 0) (q := 62) C dX4_holdingTraits_61 rfl rfl ?_
    refine Dn_get (ci := 4) (j := 6) (T := TX4) (N := 17) (Cn := RX4) (q := 65) C rfl iX4 (by decide) q_254 dX4_holdingTraits_62 rfl ?_
    refine Dn_iconst (v := 1) (q := 66) C dX4_holdingTraits_65 (by decide) rfl ?_
    refine Dn_ild_n (i := 1) (q := 67) C dX4_holdingTraits_66 rfl rfl ?_
    refine Dn_ishl (q := 68) C dX4_holdingTraits_67 rfl ?_
    refine Dn_ior (q := 69) C dX4_holdingTraits_68 rfl ?_
    refine Dn_callV (ci := 0) (T := TX0) (N := 5) (q := 72) C rfl (kX0_holds X.l X.G X.tg) q_603 q_600 q_601 q_602 q_48 ⟨rfl, rfl⟩ (by decide +kernel) ⟨by decide, by decide⟩ dX4_holdingTraits_69 rfl ?_
    refine Dn_ifeq (t := 84) (q := 75) C dX4_holdingTraits_72 (by decide) rfl ?_ ?_
    · exact JX4_holdingTraits_84 C hX B28 hB28
    · refine Dn_lld (q := 77) C dX4_holdingTraits_75 rfl ?_
      refine Dn_lconst (v := 1) (q := 78) C dX4_holdingTraits_77 (by decide) rfl ?_
      refine Dn_ild (q := 80) C dX4_holdingTraits_78 rfl ?_
      refine Dn_lshl (q := 81) C dX4_holdingTraits_80 rfl ?_
      refine Dn_lor (q := 82) C dX4_holdingTraits_81 rfl ?_
      refine Dn_lst (q := 84) C dX4_holdingTraits_82 (by decide) rfl ?_
      exact JX4_holdingTraits_84 C hX B28 hB28
def jX4_holdingTraits : mK := i_ald 0 (i_get 4 4 (i_ald 0 (i_get 4 2 (i_callV 1 1 FX1_become (i_ald 0 (i_get 4 5 (i_ald 0 (i_get 4 4 (i_callV 0 1 FX0_listen (i_push (.long 0) (i_lst 4 (i_push (.int 0) (i_ist 6 (jX4_holdingTraits_28))))))))))))))
def FX4_holdingTraits : mF := mEnt 7 jX4_holdingTraits
set_option maxRecDepth 20000 in
theorem kX4_holdingTraits (l : Launch) (G : va_G) (tg : Nat → ClassId) : Ct l G tg yX4_holdingTraits cX4_holdingTraits 7 (some FieldType.long) rX4_holdingTraits FX4_holdingTraits := by
  refine Ct.of RX4 (by decide) rfl (fun X C hX => ?_)
  unfold jX4_holdingTraits
  refine Dn_ald_n (i := 0) (q := 1) C dX4_holdingTraits_0 rfl rfl ?_
  refine Dn_get (ci := 4) (j := 4) (T := TX4) (N := 17) (Cn := RX4) (q := 4) C rfl iX4 (by decide) q_252 dX4_holdingTraits_1 rfl ?_
  refine Dn_ald_n (i := 0) (q := 5) C dX4_holdingTraits_4 rfl rfl ?_
  refine Dn_get (ci := 4) (j := 2) (T := TX4) (N := 17) (Cn := RX4) (q := 8) C rfl iX4 (by decide) q_250 dX4_holdingTraits_5 rfl ?_
  refine Dn_callV (ci := 1) (T := TX1) (N := 9) (q := 11) C rfl (kX1_become X.l X.G X.tg) q_329 q_486 q_327 q_328 q_47 ⟨rfl, rfl⟩ (by decide +kernel) ⟨by decide, by decide⟩ dX4_holdingTraits_8 rfl ?_
  refine Dn_ald_n (i := 0) (q := 12) C dX4_holdingTraits_11 rfl rfl ?_
  refine Dn_get (ci := 4) (j := 5) (T := TX4) (N := 17) (Cn := RX4) (q := 15) C rfl iX4 (by decide) q_253 dX4_holdingTraits_12 rfl ?_
  refine Dn_ald_n (i := 0) (q := 16) C dX4_holdingTraits_15 rfl rfl ?_
  refine Dn_get (ci := 4) (j := 4) (T := TX4) (N := 17) (Cn := RX4) (q := 19) C rfl iX4 (by decide) q_252 dX4_holdingTraits_16 rfl ?_
  refine Dn_callV (ci := 0) (T := TX0) (N := 5) (q := 22) C rfl (kX0_listen X.l X.G X.tg) q_174 q_171 q_172 q_173 q_48 ⟨rfl, rfl⟩ (by decide +kernel) ⟨by decide, by decide⟩ dX4_holdingTraits_19 rfl ?_
  refine Dn_lconst (v := 0) (q := 23) C dX4_holdingTraits_22 (by decide) rfl ?_
  refine Dn_lst (q := 25) C dX4_holdingTraits_23 (by decide) rfl ?_
  refine Dn_iconst (v := 0) (q := 26) C dX4_holdingTraits_25 (by decide) rfl ?_
  refine Dn_ist (q := 28) C dX4_holdingTraits_26 (by decide) rfl ?_
  exact JX4_holdingTraits_28 C hX
abbrev rX4_stands : Room := ({ frames := 6, cells := 0, slots := 0, locals := 141 } : Room)
def jX4_stands : mK := i_ald 0 (i_get 4 2 (i_ild 1 (i_callV 1 1 FX1_hasBand (i_ifne (i_ald 0 (i_ild 1 (i_push (.int 1) (i_ald 0 (i_get 4 2 (i_callV 1 0 FX1_places (i_callV 4 3 FX4_holdingTraits (i_lret)))))))) (i_push (.long (-2)) (i_lret))))))
def FX4_stands : mF := mEnt 2 jX4_stands
set_option maxRecDepth 20000 in
theorem kX4_stands (l : Launch) (G : va_G) (tg : Nat → ClassId) : Ct l G tg yX4_stands cX4_stands 2 (some FieldType.long) rX4_stands FX4_stands := by
  refine Ct.of RX4 (by decide) rfl (fun X C hX => ?_)
  unfold jX4_stands
  refine Dn_ald_n (i := 0) (q := 1) C dX4_stands_0 rfl rfl ?_
  refine Dn_get (ci := 4) (j := 2) (T := TX4) (N := 17) (Cn := RX4) (q := 4) C rfl iX4 (by decide) q_250 dX4_stands_1 rfl ?_
  refine Dn_ild_n (i := 1) (q := 5) C dX4_stands_4 rfl rfl ?_
  refine Dn_callV (ci := 1) (T := TX1) (N := 9) (q := 8) C rfl (kX1_hasBand X.l X.G X.tg) q_515 q_512 q_513 q_514 q_47 ⟨rfl, rfl⟩ (by decide +kernel) ⟨by decide, by decide⟩ dX4_stands_5 rfl ?_
  refine Dn_ifne (t := 15) (q := 11) C dX4_stands_8 (by decide) rfl ?_ ?_
  · refine Dn_ald_n (i := 0) (q := 16) C dX4_stands_15 rfl rfl ?_
    refine Dn_ild_n (i := 1) (q := 17) C dX4_stands_16 rfl rfl ?_
    refine Dn_iconst (v := 1) (q := 18) C dX4_stands_17 (by decide) rfl ?_
    refine Dn_ald_n (i := 0) (q := 19) C dX4_stands_18 rfl rfl ?_
    refine Dn_get (ci := 4) (j := 2) (T := TX4) (N := 17) (Cn := RX4) (q := 22) C rfl iX4 (by decide) q_250 dX4_stands_19 rfl ?_
    refine Dn_callV (ci := 1) (T := TX1) (N := 9) (q := 25) C rfl (kX1_places X.l X.G X.tg) q_178 q_582 q_176 q_177 q_47 ⟨rfl, rfl⟩ (by decide +kernel) ⟨by decide, by decide⟩ dX4_stands_22 rfl ?_
    refine Dn_callV (ci := 4) (T := TX4) (N := 17) (q := 28) C rfl (kX4_holdingTraits X.l X.G X.tg) q_620 q_617 q_619 q_10 q_44 ⟨rfl, rfl⟩ (by decide +kernel) ⟨by decide, by decide⟩ dX4_stands_25 rfl ?_
    exact Dn_lret C hX dX4_stands_28
  · refine Dn_ldc2 (q := 14) C dX4_stands_11 q_616 rfl ?_
    exact Dn_lret C hX dX4_stands_14
abbrev rX4_sides : Room := ({ frames := 6, cells := 0, slots := 0, locals := 141 } : Room)
def jX4_sides : mK := i_ald 0 (i_get 4 2 (i_ild 1 (i_callV 1 1 FX1_hasBand (i_ifne (i_ald 0 (i_get 4 2 (i_ild 1 (i_push (.int 0) (i_callV 1 2 FX1_trait (i_push (.int 1) (i_iceq (i_ald 0 (i_ild 1 (i_push (.int 6) (i_push (.int 4) (i_callV 4 3 FX4_holdingTraits (i_l2i (i_iret))))))) (i_push (.int (-4)) (i_iret))))))))) (i_push (.int (-2)) (i_iret))))))
def FX4_sides : mF := mEnt 2 jX4_sides
set_option maxRecDepth 20000 in
theorem kX4_sides (l : Launch) (G : va_G) (tg : Nat → ClassId) : Ct l G tg yX4_sides cX4_sides 2 (some FieldType.int) rX4_sides FX4_sides := by
  refine Ct.of RX4 (by decide) rfl (fun X C hX => ?_)
  unfold jX4_sides
  refine Dn_ald_n (i := 0) (q := 1) C dX4_sides_0 rfl rfl ?_
  refine Dn_get (ci := 4) (j := 2) (T := TX4) (N := 17) (Cn := RX4) (q := 4) C rfl iX4 (by decide) q_250 dX4_sides_1 rfl ?_
  refine Dn_ild_n (i := 1) (q := 5) C dX4_sides_4 rfl rfl ?_
  refine Dn_callV (ci := 1) (T := TX1) (N := 9) (q := 8) C rfl (kX1_hasBand X.l X.G X.tg) q_515 q_512 q_513 q_514 q_47 ⟨rfl, rfl⟩ (by decide +kernel) ⟨by decide, by decide⟩ dX4_sides_5 rfl ?_
  refine Dn_ifne (t := 14) (q := 11) C dX4_sides_8 (by decide) rfl ?_ ?_
  · refine Dn_ald_n (i := 0) (q := 15) C dX4_sides_14 rfl rfl ?_
    refine Dn_get (ci := 4) (j := 2) (T := TX4) (N := 17) (Cn := RX4) (q := 18) C rfl iX4 (by decide) q_250 dX4_sides_15 rfl ?_
    refine Dn_ild_n (i := 1) (q := 19) C dX4_sides_18 rfl rfl ?_
    refine Dn_iconst (v := 0) (q := 20) C dX4_sides_19 (by decide) rfl ?_
    refine Dn_callV (ci := 1) (T := TX1) (N := 9) (q := 23) C rfl (kX1_trait X.l X.G X.tg) q_215 q_519 q_213 q_214 q_47 ⟨rfl, rfl⟩ (by decide +kernel) ⟨by decide, by decide⟩ dX4_sides_20 rfl ?_
    refine Dn_iconst (v := 1) (q := 24) C dX4_sides_23 (by decide) rfl ?_
    refine Dn_iceq (t := 30) (q := 27) C dX4_sides_24 (by decide) rfl ?_ ?_
    · refine Dn_ald_n (i := 0) (q := 31) C dX4_sides_30 rfl rfl ?_
      refine Dn_ild_n (i := 1) (q := 32) C dX4_sides_31 rfl rfl ?_
      refine Dn_bipush (v := 6) (q := 34) C dX4_sides_32 (by decide) rfl ?_
      refine Dn_iconst (v := 4) (q := 35) C dX4_sides_34 (by decide) rfl ?_
      refine Dn_callV (ci := 4) (T := TX4) (N := 17) (q := 38) C rfl (kX4_holdingTraits X.l X.G X.tg) q_620 q_617 q_619 q_10 q_44 ⟨rfl, rfl⟩ (by decide +kernel) ⟨by decide, by decide⟩ dX4_sides_35 rfl ?_
      refine Dn_l2i (q := 39) C dX4_sides_38 rfl ?_
      exact Dn_iret C hX dX4_sides_39
    · refine Dn_bipush (v := (-4)) (q := 29) C dX4_sides_27 (by decide) rfl ?_
      exact Dn_iret C hX dX4_sides_29
  · refine Dn_bipush (v := (-2)) (q := 13) C dX4_sides_11 (by decide) rfl ?_
    exact Dn_iret C hX dX4_sides_13
abbrev rX4_areFewer : Room := ({ frames := 1, cells := 0, slots := 0, locals := 21 } : Room)
def jX4_areFewer_32 : mK := i_nret .boolean
set_option maxRecDepth 20000 in
theorem JX4_areFewer_32 {X : mC} (C : Cx X rX4_areFewer cX4_areFewer 5 RX4 (some FieldType.boolean)) (hX : Rx X) : Den X rX4_areFewer 5 32 jX4_areFewer_32 := by
  unfold jX4_areFewer_32
  exact Dn_nret C hX dX4_areFewer_32
def jX4_areFewer_31 : mK := i_push (.int 0) (jX4_areFewer_32)
set_option maxRecDepth 20000 in
theorem JX4_areFewer_31 {X : mC} (C : Cx X rX4_areFewer cX4_areFewer 5 RX4 (some FieldType.boolean)) (hX : Rx X) : Den X rX4_areFewer 5 31 jX4_areFewer_31 := by
  unfold jX4_areFewer_31
  refine Dn_iconst (v := 0) (q := 32) C dX4_areFewer_31 (by decide) rfl ?_
  exact JX4_areFewer_32 C hX
def jX4_areFewer_27 : mK := i_push (.int 1) (jX4_areFewer_32)
set_option maxRecDepth 20000 in
theorem JX4_areFewer_27 {X : mC} (C : Cx X rX4_areFewer cX4_areFewer 5 RX4 (some FieldType.boolean)) (hX : Rx X) : Den X rX4_areFewer 5 27 jX4_areFewer_27 := by
  unfold jX4_areFewer_27
  refine Dn_iconst (v := 1) (q := 28) C dX4_areFewer_27 (by decide) rfl ?_
  refine Dn_goto (t := 32) C dX4_areFewer_28 (by decide) ?_
  exact JX4_areFewer_32 C hX
def jX4_areFewer : mK := i_lld 2 (i_call 1 FJ13_bitCount_95d88 (i_lld 0 (i_call 1 FJ13_bitCount_95d88 (i_ib (fun x y => x - y) (i_ist 4 (i_ild 4 (i_ifgt (jX4_areFewer_27) (i_ild 4 (i_ifne (jX4_areFewer_31) (i_lld 0 (i_lld 2 (i_lcmp (i_ifge (jX4_areFewer_31) (jX4_areFewer_27))))))))))))))
def FX4_areFewer : mF := mEnt 5 jX4_areFewer
set_option maxRecDepth 20000 in
theorem kX4_areFewer (l : Launch) (G : va_G) (tg : Nat → ClassId) : Ct l G tg yX4_areFewer cX4_areFewer 5 (some FieldType.boolean) rX4_areFewer FX4_areFewer := by
  refine Ct.of RX4 (by decide) rfl (fun X C hX => ?_)
  unfold jX4_areFewer
  refine Dn_lld_n (i := 2) (q := 1) C dX4_areFewer_0 rfl rfl ?_
  refine Dn_callS (q := 4) C (kJ13_bitCount_95d88 X.l X.G X.tg) q_642 q_640 q_641 q_56 ⟨rfl, rfl⟩ (by decide +kernel) ⟨by decide, by decide⟩ dX4_areFewer_1 rfl ?_
  refine Dn_lld_n (i := 0) (q := 5) C dX4_areFewer_4 rfl rfl ?_
  refine Dn_callS (q := 8) C (kJ13_bitCount_95d88 X.l X.G X.tg) q_642 q_640 q_641 q_56 ⟨rfl, rfl⟩ (by decide +kernel) ⟨by decide, by decide⟩ dX4_areFewer_5 rfl ?_
  refine Dn_isub (q := 9) C dX4_areFewer_8 rfl ?_
  refine Dn_ist (q := 11) C dX4_areFewer_9 (by decide) rfl ?_
  refine Dn_ild (q := 13) C dX4_areFewer_11 rfl ?_
  refine Dn_ifgt (t := 27) (q := 16) C dX4_areFewer_13 (by decide) rfl ?_ ?_
  · exact JX4_areFewer_27 C hX
  · refine Dn_ild (q := 18) C dX4_areFewer_16 rfl ?_
    refine Dn_ifne (t := 31) (q := 21) C dX4_areFewer_18 (by decide) rfl ?_ ?_
    · exact JX4_areFewer_31 C hX
    · refine Dn_lld_n (i := 0) (q := 22) C dX4_areFewer_21 rfl rfl ?_
      refine Dn_lld_n (i := 2) (q := 23) C dX4_areFewer_22 rfl rfl ?_
      refine Dn_lcmp (q := 24) C dX4_areFewer_23 rfl ?_
      refine Dn_ifge (t := 31) (q := 27) C dX4_areFewer_24 (by decide) rfl ?_ ?_
      · exact JX4_areFewer_31 C hX
      · exact JX4_areFewer_27 C hX
abbrev rX4_holdsWithHedges : Room := ({ frames := 5, cells := 0, slots := 0, locals := 115 } : Room)
def jX4_holdsWithHedges : mK := i_ald 0 (i_get 4 4 (i_ald 0 (i_get 4 2 (i_get 1 7 (i_lld 1 (i_lb (fun x y => x ||| y) (i_putl 1 7 (i_ald 0 (i_get 4 5 (i_ald 0 (i_get 4 4 (i_callV 0 1 FX0_listen (i_ald 0 (i_get 4 5 (i_ald 0 (i_get 4 6 (i_callV 0 1 FX0_holds (i_nret .boolean))))))))))))))))))
def FX4_holdsWithHedges : mF := mEnt 3 jX4_holdsWithHedges
set_option maxRecDepth 20000 in
theorem kX4_holdsWithHedges (l : Launch) (G : va_G) (tg : Nat → ClassId) : Ct l G tg yX4_holdsWithHedges cX4_holdsWithHedges 3 (some FieldType.boolean) rX4_holdsWithHedges FX4_holdsWithHedges := by
  refine Ct.of RX4 (by decide) rfl (fun X C hX => ?_)
  unfold jX4_holdsWithHedges
  refine Dn_ald_n (i := 0) (q := 1) C dX4_holdsWithHedges_0 rfl rfl ?_
  refine Dn_get (ci := 4) (j := 4) (T := TX4) (N := 17) (Cn := RX4) (q := 4) C rfl iX4 (by decide) q_252 dX4_holdsWithHedges_1 rfl ?_
  refine Dn_ald_n (i := 0) (q := 5) C dX4_holdsWithHedges_4 rfl rfl ?_
  refine Dn_get (ci := 4) (j := 2) (T := TX4) (N := 17) (Cn := RX4) (q := 8) C rfl iX4 (by decide) q_250 dX4_holdsWithHedges_5 rfl ?_
  refine Dn_get (ci := 1) (j := 7) (T := TX1) (N := 9) (Cn := RX1) (q := 11) C rfl iX1 (by decide) q_128 dX4_holdsWithHedges_8 rfl ?_
  refine Dn_lld_n (i := 1) (q := 12) C dX4_holdsWithHedges_11 rfl rfl ?_
  refine Dn_lor (q := 13) C dX4_holdsWithHedges_12 rfl ?_
  refine Dn_putl (ci := 1) (j := 7) (T := TX1) (N := 9) (Cn := RX1) (q := 16) C rfl iX1 tyX1 tyX1_ok nmX1 (by decide) q_128 rfl (by decide +kernel) dX4_holdsWithHedges_13 rfl ?_
  refine Dn_ald_n (i := 0) (q := 17) C dX4_holdsWithHedges_16 rfl rfl ?_
  refine Dn_get (ci := 4) (j := 5) (T := TX4) (N := 17) (Cn := RX4) (q := 20) C rfl iX4 (by decide) q_253 dX4_holdsWithHedges_17 rfl ?_
  refine Dn_ald_n (i := 0) (q := 21) C dX4_holdsWithHedges_20 rfl rfl ?_
  refine Dn_get (ci := 4) (j := 4) (T := TX4) (N := 17) (Cn := RX4) (q := 24) C rfl iX4 (by decide) q_252 dX4_holdsWithHedges_21 rfl ?_
  refine Dn_callV (ci := 0) (T := TX0) (N := 5) (q := 27) C rfl (kX0_listen X.l X.G X.tg) q_174 q_171 q_172 q_173 q_48 ⟨rfl, rfl⟩ (by decide +kernel) ⟨by decide, by decide⟩ dX4_holdsWithHedges_24 rfl ?_
  refine Dn_ald_n (i := 0) (q := 28) C dX4_holdsWithHedges_27 rfl rfl ?_
  refine Dn_get (ci := 4) (j := 5) (T := TX4) (N := 17) (Cn := RX4) (q := 31) C rfl iX4 (by decide) q_253 dX4_holdsWithHedges_28 rfl ?_
  refine Dn_ald_n (i := 0) (q := 32) C dX4_holdsWithHedges_31 rfl rfl ?_
  refine Dn_get (ci := 4) (j := 6) (T := TX4) (N := 17) (Cn := RX4) (q := 35) C rfl iX4 (by decide) q_254 dX4_holdsWithHedges_32 rfl ?_
  refine Dn_callV (ci := 0) (T := TX0) (N := 5) (q := 38) C rfl (kX0_holds X.l X.G X.tg) q_603 q_600 q_601 q_602 q_48 ⟨rfl, rfl⟩ (by decide +kernel) ⟨by decide, by decide⟩ dX4_holdsWithHedges_35 rfl ?_
  exact Dn_nret C hX dX4_holdsWithHedges_38
abbrev rX4_hedged : Room := ({ frames := 6, cells := 0, slots := 0, locals := 137 } : Room)
def jX4_hedged_124 : mK := i_lret
set_option maxRecDepth 20000 in
theorem JX4_hedged_124 {X : mC} (C : Cx X rX4_hedged cX4_hedged 7 RX4 (some FieldType.long)) (hX : Rx X) : Den X rX4_hedged 7 124 jX4_hedged_124 := by
  unfold jX4_hedged_124
  exact Dn_lret C hX dX4_hedged_124
def jX4_hedged_93 (B29 : mK) : mK := i_inc 4 1 (B29)
set_option maxRecDepth 20000 in
theorem JX4_hedged_93 {X : mC} (C : Cx X rX4_hedged cX4_hedged 7 RX4 (some FieldType.long)) (hX : Rx X) (B29 : mK) (hB29 : Den X rX4_hedged 7 29 B29) : Den X rX4_hedged 7 93 (jX4_hedged_93 B29) := by
  unfold jX4_hedged_93
  refine Dn_inc (z := 1) (q := 96) C dX4_hedged_93 (by decide) (by decide) rfl ?_
  refine Dn_goto (t := 29) C dX4_hedged_96 (by decide) ?_
  exact hB29
def jX4_hedged_81 (B29 : mK) : mK := i_ald 0 (i_lld 5 (i_callV 4 1 FX4_holdsWithHedges (i_ifeq ((jX4_hedged_93 B29)) (i_lld 5 (i_lst 2 ((jX4_hedged_93 B29)))))))
set_option maxRecDepth 20000 in
theorem JX4_hedged_81 {X : mC} (C : Cx X rX4_hedged cX4_hedged 7 RX4 (some FieldType.long)) (hX : Rx X) (B29 : mK) (hB29 : Den X rX4_hedged 7 29 B29) : Den X rX4_hedged 7 81 (jX4_hedged_81 B29) := by
  unfold jX4_hedged_81
  refine Dn_ald_n (i := 0) (q := 82) C dX4_hedged_81 rfl rfl ?_
  refine Dn_lld (q := 84) C dX4_hedged_82 rfl ?_
  refine Dn_callV (ci := 4) (T := TX4) (N := 17) (q := 87) C rfl (kX4_holdsWithHedges X.l X.G X.tg) q_649 q_646 q_648 q_11 q_44 ⟨rfl, rfl⟩ (by decide +kernel) ⟨by decide, by decide⟩ dX4_hedged_84 rfl ?_
  refine Dn_ifeq (t := 93) (q := 90) C dX4_hedged_87 (by decide) rfl ?_ ?_
  · exact JX4_hedged_93 C hX B29 hB29
  · refine Dn_lld (q := 92) C dX4_hedged_90 rfl ?_
    refine Dn_lst_n (i := 2) (q := 93) C dX4_hedged_92 rfl (by decide) rfl ?_
    exact JX4_hedged_93 C hX B29 hB29
def jX4_hedged_29 : mK := i_loop (fun B29 => i_ild 4 (i_ald 0 (i_get 4 2 (i_callV 1 0 FX1_bandSets (i_icge (i_lld 2 (i_push (.long (-1)) (i_lcmp (i_ifne (i_ild 1 (i_ifne (i_lld 2 (jX4_hedged_124)) (i_lld 2 (i_call 1 FJ13_bitCount_95d88 (i_i2l (jX4_hedged_124)))))) (i_push (.long (-1)) (i_lret)))))) (i_ald 0 (i_get 4 2 (i_ild 4 (i_callV 1 1 FX1_placesOf (i_ald 0 (i_get 4 2 (i_get 1 7 (i_push (.long (-1)) (i_lb (fun x y => x ^^^ y) (i_lb (fun x y => x &&& y) (i_lst 5 (i_lld 2 (i_push (.long (-1)) (i_lcmp (i_ifeq ((jX4_hedged_81 B29)) (i_lld 5 (i_lld 2 (i_call 2 FX4_areFewer (i_ifeq ((jX4_hedged_93 B29)) ((jX4_hedged_81 B29)))))))))))))))))))))))))) 1000
set_option maxRecDepth 20000 in
theorem JX4_hedged_29 {X : mC} (C : Cx X rX4_hedged cX4_hedged 7 RX4 (some FieldType.long)) (hX : Rx X) : Den X rX4_hedged 7 29 jX4_hedged_29 := by
  unfold jX4_hedged_29
  refine Dn_loop (fun B29 hB29 => ?_) 1000
  refine Dn_ild (q := 31) C dX4_hedged_29 rfl ?_
  refine Dn_ald_n (i := 0) (q := 32) C dX4_hedged_31 rfl rfl ?_
  refine Dn_get (ci := 4) (j := 2) (T := TX4) (N := 17) (Cn := RX4) (q := 35) C rfl iX4 (by decide) q_250 dX4_hedged_32 rfl ?_
  refine Dn_callV (ci := 1) (T := TX1) (N := 9) (q := 38) C rfl (kX1_bandSets X.l X.G X.tg) q_238 q_235 q_236 q_237 q_47 ⟨rfl, rfl⟩ (by decide +kernel) ⟨by decide, by decide⟩ dX4_hedged_35 rfl ?_
  refine Dn_icge (t := 99) (q := 41) C dX4_hedged_38 (by decide) rfl ?_ ?_
  · refine Dn_lld_n (i := 2) (q := 100) C dX4_hedged_99 rfl rfl ?_
    refine Dn_ldc2 (q := 103) C dX4_hedged_100 q_632 rfl ?_
    refine Dn_lcmp (q := 104) C dX4_hedged_103 rfl ?_
    refine Dn_ifne (t := 111) (q := 107) C dX4_hedged_104 (by decide) rfl ?_ ?_
    · refine Dn_ild_n (i := 1) (q := 112) C dX4_hedged_111 rfl rfl ?_
      refine Dn_ifne (t := 123) (q := 115) C dX4_hedged_112 (by decide) rfl ?_ ?_
      · refine Dn_lld_n (i := 2) (q := 124) C dX4_hedged_123 rfl rfl ?_
        exact JX4_hedged_124 C hX
      · refine Dn_lld_n (i := 2) (q := 116) C dX4_hedged_115 rfl rfl ?_
        refine Dn_callS (q := 119) C (kJ13_bitCount_95d88 X.l X.G X.tg) q_642 q_640 q_641 q_56 ⟨rfl, rfl⟩ (by decide +kernel) ⟨by decide, by decide⟩ dX4_hedged_116 rfl ?_
        refine Dn_i2l (q := 120) C dX4_hedged_119 rfl ?_
        refine Dn_goto (t := 124) C dX4_hedged_120 (by decide) ?_
        exact JX4_hedged_124 C hX
    · refine Dn_ldc2 (q := 110) C dX4_hedged_107 q_632 rfl ?_
      exact Dn_lret C hX dX4_hedged_110
  · refine Dn_ald_n (i := 0) (q := 42) C dX4_hedged_41 rfl rfl ?_
    refine Dn_get (ci := 4) (j := 2) (T := TX4) (N := 17) (Cn := RX4) (q := 45) C rfl iX4 (by decide) q_250 dX4_hedged_42 rfl ?_
    refine Dn_ild (q := 47) C dX4_hedged_45 rfl ?_
    refine Dn_callV (ci := 1) (T := TX1) (N := 9) (q := 50) C rfl (kX1_placesOf X.l X.G X.tg) q_636 q_633 q_634 q_635 q_47 ⟨rfl, rfl⟩ (by decide +kernel) ⟨by decide, by decide⟩ dX4_hedged_47 rfl ?_
    refine Dn_ald_n (i := 0) (q := 51) C dX4_hedged_50 rfl rfl ?_
    refine Dn_get (ci := 4) (j := 2) (T := TX4) (N := 17) (Cn := RX4) (q := 54) C rfl iX4 (by decide) q_250 dX4_hedged_51 rfl ?_
    refine Dn_get (ci := 1) (j := 7) (T := TX1) (N := 9) (Cn := RX1) (q := 57) C rfl iX1 (by decide) q_128 dX4_hedged_54 rfl ?_
    refine Dn_ldc2 (q := 60) C dX4_hedged_57 q_632 rfl ?_
    refine Dn_lxor (q := 61) C dX4_hedged_60 rfl ?_
    refine Dn_land (q := 62) C dX4_hedged_61 rfl ?_
    refine Dn_lst (q := 64) C dX4_hedged_62 (by decide) rfl ?_
    refine Dn_lld_n (i := 2) (q := 65) C dX4_hedged_64 rfl rfl ?_
    refine Dn_ldc2 (q := 68) C dX4_hedged_65 q_632 rfl ?_
    refine Dn_lcmp (q := 69) C dX4_hedged_68 rfl ?_
    refine Dn_ifeq (t := 81) (q := 72) C dX4_hedged_69 (by decide) rfl ?_ ?_
    · exact JX4_hedged_81 C hX B29 hB29
    · refine Dn_lld (q := 74) C dX4_hedged_72 rfl ?_
      refine Dn_lld_n (i := 2) (q := 75) C dX4_hedged_74 rfl rfl ?_
      refine Dn_callS (q := 78) C (kX4_areFewer X.l X.G X.tg) q_639 q_637 q_638 q_44 ⟨rfl, rfl⟩ (by decide +kernel) ⟨by decide, by decide⟩ dX4_hedged_75 rfl ?_
      refine Dn_ifeq (t := 93) (q := 81) C dX4_hedged_78 (by decide) rfl ?_ ?_
      · exact JX4_hedged_93 C hX B29 hB29
      · exact JX4_hedged_81 C hX B29 hB29
def jX4_hedged : mK := i_ild 1 (i_call 1 FX4_isBit (i_ifne (i_ald 0 (i_get 4 4 (i_ald 0 (i_get 4 2 (i_callV 1 1 FX1_become (i_push (.long (-1)) (i_lst 2 (i_push (.int 0) (i_ist 4 (jX4_hedged_29)))))))))) (i_push (.long (-3)) (i_lret))))
def FX4_hedged : mF := mEnt 7 jX4_hedged
set_option maxRecDepth 20000 in
theorem kX4_hedged (l : Launch) (G : va_G) (tg : Nat → ClassId) : Ct l G tg yX4_hedged cX4_hedged 7 (some FieldType.long) rX4_hedged FX4_hedged := by
  refine Ct.of RX4 (by decide) rfl (fun X C hX => ?_)
  unfold jX4_hedged
  refine Dn_ild_n (i := 1) (q := 1) C dX4_hedged_0 rfl rfl ?_
  refine Dn_callS (q := 4) C (kX4_isBit X.l X.G X.tg) q_546 q_544 q_545 q_44 ⟨rfl, rfl⟩ (by decide +kernel) ⟨by decide, by decide⟩ dX4_hedged_1 rfl ?_
  refine Dn_ifne (t := 11) (q := 7) C dX4_hedged_4 (by decide) rfl ?_ ?_
  · refine Dn_ald_n (i := 0) (q := 12) C dX4_hedged_11 rfl rfl ?_
    refine Dn_get (ci := 4) (j := 4) (T := TX4) (N := 17) (Cn := RX4) (q := 15) C rfl iX4 (by decide) q_252 dX4_hedged_12 rfl ?_
    refine Dn_ald_n (i := 0) (q := 16) C dX4_hedged_15 rfl rfl ?_
    refine Dn_get (ci := 4) (j := 2) (T := TX4) (N := 17) (Cn := RX4) (q := 19) C rfl iX4 (by decide) q_250 dX4_hedged_16 rfl ?_
    refine Dn_callV (ci := 1) (T := TX1) (N := 9) (q := 22) C rfl (kX1_become X.l X.G X.tg) q_329 q_486 q_327 q_328 q_47 ⟨rfl, rfl⟩ (by decide +kernel) ⟨by decide, by decide⟩ dX4_hedged_19 rfl ?_
    refine Dn_ldc2 (q := 25) C dX4_hedged_22 q_632 rfl ?_
    refine Dn_lst_n (i := 2) (q := 26) C dX4_hedged_25 rfl (by decide) rfl ?_
    refine Dn_iconst (v := 0) (q := 27) C dX4_hedged_26 (by decide) rfl ?_
    refine Dn_ist (q := 29) C dX4_hedged_27 (by decide) rfl ?_
    exact JX4_hedged_29 C hX
  · refine Dn_ldc2 (q := 10) C dX4_hedged_7 q_631 rfl ?_
    exact Dn_lret C hX dX4_hedged_10
abbrev rX4_margin : Room := ({ frames := 4, cells := 0, slots := 0, locals := 94 } : Room)
def jX4_margin : mK := i_ald 0 (i_get 4 3 (i_ald 0 (i_get 4 6 (i_callV 0 1 FX0_marginOf (i_push (.int 1000) (i_ib (fun x y => x + y) (i_iret)))))))
def FX4_margin : mF := mEnt 1 jX4_margin
set_option maxRecDepth 20000 in
theorem kX4_margin (l : Launch) (G : va_G) (tg : Nat → ClassId) : Ct l G tg yX4_margin cX4_margin 1 (some FieldType.int) rX4_margin FX4_margin := by
  refine Ct.of RX4 (by decide) rfl (fun X C hX => ?_)
  unfold jX4_margin
  refine Dn_ald_n (i := 0) (q := 1) C dX4_margin_0 rfl rfl ?_
  refine Dn_get (ci := 4) (j := 3) (T := TX4) (N := 17) (Cn := RX4) (q := 4) C rfl iX4 (by decide) q_251 dX4_margin_1 rfl ?_
  refine Dn_ald_n (i := 0) (q := 5) C dX4_margin_4 rfl rfl ?_
  refine Dn_get (ci := 4) (j := 6) (T := TX4) (N := 17) (Cn := RX4) (q := 8) C rfl iX4 (by decide) q_254 dX4_margin_5 rfl ?_
  refine Dn_callV (ci := 0) (T := TX0) (N := 5) (q := 11) C rfl (kX0_marginOf X.l X.G X.tg) q_607 q_654 q_605 q_606 q_48 ⟨rfl, rfl⟩ (by decide +kernel) ⟨by decide, by decide⟩ dX4_margin_8 rfl ?_
  refine Dn_sipush (v := 1000) (q := 14) C dX4_margin_11 (by decide) rfl ?_
  refine Dn_iadd (q := 15) C dX4_margin_14 rfl ?_
  exact Dn_iret C hX dX4_margin_15
abbrev rX4_price : Room := ({ frames := 4, cells := 0, slots := 0, locals := 94 } : Room)
def jX4_price : mK := i_ald 0 (i_get 4 2 (i_ild 1 (i_callV 1 1 FX1_hasBand (i_ifne (i_ald 0 (i_get 4 3 (i_ald 0 (i_get 4 6 (i_push (.int 1) (i_ild 1 (i_ib (fun x y => x <<< (y &&& 31)) (i_push (.int (-1)) (i_ib (fun x y => x ^^^ y) (i_ib (fun x y => x &&& y) (i_callV 0 1 FX0_marginOf (i_ald 0 (i_get 4 3 (i_ald 0 (i_get 4 6 (i_push (.int 1) (i_ild 1 (i_ib (fun x y => x <<< (y &&& 31)) (i_ib (fun x y => x ||| y) (i_callV 0 1 FX0_marginOf (i_ib (fun x y => x - y) (i_iret)))))))))))))))))))))) (i_push (.int (-2)) (i_iret))))))
def FX4_price : mF := mEnt 2 jX4_price
set_option maxRecDepth 20000 in
theorem kX4_price (l : Launch) (G : va_G) (tg : Nat → ClassId) : Ct l G tg yX4_price cX4_price 2 (some FieldType.int) rX4_price FX4_price := by
  refine Ct.of RX4 (by decide) rfl (fun X C hX => ?_)
  unfold jX4_price
  refine Dn_ald_n (i := 0) (q := 1) C dX4_price_0 rfl rfl ?_
  refine Dn_get (ci := 4) (j := 2) (T := TX4) (N := 17) (Cn := RX4) (q := 4) C rfl iX4 (by decide) q_250 dX4_price_1 rfl ?_
  refine Dn_ild_n (i := 1) (q := 5) C dX4_price_4 rfl rfl ?_
  refine Dn_callV (ci := 1) (T := TX1) (N := 9) (q := 8) C rfl (kX1_hasBand X.l X.G X.tg) q_515 q_512 q_513 q_514 q_47 ⟨rfl, rfl⟩ (by decide +kernel) ⟨by decide, by decide⟩ dX4_price_5 rfl ?_
  refine Dn_ifne (t := 14) (q := 11) C dX4_price_8 (by decide) rfl ?_ ?_
  · refine Dn_ald_n (i := 0) (q := 15) C dX4_price_14 rfl rfl ?_
    refine Dn_get (ci := 4) (j := 3) (T := TX4) (N := 17) (Cn := RX4) (q := 18) C rfl iX4 (by decide) q_251 dX4_price_15 rfl ?_
    refine Dn_ald_n (i := 0) (q := 19) C dX4_price_18 rfl rfl ?_
    refine Dn_get (ci := 4) (j := 6) (T := TX4) (N := 17) (Cn := RX4) (q := 22) C rfl iX4 (by decide) q_254 dX4_price_19 rfl ?_
    refine Dn_iconst (v := 1) (q := 23) C dX4_price_22 (by decide) rfl ?_
    refine Dn_ild_n (i := 1) (q := 24) C dX4_price_23 rfl rfl ?_
    refine Dn_ishl (q := 25) C dX4_price_24 rfl ?_
    refine Dn_iconst (v := (-1)) (q := 26) C dX4_price_25 (by decide) rfl ?_
    refine Dn_ixor (q := 27) C dX4_price_26 rfl ?_
    refine Dn_iand (q := 28) C dX4_price_27 rfl ?_
    refine Dn_callV (ci := 0) (T := TX0) (N := 5) (q := 31) C rfl (kX0_marginOf X.l X.G X.tg) q_607 q_654 q_605 q_606 q_48 ⟨rfl, rfl⟩ (by decide +kernel) ⟨by decide, by decide⟩ dX4_price_28 rfl ?_
    refine Dn_ald_n (i := 0) (q := 32) C dX4_price_31 rfl rfl ?_
    refine Dn_get (ci := 4) (j := 3) (T := TX4) (N := 17) (Cn := RX4) (q := 35) C rfl iX4 (by decide) q_251 dX4_price_32 rfl ?_
    refine Dn_ald_n (i := 0) (q := 36) C dX4_price_35 rfl rfl ?_
    refine Dn_get (ci := 4) (j := 6) (T := TX4) (N := 17) (Cn := RX4) (q := 39) C rfl iX4 (by decide) q_254 dX4_price_36 rfl ?_
    refine Dn_iconst (v := 1) (q := 40) C dX4_price_39 (by decide) rfl ?_
    refine Dn_ild_n (i := 1) (q := 41) C dX4_price_40 rfl rfl ?_
    refine Dn_ishl (q := 42) C dX4_price_41 rfl ?_
    refine Dn_ior (q := 43) C dX4_price_42 rfl ?_
    refine Dn_callV (ci := 0) (T := TX0) (N := 5) (q := 46) C rfl (kX0_marginOf X.l X.G X.tg) q_607 q_654 q_605 q_606 q_48 ⟨rfl, rfl⟩ (by decide +kernel) ⟨by decide, by decide⟩ dX4_price_43 rfl ?_
    refine Dn_isub (q := 47) C dX4_price_46 rfl ?_
    exact Dn_iret C hX dX4_price_47
  · refine Dn_bipush (v := (-2)) (q := 13) C dX4_price_11 (by decide) rfl ?_
    exact Dn_iret C hX dX4_price_13
abbrev rX4_way : Room := ({ frames := 5, cells := 0, slots := 0, locals := 116 } : Room)
def jX4_way_100 (B73 : mK) : mK := i_lb (fun x y => x &&& y) (i_lst 2 (i_lld 2 (i_ild 1 (i_ls (fun x y => (x.toUInt64 >>> (y.toInt64.toUInt64 &&& Int64.toUInt64 63)).toInt64) (i_push (.long 1) (i_lb (fun x y => x &&& y) (i_push (.long 1) (i_lcmp (i_ifne (i_ald 0 (i_get 4 2 (i_lld 2 (i_callV 1 1 FX1_around (i_lst 2 (i_ild 4 (i_call 1 FX4_hourBehind (i_ist 4 (i_inc 5 1 (B73)))))))))) (i_ild 5 (i_iret)))))))))))
set_option maxRecDepth 20000 in
theorem JX4_way_100 {X : mC} (C : Cx X rX4_way cX4_way 6 RX4 (some FieldType.int)) (hX : Rx X) (B73 : mK) (hB73 : Den X rX4_way 6 73 B73) : Den X rX4_way 6 100 (jX4_way_100 B73) := by
  unfold jX4_way_100
  refine Dn_land (q := 101) C dX4_way_100 rfl ?_
  refine Dn_lst_n (i := 2) (q := 102) C dX4_way_101 rfl (by decide) rfl ?_
  refine Dn_lld_n (i := 2) (q := 103) C dX4_way_102 rfl rfl ?_
  refine Dn_ild_n (i := 1) (q := 104) C dX4_way_103 rfl rfl ?_
  refine Dn_lushr (q := 105) C dX4_way_104 rfl ?_
  refine Dn_lconst (v := 1) (q := 106) C dX4_way_105 (by decide) rfl ?_
  refine Dn_land (q := 107) C dX4_way_106 rfl ?_
  refine Dn_lconst (v := 1) (q := 108) C dX4_way_107 (by decide) rfl ?_
  refine Dn_lcmp (q := 109) C dX4_way_108 rfl ?_
  refine Dn_ifne (t := 115) (q := 112) C dX4_way_109 (by decide) rfl ?_ ?_
  · refine Dn_ald_n (i := 0) (q := 116) C dX4_way_115 rfl rfl ?_
    refine Dn_get (ci := 4) (j := 2) (T := TX4) (N := 17) (Cn := RX4) (q := 119) C rfl iX4 (by decide) q_250 dX4_way_116 rfl ?_
    refine Dn_lld_n (i := 2) (q := 120) C dX4_way_119 rfl rfl ?_
    refine Dn_callV (ci := 1) (T := TX1) (N := 9) (q := 123) C rfl (kX1_around X.l X.G X.tg) q_671 q_668 q_669 q_670 q_47 ⟨rfl, rfl⟩ (by decide +kernel) ⟨by decide, by decide⟩ dX4_way_120 rfl ?_
    refine Dn_lst_n (i := 2) (q := 124) C dX4_way_123 rfl (by decide) rfl ?_
    refine Dn_ild (q := 126) C dX4_way_124 rfl ?_
    refine Dn_callS (q := 129) C (kX4_hourBehind X.l X.G X.tg) q_563 q_561 q_562 q_44 ⟨rfl, rfl⟩ (by decide +kernel) ⟨by decide, by decide⟩ dX4_way_126 rfl ?_
    refine Dn_ist (q := 131) C dX4_way_129 (by decide) rfl ?_
    refine Dn_inc (z := 1) (q := 134) C dX4_way_131 (by decide) (by decide) rfl ?_
    refine Dn_goto (t := 73) C dX4_way_134 (by decide) ?_
    exact hB73
  · refine Dn_ild (q := 114) C dX4_way_112 rfl ?_
    exact Dn_iret C hX dX4_way_114
def jX4_way_73 : mK := i_loop (fun B73 => i_ild 5 (i_push (.int 99) (i_icgt (i_push (.int (-1)) (i_iret)) (i_lld 2 (i_ild 4 (i_call 1 FX4_isHour (i_ifeq (i_push (.long 0) ((jX4_way_100 B73))) (i_ald 0 (i_get 4 16 (i_ild 4 (i_lald ((jX4_way_100 B73))))))))))))) 1000
set_option maxRecDepth 20000 in
theorem JX4_way_73 {X : mC} (C : Cx X rX4_way cX4_way 6 RX4 (some FieldType.int)) (hX : Rx X) : Den X rX4_way 6 73 jX4_way_73 := by
  unfold jX4_way_73
  refine Dn_loop (fun B73 hB73 => ?_) 1000
  refine Dn_ild (q := 75) C dX4_way_73 rfl ?_
  refine Dn_bipush (v := 99) (q := 77) C dX4_way_75 (by decide) rfl ?_
  refine Dn_icgt (t := 137) (q := 80) C dX4_way_77 (by decide) rfl ?_ ?_
  · refine Dn_iconst (v := (-1)) (q := 138) C dX4_way_137 (by decide) rfl ?_
    exact Dn_iret C hX dX4_way_138
  · refine Dn_lld_n (i := 2) (q := 81) C dX4_way_80 rfl rfl ?_
    refine Dn_ild (q := 83) C dX4_way_81 rfl ?_
    refine Dn_callS (q := 86) C (kX4_isHour X.l X.G X.tg) q_534 q_551 q_533 q_44 ⟨rfl, rfl⟩ (by decide +kernel) ⟨by decide, by decide⟩ dX4_way_83 rfl ?_
    refine Dn_ifeq (t := 99) (q := 89) C dX4_way_86 (by decide) rfl ?_ ?_
    · refine Dn_lconst (v := 0) (q := 100) C dX4_way_99 (by decide) rfl ?_
      exact JX4_way_100 C hX B73 hB73
    · refine Dn_ald_n (i := 0) (q := 90) C dX4_way_89 rfl rfl ?_
      refine Dn_get (ci := 4) (j := 16) (T := TX4) (N := 17) (Cn := RX4) (q := 93) C rfl iX4 (by decide) q_264 dX4_way_90 rfl ?_
      refine Dn_ild (q := 95) C dX4_way_93 rfl ?_
      refine Dn_lald (q := 96) C dX4_way_95 rfl ?_
      refine Dn_goto (t := 100) C dX4_way_96 (by decide) ?_
      exact JX4_way_100 C hX B73 hB73
def jX4_way_27 : mK := i_loop (fun B27 => i_ild 2 (i_push (.int 12) (i_icge (i_push (.long 1) (i_ald 0 (i_get 4 7 (i_ls (fun x y => x <<< (y.toInt64 &&& 63)) (i_lst 2 (i_ald 0 (i_get 4 8 (i_ist 4 (i_push (.int 0) (i_ist 5 (jX4_way_73))))))))))) (i_ald 0 (i_get 4 16 (i_ild 2 (i_ald 0 (i_get 4 3 (i_ald 0 (i_get 4 6 (i_ild 2 (i_callV 0 2 FX0_heardOfWalk (i_last (i_inc 2 1 (B27))))))))))))))) 1000
set_option maxRecDepth 20000 in
theorem JX4_way_27 {X : mC} (C : Cx X rX4_way cX4_way 6 RX4 (some FieldType.int)) (hX : Rx X) : Den X rX4_way 6 27 jX4_way_27 := by
  unfold jX4_way_27
  refine Dn_loop (fun B27 hB27 => ?_) 1000
  refine Dn_ild_n (i := 2) (q := 28) C dX4_way_27 rfl rfl ?_
  refine Dn_bipush (v := 12) (q := 30) C dX4_way_28 (by decide) rfl ?_
  refine Dn_icge (t := 57) (q := 33) C dX4_way_30 (by decide) rfl ?_ ?_
  · refine Dn_lconst (v := 1) (q := 58) C dX4_way_57 (by decide) rfl ?_
    refine Dn_ald_n (i := 0) (q := 59) C dX4_way_58 rfl rfl ?_
    refine Dn_get (ci := 4) (j := 7) (T := TX4) (N := 17) (Cn := RX4) (q := 62) C rfl iX4 (by decide) q_255 dX4_way_59 rfl ?_
    refine Dn_lshl (q := 63) C dX4_way_62 rfl ?_
    refine Dn_lst_n (i := 2) (q := 64) C dX4_way_63 rfl (by decide) rfl ?_
    refine Dn_ald_n (i := 0) (q := 65) C dX4_way_64 rfl rfl ?_
    refine Dn_get (ci := 4) (j := 8) (T := TX4) (N := 17) (Cn := RX4) (q := 68) C rfl iX4 (by decide) q_256 dX4_way_65 rfl ?_
    refine Dn_ist (q := 70) C dX4_way_68 (by decide) rfl ?_
    refine Dn_iconst (v := 0) (q := 71) C dX4_way_70 (by decide) rfl ?_
    refine Dn_ist (q := 73) C dX4_way_71 (by decide) rfl ?_
    exact JX4_way_73 C hX
  · refine Dn_ald_n (i := 0) (q := 34) C dX4_way_33 rfl rfl ?_
    refine Dn_get (ci := 4) (j := 16) (T := TX4) (N := 17) (Cn := RX4) (q := 37) C rfl iX4 (by decide) q_264 dX4_way_34 rfl ?_
    refine Dn_ild_n (i := 2) (q := 38) C dX4_way_37 rfl rfl ?_
    refine Dn_ald_n (i := 0) (q := 39) C dX4_way_38 rfl rfl ?_
    refine Dn_get (ci := 4) (j := 3) (T := TX4) (N := 17) (Cn := RX4) (q := 42) C rfl iX4 (by decide) q_251 dX4_way_39 rfl ?_
    refine Dn_ald_n (i := 0) (q := 43) C dX4_way_42 rfl rfl ?_
    refine Dn_get (ci := 4) (j := 6) (T := TX4) (N := 17) (Cn := RX4) (q := 46) C rfl iX4 (by decide) q_254 dX4_way_43 rfl ?_
    refine Dn_ild_n (i := 2) (q := 47) C dX4_way_46 rfl rfl ?_
    refine Dn_callV (ci := 0) (T := TX0) (N := 5) (q := 50) C rfl (kX0_heardOfWalk X.l X.G X.tg) q_666 q_663 q_664 q_665 q_48 ⟨rfl, rfl⟩ (by decide +kernel) ⟨by decide, by decide⟩ dX4_way_47 rfl ?_
    refine Dn_last (q := 51) C dX4_way_50 rfl ?_
    refine Dn_inc (z := 1) (q := 54) C dX4_way_51 (by decide) (by decide) rfl ?_
    refine Dn_goto (t := 27) C dX4_way_54 (by decide) ?_
    exact hB27
def jX4_way : mK := i_ald 0 (i_get 4 2 (i_ild 1 (i_callV 1 1 FX1_hasPlace (i_ifne (i_ald 0 (i_get 4 7 (i_push (.int (-1)) (i_icne (i_push (.int 0) (i_ist 2 (jX4_way_27))) (i_push (.int (-4)) (i_iret)))))) (i_push (.int (-2)) (i_iret))))))
def FX4_way : mF := mEnt 6 jX4_way
set_option maxRecDepth 20000 in
theorem kX4_way (l : Launch) (G : va_G) (tg : Nat → ClassId) : Ct l G tg yX4_way cX4_way 6 (some FieldType.int) rX4_way FX4_way := by
  refine Ct.of RX4 (by decide) rfl (fun X C hX => ?_)
  unfold jX4_way
  refine Dn_ald_n (i := 0) (q := 1) C dX4_way_0 rfl rfl ?_
  refine Dn_get (ci := 4) (j := 2) (T := TX4) (N := 17) (Cn := RX4) (q := 4) C rfl iX4 (by decide) q_250 dX4_way_1 rfl ?_
  refine Dn_ild_n (i := 1) (q := 5) C dX4_way_4 rfl rfl ?_
  refine Dn_callV (ci := 1) (T := TX1) (N := 9) (q := 8) C rfl (kX1_hasPlace X.l X.G X.tg) q_494 q_491 q_492 q_493 q_47 ⟨rfl, rfl⟩ (by decide +kernel) ⟨by decide, by decide⟩ dX4_way_5 rfl ?_
  refine Dn_ifne (t := 14) (q := 11) C dX4_way_8 (by decide) rfl ?_ ?_
  · refine Dn_ald_n (i := 0) (q := 15) C dX4_way_14 rfl rfl ?_
    refine Dn_get (ci := 4) (j := 7) (T := TX4) (N := 17) (Cn := RX4) (q := 18) C rfl iX4 (by decide) q_255 dX4_way_15 rfl ?_
    refine Dn_iconst (v := (-1)) (q := 19) C dX4_way_18 (by decide) rfl ?_
    refine Dn_icne (t := 25) (q := 22) C dX4_way_19 (by decide) rfl ?_ ?_
    · refine Dn_iconst (v := 0) (q := 26) C dX4_way_25 (by decide) rfl ?_
      refine Dn_ist_n (i := 2) (q := 27) C dX4_way_26 rfl (by decide) rfl ?_
      exact JX4_way_27 C hX
    · refine Dn_bipush (v := (-4)) (q := 24) C dX4_way_22 (by decide) rfl ?_
      exact Dn_iret C hX dX4_way_24
  · refine Dn_bipush (v := (-2)) (q := 13) C dX4_way_11 (by decide) rfl ?_
    exact Dn_iret C hX dX4_way_13
abbrev rX4_weightOf : Room := ({ frames := 1, cells := 0, slots := 0, locals := 21 } : Room)
def jX4_weightOf_44 (B5 : mK) : mK := i_inc 4 1 (B5)
set_option maxRecDepth 20000 in
theorem JX4_weightOf_44 {X : mC} (C : Cx X rX4_weightOf cX4_weightOf 5 RX4 (some FieldType.int)) (hX : Rx X) (B5 : mK) (hB5 : Den X rX4_weightOf 5 5 B5) : Den X rX4_weightOf 5 44 (jX4_weightOf_44 B5) := by
  unfold jX4_weightOf_44
  refine Dn_inc (z := 1) (q := 47) C dX4_weightOf_44 (by decide) (by decide) rfl ?_
  refine Dn_goto (t := 5) C dX4_weightOf_47 (by decide) ?_
  exact hB5
def jX4_weightOf_42 (B5 : mK) : mK := i_ib (fun x y => x * y) (i_ist 3 ((jX4_weightOf_44 B5)))
set_option maxRecDepth 20000 in
theorem JX4_weightOf_42 {X : mC} (C : Cx X rX4_weightOf cX4_weightOf 5 RX4 (some FieldType.int)) (hX : Rx X) (B5 : mK) (hB5 : Den X rX4_weightOf 5 5 B5) : Den X rX4_weightOf 5 42 (jX4_weightOf_42 B5) := by
  unfold jX4_weightOf_42
  refine Dn_imul (q := 43) C dX4_weightOf_42 rfl ?_
  refine Dn_ist_n (i := 3) (q := 44) C dX4_weightOf_43 rfl (by decide) rfl ?_
  exact JX4_weightOf_44 C hX B5 hB5
def jX4_weightOf_5 : mK := i_loop (fun B5 => i_ild 4 (i_push (.int 6) (i_icge (i_ild 3 (i_iret)) (i_ild 4 (i_ald 0 (i_get 4 6 (i_call 2 FX4_isIn (i_ifeq ((jX4_weightOf_44 B5)) (i_ild 3 (i_ild 4 (i_ild 1 (i_call 2 FX4_isIn (i_ifeq (i_push (.int 10) (i_ild 2 (i_ib (fun x y => x - y) ((jX4_weightOf_42 B5))))) (i_ild 2 ((jX4_weightOf_42 B5)))))))))))))))) 1000
set_option maxRecDepth 20000 in
theorem JX4_weightOf_5 {X : mC} (C : Cx X rX4_weightOf cX4_weightOf 5 RX4 (some FieldType.int)) (hX : Rx X) : Den X rX4_weightOf 5 5 jX4_weightOf_5 := by
  unfold jX4_weightOf_5
  refine Dn_loop (fun B5 hB5 => ?_) 1000
  refine Dn_ild (q := 7) C dX4_weightOf_5 rfl ?_
  refine Dn_bipush (v := 6) (q := 9) C dX4_weightOf_7 (by decide) rfl ?_
  refine Dn_icge (t := 50) (q := 12) C dX4_weightOf_9 (by decide) rfl ?_ ?_
  · refine Dn_ild_n (i := 3) (q := 51) C dX4_weightOf_50 rfl rfl ?_
    exact Dn_iret C hX dX4_weightOf_51
  · refine Dn_ild (q := 14) C dX4_weightOf_12 rfl ?_
    refine Dn_ald_n (i := 0) (q := 15) C dX4_weightOf_14 rfl rfl ?_
    refine Dn_get (ci := 4) (j := 6) (T := TX4) (N := 17) (Cn := RX4) (q := 18) C rfl iX4 (by decide) q_254 dX4_weightOf_15 rfl ?_
    refine Dn_callS (q := 21) C (kX4_isIn X.l X.G X.tg) q_518 q_516 q_517 q_44 ⟨rfl, rfl⟩ (by decide +kernel) ⟨by decide, by decide⟩ dX4_weightOf_18 rfl ?_
    refine Dn_ifeq (t := 44) (q := 24) C dX4_weightOf_21 (by decide) rfl ?_ ?_
    · exact JX4_weightOf_44 C hX B5 hB5
    · refine Dn_ild_n (i := 3) (q := 25) C dX4_weightOf_24 rfl rfl ?_
      refine Dn_ild (q := 27) C dX4_weightOf_25 rfl ?_
      refine Dn_ild_n (i := 1) (q := 28) C dX4_weightOf_27 rfl rfl ?_
      refine Dn_callS (q := 31) C (kX4_isIn X.l X.G X.tg) q_518 q_516 q_517 q_44 ⟨rfl, rfl⟩ (by decide +kernel) ⟨by decide, by decide⟩ dX4_weightOf_28 rfl ?_
      refine Dn_ifeq (t := 38) (q := 34) C dX4_weightOf_31 (by decide) rfl ?_ ?_
      · refine Dn_bipush (v := 10) (q := 40) C dX4_weightOf_38 (by decide) rfl ?_
        refine Dn_ild_n (i := 2) (q := 41) C dX4_weightOf_40 rfl rfl ?_
        refine Dn_isub (q := 42) C dX4_weightOf_41 rfl ?_
        exact JX4_weightOf_42 C hX B5 hB5
      · refine Dn_ild_n (i := 2) (q := 35) C dX4_weightOf_34 rfl rfl ?_
        refine Dn_goto (t := 42) C dX4_weightOf_35 (by decide) ?_
        exact JX4_weightOf_42 C hX B5 hB5
def jX4_weightOf : mK := i_push (.int 1) (i_ist 3 (i_push (.int 0) (i_ist 4 (jX4_weightOf_5))))
def FX4_weightOf : mF := mEnt 5 jX4_weightOf
set_option maxRecDepth 20000 in
theorem kX4_weightOf (l : Launch) (G : va_G) (tg : Nat → ClassId) : Ct l G tg yX4_weightOf cX4_weightOf 5 (some FieldType.int) rX4_weightOf FX4_weightOf := by
  refine Ct.of RX4 (by decide) rfl (fun X C hX => ?_)
  unfold jX4_weightOf
  refine Dn_iconst (v := 1) (q := 1) C dX4_weightOf_0 (by decide) rfl ?_
  refine Dn_ist_n (i := 3) (q := 2) C dX4_weightOf_1 rfl (by decide) rfl ?_
  refine Dn_iconst (v := 0) (q := 3) C dX4_weightOf_2 (by decide) rfl ?_
  refine Dn_ist (q := 5) C dX4_weightOf_3 (by decide) rfl ?_
  exact JX4_weightOf_5 C hX
abbrev rX4_greatestDivisor : Room := ({ frames := 0, cells := 0, slots := 0, locals := 0 } : Room)
def jX4_greatestDivisor_26 : mK := i_ild 0 (i_iret)
set_option maxRecDepth 20000 in
theorem JX4_greatestDivisor_26 {X : mC} (C : Cx X rX4_greatestDivisor cX4_greatestDivisor 4 RX4 (some FieldType.int)) (hX : Rx X) : Den X rX4_greatestDivisor 4 26 jX4_greatestDivisor_26 := by
  unfold jX4_greatestDivisor_26
  refine Dn_ild_n (i := 0) (q := 27) C dX4_greatestDivisor_26 rfl rfl ?_
  exact Dn_iret C hX dX4_greatestDivisor_27
def jX4_greatestDivisor_2 : mK := i_loop (fun B2 => i_ild 2 (i_push (.int 100) (i_icge (jX4_greatestDivisor_26) (i_ild 1 (i_ifeq (jX4_greatestDivisor_26) (i_ild 0 (i_ild 1 (i_irem (i_ist 3 (i_ild 1 (i_ist 0 (i_ild 3 (i_ist 1 (i_inc 2 1 (B2))))))))))))))) 1000
set_option maxRecDepth 20000 in
theorem JX4_greatestDivisor_2 {X : mC} (C : Cx X rX4_greatestDivisor cX4_greatestDivisor 4 RX4 (some FieldType.int)) (hX : Rx X) : Den X rX4_greatestDivisor 4 2 jX4_greatestDivisor_2 := by
  unfold jX4_greatestDivisor_2
  refine Dn_loop (fun B2 hB2 => ?_) 1000
  refine Dn_ild_n (i := 2) (q := 3) C dX4_greatestDivisor_2 rfl rfl ?_
  refine Dn_bipush (v := 100) (q := 5) C dX4_greatestDivisor_3 (by decide) rfl ?_
  refine Dn_icge (t := 26) (q := 8) C dX4_greatestDivisor_5 (by decide) rfl ?_ ?_
  · exact JX4_greatestDivisor_26 C hX
  · refine Dn_ild_n (i := 1) (q := 9) C dX4_greatestDivisor_8 rfl rfl ?_
    refine Dn_ifeq (t := 26) (q := 12) C dX4_greatestDivisor_9 (by decide) rfl ?_ ?_
    · exact JX4_greatestDivisor_26 C hX
    · refine Dn_ild_n (i := 0) (q := 13) C dX4_greatestDivisor_12 rfl rfl ?_
      refine Dn_ild_n (i := 1) (q := 14) C dX4_greatestDivisor_13 rfl rfl ?_
      refine Dn_irem (q := 15) C dX4_greatestDivisor_14 rfl ?_
      refine Dn_ist_n (i := 3) (q := 16) C dX4_greatestDivisor_15 rfl (by decide) rfl ?_
      refine Dn_ild_n (i := 1) (q := 17) C dX4_greatestDivisor_16 rfl rfl ?_
      refine Dn_ist_n (i := 0) (q := 18) C dX4_greatestDivisor_17 rfl (by decide) rfl ?_
      refine Dn_ild_n (i := 3) (q := 19) C dX4_greatestDivisor_18 rfl rfl ?_
      refine Dn_ist_n (i := 1) (q := 20) C dX4_greatestDivisor_19 rfl (by decide) rfl ?_
      refine Dn_inc (z := 1) (q := 23) C dX4_greatestDivisor_20 (by decide) (by decide) rfl ?_
      refine Dn_goto (t := 2) C dX4_greatestDivisor_23 (by decide) ?_
      exact hB2
def jX4_greatestDivisor : mK := i_push (.int 0) (i_ist 2 (jX4_greatestDivisor_2))
def FX4_greatestDivisor : mF := mEnt 4 jX4_greatestDivisor
set_option maxRecDepth 20000 in
theorem kX4_greatestDivisor (l : Launch) (G : va_G) (tg : Nat → ClassId) : Ct l G tg yX4_greatestDivisor cX4_greatestDivisor 4 (some FieldType.int) rX4_greatestDivisor FX4_greatestDivisor := by
  refine Ct.of RX4 (by decide) rfl (fun X C hX => ?_)
  unfold jX4_greatestDivisor
  refine Dn_iconst (v := 0) (q := 1) C dX4_greatestDivisor_0 (by decide) rfl ?_
  refine Dn_ist_n (i := 2) (q := 2) C dX4_greatestDivisor_1 rfl (by decide) rfl ?_
  exact JX4_greatestDivisor_2 C hX
abbrev rX4_wind : Room := ({ frames := 3, cells := 0, slots := 0, locals := 68 } : Room)
def jX4_wind_182 : mK := i_iret
set_option maxRecDepth 20000 in
theorem JX4_wind_182 {X : mC} (C : Cx X rX4_wind cX4_wind 10 RX4 (some FieldType.int)) (hX : Rx X) : Den X rX4_wind 10 182 jX4_wind_182 := by
  unfold jX4_wind_182
  exact Dn_iret C hX dX4_wind_182
def jX4_wind_179 : mK := i_ild 8 (i_idiv (jX4_wind_182))
set_option maxRecDepth 20000 in
theorem JX4_wind_179 {X : mC} (C : Cx X rX4_wind cX4_wind 10 RX4 (some FieldType.int)) (hX : Rx X) : Den X rX4_wind 10 179 jX4_wind_179 := by
  unfold jX4_wind_179
  refine Dn_ild (q := 181) C dX4_wind_179 rfl ?_
  refine Dn_idiv (q := 182) C dX4_wind_181 rfl ?_
  exact JX4_wind_182 C hX
def jX4_wind_142 (B75 : mK) : mK := i_inc 8 1 (B75)
set_option maxRecDepth 20000 in
theorem JX4_wind_142 {X : mC} (C : Cx X rX4_wind cX4_wind 10 RX4 (some FieldType.int)) (hX : Rx X) (B75 : mK) (hB75 : Den X rX4_wind 10 75 B75) : Den X rX4_wind 10 142 (jX4_wind_142 B75) := by
  unfold jX4_wind_142
  refine Dn_inc (z := 1) (q := 145) C dX4_wind_142 (by decide) (by decide) rfl ?_
  refine Dn_goto (t := 75) C dX4_wind_145 (by decide) ?_
  exact hB75
def jX4_wind_139 (B75 : mK) : mK := i_ib (fun x y => x + y) (i_ist 6 ((jX4_wind_142 B75)))
set_option maxRecDepth 20000 in
theorem JX4_wind_139 {X : mC} (C : Cx X rX4_wind cX4_wind 10 RX4 (some FieldType.int)) (hX : Rx X) (B75 : mK) (hB75 : Den X rX4_wind 10 75 B75) : Den X rX4_wind 10 139 (jX4_wind_139 B75) := by
  unfold jX4_wind_139
  refine Dn_iadd (q := 140) C dX4_wind_139 rfl ?_
  refine Dn_ist (q := 142) C dX4_wind_140 (by decide) rfl ?_
  exact JX4_wind_142 C hX B75 hB75
def jX4_wind_75 : mK := i_loop (fun B75 => i_ild 8 (i_ald 0 (i_get 4 2 (i_callV 1 0 FX1_bandSets (i_icge (i_ild 7 (i_ild 6 (i_call 2 FX4_greatestDivisor (i_ist 8 (i_ild 8 (i_push (.int 1) (i_icge (i_ild 4 (i_ifne (i_ild 7 (jX4_wind_179)) (i_ild 6 (jX4_wind_179)))) (i_push (.int 0) (jX4_wind_182))))))))) (i_ild 8 (i_ald 0 (i_get 4 6 (i_push (.int (-1)) (i_ib (fun x y => x ^^^ y) (i_ib (fun x y => x &&& y) (i_ifne ((jX4_wind_142 B75)) (i_ald 0 (i_ild 8 (i_ild 3 (i_callV 4 2 FX4_weightOf (i_ist 9 (i_ild 7 (i_ild 9 (i_ib (fun x y => x + y) (i_ist 7 (i_ild 6 (i_ild 5 (i_ald 0 (i_get 4 3 (i_ild 8 (i_ild 1 (i_ild 2 (i_callV 0 3 FX0_noiseOf (i_icle (i_push (.int 0) ((jX4_wind_139 B75))) (i_ild 9 ((jX4_wind_139 B75))))))))))))))))))))))))))))))))) 1000
set_option maxRecDepth 20000 in
theorem JX4_wind_75 {X : mC} (C : Cx X rX4_wind cX4_wind 10 RX4 (some FieldType.int)) (hX : Rx X) : Den X rX4_wind 10 75 jX4_wind_75 := by
  unfold jX4_wind_75
  refine Dn_loop (fun B75 hB75 => ?_) 1000
  refine Dn_ild (q := 77) C dX4_wind_75 rfl ?_
  refine Dn_ald_n (i := 0) (q := 78) C dX4_wind_77 rfl rfl ?_
  refine Dn_get (ci := 4) (j := 2) (T := TX4) (N := 17) (Cn := RX4) (q := 81) C rfl iX4 (by decide) q_250 dX4_wind_78 rfl ?_
  refine Dn_callV (ci := 1) (T := TX1) (N := 9) (q := 84) C rfl (kX1_bandSets X.l X.G X.tg) q_238 q_235 q_236 q_237 q_47 ⟨rfl, rfl⟩ (by decide +kernel) ⟨by decide, by decide⟩ dX4_wind_81 rfl ?_
  refine Dn_icge (t := 148) (q := 87) C dX4_wind_84 (by decide) rfl ?_ ?_
  · refine Dn_ild (q := 150) C dX4_wind_148 rfl ?_
    refine Dn_ild (q := 152) C dX4_wind_150 rfl ?_
    refine Dn_callS (q := 155) C (kX4_greatestDivisor X.l X.G X.tg) q_683 q_681 q_682 q_44 ⟨rfl, rfl⟩ (by decide +kernel) ⟨by decide, by decide⟩ dX4_wind_152 rfl ?_
    refine Dn_ist (q := 157) C dX4_wind_155 (by decide) rfl ?_
    refine Dn_ild (q := 159) C dX4_wind_157 rfl ?_
    refine Dn_iconst (v := 1) (q := 160) C dX4_wind_159 (by decide) rfl ?_
    refine Dn_icge (t := 167) (q := 163) C dX4_wind_160 (by decide) rfl ?_ ?_
    · refine Dn_ild (q := 169) C dX4_wind_167 rfl ?_
      refine Dn_ifne (t := 177) (q := 172) C dX4_wind_169 (by decide) rfl ?_ ?_
      · refine Dn_ild (q := 179) C dX4_wind_177 rfl ?_
        exact JX4_wind_179 C hX
      · refine Dn_ild (q := 174) C dX4_wind_172 rfl ?_
        refine Dn_goto (t := 179) C dX4_wind_174 (by decide) ?_
        exact JX4_wind_179 C hX
    · refine Dn_iconst (v := 0) (q := 164) C dX4_wind_163 (by decide) rfl ?_
      refine Dn_goto (t := 182) C dX4_wind_164 (by decide) ?_
      exact JX4_wind_182 C hX
  · refine Dn_ild (q := 89) C dX4_wind_87 rfl ?_
    refine Dn_ald_n (i := 0) (q := 90) C dX4_wind_89 rfl rfl ?_
    refine Dn_get (ci := 4) (j := 6) (T := TX4) (N := 17) (Cn := RX4) (q := 93) C rfl iX4 (by decide) q_254 dX4_wind_90 rfl ?_
    refine Dn_iconst (v := (-1)) (q := 94) C dX4_wind_93 (by decide) rfl ?_
    refine Dn_ixor (q := 95) C dX4_wind_94 rfl ?_
    refine Dn_iand (q := 96) C dX4_wind_95 rfl ?_
    refine Dn_ifne (t := 142) (q := 99) C dX4_wind_96 (by decide) rfl ?_ ?_
    · exact JX4_wind_142 C hX B75 hB75
    · refine Dn_ald_n (i := 0) (q := 100) C dX4_wind_99 rfl rfl ?_
      refine Dn_ild (q := 102) C dX4_wind_100 rfl ?_
      refine Dn_ild_n (i := 3) (q := 103) C dX4_wind_102 rfl rfl ?_
      refine Dn_callV (ci := 4) (T := TX4) (N := 17) (q := 106) C rfl (kX4_weightOf X.l X.G X.tg) q_680 q_677 q_679 q_12 q_44 ⟨rfl, rfl⟩ (by decide +kernel) ⟨by decide, by decide⟩ dX4_wind_103 rfl ?_
      refine Dn_ist (q := 108) C dX4_wind_106 (by decide) rfl ?_
      refine Dn_ild (q := 110) C dX4_wind_108 rfl ?_
      refine Dn_ild (q := 112) C dX4_wind_110 rfl ?_
      refine Dn_iadd (q := 113) C dX4_wind_112 rfl ?_
      refine Dn_ist (q := 115) C dX4_wind_113 (by decide) rfl ?_
      refine Dn_ild (q := 117) C dX4_wind_115 rfl ?_
      refine Dn_ild (q := 119) C dX4_wind_117 rfl ?_
      refine Dn_ald_n (i := 0) (q := 120) C dX4_wind_119 rfl rfl ?_
      refine Dn_get (ci := 4) (j := 3) (T := TX4) (N := 17) (Cn := RX4) (q := 123) C rfl iX4 (by decide) q_251 dX4_wind_120 rfl ?_
      refine Dn_ild (q := 125) C dX4_wind_123 rfl ?_
      refine Dn_ild_n (i := 1) (q := 126) C dX4_wind_125 rfl rfl ?_
      refine Dn_ild_n (i := 2) (q := 127) C dX4_wind_126 rfl rfl ?_
      refine Dn_callV (ci := 0) (T := TX0) (N := 5) (q := 130) C rfl (kX0_noiseOf X.l X.G X.tg) q_531 q_528 q_529 q_530 q_48 ⟨rfl, rfl⟩ (by decide +kernel) ⟨by decide, by decide⟩ dX4_wind_127 rfl ?_
      refine Dn_icle (t := 138) (q := 133) C dX4_wind_130 (by decide) rfl ?_ ?_
      · refine Dn_iconst (v := 0) (q := 139) C dX4_wind_138 (by decide) rfl ?_
        exact JX4_wind_139 C hX B75 hB75
      · refine Dn_ild (q := 135) C dX4_wind_133 rfl ?_
        refine Dn_goto (t := 139) C dX4_wind_135 (by decide) ?_
        exact JX4_wind_139 C hX B75 hB75
def jX4_wind_39 : mK := i_push (.int (-3)) (i_iret)
set_option maxRecDepth 20000 in
theorem JX4_wind_39 {X : mC} (C : Cx X rX4_wind cX4_wind 10 RX4 (some FieldType.int)) (hX : Rx X) : Den X rX4_wind 10 39 jX4_wind_39 := by
  unfold jX4_wind_39
  refine Dn_bipush (v := (-3)) (q := 41) C dX4_wind_39 (by decide) rfl ?_
  exact Dn_iret C hX dX4_wind_41
def jX4_wind : mK := i_ald 0 (i_get 4 2 (i_ild 1 (i_callV 1 1 FX1_hasPlace (i_ifne (i_ild 2 (i_call 1 FX4_isHour (i_ifeq (jX4_wind_39) (i_ild 3 (i_iflt (jX4_wind_39) (i_ild 3 (i_push (.int 10) (i_icgt (jX4_wind_39) (i_ild 4 (i_call 1 FX4_isBit (i_ifne (i_ald 0 (i_get 4 3 (i_ild 1 (i_callV 0 1 FX0_fluteAt (i_ald 0 (i_get 4 3 (i_ald 0 (i_get 4 6 (i_ild 1 (i_ild 2 (i_callV 0 3 FX0_noiseOf (i_ib (fun x y => x - y) (i_ist 5 (i_push (.int 0) (i_ist 6 (i_push (.int 0) (i_ist 7 (i_push (.int 0) (i_ist 8 (jX4_wind_75)))))))))))))))))))) (jX4_wind_39)))))))))))) (i_push (.int (-2)) (i_iret))))))
def FX4_wind : mF := mEnt 10 jX4_wind
set_option maxRecDepth 20000 in
theorem kX4_wind (l : Launch) (G : va_G) (tg : Nat → ClassId) : Ct l G tg yX4_wind cX4_wind 10 (some FieldType.int) rX4_wind FX4_wind := by
  refine Ct.of RX4 (by decide) rfl (fun X C hX => ?_)
  unfold jX4_wind
  refine Dn_ald_n (i := 0) (q := 1) C dX4_wind_0 rfl rfl ?_
  refine Dn_get (ci := 4) (j := 2) (T := TX4) (N := 17) (Cn := RX4) (q := 4) C rfl iX4 (by decide) q_250 dX4_wind_1 rfl ?_
  refine Dn_ild_n (i := 1) (q := 5) C dX4_wind_4 rfl rfl ?_
  refine Dn_callV (ci := 1) (T := TX1) (N := 9) (q := 8) C rfl (kX1_hasPlace X.l X.G X.tg) q_494 q_491 q_492 q_493 q_47 ⟨rfl, rfl⟩ (by decide +kernel) ⟨by decide, by decide⟩ dX4_wind_5 rfl ?_
  refine Dn_ifne (t := 14) (q := 11) C dX4_wind_8 (by decide) rfl ?_ ?_
  · refine Dn_ild_n (i := 2) (q := 15) C dX4_wind_14 rfl rfl ?_
    refine Dn_callS (q := 18) C (kX4_isHour X.l X.G X.tg) q_534 q_551 q_533 q_44 ⟨rfl, rfl⟩ (by decide +kernel) ⟨by decide, by decide⟩ dX4_wind_15 rfl ?_
    refine Dn_ifeq (t := 39) (q := 21) C dX4_wind_18 (by decide) rfl ?_ ?_
    · exact JX4_wind_39 C hX
    · refine Dn_ild_n (i := 3) (q := 22) C dX4_wind_21 rfl rfl ?_
      refine Dn_iflt (t := 39) (q := 25) C dX4_wind_22 (by decide) rfl ?_ ?_
      · exact JX4_wind_39 C hX
      · refine Dn_ild_n (i := 3) (q := 26) C dX4_wind_25 rfl rfl ?_
        refine Dn_bipush (v := 10) (q := 28) C dX4_wind_26 (by decide) rfl ?_
        refine Dn_icgt (t := 39) (q := 31) C dX4_wind_28 (by decide) rfl ?_ ?_
        · exact JX4_wind_39 C hX
        · refine Dn_ild (q := 33) C dX4_wind_31 rfl ?_
          refine Dn_callS (q := 36) C (kX4_isBit X.l X.G X.tg) q_546 q_544 q_545 q_44 ⟨rfl, rfl⟩ (by decide +kernel) ⟨by decide, by decide⟩ dX4_wind_33 rfl ?_
          refine Dn_ifne (t := 42) (q := 39) C dX4_wind_36 (by decide) rfl ?_ ?_
          · refine Dn_ald_n (i := 0) (q := 43) C dX4_wind_42 rfl rfl ?_
            refine Dn_get (ci := 4) (j := 3) (T := TX4) (N := 17) (Cn := RX4) (q := 46) C rfl iX4 (by decide) q_251 dX4_wind_43 rfl ?_
            refine Dn_ild_n (i := 1) (q := 47) C dX4_wind_46 rfl rfl ?_
            refine Dn_callV (ci := 0) (T := TX0) (N := 5) (q := 50) C rfl (kX0_fluteAt X.l X.G X.tg) q_507 q_504 q_505 q_506 q_48 ⟨rfl, rfl⟩ (by decide +kernel) ⟨by decide, by decide⟩ dX4_wind_47 rfl ?_
            refine Dn_ald_n (i := 0) (q := 51) C dX4_wind_50 rfl rfl ?_
            refine Dn_get (ci := 4) (j := 3) (T := TX4) (N := 17) (Cn := RX4) (q := 54) C rfl iX4 (by decide) q_251 dX4_wind_51 rfl ?_
            refine Dn_ald_n (i := 0) (q := 55) C dX4_wind_54 rfl rfl ?_
            refine Dn_get (ci := 4) (j := 6) (T := TX4) (N := 17) (Cn := RX4) (q := 58) C rfl iX4 (by decide) q_254 dX4_wind_55 rfl ?_
            refine Dn_ild_n (i := 1) (q := 59) C dX4_wind_58 rfl rfl ?_
            refine Dn_ild_n (i := 2) (q := 60) C dX4_wind_59 rfl rfl ?_
            refine Dn_callV (ci := 0) (T := TX0) (N := 5) (q := 63) C rfl (kX0_noiseOf X.l X.G X.tg) q_531 q_528 q_529 q_530 q_48 ⟨rfl, rfl⟩ (by decide +kernel) ⟨by decide, by decide⟩ dX4_wind_60 rfl ?_
            refine Dn_isub (q := 64) C dX4_wind_63 rfl ?_
            refine Dn_ist (q := 66) C dX4_wind_64 (by decide) rfl ?_
            refine Dn_iconst (v := 0) (q := 67) C dX4_wind_66 (by decide) rfl ?_
            refine Dn_ist (q := 69) C dX4_wind_67 (by decide) rfl ?_
            refine Dn_iconst (v := 0) (q := 70) C dX4_wind_69 (by decide) rfl ?_
            refine Dn_ist (q := 72) C dX4_wind_70 (by decide) rfl ?_
            refine Dn_iconst (v := 0) (q := 73) C dX4_wind_72 (by decide) rfl ?_
            refine Dn_ist (q := 75) C dX4_wind_73 (by decide) rfl ?_
            exact JX4_wind_75 C hX
          · exact JX4_wind_39 C hX
  · refine Dn_bipush (v := (-2)) (q := 13) C dX4_wind_11 (by decide) rfl ?_
    exact Dn_iret C hX dX4_wind_13
abbrev rX4_seen : Room := ({ frames := 2, cells := 0, slots := 0, locals := 41 } : Room)
def jX4_seen_47 : mK := i_push (.int (-5)) (i_iret)
set_option maxRecDepth 20000 in
theorem JX4_seen_47 {X : mC} (C : Cx X rX4_seen cX4_seen 4 RX4 (some FieldType.int)) (hX : Rx X) : Den X rX4_seen 4 47 jX4_seen_47 := by
  unfold jX4_seen_47
  refine Dn_bipush (v := (-5)) (q := 49) C dX4_seen_47 (by decide) rfl ?_
  exact Dn_iret C hX dX4_seen_49
def jX4_seen_28 : mK := i_push (.int (-3)) (i_iret)
set_option maxRecDepth 20000 in
theorem JX4_seen_28 {X : mC} (C : Cx X rX4_seen cX4_seen 4 RX4 (some FieldType.int)) (hX : Rx X) : Den X rX4_seen 4 28 jX4_seen_28 := by
  unfold jX4_seen_28
  refine Dn_bipush (v := (-3)) (q := 30) C dX4_seen_28 (by decide) rfl ?_
  exact Dn_iret C hX dX4_seen_30
def jX4_seen : mK := i_ald 0 (i_get 4 2 (i_ild 1 (i_callV 1 1 FX1_hasPlace (i_ifne (i_ild 2 (i_call 1 FX4_isHour (i_ifeq (jX4_seen_28) (i_ild 3 (i_call 1 FX4_isBit (i_ifne (i_ald 0 (i_get 4 15 (i_iflt (jX4_seen_47) (i_ald 0 (i_get 4 15 (i_push (.int 8) (i_iclt (i_ald 0 (i_get 4 12 (i_ald 0 (i_get 4 15 (i_ild 1 (i_iast (i_ald 0 (i_get 4 13 (i_ald 0 (i_get 4 15 (i_ild 2 (i_iast (i_ald 0 (i_get 4 14 (i_ald 0 (i_get 4 15 (i_ild 3 (i_iast (i_ald 0 (i_dup (i_get 4 15 (i_push (.int 1) (i_ib (fun x y => x + y) (i_puti 4 15 (i_ald 0 (i_get 4 15 (i_iret))))))))))))))))))))))))))) (jX4_seen_47)))))))) (jX4_seen_28))))))) (i_push (.int (-2)) (i_iret))))))
def FX4_seen : mF := mEnt 4 jX4_seen
set_option maxRecDepth 20000 in
theorem kX4_seen (l : Launch) (G : va_G) (tg : Nat → ClassId) : Ct l G tg yX4_seen cX4_seen 4 (some FieldType.int) rX4_seen FX4_seen := by
  refine Ct.of RX4 (by decide) rfl (fun X C hX => ?_)
  unfold jX4_seen
  refine Dn_ald_n (i := 0) (q := 1) C dX4_seen_0 rfl rfl ?_
  refine Dn_get (ci := 4) (j := 2) (T := TX4) (N := 17) (Cn := RX4) (q := 4) C rfl iX4 (by decide) q_250 dX4_seen_1 rfl ?_
  refine Dn_ild_n (i := 1) (q := 5) C dX4_seen_4 rfl rfl ?_
  refine Dn_callV (ci := 1) (T := TX1) (N := 9) (q := 8) C rfl (kX1_hasPlace X.l X.G X.tg) q_494 q_491 q_492 q_493 q_47 ⟨rfl, rfl⟩ (by decide +kernel) ⟨by decide, by decide⟩ dX4_seen_5 rfl ?_
  refine Dn_ifne (t := 14) (q := 11) C dX4_seen_8 (by decide) rfl ?_ ?_
  · refine Dn_ild_n (i := 2) (q := 15) C dX4_seen_14 rfl rfl ?_
    refine Dn_callS (q := 18) C (kX4_isHour X.l X.G X.tg) q_534 q_551 q_533 q_44 ⟨rfl, rfl⟩ (by decide +kernel) ⟨by decide, by decide⟩ dX4_seen_15 rfl ?_
    refine Dn_ifeq (t := 28) (q := 21) C dX4_seen_18 (by decide) rfl ?_ ?_
    · exact JX4_seen_28 C hX
    · refine Dn_ild_n (i := 3) (q := 22) C dX4_seen_21 rfl rfl ?_
      refine Dn_callS (q := 25) C (kX4_isBit X.l X.G X.tg) q_546 q_544 q_545 q_44 ⟨rfl, rfl⟩ (by decide +kernel) ⟨by decide, by decide⟩ dX4_seen_22 rfl ?_
      refine Dn_ifne (t := 31) (q := 28) C dX4_seen_25 (by decide) rfl ?_ ?_
      · refine Dn_ald_n (i := 0) (q := 32) C dX4_seen_31 rfl rfl ?_
        refine Dn_get (ci := 4) (j := 15) (T := TX4) (N := 17) (Cn := RX4) (q := 35) C rfl iX4 (by decide) q_263 dX4_seen_32 rfl ?_
        refine Dn_iflt (t := 47) (q := 38) C dX4_seen_35 (by decide) rfl ?_ ?_
        · exact JX4_seen_47 C hX
        · refine Dn_ald_n (i := 0) (q := 39) C dX4_seen_38 rfl rfl ?_
          refine Dn_get (ci := 4) (j := 15) (T := TX4) (N := 17) (Cn := RX4) (q := 42) C rfl iX4 (by decide) q_263 dX4_seen_39 rfl ?_
          refine Dn_bipush (v := 8) (q := 44) C dX4_seen_42 (by decide) rfl ?_
          refine Dn_iclt (t := 50) (q := 47) C dX4_seen_44 (by decide) rfl ?_ ?_
          · refine Dn_ald_n (i := 0) (q := 51) C dX4_seen_50 rfl rfl ?_
            refine Dn_get (ci := 4) (j := 12) (T := TX4) (N := 17) (Cn := RX4) (q := 54) C rfl iX4 (by decide) q_260 dX4_seen_51 rfl ?_
            refine Dn_ald_n (i := 0) (q := 55) C dX4_seen_54 rfl rfl ?_
            refine Dn_get (ci := 4) (j := 15) (T := TX4) (N := 17) (Cn := RX4) (q := 58) C rfl iX4 (by decide) q_263 dX4_seen_55 rfl ?_
            refine Dn_ild_n (i := 1) (q := 59) C dX4_seen_58 rfl rfl ?_
            refine Dn_iast (q := 60) C dX4_seen_59 rfl ?_
            refine Dn_ald_n (i := 0) (q := 61) C dX4_seen_60 rfl rfl ?_
            refine Dn_get (ci := 4) (j := 13) (T := TX4) (N := 17) (Cn := RX4) (q := 64) C rfl iX4 (by decide) q_261 dX4_seen_61 rfl ?_
            refine Dn_ald_n (i := 0) (q := 65) C dX4_seen_64 rfl rfl ?_
            refine Dn_get (ci := 4) (j := 15) (T := TX4) (N := 17) (Cn := RX4) (q := 68) C rfl iX4 (by decide) q_263 dX4_seen_65 rfl ?_
            refine Dn_ild_n (i := 2) (q := 69) C dX4_seen_68 rfl rfl ?_
            refine Dn_iast (q := 70) C dX4_seen_69 rfl ?_
            refine Dn_ald_n (i := 0) (q := 71) C dX4_seen_70 rfl rfl ?_
            refine Dn_get (ci := 4) (j := 14) (T := TX4) (N := 17) (Cn := RX4) (q := 74) C rfl iX4 (by decide) q_262 dX4_seen_71 rfl ?_
            refine Dn_ald_n (i := 0) (q := 75) C dX4_seen_74 rfl rfl ?_
            refine Dn_get (ci := 4) (j := 15) (T := TX4) (N := 17) (Cn := RX4) (q := 78) C rfl iX4 (by decide) q_263 dX4_seen_75 rfl ?_
            refine Dn_ild_n (i := 3) (q := 79) C dX4_seen_78 rfl rfl ?_
            refine Dn_iast (q := 80) C dX4_seen_79 rfl ?_
            refine Dn_ald_n (i := 0) (q := 81) C dX4_seen_80 rfl rfl ?_
            refine Dn_dup (q := 82) C dX4_seen_81 rfl ?_
            refine Dn_get (ci := 4) (j := 15) (T := TX4) (N := 17) (Cn := RX4) (q := 85) C rfl iX4 (by decide) q_263 dX4_seen_82 rfl ?_
            refine Dn_iconst (v := 1) (q := 86) C dX4_seen_85 (by decide) rfl ?_
            refine Dn_iadd (q := 87) C dX4_seen_86 rfl ?_
            refine Dn_puti (ci := 4) (j := 15) (T := TX4) (N := 17) (Cn := RX4) (q := 90) C rfl iX4 tyX4 tyX4_ok nmX4 (by decide) q_263 rfl (by decide +kernel) dX4_seen_87 rfl ?_
            refine Dn_ald_n (i := 0) (q := 91) C dX4_seen_90 rfl rfl ?_
            refine Dn_get (ci := 4) (j := 15) (T := TX4) (N := 17) (Cn := RX4) (q := 94) C rfl iX4 (by decide) q_263 dX4_seen_91 rfl ?_
            exact Dn_iret C hX dX4_seen_94
          · exact JX4_seen_47 C hX
      · exact JX4_seen_28 C hX
  · refine Dn_bipush (v := (-2)) (q := 13) C dX4_seen_11 (by decide) rfl ?_
    exact Dn_iret C hX dX4_seen_13
abbrev rX4_forget : Room := ({ frames := 0, cells := 0, slots := 0, locals := 0 } : Room)
def jX4_forget : mK := i_ald 0 (i_get 4 15 (i_ist 1 (i_ald 0 (i_push (.int 0) (i_puti 4 15 (i_ild 1 (i_iret)))))))
def FX4_forget : mF := mEnt 2 jX4_forget
set_option maxRecDepth 20000 in
theorem kX4_forget (l : Launch) (G : va_G) (tg : Nat → ClassId) : Ct l G tg yX4_forget cX4_forget 2 (some FieldType.int) rX4_forget FX4_forget := by
  refine Ct.of RX4 (by decide) rfl (fun X C hX => ?_)
  unfold jX4_forget
  refine Dn_ald_n (i := 0) (q := 1) C dX4_forget_0 rfl rfl ?_
  refine Dn_get (ci := 4) (j := 15) (T := TX4) (N := 17) (Cn := RX4) (q := 4) C rfl iX4 (by decide) q_263 dX4_forget_1 rfl ?_
  refine Dn_ist_n (i := 1) (q := 5) C dX4_forget_4 rfl (by decide) rfl ?_
  refine Dn_ald_n (i := 0) (q := 6) C dX4_forget_5 rfl rfl ?_
  refine Dn_iconst (v := 0) (q := 7) C dX4_forget_6 (by decide) rfl ?_
  refine Dn_puti (ci := 4) (j := 15) (T := TX4) (N := 17) (Cn := RX4) (q := 10) C rfl iX4 tyX4 tyX4_ok nmX4 (by decide) q_263 rfl (by decide +kernel) dX4_forget_7 rfl ?_
  refine Dn_ild_n (i := 1) (q := 11) C dX4_forget_10 rfl rfl ?_
  exact Dn_iret C hX dX4_forget_11
abbrev rX4_isAsSeen : Room := ({ frames := 4, cells := 0, slots := 0, locals := 91 } : Room)
def jX4_isAsSeen_56 : mK := i_push (.int 1) (i_nret .boolean)
set_option maxRecDepth 20000 in
theorem JX4_isAsSeen_56 {X : mC} (C : Cx X rX4_isAsSeen cX4_isAsSeen 3 RX4 (some FieldType.boolean)) (hX : Rx X) : Den X rX4_isAsSeen 3 56 jX4_isAsSeen_56 := by
  unfold jX4_isAsSeen_56
  refine Dn_iconst (v := 1) (q := 57) C dX4_isAsSeen_56 (by decide) rfl ?_
  exact Dn_nret C hX dX4_isAsSeen_57
def jX4_isAsSeen_2 : mK := i_loop (fun B2 => i_ild 2 (i_ald 0 (i_get 4 15 (i_icge (jX4_isAsSeen_56) (i_ild 2 (i_push (.int 8) (i_icge (jX4_isAsSeen_56) (i_ald 0 (i_get 4 3 (i_ild 1 (i_ald 0 (i_get 4 12 (i_ild 2 (i_iald (i_ald 0 (i_get 4 13 (i_ild 2 (i_iald (i_callV 0 3 FX0_isHeard (i_call 1 FX4_bitOf (i_ald 0 (i_get 4 14 (i_ild 2 (i_iald (i_iceq (i_inc 2 1 (B2)) (i_push (.int 0) (i_nret .boolean))))))))))))))))))))))))))) 1000
set_option maxRecDepth 20000 in
theorem JX4_isAsSeen_2 {X : mC} (C : Cx X rX4_isAsSeen cX4_isAsSeen 3 RX4 (some FieldType.boolean)) (hX : Rx X) : Den X rX4_isAsSeen 3 2 jX4_isAsSeen_2 := by
  unfold jX4_isAsSeen_2
  refine Dn_loop (fun B2 hB2 => ?_) 1000
  refine Dn_ild_n (i := 2) (q := 3) C dX4_isAsSeen_2 rfl rfl ?_
  refine Dn_ald_n (i := 0) (q := 4) C dX4_isAsSeen_3 rfl rfl ?_
  refine Dn_get (ci := 4) (j := 15) (T := TX4) (N := 17) (Cn := RX4) (q := 7) C rfl iX4 (by decide) q_263 dX4_isAsSeen_4 rfl ?_
  refine Dn_icge (t := 56) (q := 10) C dX4_isAsSeen_7 (by decide) rfl ?_ ?_
  · exact JX4_isAsSeen_56 C hX
  · refine Dn_ild_n (i := 2) (q := 11) C dX4_isAsSeen_10 rfl rfl ?_
    refine Dn_bipush (v := 8) (q := 13) C dX4_isAsSeen_11 (by decide) rfl ?_
    refine Dn_icge (t := 56) (q := 16) C dX4_isAsSeen_13 (by decide) rfl ?_ ?_
    · exact JX4_isAsSeen_56 C hX
    · refine Dn_ald_n (i := 0) (q := 17) C dX4_isAsSeen_16 rfl rfl ?_
      refine Dn_get (ci := 4) (j := 3) (T := TX4) (N := 17) (Cn := RX4) (q := 20) C rfl iX4 (by decide) q_251 dX4_isAsSeen_17 rfl ?_
      refine Dn_ild_n (i := 1) (q := 21) C dX4_isAsSeen_20 rfl rfl ?_
      refine Dn_ald_n (i := 0) (q := 22) C dX4_isAsSeen_21 rfl rfl ?_
      refine Dn_get (ci := 4) (j := 12) (T := TX4) (N := 17) (Cn := RX4) (q := 25) C rfl iX4 (by decide) q_260 dX4_isAsSeen_22 rfl ?_
      refine Dn_ild_n (i := 2) (q := 26) C dX4_isAsSeen_25 rfl rfl ?_
      refine Dn_iald (q := 27) C dX4_isAsSeen_26 rfl ?_
      refine Dn_ald_n (i := 0) (q := 28) C dX4_isAsSeen_27 rfl rfl ?_
      refine Dn_get (ci := 4) (j := 13) (T := TX4) (N := 17) (Cn := RX4) (q := 31) C rfl iX4 (by decide) q_261 dX4_isAsSeen_28 rfl ?_
      refine Dn_ild_n (i := 2) (q := 32) C dX4_isAsSeen_31 rfl rfl ?_
      refine Dn_iald (q := 33) C dX4_isAsSeen_32 rfl ?_
      refine Dn_callV (ci := 0) (T := TX0) (N := 5) (q := 36) C rfl (kX0_isHeard X.l X.G X.tg) q_567 q_564 q_565 q_566 q_48 ⟨rfl, rfl⟩ (by decide +kernel) ⟨by decide, by decide⟩ dX4_isAsSeen_33 rfl ?_
      refine Dn_callS (q := 39) C (kX4_bitOf X.l X.G X.tg) q_498 q_496 q_497 q_44 ⟨rfl, rfl⟩ (by decide +kernel) ⟨by decide, by decide⟩ dX4_isAsSeen_36 rfl ?_
      refine Dn_ald_n (i := 0) (q := 40) C dX4_isAsSeen_39 rfl rfl ?_
      refine Dn_get (ci := 4) (j := 14) (T := TX4) (N := 17) (Cn := RX4) (q := 43) C rfl iX4 (by decide) q_262 dX4_isAsSeen_40 rfl ?_
      refine Dn_ild_n (i := 2) (q := 44) C dX4_isAsSeen_43 rfl rfl ?_
      refine Dn_iald (q := 45) C dX4_isAsSeen_44 rfl ?_
      refine Dn_iceq (t := 50) (q := 48) C dX4_isAsSeen_45 (by decide) rfl ?_ ?_
      · refine Dn_inc (z := 1) (q := 53) C dX4_isAsSeen_50 (by decide) (by decide) rfl ?_
        refine Dn_goto (t := 2) C dX4_isAsSeen_53 (by decide) ?_
        exact hB2
      · refine Dn_iconst (v := 0) (q := 49) C dX4_isAsSeen_48 (by decide) rfl ?_
        exact Dn_nret C hX dX4_isAsSeen_49
def jX4_isAsSeen : mK := i_push (.int 0) (i_ist 2 (jX4_isAsSeen_2))
def FX4_isAsSeen : mF := mEnt 3 jX4_isAsSeen
set_option maxRecDepth 20000 in
theorem kX4_isAsSeen (l : Launch) (G : va_G) (tg : Nat → ClassId) : Ct l G tg yX4_isAsSeen cX4_isAsSeen 3 (some FieldType.boolean) rX4_isAsSeen FX4_isAsSeen := by
  refine Ct.of RX4 (by decide) rfl (fun X C hX => ?_)
  unfold jX4_isAsSeen
  refine Dn_iconst (v := 0) (q := 1) C dX4_isAsSeen_0 (by decide) rfl ?_
  refine Dn_ist_n (i := 2) (q := 2) C dX4_isAsSeen_1 rfl (by decide) rfl ?_
  exact JX4_isAsSeen_2 C hX
abbrev rX4_played : Room := ({ frames := 5, cells := 0, slots := 0, locals := 113 } : Room)
def jX4_played_61 : mK := i_iret
set_option maxRecDepth 20000 in
theorem JX4_played_61 {X : mC} (C : Cx X rX4_played cX4_played 5 RX4 (some FieldType.int)) (hX : Rx X) : Den X rX4_played 5 61 jX4_played_61 := by
  unfold jX4_played_61
  exact Dn_iret C hX dX4_played_61
def jX4_played_46 (B17 : mK) : mK := i_inc 4 1 (B17)
set_option maxRecDepth 20000 in
theorem JX4_played_46 {X : mC} (C : Cx X rX4_played cX4_played 5 RX4 (some FieldType.int)) (hX : Rx X) (B17 : mK) (hB17 : Den X rX4_played 5 17 B17) : Den X rX4_played 5 46 (jX4_played_46 B17) := by
  unfold jX4_played_46
  refine Dn_inc (z := 1) (q := 49) C dX4_played_46 (by decide) (by decide) rfl ?_
  refine Dn_goto (t := 17) C dX4_played_49 (by decide) ?_
  exact hB17
def jX4_played_17 : mK := i_loop (fun B17 => i_ild 4 (i_ald 0 (i_get 4 2 (i_callV 1 0 FX1_bandSets (i_icge (i_ild 1 (i_ifne (i_ild 3 (jX4_played_61)) (i_ild 2 (jX4_played_61)))) (i_ald 0 (i_ild 4 (i_callV 4 1 FX4_isAsSeen (i_ifeq ((jX4_played_46 B17)) (i_inc 2 1 (i_ild 3 (i_ild 4 (i_ib (fun x y => x &&& y) (i_ist 3 ((jX4_played_46 B17)))))))))))))))) 1000
set_option maxRecDepth 20000 in
theorem JX4_played_17 {X : mC} (C : Cx X rX4_played cX4_played 5 RX4 (some FieldType.int)) (hX : Rx X) : Den X rX4_played 5 17 jX4_played_17 := by
  unfold jX4_played_17
  refine Dn_loop (fun B17 hB17 => ?_) 1000
  refine Dn_ild (q := 19) C dX4_played_17 rfl ?_
  refine Dn_ald_n (i := 0) (q := 20) C dX4_played_19 rfl rfl ?_
  refine Dn_get (ci := 4) (j := 2) (T := TX4) (N := 17) (Cn := RX4) (q := 23) C rfl iX4 (by decide) q_250 dX4_played_20 rfl ?_
  refine Dn_callV (ci := 1) (T := TX1) (N := 9) (q := 26) C rfl (kX1_bandSets X.l X.G X.tg) q_238 q_235 q_236 q_237 q_47 ⟨rfl, rfl⟩ (by decide +kernel) ⟨by decide, by decide⟩ dX4_played_23 rfl ?_
  refine Dn_icge (t := 52) (q := 29) C dX4_played_26 (by decide) rfl ?_ ?_
  · refine Dn_ild_n (i := 1) (q := 53) C dX4_played_52 rfl rfl ?_
    refine Dn_ifne (t := 60) (q := 56) C dX4_played_53 (by decide) rfl ?_ ?_
    · refine Dn_ild_n (i := 3) (q := 61) C dX4_played_60 rfl rfl ?_
      exact JX4_played_61 C hX
    · refine Dn_ild_n (i := 2) (q := 57) C dX4_played_56 rfl rfl ?_
      refine Dn_goto (t := 61) C dX4_played_57 (by decide) ?_
      exact JX4_played_61 C hX
  · refine Dn_ald_n (i := 0) (q := 30) C dX4_played_29 rfl rfl ?_
    refine Dn_ild (q := 32) C dX4_played_30 rfl ?_
    refine Dn_callV (ci := 4) (T := TX4) (N := 17) (q := 35) C rfl (kX4_isAsSeen X.l X.G X.tg) q_699 q_696 q_698 q_13 q_44 ⟨rfl, rfl⟩ (by decide +kernel) ⟨by decide, by decide⟩ dX4_played_32 rfl ?_
    refine Dn_ifeq (t := 46) (q := 38) C dX4_played_35 (by decide) rfl ?_ ?_
    · exact JX4_played_46 C hX B17 hB17
    · refine Dn_inc (z := 1) (q := 41) C dX4_played_38 (by decide) (by decide) rfl ?_
      refine Dn_ild_n (i := 3) (q := 42) C dX4_played_41 rfl rfl ?_
      refine Dn_ild (q := 44) C dX4_played_42 rfl ?_
      refine Dn_iand (q := 45) C dX4_played_44 rfl ?_
      refine Dn_ist_n (i := 3) (q := 46) C dX4_played_45 rfl (by decide) rfl ?_
      exact JX4_played_46 C hX B17 hB17
def jX4_played : mK := i_ild 1 (i_call 1 FX4_isBit (i_ifne (i_push (.int 0) (i_ist 2 (i_push (.int (-1)) (i_ist 3 (i_push (.int 0) (i_ist 4 (jX4_played_17))))))) (i_push (.int (-3)) (i_iret))))
def FX4_played : mF := mEnt 5 jX4_played
set_option maxRecDepth 20000 in
theorem kX4_played (l : Launch) (G : va_G) (tg : Nat → ClassId) : Ct l G tg yX4_played cX4_played 5 (some FieldType.int) rX4_played FX4_played := by
  refine Ct.of RX4 (by decide) rfl (fun X C hX => ?_)
  unfold jX4_played
  refine Dn_ild_n (i := 1) (q := 1) C dX4_played_0 rfl rfl ?_
  refine Dn_callS (q := 4) C (kX4_isBit X.l X.G X.tg) q_546 q_544 q_545 q_44 ⟨rfl, rfl⟩ (by decide +kernel) ⟨by decide, by decide⟩ dX4_played_1 rfl ?_
  refine Dn_ifne (t := 10) (q := 7) C dX4_played_4 (by decide) rfl ?_ ?_
  · refine Dn_iconst (v := 0) (q := 11) C dX4_played_10 (by decide) rfl ?_
    refine Dn_ist_n (i := 2) (q := 12) C dX4_played_11 rfl (by decide) rfl ?_
    refine Dn_iconst (v := (-1)) (q := 13) C dX4_played_12 (by decide) rfl ?_
    refine Dn_ist_n (i := 3) (q := 14) C dX4_played_13 rfl (by decide) rfl ?_
    refine Dn_iconst (v := 0) (q := 15) C dX4_played_14 (by decide) rfl ?_
    refine Dn_ist (q := 17) C dX4_played_15 (by decide) rfl ?_
    exact JX4_played_17 C hX
  · refine Dn_bipush (v := (-3)) (q := 9) C dX4_played_7 (by decide) rfl ?_
    exact Dn_iret C hX dX4_played_9
abbrev rX4_count : Room := ({ frames := 0, cells := 0, slots := 0, locals := 0 } : Room)
def jX4_count : mK := i_ild 1 (i_sw 0 8 [i_ald 0 (i_get 4 2 (i_get 1 0 (i_iret))), i_ald 0 (i_get 4 2 (i_get 1 1 (i_iret))), i_ald 0 (i_get 4 2 (i_get 1 2 (i_iret))), i_ald 0 (i_get 4 2 (i_get 1 5 (i_iret))), i_ald 0 (i_get 4 6 (i_iret)), i_ald 0 (i_get 4 8 (i_iret)), i_ald 0 (i_get 4 7 (i_iret)), i_ald 0 (i_get 4 15 (i_iret)), i_ald 0 (i_get 4 0 (i_get 3 0 (i_iret)))] (i_push (.int (-3)) (i_iret)))
def FX4_count : mF := mEnt 2 jX4_count
set_option maxRecDepth 20000 in
theorem kX4_count (l : Launch) (G : va_G) (tg : Nat → ClassId) : Ct l G tg yX4_count cX4_count 2 (some FieldType.int) rX4_count FX4_count := by
  refine Ct.of RX4 (by decide) rfl (fun X C hX => ?_)
  unfold jX4_count
  refine Dn_ild_n (i := 1) (q := 1) C dX4_count_0 rfl rfl ?_
  refine Dn_sw (td := 112) (ts := [52, 60, 68, 76, 84, 89, 94, 99, 104]) C dX4_count_1 (by decide) (by decide +kernel) rfl ?_ ?_
  · refine Dn_bipush (v := (-3)) (q := 114) C dX4_count_112 (by decide) rfl ?_
    exact Dn_iret C hX dX4_count_114
  · show DenL _ _ _ _ _
    refine DenL_cons ?_ ?_
    · refine Dn_ald_n (i := 0) (q := 53) C dX4_count_52 rfl rfl ?_
      refine Dn_get (ci := 4) (j := 2) (T := TX4) (N := 17) (Cn := RX4) (q := 56) C rfl iX4 (by decide) q_250 dX4_count_53 rfl ?_
      refine Dn_get (ci := 1) (j := 0) (T := TX1) (N := 9) (Cn := RX1) (q := 59) C rfl iX1 (by decide) q_111 dX4_count_56 rfl ?_
      exact Dn_iret C hX dX4_count_59
    refine DenL_cons ?_ ?_
    · refine Dn_ald_n (i := 0) (q := 61) C dX4_count_60 rfl rfl ?_
      refine Dn_get (ci := 4) (j := 2) (T := TX4) (N := 17) (Cn := RX4) (q := 64) C rfl iX4 (by decide) q_250 dX4_count_61 rfl ?_
      refine Dn_get (ci := 1) (j := 1) (T := TX1) (N := 9) (Cn := RX1) (q := 67) C rfl iX1 (by decide) q_113 dX4_count_64 rfl ?_
      exact Dn_iret C hX dX4_count_67
    refine DenL_cons ?_ ?_
    · refine Dn_ald_n (i := 0) (q := 69) C dX4_count_68 rfl rfl ?_
      refine Dn_get (ci := 4) (j := 2) (T := TX4) (N := 17) (Cn := RX4) (q := 72) C rfl iX4 (by decide) q_250 dX4_count_69 rfl ?_
      refine Dn_get (ci := 1) (j := 2) (T := TX1) (N := 9) (Cn := RX1) (q := 75) C rfl iX1 (by decide) q_116 dX4_count_72 rfl ?_
      exact Dn_iret C hX dX4_count_75
    refine DenL_cons ?_ ?_
    · refine Dn_ald_n (i := 0) (q := 77) C dX4_count_76 rfl rfl ?_
      refine Dn_get (ci := 4) (j := 2) (T := TX4) (N := 17) (Cn := RX4) (q := 80) C rfl iX4 (by decide) q_250 dX4_count_77 rfl ?_
      refine Dn_get (ci := 1) (j := 5) (T := TX1) (N := 9) (Cn := RX1) (q := 83) C rfl iX1 (by decide) q_124 dX4_count_80 rfl ?_
      exact Dn_iret C hX dX4_count_83
    refine DenL_cons ?_ ?_
    · refine Dn_ald_n (i := 0) (q := 85) C dX4_count_84 rfl rfl ?_
      refine Dn_get (ci := 4) (j := 6) (T := TX4) (N := 17) (Cn := RX4) (q := 88) C rfl iX4 (by decide) q_254 dX4_count_85 rfl ?_
      exact Dn_iret C hX dX4_count_88
    refine DenL_cons ?_ ?_
    · refine Dn_ald_n (i := 0) (q := 90) C dX4_count_89 rfl rfl ?_
      refine Dn_get (ci := 4) (j := 8) (T := TX4) (N := 17) (Cn := RX4) (q := 93) C rfl iX4 (by decide) q_256 dX4_count_90 rfl ?_
      exact Dn_iret C hX dX4_count_93
    refine DenL_cons ?_ ?_
    · refine Dn_ald_n (i := 0) (q := 95) C dX4_count_94 rfl rfl ?_
      refine Dn_get (ci := 4) (j := 7) (T := TX4) (N := 17) (Cn := RX4) (q := 98) C rfl iX4 (by decide) q_255 dX4_count_95 rfl ?_
      exact Dn_iret C hX dX4_count_98
    refine DenL_cons ?_ ?_
    · refine Dn_ald_n (i := 0) (q := 100) C dX4_count_99 rfl rfl ?_
      refine Dn_get (ci := 4) (j := 15) (T := TX4) (N := 17) (Cn := RX4) (q := 103) C rfl iX4 (by decide) q_263 dX4_count_100 rfl ?_
      exact Dn_iret C hX dX4_count_103
    refine DenL_cons ?_ ?_
    · refine Dn_ald_n (i := 0) (q := 105) C dX4_count_104 rfl rfl ?_
      refine Dn_get (ci := 4) (j := 0) (T := TX4) (N := 17) (Cn := RX4) (q := 108) C rfl iX4 (by decide) q_248 dX4_count_105 rfl ?_
      refine Dn_get (ci := 3) (j := 0) (T := TX3) (N := 4) (Cn := RX3) (q := 111) C rfl iX3 (by decide) q_72 dX4_count_108 rfl ?_
      exact Dn_iret C hX dX4_count_111
    exact DenL_nil
