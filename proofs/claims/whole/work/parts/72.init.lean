theorem dfX0 : ∀ j, j < 5 → defaultValue (tyX0 j) = vp_V [.int 0, .long 0, .null, .null, .null] j := by decide +kernel
theorem dfX1 : ∀ j, j < 9 → defaultValue (tyX1 j) = vp_V [.int 0, .int 0, .int 0, .int 0, .int 0, .int 0, .long 0, .long 0, .null] j := by decide +kernel
theorem dfX2 : ∀ j, j < 2 → defaultValue (tyX2 j) = vp_V [.int 0, .null] j := by decide +kernel
theorem dfX3 : ∀ j, j < 4 → defaultValue (tyX3 j) = vp_V [.int 0, .null, .int 0, .int 0] j := by decide +kernel
theorem dfX4 : ∀ j, j < 17 → defaultValue (tyX4 j) = vp_V [.null, .null, .null, .null, .null, .null, .int 0, .int 0, .int 0, .null, .null, .null, .null, .null, .null, .int 0, .null] j := by decide +kernel
theorem dfX5 : ∀ j, j < 25 → defaultValue (tyX5 j) = vp_V [.null, .null, .null, .int 0, .null, .int 0, .int 0, .int 0, .int 0, .int 0, .int 0, .long 0, .long 0, .null, .int 0, .int 0, .int 0, .int 0, .int 0, .int 0, .long 0, .null, .int 0, .null, .int 0] j := by decide +kernel
abbrev rX3_init : Room := ({ frames := 1, cells := 1, slots := 200, locals := 12 } : Room)
def jX3_init (n0 : Nat) : mK := i_ald 0 (i_oi (i_ald 0 (i_push (.int 200) (i_newa n0 rX3_init 0 (.inl fun _ => 0) (i_puta 3 1 (i_vret))))))
def FX3_init : mF := mEntG 1 jX3_init
set_option maxRecDepth 20000 in
theorem kX3_init (l : Launch) (G : va_G) (tg : Nat → ClassId) : CG l G tg yX3_init cX3_init 1 rX3_init FX3_init := by
  refine CG.of RX3 (by decide) rfl rfl (fun X C0 hX hAx hIx => ?_)
  unfold jX3_init
  intro ad n g
  have C := C0.g g
  refine Dn_ald_n (i := 0) (q := 1) C dX3_init_0 rfl rfl ?_
  refine Dn_oi (q := 4) C q_70 q_63 q_64 (by decide) (by decide) dX3_init_1 rfl ?_
  refine Dn_ald_n (i := 0) (q := 5) C dX3_init_4 rfl rfl ?_
  refine Dn_sipush (v := 200) (q := 8) C dX3_init_5 (by decide) rfl ?_
  refine DnG_newa (t := 0) (z := (.inl fun _ => 0)) (aty := .int) (ty := .int) (q := 10) C0 hAx g q_85 rfl (fun _ _ => rfl) (fun _ => rfl) (fun U c1 c2 h1 h2 => Option.some.inj (h1.symm.trans h2)) (by decide) dX3_init_8 rfl ?_
  intro ad n g
  have C := C0.g g
  refine Dn_puta (ci := 3) (j := 1) (T := TX3) (N := 4) (Cn := RX3) (ty := .array .int) (q := 13) C hIx.g rfl iX3 tyX3 tyX3_ok nmX3 (by decide) q_73 rfl rfl (by decide +kernel) (fun _ => rfl) (fun _ => rfl) dX3_init_10 rfl ?_
  exact Dn_vretG C0 hX g dX3_init_13
abbrev rX2_init : Room := ({ frames := 1, cells := 1, slots := 4, locals := 12 } : Room)
def jX2_init (n0 : Nat) : mK := i_ald 0 (i_oi (i_ald 0 (i_push (.int 4) (i_newa n0 rX2_init 0 (.inl fun _ => 0) (i_puta 2 1 (i_vret))))))
def FX2_init : mF := mEntG 1 jX2_init
set_option maxRecDepth 20000 in
theorem kX2_init (l : Launch) (G : va_G) (tg : Nat → ClassId) : CG l G tg yX2_init cX2_init 1 rX2_init FX2_init := by
  refine CG.of RX2 (by decide) rfl rfl (fun X C0 hX hAx hIx => ?_)
  unfold jX2_init
  intro ad n g
  have C := C0.g g
  refine Dn_ald_n (i := 0) (q := 1) C dX2_init_0 rfl rfl ?_
  refine Dn_oi (q := 4) C q_91 q_63 q_64 (by decide) (by decide) dX2_init_1 rfl ?_
  refine Dn_ald_n (i := 0) (q := 5) C dX2_init_4 rfl rfl ?_
  refine Dn_iconst (v := 4) (q := 6) C dX2_init_5 (by decide) rfl ?_
  refine DnG_newa (t := 0) (z := (.inl fun _ => 0)) (aty := .int) (ty := .int) (q := 8) C0 hAx g q_85 rfl (fun _ _ => rfl) (fun _ => rfl) (fun U c1 c2 h1 h2 => Option.some.inj (h1.symm.trans h2)) (by decide) dX2_init_6 rfl ?_
  intro ad n g
  have C := C0.g g
  refine Dn_puta (ci := 2) (j := 1) (T := TX2) (N := 2) (Cn := RX2) (ty := .array .int) (q := 11) C hIx.g rfl iX2 tyX2 tyX2_ok nmX2 (by decide) q_94 rfl rfl (by decide +kernel) (fun _ => rfl) (fun _ => rfl) dX2_init_8 rfl ?_
  exact Dn_vretG C0 hX g dX2_init_11
abbrev rX1_init : Room := ({ frames := 1, cells := 1, slots := 42, locals := 22 } : Room)
def jX1_init (n0 : Nat) : mK := i_ald 0 (i_oi (i_ald 0 (i_push (.int 42) (i_newa n0 rX1_init 0 (.inl fun _ => 0) (i_puta 1 8 (i_ald 0 (i_push (.int 4) (i_push (.int 4) (i_callV 1 2 FX1_lay (i_vret))))))))))
def FX1_init : mF := mEntG 1 jX1_init
set_option maxRecDepth 20000 in
theorem kX1_init (l : Launch) (G : va_G) (tg : Nat → ClassId) : CG l G tg yX1_init cX1_init 1 rX1_init FX1_init := by
  refine CG.of RX1 (by decide) rfl rfl (fun X C0 hX hAx hIx => ?_)
  unfold jX1_init
  intro ad n g
  have C := C0.g g
  refine Dn_ald_n (i := 0) (q := 1) C dX1_init_0 rfl rfl ?_
  refine Dn_oi (q := 4) C q_105 q_63 q_64 (by decide) (by decide) dX1_init_1 rfl ?_
  refine Dn_ald_n (i := 0) (q := 5) C dX1_init_4 rfl rfl ?_
  refine Dn_bipush (v := 42) (q := 7) C dX1_init_5 (by decide) rfl ?_
  refine DnG_newa (t := 0) (z := (.inl fun _ => 0)) (aty := .int) (ty := .int) (q := 9) C0 hAx g q_85 rfl (fun _ _ => rfl) (fun _ => rfl) (fun U c1 c2 h1 h2 => Option.some.inj (h1.symm.trans h2)) (by decide) dX1_init_7 rfl ?_
  intro ad n g
  have C := C0.g g
  refine Dn_puta (ci := 1) (j := 8) (T := TX1) (N := 9) (Cn := RX1) (ty := .array .int) (q := 12) C hIx.g rfl iX1 tyX1 tyX1_ok nmX1 (by decide) q_129 rfl rfl (by decide +kernel) (fun _ => rfl) (fun _ => rfl) dX1_init_9 rfl ?_
  refine Dn_ald_n (i := 0) (q := 13) C dX1_init_12 rfl rfl ?_
  refine Dn_iconst (v := 4) (q := 14) C dX1_init_13 (by decide) rfl ?_
  refine Dn_iconst (v := 4) (q := 15) C dX1_init_14 (by decide) rfl ?_
  refine Dn_callV (ci := 1) (T := TX1) (N := 9) (q := 18) C rfl (kX1_lay _ _ _) q_109 q_106 q_107 q_108 q_47 ⟨rfl, rfl⟩ (by decide +kernel) ⟨by decide, by decide⟩ dX1_init_15 rfl ?_
  exact Dn_vretG C0 hX g dX1_init_18
abbrev rX0_init : Room := ({ frames := 1, cells := 3, slots := 264, locals := 12 } : Room)
def jX0_init (n0 : Nat) : mK := i_ald 0 (i_oi (i_ald 0 (i_push (.int 36) (i_newa n0 rX0_init 0 (.inl fun _ => 0) (i_puta 0 2 (i_ald 0 (i_push (.int 216) (i_newa n0 rX0_init 0 (.inl fun _ => 0) (i_puta 0 3 (i_ald 0 (i_push (.int 12) (i_newa n0 rX0_init 0 (.inl fun _ => 0) (i_puta 0 4 (i_vret))))))))))))))
def FX0_init : mF := mEntG 1 jX0_init
set_option maxRecDepth 20000 in
theorem kX0_init (l : Launch) (G : va_G) (tg : Nat → ClassId) : CG l G tg yX0_init cX0_init 1 rX0_init FX0_init := by
  refine CG.of RX0 (by decide) rfl rfl (fun X C0 hX hAx hIx => ?_)
  unfold jX0_init
  intro ad n g
  have C := C0.g g
  refine Dn_ald_n (i := 0) (q := 1) C dX0_init_0 rfl rfl ?_
  refine Dn_oi (q := 4) C q_154 q_63 q_64 (by decide) (by decide) dX0_init_1 rfl ?_
  refine Dn_ald_n (i := 0) (q := 5) C dX0_init_4 rfl rfl ?_
  refine Dn_bipush (v := 36) (q := 7) C dX0_init_5 (by decide) rfl ?_
  refine DnG_newa (t := 0) (z := (.inl fun _ => 0)) (aty := .int) (ty := .int) (q := 9) C0 hAx g q_85 rfl (fun _ _ => rfl) (fun _ => rfl) (fun U c1 c2 h1 h2 => Option.some.inj (h1.symm.trans h2)) (by decide) dX0_init_7 rfl ?_
  intro ad n g
  have C := C0.g g
  refine Dn_puta (ci := 0) (j := 2) (T := TX0) (N := 5) (Cn := RX0) (ty := .array .int) (q := 12) C hIx.g rfl iX0 tyX0 tyX0_ok nmX0 (by decide) q_157 rfl rfl (by decide +kernel) (fun _ => rfl) (fun _ => rfl) dX0_init_9 rfl ?_
  refine Dn_ald_n (i := 0) (q := 13) C dX0_init_12 rfl rfl ?_
  refine Dn_sipush (v := 216) (q := 16) C dX0_init_13 (by decide) rfl ?_
  refine DnG_newa (t := 0) (z := (.inl fun _ => 0)) (aty := .int) (ty := .int) (q := 18) C0 hAx g q_85 rfl (fun _ _ => rfl) (fun _ => rfl) (fun U c1 c2 h1 h2 => Option.some.inj (h1.symm.trans h2)) (by decide) dX0_init_16 rfl ?_
  intro ad n g
  have C := C0.g g
  refine Dn_puta (ci := 0) (j := 3) (T := TX0) (N := 5) (Cn := RX0) (ty := .array .int) (q := 21) C hIx.g rfl iX0 tyX0 tyX0_ok nmX0 (by decide) q_158 rfl rfl (by decide +kernel) (fun _ => rfl) (fun _ => rfl) dX0_init_18 rfl ?_
  refine Dn_ald_n (i := 0) (q := 22) C dX0_init_21 rfl rfl ?_
  refine Dn_bipush (v := 12) (q := 24) C dX0_init_22 (by decide) rfl ?_
  refine DnG_newa (t := 0) (z := (.inl fun _ => 0)) (aty := .int) (ty := .int) (q := 26) C0 hAx g q_85 rfl (fun _ _ => rfl) (fun _ => rfl) (fun U c1 c2 h1 h2 => Option.some.inj (h1.symm.trans h2)) (by decide) dX0_init_24 rfl ?_
  intro ad n g
  have C := C0.g g
  refine Dn_puta (ci := 0) (j := 4) (T := TX0) (N := 5) (Cn := RX0) (ty := .array .int) (q := 29) C hIx.g rfl iX0 tyX0 tyX0_ok nmX0 (by decide) q_159 rfl rfl (by decide +kernel) (fun _ => rfl) (fun _ => rfl) dX0_init_26 rfl ?_
  exact Dn_vretG C0 hX g dX0_init_29
abbrev rX4_init : Room := ({ frames := 5, cells := 23, slots := 892, locals := 114 } : Room)
def jX4_init (n0 : Nat) : mK := i_ald 0 (i_oi (i_ald 0 (i_new n0 rX4_init 3 4 [.int 0, .null, .int 0, .int 0] (i_dup (i_callC n0 rX4_init FX3_init 1 200 (i_puta 4 0 (i_ald 0 (i_new n0 rX4_init 2 2 [.int 0, .null] (i_dup (i_callC n0 rX4_init FX2_init 1 4 (i_puta 4 1 (i_ald 0 (i_new n0 rX4_init 1 9 [.int 0, .int 0, .int 0, .int 0, .int 0, .int 0, .long 0, .long 0, .null] (i_dup (i_callC n0 rX4_init FX1_init 1 42 (i_puta 4 2 (i_ald 0 (i_new n0 rX4_init 0 5 [.int 0, .long 0, .null, .null, .null] (i_dup (i_callC n0 rX4_init FX0_init 3 264 (i_puta 4 3 (i_ald 0 (i_new n0 rX4_init 1 9 [.int 0, .int 0, .int 0, .int 0, .int 0, .int 0, .long 0, .long 0, .null] (i_dup (i_callC n0 rX4_init FX1_init 1 42 (i_puta 4 4 (i_ald 0 (i_new n0 rX4_init 0 5 [.int 0, .long 0, .null, .null, .null] (i_dup (i_callC n0 rX4_init FX0_init 3 264 (i_puta 4 5 (i_ald 0 (i_push (.int 2) (i_newa n0 rX4_init 0 (.inl fun _ => 0) (i_puta 4 9 (i_ald 0 (i_push (.int 2) (i_newa n0 rX4_init 0 (.inl fun _ => 0) (i_puta 4 10 (i_ald 0 (i_push (.int 2) (i_newa n0 rX4_init 0 (.inl fun _ => 0) (i_puta 4 11 (i_ald 0 (i_push (.int 8) (i_newa n0 rX4_init 0 (.inl fun _ => 0) (i_puta 4 12 (i_ald 0 (i_push (.int 8) (i_newa n0 rX4_init 0 (.inl fun _ => 0) (i_puta 4 13 (i_ald 0 (i_push (.int 8) (i_newa n0 rX4_init 0 (.inl fun _ => 0) (i_puta 4 14 (i_ald 0 (i_push (.int 12) (i_newa n0 rX4_init 1 (.inr (.inl fun _ => 0)) (i_puta 4 16 (i_ald 0 (i_get 4 3 (i_ald 0 (i_get 4 2 (i_callV 0 1 FX0_listen (i_ald 0 (i_callV 4 0 FX4_startAnew (i_vret)))))))))))))))))))))))))))))))))))))))))))))))))))))))))))))))))))
def FX4_init : mF := mEntG 1 jX4_init
set_option maxRecDepth 20000 in
theorem kX4_init (l : Launch) (G : va_G) (tg : Nat → ClassId) : CG l G tg yX4_init cX4_init 1 rX4_init FX4_init := by
  refine CG.of RX4 (by decide) rfl rfl (fun X C0 hX hAx hIx => ?_)
  unfold jX4_init
  intro ad n g
  have C := C0.g g
  refine Dn_ald_n (i := 0) (q := 1) C dX4_init_0 rfl rfl ?_
  refine Dn_oi (q := 4) C q_62 q_63 q_64 (by decide) (by decide) dX4_init_1 rfl ?_
  refine Dn_ald_n (i := 0) (q := 5) C dX4_init_4 rfl rfl ?_
  refine DnG_new (ci := 3) (N := 4) (T := TX3) (Cn := RX3) (fs := [.int 0, .null, .int 0, .int 0]) (q := 8) C0 hAx g rfl iX3 tyX3 tyX3_ok q_65 q_66 q_45 dfX3 (fun _ => rfl) (fun _ => rfl) dX4_init_5 rfl ?_
  intro ad n g
  have C := C0.g g
  refine Dn_dup (q := 9) C dX4_init_8 rfl ?_
  refine DnG_callC (q := 12) (dc := 1) (ds := 200) C0 hAx g (kX3_init _ _ _) q_69 (Or.inr ⟨"FlutePark", by decide +kernel⟩) q_68 q_45 rfl ⟨rfl, rfl⟩ (by decide +kernel) ⟨by decide, by decide⟩ dX4_init_9 rfl ?_
  intro ad n g
  have C := C0.g g
  refine Dn_puta (ci := 4) (j := 0) (T := TX4) (N := 17) (Cn := RX4) (ty := .object "FlutePark$Text") (q := 15) C hIx.g rfl iX4 tyX4 tyX4_ok nmX4 (by decide) q_248 rfl rfl (by decide +kernel) (fun _ => rfl) (fun _ => rfl) dX4_init_12 rfl ?_
  refine Dn_ald_n (i := 0) (q := 16) C dX4_init_15 rfl rfl ?_
  refine DnG_new (ci := 2) (N := 2) (T := TX2) (Cn := RX2) (fs := [.int 0, .null]) (q := 19) C0 hAx g rfl iX2 tyX2 tyX2_ok q_86 q_87 q_46 dfX2 (fun _ => rfl) (fun _ => rfl) dX4_init_16 rfl ?_
  intro ad n g
  have C := C0.g g
  refine Dn_dup (q := 20) C dX4_init_19 rfl ?_
  refine DnG_callC (q := 23) (dc := 1) (ds := 4) C0 hAx g (kX2_init _ _ _) q_90 (Or.inr ⟨"FlutePark", by decide +kernel⟩) q_89 q_46 rfl ⟨rfl, rfl⟩ (by decide +kernel) ⟨by decide, by decide⟩ dX4_init_20 rfl ?_
  intro ad n g
  have C := C0.g g
  refine Dn_puta (ci := 4) (j := 1) (T := TX4) (N := 17) (Cn := RX4) (ty := .object "FlutePark$Reader") (q := 26) C hIx.g rfl iX4 tyX4 tyX4_ok nmX4 (by decide) q_249 rfl rfl (by decide +kernel) (fun _ => rfl) (fun _ => rfl) dX4_init_23 rfl ?_
  refine Dn_ald_n (i := 0) (q := 27) C dX4_init_26 rfl rfl ?_
  refine DnG_new (ci := 1) (N := 9) (T := TX1) (Cn := RX1) (fs := [.int 0, .int 0, .int 0, .int 0, .int 0, .int 0, .long 0, .long 0, .null]) (q := 30) C0 hAx g rfl iX1 tyX1 tyX1_ok q_100 q_101 q_47 dfX1 (fun _ => rfl) (fun _ => rfl) dX4_init_27 rfl ?_
  intro ad n g
  have C := C0.g g
  refine Dn_dup (q := 31) C dX4_init_30 rfl ?_
  refine DnG_callC (q := 34) (dc := 1) (ds := 42) C0 hAx g (kX1_init _ _ _) q_104 (Or.inl q_102) q_103 q_47 rfl ⟨rfl, rfl⟩ (by decide +kernel) ⟨by decide, by decide⟩ dX4_init_31 rfl ?_
  intro ad n g
  have C := C0.g g
  refine Dn_puta (ci := 4) (j := 2) (T := TX4) (N := 17) (Cn := RX4) (ty := .object "FlutePark$Park") (q := 37) C hIx.g rfl iX4 tyX4 tyX4_ok nmX4 (by decide) q_250 rfl rfl (by decide +kernel) (fun _ => rfl) (fun _ => rfl) dX4_init_34 rfl ?_
  refine Dn_ald_n (i := 0) (q := 38) C dX4_init_37 rfl rfl ?_
  refine DnG_new (ci := 0) (N := 5) (T := TX0) (Cn := RX0) (fs := [.int 0, .long 0, .null, .null, .null]) (q := 41) C0 hAx g rfl iX0 tyX0 tyX0_ok q_149 q_150 q_48 dfX0 (fun _ => rfl) (fun _ => rfl) dX4_init_38 rfl ?_
  intro ad n g
  have C := C0.g g
  refine Dn_dup (q := 42) C dX4_init_41 rfl ?_
  refine DnG_callC (q := 45) (dc := 3) (ds := 264) C0 hAx g (kX0_init _ _ _) q_153 (Or.inr ⟨"FlutePark", by decide +kernel⟩) q_152 q_48 rfl ⟨rfl, rfl⟩ (by decide +kernel) ⟨by decide, by decide⟩ dX4_init_42 rfl ?_
  intro ad n g
  have C := C0.g g
  refine Dn_puta (ci := 4) (j := 3) (T := TX4) (N := 17) (Cn := RX4) (ty := .object "FlutePark$Hearing") (q := 48) C hIx.g rfl iX4 tyX4 tyX4_ok nmX4 (by decide) q_251 rfl rfl (by decide +kernel) (fun _ => rfl) (fun _ => rfl) dX4_init_45 rfl ?_
  refine Dn_ald_n (i := 0) (q := 49) C dX4_init_48 rfl rfl ?_
  refine DnG_new (ci := 1) (N := 9) (T := TX1) (Cn := RX1) (fs := [.int 0, .int 0, .int 0, .int 0, .int 0, .int 0, .long 0, .long 0, .null]) (q := 52) C0 hAx g rfl iX1 tyX1 tyX1_ok q_100 q_101 q_47 dfX1 (fun _ => rfl) (fun _ => rfl) dX4_init_49 rfl ?_
  intro ad n g
  have C := C0.g g
  refine Dn_dup (q := 53) C dX4_init_52 rfl ?_
  refine DnG_callC (q := 56) (dc := 1) (ds := 42) C0 hAx g (kX1_init _ _ _) q_104 (Or.inl q_102) q_103 q_47 rfl ⟨rfl, rfl⟩ (by decide +kernel) ⟨by decide, by decide⟩ dX4_init_53 rfl ?_
  intro ad n g
  have C := C0.g g
  refine Dn_puta (ci := 4) (j := 4) (T := TX4) (N := 17) (Cn := RX4) (ty := .object "FlutePark$Park") (q := 59) C hIx.g rfl iX4 tyX4 tyX4_ok nmX4 (by decide) q_252 rfl rfl (by decide +kernel) (fun _ => rfl) (fun _ => rfl) dX4_init_56 rfl ?_
  refine Dn_ald_n (i := 0) (q := 60) C dX4_init_59 rfl rfl ?_
  refine DnG_new (ci := 0) (N := 5) (T := TX0) (Cn := RX0) (fs := [.int 0, .long 0, .null, .null, .null]) (q := 63) C0 hAx g rfl iX0 tyX0 tyX0_ok q_149 q_150 q_48 dfX0 (fun _ => rfl) (fun _ => rfl) dX4_init_60 rfl ?_
  intro ad n g
  have C := C0.g g
  refine Dn_dup (q := 64) C dX4_init_63 rfl ?_
  refine DnG_callC (q := 67) (dc := 3) (ds := 264) C0 hAx g (kX0_init _ _ _) q_153 (Or.inr ⟨"FlutePark", by decide +kernel⟩) q_152 q_48 rfl ⟨rfl, rfl⟩ (by decide +kernel) ⟨by decide, by decide⟩ dX4_init_64 rfl ?_
  intro ad n g
  have C := C0.g g
  refine Dn_puta (ci := 4) (j := 5) (T := TX4) (N := 17) (Cn := RX4) (ty := .object "FlutePark$Hearing") (q := 70) C hIx.g rfl iX4 tyX4 tyX4_ok nmX4 (by decide) q_253 rfl rfl (by decide +kernel) (fun _ => rfl) (fun _ => rfl) dX4_init_67 rfl ?_
  refine Dn_ald_n (i := 0) (q := 71) C dX4_init_70 rfl rfl ?_
  refine Dn_iconst (v := 2) (q := 72) C dX4_init_71 (by decide) rfl ?_
  refine DnG_newa (t := 0) (z := (.inl fun _ => 0)) (aty := .int) (ty := .int) (q := 74) C0 hAx g q_85 rfl (fun _ _ => rfl) (fun _ => rfl) (fun U c1 c2 h1 h2 => Option.some.inj (h1.symm.trans h2)) (by decide) dX4_init_72 rfl ?_
  intro ad n g
  have C := C0.g g
  refine Dn_puta (ci := 4) (j := 9) (T := TX4) (N := 17) (Cn := RX4) (ty := .array .int) (q := 77) C hIx.g rfl iX4 tyX4 tyX4_ok nmX4 (by decide) q_257 rfl rfl (by decide +kernel) (fun _ => rfl) (fun _ => rfl) dX4_init_74 rfl ?_
  refine Dn_ald_n (i := 0) (q := 78) C dX4_init_77 rfl rfl ?_
  refine Dn_iconst (v := 2) (q := 79) C dX4_init_78 (by decide) rfl ?_
  refine DnG_newa (t := 0) (z := (.inl fun _ => 0)) (aty := .int) (ty := .int) (q := 81) C0 hAx g q_85 rfl (fun _ _ => rfl) (fun _ => rfl) (fun U c1 c2 h1 h2 => Option.some.inj (h1.symm.trans h2)) (by decide) dX4_init_79 rfl ?_
  intro ad n g
  have C := C0.g g
  refine Dn_puta (ci := 4) (j := 10) (T := TX4) (N := 17) (Cn := RX4) (ty := .array .int) (q := 84) C hIx.g rfl iX4 tyX4 tyX4_ok nmX4 (by decide) q_258 rfl rfl (by decide +kernel) (fun _ => rfl) (fun _ => rfl) dX4_init_81 rfl ?_
  refine Dn_ald_n (i := 0) (q := 85) C dX4_init_84 rfl rfl ?_
  refine Dn_iconst (v := 2) (q := 86) C dX4_init_85 (by decide) rfl ?_
  refine DnG_newa (t := 0) (z := (.inl fun _ => 0)) (aty := .int) (ty := .int) (q := 88) C0 hAx g q_85 rfl (fun _ _ => rfl) (fun _ => rfl) (fun U c1 c2 h1 h2 => Option.some.inj (h1.symm.trans h2)) (by decide) dX4_init_86 rfl ?_
  intro ad n g
  have C := C0.g g
  refine Dn_puta (ci := 4) (j := 11) (T := TX4) (N := 17) (Cn := RX4) (ty := .array .int) (q := 91) C hIx.g rfl iX4 tyX4 tyX4_ok nmX4 (by decide) q_259 rfl rfl (by decide +kernel) (fun _ => rfl) (fun _ => rfl) dX4_init_88 rfl ?_
  refine Dn_ald_n (i := 0) (q := 92) C dX4_init_91 rfl rfl ?_
  refine Dn_bipush (v := 8) (q := 94) C dX4_init_92 (by decide) rfl ?_
  refine DnG_newa (t := 0) (z := (.inl fun _ => 0)) (aty := .int) (ty := .int) (q := 96) C0 hAx g q_85 rfl (fun _ _ => rfl) (fun _ => rfl) (fun U c1 c2 h1 h2 => Option.some.inj (h1.symm.trans h2)) (by decide) dX4_init_94 rfl ?_
  intro ad n g
  have C := C0.g g
  refine Dn_puta (ci := 4) (j := 12) (T := TX4) (N := 17) (Cn := RX4) (ty := .array .int) (q := 99) C hIx.g rfl iX4 tyX4 tyX4_ok nmX4 (by decide) q_260 rfl rfl (by decide +kernel) (fun _ => rfl) (fun _ => rfl) dX4_init_96 rfl ?_
  refine Dn_ald_n (i := 0) (q := 100) C dX4_init_99 rfl rfl ?_
  refine Dn_bipush (v := 8) (q := 102) C dX4_init_100 (by decide) rfl ?_
  refine DnG_newa (t := 0) (z := (.inl fun _ => 0)) (aty := .int) (ty := .int) (q := 104) C0 hAx g q_85 rfl (fun _ _ => rfl) (fun _ => rfl) (fun U c1 c2 h1 h2 => Option.some.inj (h1.symm.trans h2)) (by decide) dX4_init_102 rfl ?_
  intro ad n g
  have C := C0.g g
  refine Dn_puta (ci := 4) (j := 13) (T := TX4) (N := 17) (Cn := RX4) (ty := .array .int) (q := 107) C hIx.g rfl iX4 tyX4 tyX4_ok nmX4 (by decide) q_261 rfl rfl (by decide +kernel) (fun _ => rfl) (fun _ => rfl) dX4_init_104 rfl ?_
  refine Dn_ald_n (i := 0) (q := 108) C dX4_init_107 rfl rfl ?_
  refine Dn_bipush (v := 8) (q := 110) C dX4_init_108 (by decide) rfl ?_
  refine DnG_newa (t := 0) (z := (.inl fun _ => 0)) (aty := .int) (ty := .int) (q := 112) C0 hAx g q_85 rfl (fun _ _ => rfl) (fun _ => rfl) (fun U c1 c2 h1 h2 => Option.some.inj (h1.symm.trans h2)) (by decide) dX4_init_110 rfl ?_
  intro ad n g
  have C := C0.g g
  refine Dn_puta (ci := 4) (j := 14) (T := TX4) (N := 17) (Cn := RX4) (ty := .array .int) (q := 115) C hIx.g rfl iX4 tyX4 tyX4_ok nmX4 (by decide) q_262 rfl rfl (by decide +kernel) (fun _ => rfl) (fun _ => rfl) dX4_init_112 rfl ?_
  refine Dn_ald_n (i := 0) (q := 116) C dX4_init_115 rfl rfl ?_
  refine Dn_bipush (v := 12) (q := 118) C dX4_init_116 (by decide) rfl ?_
  refine DnG_newa (t := 1) (z := (.inr (.inl fun _ => 0))) (aty := .long) (ty := .long) (q := 120) C0 hAx g q_300 rfl (fun _ _ => rfl) (fun _ => rfl) (fun U c1 c2 h1 h2 => Option.some.inj (h1.symm.trans h2)) (by decide) dX4_init_118 rfl ?_
  intro ad n g
  have C := C0.g g
  refine Dn_puta (ci := 4) (j := 16) (T := TX4) (N := 17) (Cn := RX4) (ty := .array .long) (q := 123) C hIx.g rfl iX4 tyX4 tyX4_ok nmX4 (by decide) q_264 rfl rfl (by decide +kernel) (fun _ => rfl) (fun _ => rfl) dX4_init_120 rfl ?_
  refine Dn_ald_n (i := 0) (q := 124) C dX4_init_123 rfl rfl ?_
  refine Dn_get (ci := 4) (j := 3) (T := TX4) (N := 17) (Cn := RX4) (q := 127) C rfl iX4 (by decide) q_251 dX4_init_124 rfl ?_
  refine Dn_ald_n (i := 0) (q := 128) C dX4_init_127 rfl rfl ?_
  refine Dn_get (ci := 4) (j := 2) (T := TX4) (N := 17) (Cn := RX4) (q := 131) C rfl iX4 (by decide) q_250 dX4_init_128 rfl ?_
  refine Dn_callV (ci := 0) (T := TX0) (N := 5) (q := 134) C rfl (kX0_listen _ _ _) q_174 q_171 q_172 q_173 q_48 ⟨rfl, rfl⟩ (by decide +kernel) ⟨by decide, by decide⟩ dX4_init_131 rfl ?_
  refine Dn_ald_n (i := 0) (q := 135) C dX4_init_134 rfl rfl ?_
  refine Dn_callV (ci := 4) (T := TX4) (N := 17) (q := 138) C rfl (kX4_startAnew _ _ _) q_234 q_231 q_233 q_1 q_44 ⟨rfl, rfl⟩ (by decide +kernel) ⟨by decide, by decide⟩ dX4_init_135 rfl ?_
  exact Dn_vretG C0 hX g dX4_init_138
abbrev rX5_init : Room := ({ frames := 1, cells := 7, slots := 343, locals := 12 } : Room)
def jX5_init (n0 : Nat) : mK := i_ald 0 (i_oi (i_ald 0 (i_push (.int 9) (i_newa n0 rX5_init 0 (.inl fun _ => 0) (i_puta 5 0 (i_ald 0 (i_push (.int 2) (i_newa n0 rX5_init 2 (.inl fun _ => 0) (i_puta 5 1 (i_ald 0 (i_push (.int 200) (i_newa n0 rX5_init 0 (.inl fun _ => 0) (i_puta 5 2 (i_ald 0 (i_push (.int 60) (i_newa n0 rX5_init 0 (.inl fun _ => 0) (i_puta 5 4 (i_ald 0 (i_push (.int 4) (i_puti 5 6 (i_ald 0 (i_push (.int 4) (i_puti 5 7 (i_ald 0 (i_push (.int 2) (i_puti 5 8 (i_ald 0 (i_push (.int 50) (i_puti 5 10 (i_ald 0 (i_push (.int 42) (i_newa n0 rX5_init 0 (.inl fun _ => 0) (i_puta 5 13 (i_ald 0 (i_push (.int 6) (i_newa n0 rX5_init 0 (.inl fun _ => 0) (i_puta 5 21 (i_ald 0 (i_push (.int 24) (i_newa n0 rX5_init 0 (.inl fun _ => 0) (i_puta 5 23 (i_ald 0 (i_get 5 0 (i_push (.int 1) (i_push (.int (-1)) (i_iast (i_vret)))))))))))))))))))))))))))))))))))))))))))))))
def FX5_init : mF := mEntG 1 jX5_init
set_option maxRecDepth 20000 in
theorem kX5_init (l : Launch) (G : va_G) (tg : Nat → ClassId) : CG l G tg yX5_init cX5_init 1 rX5_init FX5_init := by
  refine CG.of RX5 (by decide) rfl rfl (fun X C0 hX hAx hIx => ?_)
  unfold jX5_init
  intro ad n g
  have C := C0.g g
  refine Dn_ald_n (i := 0) (q := 1) C dX5_init_0 rfl rfl ?_
  refine Dn_oi (q := 4) C q_709 q_63 q_64 (by decide) (by decide) dX5_init_1 rfl ?_
  refine Dn_ald_n (i := 0) (q := 5) C dX5_init_4 rfl rfl ?_
  refine Dn_bipush (v := 9) (q := 7) C dX5_init_5 (by decide) rfl ?_
  refine DnG_newa (t := 0) (z := (.inl fun _ => 0)) (aty := .int) (ty := .int) (q := 9) C0 hAx g q_85 rfl (fun _ _ => rfl) (fun _ => rfl) (fun U c1 c2 h1 h2 => Option.some.inj (h1.symm.trans h2)) (by decide) dX5_init_7 rfl ?_
  intro ad n g
  have C := C0.g g
  refine Dn_puta (ci := 5) (j := 0) (T := TX5) (N := 25) (Cn := RX5) (ty := .array .int) (q := 12) C hIx.g rfl iX5 tyX5 tyX5_ok nmX5 (by decide) q_710 rfl rfl (by decide +kernel) (fun _ => rfl) (fun _ => rfl) dX5_init_9 rfl ?_
  refine Dn_ald_n (i := 0) (q := 13) C dX5_init_12 rfl rfl ?_
  refine Dn_iconst (v := 2) (q := 14) C dX5_init_13 (by decide) rfl ?_
  refine DnG_newa (t := 2) (z := (.inl fun _ => 0)) (aty := .boolean) (ty := .boolean) (q := 16) C0 hAx g q_786 rfl (fun _ _ => rfl) (fun _ => rfl) (fun U c1 c2 h1 h2 => Option.some.inj (h1.symm.trans h2)) (by decide) dX5_init_14 rfl ?_
  intro ad n g
  have C := C0.g g
  refine Dn_puta (ci := 5) (j := 1) (T := TX5) (N := 25) (Cn := RX5) (ty := .array .boolean) (q := 19) C hIx.g rfl iX5 tyX5 tyX5_ok nmX5 (by decide) q_711 rfl rfl (by decide +kernel) (fun _ => rfl) (fun _ => rfl) dX5_init_16 rfl ?_
  refine Dn_ald_n (i := 0) (q := 20) C dX5_init_19 rfl rfl ?_
  refine Dn_sipush (v := 200) (q := 23) C dX5_init_20 (by decide) rfl ?_
  refine DnG_newa (t := 0) (z := (.inl fun _ => 0)) (aty := .int) (ty := .int) (q := 25) C0 hAx g q_85 rfl (fun _ _ => rfl) (fun _ => rfl) (fun U c1 c2 h1 h2 => Option.some.inj (h1.symm.trans h2)) (by decide) dX5_init_23 rfl ?_
  intro ad n g
  have C := C0.g g
  refine Dn_puta (ci := 5) (j := 2) (T := TX5) (N := 25) (Cn := RX5) (ty := .array .int) (q := 28) C hIx.g rfl iX5 tyX5 tyX5_ok nmX5 (by decide) q_712 rfl rfl (by decide +kernel) (fun _ => rfl) (fun _ => rfl) dX5_init_25 rfl ?_
  refine Dn_ald_n (i := 0) (q := 29) C dX5_init_28 rfl rfl ?_
  refine Dn_bipush (v := 60) (q := 31) C dX5_init_29 (by decide) rfl ?_
  refine DnG_newa (t := 0) (z := (.inl fun _ => 0)) (aty := .int) (ty := .int) (q := 33) C0 hAx g q_85 rfl (fun _ _ => rfl) (fun _ => rfl) (fun U c1 c2 h1 h2 => Option.some.inj (h1.symm.trans h2)) (by decide) dX5_init_31 rfl ?_
  intro ad n g
  have C := C0.g g
  refine Dn_puta (ci := 5) (j := 4) (T := TX5) (N := 25) (Cn := RX5) (ty := .array .int) (q := 36) C hIx.g rfl iX5 tyX5 tyX5_ok nmX5 (by decide) q_714 rfl rfl (by decide +kernel) (fun _ => rfl) (fun _ => rfl) dX5_init_33 rfl ?_
  refine Dn_ald_n (i := 0) (q := 37) C dX5_init_36 rfl rfl ?_
  refine Dn_iconst (v := 4) (q := 38) C dX5_init_37 (by decide) rfl ?_
  refine Dn_puti (ci := 5) (j := 6) (T := TX5) (N := 25) (Cn := RX5) (q := 41) C rfl iX5 tyX5 tyX5_ok nmX5 (by decide) q_716 rfl (by decide +kernel) dX5_init_38 rfl ?_
  refine Dn_ald_n (i := 0) (q := 42) C dX5_init_41 rfl rfl ?_
  refine Dn_iconst (v := 4) (q := 43) C dX5_init_42 (by decide) rfl ?_
  refine Dn_puti (ci := 5) (j := 7) (T := TX5) (N := 25) (Cn := RX5) (q := 46) C rfl iX5 tyX5 tyX5_ok nmX5 (by decide) q_717 rfl (by decide +kernel) dX5_init_43 rfl ?_
  refine Dn_ald_n (i := 0) (q := 47) C dX5_init_46 rfl rfl ?_
  refine Dn_iconst (v := 2) (q := 48) C dX5_init_47 (by decide) rfl ?_
  refine Dn_puti (ci := 5) (j := 8) (T := TX5) (N := 25) (Cn := RX5) (q := 51) C rfl iX5 tyX5 tyX5_ok nmX5 (by decide) q_718 rfl (by decide +kernel) dX5_init_48 rfl ?_
  refine Dn_ald_n (i := 0) (q := 52) C dX5_init_51 rfl rfl ?_
  refine Dn_bipush (v := 50) (q := 54) C dX5_init_52 (by decide) rfl ?_
  refine Dn_puti (ci := 5) (j := 10) (T := TX5) (N := 25) (Cn := RX5) (q := 57) C rfl iX5 tyX5 tyX5_ok nmX5 (by decide) q_720 rfl (by decide +kernel) dX5_init_54 rfl ?_
  refine Dn_ald_n (i := 0) (q := 58) C dX5_init_57 rfl rfl ?_
  refine Dn_bipush (v := 42) (q := 60) C dX5_init_58 (by decide) rfl ?_
  refine DnG_newa (t := 0) (z := (.inl fun _ => 0)) (aty := .int) (ty := .int) (q := 62) C0 hAx g q_85 rfl (fun _ _ => rfl) (fun _ => rfl) (fun U c1 c2 h1 h2 => Option.some.inj (h1.symm.trans h2)) (by decide) dX5_init_60 rfl ?_
  intro ad n g
  have C := C0.g g
  refine Dn_puta (ci := 5) (j := 13) (T := TX5) (N := 25) (Cn := RX5) (ty := .array .int) (q := 65) C hIx.g rfl iX5 tyX5 tyX5_ok nmX5 (by decide) q_723 rfl rfl (by decide +kernel) (fun _ => rfl) (fun _ => rfl) dX5_init_62 rfl ?_
  refine Dn_ald_n (i := 0) (q := 66) C dX5_init_65 rfl rfl ?_
  refine Dn_bipush (v := 6) (q := 68) C dX5_init_66 (by decide) rfl ?_
  refine DnG_newa (t := 0) (z := (.inl fun _ => 0)) (aty := .int) (ty := .int) (q := 70) C0 hAx g q_85 rfl (fun _ _ => rfl) (fun _ => rfl) (fun U c1 c2 h1 h2 => Option.some.inj (h1.symm.trans h2)) (by decide) dX5_init_68 rfl ?_
  intro ad n g
  have C := C0.g g
  refine Dn_puta (ci := 5) (j := 21) (T := TX5) (N := 25) (Cn := RX5) (ty := .array .int) (q := 73) C hIx.g rfl iX5 tyX5 tyX5_ok nmX5 (by decide) q_731 rfl rfl (by decide +kernel) (fun _ => rfl) (fun _ => rfl) dX5_init_70 rfl ?_
  refine Dn_ald_n (i := 0) (q := 74) C dX5_init_73 rfl rfl ?_
  refine Dn_bipush (v := 24) (q := 76) C dX5_init_74 (by decide) rfl ?_
  refine DnG_newa (t := 0) (z := (.inl fun _ => 0)) (aty := .int) (ty := .int) (q := 78) C0 hAx g q_85 rfl (fun _ _ => rfl) (fun _ => rfl) (fun U c1 c2 h1 h2 => Option.some.inj (h1.symm.trans h2)) (by decide) dX5_init_76 rfl ?_
  intro ad n g
  have C := C0.g g
  refine Dn_puta (ci := 5) (j := 23) (T := TX5) (N := 25) (Cn := RX5) (ty := .array .int) (q := 81) C hIx.g rfl iX5 tyX5 tyX5_ok nmX5 (by decide) q_733 rfl rfl (by decide +kernel) (fun _ => rfl) (fun _ => rfl) dX5_init_78 rfl ?_
  refine Dn_ald_n (i := 0) (q := 82) C dX5_init_81 rfl rfl ?_
  refine Dn_get (ci := 5) (j := 0) (T := TX5) (N := 25) (Cn := RX5) (q := 85) C rfl iX5 (by decide) q_710 dX5_init_82 rfl ?_
  refine Dn_iconst (v := 1) (q := 86) C dX5_init_85 (by decide) rfl ?_
  refine Dn_iconst (v := (-1)) (q := 87) C dX5_init_86 (by decide) rfl ?_
  refine Dn_iast (q := 88) C dX5_init_87 rfl ?_
  exact Dn_vretG C0 hX g dX5_init_88
