/-! WHAT IS KNOWN AT THE LAW'S ENTRY -/
def fL : List Cond := flatC (Jvm.Cond.and given_1 narrow_1)
def tmS (i : Nat) : Term := .string "FlutePark$Reader" (sK.getD i 0)
def tmN : Term := .static "FlutePark$Reader" "NUMBERS" "[I"
def xEx : List Nat := [24, 32, 41, 52, 64, 77, 91, 105, 121, 137, 155, 173, 193]
def xCo : List Nat := [25, 33, 42, 53, 65, 78, 92, 106, 122, 138, 156, 174, 194]
def xAr : List Nat := [26, 34, 43, 54, 66, 79, 93, 107, 123, 139, 157, 175, 195]
def xLe : List Nat := [27, 35, 44, 55, 67, 80, 94, 108, 124, 140, 158, 176, 196]
def xEl : List (List Nat) := [[28, 29, 30, 31], [36, 37, 38, 39], [45, 46, 47, 48, 49], [56, 57, 58, 59, 60], [68, 69, 70, 71, 72], [81, 82, 83, 84, 85], [95, 96, 97, 98], [109, 110, 111, 112, 113], [125, 126, 127, 128], [141, 142, 143, 144, 145], [159, 160, 161, 162], [177, 178, 179, 180, 181], [197]]
def xNe : List (List Nat) := [[0, 40, 50, 61, 73, 86, 99, 114, 129, 146, 163, 182, 198], [9999, 0, 51, 62, 74, 87, 100, 115, 130, 147, 164, 183, 199], [9999, 9999, 0, 63, 75, 88, 101, 116, 131, 148, 165, 184, 200], [9999, 9999, 9999, 0, 76, 89, 102, 117, 132, 149, 166, 185, 201], [9999, 9999, 9999, 9999, 0, 90, 103, 118, 133, 150, 167, 186, 202], [9999, 9999, 9999, 9999, 9999, 0, 104, 119, 134, 151, 168, 187, 203], [9999, 9999, 9999, 9999, 9999, 9999, 0, 120, 135, 152, 169, 188, 204], [9999, 9999, 9999, 9999, 9999, 9999, 9999, 0, 136, 153, 170, 189, 205], [9999, 9999, 9999, 9999, 9999, 9999, 9999, 9999, 0, 154, 171, 190, 206], [9999, 9999, 9999, 9999, 9999, 9999, 9999, 9999, 9999, 0, 172, 191, 207], [9999, 9999, 9999, 9999, 9999, 9999, 9999, 9999, 9999, 9999, 0, 192, 208], [9999, 9999, 9999, 9999, 9999, 9999, 9999, 9999, 9999, 9999, 9999, 0, 209], [9999, 9999, 9999, 9999, 9999, 9999, 9999, 9999, 9999, 9999, 9999, 9999, 0]]
def xNb : List Nat := [12, 13, 14, 15, 16, 17, 18, 19, 20, 21, 22, 23]
set_option maxRecDepth 100000 in
theorem y_ex : ∀ i, i < 13 → fL[xEx.getD i 0]? = some (Cond.exactly (tmS i) "java/lang/String") := by decide +kernel
set_option maxRecDepth 100000 in
theorem y_co : ∀ i, i < 13 → fL[xCo.getD i 0]? = some (Cond.eq (.field (tmS i) "java/lang/String" "coder" "B") (.int 0)) := by decide +kernel
set_option maxRecDepth 100000 in
theorem y_ar : ∀ i, i < 13 → fL[xAr.getD i 0]? = some (Cond.arrayOf (.field (tmS i) "java/lang/String" "value" "[B") .byte) := by decide +kernel
set_option maxRecDepth 100000 in
theorem y_le : ∀ i, i < 13 → fL[xLe.getD i 0]? = some (Cond.eq (.length (.field (tmS i) "java/lang/String" "value" "[B")) (.int (Int32.ofNat (sN.getD i 0)))) := by decide +kernel
set_option maxRecDepth 100000 in
theorem y_el : ∀ i, i < 13 → ∀ j, j < sN.getD i 0 → fL[(xEl.getD i []).getD j 0]? = some (Cond.eq (.elem (.field (tmS i) "java/lang/String" "value" "[B") (.int (Int32.ofNat j))) (.int ((sB.getD i []).getD j 0))) := by decide +kernel
set_option maxRecDepth 100000 in
theorem y_ne : ∀ i, i < 13 → ∀ j, j < 13 → i ≠ j → fL[(xNe.getD i []).getD j 0]? = some (Cond.not (Cond.eq (tmS i) (tmS j))) ∨ fL[(xNe.getD j []).getD i 0]? = some (Cond.not (Cond.eq (tmS j) (tmS i))) := by decide +kernel
set_option maxRecDepth 100000 in
theorem y_nb : ∀ j, j < 12 → fL[xNb.getD j 0]? = some (Cond.eq (.elem tmN (.int (Int32.ofNat j))) (.int (nT.getD j 0))) := by decide +kernel
set_option maxRecDepth 100000 in
theorem y_n1 : fL[10]? = some (Cond.arrayOf tmN .int) := by decide +kernel
set_option maxRecDepth 100000 in
theorem y_n2 : fL[11]? = some (Cond.eq (.length tmN) (.int (Int32.ofNat 12))) := by decide +kernel
set_option maxRecDepth 100000 in
theorem y_cs : fL[4]? = some (Cond.eq (.static "java/lang/String" "COMPACT_STRINGS" "Z") (.int 1)) := by decide +kernel
set_option maxRecDepth 100000 in
theorem y_fm : fL[5]? = some (Cond.isRef (.static "jdk/internal/util/Preconditions" "SIOOBE_FORMATTER" "Ljava/util/function/BiFunction;")) := by decide +kernel
theorem y_sr : ∀ i, i < 13 → lw_tbl[([364, 365, 366, 367, 368, 369, 370, 371, 372, 373, 374, 375, 480] : List Nat).getD i 0]? = some (Cond.stringRef RX2 (sK.getD i 0) (sT.getD i "")) := by decide +kernel
section ENTRY
variable {args : Array Value} {s : State}
theorem fl_use (hgv : (Jvm.Cond.and given_1 narrow_1).before args s = true) {k : Nat} {w : Cond} (h : fL[k]? = some w) : w.before args s = true := flat_of_before _ hgv w (List.mem_of_getElem? h)
theorem gw_use (hts : ∀ w ∈ lw_tbl, w.before args s = true) {w : Cond} (h : w ∈ gW) : w.before args s = true := hts w (gW_in w h)
theorem kn_K (hts : ∀ w ∈ lw_tbl, w.before args s = true) : ∃ (G : va_G) (tg : Nat → ClassId), va_K G vwCl [(tg 0, .int), (tg 1, .long), (tg 2, .boolean)] s := by
  have hg : ∀ w ∈ gW, w.before args s = true := fun w h => gw_use hts h
  obtain ⟨a0, b0, k0⟩ := u_known hg iX0 (hg _ q_150)
  obtain ⟨a1, b1, k1⟩ := u_known hg iX1 (hg _ q_101)
  obtain ⟨a2, b2, k2⟩ := u_known hg iX2 (hg _ q_87)
  obtain ⟨a3, b3, k3⟩ := u_known hg iX3 (hg _ q_66)
  obtain ⟨a4, b4, k4⟩ := u_known hg iX4 (hg _ q_58)
  obtain ⟨a5, b5, k5⟩ := u_known hg iX5 (hg _ q_705)
  obtain ⟨c0, kA0, comp0, f0, g0, h0⟩ := Cond.arrayClass_spec (args := args) (first := s) (o := none) (s := s) (idx := []) (hg _ q_85)
  obtain ⟨c1, kA1, comp1, f1, g1, h1⟩ := Cond.arrayClass_spec (args := args) (first := s) (o := none) (s := s) (idx := []) (hg _ q_300)
  obtain ⟨c2, kA2, comp2, f2, g2, h2⟩ := Cond.arrayClass_spec (args := args) (first := s) (o := none) (s := s) (idx := []) (hg _ q_786)
  refine ⟨(fun c => match c with | 0 => a0 | 1 => a1 | 2 => a2 | 3 => a3 | 4 => a4 | _ => a5, fun c => match c with | 0 => b0 | 1 => b1 | 2 => b2 | 3 => b3 | 4 => b4 | _ => b5), fun t => match t with | 0 => c0 | 1 => c1 | _ => c2, fun c q hq => ?_, fun k q hq => ?_⟩
  · match c, hq with
    | 0, hq => cases hq; exact k0
    | 1, hq => cases hq; exact k1
    | 2, hq => cases hq; exact k2
    | 3, hq => cases hq; exact k3
    | 4, hq => cases hq; exact k4
    | 5, hq => cases hq; exact k5
    | c + 6, hq => cases hq
  · match k, hq with
    | 0, hq => cases hq; exact ⟨fun n z => ⟨fun k h => (by cases h), kA0, g0, comp0, h0⟩, f0⟩
    | 1, hq => cases hq; exact ⟨fun n z => ⟨fun k h => (by cases h), kA1, g1, comp1, h1⟩, f1⟩
    | 2, hq => cases hq; exact ⟨fun n z => ⟨fun k h => (by cases h), kA2, g2, comp2, h2⟩, f2⟩
    | k + 3, hq => cases hq
theorem kn_X (hts : ∀ w ∈ lw_tbl, w.before args s = true) (hgv : (Jvm.Cond.and given_1 narrow_1).before args s = true) {A : Nat → Prop} (hA : ∀ a : Nat, a < s.heap.size → ¬ A a) (b : Nat) : ∃ ad : Nat → Nat, ad 3000 = b ∧ mX ad A s := by
  have hg : ∀ w ∈ gW, w.before args s = true := fun w h => gw_use hts h
  obtain ⟨tN, n1, n2⟩ := va_Tof (tm := tmN) (ty := .int) (N := 12) (f := fun j => .int (nT.getD j 0)) (A := A) (by decide) (fl_use hgv y_n1) (va_eqt (fl_use hgv y_n2)) (fun j hj => va_eqt (fl_use hgv (y_nb j hj))) hA
  have hZ := va_Zof (hts _ q_429) (hg _ q_46) n1 hA
  have hC := va_Zof (hts _ q_389) (hg _ q_52) (va_eqi (fl_use hgv y_cs)) hA
  obtain ⟨adK, adV, hS, hR⟩ := vk_Sof (args := args) (s := s) (N := 13) (tm := tmS) (len := sN) (byt := sB) (A := A) (by decide) (fun i hi => fl_use hgv (y_ex i hi)) (fun i hi => fl_use hgv (y_co i hi)) (fun i hi => fl_use hgv (y_ar i hi)) (fun i hi => fl_use hgv (y_le i hi)) (fun i hi j hj => fl_use hgv (y_el i hi j hj)) (fun i j hi hj hij => (y_ne i hi j hj hij).elim (fun z => Or.inl (fl_use hgv z)) (fun z => Or.inr (fl_use hgv z))) hA
  obtain ⟨vF, f1, f2⟩ := Cond.isRef_spec (args := args) (first := s) (o := none) (s := s) (idx := []) (fl_use hgv y_fm)
  have hF := va_Zof (hts _ q_405) (hg _ q_54) f1 hA
  obtain ⟨tF, hF2⟩ : ∃ tF : Nat, vF = .null ∨ vF = .ref tF := by
    cases vF with
    | null => exact ⟨0, Or.inl rfl⟩
    | ref t => exact ⟨t, Or.inr rfl⟩
    | _ => exact absurd f2 (by simp [Value.isRef])
  have eK : ∀ i, i < 13 → (if 1000 + i = 2000 then tN else if 1000 + i = 3000 then b else if 1000 + i = 3001 then tF else if 1100 ≤ 1000 + i then adV (1000 + i - 1100) else adK (1000 + i - 1000)) = adK i := fun i hi => by
    rw [if_neg (by omega), if_neg (by omega), if_neg (by omega), if_neg (by omega), Nat.add_sub_cancel_left]
  have eV : ∀ i, i < 13 → (if 1100 + i = 2000 then tN else if 1100 + i = 3000 then b else if 1100 + i = 3001 then tF else if 1100 ≤ 1100 + i then adV (1100 + i - 1100) else adK (1100 + i - 1000)) = adV i := fun i hi => by
    rw [if_neg (by omega), if_neg (by omega), if_neg (by omega), if_pos (by omega), Nat.add_sub_cancel_left]
  refine ⟨fun k => if k = 2000 then tN else if k = 3000 then b else if k = 3001 then tF else if 1100 ≤ k then adV (k - 1100) else adK (k - 1000), rfl, hZ, n2, hC, ⟨fun i hi => ?_, fun i j hi hj e => ?_⟩, fun i hi => ?_, ?_⟩
  · have z := hS.1 i hi
    show va_O "java/lang/String" (if 1000 + i = 2000 then tN else if 1000 + i = 3000 then b else if 1000 + i = 3001 then tF else if 1100 ≤ 1000 + i then adV (1000 + i - 1100) else adK (1000 + i - 1000)) A s s.heap ∧ va_OF "java/lang/String" "coder" "B" (.int 0) (if 1000 + i = 2000 then tN else if 1000 + i = 3000 then b else if 1000 + i = 3001 then tF else if 1100 ≤ 1000 + i then adV (1000 + i - 1100) else adK (1000 + i - 1000)) A s s.heap ∧ va_OF "java/lang/String" "value" "[B" (.ref (if 1100 + i = 2000 then tN else if 1100 + i = 3000 then b else if 1100 + i = 3001 then tF else if 1100 ≤ 1100 + i then adV (1100 + i - 1100) else adK (1100 + i - 1000))) (if 1000 + i = 2000 then tN else if 1000 + i = 3000 then b else if 1000 + i = 3001 then tF else if 1100 ≤ 1000 + i then adV (1000 + i - 1100) else adK (1000 + i - 1000)) A s s.heap ∧ va_T .byte (if 1100 + i = 2000 then tN else if 1100 + i = 3000 then b else if 1100 + i = 3001 then tF else if 1100 ≤ 1100 + i then adV (1100 + i - 1100) else adK (1100 + i - 1000)) (sN.getD i 0) (fun j => .int ((sB.getD i []).getD j 0)) A s s.heap
    rw [eK i hi, eV i hi]
    exact z
  · have e2 := (eK i hi).symm.trans (e.trans (eK j hj))
    exact hS.2 i j hi hj e2
  · have z := vk_R.of (A := args) (hts _ (List.mem_of_getElem? (y_sr i hi))) (hR i hi)
    show vk_R RX2 (sK.getD i 0) (sT.getD i "") (if 1000 + i = 2000 then tN else if 1000 + i = 3000 then b else if 1000 + i = 3001 then tF else if 1100 ≤ 1000 + i then adV (1000 + i - 1100) else adK (1000 + i - 1000)) s
    rw [eK i hi]
    exact z
  · rcases hF2 with rfl | rfl
    · exact Or.inl hF
    · exact Or.inr hF
theorem law_kn (hts : ∀ w ∈ lw_tbl, w.before args s = true) (hgv : (Jvm.Cond.and given_1 narrow_1).before args s = true) {A : Nat → Prop} (hA : ∀ a : Nat, a < s.heap.size → ¬ A a) (b : Nat) : ∃ (G : va_G) (tg : Nat → ClassId) (ad : Nat → Nat), ad 3000 = b ∧ mKn G tg ad A s := by
  obtain ⟨G, tg, hK⟩ := kn_K hts
  obtain ⟨ad, hb, hX⟩ := kn_X hts hgv hA b
  refine ⟨G, tg, ad, hb, hK, ?_, hX⟩
  exact List.forall_mem_cons.mpr ⟨va_Nw.of rfl (hts _ (List.mem_of_getElem? (i := 67) (by decide +kernel))), List.forall_mem_cons.mpr ⟨va_Nw.of rfl (hts _ (List.mem_of_getElem? (i := 88) (by decide +kernel))), List.forall_mem_cons.mpr ⟨va_Nw.of rfl (hts _ (List.mem_of_getElem? (i := 151) (by decide +kernel))), List.forall_mem_cons.mpr ⟨va_Nw.of rfl (hts _ (List.mem_of_getElem? (i := 532) (by decide +kernel))), List.forall_mem_cons.mpr ⟨va_Nw.of rfl (hts _ (List.mem_of_getElem? (i := 539) (by decide +kernel))), List.forall_mem_cons.mpr ⟨va_Nw.of rfl (hts _ (List.mem_of_getElem? (i := 599) (by decide +kernel))), fun _ h => absurd h List.not_mem_nil⟩⟩⟩⟩⟩⟩
end ENTRY
