/-! THE START: what both constructors make -/
def z0 : Nat → Int32 := fun _ => 0
def P0 : Pk := (4, 4, 0, 2, 50, 0, 0, 0, z0)
def t0c : va_E := .inr (3, [.int 0, .null, .int 0, .int 0])
def V0 : List va_E := [.inr (4, [.null, .null, .null, .null, .null, .null, .int 0, .int 0, .int 0, .null, .null, .null, .null, .null, .null, .int 0, .null])]
set_option maxRecDepth 100000 in
theorem st4_0 (K : mK) : (i_ald 0 (i_oi K)) [] [.ref 0] V0 = K [] [.ref 0] V0 := by rfl
def V1 : List va_E := [.inr (4, [.ref 1, .null, .null, .null, .null, .null, .int 0, .int 0, .int 0, .null, .null, .null, .null, .null, .null, .int 0, .null]), tx 0 0 0, ia 200 z0]
set_option maxRecDepth 100000 in
theorem st4_1 (K : mK) : (i_ald 0 (i_new 1 rX4_init 3 4 [.int 0, .null, .int 0, .int 0] (i_dup (i_callC 1 rX4_init FX3_init 1 200 (i_puta 4 0 K))))) [] [.ref 0] V0 = K [] [.ref 0] V1 := by rfl
def V2 : List va_E := [.inr (4, [.ref 1, .ref 3, .null, .null, .null, .null, .int 0, .int 0, .int 0, .null, .null, .null, .null, .null, .null, .int 0, .null]), tx 0 0 0, ia 200 z0, rd 0, ia 4 z0]
set_option maxRecDepth 100000 in
theorem st4_2 (K : mK) : (i_ald 0 (i_new 1 rX4_init 2 2 [.int 0, .null] (i_dup (i_callC 1 rX4_init FX2_init 1 4 (i_puta 4 1 K))))) [] [.ref 0] V1 = K [] [.ref 0] V2 := by rfl
def V3 : List va_E := [.inr (4, [.ref 1, .ref 3, .ref 5, .null, .null, .null, .int 0, .int 0, .int 0, .null, .null, .null, .null, .null, .null, .int 0, .null]), tx 0 0 0, ia 200 z0, rd 0, ia 4 z0, pkc P0 6, ia 42 z0]
set_option maxRecDepth 100000 in
theorem st4_3 (K : mK) : (i_ald 0 (i_new 1 rX4_init 1 9 [.int 0, .int 0, .int 0, .int 0, .int 0, .int 0, .long 0, .long 0, .null] (i_dup (i_callC 1 rX4_init FX1_init 1 42 (i_puta 4 2 K))))) [] [.ref 0] V2 = K [] [.ref 0] V3 := by rfl
def V4 : List va_E := [.inr (4, [.ref 1, .ref 3, .ref 5, .ref 7, .null, .null, .int 0, .int 0, .int 0, .null, .null, .null, .null, .null, .null, .int 0, .null]), tx 0 0 0, ia 200 z0, rd 0, ia 4 z0, pkc P0 6, ia 42 z0, hrc 0 0 8 9 10, ia 36 z0, ia 216 z0, ia 12 z0]
set_option maxRecDepth 100000 in
theorem st4_4 (K : mK) : (i_ald 0 (i_new 1 rX4_init 0 5 [.int 0, .long 0, .null, .null, .null] (i_dup (i_callC 1 rX4_init FX0_init 3 264 (i_puta 4 3 K))))) [] [.ref 0] V3 = K [] [.ref 0] V4 := by rfl
def V5 : List va_E := [.inr (4, [.ref 1, .ref 3, .ref 5, .ref 7, .ref 11, .null, .int 0, .int 0, .int 0, .null, .null, .null, .null, .null, .null, .int 0, .null]), tx 0 0 0, ia 200 z0, rd 0, ia 4 z0, pkc P0 6, ia 42 z0, hrc 0 0 8 9 10, ia 36 z0, ia 216 z0, ia 12 z0, pkc P0 12, ia 42 z0]
set_option maxRecDepth 100000 in
theorem st4_5 (K : mK) : (i_ald 0 (i_new 1 rX4_init 1 9 [.int 0, .int 0, .int 0, .int 0, .int 0, .int 0, .long 0, .long 0, .null] (i_dup (i_callC 1 rX4_init FX1_init 1 42 (i_puta 4 4 K))))) [] [.ref 0] V4 = K [] [.ref 0] V5 := by rfl
def V6 : List va_E := [.inr (4, [.ref 1, .ref 3, .ref 5, .ref 7, .ref 11, .ref 13, .int 0, .int 0, .int 0, .null, .null, .null, .null, .null, .null, .int 0, .null]), tx 0 0 0, ia 200 z0, rd 0, ia 4 z0, pkc P0 6, ia 42 z0, hrc 0 0 8 9 10, ia 36 z0, ia 216 z0, ia 12 z0, pkc P0 12, ia 42 z0, hrc 0 0 14 15 16, ia 36 z0, ia 216 z0, ia 12 z0]
set_option maxRecDepth 100000 in
theorem st4_6 (K : mK) : (i_ald 0 (i_new 1 rX4_init 0 5 [.int 0, .long 0, .null, .null, .null] (i_dup (i_callC 1 rX4_init FX0_init 3 264 (i_puta 4 5 K))))) [] [.ref 0] V5 = K [] [.ref 0] V6 := by rfl
def V7 : List va_E := [.inr (4, [.ref 1, .ref 3, .ref 5, .ref 7, .ref 11, .ref 13, .int 0, .int 0, .int 0, .ref 17, .null, .null, .null, .null, .null, .int 0, .null]), tx 0 0 0, ia 200 z0, rd 0, ia 4 z0, pkc P0 6, ia 42 z0, hrc 0 0 8 9 10, ia 36 z0, ia 216 z0, ia 12 z0, pkc P0 12, ia 42 z0, hrc 0 0 14 15 16, ia 36 z0, ia 216 z0, ia 12 z0, ia 2 z0]
set_option maxRecDepth 100000 in
theorem st4_7 (K : mK) : (i_ald 0 (i_push (.int 2) (i_newa 1 rX4_init 0 (.inl fun _ => 0) (i_puta 4 9 K)))) [] [.ref 0] V6 = K [] [.ref 0] V7 := by rfl
def V8 : List va_E := [.inr (4, [.ref 1, .ref 3, .ref 5, .ref 7, .ref 11, .ref 13, .int 0, .int 0, .int 0, .ref 17, .ref 18, .null, .null, .null, .null, .int 0, .null]), tx 0 0 0, ia 200 z0, rd 0, ia 4 z0, pkc P0 6, ia 42 z0, hrc 0 0 8 9 10, ia 36 z0, ia 216 z0, ia 12 z0, pkc P0 12, ia 42 z0, hrc 0 0 14 15 16, ia 36 z0, ia 216 z0, ia 12 z0, ia 2 z0, ia 2 z0]
set_option maxRecDepth 100000 in
theorem st4_8 (K : mK) : (i_ald 0 (i_push (.int 2) (i_newa 1 rX4_init 0 (.inl fun _ => 0) (i_puta 4 10 K)))) [] [.ref 0] V7 = K [] [.ref 0] V8 := by rfl
def V9 : List va_E := [.inr (4, [.ref 1, .ref 3, .ref 5, .ref 7, .ref 11, .ref 13, .int 0, .int 0, .int 0, .ref 17, .ref 18, .ref 19, .null, .null, .null, .int 0, .null]), tx 0 0 0, ia 200 z0, rd 0, ia 4 z0, pkc P0 6, ia 42 z0, hrc 0 0 8 9 10, ia 36 z0, ia 216 z0, ia 12 z0, pkc P0 12, ia 42 z0, hrc 0 0 14 15 16, ia 36 z0, ia 216 z0, ia 12 z0, ia 2 z0, ia 2 z0, ia 2 z0]
set_option maxRecDepth 100000 in
theorem st4_9 (K : mK) : (i_ald 0 (i_push (.int 2) (i_newa 1 rX4_init 0 (.inl fun _ => 0) (i_puta 4 11 K)))) [] [.ref 0] V8 = K [] [.ref 0] V9 := by rfl
def V10 : List va_E := [.inr (4, [.ref 1, .ref 3, .ref 5, .ref 7, .ref 11, .ref 13, .int 0, .int 0, .int 0, .ref 17, .ref 18, .ref 19, .ref 20, .null, .null, .int 0, .null]), tx 0 0 0, ia 200 z0, rd 0, ia 4 z0, pkc P0 6, ia 42 z0, hrc 0 0 8 9 10, ia 36 z0, ia 216 z0, ia 12 z0, pkc P0 12, ia 42 z0, hrc 0 0 14 15 16, ia 36 z0, ia 216 z0, ia 12 z0, ia 2 z0, ia 2 z0, ia 2 z0, ia 8 z0]
set_option maxRecDepth 100000 in
theorem st4_10 (K : mK) : (i_ald 0 (i_push (.int 8) (i_newa 1 rX4_init 0 (.inl fun _ => 0) (i_puta 4 12 K)))) [] [.ref 0] V9 = K [] [.ref 0] V10 := by rfl
def V11 : List va_E := [.inr (4, [.ref 1, .ref 3, .ref 5, .ref 7, .ref 11, .ref 13, .int 0, .int 0, .int 0, .ref 17, .ref 18, .ref 19, .ref 20, .ref 21, .null, .int 0, .null]), tx 0 0 0, ia 200 z0, rd 0, ia 4 z0, pkc P0 6, ia 42 z0, hrc 0 0 8 9 10, ia 36 z0, ia 216 z0, ia 12 z0, pkc P0 12, ia 42 z0, hrc 0 0 14 15 16, ia 36 z0, ia 216 z0, ia 12 z0, ia 2 z0, ia 2 z0, ia 2 z0, ia 8 z0, ia 8 z0]
set_option maxRecDepth 100000 in
theorem st4_11 (K : mK) : (i_ald 0 (i_push (.int 8) (i_newa 1 rX4_init 0 (.inl fun _ => 0) (i_puta 4 13 K)))) [] [.ref 0] V10 = K [] [.ref 0] V11 := by rfl
def V12 : List va_E := [.inr (4, [.ref 1, .ref 3, .ref 5, .ref 7, .ref 11, .ref 13, .int 0, .int 0, .int 0, .ref 17, .ref 18, .ref 19, .ref 20, .ref 21, .ref 22, .int 0, .null]), tx 0 0 0, ia 200 z0, rd 0, ia 4 z0, pkc P0 6, ia 42 z0, hrc 0 0 8 9 10, ia 36 z0, ia 216 z0, ia 12 z0, pkc P0 12, ia 42 z0, hrc 0 0 14 15 16, ia 36 z0, ia 216 z0, ia 12 z0, ia 2 z0, ia 2 z0, ia 2 z0, ia 8 z0, ia 8 z0, ia 8 z0]
set_option maxRecDepth 100000 in
theorem st4_12 (K : mK) : (i_ald 0 (i_push (.int 8) (i_newa 1 rX4_init 0 (.inl fun _ => 0) (i_puta 4 14 K)))) [] [.ref 0] V11 = K [] [.ref 0] V12 := by rfl
def V13 : List va_E := [.inr (4, [.ref 1, .ref 3, .ref 5, .ref 7, .ref 11, .ref 13, .int 0, .int 0, .int 0, .ref 17, .ref 18, .ref 19, .ref 20, .ref 21, .ref 22, .int 0, .ref 23]), tx 0 0 0, ia 200 z0, rd 0, ia 4 z0, pkc P0 6, ia 42 z0, hrc 0 0 8 9 10, ia 36 z0, ia 216 z0, ia 12 z0, pkc P0 12, ia 42 z0, hrc 0 0 14 15 16, ia 36 z0, ia 216 z0, ia 12 z0, ia 2 z0, ia 2 z0, ia 2 z0, ia 8 z0, ia 8 z0, ia 8 z0, la 12 (fun _ => 0)]
set_option maxRecDepth 100000 in
theorem st4_13 (K : mK) : (i_ald 0 (i_push (.int 12) (i_newa 1 rX4_init 1 (.inr (.inl fun _ => 0)) (i_puta 4 16 K)))) [] [.ref 0] V12 = K [] [.ref 0] V13 := by rfl
def j4r : mK := i_ald 0 (i_get 4 3 (i_ald 0 (i_get 4 2 (i_callV 0 1 FX0_listen (i_ald 0 (i_callV 4 0 FX4_startAnew (i_vret)))))))
theorem ini4a : FX4_init [.ref 0] V0 = j4r [] [.ref 0] V13 := by
  show jX4_init 1 [] [.ref 0] V0 = _
  unfold jX4_init
  exact (st4_0 _).trans ((st4_1 _).trans ((st4_2 _).trans ((st4_3 _).trans ((st4_4 _).trans ((st4_5 _).trans ((st4_6 _).trans ((st4_7 _).trans ((st4_8 _).trans ((st4_9 _).trans ((st4_10 _).trans ((st4_11 _).trans ((st4_12 _).trans ((st4_13 _))))))))))))))
theorem e_newa {nz : Nat} {R : Room} {t : Nat} {z : (Nat → Int32) ⊕ (Nat → Int64) ⊕ (Nat → UInt32) ⊕ (Nat → UInt64) ⊕ (Nat → Option Nat)} {k : mK} {x : Int32} {r L : List Value} {w : List va_E} (n N : Nat) (hn : w.length = n) (hx : x.toNatClampNeg = N) (h0 : 0 ≤ x.toInt) (hz : zs[n]? = some N) (hc : n + 1 - nz ≤ R.cells) (hs : sl (n + 1) - sl nz ≤ R.slots) (h1 : r.all (okv n) = true) (h2 : L.all (okv n) = true) (h3 : w.all (oke n) = true) : i_newa nz R t z k (.int x :: r) L w = k (.ref n :: r) L (w ++ [.inl (t, N, z)]) := by
  subst hn
  subst hx
  exact if_pos ⟨h0, hz, hc, hs, h1, h2, h3⟩
theorem e_ald1 {k : mK} {st : List Value} {a : Nat} {w : List va_E} : i_ald 0 k st [.ref a] w = k (.ref a :: st) [.ref a] w := rfl
theorem e_psh {v : Value} {k : mK} {st L : List Value} {w : List va_E} : i_push v k st L w = k (v :: st) L w := rfl
theorem e_pta {ci j x a : Nat} {r L fs : List Value} {w : List va_E} {k : mK} (h : w[a]? = some (.inr (ci, fs))) (hj : j < fs.length) : i_puta ci j k (.ref x :: .ref a :: r) L w = k r L (w.set a (.inr (ci, fs.set j (.ref x)))) := by
  unfold i_puta
  simp only [h]
  exact if_pos ⟨trivial, hj⟩
theorem e_arg {K : mK} {st L : List Value} {w w2 : List va_E} (h : w = w2) : K st L w = K st L w2 := by rw [h]
def X24 (lic wh hr sc : Int32) (fs bs ms f19 : Nat → Int32) (U : List va_E) : List va_E := x0 lic wh hr sc :: tx 0 0 0 :: ia 200 z0 :: rd 0 :: ia 4 z0 :: pkc P0 6 :: ia 42 z0 :: hrc 16 0 8 9 10 :: ia 36 fs :: ia 216 bs :: ia 12 ms :: pkc P0 12 :: ia 42 z0 :: hrc 0 0 14 15 16 :: ia 36 z0 :: ia 216 z0 :: ia 12 z0 :: ia 2 z0 :: ia 2 z0 :: ia 2 f19 :: ia 8 z0 :: ia 8 z0 :: ia 8 z0 :: la 12 (fun _ => 0) :: U
def U0 : List va_E := [.inr (5, [.null, .null, .null, .int 0, .null, .int 0, .int 0, .int 0, .int 0, .int 0, .int 0, .long 0, .long 0, .null, .int 0, .int 0, .int 0, .int 0, .int 0, .int 0, .long 0, .null, .int 0, .null, .int 0])]
set_option maxHeartbeats 100000 in
set_option maxRecDepth 100000 in
theorem st5_0 {lic wh hr sc : Int32} {fs bs ms f19 : Nat → Int32} (K : mK) : (i_ald 0 (i_oi K)) [] [.ref 24] (X24 lic wh hr sc fs bs ms f19 U0) = K [] [.ref 24] (X24 lic wh hr sc fs bs ms f19 U0) := by rfl
def U1 : List va_E := [.inr (5, [.ref 25, .null, .null, .int 0, .null, .int 0, .int 0, .int 0, .int 0, .int 0, .int 0, .long 0, .long 0, .null, .int 0, .int 0, .int 0, .int 0, .int 0, .int 0, .long 0, .null, .int 0, .null, .int 0]), ia 9 z0]
set_option maxHeartbeats 100000 in
set_option maxRecDepth 100000 in
theorem st5_1 {lic wh hr sc : Int32} {fs bs ms f19 : Nat → Int32} (K : mK) : (i_ald 0 (i_push (.int 9) (i_newa 25 rX5_init 0 (.inl fun _ => 0) (i_puta 5 0 K)))) [] [.ref 24] (X24 lic wh hr sc fs bs ms f19 U0) = K [] [.ref 24] (X24 lic wh hr sc fs bs ms f19 U1) := by
  exact e_ald1.trans (e_psh.trans ((e_newa 25 9 rfl (by decide) (by decide) (by decide) (by decide) (by decide) rfl rfl rfl).trans ((e_pta rfl (by decide)).trans (e_arg rfl))))
def U2 : List va_E := [.inr (5, [.ref 25, .ref 26, .null, .int 0, .null, .int 0, .int 0, .int 0, .int 0, .int 0, .int 0, .long 0, .long 0, .null, .int 0, .int 0, .int 0, .int 0, .int 0, .int 0, .long 0, .null, .int 0, .null, .int 0]), ia 9 z0, za 2 z0]
set_option maxHeartbeats 100000 in
set_option maxRecDepth 100000 in
theorem st5_2 {lic wh hr sc : Int32} {fs bs ms f19 : Nat → Int32} (K : mK) : (i_ald 0 (i_push (.int 2) (i_newa 25 rX5_init 2 (.inl fun _ => 0) (i_puta 5 1 K)))) [] [.ref 24] (X24 lic wh hr sc fs bs ms f19 U1) = K [] [.ref 24] (X24 lic wh hr sc fs bs ms f19 U2) := by
  exact e_ald1.trans (e_psh.trans ((e_newa 26 2 rfl (by decide) (by decide) (by decide) (by decide) (by decide) rfl rfl rfl).trans ((e_pta rfl (by decide)).trans (e_arg rfl))))
def U3 : List va_E := [.inr (5, [.ref 25, .ref 26, .ref 27, .int 0, .null, .int 0, .int 0, .int 0, .int 0, .int 0, .int 0, .long 0, .long 0, .null, .int 0, .int 0, .int 0, .int 0, .int 0, .int 0, .long 0, .null, .int 0, .null, .int 0]), ia 9 z0, za 2 z0, ia 200 z0]
set_option maxHeartbeats 100000 in
set_option maxRecDepth 100000 in
theorem st5_3 {lic wh hr sc : Int32} {fs bs ms f19 : Nat → Int32} (K : mK) : (i_ald 0 (i_push (.int 200) (i_newa 25 rX5_init 0 (.inl fun _ => 0) (i_puta 5 2 K)))) [] [.ref 24] (X24 lic wh hr sc fs bs ms f19 U2) = K [] [.ref 24] (X24 lic wh hr sc fs bs ms f19 U3) := by
  exact e_ald1.trans (e_psh.trans ((e_newa 27 200 rfl (by decide) (by decide) (by decide) (by decide) (by decide) rfl rfl rfl).trans ((e_pta rfl (by decide)).trans (e_arg rfl))))
def U4 : List va_E := [.inr (5, [.ref 25, .ref 26, .ref 27, .int 0, .ref 28, .int 0, .int 0, .int 0, .int 0, .int 0, .int 0, .long 0, .long 0, .null, .int 0, .int 0, .int 0, .int 0, .int 0, .int 0, .long 0, .null, .int 0, .null, .int 0]), ia 9 z0, za 2 z0, ia 200 z0, ia 60 z0]
set_option maxHeartbeats 100000 in
set_option maxRecDepth 100000 in
theorem st5_4 {lic wh hr sc : Int32} {fs bs ms f19 : Nat → Int32} (K : mK) : (i_ald 0 (i_push (.int 60) (i_newa 25 rX5_init 0 (.inl fun _ => 0) (i_puta 5 4 K)))) [] [.ref 24] (X24 lic wh hr sc fs bs ms f19 U3) = K [] [.ref 24] (X24 lic wh hr sc fs bs ms f19 U4) := by
  exact e_ald1.trans (e_psh.trans ((e_newa 28 60 rfl (by decide) (by decide) (by decide) (by decide) (by decide) rfl rfl rfl).trans ((e_pta rfl (by decide)).trans (e_arg rfl))))
def U5 : List va_E := [.inr (5, [.ref 25, .ref 26, .ref 27, .int 0, .ref 28, .int 0, .int 4, .int 0, .int 0, .int 0, .int 0, .long 0, .long 0, .null, .int 0, .int 0, .int 0, .int 0, .int 0, .int 0, .long 0, .null, .int 0, .null, .int 0]), ia 9 z0, za 2 z0, ia 200 z0, ia 60 z0]
set_option maxHeartbeats 100000 in
set_option maxRecDepth 100000 in
theorem st5_5 {lic wh hr sc : Int32} {fs bs ms f19 : Nat → Int32} (K : mK) : (i_ald 0 (i_push (.int 4) (i_puti 5 6 K))) [] [.ref 24] (X24 lic wh hr sc fs bs ms f19 U4) = K [] [.ref 24] (X24 lic wh hr sc fs bs ms f19 U5) := by rfl
def U6 : List va_E := [.inr (5, [.ref 25, .ref 26, .ref 27, .int 0, .ref 28, .int 0, .int 4, .int 4, .int 0, .int 0, .int 0, .long 0, .long 0, .null, .int 0, .int 0, .int 0, .int 0, .int 0, .int 0, .long 0, .null, .int 0, .null, .int 0]), ia 9 z0, za 2 z0, ia 200 z0, ia 60 z0]
set_option maxHeartbeats 100000 in
set_option maxRecDepth 100000 in
theorem st5_6 {lic wh hr sc : Int32} {fs bs ms f19 : Nat → Int32} (K : mK) : (i_ald 0 (i_push (.int 4) (i_puti 5 7 K))) [] [.ref 24] (X24 lic wh hr sc fs bs ms f19 U5) = K [] [.ref 24] (X24 lic wh hr sc fs bs ms f19 U6) := by rfl
def U7 : List va_E := [.inr (5, [.ref 25, .ref 26, .ref 27, .int 0, .ref 28, .int 0, .int 4, .int 4, .int 2, .int 0, .int 0, .long 0, .long 0, .null, .int 0, .int 0, .int 0, .int 0, .int 0, .int 0, .long 0, .null, .int 0, .null, .int 0]), ia 9 z0, za 2 z0, ia 200 z0, ia 60 z0]
set_option maxHeartbeats 100000 in
set_option maxRecDepth 100000 in
theorem st5_7 {lic wh hr sc : Int32} {fs bs ms f19 : Nat → Int32} (K : mK) : (i_ald 0 (i_push (.int 2) (i_puti 5 8 K))) [] [.ref 24] (X24 lic wh hr sc fs bs ms f19 U6) = K [] [.ref 24] (X24 lic wh hr sc fs bs ms f19 U7) := by rfl
def U8 : List va_E := [.inr (5, [.ref 25, .ref 26, .ref 27, .int 0, .ref 28, .int 0, .int 4, .int 4, .int 2, .int 0, .int 50, .long 0, .long 0, .null, .int 0, .int 0, .int 0, .int 0, .int 0, .int 0, .long 0, .null, .int 0, .null, .int 0]), ia 9 z0, za 2 z0, ia 200 z0, ia 60 z0]
set_option maxHeartbeats 100000 in
set_option maxRecDepth 100000 in
theorem st5_8 {lic wh hr sc : Int32} {fs bs ms f19 : Nat → Int32} (K : mK) : (i_ald 0 (i_push (.int 50) (i_puti 5 10 K))) [] [.ref 24] (X24 lic wh hr sc fs bs ms f19 U7) = K [] [.ref 24] (X24 lic wh hr sc fs bs ms f19 U8) := by rfl
def U9 : List va_E := [.inr (5, [.ref 25, .ref 26, .ref 27, .int 0, .ref 28, .int 0, .int 4, .int 4, .int 2, .int 0, .int 50, .long 0, .long 0, .ref 29, .int 0, .int 0, .int 0, .int 0, .int 0, .int 0, .long 0, .null, .int 0, .null, .int 0]), ia 9 z0, za 2 z0, ia 200 z0, ia 60 z0, ia 42 z0]
set_option maxHeartbeats 100000 in
set_option maxRecDepth 100000 in
theorem st5_9 {lic wh hr sc : Int32} {fs bs ms f19 : Nat → Int32} (K : mK) : (i_ald 0 (i_push (.int 42) (i_newa 25 rX5_init 0 (.inl fun _ => 0) (i_puta 5 13 K)))) [] [.ref 24] (X24 lic wh hr sc fs bs ms f19 U8) = K [] [.ref 24] (X24 lic wh hr sc fs bs ms f19 U9) := by
  exact e_ald1.trans (e_psh.trans ((e_newa 29 42 rfl (by decide) (by decide) (by decide) (by decide) (by decide) rfl rfl rfl).trans ((e_pta rfl (by decide)).trans (e_arg rfl))))
def U10 : List va_E := [.inr (5, [.ref 25, .ref 26, .ref 27, .int 0, .ref 28, .int 0, .int 4, .int 4, .int 2, .int 0, .int 50, .long 0, .long 0, .ref 29, .int 0, .int 0, .int 0, .int 0, .int 0, .int 0, .long 0, .ref 30, .int 0, .null, .int 0]), ia 9 z0, za 2 z0, ia 200 z0, ia 60 z0, ia 42 z0, ia 6 z0]
set_option maxHeartbeats 100000 in
set_option maxRecDepth 100000 in
theorem st5_10 {lic wh hr sc : Int32} {fs bs ms f19 : Nat → Int32} (K : mK) : (i_ald 0 (i_push (.int 6) (i_newa 25 rX5_init 0 (.inl fun _ => 0) (i_puta 5 21 K)))) [] [.ref 24] (X24 lic wh hr sc fs bs ms f19 U9) = K [] [.ref 24] (X24 lic wh hr sc fs bs ms f19 U10) := by
  exact e_ald1.trans (e_psh.trans ((e_newa 30 6 rfl (by decide) (by decide) (by decide) (by decide) (by decide) rfl rfl rfl).trans ((e_pta rfl (by decide)).trans (e_arg rfl))))
def U11 : List va_E := [.inr (5, [.ref 25, .ref 26, .ref 27, .int 0, .ref 28, .int 0, .int 4, .int 4, .int 2, .int 0, .int 50, .long 0, .long 0, .ref 29, .int 0, .int 0, .int 0, .int 0, .int 0, .int 0, .long 0, .ref 30, .int 0, .ref 31, .int 0]), ia 9 z0, za 2 z0, ia 200 z0, ia 60 z0, ia 42 z0, ia 6 z0, ia 24 z0]
set_option maxHeartbeats 100000 in
set_option maxRecDepth 100000 in
theorem st5_11 {lic wh hr sc : Int32} {fs bs ms f19 : Nat → Int32} (K : mK) : (i_ald 0 (i_push (.int 24) (i_newa 25 rX5_init 0 (.inl fun _ => 0) (i_puta 5 23 K)))) [] [.ref 24] (X24 lic wh hr sc fs bs ms f19 U10) = K [] [.ref 24] (X24 lic wh hr sc fs bs ms f19 U11) := by
  exact e_ald1.trans (e_psh.trans ((e_newa 31 24 rfl (by decide) (by decide) (by decide) (by decide) (by decide) rfl rfl rfl).trans ((e_pta rfl (by decide)).trans (e_arg rfl))))
def M8 : List va_E := [mdc P0 0 0 (0, 0, 0, 0, 0, 0, 0, 0), ia 9 (upd z0 1 (-1)), za 2 z0, ia 200 z0, ia 60 z0, ia 42 z0, ia 6 z0, ia 24 z0]
set_option maxHeartbeats 100000 in
set_option maxRecDepth 100000 in
theorem st5_x {lic wh hr sc : Int32} {fs bs ms f19 : Nat → Int32} : (i_ald 0 (i_get 5 0 (i_push (.int 1) (i_push (.int (-1)) (i_iast (i_vret)))))) [] [.ref 24] (X24 lic wh hr sc fs bs ms f19 U11) = some (none, (X24 lic wh hr sc fs bs ms f19 M8)) := by rfl
theorem ini5 {lic wh hr sc : Int32} {fs bs ms f19 : Nat → Int32} : FX5_init [.ref 24] (X24 lic wh hr sc fs bs ms f19 U0) = some (none, (X24 lic wh hr sc fs bs ms f19 M8)) := by
  show jX5_init 25 [] [.ref 24] (X24 lic wh hr sc fs bs ms f19 U0) = _
  unfold jX5_init
  exact (st5_0 _).trans ((st5_1 _).trans ((st5_2 _).trans ((st5_3 _).trans ((st5_4 _).trans ((st5_5 _).trans ((st5_6 _).trans ((st5_7 _).trans ((st5_8 _).trans ((st5_9 _).trans ((st5_10 _).trans ((st5_11 _).trans (st5_x))))))))))))
