section EV
variable {k kt kf : mK} {st r L : List Value} {w : List va_E} {v : Value} {x y z : Int32} {p q : Int64} {a b c : Nat}
theorem e_push  : i_push v k st L w = k (v :: st) L w := rfl
theorem e_ild_0  : i_ild 0 k st (.int x :: L) w = k (.int x :: st) (.int x :: L) w := rfl
theorem e_lld_0  : i_lld 0 k st (.long p :: L) w = k (.long p :: st) (.long p :: L) w := rfl
theorem e_ald_0  : i_ald 0 k st (.ref a :: L) w = k (.ref a :: st) (.ref a :: L) w := rfl
theorem e_inc_0  : i_inc 0 z k st (.int x :: L) w = k st (sto 0 (.int (x + z)) (.int x :: L)) w := rfl
theorem e_ild_1 {a0 : Value} : i_ild 1 k st (a0 :: .int x :: L) w = k (.int x :: st) (a0 :: .int x :: L) w := rfl
theorem e_lld_1 {a0 : Value} : i_lld 1 k st (a0 :: .long p :: L) w = k (.long p :: st) (a0 :: .long p :: L) w := rfl
theorem e_ald_1 {a0 : Value} : i_ald 1 k st (a0 :: .ref a :: L) w = k (.ref a :: st) (a0 :: .ref a :: L) w := rfl
theorem e_inc_1 {a0 : Value} : i_inc 1 z k st (a0 :: .int x :: L) w = k st (sto 1 (.int (x + z)) (a0 :: .int x :: L)) w := rfl
theorem e_ild_2 {a0 a1 : Value} : i_ild 2 k st (a0 :: a1 :: .int x :: L) w = k (.int x :: st) (a0 :: a1 :: .int x :: L) w := rfl
theorem e_lld_2 {a0 a1 : Value} : i_lld 2 k st (a0 :: a1 :: .long p :: L) w = k (.long p :: st) (a0 :: a1 :: .long p :: L) w := rfl
theorem e_ald_2 {a0 a1 : Value} : i_ald 2 k st (a0 :: a1 :: .ref a :: L) w = k (.ref a :: st) (a0 :: a1 :: .ref a :: L) w := rfl
theorem e_inc_2 {a0 a1 : Value} : i_inc 2 z k st (a0 :: a1 :: .int x :: L) w = k st (sto 2 (.int (x + z)) (a0 :: a1 :: .int x :: L)) w := rfl
theorem e_ild_3 {a0 a1 a2 : Value} : i_ild 3 k st (a0 :: a1 :: a2 :: .int x :: L) w = k (.int x :: st) (a0 :: a1 :: a2 :: .int x :: L) w := rfl
theorem e_lld_3 {a0 a1 a2 : Value} : i_lld 3 k st (a0 :: a1 :: a2 :: .long p :: L) w = k (.long p :: st) (a0 :: a1 :: a2 :: .long p :: L) w := rfl
theorem e_ald_3 {a0 a1 a2 : Value} : i_ald 3 k st (a0 :: a1 :: a2 :: .ref a :: L) w = k (.ref a :: st) (a0 :: a1 :: a2 :: .ref a :: L) w := rfl
theorem e_inc_3 {a0 a1 a2 : Value} : i_inc 3 z k st (a0 :: a1 :: a2 :: .int x :: L) w = k st (sto 3 (.int (x + z)) (a0 :: a1 :: a2 :: .int x :: L)) w := rfl
theorem e_ild_4 {a0 a1 a2 a3 : Value} : i_ild 4 k st (a0 :: a1 :: a2 :: a3 :: .int x :: L) w = k (.int x :: st) (a0 :: a1 :: a2 :: a3 :: .int x :: L) w := rfl
theorem e_lld_4 {a0 a1 a2 a3 : Value} : i_lld 4 k st (a0 :: a1 :: a2 :: a3 :: .long p :: L) w = k (.long p :: st) (a0 :: a1 :: a2 :: a3 :: .long p :: L) w := rfl
theorem e_ald_4 {a0 a1 a2 a3 : Value} : i_ald 4 k st (a0 :: a1 :: a2 :: a3 :: .ref a :: L) w = k (.ref a :: st) (a0 :: a1 :: a2 :: a3 :: .ref a :: L) w := rfl
theorem e_inc_4 {a0 a1 a2 a3 : Value} : i_inc 4 z k st (a0 :: a1 :: a2 :: a3 :: .int x :: L) w = k st (sto 4 (.int (x + z)) (a0 :: a1 :: a2 :: a3 :: .int x :: L)) w := rfl
theorem e_ild_5 {a0 a1 a2 a3 a4 : Value} : i_ild 5 k st (a0 :: a1 :: a2 :: a3 :: a4 :: .int x :: L) w = k (.int x :: st) (a0 :: a1 :: a2 :: a3 :: a4 :: .int x :: L) w := rfl
theorem e_lld_5 {a0 a1 a2 a3 a4 : Value} : i_lld 5 k st (a0 :: a1 :: a2 :: a3 :: a4 :: .long p :: L) w = k (.long p :: st) (a0 :: a1 :: a2 :: a3 :: a4 :: .long p :: L) w := rfl
theorem e_ald_5 {a0 a1 a2 a3 a4 : Value} : i_ald 5 k st (a0 :: a1 :: a2 :: a3 :: a4 :: .ref a :: L) w = k (.ref a :: st) (a0 :: a1 :: a2 :: a3 :: a4 :: .ref a :: L) w := rfl
theorem e_inc_5 {a0 a1 a2 a3 a4 : Value} : i_inc 5 z k st (a0 :: a1 :: a2 :: a3 :: a4 :: .int x :: L) w = k st (sto 5 (.int (x + z)) (a0 :: a1 :: a2 :: a3 :: a4 :: .int x :: L)) w := rfl
theorem e_ild_6 {a0 a1 a2 a3 a4 a5 : Value} : i_ild 6 k st (a0 :: a1 :: a2 :: a3 :: a4 :: a5 :: .int x :: L) w = k (.int x :: st) (a0 :: a1 :: a2 :: a3 :: a4 :: a5 :: .int x :: L) w := rfl
theorem e_lld_6 {a0 a1 a2 a3 a4 a5 : Value} : i_lld 6 k st (a0 :: a1 :: a2 :: a3 :: a4 :: a5 :: .long p :: L) w = k (.long p :: st) (a0 :: a1 :: a2 :: a3 :: a4 :: a5 :: .long p :: L) w := rfl
theorem e_ald_6 {a0 a1 a2 a3 a4 a5 : Value} : i_ald 6 k st (a0 :: a1 :: a2 :: a3 :: a4 :: a5 :: .ref a :: L) w = k (.ref a :: st) (a0 :: a1 :: a2 :: a3 :: a4 :: a5 :: .ref a :: L) w := rfl
theorem e_inc_6 {a0 a1 a2 a3 a4 a5 : Value} : i_inc 6 z k st (a0 :: a1 :: a2 :: a3 :: a4 :: a5 :: .int x :: L) w = k st (sto 6 (.int (x + z)) (a0 :: a1 :: a2 :: a3 :: a4 :: a5 :: .int x :: L)) w := rfl
theorem e_ild_7 {a0 a1 a2 a3 a4 a5 a6 : Value} : i_ild 7 k st (a0 :: a1 :: a2 :: a3 :: a4 :: a5 :: a6 :: .int x :: L) w = k (.int x :: st) (a0 :: a1 :: a2 :: a3 :: a4 :: a5 :: a6 :: .int x :: L) w := rfl
theorem e_lld_7 {a0 a1 a2 a3 a4 a5 a6 : Value} : i_lld 7 k st (a0 :: a1 :: a2 :: a3 :: a4 :: a5 :: a6 :: .long p :: L) w = k (.long p :: st) (a0 :: a1 :: a2 :: a3 :: a4 :: a5 :: a6 :: .long p :: L) w := rfl
theorem e_ald_7 {a0 a1 a2 a3 a4 a5 a6 : Value} : i_ald 7 k st (a0 :: a1 :: a2 :: a3 :: a4 :: a5 :: a6 :: .ref a :: L) w = k (.ref a :: st) (a0 :: a1 :: a2 :: a3 :: a4 :: a5 :: a6 :: .ref a :: L) w := rfl
theorem e_inc_7 {a0 a1 a2 a3 a4 a5 a6 : Value} : i_inc 7 z k st (a0 :: a1 :: a2 :: a3 :: a4 :: a5 :: a6 :: .int x :: L) w = k st (sto 7 (.int (x + z)) (a0 :: a1 :: a2 :: a3 :: a4 :: a5 :: a6 :: .int x :: L)) w := rfl
theorem e_ild_8 {a0 a1 a2 a3 a4 a5 a6 a7 : Value} : i_ild 8 k st (a0 :: a1 :: a2 :: a3 :: a4 :: a5 :: a6 :: a7 :: .int x :: L) w = k (.int x :: st) (a0 :: a1 :: a2 :: a3 :: a4 :: a5 :: a6 :: a7 :: .int x :: L) w := rfl
theorem e_lld_8 {a0 a1 a2 a3 a4 a5 a6 a7 : Value} : i_lld 8 k st (a0 :: a1 :: a2 :: a3 :: a4 :: a5 :: a6 :: a7 :: .long p :: L) w = k (.long p :: st) (a0 :: a1 :: a2 :: a3 :: a4 :: a5 :: a6 :: a7 :: .long p :: L) w := rfl
theorem e_ald_8 {a0 a1 a2 a3 a4 a5 a6 a7 : Value} : i_ald 8 k st (a0 :: a1 :: a2 :: a3 :: a4 :: a5 :: a6 :: a7 :: .ref a :: L) w = k (.ref a :: st) (a0 :: a1 :: a2 :: a3 :: a4 :: a5 :: a6 :: a7 :: .ref a :: L) w := rfl
theorem e_inc_8 {a0 a1 a2 a3 a4 a5 a6 a7 : Value} : i_inc 8 z k st (a0 :: a1 :: a2 :: a3 :: a4 :: a5 :: a6 :: a7 :: .int x :: L) w = k st (sto 8 (.int (x + z)) (a0 :: a1 :: a2 :: a3 :: a4 :: a5 :: a6 :: a7 :: .int x :: L)) w := rfl
theorem e_ild_9 {a0 a1 a2 a3 a4 a5 a6 a7 a8 : Value} : i_ild 9 k st (a0 :: a1 :: a2 :: a3 :: a4 :: a5 :: a6 :: a7 :: a8 :: .int x :: L) w = k (.int x :: st) (a0 :: a1 :: a2 :: a3 :: a4 :: a5 :: a6 :: a7 :: a8 :: .int x :: L) w := rfl
theorem e_lld_9 {a0 a1 a2 a3 a4 a5 a6 a7 a8 : Value} : i_lld 9 k st (a0 :: a1 :: a2 :: a3 :: a4 :: a5 :: a6 :: a7 :: a8 :: .long p :: L) w = k (.long p :: st) (a0 :: a1 :: a2 :: a3 :: a4 :: a5 :: a6 :: a7 :: a8 :: .long p :: L) w := rfl
theorem e_ald_9 {a0 a1 a2 a3 a4 a5 a6 a7 a8 : Value} : i_ald 9 k st (a0 :: a1 :: a2 :: a3 :: a4 :: a5 :: a6 :: a7 :: a8 :: .ref a :: L) w = k (.ref a :: st) (a0 :: a1 :: a2 :: a3 :: a4 :: a5 :: a6 :: a7 :: a8 :: .ref a :: L) w := rfl
theorem e_inc_9 {a0 a1 a2 a3 a4 a5 a6 a7 a8 : Value} : i_inc 9 z k st (a0 :: a1 :: a2 :: a3 :: a4 :: a5 :: a6 :: a7 :: a8 :: .int x :: L) w = k st (sto 9 (.int (x + z)) (a0 :: a1 :: a2 :: a3 :: a4 :: a5 :: a6 :: a7 :: a8 :: .int x :: L)) w := rfl
theorem e_ild_10 {a0 a1 a2 a3 a4 a5 a6 a7 a8 a9 : Value} : i_ild 10 k st (a0 :: a1 :: a2 :: a3 :: a4 :: a5 :: a6 :: a7 :: a8 :: a9 :: .int x :: L) w = k (.int x :: st) (a0 :: a1 :: a2 :: a3 :: a4 :: a5 :: a6 :: a7 :: a8 :: a9 :: .int x :: L) w := rfl
theorem e_lld_10 {a0 a1 a2 a3 a4 a5 a6 a7 a8 a9 : Value} : i_lld 10 k st (a0 :: a1 :: a2 :: a3 :: a4 :: a5 :: a6 :: a7 :: a8 :: a9 :: .long p :: L) w = k (.long p :: st) (a0 :: a1 :: a2 :: a3 :: a4 :: a5 :: a6 :: a7 :: a8 :: a9 :: .long p :: L) w := rfl
theorem e_ald_10 {a0 a1 a2 a3 a4 a5 a6 a7 a8 a9 : Value} : i_ald 10 k st (a0 :: a1 :: a2 :: a3 :: a4 :: a5 :: a6 :: a7 :: a8 :: a9 :: .ref a :: L) w = k (.ref a :: st) (a0 :: a1 :: a2 :: a3 :: a4 :: a5 :: a6 :: a7 :: a8 :: a9 :: .ref a :: L) w := rfl
theorem e_inc_10 {a0 a1 a2 a3 a4 a5 a6 a7 a8 a9 : Value} : i_inc 10 z k st (a0 :: a1 :: a2 :: a3 :: a4 :: a5 :: a6 :: a7 :: a8 :: a9 :: .int x :: L) w = k st (sto 10 (.int (x + z)) (a0 :: a1 :: a2 :: a3 :: a4 :: a5 :: a6 :: a7 :: a8 :: a9 :: .int x :: L)) w := rfl
theorem e_ild_11 {a0 a1 a2 a3 a4 a5 a6 a7 a8 a9 a10 : Value} : i_ild 11 k st (a0 :: a1 :: a2 :: a3 :: a4 :: a5 :: a6 :: a7 :: a8 :: a9 :: a10 :: .int x :: L) w = k (.int x :: st) (a0 :: a1 :: a2 :: a3 :: a4 :: a5 :: a6 :: a7 :: a8 :: a9 :: a10 :: .int x :: L) w := rfl
theorem e_lld_11 {a0 a1 a2 a3 a4 a5 a6 a7 a8 a9 a10 : Value} : i_lld 11 k st (a0 :: a1 :: a2 :: a3 :: a4 :: a5 :: a6 :: a7 :: a8 :: a9 :: a10 :: .long p :: L) w = k (.long p :: st) (a0 :: a1 :: a2 :: a3 :: a4 :: a5 :: a6 :: a7 :: a8 :: a9 :: a10 :: .long p :: L) w := rfl
theorem e_ald_11 {a0 a1 a2 a3 a4 a5 a6 a7 a8 a9 a10 : Value} : i_ald 11 k st (a0 :: a1 :: a2 :: a3 :: a4 :: a5 :: a6 :: a7 :: a8 :: a9 :: a10 :: .ref a :: L) w = k (.ref a :: st) (a0 :: a1 :: a2 :: a3 :: a4 :: a5 :: a6 :: a7 :: a8 :: a9 :: a10 :: .ref a :: L) w := rfl
theorem e_inc_11 {a0 a1 a2 a3 a4 a5 a6 a7 a8 a9 a10 : Value} : i_inc 11 z k st (a0 :: a1 :: a2 :: a3 :: a4 :: a5 :: a6 :: a7 :: a8 :: a9 :: a10 :: .int x :: L) w = k st (sto 11 (.int (x + z)) (a0 :: a1 :: a2 :: a3 :: a4 :: a5 :: a6 :: a7 :: a8 :: a9 :: a10 :: .int x :: L)) w := rfl
theorem e_ild_12 {a0 a1 a2 a3 a4 a5 a6 a7 a8 a9 a10 a11 : Value} : i_ild 12 k st (a0 :: a1 :: a2 :: a3 :: a4 :: a5 :: a6 :: a7 :: a8 :: a9 :: a10 :: a11 :: .int x :: L) w = k (.int x :: st) (a0 :: a1 :: a2 :: a3 :: a4 :: a5 :: a6 :: a7 :: a8 :: a9 :: a10 :: a11 :: .int x :: L) w := rfl
theorem e_lld_12 {a0 a1 a2 a3 a4 a5 a6 a7 a8 a9 a10 a11 : Value} : i_lld 12 k st (a0 :: a1 :: a2 :: a3 :: a4 :: a5 :: a6 :: a7 :: a8 :: a9 :: a10 :: a11 :: .long p :: L) w = k (.long p :: st) (a0 :: a1 :: a2 :: a3 :: a4 :: a5 :: a6 :: a7 :: a8 :: a9 :: a10 :: a11 :: .long p :: L) w := rfl
theorem e_ald_12 {a0 a1 a2 a3 a4 a5 a6 a7 a8 a9 a10 a11 : Value} : i_ald 12 k st (a0 :: a1 :: a2 :: a3 :: a4 :: a5 :: a6 :: a7 :: a8 :: a9 :: a10 :: a11 :: .ref a :: L) w = k (.ref a :: st) (a0 :: a1 :: a2 :: a3 :: a4 :: a5 :: a6 :: a7 :: a8 :: a9 :: a10 :: a11 :: .ref a :: L) w := rfl
theorem e_inc_12 {a0 a1 a2 a3 a4 a5 a6 a7 a8 a9 a10 a11 : Value} : i_inc 12 z k st (a0 :: a1 :: a2 :: a3 :: a4 :: a5 :: a6 :: a7 :: a8 :: a9 :: a10 :: a11 :: .int x :: L) w = k st (sto 12 (.int (x + z)) (a0 :: a1 :: a2 :: a3 :: a4 :: a5 :: a6 :: a7 :: a8 :: a9 :: a10 :: a11 :: .int x :: L)) w := rfl
theorem e_ist  : i_ist c k (.int x :: st) L w = k st (sto c (.int x) L) w := rfl
theorem e_ast  : i_ast c k (.ref a :: st) L w = k st (sto c (.ref a) L) w := rfl
theorem e_lst  : i_lst c k (.long p :: st) L w = k st (stoL c (.long p) L) w := rfl
theorem e_sto_0 {b0 : Value} : sto 0 v (b0 :: L) = v :: L := rfl
theorem e_sto_1i {b0 : Value} : sto 1 v (.int x :: b0 :: L) = .int x :: v :: L := rfl
theorem e_sto_1r {b0 : Value} : sto 1 v (.ref a :: b0 :: L) = .ref a :: v :: L := rfl
theorem e_sto_1u {b0 : Value} : sto 1 v (.retAddr a :: b0 :: L) = .retAddr a :: v :: L := rfl
theorem e_sto_1l {b0 : Value} : sto 1 v (.long p :: b0 :: L) = .retAddr 0 :: v :: L := rfl
theorem e_sto_2i {a0 b0 : Value} : sto 2 v (a0 :: .int x :: b0 :: L) = a0 :: .int x :: v :: L := rfl
theorem e_sto_2r {a0 b0 : Value} : sto 2 v (a0 :: .ref a :: b0 :: L) = a0 :: .ref a :: v :: L := rfl
theorem e_sto_2u {a0 b0 : Value} : sto 2 v (a0 :: .retAddr a :: b0 :: L) = a0 :: .retAddr a :: v :: L := rfl
theorem e_sto_2l {a0 b0 : Value} : sto 2 v (a0 :: .long p :: b0 :: L) = a0 :: .retAddr 0 :: v :: L := rfl
theorem e_sto_3i {a0 a1 b0 : Value} : sto 3 v (a0 :: a1 :: .int x :: b0 :: L) = a0 :: a1 :: .int x :: v :: L := rfl
theorem e_sto_3r {a0 a1 b0 : Value} : sto 3 v (a0 :: a1 :: .ref a :: b0 :: L) = a0 :: a1 :: .ref a :: v :: L := rfl
theorem e_sto_3u {a0 a1 b0 : Value} : sto 3 v (a0 :: a1 :: .retAddr a :: b0 :: L) = a0 :: a1 :: .retAddr a :: v :: L := rfl
theorem e_sto_3l {a0 a1 b0 : Value} : sto 3 v (a0 :: a1 :: .long p :: b0 :: L) = a0 :: a1 :: .retAddr 0 :: v :: L := rfl
theorem e_sto_4i {a0 a1 a2 b0 : Value} : sto 4 v (a0 :: a1 :: a2 :: .int x :: b0 :: L) = a0 :: a1 :: a2 :: .int x :: v :: L := rfl
theorem e_sto_4r {a0 a1 a2 b0 : Value} : sto 4 v (a0 :: a1 :: a2 :: .ref a :: b0 :: L) = a0 :: a1 :: a2 :: .ref a :: v :: L := rfl
theorem e_sto_4u {a0 a1 a2 b0 : Value} : sto 4 v (a0 :: a1 :: a2 :: .retAddr a :: b0 :: L) = a0 :: a1 :: a2 :: .retAddr a :: v :: L := rfl
theorem e_sto_4l {a0 a1 a2 b0 : Value} : sto 4 v (a0 :: a1 :: a2 :: .long p :: b0 :: L) = a0 :: a1 :: a2 :: .retAddr 0 :: v :: L := rfl
theorem e_sto_5i {a0 a1 a2 a3 b0 : Value} : sto 5 v (a0 :: a1 :: a2 :: a3 :: .int x :: b0 :: L) = a0 :: a1 :: a2 :: a3 :: .int x :: v :: L := rfl
theorem e_sto_5r {a0 a1 a2 a3 b0 : Value} : sto 5 v (a0 :: a1 :: a2 :: a3 :: .ref a :: b0 :: L) = a0 :: a1 :: a2 :: a3 :: .ref a :: v :: L := rfl
theorem e_sto_5u {a0 a1 a2 a3 b0 : Value} : sto 5 v (a0 :: a1 :: a2 :: a3 :: .retAddr a :: b0 :: L) = a0 :: a1 :: a2 :: a3 :: .retAddr a :: v :: L := rfl
theorem e_sto_5l {a0 a1 a2 a3 b0 : Value} : sto 5 v (a0 :: a1 :: a2 :: a3 :: .long p :: b0 :: L) = a0 :: a1 :: a2 :: a3 :: .retAddr 0 :: v :: L := rfl
theorem e_sto_6i {a0 a1 a2 a3 a4 b0 : Value} : sto 6 v (a0 :: a1 :: a2 :: a3 :: a4 :: .int x :: b0 :: L) = a0 :: a1 :: a2 :: a3 :: a4 :: .int x :: v :: L := rfl
theorem e_sto_6r {a0 a1 a2 a3 a4 b0 : Value} : sto 6 v (a0 :: a1 :: a2 :: a3 :: a4 :: .ref a :: b0 :: L) = a0 :: a1 :: a2 :: a3 :: a4 :: .ref a :: v :: L := rfl
theorem e_sto_6u {a0 a1 a2 a3 a4 b0 : Value} : sto 6 v (a0 :: a1 :: a2 :: a3 :: a4 :: .retAddr a :: b0 :: L) = a0 :: a1 :: a2 :: a3 :: a4 :: .retAddr a :: v :: L := rfl
theorem e_sto_6l {a0 a1 a2 a3 a4 b0 : Value} : sto 6 v (a0 :: a1 :: a2 :: a3 :: a4 :: .long p :: b0 :: L) = a0 :: a1 :: a2 :: a3 :: a4 :: .retAddr 0 :: v :: L := rfl
theorem e_sto_7i {a0 a1 a2 a3 a4 a5 b0 : Value} : sto 7 v (a0 :: a1 :: a2 :: a3 :: a4 :: a5 :: .int x :: b0 :: L) = a0 :: a1 :: a2 :: a3 :: a4 :: a5 :: .int x :: v :: L := rfl
theorem e_sto_7r {a0 a1 a2 a3 a4 a5 b0 : Value} : sto 7 v (a0 :: a1 :: a2 :: a3 :: a4 :: a5 :: .ref a :: b0 :: L) = a0 :: a1 :: a2 :: a3 :: a4 :: a5 :: .ref a :: v :: L := rfl
theorem e_sto_7u {a0 a1 a2 a3 a4 a5 b0 : Value} : sto 7 v (a0 :: a1 :: a2 :: a3 :: a4 :: a5 :: .retAddr a :: b0 :: L) = a0 :: a1 :: a2 :: a3 :: a4 :: a5 :: .retAddr a :: v :: L := rfl
theorem e_sto_7l {a0 a1 a2 a3 a4 a5 b0 : Value} : sto 7 v (a0 :: a1 :: a2 :: a3 :: a4 :: a5 :: .long p :: b0 :: L) = a0 :: a1 :: a2 :: a3 :: a4 :: a5 :: .retAddr 0 :: v :: L := rfl
theorem e_sto_8i {a0 a1 a2 a3 a4 a5 a6 b0 : Value} : sto 8 v (a0 :: a1 :: a2 :: a3 :: a4 :: a5 :: a6 :: .int x :: b0 :: L) = a0 :: a1 :: a2 :: a3 :: a4 :: a5 :: a6 :: .int x :: v :: L := rfl
theorem e_sto_8r {a0 a1 a2 a3 a4 a5 a6 b0 : Value} : sto 8 v (a0 :: a1 :: a2 :: a3 :: a4 :: a5 :: a6 :: .ref a :: b0 :: L) = a0 :: a1 :: a2 :: a3 :: a4 :: a5 :: a6 :: .ref a :: v :: L := rfl
theorem e_sto_8u {a0 a1 a2 a3 a4 a5 a6 b0 : Value} : sto 8 v (a0 :: a1 :: a2 :: a3 :: a4 :: a5 :: a6 :: .retAddr a :: b0 :: L) = a0 :: a1 :: a2 :: a3 :: a4 :: a5 :: a6 :: .retAddr a :: v :: L := rfl
theorem e_sto_8l {a0 a1 a2 a3 a4 a5 a6 b0 : Value} : sto 8 v (a0 :: a1 :: a2 :: a3 :: a4 :: a5 :: a6 :: .long p :: b0 :: L) = a0 :: a1 :: a2 :: a3 :: a4 :: a5 :: a6 :: .retAddr 0 :: v :: L := rfl
theorem e_sto_9i {a0 a1 a2 a3 a4 a5 a6 a7 b0 : Value} : sto 9 v (a0 :: a1 :: a2 :: a3 :: a4 :: a5 :: a6 :: a7 :: .int x :: b0 :: L) = a0 :: a1 :: a2 :: a3 :: a4 :: a5 :: a6 :: a7 :: .int x :: v :: L := rfl
theorem e_sto_9r {a0 a1 a2 a3 a4 a5 a6 a7 b0 : Value} : sto 9 v (a0 :: a1 :: a2 :: a3 :: a4 :: a5 :: a6 :: a7 :: .ref a :: b0 :: L) = a0 :: a1 :: a2 :: a3 :: a4 :: a5 :: a6 :: a7 :: .ref a :: v :: L := rfl
theorem e_sto_9u {a0 a1 a2 a3 a4 a5 a6 a7 b0 : Value} : sto 9 v (a0 :: a1 :: a2 :: a3 :: a4 :: a5 :: a6 :: a7 :: .retAddr a :: b0 :: L) = a0 :: a1 :: a2 :: a3 :: a4 :: a5 :: a6 :: a7 :: .retAddr a :: v :: L := rfl
theorem e_sto_9l {a0 a1 a2 a3 a4 a5 a6 a7 b0 : Value} : sto 9 v (a0 :: a1 :: a2 :: a3 :: a4 :: a5 :: a6 :: a7 :: .long p :: b0 :: L) = a0 :: a1 :: a2 :: a3 :: a4 :: a5 :: a6 :: a7 :: .retAddr 0 :: v :: L := rfl
theorem e_sto_10i {a0 a1 a2 a3 a4 a5 a6 a7 a8 b0 : Value} : sto 10 v (a0 :: a1 :: a2 :: a3 :: a4 :: a5 :: a6 :: a7 :: a8 :: .int x :: b0 :: L) = a0 :: a1 :: a2 :: a3 :: a4 :: a5 :: a6 :: a7 :: a8 :: .int x :: v :: L := rfl
theorem e_sto_10r {a0 a1 a2 a3 a4 a5 a6 a7 a8 b0 : Value} : sto 10 v (a0 :: a1 :: a2 :: a3 :: a4 :: a5 :: a6 :: a7 :: a8 :: .ref a :: b0 :: L) = a0 :: a1 :: a2 :: a3 :: a4 :: a5 :: a6 :: a7 :: a8 :: .ref a :: v :: L := rfl
theorem e_sto_10u {a0 a1 a2 a3 a4 a5 a6 a7 a8 b0 : Value} : sto 10 v (a0 :: a1 :: a2 :: a3 :: a4 :: a5 :: a6 :: a7 :: a8 :: .retAddr a :: b0 :: L) = a0 :: a1 :: a2 :: a3 :: a4 :: a5 :: a6 :: a7 :: a8 :: .retAddr a :: v :: L := rfl
theorem e_sto_10l {a0 a1 a2 a3 a4 a5 a6 a7 a8 b0 : Value} : sto 10 v (a0 :: a1 :: a2 :: a3 :: a4 :: a5 :: a6 :: a7 :: a8 :: .long p :: b0 :: L) = a0 :: a1 :: a2 :: a3 :: a4 :: a5 :: a6 :: a7 :: a8 :: .retAddr 0 :: v :: L := rfl
theorem e_sto_11i {a0 a1 a2 a3 a4 a5 a6 a7 a8 a9 b0 : Value} : sto 11 v (a0 :: a1 :: a2 :: a3 :: a4 :: a5 :: a6 :: a7 :: a8 :: a9 :: .int x :: b0 :: L) = a0 :: a1 :: a2 :: a3 :: a4 :: a5 :: a6 :: a7 :: a8 :: a9 :: .int x :: v :: L := rfl
theorem e_sto_11r {a0 a1 a2 a3 a4 a5 a6 a7 a8 a9 b0 : Value} : sto 11 v (a0 :: a1 :: a2 :: a3 :: a4 :: a5 :: a6 :: a7 :: a8 :: a9 :: .ref a :: b0 :: L) = a0 :: a1 :: a2 :: a3 :: a4 :: a5 :: a6 :: a7 :: a8 :: a9 :: .ref a :: v :: L := rfl
theorem e_sto_11u {a0 a1 a2 a3 a4 a5 a6 a7 a8 a9 b0 : Value} : sto 11 v (a0 :: a1 :: a2 :: a3 :: a4 :: a5 :: a6 :: a7 :: a8 :: a9 :: .retAddr a :: b0 :: L) = a0 :: a1 :: a2 :: a3 :: a4 :: a5 :: a6 :: a7 :: a8 :: a9 :: .retAddr a :: v :: L := rfl
theorem e_sto_11l {a0 a1 a2 a3 a4 a5 a6 a7 a8 a9 b0 : Value} : sto 11 v (a0 :: a1 :: a2 :: a3 :: a4 :: a5 :: a6 :: a7 :: a8 :: a9 :: .long p :: b0 :: L) = a0 :: a1 :: a2 :: a3 :: a4 :: a5 :: a6 :: a7 :: a8 :: a9 :: .retAddr 0 :: v :: L := rfl
theorem e_sto_12i {a0 a1 a2 a3 a4 a5 a6 a7 a8 a9 a10 b0 : Value} : sto 12 v (a0 :: a1 :: a2 :: a3 :: a4 :: a5 :: a6 :: a7 :: a8 :: a9 :: a10 :: .int x :: b0 :: L) = a0 :: a1 :: a2 :: a3 :: a4 :: a5 :: a6 :: a7 :: a8 :: a9 :: a10 :: .int x :: v :: L := rfl
theorem e_sto_12r {a0 a1 a2 a3 a4 a5 a6 a7 a8 a9 a10 b0 : Value} : sto 12 v (a0 :: a1 :: a2 :: a3 :: a4 :: a5 :: a6 :: a7 :: a8 :: a9 :: a10 :: .ref a :: b0 :: L) = a0 :: a1 :: a2 :: a3 :: a4 :: a5 :: a6 :: a7 :: a8 :: a9 :: a10 :: .ref a :: v :: L := rfl
theorem e_sto_12u {a0 a1 a2 a3 a4 a5 a6 a7 a8 a9 a10 b0 : Value} : sto 12 v (a0 :: a1 :: a2 :: a3 :: a4 :: a5 :: a6 :: a7 :: a8 :: a9 :: a10 :: .retAddr a :: b0 :: L) = a0 :: a1 :: a2 :: a3 :: a4 :: a5 :: a6 :: a7 :: a8 :: a9 :: a10 :: .retAddr a :: v :: L := rfl
theorem e_sto_12l {a0 a1 a2 a3 a4 a5 a6 a7 a8 a9 a10 b0 : Value} : sto 12 v (a0 :: a1 :: a2 :: a3 :: a4 :: a5 :: a6 :: a7 :: a8 :: a9 :: a10 :: .long p :: b0 :: L) = a0 :: a1 :: a2 :: a3 :: a4 :: a5 :: a6 :: a7 :: a8 :: a9 :: a10 :: .retAddr 0 :: v :: L := rfl
theorem e_stoL_0 {b0 b1 : Value} : stoL 0 v (b0 :: b1 :: L) = v :: .retAddr 0 :: L := rfl
theorem e_stoL_1i {b0 b1 : Value} : stoL 1 v (.int x :: b0 :: b1 :: L) = .int x :: v :: .retAddr 0 :: L := rfl
theorem e_stoL_1r {b0 b1 : Value} : stoL 1 v (.ref a :: b0 :: b1 :: L) = .ref a :: v :: .retAddr 0 :: L := rfl
theorem e_stoL_1u {b0 b1 : Value} : stoL 1 v (.retAddr a :: b0 :: b1 :: L) = .retAddr a :: v :: .retAddr 0 :: L := rfl
theorem e_stoL_2i {a0 b0 b1 : Value} : stoL 2 v (a0 :: .int x :: b0 :: b1 :: L) = a0 :: .int x :: v :: .retAddr 0 :: L := rfl
theorem e_stoL_2r {a0 b0 b1 : Value} : stoL 2 v (a0 :: .ref a :: b0 :: b1 :: L) = a0 :: .ref a :: v :: .retAddr 0 :: L := rfl
theorem e_stoL_2u {a0 b0 b1 : Value} : stoL 2 v (a0 :: .retAddr a :: b0 :: b1 :: L) = a0 :: .retAddr a :: v :: .retAddr 0 :: L := rfl
theorem e_stoL_3i {a0 a1 b0 b1 : Value} : stoL 3 v (a0 :: a1 :: .int x :: b0 :: b1 :: L) = a0 :: a1 :: .int x :: v :: .retAddr 0 :: L := rfl
theorem e_stoL_3r {a0 a1 b0 b1 : Value} : stoL 3 v (a0 :: a1 :: .ref a :: b0 :: b1 :: L) = a0 :: a1 :: .ref a :: v :: .retAddr 0 :: L := rfl
theorem e_stoL_3u {a0 a1 b0 b1 : Value} : stoL 3 v (a0 :: a1 :: .retAddr a :: b0 :: b1 :: L) = a0 :: a1 :: .retAddr a :: v :: .retAddr 0 :: L := rfl
theorem e_stoL_4i {a0 a1 a2 b0 b1 : Value} : stoL 4 v (a0 :: a1 :: a2 :: .int x :: b0 :: b1 :: L) = a0 :: a1 :: a2 :: .int x :: v :: .retAddr 0 :: L := rfl
theorem e_stoL_4r {a0 a1 a2 b0 b1 : Value} : stoL 4 v (a0 :: a1 :: a2 :: .ref a :: b0 :: b1 :: L) = a0 :: a1 :: a2 :: .ref a :: v :: .retAddr 0 :: L := rfl
theorem e_stoL_4u {a0 a1 a2 b0 b1 : Value} : stoL 4 v (a0 :: a1 :: a2 :: .retAddr a :: b0 :: b1 :: L) = a0 :: a1 :: a2 :: .retAddr a :: v :: .retAddr 0 :: L := rfl
theorem e_stoL_5i {a0 a1 a2 a3 b0 b1 : Value} : stoL 5 v (a0 :: a1 :: a2 :: a3 :: .int x :: b0 :: b1 :: L) = a0 :: a1 :: a2 :: a3 :: .int x :: v :: .retAddr 0 :: L := rfl
theorem e_stoL_5r {a0 a1 a2 a3 b0 b1 : Value} : stoL 5 v (a0 :: a1 :: a2 :: a3 :: .ref a :: b0 :: b1 :: L) = a0 :: a1 :: a2 :: a3 :: .ref a :: v :: .retAddr 0 :: L := rfl
theorem e_stoL_5u {a0 a1 a2 a3 b0 b1 : Value} : stoL 5 v (a0 :: a1 :: a2 :: a3 :: .retAddr a :: b0 :: b1 :: L) = a0 :: a1 :: a2 :: a3 :: .retAddr a :: v :: .retAddr 0 :: L := rfl
theorem e_stoL_6i {a0 a1 a2 a3 a4 b0 b1 : Value} : stoL 6 v (a0 :: a1 :: a2 :: a3 :: a4 :: .int x :: b0 :: b1 :: L) = a0 :: a1 :: a2 :: a3 :: a4 :: .int x :: v :: .retAddr 0 :: L := rfl
theorem e_stoL_6r {a0 a1 a2 a3 a4 b0 b1 : Value} : stoL 6 v (a0 :: a1 :: a2 :: a3 :: a4 :: .ref a :: b0 :: b1 :: L) = a0 :: a1 :: a2 :: a3 :: a4 :: .ref a :: v :: .retAddr 0 :: L := rfl
theorem e_stoL_6u {a0 a1 a2 a3 a4 b0 b1 : Value} : stoL 6 v (a0 :: a1 :: a2 :: a3 :: a4 :: .retAddr a :: b0 :: b1 :: L) = a0 :: a1 :: a2 :: a3 :: a4 :: .retAddr a :: v :: .retAddr 0 :: L := rfl
theorem e_stoL_7i {a0 a1 a2 a3 a4 a5 b0 b1 : Value} : stoL 7 v (a0 :: a1 :: a2 :: a3 :: a4 :: a5 :: .int x :: b0 :: b1 :: L) = a0 :: a1 :: a2 :: a3 :: a4 :: a5 :: .int x :: v :: .retAddr 0 :: L := rfl
theorem e_stoL_7r {a0 a1 a2 a3 a4 a5 b0 b1 : Value} : stoL 7 v (a0 :: a1 :: a2 :: a3 :: a4 :: a5 :: .ref a :: b0 :: b1 :: L) = a0 :: a1 :: a2 :: a3 :: a4 :: a5 :: .ref a :: v :: .retAddr 0 :: L := rfl
theorem e_stoL_7u {a0 a1 a2 a3 a4 a5 b0 b1 : Value} : stoL 7 v (a0 :: a1 :: a2 :: a3 :: a4 :: a5 :: .retAddr a :: b0 :: b1 :: L) = a0 :: a1 :: a2 :: a3 :: a4 :: a5 :: .retAddr a :: v :: .retAddr 0 :: L := rfl
theorem e_stoL_8i {a0 a1 a2 a3 a4 a5 a6 b0 b1 : Value} : stoL 8 v (a0 :: a1 :: a2 :: a3 :: a4 :: a5 :: a6 :: .int x :: b0 :: b1 :: L) = a0 :: a1 :: a2 :: a3 :: a4 :: a5 :: a6 :: .int x :: v :: .retAddr 0 :: L := rfl
theorem e_stoL_8r {a0 a1 a2 a3 a4 a5 a6 b0 b1 : Value} : stoL 8 v (a0 :: a1 :: a2 :: a3 :: a4 :: a5 :: a6 :: .ref a :: b0 :: b1 :: L) = a0 :: a1 :: a2 :: a3 :: a4 :: a5 :: a6 :: .ref a :: v :: .retAddr 0 :: L := rfl
theorem e_stoL_8u {a0 a1 a2 a3 a4 a5 a6 b0 b1 : Value} : stoL 8 v (a0 :: a1 :: a2 :: a3 :: a4 :: a5 :: a6 :: .retAddr a :: b0 :: b1 :: L) = a0 :: a1 :: a2 :: a3 :: a4 :: a5 :: a6 :: .retAddr a :: v :: .retAddr 0 :: L := rfl
theorem e_stoL_9i {a0 a1 a2 a3 a4 a5 a6 a7 b0 b1 : Value} : stoL 9 v (a0 :: a1 :: a2 :: a3 :: a4 :: a5 :: a6 :: a7 :: .int x :: b0 :: b1 :: L) = a0 :: a1 :: a2 :: a3 :: a4 :: a5 :: a6 :: a7 :: .int x :: v :: .retAddr 0 :: L := rfl
theorem e_stoL_9r {a0 a1 a2 a3 a4 a5 a6 a7 b0 b1 : Value} : stoL 9 v (a0 :: a1 :: a2 :: a3 :: a4 :: a5 :: a6 :: a7 :: .ref a :: b0 :: b1 :: L) = a0 :: a1 :: a2 :: a3 :: a4 :: a5 :: a6 :: a7 :: .ref a :: v :: .retAddr 0 :: L := rfl
theorem e_stoL_9u {a0 a1 a2 a3 a4 a5 a6 a7 b0 b1 : Value} : stoL 9 v (a0 :: a1 :: a2 :: a3 :: a4 :: a5 :: a6 :: a7 :: .retAddr a :: b0 :: b1 :: L) = a0 :: a1 :: a2 :: a3 :: a4 :: a5 :: a6 :: a7 :: .retAddr a :: v :: .retAddr 0 :: L := rfl
theorem e_stoL_10i {a0 a1 a2 a3 a4 a5 a6 a7 a8 b0 b1 : Value} : stoL 10 v (a0 :: a1 :: a2 :: a3 :: a4 :: a5 :: a6 :: a7 :: a8 :: .int x :: b0 :: b1 :: L) = a0 :: a1 :: a2 :: a3 :: a4 :: a5 :: a6 :: a7 :: a8 :: .int x :: v :: .retAddr 0 :: L := rfl
theorem e_stoL_10r {a0 a1 a2 a3 a4 a5 a6 a7 a8 b0 b1 : Value} : stoL 10 v (a0 :: a1 :: a2 :: a3 :: a4 :: a5 :: a6 :: a7 :: a8 :: .ref a :: b0 :: b1 :: L) = a0 :: a1 :: a2 :: a3 :: a4 :: a5 :: a6 :: a7 :: a8 :: .ref a :: v :: .retAddr 0 :: L := rfl
theorem e_stoL_10u {a0 a1 a2 a3 a4 a5 a6 a7 a8 b0 b1 : Value} : stoL 10 v (a0 :: a1 :: a2 :: a3 :: a4 :: a5 :: a6 :: a7 :: a8 :: .retAddr a :: b0 :: b1 :: L) = a0 :: a1 :: a2 :: a3 :: a4 :: a5 :: a6 :: a7 :: a8 :: .retAddr a :: v :: .retAddr 0 :: L := rfl
theorem e_stoL_11i {a0 a1 a2 a3 a4 a5 a6 a7 a8 a9 b0 b1 : Value} : stoL 11 v (a0 :: a1 :: a2 :: a3 :: a4 :: a5 :: a6 :: a7 :: a8 :: a9 :: .int x :: b0 :: b1 :: L) = a0 :: a1 :: a2 :: a3 :: a4 :: a5 :: a6 :: a7 :: a8 :: a9 :: .int x :: v :: .retAddr 0 :: L := rfl
theorem e_stoL_11r {a0 a1 a2 a3 a4 a5 a6 a7 a8 a9 b0 b1 : Value} : stoL 11 v (a0 :: a1 :: a2 :: a3 :: a4 :: a5 :: a6 :: a7 :: a8 :: a9 :: .ref a :: b0 :: b1 :: L) = a0 :: a1 :: a2 :: a3 :: a4 :: a5 :: a6 :: a7 :: a8 :: a9 :: .ref a :: v :: .retAddr 0 :: L := rfl
theorem e_stoL_11u {a0 a1 a2 a3 a4 a5 a6 a7 a8 a9 b0 b1 : Value} : stoL 11 v (a0 :: a1 :: a2 :: a3 :: a4 :: a5 :: a6 :: a7 :: a8 :: a9 :: .retAddr a :: b0 :: b1 :: L) = a0 :: a1 :: a2 :: a3 :: a4 :: a5 :: a6 :: a7 :: a8 :: a9 :: .retAddr a :: v :: .retAddr 0 :: L := rfl
theorem e_stoL_12i {a0 a1 a2 a3 a4 a5 a6 a7 a8 a9 a10 b0 b1 : Value} : stoL 12 v (a0 :: a1 :: a2 :: a3 :: a4 :: a5 :: a6 :: a7 :: a8 :: a9 :: a10 :: .int x :: b0 :: b1 :: L) = a0 :: a1 :: a2 :: a3 :: a4 :: a5 :: a6 :: a7 :: a8 :: a9 :: a10 :: .int x :: v :: .retAddr 0 :: L := rfl
theorem e_stoL_12r {a0 a1 a2 a3 a4 a5 a6 a7 a8 a9 a10 b0 b1 : Value} : stoL 12 v (a0 :: a1 :: a2 :: a3 :: a4 :: a5 :: a6 :: a7 :: a8 :: a9 :: a10 :: .ref a :: b0 :: b1 :: L) = a0 :: a1 :: a2 :: a3 :: a4 :: a5 :: a6 :: a7 :: a8 :: a9 :: a10 :: .ref a :: v :: .retAddr 0 :: L := rfl
theorem e_stoL_12u {a0 a1 a2 a3 a4 a5 a6 a7 a8 a9 a10 b0 b1 : Value} : stoL 12 v (a0 :: a1 :: a2 :: a3 :: a4 :: a5 :: a6 :: a7 :: a8 :: a9 :: a10 :: .retAddr a :: b0 :: b1 :: L) = a0 :: a1 :: a2 :: a3 :: a4 :: a5 :: a6 :: a7 :: a8 :: a9 :: a10 :: .retAddr a :: v :: .retAddr 0 :: L := rfl
theorem e_ib {g : Int32 → Int32 → Int32} : i_ib g k (.int y :: .int x :: st) L w = k (.int (g x y) :: st) L w := rfl
theorem e_lb {g : Int64 → Int64 → Int64} : i_lb g k (.long q :: .long p :: st) L w = k (.long (g p q) :: st) L w := rfl
theorem e_ls {g : Int64 → Int32 → Int64} : i_ls g k (.int y :: .long p :: st) L w = k (.long (g p y) :: st) L w := rfl
theorem e_ii {g : Int32 → Int32} : i_ii g k (.int x :: st) L w = k (.int (g x) :: st) L w := rfl
theorem e_i2l  : i_i2l k (.int x :: st) L w = k (.long x.toInt64 :: st) L w := rfl
theorem e_l2i  : i_l2i k (.long p :: st) L w = k (.int p.toInt32 :: st) L w := rfl
theorem e_lcmp  : i_lcmp k (.long q :: .long p :: st) L w = k (.int (lg_cmp p q) :: st) L w := rfl
theorem e_idiv  : i_idiv k (.int y :: .int x :: st) L w = if y = 0 then none else k (.int (x / y) :: st) L w := rfl
theorem e_irem  : i_irem k (.int y :: .int x :: st) L w = if y = 0 then none else k (.int (x - x / y * y) :: st) L w := rfl
theorem e_dup_i  : i_dup k (.int x :: st) L w = k (.int x :: .int x :: st) L w := rfl
theorem e_dup_r  : i_dup k (.ref a :: st) L w = k (.ref a :: .ref a :: st) L w := rfl
theorem e_dup2  : i_dup2 k (.int y :: .ref a :: st) L w = k (.int y :: .ref a :: .int y :: .ref a :: st) L w := rfl
theorem e_pop  : i_pop k (.int x :: st) L w = k st L w := rfl
theorem e_ifeq  : i_ifeq kt kf (.int x :: st) L w = if x = 0 then kt st L w else kf st L w := rfl
theorem e_iceq  : i_iceq kt kf (.int y :: .int x :: st) L w = if x = y then kt st L w else kf st L w := rfl
theorem e_ifne  : i_ifne kt kf (.int x :: st) L w = if x = 0 then kf st L w else kt st L w := rfl
theorem e_icne  : i_icne kt kf (.int y :: .int x :: st) L w = if x = y then kf st L w else kt st L w := rfl
theorem e_iflt  : i_iflt kt kf (.int x :: st) L w = if x < 0 then kt st L w else kf st L w := rfl
theorem e_iclt  : i_iclt kt kf (.int y :: .int x :: st) L w = if x < y then kt st L w else kf st L w := rfl
theorem e_ifge  : i_ifge kt kf (.int x :: st) L w = if 0 ≤ x then kt st L w else kf st L w := rfl
theorem e_icge  : i_icge kt kf (.int y :: .int x :: st) L w = if y ≤ x then kt st L w else kf st L w := rfl
theorem e_ifgt  : i_ifgt kt kf (.int x :: st) L w = if 0 < x then kt st L w else kf st L w := rfl
theorem e_icgt  : i_icgt kt kf (.int y :: .int x :: st) L w = if y < x then kt st L w else kf st L w := rfl
theorem e_ifle  : i_ifle kt kf (.int x :: st) L w = if x ≤ 0 then kt st L w else kf st L w := rfl
theorem e_icle  : i_icle kt kf (.int y :: .int x :: st) L w = if x ≤ y then kt st L w else kf st L w := rfl
theorem e_sw {lo hi : Int} {ks : List mK} : i_sw lo hi ks kt (.int x :: st) L w = if x.toInt < lo ∨ hi < x.toInt then kt st L w else (match ks[(x.toInt - lo).toNat]? with | some f => f st L w | none => none) := rfl
theorem e_iret  : i_iret [.int x] L w = some (some (.int x), w) := rfl
theorem e_nret {ty : FieldType} : i_nret ty [.int x] L w = if narrow ty (.int x) = .int x then some (some (.int x), w) else none := rfl
theorem e_lret  : i_lret [.long p] L w = some (some (.long p), w) := rfl
theorem e_aret  : i_aret [.ref a] L w = some (some (.ref a), w) := rfl
theorem e_vret  : i_vret [] L w = some (none, w) := rfl
def gt (ci j a : Nat) (w : List va_E) : Option Value := match w[a]? with
  | some (.inr o) => if o.1 = ci then o.2[j]? else none
  | _ => none
theorem e_get {j ci : Nat} : i_get ci j k (.ref a :: st) L w = (gt ci j a w).bind (fun v => k (v :: st) L w) := by
  simp only [i_get, gt]
  cases w[a]? with
  | none => rfl
  | some e =>
    cases e with
    | inl z => rfl
    | inr z =>
      by_cases h : z.1 = ci
      · simp only [h, if_true]
        cases z.2[j]? <;> rfl
      · simp [h]
def pt (ci j a : Nat) (v : Value) (w : List va_E) : Option (List va_E) := match w[a]? with
  | some (.inr o) => if o.1 = ci ∧ j < o.2.length then some (w.set a (.inr (o.1, o.2.set j v))) else none
  | _ => none
theorem e_puti {j ci : Nat} : i_puti ci j k (.int x :: .ref a :: st) L w = (pt ci j a (.int x) w).bind (fun w => k st L w) := by
  simp only [i_puti, pt]
  cases w[a]? with
  | none => rfl
  | some e =>
    cases e with
    | inl z => rfl
    | inr z =>
      by_cases h : z.1 = ci ∧ j < z.2.length
      · simp [h]
      · simp [h]
theorem e_putl {j ci : Nat} : i_putl ci j k (.long p :: .ref a :: st) L w = (pt ci j a (.long p) w).bind (fun w => k st L w) := by
  simp only [i_putl, pt]
  cases w[a]? with
  | none => rfl
  | some e =>
    cases e with
    | inl z => rfl
    | inr z =>
      by_cases h : z.1 = ci ∧ j < z.2.length
      · simp [h]
      · simp [h]
/-- an int array's element -/
def ial (tag a : Nat) (i : Int32) (w : List va_E) : Option Int32 := match w[a]? with
  | some (.inl (c, n, .inl f)) => if c = tag ∧ 0 ≤ i.toInt ∧ i.toInt < n then some (f i.toNatClampNeg) else none
  | _ => none
def ias (tag a : Nat) (i x : Int32) (w : List va_E) : Option (List va_E) := match w[a]? with
  | some (.inl (c, n, .inl f)) => if c = tag ∧ 0 ≤ i.toInt ∧ i.toInt < n then some (w.set a (.inl (c, n, .inl (upd f i.toNatClampNeg x)))) else none
  | _ => none
def lal (a : Nat) (i : Int32) (w : List va_E) : Option Int64 := match w[a]? with
  | some (.inl (c, n, .inr (.inl f))) => if c = 1 ∧ 0 ≤ i.toInt ∧ i.toInt < n then some (f i.toNatClampNeg) else none
  | _ => none
def las (a : Nat) (i : Int32) (p : Int64) (w : List va_E) : Option (List va_E) := match w[a]? with
  | some (.inl (c, n, .inr (.inl f))) => if c = 1 ∧ 0 ≤ i.toInt ∧ i.toInt < n then some (w.set a (.inl (c, n, .inr (.inl (vp_updL f i.toNatClampNeg p))))) else none
  | _ => none
theorem e_iald {i : Int32} : i_iald k (.int i :: .ref a :: st) L w = (ial 0 a i w).bind (fun x => k (.int x :: st) L w) := by
  simp only [i_iald, ial]
  split
  · rename_i c0 n0 f hw
    rw [hw]
    by_cases h : c0 = 0 ∧ 0 ≤ i.toInt ∧ i.toInt < n0 <;> simp [h]
  · rename_i hw
    split
    · rename_i c0 n0 f hw2
      exact absurd hw2 (hw _ _ _)
    · rfl
theorem e_zald {i : Int32} : i_zald k (.int i :: .ref a :: st) L w = (ial 2 a i w).bind (fun x => k (.int x :: st) L w) := by
  simp only [i_zald, ial]
  split
  · rename_i c0 n0 f hw
    rw [hw]
    by_cases h : c0 = 2 ∧ 0 ≤ i.toInt ∧ i.toInt < n0 <;> simp [h]
  · rename_i hw
    split
    · rename_i c0 n0 f hw2
      exact absurd hw2 (hw _ _ _)
    · rfl
theorem e_iast {i : Int32} : i_iast k (.int x :: .int i :: .ref a :: st) L w = (ias 0 a i x w).bind (fun w => k st L w) := by
  simp only [i_iast, ias]
  split
  · rename_i c0 n0 f hw
    rw [hw]
    by_cases h : c0 = 0 ∧ 0 ≤ i.toInt ∧ i.toInt < n0 <;> simp [h]
  · rename_i hw
    split
    · rename_i c0 n0 f hw2
      exact absurd hw2 (hw _ _ _)
    · rfl
theorem e_zast {i : Int32} : i_zast k (.int x :: .int i :: .ref a :: st) L w = (ias 2 a i (vp_nar .boolean x) w).bind (fun w => k st L w) := by
  simp only [i_zast, ias]
  split
  · rename_i c0 n0 f hw
    rw [hw]
    by_cases h : c0 = 2 ∧ 0 ≤ i.toInt ∧ i.toInt < n0 <;> simp [h]
  · rename_i hw
    split
    · rename_i c0 n0 f hw2
      exact absurd hw2 (hw _ _ _)
    · rfl
theorem e_lald {i : Int32} : i_lald k (.int i :: .ref a :: st) L w = (lal a i w).bind (fun x => k (.long x :: st) L w) := by
  simp only [i_lald, lal]
  split
  · rename_i c0 n0 f hw
    rw [hw]
    by_cases h : c0 = 1 ∧ 0 ≤ i.toInt ∧ i.toInt < n0 <;> simp [h]
  · rename_i hw
    split
    · rename_i c0 n0 f hw2
      exact absurd hw2 (hw _ _ _)
    · rfl
theorem e_last {i : Int32} : i_last k (.long p :: .int i :: .ref a :: st) L w = (las a i p w).bind (fun w => k st L w) := by
  simp only [i_last, las]
  split
  · rename_i c0 n0 f hw
    rw [hw]
    by_cases h : c0 = 1 ∧ 0 ≤ i.toInt ∧ i.toInt < n0 <;> simp [h]
  · rename_i hw
    split
    · rename_i c0 n0 f hw2
      exact absurd hw2 (hw _ _ _)
    · rfl
def aln (a : Nat) (w : List va_E) : Option Int32 := match w[a]? with
  | some (.inl (c, x)) => if c = 0 then some (Int32.ofNat x.1) else none
  | _ => none
theorem e_alen : i_alen k (.ref a :: st) L w = (aln a w).bind (fun x => k (.int x :: st) L w) := by
  simp only [i_alen, aln]
  cases w[a]? with
  | none => rfl
  | some e =>
    cases e with
    | inl z =>
      by_cases h : z.1 = 0 <;> simp [h]
    | inr z => rfl
theorem e_nald {i : Int32} : i_nald k (.int i :: .ref a :: st) L w = if a = 2000 ∧ 0 ≤ i.toInt ∧ i.toInt < 12 then k (.int (nT.getD i.toNatClampNeg 0) :: st) L w else none := rfl
theorem e_nlen : i_nlen k (.ref a :: st) L w = if a = 2000 then k (.int 12 :: st) L w else none := rfl
theorem e_mmax : i_mmax k (.int y :: .int x :: st) L w = if st.length ≤ 4 then k (.int (if x < y then y else x) :: st) L w else none := rfl
theorem e_mmin : i_mmin k (.int y :: .int x :: st) L w = if st.length ≤ 4 then k (.int (if y < x then y else x) :: st) L w else none := rfl
theorem e_mabs : i_mabs k (.int x :: st) L w = if st.length ≤ 4 then k (.int (if 0 ≤ x then x else 0 - x) :: st) L w else none := rfl
/-- going on behind a call -/
def cont (ans : Option (Option Value × List va_E)) (k : mK) (r L : List Value) : Option (Option Value × List va_E) := match ans with
  | some (some v, w') => k (v :: r) L w'
  | some (none, w') => k r L w'
  | none => none
theorem cont_v : cont (some (some v, w)) k r L = k (v :: r) L w := rfl
theorem cont_u : cont (some (none, w)) k r L = k r L w := rfl
theorem cont_n : cont none k r L = none := rfl
theorem cont_if {c : Prop} {d : Decidable c} {A B : Option (Option Value × List va_E)} : cont (@ite _ c d A B) k r L = @ite _ c d (cont A k r L) (cont B k r L) := by
  by_cases h : c <;> simp [h]
/-- the receiver's class -/
def rc (ci b : Nat) (w : List va_E) : Bool := match w[b]? with
  | some (.inr o) => o.1 == ci
  | _ => false
theorem e_call0 {F : mF} : i_call 0 F k (r) L w = if r.length ≤ 4 then cont (F [] w) k r L else none := by
  by_cases h : r.length ≤ 4
  · have h2 : 0 ≤ (r).length ∧ (r).length ≤ 0 + 4 := by simp; omega
    simp only [i_call, h2, h, and_self, if_true]
    rfl
  · have h2 : ¬ (0 ≤ (r).length ∧ (r).length ≤ 0 + 4) := by simp; omega
    rw [if_neg h]
    unfold i_call
    rw [if_neg h2]
theorem e_call1 {a0 : Value} {F : mF} : i_call 1 F k (a0 :: r) L w = if r.length ≤ 4 then cont (F [a0] w) k r L else none := by
  by_cases h : r.length ≤ 4
  · have h2 : 1 ≤ (a0 :: r).length ∧ (a0 :: r).length ≤ 1 + 4 := by simp; omega
    simp only [i_call, h2, h, and_self, if_true]
    rfl
  · have h2 : ¬ (1 ≤ (a0 :: r).length ∧ (a0 :: r).length ≤ 1 + 4) := by simp; omega
    rw [if_neg h]
    unfold i_call
    rw [if_neg h2]
theorem e_call2 {a0 a1 : Value} {F : mF} : i_call 2 F k (a1 :: a0 :: r) L w = if r.length ≤ 4 then cont (F [a0, a1] w) k r L else none := by
  by_cases h : r.length ≤ 4
  · have h2 : 2 ≤ (a1 :: a0 :: r).length ∧ (a1 :: a0 :: r).length ≤ 2 + 4 := by simp; omega
    simp only [i_call, h2, h, and_self, if_true]
    rfl
  · have h2 : ¬ (2 ≤ (a1 :: a0 :: r).length ∧ (a1 :: a0 :: r).length ≤ 2 + 4) := by simp; omega
    rw [if_neg h]
    unfold i_call
    rw [if_neg h2]
theorem e_call3 {a0 a1 a2 : Value} {F : mF} : i_call 3 F k (a2 :: a1 :: a0 :: r) L w = if r.length ≤ 4 then cont (F [a0, a1, a2] w) k r L else none := by
  by_cases h : r.length ≤ 4
  · have h2 : 3 ≤ (a2 :: a1 :: a0 :: r).length ∧ (a2 :: a1 :: a0 :: r).length ≤ 3 + 4 := by simp; omega
    simp only [i_call, h2, h, and_self, if_true]
    rfl
  · have h2 : ¬ (3 ≤ (a2 :: a1 :: a0 :: r).length ∧ (a2 :: a1 :: a0 :: r).length ≤ 3 + 4) := by simp; omega
    rw [if_neg h]
    unfold i_call
    rw [if_neg h2]
theorem e_call4 {a0 a1 a2 a3 : Value} {F : mF} : i_call 4 F k (a3 :: a2 :: a1 :: a0 :: r) L w = if r.length ≤ 4 then cont (F [a0, a1, a2, a3] w) k r L else none := by
  by_cases h : r.length ≤ 4
  · have h2 : 4 ≤ (a3 :: a2 :: a1 :: a0 :: r).length ∧ (a3 :: a2 :: a1 :: a0 :: r).length ≤ 4 + 4 := by simp; omega
    simp only [i_call, h2, h, and_self, if_true]
    rfl
  · have h2 : ¬ (4 ≤ (a3 :: a2 :: a1 :: a0 :: r).length ∧ (a3 :: a2 :: a1 :: a0 :: r).length ≤ 4 + 4) := by simp; omega
    rw [if_neg h]
    unfold i_call
    rw [if_neg h2]
theorem e_call5 {a0 a1 a2 a3 a4 : Value} {F : mF} : i_call 5 F k (a4 :: a3 :: a2 :: a1 :: a0 :: r) L w = if r.length ≤ 4 then cont (F [a0, a1, a2, a3, a4] w) k r L else none := by
  by_cases h : r.length ≤ 4
  · have h2 : 5 ≤ (a4 :: a3 :: a2 :: a1 :: a0 :: r).length ∧ (a4 :: a3 :: a2 :: a1 :: a0 :: r).length ≤ 5 + 4 := by simp; omega
    simp only [i_call, h2, h, and_self, if_true]
    rfl
  · have h2 : ¬ (5 ≤ (a4 :: a3 :: a2 :: a1 :: a0 :: r).length ∧ (a4 :: a3 :: a2 :: a1 :: a0 :: r).length ≤ 5 + 4) := by simp; omega
    rw [if_neg h]
    unfold i_call
    rw [if_neg h2]
theorem e_call6 {a0 a1 a2 a3 a4 a5 : Value} {F : mF} : i_call 6 F k (a5 :: a4 :: a3 :: a2 :: a1 :: a0 :: r) L w = if r.length ≤ 4 then cont (F [a0, a1, a2, a3, a4, a5] w) k r L else none := by
  by_cases h : r.length ≤ 4
  · have h2 : 6 ≤ (a5 :: a4 :: a3 :: a2 :: a1 :: a0 :: r).length ∧ (a5 :: a4 :: a3 :: a2 :: a1 :: a0 :: r).length ≤ 6 + 4 := by simp; omega
    simp only [i_call, h2, h, and_self, if_true]
    rfl
  · have h2 : ¬ (6 ≤ (a5 :: a4 :: a3 :: a2 :: a1 :: a0 :: r).length ∧ (a5 :: a4 :: a3 :: a2 :: a1 :: a0 :: r).length ≤ 6 + 4) := by simp; omega
    rw [if_neg h]
    unfold i_call
    rw [if_neg h2]
theorem e_callV0 {F : mF} {ci : Nat} : i_callV ci 0 F k (.ref b :: r) L w = if rc ci b w = true then (if r.length ≤ 4 then cont (F [.ref b] w) k r L else none) else none := by
  rw [← e_call1]
  show (match w[b]? with | some (.inr o) => if o.1 = ci then i_call (0 + 1) F k (.ref b :: r) L w else none | _ => none) = _
  unfold rc
  cases w[b]? with
  | none => rfl
  | some e =>
    cases e with
    | inl z => rfl
    | inr z =>
      by_cases h : z.1 = ci <;> simp [h]
theorem e_callT0 {F : mF} : i_callT 0 F k (.ref b :: r) L w = if 1000 ≤ b ∧ b < 1013 then (if r.length ≤ 4 then cont (F [.ref b] w) k r L else none) else none := by
  rw [← e_call1]
  rfl
theorem e_callV1 {a1 : Value} {F : mF} {ci : Nat} : i_callV ci 1 F k (a1 :: .ref b :: r) L w = if rc ci b w = true then (if r.length ≤ 4 then cont (F [.ref b, a1] w) k r L else none) else none := by
  rw [← e_call2]
  show (match w[b]? with | some (.inr o) => if o.1 = ci then i_call (1 + 1) F k (a1 :: .ref b :: r) L w else none | _ => none) = _
  unfold rc
  cases w[b]? with
  | none => rfl
  | some e =>
    cases e with
    | inl z => rfl
    | inr z =>
      by_cases h : z.1 = ci <;> simp [h]
theorem e_callT1 {a1 : Value} {F : mF} : i_callT 1 F k (a1 :: .ref b :: r) L w = if 1000 ≤ b ∧ b < 1013 then (if r.length ≤ 4 then cont (F [.ref b, a1] w) k r L else none) else none := by
  rw [← e_call2]
  rfl
theorem e_callV2 {a1 a2 : Value} {F : mF} {ci : Nat} : i_callV ci 2 F k (a2 :: a1 :: .ref b :: r) L w = if rc ci b w = true then (if r.length ≤ 4 then cont (F [.ref b, a1, a2] w) k r L else none) else none := by
  rw [← e_call3]
  show (match w[b]? with | some (.inr o) => if o.1 = ci then i_call (2 + 1) F k (a2 :: a1 :: .ref b :: r) L w else none | _ => none) = _
  unfold rc
  cases w[b]? with
  | none => rfl
  | some e =>
    cases e with
    | inl z => rfl
    | inr z =>
      by_cases h : z.1 = ci <;> simp [h]
theorem e_callT2 {a1 a2 : Value} {F : mF} : i_callT 2 F k (a2 :: a1 :: .ref b :: r) L w = if 1000 ≤ b ∧ b < 1013 then (if r.length ≤ 4 then cont (F [.ref b, a1, a2] w) k r L else none) else none := by
  rw [← e_call3]
  rfl
theorem e_callV3 {a1 a2 a3 : Value} {F : mF} {ci : Nat} : i_callV ci 3 F k (a3 :: a2 :: a1 :: .ref b :: r) L w = if rc ci b w = true then (if r.length ≤ 4 then cont (F [.ref b, a1, a2, a3] w) k r L else none) else none := by
  rw [← e_call4]
  show (match w[b]? with | some (.inr o) => if o.1 = ci then i_call (3 + 1) F k (a3 :: a2 :: a1 :: .ref b :: r) L w else none | _ => none) = _
  unfold rc
  cases w[b]? with
  | none => rfl
  | some e =>
    cases e with
    | inl z => rfl
    | inr z =>
      by_cases h : z.1 = ci <;> simp [h]
theorem e_callT3 {a1 a2 a3 : Value} {F : mF} : i_callT 3 F k (a3 :: a2 :: a1 :: .ref b :: r) L w = if 1000 ≤ b ∧ b < 1013 then (if r.length ≤ 4 then cont (F [.ref b, a1, a2, a3] w) k r L else none) else none := by
  rw [← e_call4]
  rfl
theorem e_callV4 {a1 a2 a3 a4 : Value} {F : mF} {ci : Nat} : i_callV ci 4 F k (a4 :: a3 :: a2 :: a1 :: .ref b :: r) L w = if rc ci b w = true then (if r.length ≤ 4 then cont (F [.ref b, a1, a2, a3, a4] w) k r L else none) else none := by
  rw [← e_call5]
  show (match w[b]? with | some (.inr o) => if o.1 = ci then i_call (4 + 1) F k (a4 :: a3 :: a2 :: a1 :: .ref b :: r) L w else none | _ => none) = _
  unfold rc
  cases w[b]? with
  | none => rfl
  | some e =>
    cases e with
    | inl z => rfl
    | inr z =>
      by_cases h : z.1 = ci <;> simp [h]
theorem e_callT4 {a1 a2 a3 a4 : Value} {F : mF} : i_callT 4 F k (a4 :: a3 :: a2 :: a1 :: .ref b :: r) L w = if 1000 ≤ b ∧ b < 1013 then (if r.length ≤ 4 then cont (F [.ref b, a1, a2, a3, a4] w) k r L else none) else none := by
  rw [← e_call5]
  rfl
theorem e_callV5 {a1 a2 a3 a4 a5 : Value} {F : mF} {ci : Nat} : i_callV ci 5 F k (a5 :: a4 :: a3 :: a2 :: a1 :: .ref b :: r) L w = if rc ci b w = true then (if r.length ≤ 4 then cont (F [.ref b, a1, a2, a3, a4, a5] w) k r L else none) else none := by
  rw [← e_call6]
  show (match w[b]? with | some (.inr o) => if o.1 = ci then i_call (5 + 1) F k (a5 :: a4 :: a3 :: a2 :: a1 :: .ref b :: r) L w else none | _ => none) = _
  unfold rc
  cases w[b]? with
  | none => rfl
  | some e =>
    cases e with
    | inl z => rfl
    | inr z =>
      by_cases h : z.1 = ci <;> simp [h]
theorem e_callT5 {a1 a2 a3 a4 a5 : Value} {F : mF} : i_callT 5 F k (a5 :: a4 :: a3 :: a2 :: a1 :: .ref b :: r) L w = if 1000 ≤ b ∧ b < 1013 then (if r.length ≤ 4 then cont (F [.ref b, a1, a2, a3, a4, a5] w) k r L else none) else none := by
  rw [← e_call6]
  rfl
theorem lin_i {n : Nat} : lin n (.int x :: r) = .int x :: lin (n - 1) r := rfl
theorem lin_r {n : Nat} : lin n (.ref a :: r) = .ref a :: lin (n - 1) r := rfl
theorem lin_l {n : Nat} : lin n (.long p :: r) = .long p :: .retAddr 0 :: lin (n - 2) r := rfl
theorem lin_n {n : Nat} : lin n [] = List.replicate n (.retAddr 0) := rfl
theorem lsz_i : lsz (.int x :: r) = 1 + lsz r := rfl
theorem lsz_r : lsz (.ref a :: r) = 1 + lsz r := rfl
theorem lsz_l : lsz (.long p :: r) = 2 + lsz r := rfl
theorem lsz_n : lsz [] = 0 := rfl
theorem rep_s {n : Nat} : List.replicate (n + 1) v = v :: List.replicate n v := rfl
theorem rep_0 : List.replicate 0 v = [] := rfl
theorem mEnt_e {n : Nat} {f : mK} : mEnt n f r w = if lsz r ≤ n then f [] (lin n r) w else none := rfl
end EV
