theorem ev_il0  {f : am_F} {L : List (Option Value)} {st : List Value} {u : am_St} {x : Int32} : am_th (i_il 0) f (some (.int x) :: L, st, u) = f (some (.int x) :: L, .int x :: st, u) := (rfl)
theorem ev_ll0  {f : am_F} {L : List (Option Value)} {st : List Value} {u : am_St} {x : Int64} : am_th (i_ll 0) f (some (.long x) :: L, st, u) = f (some (.long x) :: L, .long x :: st, u) := (rfl)
theorem ev_al0  {f : am_F} {L : List (Option Value)} {st : List Value} {u : am_St} {x : Nat} : am_th (i_al 0) f (some (.ref x) :: L, st, u) = f (some (.ref x) :: L, .ref x :: st, u) := (rfl)
theorem ev_il1 {a0 : Option Value} {f : am_F} {L : List (Option Value)} {st : List Value} {u : am_St} {x : Int32} : am_th (i_il 1) f (a0 :: some (.int x) :: L, st, u) = f (a0 :: some (.int x) :: L, .int x :: st, u) := (rfl)
theorem ev_ll1 {a0 : Option Value} {f : am_F} {L : List (Option Value)} {st : List Value} {u : am_St} {x : Int64} : am_th (i_ll 1) f (a0 :: some (.long x) :: L, st, u) = f (a0 :: some (.long x) :: L, .long x :: st, u) := (rfl)
theorem ev_al1 {a0 : Option Value} {f : am_F} {L : List (Option Value)} {st : List Value} {u : am_St} {x : Nat} : am_th (i_al 1) f (a0 :: some (.ref x) :: L, st, u) = f (a0 :: some (.ref x) :: L, .ref x :: st, u) := (rfl)
theorem ev_il2 {a0 : Option Value} {a1 : Option Value} {f : am_F} {L : List (Option Value)} {st : List Value} {u : am_St} {x : Int32} : am_th (i_il 2) f (a0 :: a1 :: some (.int x) :: L, st, u) = f (a0 :: a1 :: some (.int x) :: L, .int x :: st, u) := (rfl)
theorem ev_ll2 {a0 : Option Value} {a1 : Option Value} {f : am_F} {L : List (Option Value)} {st : List Value} {u : am_St} {x : Int64} : am_th (i_ll 2) f (a0 :: a1 :: some (.long x) :: L, st, u) = f (a0 :: a1 :: some (.long x) :: L, .long x :: st, u) := (rfl)
theorem ev_al2 {a0 : Option Value} {a1 : Option Value} {f : am_F} {L : List (Option Value)} {st : List Value} {u : am_St} {x : Nat} : am_th (i_al 2) f (a0 :: a1 :: some (.ref x) :: L, st, u) = f (a0 :: a1 :: some (.ref x) :: L, .ref x :: st, u) := (rfl)
theorem ev_il3 {a0 : Option Value} {a1 : Option Value} {a2 : Option Value} {f : am_F} {L : List (Option Value)} {st : List Value} {u : am_St} {x : Int32} : am_th (i_il 3) f (a0 :: a1 :: a2 :: some (.int x) :: L, st, u) = f (a0 :: a1 :: a2 :: some (.int x) :: L, .int x :: st, u) := (rfl)
theorem ev_ll3 {a0 : Option Value} {a1 : Option Value} {a2 : Option Value} {f : am_F} {L : List (Option Value)} {st : List Value} {u : am_St} {x : Int64} : am_th (i_ll 3) f (a0 :: a1 :: a2 :: some (.long x) :: L, st, u) = f (a0 :: a1 :: a2 :: some (.long x) :: L, .long x :: st, u) := (rfl)
theorem ev_al3 {a0 : Option Value} {a1 : Option Value} {a2 : Option Value} {f : am_F} {L : List (Option Value)} {st : List Value} {u : am_St} {x : Nat} : am_th (i_al 3) f (a0 :: a1 :: a2 :: some (.ref x) :: L, st, u) = f (a0 :: a1 :: a2 :: some (.ref x) :: L, .ref x :: st, u) := (rfl)
theorem ev_il4 {a0 : Option Value} {a1 : Option Value} {a2 : Option Value} {a3 : Option Value} {f : am_F} {L : List (Option Value)} {st : List Value} {u : am_St} {x : Int32} : am_th (i_il 4) f (a0 :: a1 :: a2 :: a3 :: some (.int x) :: L, st, u) = f (a0 :: a1 :: a2 :: a3 :: some (.int x) :: L, .int x :: st, u) := (rfl)
theorem ev_ll4 {a0 : Option Value} {a1 : Option Value} {a2 : Option Value} {a3 : Option Value} {f : am_F} {L : List (Option Value)} {st : List Value} {u : am_St} {x : Int64} : am_th (i_ll 4) f (a0 :: a1 :: a2 :: a3 :: some (.long x) :: L, st, u) = f (a0 :: a1 :: a2 :: a3 :: some (.long x) :: L, .long x :: st, u) := (rfl)
theorem ev_al4 {a0 : Option Value} {a1 : Option Value} {a2 : Option Value} {a3 : Option Value} {f : am_F} {L : List (Option Value)} {st : List Value} {u : am_St} {x : Nat} : am_th (i_al 4) f (a0 :: a1 :: a2 :: a3 :: some (.ref x) :: L, st, u) = f (a0 :: a1 :: a2 :: a3 :: some (.ref x) :: L, .ref x :: st, u) := (rfl)
theorem ev_il5 {a0 : Option Value} {a1 : Option Value} {a2 : Option Value} {a3 : Option Value} {a4 : Option Value} {f : am_F} {L : List (Option Value)} {st : List Value} {u : am_St} {x : Int32} : am_th (i_il 5) f (a0 :: a1 :: a2 :: a3 :: a4 :: some (.int x) :: L, st, u) = f (a0 :: a1 :: a2 :: a3 :: a4 :: some (.int x) :: L, .int x :: st, u) := (rfl)
theorem ev_ll5 {a0 : Option Value} {a1 : Option Value} {a2 : Option Value} {a3 : Option Value} {a4 : Option Value} {f : am_F} {L : List (Option Value)} {st : List Value} {u : am_St} {x : Int64} : am_th (i_ll 5) f (a0 :: a1 :: a2 :: a3 :: a4 :: some (.long x) :: L, st, u) = f (a0 :: a1 :: a2 :: a3 :: a4 :: some (.long x) :: L, .long x :: st, u) := (rfl)
theorem ev_al5 {a0 : Option Value} {a1 : Option Value} {a2 : Option Value} {a3 : Option Value} {a4 : Option Value} {f : am_F} {L : List (Option Value)} {st : List Value} {u : am_St} {x : Nat} : am_th (i_al 5) f (a0 :: a1 :: a2 :: a3 :: a4 :: some (.ref x) :: L, st, u) = f (a0 :: a1 :: a2 :: a3 :: a4 :: some (.ref x) :: L, .ref x :: st, u) := (rfl)
theorem ev_il6 {a0 : Option Value} {a1 : Option Value} {a2 : Option Value} {a3 : Option Value} {a4 : Option Value} {a5 : Option Value} {f : am_F} {L : List (Option Value)} {st : List Value} {u : am_St} {x : Int32} : am_th (i_il 6) f (a0 :: a1 :: a2 :: a3 :: a4 :: a5 :: some (.int x) :: L, st, u) = f (a0 :: a1 :: a2 :: a3 :: a4 :: a5 :: some (.int x) :: L, .int x :: st, u) := (rfl)
theorem ev_ll6 {a0 : Option Value} {a1 : Option Value} {a2 : Option Value} {a3 : Option Value} {a4 : Option Value} {a5 : Option Value} {f : am_F} {L : List (Option Value)} {st : List Value} {u : am_St} {x : Int64} : am_th (i_ll 6) f (a0 :: a1 :: a2 :: a3 :: a4 :: a5 :: some (.long x) :: L, st, u) = f (a0 :: a1 :: a2 :: a3 :: a4 :: a5 :: some (.long x) :: L, .long x :: st, u) := (rfl)
theorem ev_al6 {a0 : Option Value} {a1 : Option Value} {a2 : Option Value} {a3 : Option Value} {a4 : Option Value} {a5 : Option Value} {f : am_F} {L : List (Option Value)} {st : List Value} {u : am_St} {x : Nat} : am_th (i_al 6) f (a0 :: a1 :: a2 :: a3 :: a4 :: a5 :: some (.ref x) :: L, st, u) = f (a0 :: a1 :: a2 :: a3 :: a4 :: a5 :: some (.ref x) :: L, .ref x :: st, u) := (rfl)
theorem ev_il7 {a0 : Option Value} {a1 : Option Value} {a2 : Option Value} {a3 : Option Value} {a4 : Option Value} {a5 : Option Value} {a6 : Option Value} {f : am_F} {L : List (Option Value)} {st : List Value} {u : am_St} {x : Int32} : am_th (i_il 7) f (a0 :: a1 :: a2 :: a3 :: a4 :: a5 :: a6 :: some (.int x) :: L, st, u) = f (a0 :: a1 :: a2 :: a3 :: a4 :: a5 :: a6 :: some (.int x) :: L, .int x :: st, u) := (rfl)
theorem ev_ll7 {a0 : Option Value} {a1 : Option Value} {a2 : Option Value} {a3 : Option Value} {a4 : Option Value} {a5 : Option Value} {a6 : Option Value} {f : am_F} {L : List (Option Value)} {st : List Value} {u : am_St} {x : Int64} : am_th (i_ll 7) f (a0 :: a1 :: a2 :: a3 :: a4 :: a5 :: a6 :: some (.long x) :: L, st, u) = f (a0 :: a1 :: a2 :: a3 :: a4 :: a5 :: a6 :: some (.long x) :: L, .long x :: st, u) := (rfl)
theorem ev_al7 {a0 : Option Value} {a1 : Option Value} {a2 : Option Value} {a3 : Option Value} {a4 : Option Value} {a5 : Option Value} {a6 : Option Value} {f : am_F} {L : List (Option Value)} {st : List Value} {u : am_St} {x : Nat} : am_th (i_al 7) f (a0 :: a1 :: a2 :: a3 :: a4 :: a5 :: a6 :: some (.ref x) :: L, st, u) = f (a0 :: a1 :: a2 :: a3 :: a4 :: a5 :: a6 :: some (.ref x) :: L, .ref x :: st, u) := (rfl)
theorem ev_il8 {a0 : Option Value} {a1 : Option Value} {a2 : Option Value} {a3 : Option Value} {a4 : Option Value} {a5 : Option Value} {a6 : Option Value} {a7 : Option Value} {f : am_F} {L : List (Option Value)} {st : List Value} {u : am_St} {x : Int32} : am_th (i_il 8) f (a0 :: a1 :: a2 :: a3 :: a4 :: a5 :: a6 :: a7 :: some (.int x) :: L, st, u) = f (a0 :: a1 :: a2 :: a3 :: a4 :: a5 :: a6 :: a7 :: some (.int x) :: L, .int x :: st, u) := (rfl)
theorem ev_ll8 {a0 : Option Value} {a1 : Option Value} {a2 : Option Value} {a3 : Option Value} {a4 : Option Value} {a5 : Option Value} {a6 : Option Value} {a7 : Option Value} {f : am_F} {L : List (Option Value)} {st : List Value} {u : am_St} {x : Int64} : am_th (i_ll 8) f (a0 :: a1 :: a2 :: a3 :: a4 :: a5 :: a6 :: a7 :: some (.long x) :: L, st, u) = f (a0 :: a1 :: a2 :: a3 :: a4 :: a5 :: a6 :: a7 :: some (.long x) :: L, .long x :: st, u) := (rfl)
theorem ev_al8 {a0 : Option Value} {a1 : Option Value} {a2 : Option Value} {a3 : Option Value} {a4 : Option Value} {a5 : Option Value} {a6 : Option Value} {a7 : Option Value} {f : am_F} {L : List (Option Value)} {st : List Value} {u : am_St} {x : Nat} : am_th (i_al 8) f (a0 :: a1 :: a2 :: a3 :: a4 :: a5 :: a6 :: a7 :: some (.ref x) :: L, st, u) = f (a0 :: a1 :: a2 :: a3 :: a4 :: a5 :: a6 :: a7 :: some (.ref x) :: L, .ref x :: st, u) := (rfl)
theorem ev_il9 {a0 : Option Value} {a1 : Option Value} {a2 : Option Value} {a3 : Option Value} {a4 : Option Value} {a5 : Option Value} {a6 : Option Value} {a7 : Option Value} {a8 : Option Value} {f : am_F} {L : List (Option Value)} {st : List Value} {u : am_St} {x : Int32} : am_th (i_il 9) f (a0 :: a1 :: a2 :: a3 :: a4 :: a5 :: a6 :: a7 :: a8 :: some (.int x) :: L, st, u) = f (a0 :: a1 :: a2 :: a3 :: a4 :: a5 :: a6 :: a7 :: a8 :: some (.int x) :: L, .int x :: st, u) := (rfl)
theorem ev_ll9 {a0 : Option Value} {a1 : Option Value} {a2 : Option Value} {a3 : Option Value} {a4 : Option Value} {a5 : Option Value} {a6 : Option Value} {a7 : Option Value} {a8 : Option Value} {f : am_F} {L : List (Option Value)} {st : List Value} {u : am_St} {x : Int64} : am_th (i_ll 9) f (a0 :: a1 :: a2 :: a3 :: a4 :: a5 :: a6 :: a7 :: a8 :: some (.long x) :: L, st, u) = f (a0 :: a1 :: a2 :: a3 :: a4 :: a5 :: a6 :: a7 :: a8 :: some (.long x) :: L, .long x :: st, u) := (rfl)
theorem ev_al9 {a0 : Option Value} {a1 : Option Value} {a2 : Option Value} {a3 : Option Value} {a4 : Option Value} {a5 : Option Value} {a6 : Option Value} {a7 : Option Value} {a8 : Option Value} {f : am_F} {L : List (Option Value)} {st : List Value} {u : am_St} {x : Nat} : am_th (i_al 9) f (a0 :: a1 :: a2 :: a3 :: a4 :: a5 :: a6 :: a7 :: a8 :: some (.ref x) :: L, st, u) = f (a0 :: a1 :: a2 :: a3 :: a4 :: a5 :: a6 :: a7 :: a8 :: some (.ref x) :: L, .ref x :: st, u) := (rfl)
theorem ev_il10 {a0 : Option Value} {a1 : Option Value} {a2 : Option Value} {a3 : Option Value} {a4 : Option Value} {a5 : Option Value} {a6 : Option Value} {a7 : Option Value} {a8 : Option Value} {a9 : Option Value} {f : am_F} {L : List (Option Value)} {st : List Value} {u : am_St} {x : Int32} : am_th (i_il 10) f (a0 :: a1 :: a2 :: a3 :: a4 :: a5 :: a6 :: a7 :: a8 :: a9 :: some (.int x) :: L, st, u) = f (a0 :: a1 :: a2 :: a3 :: a4 :: a5 :: a6 :: a7 :: a8 :: a9 :: some (.int x) :: L, .int x :: st, u) := (rfl)
theorem ev_ll10 {a0 : Option Value} {a1 : Option Value} {a2 : Option Value} {a3 : Option Value} {a4 : Option Value} {a5 : Option Value} {a6 : Option Value} {a7 : Option Value} {a8 : Option Value} {a9 : Option Value} {f : am_F} {L : List (Option Value)} {st : List Value} {u : am_St} {x : Int64} : am_th (i_ll 10) f (a0 :: a1 :: a2 :: a3 :: a4 :: a5 :: a6 :: a7 :: a8 :: a9 :: some (.long x) :: L, st, u) = f (a0 :: a1 :: a2 :: a3 :: a4 :: a5 :: a6 :: a7 :: a8 :: a9 :: some (.long x) :: L, .long x :: st, u) := (rfl)
theorem ev_al10 {a0 : Option Value} {a1 : Option Value} {a2 : Option Value} {a3 : Option Value} {a4 : Option Value} {a5 : Option Value} {a6 : Option Value} {a7 : Option Value} {a8 : Option Value} {a9 : Option Value} {f : am_F} {L : List (Option Value)} {st : List Value} {u : am_St} {x : Nat} : am_th (i_al 10) f (a0 :: a1 :: a2 :: a3 :: a4 :: a5 :: a6 :: a7 :: a8 :: a9 :: some (.ref x) :: L, st, u) = f (a0 :: a1 :: a2 :: a3 :: a4 :: a5 :: a6 :: a7 :: a8 :: a9 :: some (.ref x) :: L, .ref x :: st, u) := (rfl)
theorem ev_il11 {a0 : Option Value} {a1 : Option Value} {a2 : Option Value} {a3 : Option Value} {a4 : Option Value} {a5 : Option Value} {a6 : Option Value} {a7 : Option Value} {a8 : Option Value} {a9 : Option Value} {a10 : Option Value} {f : am_F} {L : List (Option Value)} {st : List Value} {u : am_St} {x : Int32} : am_th (i_il 11) f (a0 :: a1 :: a2 :: a3 :: a4 :: a5 :: a6 :: a7 :: a8 :: a9 :: a10 :: some (.int x) :: L, st, u) = f (a0 :: a1 :: a2 :: a3 :: a4 :: a5 :: a6 :: a7 :: a8 :: a9 :: a10 :: some (.int x) :: L, .int x :: st, u) := (rfl)
theorem ev_ll11 {a0 : Option Value} {a1 : Option Value} {a2 : Option Value} {a3 : Option Value} {a4 : Option Value} {a5 : Option Value} {a6 : Option Value} {a7 : Option Value} {a8 : Option Value} {a9 : Option Value} {a10 : Option Value} {f : am_F} {L : List (Option Value)} {st : List Value} {u : am_St} {x : Int64} : am_th (i_ll 11) f (a0 :: a1 :: a2 :: a3 :: a4 :: a5 :: a6 :: a7 :: a8 :: a9 :: a10 :: some (.long x) :: L, st, u) = f (a0 :: a1 :: a2 :: a3 :: a4 :: a5 :: a6 :: a7 :: a8 :: a9 :: a10 :: some (.long x) :: L, .long x :: st, u) := (rfl)
theorem ev_al11 {a0 : Option Value} {a1 : Option Value} {a2 : Option Value} {a3 : Option Value} {a4 : Option Value} {a5 : Option Value} {a6 : Option Value} {a7 : Option Value} {a8 : Option Value} {a9 : Option Value} {a10 : Option Value} {f : am_F} {L : List (Option Value)} {st : List Value} {u : am_St} {x : Nat} : am_th (i_al 11) f (a0 :: a1 :: a2 :: a3 :: a4 :: a5 :: a6 :: a7 :: a8 :: a9 :: a10 :: some (.ref x) :: L, st, u) = f (a0 :: a1 :: a2 :: a3 :: a4 :: a5 :: a6 :: a7 :: a8 :: a9 :: a10 :: some (.ref x) :: L, .ref x :: st, u) := (rfl)
theorem ev_il12 {a0 : Option Value} {a1 : Option Value} {a2 : Option Value} {a3 : Option Value} {a4 : Option Value} {a5 : Option Value} {a6 : Option Value} {a7 : Option Value} {a8 : Option Value} {a9 : Option Value} {a10 : Option Value} {a11 : Option Value} {f : am_F} {L : List (Option Value)} {st : List Value} {u : am_St} {x : Int32} : am_th (i_il 12) f (a0 :: a1 :: a2 :: a3 :: a4 :: a5 :: a6 :: a7 :: a8 :: a9 :: a10 :: a11 :: some (.int x) :: L, st, u) = f (a0 :: a1 :: a2 :: a3 :: a4 :: a5 :: a6 :: a7 :: a8 :: a9 :: a10 :: a11 :: some (.int x) :: L, .int x :: st, u) := (rfl)
theorem ev_ll12 {a0 : Option Value} {a1 : Option Value} {a2 : Option Value} {a3 : Option Value} {a4 : Option Value} {a5 : Option Value} {a6 : Option Value} {a7 : Option Value} {a8 : Option Value} {a9 : Option Value} {a10 : Option Value} {a11 : Option Value} {f : am_F} {L : List (Option Value)} {st : List Value} {u : am_St} {x : Int64} : am_th (i_ll 12) f (a0 :: a1 :: a2 :: a3 :: a4 :: a5 :: a6 :: a7 :: a8 :: a9 :: a10 :: a11 :: some (.long x) :: L, st, u) = f (a0 :: a1 :: a2 :: a3 :: a4 :: a5 :: a6 :: a7 :: a8 :: a9 :: a10 :: a11 :: some (.long x) :: L, .long x :: st, u) := (rfl)
theorem ev_al12 {a0 : Option Value} {a1 : Option Value} {a2 : Option Value} {a3 : Option Value} {a4 : Option Value} {a5 : Option Value} {a6 : Option Value} {a7 : Option Value} {a8 : Option Value} {a9 : Option Value} {a10 : Option Value} {a11 : Option Value} {f : am_F} {L : List (Option Value)} {st : List Value} {u : am_St} {x : Nat} : am_th (i_al 12) f (a0 :: a1 :: a2 :: a3 :: a4 :: a5 :: a6 :: a7 :: a8 :: a9 :: a10 :: a11 :: some (.ref x) :: L, st, u) = f (a0 :: a1 :: a2 :: a3 :: a4 :: a5 :: a6 :: a7 :: a8 :: a9 :: a10 :: a11 :: some (.ref x) :: L, .ref x :: st, u) := (rfl)
theorem ev_il13 {a0 : Option Value} {a1 : Option Value} {a2 : Option Value} {a3 : Option Value} {a4 : Option Value} {a5 : Option Value} {a6 : Option Value} {a7 : Option Value} {a8 : Option Value} {a9 : Option Value} {a10 : Option Value} {a11 : Option Value} {a12 : Option Value} {f : am_F} {L : List (Option Value)} {st : List Value} {u : am_St} {x : Int32} : am_th (i_il 13) f (a0 :: a1 :: a2 :: a3 :: a4 :: a5 :: a6 :: a7 :: a8 :: a9 :: a10 :: a11 :: a12 :: some (.int x) :: L, st, u) = f (a0 :: a1 :: a2 :: a3 :: a4 :: a5 :: a6 :: a7 :: a8 :: a9 :: a10 :: a11 :: a12 :: some (.int x) :: L, .int x :: st, u) := (rfl)
theorem ev_ll13 {a0 : Option Value} {a1 : Option Value} {a2 : Option Value} {a3 : Option Value} {a4 : Option Value} {a5 : Option Value} {a6 : Option Value} {a7 : Option Value} {a8 : Option Value} {a9 : Option Value} {a10 : Option Value} {a11 : Option Value} {a12 : Option Value} {f : am_F} {L : List (Option Value)} {st : List Value} {u : am_St} {x : Int64} : am_th (i_ll 13) f (a0 :: a1 :: a2 :: a3 :: a4 :: a5 :: a6 :: a7 :: a8 :: a9 :: a10 :: a11 :: a12 :: some (.long x) :: L, st, u) = f (a0 :: a1 :: a2 :: a3 :: a4 :: a5 :: a6 :: a7 :: a8 :: a9 :: a10 :: a11 :: a12 :: some (.long x) :: L, .long x :: st, u) := (rfl)
theorem ev_al13 {a0 : Option Value} {a1 : Option Value} {a2 : Option Value} {a3 : Option Value} {a4 : Option Value} {a5 : Option Value} {a6 : Option Value} {a7 : Option Value} {a8 : Option Value} {a9 : Option Value} {a10 : Option Value} {a11 : Option Value} {a12 : Option Value} {f : am_F} {L : List (Option Value)} {st : List Value} {u : am_St} {x : Nat} : am_th (i_al 13) f (a0 :: a1 :: a2 :: a3 :: a4 :: a5 :: a6 :: a7 :: a8 :: a9 :: a10 :: a11 :: a12 :: some (.ref x) :: L, st, u) = f (a0 :: a1 :: a2 :: a3 :: a4 :: a5 :: a6 :: a7 :: a8 :: a9 :: a10 :: a11 :: a12 :: some (.ref x) :: L, .ref x :: st, u) := (rfl)
theorem ev_il14 {a0 : Option Value} {a1 : Option Value} {a2 : Option Value} {a3 : Option Value} {a4 : Option Value} {a5 : Option Value} {a6 : Option Value} {a7 : Option Value} {a8 : Option Value} {a9 : Option Value} {a10 : Option Value} {a11 : Option Value} {a12 : Option Value} {a13 : Option Value} {f : am_F} {L : List (Option Value)} {st : List Value} {u : am_St} {x : Int32} : am_th (i_il 14) f (a0 :: a1 :: a2 :: a3 :: a4 :: a5 :: a6 :: a7 :: a8 :: a9 :: a10 :: a11 :: a12 :: a13 :: some (.int x) :: L, st, u) = f (a0 :: a1 :: a2 :: a3 :: a4 :: a5 :: a6 :: a7 :: a8 :: a9 :: a10 :: a11 :: a12 :: a13 :: some (.int x) :: L, .int x :: st, u) := (rfl)
theorem ev_ll14 {a0 : Option Value} {a1 : Option Value} {a2 : Option Value} {a3 : Option Value} {a4 : Option Value} {a5 : Option Value} {a6 : Option Value} {a7 : Option Value} {a8 : Option Value} {a9 : Option Value} {a10 : Option Value} {a11 : Option Value} {a12 : Option Value} {a13 : Option Value} {f : am_F} {L : List (Option Value)} {st : List Value} {u : am_St} {x : Int64} : am_th (i_ll 14) f (a0 :: a1 :: a2 :: a3 :: a4 :: a5 :: a6 :: a7 :: a8 :: a9 :: a10 :: a11 :: a12 :: a13 :: some (.long x) :: L, st, u) = f (a0 :: a1 :: a2 :: a3 :: a4 :: a5 :: a6 :: a7 :: a8 :: a9 :: a10 :: a11 :: a12 :: a13 :: some (.long x) :: L, .long x :: st, u) := (rfl)
theorem ev_al14 {a0 : Option Value} {a1 : Option Value} {a2 : Option Value} {a3 : Option Value} {a4 : Option Value} {a5 : Option Value} {a6 : Option Value} {a7 : Option Value} {a8 : Option Value} {a9 : Option Value} {a10 : Option Value} {a11 : Option Value} {a12 : Option Value} {a13 : Option Value} {f : am_F} {L : List (Option Value)} {st : List Value} {u : am_St} {x : Nat} : am_th (i_al 14) f (a0 :: a1 :: a2 :: a3 :: a4 :: a5 :: a6 :: a7 :: a8 :: a9 :: a10 :: a11 :: a12 :: a13 :: some (.ref x) :: L, st, u) = f (a0 :: a1 :: a2 :: a3 :: a4 :: a5 :: a6 :: a7 :: a8 :: a9 :: a10 :: a11 :: a12 :: a13 :: some (.ref x) :: L, .ref x :: st, u) := (rfl)
theorem ev_il15 {a0 : Option Value} {a1 : Option Value} {a2 : Option Value} {a3 : Option Value} {a4 : Option Value} {a5 : Option Value} {a6 : Option Value} {a7 : Option Value} {a8 : Option Value} {a9 : Option Value} {a10 : Option Value} {a11 : Option Value} {a12 : Option Value} {a13 : Option Value} {a14 : Option Value} {f : am_F} {L : List (Option Value)} {st : List Value} {u : am_St} {x : Int32} : am_th (i_il 15) f (a0 :: a1 :: a2 :: a3 :: a4 :: a5 :: a6 :: a7 :: a8 :: a9 :: a10 :: a11 :: a12 :: a13 :: a14 :: some (.int x) :: L, st, u) = f (a0 :: a1 :: a2 :: a3 :: a4 :: a5 :: a6 :: a7 :: a8 :: a9 :: a10 :: a11 :: a12 :: a13 :: a14 :: some (.int x) :: L, .int x :: st, u) := (rfl)
theorem ev_ll15 {a0 : Option Value} {a1 : Option Value} {a2 : Option Value} {a3 : Option Value} {a4 : Option Value} {a5 : Option Value} {a6 : Option Value} {a7 : Option Value} {a8 : Option Value} {a9 : Option Value} {a10 : Option Value} {a11 : Option Value} {a12 : Option Value} {a13 : Option Value} {a14 : Option Value} {f : am_F} {L : List (Option Value)} {st : List Value} {u : am_St} {x : Int64} : am_th (i_ll 15) f (a0 :: a1 :: a2 :: a3 :: a4 :: a5 :: a6 :: a7 :: a8 :: a9 :: a10 :: a11 :: a12 :: a13 :: a14 :: some (.long x) :: L, st, u) = f (a0 :: a1 :: a2 :: a3 :: a4 :: a5 :: a6 :: a7 :: a8 :: a9 :: a10 :: a11 :: a12 :: a13 :: a14 :: some (.long x) :: L, .long x :: st, u) := (rfl)
theorem ev_al15 {a0 : Option Value} {a1 : Option Value} {a2 : Option Value} {a3 : Option Value} {a4 : Option Value} {a5 : Option Value} {a6 : Option Value} {a7 : Option Value} {a8 : Option Value} {a9 : Option Value} {a10 : Option Value} {a11 : Option Value} {a12 : Option Value} {a13 : Option Value} {a14 : Option Value} {f : am_F} {L : List (Option Value)} {st : List Value} {u : am_St} {x : Nat} : am_th (i_al 15) f (a0 :: a1 :: a2 :: a3 :: a4 :: a5 :: a6 :: a7 :: a8 :: a9 :: a10 :: a11 :: a12 :: a13 :: a14 :: some (.ref x) :: L, st, u) = f (a0 :: a1 :: a2 :: a3 :: a4 :: a5 :: a6 :: a7 :: a8 :: a9 :: a10 :: a11 :: a12 :: a13 :: a14 :: some (.ref x) :: L, .ref x :: st, u) := (rfl)
theorem ev_il16 {a0 : Option Value} {a1 : Option Value} {a2 : Option Value} {a3 : Option Value} {a4 : Option Value} {a5 : Option Value} {a6 : Option Value} {a7 : Option Value} {a8 : Option Value} {a9 : Option Value} {a10 : Option Value} {a11 : Option Value} {a12 : Option Value} {a13 : Option Value} {a14 : Option Value} {a15 : Option Value} {f : am_F} {L : List (Option Value)} {st : List Value} {u : am_St} {x : Int32} : am_th (i_il 16) f (a0 :: a1 :: a2 :: a3 :: a4 :: a5 :: a6 :: a7 :: a8 :: a9 :: a10 :: a11 :: a12 :: a13 :: a14 :: a15 :: some (.int x) :: L, st, u) = f (a0 :: a1 :: a2 :: a3 :: a4 :: a5 :: a6 :: a7 :: a8 :: a9 :: a10 :: a11 :: a12 :: a13 :: a14 :: a15 :: some (.int x) :: L, .int x :: st, u) := (rfl)
theorem ev_ll16 {a0 : Option Value} {a1 : Option Value} {a2 : Option Value} {a3 : Option Value} {a4 : Option Value} {a5 : Option Value} {a6 : Option Value} {a7 : Option Value} {a8 : Option Value} {a9 : Option Value} {a10 : Option Value} {a11 : Option Value} {a12 : Option Value} {a13 : Option Value} {a14 : Option Value} {a15 : Option Value} {f : am_F} {L : List (Option Value)} {st : List Value} {u : am_St} {x : Int64} : am_th (i_ll 16) f (a0 :: a1 :: a2 :: a3 :: a4 :: a5 :: a6 :: a7 :: a8 :: a9 :: a10 :: a11 :: a12 :: a13 :: a14 :: a15 :: some (.long x) :: L, st, u) = f (a0 :: a1 :: a2 :: a3 :: a4 :: a5 :: a6 :: a7 :: a8 :: a9 :: a10 :: a11 :: a12 :: a13 :: a14 :: a15 :: some (.long x) :: L, .long x :: st, u) := (rfl)
theorem ev_al16 {a0 : Option Value} {a1 : Option Value} {a2 : Option Value} {a3 : Option Value} {a4 : Option Value} {a5 : Option Value} {a6 : Option Value} {a7 : Option Value} {a8 : Option Value} {a9 : Option Value} {a10 : Option Value} {a11 : Option Value} {a12 : Option Value} {a13 : Option Value} {a14 : Option Value} {a15 : Option Value} {f : am_F} {L : List (Option Value)} {st : List Value} {u : am_St} {x : Nat} : am_th (i_al 16) f (a0 :: a1 :: a2 :: a3 :: a4 :: a5 :: a6 :: a7 :: a8 :: a9 :: a10 :: a11 :: a12 :: a13 :: a14 :: a15 :: some (.ref x) :: L, st, u) = f (a0 :: a1 :: a2 :: a3 :: a4 :: a5 :: a6 :: a7 :: a8 :: a9 :: a10 :: a11 :: a12 :: a13 :: a14 :: a15 :: some (.ref x) :: L, .ref x :: st, u) := (rfl)
theorem ev_il17 {a0 : Option Value} {a1 : Option Value} {a2 : Option Value} {a3 : Option Value} {a4 : Option Value} {a5 : Option Value} {a6 : Option Value} {a7 : Option Value} {a8 : Option Value} {a9 : Option Value} {a10 : Option Value} {a11 : Option Value} {a12 : Option Value} {a13 : Option Value} {a14 : Option Value} {a15 : Option Value} {a16 : Option Value} {f : am_F} {L : List (Option Value)} {st : List Value} {u : am_St} {x : Int32} : am_th (i_il 17) f (a0 :: a1 :: a2 :: a3 :: a4 :: a5 :: a6 :: a7 :: a8 :: a9 :: a10 :: a11 :: a12 :: a13 :: a14 :: a15 :: a16 :: some (.int x) :: L, st, u) = f (a0 :: a1 :: a2 :: a3 :: a4 :: a5 :: a6 :: a7 :: a8 :: a9 :: a10 :: a11 :: a12 :: a13 :: a14 :: a15 :: a16 :: some (.int x) :: L, .int x :: st, u) := (rfl)
theorem ev_ll17 {a0 : Option Value} {a1 : Option Value} {a2 : Option Value} {a3 : Option Value} {a4 : Option Value} {a5 : Option Value} {a6 : Option Value} {a7 : Option Value} {a8 : Option Value} {a9 : Option Value} {a10 : Option Value} {a11 : Option Value} {a12 : Option Value} {a13 : Option Value} {a14 : Option Value} {a15 : Option Value} {a16 : Option Value} {f : am_F} {L : List (Option Value)} {st : List Value} {u : am_St} {x : Int64} : am_th (i_ll 17) f (a0 :: a1 :: a2 :: a3 :: a4 :: a5 :: a6 :: a7 :: a8 :: a9 :: a10 :: a11 :: a12 :: a13 :: a14 :: a15 :: a16 :: some (.long x) :: L, st, u) = f (a0 :: a1 :: a2 :: a3 :: a4 :: a5 :: a6 :: a7 :: a8 :: a9 :: a10 :: a11 :: a12 :: a13 :: a14 :: a15 :: a16 :: some (.long x) :: L, .long x :: st, u) := (rfl)
theorem ev_al17 {a0 : Option Value} {a1 : Option Value} {a2 : Option Value} {a3 : Option Value} {a4 : Option Value} {a5 : Option Value} {a6 : Option Value} {a7 : Option Value} {a8 : Option Value} {a9 : Option Value} {a10 : Option Value} {a11 : Option Value} {a12 : Option Value} {a13 : Option Value} {a14 : Option Value} {a15 : Option Value} {a16 : Option Value} {f : am_F} {L : List (Option Value)} {st : List Value} {u : am_St} {x : Nat} : am_th (i_al 17) f (a0 :: a1 :: a2 :: a3 :: a4 :: a5 :: a6 :: a7 :: a8 :: a9 :: a10 :: a11 :: a12 :: a13 :: a14 :: a15 :: a16 :: some (.ref x) :: L, st, u) = f (a0 :: a1 :: a2 :: a3 :: a4 :: a5 :: a6 :: a7 :: a8 :: a9 :: a10 :: a11 :: a12 :: a13 :: a14 :: a15 :: a16 :: some (.ref x) :: L, .ref x :: st, u) := (rfl)
theorem ev_il18 {a0 : Option Value} {a1 : Option Value} {a2 : Option Value} {a3 : Option Value} {a4 : Option Value} {a5 : Option Value} {a6 : Option Value} {a7 : Option Value} {a8 : Option Value} {a9 : Option Value} {a10 : Option Value} {a11 : Option Value} {a12 : Option Value} {a13 : Option Value} {a14 : Option Value} {a15 : Option Value} {a16 : Option Value} {a17 : Option Value} {f : am_F} {L : List (Option Value)} {st : List Value} {u : am_St} {x : Int32} : am_th (i_il 18) f (a0 :: a1 :: a2 :: a3 :: a4 :: a5 :: a6 :: a7 :: a8 :: a9 :: a10 :: a11 :: a12 :: a13 :: a14 :: a15 :: a16 :: a17 :: some (.int x) :: L, st, u) = f (a0 :: a1 :: a2 :: a3 :: a4 :: a5 :: a6 :: a7 :: a8 :: a9 :: a10 :: a11 :: a12 :: a13 :: a14 :: a15 :: a16 :: a17 :: some (.int x) :: L, .int x :: st, u) := (rfl)
theorem ev_ll18 {a0 : Option Value} {a1 : Option Value} {a2 : Option Value} {a3 : Option Value} {a4 : Option Value} {a5 : Option Value} {a6 : Option Value} {a7 : Option Value} {a8 : Option Value} {a9 : Option Value} {a10 : Option Value} {a11 : Option Value} {a12 : Option Value} {a13 : Option Value} {a14 : Option Value} {a15 : Option Value} {a16 : Option Value} {a17 : Option Value} {f : am_F} {L : List (Option Value)} {st : List Value} {u : am_St} {x : Int64} : am_th (i_ll 18) f (a0 :: a1 :: a2 :: a3 :: a4 :: a5 :: a6 :: a7 :: a8 :: a9 :: a10 :: a11 :: a12 :: a13 :: a14 :: a15 :: a16 :: a17 :: some (.long x) :: L, st, u) = f (a0 :: a1 :: a2 :: a3 :: a4 :: a5 :: a6 :: a7 :: a8 :: a9 :: a10 :: a11 :: a12 :: a13 :: a14 :: a15 :: a16 :: a17 :: some (.long x) :: L, .long x :: st, u) := (rfl)
theorem ev_al18 {a0 : Option Value} {a1 : Option Value} {a2 : Option Value} {a3 : Option Value} {a4 : Option Value} {a5 : Option Value} {a6 : Option Value} {a7 : Option Value} {a8 : Option Value} {a9 : Option Value} {a10 : Option Value} {a11 : Option Value} {a12 : Option Value} {a13 : Option Value} {a14 : Option Value} {a15 : Option Value} {a16 : Option Value} {a17 : Option Value} {f : am_F} {L : List (Option Value)} {st : List Value} {u : am_St} {x : Nat} : am_th (i_al 18) f (a0 :: a1 :: a2 :: a3 :: a4 :: a5 :: a6 :: a7 :: a8 :: a9 :: a10 :: a11 :: a12 :: a13 :: a14 :: a15 :: a16 :: a17 :: some (.ref x) :: L, st, u) = f (a0 :: a1 :: a2 :: a3 :: a4 :: a5 :: a6 :: a7 :: a8 :: a9 :: a10 :: a11 :: a12 :: a13 :: a14 :: a15 :: a16 :: a17 :: some (.ref x) :: L, .ref x :: st, u) := (rfl)
theorem ev_il19 {a0 : Option Value} {a1 : Option Value} {a2 : Option Value} {a3 : Option Value} {a4 : Option Value} {a5 : Option Value} {a6 : Option Value} {a7 : Option Value} {a8 : Option Value} {a9 : Option Value} {a10 : Option Value} {a11 : Option Value} {a12 : Option Value} {a13 : Option Value} {a14 : Option Value} {a15 : Option Value} {a16 : Option Value} {a17 : Option Value} {a18 : Option Value} {f : am_F} {L : List (Option Value)} {st : List Value} {u : am_St} {x : Int32} : am_th (i_il 19) f (a0 :: a1 :: a2 :: a3 :: a4 :: a5 :: a6 :: a7 :: a8 :: a9 :: a10 :: a11 :: a12 :: a13 :: a14 :: a15 :: a16 :: a17 :: a18 :: some (.int x) :: L, st, u) = f (a0 :: a1 :: a2 :: a3 :: a4 :: a5 :: a6 :: a7 :: a8 :: a9 :: a10 :: a11 :: a12 :: a13 :: a14 :: a15 :: a16 :: a17 :: a18 :: some (.int x) :: L, .int x :: st, u) := (rfl)
theorem ev_ll19 {a0 : Option Value} {a1 : Option Value} {a2 : Option Value} {a3 : Option Value} {a4 : Option Value} {a5 : Option Value} {a6 : Option Value} {a7 : Option Value} {a8 : Option Value} {a9 : Option Value} {a10 : Option Value} {a11 : Option Value} {a12 : Option Value} {a13 : Option Value} {a14 : Option Value} {a15 : Option Value} {a16 : Option Value} {a17 : Option Value} {a18 : Option Value} {f : am_F} {L : List (Option Value)} {st : List Value} {u : am_St} {x : Int64} : am_th (i_ll 19) f (a0 :: a1 :: a2 :: a3 :: a4 :: a5 :: a6 :: a7 :: a8 :: a9 :: a10 :: a11 :: a12 :: a13 :: a14 :: a15 :: a16 :: a17 :: a18 :: some (.long x) :: L, st, u) = f (a0 :: a1 :: a2 :: a3 :: a4 :: a5 :: a6 :: a7 :: a8 :: a9 :: a10 :: a11 :: a12 :: a13 :: a14 :: a15 :: a16 :: a17 :: a18 :: some (.long x) :: L, .long x :: st, u) := (rfl)
theorem ev_al19 {a0 : Option Value} {a1 : Option Value} {a2 : Option Value} {a3 : Option Value} {a4 : Option Value} {a5 : Option Value} {a6 : Option Value} {a7 : Option Value} {a8 : Option Value} {a9 : Option Value} {a10 : Option Value} {a11 : Option Value} {a12 : Option Value} {a13 : Option Value} {a14 : Option Value} {a15 : Option Value} {a16 : Option Value} {a17 : Option Value} {a18 : Option Value} {f : am_F} {L : List (Option Value)} {st : List Value} {u : am_St} {x : Nat} : am_th (i_al 19) f (a0 :: a1 :: a2 :: a3 :: a4 :: a5 :: a6 :: a7 :: a8 :: a9 :: a10 :: a11 :: a12 :: a13 :: a14 :: a15 :: a16 :: a17 :: a18 :: some (.ref x) :: L, st, u) = f (a0 :: a1 :: a2 :: a3 :: a4 :: a5 :: a6 :: a7 :: a8 :: a9 :: a10 :: a11 :: a12 :: a13 :: a14 :: a15 :: a16 :: a17 :: a18 :: some (.ref x) :: L, .ref x :: st, u) := (rfl)
def am_k1 : Option Value → Option Value
  | some v => if v.category = 2 then none else some v
  | none => none
theorem am_k1_i {x : Int32} : am_k1 (some (.int x)) = some (.int x) := (rfl)
theorem am_k1_r {x : Nat} : am_k1 (some (.ref x)) = some (.ref x) := (rfl)
theorem am_k1_l {x : Int64} : am_k1 (some (.long x)) = none := (rfl)
theorem am_k1_n : am_k1 none = none := (rfl)
theorem am_kill_s (L : List (Option Value)) (a : Option Value) (r : List (Option Value)) : am_kill (L ++ a :: r) (L.length + 1) = L ++ am_k1 a :: r := by
  simp only [am_kill]
  rw [List.getElem?_append_right (Nat.le_refl _)]
  simp only [Nat.sub_self, List.getElem?_cons_zero]
  cases a with
  | none => rfl
  | some v =>
    simp only [am_k1]
    by_cases h : v.category = 2
    · rw [if_pos h, if_pos h, List.set_append_right _ _ (Nat.le_refl _)]
      simp
    · rw [if_neg h, if_neg h]
theorem ev_is0  {b : Option Value} {f : am_F} {L : List (Option Value)} {st : List Value} {u : am_St} {x : Int32} : am_th (i_is 0) f (b :: L, .int x :: st, u) = f (some (.int x) :: L, st, u) := (rfl)
theorem ev_as0  {b : Option Value} {f : am_F} {L : List (Option Value)} {st : List Value} {u : am_St} {x : Nat} : am_th (i_as 0) f (b :: L, .ref x :: st, u) = f (some (.ref x) :: L, st, u) := (rfl)
theorem ev_ls0  {b b2 : Option Value} {f : am_F} {L : List (Option Value)} {st : List Value} {u : am_St} {x : Int64} : am_th (i_ls 0) f (b :: b2 :: L, .long x :: st, u) = f (some (.long x) :: none :: L, st, u) := (rfl)
theorem ev_inc0  {f : am_F} {L : List (Option Value)} {st : List Value} {u : am_St} {x n : Int32} : am_th (i_inc 0 n) f (some (.int x) :: L, st, u) = f (some (.int (x + n)) :: L, st, u) := (rfl)
theorem ev_is1 {a0 : Option Value} {b : Option Value} {f : am_F} {L : List (Option Value)} {st : List Value} {u : am_St} {x : Int32} : am_th (i_is 1) f (a0 :: b :: L, .int x :: st, u) = f (am_k1 a0 :: some (.int x) :: L, st, u) := by
  show f (((am_kill (a0 :: b :: L) 1).set 1 (some (.int x))), st, u) = _
  have h := am_kill_s [] a0 (b :: L)
  have h : am_kill (a0 :: b :: L) 1 = _ := h
  rw [h]
  rfl
theorem ev_as1 {a0 : Option Value} {b : Option Value} {f : am_F} {L : List (Option Value)} {st : List Value} {u : am_St} {x : Nat} : am_th (i_as 1) f (a0 :: b :: L, .ref x :: st, u) = f (am_k1 a0 :: some (.ref x) :: L, st, u) := by
  show f (((am_kill (a0 :: b :: L) 1).set 1 (some (.ref x))), st, u) = _
  have h := am_kill_s [] a0 (b :: L)
  have h : am_kill (a0 :: b :: L) 1 = _ := h
  rw [h]
  rfl
theorem ev_ls1 {a0 : Option Value} {b b2 : Option Value} {f : am_F} {L : List (Option Value)} {st : List Value} {u : am_St} {x : Int64} : am_th (i_ls 1) f (a0 :: b :: b2 :: L, .long x :: st, u) = f (am_k1 a0 :: some (.long x) :: none :: L, st, u) := by
  show f ((((am_kill (a0 :: b :: b2 :: L) 1).set 1 (some (.long x))).set 2 none), st, u) = _
  have h := am_kill_s [] a0 (b :: b2 :: L)
  have h : am_kill (a0 :: b :: b2 :: L) 1 = _ := h
  rw [h]
  rfl
theorem ev_inc1 {a0 : Option Value} {f : am_F} {L : List (Option Value)} {st : List Value} {u : am_St} {x n : Int32} : am_th (i_inc 1 n) f (a0 :: some (.int x) :: L, st, u) = f (am_k1 a0 :: some (.int (x + n)) :: L, st, u) := by
  show f ((am_kill (a0 :: some (.int x) :: L) 1).set 1 (some (.int (x + n))), st, u) = _
  have h := am_kill_s [] a0 (some (.int x) :: L)
  have h : am_kill (a0 :: some (.int x) :: L) 1 = _ := h
  rw [h]
  rfl
theorem ev_is2 {a0 : Option Value} {a1 : Option Value} {b : Option Value} {f : am_F} {L : List (Option Value)} {st : List Value} {u : am_St} {x : Int32} : am_th (i_is 2) f (a0 :: a1 :: b :: L, .int x :: st, u) = f (a0 :: am_k1 a1 :: some (.int x) :: L, st, u) := by
  show f (((am_kill (a0 :: a1 :: b :: L) 2).set 2 (some (.int x))), st, u) = _
  have h := am_kill_s [a0] a1 (b :: L)
  have h : am_kill (a0 :: a1 :: b :: L) 2 = _ := h
  rw [h]
  rfl
theorem ev_as2 {a0 : Option Value} {a1 : Option Value} {b : Option Value} {f : am_F} {L : List (Option Value)} {st : List Value} {u : am_St} {x : Nat} : am_th (i_as 2) f (a0 :: a1 :: b :: L, .ref x :: st, u) = f (a0 :: am_k1 a1 :: some (.ref x) :: L, st, u) := by
  show f (((am_kill (a0 :: a1 :: b :: L) 2).set 2 (some (.ref x))), st, u) = _
  have h := am_kill_s [a0] a1 (b :: L)
  have h : am_kill (a0 :: a1 :: b :: L) 2 = _ := h
  rw [h]
  rfl
theorem ev_ls2 {a0 : Option Value} {a1 : Option Value} {b b2 : Option Value} {f : am_F} {L : List (Option Value)} {st : List Value} {u : am_St} {x : Int64} : am_th (i_ls 2) f (a0 :: a1 :: b :: b2 :: L, .long x :: st, u) = f (a0 :: am_k1 a1 :: some (.long x) :: none :: L, st, u) := by
  show f ((((am_kill (a0 :: a1 :: b :: b2 :: L) 2).set 2 (some (.long x))).set 3 none), st, u) = _
  have h := am_kill_s [a0] a1 (b :: b2 :: L)
  have h : am_kill (a0 :: a1 :: b :: b2 :: L) 2 = _ := h
  rw [h]
  rfl
theorem ev_inc2 {a0 : Option Value} {a1 : Option Value} {f : am_F} {L : List (Option Value)} {st : List Value} {u : am_St} {x n : Int32} : am_th (i_inc 2 n) f (a0 :: a1 :: some (.int x) :: L, st, u) = f (a0 :: am_k1 a1 :: some (.int (x + n)) :: L, st, u) := by
  show f ((am_kill (a0 :: a1 :: some (.int x) :: L) 2).set 2 (some (.int (x + n))), st, u) = _
  have h := am_kill_s [a0] a1 (some (.int x) :: L)
  have h : am_kill (a0 :: a1 :: some (.int x) :: L) 2 = _ := h
  rw [h]
  rfl
theorem ev_is3 {a0 : Option Value} {a1 : Option Value} {a2 : Option Value} {b : Option Value} {f : am_F} {L : List (Option Value)} {st : List Value} {u : am_St} {x : Int32} : am_th (i_is 3) f (a0 :: a1 :: a2 :: b :: L, .int x :: st, u) = f (a0 :: a1 :: am_k1 a2 :: some (.int x) :: L, st, u) := by
  show f (((am_kill (a0 :: a1 :: a2 :: b :: L) 3).set 3 (some (.int x))), st, u) = _
  have h := am_kill_s [a0, a1] a2 (b :: L)
  have h : am_kill (a0 :: a1 :: a2 :: b :: L) 3 = _ := h
  rw [h]
  rfl
theorem ev_as3 {a0 : Option Value} {a1 : Option Value} {a2 : Option Value} {b : Option Value} {f : am_F} {L : List (Option Value)} {st : List Value} {u : am_St} {x : Nat} : am_th (i_as 3) f (a0 :: a1 :: a2 :: b :: L, .ref x :: st, u) = f (a0 :: a1 :: am_k1 a2 :: some (.ref x) :: L, st, u) := by
  show f (((am_kill (a0 :: a1 :: a2 :: b :: L) 3).set 3 (some (.ref x))), st, u) = _
  have h := am_kill_s [a0, a1] a2 (b :: L)
  have h : am_kill (a0 :: a1 :: a2 :: b :: L) 3 = _ := h
  rw [h]
  rfl
theorem ev_ls3 {a0 : Option Value} {a1 : Option Value} {a2 : Option Value} {b b2 : Option Value} {f : am_F} {L : List (Option Value)} {st : List Value} {u : am_St} {x : Int64} : am_th (i_ls 3) f (a0 :: a1 :: a2 :: b :: b2 :: L, .long x :: st, u) = f (a0 :: a1 :: am_k1 a2 :: some (.long x) :: none :: L, st, u) := by
  show f ((((am_kill (a0 :: a1 :: a2 :: b :: b2 :: L) 3).set 3 (some (.long x))).set 4 none), st, u) = _
  have h := am_kill_s [a0, a1] a2 (b :: b2 :: L)
  have h : am_kill (a0 :: a1 :: a2 :: b :: b2 :: L) 3 = _ := h
  rw [h]
  rfl
theorem ev_inc3 {a0 : Option Value} {a1 : Option Value} {a2 : Option Value} {f : am_F} {L : List (Option Value)} {st : List Value} {u : am_St} {x n : Int32} : am_th (i_inc 3 n) f (a0 :: a1 :: a2 :: some (.int x) :: L, st, u) = f (a0 :: a1 :: am_k1 a2 :: some (.int (x + n)) :: L, st, u) := by
  show f ((am_kill (a0 :: a1 :: a2 :: some (.int x) :: L) 3).set 3 (some (.int (x + n))), st, u) = _
  have h := am_kill_s [a0, a1] a2 (some (.int x) :: L)
  have h : am_kill (a0 :: a1 :: a2 :: some (.int x) :: L) 3 = _ := h
  rw [h]
  rfl
theorem ev_is4 {a0 : Option Value} {a1 : Option Value} {a2 : Option Value} {a3 : Option Value} {b : Option Value} {f : am_F} {L : List (Option Value)} {st : List Value} {u : am_St} {x : Int32} : am_th (i_is 4) f (a0 :: a1 :: a2 :: a3 :: b :: L, .int x :: st, u) = f (a0 :: a1 :: a2 :: am_k1 a3 :: some (.int x) :: L, st, u) := by
  show f (((am_kill (a0 :: a1 :: a2 :: a3 :: b :: L) 4).set 4 (some (.int x))), st, u) = _
  have h := am_kill_s [a0, a1, a2] a3 (b :: L)
  have h : am_kill (a0 :: a1 :: a2 :: a3 :: b :: L) 4 = _ := h
  rw [h]
  rfl
theorem ev_as4 {a0 : Option Value} {a1 : Option Value} {a2 : Option Value} {a3 : Option Value} {b : Option Value} {f : am_F} {L : List (Option Value)} {st : List Value} {u : am_St} {x : Nat} : am_th (i_as 4) f (a0 :: a1 :: a2 :: a3 :: b :: L, .ref x :: st, u) = f (a0 :: a1 :: a2 :: am_k1 a3 :: some (.ref x) :: L, st, u) := by
  show f (((am_kill (a0 :: a1 :: a2 :: a3 :: b :: L) 4).set 4 (some (.ref x))), st, u) = _
  have h := am_kill_s [a0, a1, a2] a3 (b :: L)
  have h : am_kill (a0 :: a1 :: a2 :: a3 :: b :: L) 4 = _ := h
  rw [h]
  rfl
theorem ev_ls4 {a0 : Option Value} {a1 : Option Value} {a2 : Option Value} {a3 : Option Value} {b b2 : Option Value} {f : am_F} {L : List (Option Value)} {st : List Value} {u : am_St} {x : Int64} : am_th (i_ls 4) f (a0 :: a1 :: a2 :: a3 :: b :: b2 :: L, .long x :: st, u) = f (a0 :: a1 :: a2 :: am_k1 a3 :: some (.long x) :: none :: L, st, u) := by
  show f ((((am_kill (a0 :: a1 :: a2 :: a3 :: b :: b2 :: L) 4).set 4 (some (.long x))).set 5 none), st, u) = _
  have h := am_kill_s [a0, a1, a2] a3 (b :: b2 :: L)
  have h : am_kill (a0 :: a1 :: a2 :: a3 :: b :: b2 :: L) 4 = _ := h
  rw [h]
  rfl
theorem ev_inc4 {a0 : Option Value} {a1 : Option Value} {a2 : Option Value} {a3 : Option Value} {f : am_F} {L : List (Option Value)} {st : List Value} {u : am_St} {x n : Int32} : am_th (i_inc 4 n) f (a0 :: a1 :: a2 :: a3 :: some (.int x) :: L, st, u) = f (a0 :: a1 :: a2 :: am_k1 a3 :: some (.int (x + n)) :: L, st, u) := by
  show f ((am_kill (a0 :: a1 :: a2 :: a3 :: some (.int x) :: L) 4).set 4 (some (.int (x + n))), st, u) = _
  have h := am_kill_s [a0, a1, a2] a3 (some (.int x) :: L)
  have h : am_kill (a0 :: a1 :: a2 :: a3 :: some (.int x) :: L) 4 = _ := h
  rw [h]
  rfl
theorem ev_is5 {a0 : Option Value} {a1 : Option Value} {a2 : Option Value} {a3 : Option Value} {a4 : Option Value} {b : Option Value} {f : am_F} {L : List (Option Value)} {st : List Value} {u : am_St} {x : Int32} : am_th (i_is 5) f (a0 :: a1 :: a2 :: a3 :: a4 :: b :: L, .int x :: st, u) = f (a0 :: a1 :: a2 :: a3 :: am_k1 a4 :: some (.int x) :: L, st, u) := by
  show f (((am_kill (a0 :: a1 :: a2 :: a3 :: a4 :: b :: L) 5).set 5 (some (.int x))), st, u) = _
  have h := am_kill_s [a0, a1, a2, a3] a4 (b :: L)
  have h : am_kill (a0 :: a1 :: a2 :: a3 :: a4 :: b :: L) 5 = _ := h
  rw [h]
  rfl
theorem ev_as5 {a0 : Option Value} {a1 : Option Value} {a2 : Option Value} {a3 : Option Value} {a4 : Option Value} {b : Option Value} {f : am_F} {L : List (Option Value)} {st : List Value} {u : am_St} {x : Nat} : am_th (i_as 5) f (a0 :: a1 :: a2 :: a3 :: a4 :: b :: L, .ref x :: st, u) = f (a0 :: a1 :: a2 :: a3 :: am_k1 a4 :: some (.ref x) :: L, st, u) := by
  show f (((am_kill (a0 :: a1 :: a2 :: a3 :: a4 :: b :: L) 5).set 5 (some (.ref x))), st, u) = _
  have h := am_kill_s [a0, a1, a2, a3] a4 (b :: L)
  have h : am_kill (a0 :: a1 :: a2 :: a3 :: a4 :: b :: L) 5 = _ := h
  rw [h]
  rfl
theorem ev_ls5 {a0 : Option Value} {a1 : Option Value} {a2 : Option Value} {a3 : Option Value} {a4 : Option Value} {b b2 : Option Value} {f : am_F} {L : List (Option Value)} {st : List Value} {u : am_St} {x : Int64} : am_th (i_ls 5) f (a0 :: a1 :: a2 :: a3 :: a4 :: b :: b2 :: L, .long x :: st, u) = f (a0 :: a1 :: a2 :: a3 :: am_k1 a4 :: some (.long x) :: none :: L, st, u) := by
  show f ((((am_kill (a0 :: a1 :: a2 :: a3 :: a4 :: b :: b2 :: L) 5).set 5 (some (.long x))).set 6 none), st, u) = _
  have h := am_kill_s [a0, a1, a2, a3] a4 (b :: b2 :: L)
  have h : am_kill (a0 :: a1 :: a2 :: a3 :: a4 :: b :: b2 :: L) 5 = _ := h
  rw [h]
  rfl
theorem ev_inc5 {a0 : Option Value} {a1 : Option Value} {a2 : Option Value} {a3 : Option Value} {a4 : Option Value} {f : am_F} {L : List (Option Value)} {st : List Value} {u : am_St} {x n : Int32} : am_th (i_inc 5 n) f (a0 :: a1 :: a2 :: a3 :: a4 :: some (.int x) :: L, st, u) = f (a0 :: a1 :: a2 :: a3 :: am_k1 a4 :: some (.int (x + n)) :: L, st, u) := by
  show f ((am_kill (a0 :: a1 :: a2 :: a3 :: a4 :: some (.int x) :: L) 5).set 5 (some (.int (x + n))), st, u) = _
  have h := am_kill_s [a0, a1, a2, a3] a4 (some (.int x) :: L)
  have h : am_kill (a0 :: a1 :: a2 :: a3 :: a4 :: some (.int x) :: L) 5 = _ := h
  rw [h]
  rfl
theorem ev_is6 {a0 : Option Value} {a1 : Option Value} {a2 : Option Value} {a3 : Option Value} {a4 : Option Value} {a5 : Option Value} {b : Option Value} {f : am_F} {L : List (Option Value)} {st : List Value} {u : am_St} {x : Int32} : am_th (i_is 6) f (a0 :: a1 :: a2 :: a3 :: a4 :: a5 :: b :: L, .int x :: st, u) = f (a0 :: a1 :: a2 :: a3 :: a4 :: am_k1 a5 :: some (.int x) :: L, st, u) := by
  show f (((am_kill (a0 :: a1 :: a2 :: a3 :: a4 :: a5 :: b :: L) 6).set 6 (some (.int x))), st, u) = _
  have h := am_kill_s [a0, a1, a2, a3, a4] a5 (b :: L)
  have h : am_kill (a0 :: a1 :: a2 :: a3 :: a4 :: a5 :: b :: L) 6 = _ := h
  rw [h]
  rfl
theorem ev_as6 {a0 : Option Value} {a1 : Option Value} {a2 : Option Value} {a3 : Option Value} {a4 : Option Value} {a5 : Option Value} {b : Option Value} {f : am_F} {L : List (Option Value)} {st : List Value} {u : am_St} {x : Nat} : am_th (i_as 6) f (a0 :: a1 :: a2 :: a3 :: a4 :: a5 :: b :: L, .ref x :: st, u) = f (a0 :: a1 :: a2 :: a3 :: a4 :: am_k1 a5 :: some (.ref x) :: L, st, u) := by
  show f (((am_kill (a0 :: a1 :: a2 :: a3 :: a4 :: a5 :: b :: L) 6).set 6 (some (.ref x))), st, u) = _
  have h := am_kill_s [a0, a1, a2, a3, a4] a5 (b :: L)
  have h : am_kill (a0 :: a1 :: a2 :: a3 :: a4 :: a5 :: b :: L) 6 = _ := h
  rw [h]
  rfl
theorem ev_ls6 {a0 : Option Value} {a1 : Option Value} {a2 : Option Value} {a3 : Option Value} {a4 : Option Value} {a5 : Option Value} {b b2 : Option Value} {f : am_F} {L : List (Option Value)} {st : List Value} {u : am_St} {x : Int64} : am_th (i_ls 6) f (a0 :: a1 :: a2 :: a3 :: a4 :: a5 :: b :: b2 :: L, .long x :: st, u) = f (a0 :: a1 :: a2 :: a3 :: a4 :: am_k1 a5 :: some (.long x) :: none :: L, st, u) := by
  show f ((((am_kill (a0 :: a1 :: a2 :: a3 :: a4 :: a5 :: b :: b2 :: L) 6).set 6 (some (.long x))).set 7 none), st, u) = _
  have h := am_kill_s [a0, a1, a2, a3, a4] a5 (b :: b2 :: L)
  have h : am_kill (a0 :: a1 :: a2 :: a3 :: a4 :: a5 :: b :: b2 :: L) 6 = _ := h
  rw [h]
  rfl
theorem ev_inc6 {a0 : Option Value} {a1 : Option Value} {a2 : Option Value} {a3 : Option Value} {a4 : Option Value} {a5 : Option Value} {f : am_F} {L : List (Option Value)} {st : List Value} {u : am_St} {x n : Int32} : am_th (i_inc 6 n) f (a0 :: a1 :: a2 :: a3 :: a4 :: a5 :: some (.int x) :: L, st, u) = f (a0 :: a1 :: a2 :: a3 :: a4 :: am_k1 a5 :: some (.int (x + n)) :: L, st, u) := by
  show f ((am_kill (a0 :: a1 :: a2 :: a3 :: a4 :: a5 :: some (.int x) :: L) 6).set 6 (some (.int (x + n))), st, u) = _
  have h := am_kill_s [a0, a1, a2, a3, a4] a5 (some (.int x) :: L)
  have h : am_kill (a0 :: a1 :: a2 :: a3 :: a4 :: a5 :: some (.int x) :: L) 6 = _ := h
  rw [h]
  rfl
theorem ev_is7 {a0 : Option Value} {a1 : Option Value} {a2 : Option Value} {a3 : Option Value} {a4 : Option Value} {a5 : Option Value} {a6 : Option Value} {b : Option Value} {f : am_F} {L : List (Option Value)} {st : List Value} {u : am_St} {x : Int32} : am_th (i_is 7) f (a0 :: a1 :: a2 :: a3 :: a4 :: a5 :: a6 :: b :: L, .int x :: st, u) = f (a0 :: a1 :: a2 :: a3 :: a4 :: a5 :: am_k1 a6 :: some (.int x) :: L, st, u) := by
  show f (((am_kill (a0 :: a1 :: a2 :: a3 :: a4 :: a5 :: a6 :: b :: L) 7).set 7 (some (.int x))), st, u) = _
  have h := am_kill_s [a0, a1, a2, a3, a4, a5] a6 (b :: L)
  have h : am_kill (a0 :: a1 :: a2 :: a3 :: a4 :: a5 :: a6 :: b :: L) 7 = _ := h
  rw [h]
  rfl
theorem ev_as7 {a0 : Option Value} {a1 : Option Value} {a2 : Option Value} {a3 : Option Value} {a4 : Option Value} {a5 : Option Value} {a6 : Option Value} {b : Option Value} {f : am_F} {L : List (Option Value)} {st : List Value} {u : am_St} {x : Nat} : am_th (i_as 7) f (a0 :: a1 :: a2 :: a3 :: a4 :: a5 :: a6 :: b :: L, .ref x :: st, u) = f (a0 :: a1 :: a2 :: a3 :: a4 :: a5 :: am_k1 a6 :: some (.ref x) :: L, st, u) := by
  show f (((am_kill (a0 :: a1 :: a2 :: a3 :: a4 :: a5 :: a6 :: b :: L) 7).set 7 (some (.ref x))), st, u) = _
  have h := am_kill_s [a0, a1, a2, a3, a4, a5] a6 (b :: L)
  have h : am_kill (a0 :: a1 :: a2 :: a3 :: a4 :: a5 :: a6 :: b :: L) 7 = _ := h
  rw [h]
  rfl
theorem ev_ls7 {a0 : Option Value} {a1 : Option Value} {a2 : Option Value} {a3 : Option Value} {a4 : Option Value} {a5 : Option Value} {a6 : Option Value} {b b2 : Option Value} {f : am_F} {L : List (Option Value)} {st : List Value} {u : am_St} {x : Int64} : am_th (i_ls 7) f (a0 :: a1 :: a2 :: a3 :: a4 :: a5 :: a6 :: b :: b2 :: L, .long x :: st, u) = f (a0 :: a1 :: a2 :: a3 :: a4 :: a5 :: am_k1 a6 :: some (.long x) :: none :: L, st, u) := by
  show f ((((am_kill (a0 :: a1 :: a2 :: a3 :: a4 :: a5 :: a6 :: b :: b2 :: L) 7).set 7 (some (.long x))).set 8 none), st, u) = _
  have h := am_kill_s [a0, a1, a2, a3, a4, a5] a6 (b :: b2 :: L)
  have h : am_kill (a0 :: a1 :: a2 :: a3 :: a4 :: a5 :: a6 :: b :: b2 :: L) 7 = _ := h
  rw [h]
  rfl
theorem ev_inc7 {a0 : Option Value} {a1 : Option Value} {a2 : Option Value} {a3 : Option Value} {a4 : Option Value} {a5 : Option Value} {a6 : Option Value} {f : am_F} {L : List (Option Value)} {st : List Value} {u : am_St} {x n : Int32} : am_th (i_inc 7 n) f (a0 :: a1 :: a2 :: a3 :: a4 :: a5 :: a6 :: some (.int x) :: L, st, u) = f (a0 :: a1 :: a2 :: a3 :: a4 :: a5 :: am_k1 a6 :: some (.int (x + n)) :: L, st, u) := by
  show f ((am_kill (a0 :: a1 :: a2 :: a3 :: a4 :: a5 :: a6 :: some (.int x) :: L) 7).set 7 (some (.int (x + n))), st, u) = _
  have h := am_kill_s [a0, a1, a2, a3, a4, a5] a6 (some (.int x) :: L)
  have h : am_kill (a0 :: a1 :: a2 :: a3 :: a4 :: a5 :: a6 :: some (.int x) :: L) 7 = _ := h
  rw [h]
  rfl
theorem ev_is8 {a0 : Option Value} {a1 : Option Value} {a2 : Option Value} {a3 : Option Value} {a4 : Option Value} {a5 : Option Value} {a6 : Option Value} {a7 : Option Value} {b : Option Value} {f : am_F} {L : List (Option Value)} {st : List Value} {u : am_St} {x : Int32} : am_th (i_is 8) f (a0 :: a1 :: a2 :: a3 :: a4 :: a5 :: a6 :: a7 :: b :: L, .int x :: st, u) = f (a0 :: a1 :: a2 :: a3 :: a4 :: a5 :: a6 :: am_k1 a7 :: some (.int x) :: L, st, u) := by
  show f (((am_kill (a0 :: a1 :: a2 :: a3 :: a4 :: a5 :: a6 :: a7 :: b :: L) 8).set 8 (some (.int x))), st, u) = _
  have h := am_kill_s [a0, a1, a2, a3, a4, a5, a6] a7 (b :: L)
  have h : am_kill (a0 :: a1 :: a2 :: a3 :: a4 :: a5 :: a6 :: a7 :: b :: L) 8 = _ := h
  rw [h]
  rfl
theorem ev_as8 {a0 : Option Value} {a1 : Option Value} {a2 : Option Value} {a3 : Option Value} {a4 : Option Value} {a5 : Option Value} {a6 : Option Value} {a7 : Option Value} {b : Option Value} {f : am_F} {L : List (Option Value)} {st : List Value} {u : am_St} {x : Nat} : am_th (i_as 8) f (a0 :: a1 :: a2 :: a3 :: a4 :: a5 :: a6 :: a7 :: b :: L, .ref x :: st, u) = f (a0 :: a1 :: a2 :: a3 :: a4 :: a5 :: a6 :: am_k1 a7 :: some (.ref x) :: L, st, u) := by
  show f (((am_kill (a0 :: a1 :: a2 :: a3 :: a4 :: a5 :: a6 :: a7 :: b :: L) 8).set 8 (some (.ref x))), st, u) = _
  have h := am_kill_s [a0, a1, a2, a3, a4, a5, a6] a7 (b :: L)
  have h : am_kill (a0 :: a1 :: a2 :: a3 :: a4 :: a5 :: a6 :: a7 :: b :: L) 8 = _ := h
  rw [h]
  rfl
theorem ev_ls8 {a0 : Option Value} {a1 : Option Value} {a2 : Option Value} {a3 : Option Value} {a4 : Option Value} {a5 : Option Value} {a6 : Option Value} {a7 : Option Value} {b b2 : Option Value} {f : am_F} {L : List (Option Value)} {st : List Value} {u : am_St} {x : Int64} : am_th (i_ls 8) f (a0 :: a1 :: a2 :: a3 :: a4 :: a5 :: a6 :: a7 :: b :: b2 :: L, .long x :: st, u) = f (a0 :: a1 :: a2 :: a3 :: a4 :: a5 :: a6 :: am_k1 a7 :: some (.long x) :: none :: L, st, u) := by
  show f ((((am_kill (a0 :: a1 :: a2 :: a3 :: a4 :: a5 :: a6 :: a7 :: b :: b2 :: L) 8).set 8 (some (.long x))).set 9 none), st, u) = _
  have h := am_kill_s [a0, a1, a2, a3, a4, a5, a6] a7 (b :: b2 :: L)
  have h : am_kill (a0 :: a1 :: a2 :: a3 :: a4 :: a5 :: a6 :: a7 :: b :: b2 :: L) 8 = _ := h
  rw [h]
  rfl
theorem ev_inc8 {a0 : Option Value} {a1 : Option Value} {a2 : Option Value} {a3 : Option Value} {a4 : Option Value} {a5 : Option Value} {a6 : Option Value} {a7 : Option Value} {f : am_F} {L : List (Option Value)} {st : List Value} {u : am_St} {x n : Int32} : am_th (i_inc 8 n) f (a0 :: a1 :: a2 :: a3 :: a4 :: a5 :: a6 :: a7 :: some (.int x) :: L, st, u) = f (a0 :: a1 :: a2 :: a3 :: a4 :: a5 :: a6 :: am_k1 a7 :: some (.int (x + n)) :: L, st, u) := by
  show f ((am_kill (a0 :: a1 :: a2 :: a3 :: a4 :: a5 :: a6 :: a7 :: some (.int x) :: L) 8).set 8 (some (.int (x + n))), st, u) = _
  have h := am_kill_s [a0, a1, a2, a3, a4, a5, a6] a7 (some (.int x) :: L)
  have h : am_kill (a0 :: a1 :: a2 :: a3 :: a4 :: a5 :: a6 :: a7 :: some (.int x) :: L) 8 = _ := h
  rw [h]
  rfl
theorem ev_is9 {a0 : Option Value} {a1 : Option Value} {a2 : Option Value} {a3 : Option Value} {a4 : Option Value} {a5 : Option Value} {a6 : Option Value} {a7 : Option Value} {a8 : Option Value} {b : Option Value} {f : am_F} {L : List (Option Value)} {st : List Value} {u : am_St} {x : Int32} : am_th (i_is 9) f (a0 :: a1 :: a2 :: a3 :: a4 :: a5 :: a6 :: a7 :: a8 :: b :: L, .int x :: st, u) = f (a0 :: a1 :: a2 :: a3 :: a4 :: a5 :: a6 :: a7 :: am_k1 a8 :: some (.int x) :: L, st, u) := by
  show f (((am_kill (a0 :: a1 :: a2 :: a3 :: a4 :: a5 :: a6 :: a7 :: a8 :: b :: L) 9).set 9 (some (.int x))), st, u) = _
  have h := am_kill_s [a0, a1, a2, a3, a4, a5, a6, a7] a8 (b :: L)
  have h : am_kill (a0 :: a1 :: a2 :: a3 :: a4 :: a5 :: a6 :: a7 :: a8 :: b :: L) 9 = _ := h
  rw [h]
  rfl
theorem ev_as9 {a0 : Option Value} {a1 : Option Value} {a2 : Option Value} {a3 : Option Value} {a4 : Option Value} {a5 : Option Value} {a6 : Option Value} {a7 : Option Value} {a8 : Option Value} {b : Option Value} {f : am_F} {L : List (Option Value)} {st : List Value} {u : am_St} {x : Nat} : am_th (i_as 9) f (a0 :: a1 :: a2 :: a3 :: a4 :: a5 :: a6 :: a7 :: a8 :: b :: L, .ref x :: st, u) = f (a0 :: a1 :: a2 :: a3 :: a4 :: a5 :: a6 :: a7 :: am_k1 a8 :: some (.ref x) :: L, st, u) := by
  show f (((am_kill (a0 :: a1 :: a2 :: a3 :: a4 :: a5 :: a6 :: a7 :: a8 :: b :: L) 9).set 9 (some (.ref x))), st, u) = _
  have h := am_kill_s [a0, a1, a2, a3, a4, a5, a6, a7] a8 (b :: L)
  have h : am_kill (a0 :: a1 :: a2 :: a3 :: a4 :: a5 :: a6 :: a7 :: a8 :: b :: L) 9 = _ := h
  rw [h]
  rfl
theorem ev_ls9 {a0 : Option Value} {a1 : Option Value} {a2 : Option Value} {a3 : Option Value} {a4 : Option Value} {a5 : Option Value} {a6 : Option Value} {a7 : Option Value} {a8 : Option Value} {b b2 : Option Value} {f : am_F} {L : List (Option Value)} {st : List Value} {u : am_St} {x : Int64} : am_th (i_ls 9) f (a0 :: a1 :: a2 :: a3 :: a4 :: a5 :: a6 :: a7 :: a8 :: b :: b2 :: L, .long x :: st, u) = f (a0 :: a1 :: a2 :: a3 :: a4 :: a5 :: a6 :: a7 :: am_k1 a8 :: some (.long x) :: none :: L, st, u) := by
  show f ((((am_kill (a0 :: a1 :: a2 :: a3 :: a4 :: a5 :: a6 :: a7 :: a8 :: b :: b2 :: L) 9).set 9 (some (.long x))).set 10 none), st, u) = _
  have h := am_kill_s [a0, a1, a2, a3, a4, a5, a6, a7] a8 (b :: b2 :: L)
  have h : am_kill (a0 :: a1 :: a2 :: a3 :: a4 :: a5 :: a6 :: a7 :: a8 :: b :: b2 :: L) 9 = _ := h
  rw [h]
  rfl
theorem ev_inc9 {a0 : Option Value} {a1 : Option Value} {a2 : Option Value} {a3 : Option Value} {a4 : Option Value} {a5 : Option Value} {a6 : Option Value} {a7 : Option Value} {a8 : Option Value} {f : am_F} {L : List (Option Value)} {st : List Value} {u : am_St} {x n : Int32} : am_th (i_inc 9 n) f (a0 :: a1 :: a2 :: a3 :: a4 :: a5 :: a6 :: a7 :: a8 :: some (.int x) :: L, st, u) = f (a0 :: a1 :: a2 :: a3 :: a4 :: a5 :: a6 :: a7 :: am_k1 a8 :: some (.int (x + n)) :: L, st, u) := by
  show f ((am_kill (a0 :: a1 :: a2 :: a3 :: a4 :: a5 :: a6 :: a7 :: a8 :: some (.int x) :: L) 9).set 9 (some (.int (x + n))), st, u) = _
  have h := am_kill_s [a0, a1, a2, a3, a4, a5, a6, a7] a8 (some (.int x) :: L)
  have h : am_kill (a0 :: a1 :: a2 :: a3 :: a4 :: a5 :: a6 :: a7 :: a8 :: some (.int x) :: L) 9 = _ := h
  rw [h]
  rfl
theorem ev_is10 {a0 : Option Value} {a1 : Option Value} {a2 : Option Value} {a3 : Option Value} {a4 : Option Value} {a5 : Option Value} {a6 : Option Value} {a7 : Option Value} {a8 : Option Value} {a9 : Option Value} {b : Option Value} {f : am_F} {L : List (Option Value)} {st : List Value} {u : am_St} {x : Int32} : am_th (i_is 10) f (a0 :: a1 :: a2 :: a3 :: a4 :: a5 :: a6 :: a7 :: a8 :: a9 :: b :: L, .int x :: st, u) = f (a0 :: a1 :: a2 :: a3 :: a4 :: a5 :: a6 :: a7 :: a8 :: am_k1 a9 :: some (.int x) :: L, st, u) := by
  show f (((am_kill (a0 :: a1 :: a2 :: a3 :: a4 :: a5 :: a6 :: a7 :: a8 :: a9 :: b :: L) 10).set 10 (some (.int x))), st, u) = _
  have h := am_kill_s [a0, a1, a2, a3, a4, a5, a6, a7, a8] a9 (b :: L)
  have h : am_kill (a0 :: a1 :: a2 :: a3 :: a4 :: a5 :: a6 :: a7 :: a8 :: a9 :: b :: L) 10 = _ := h
  rw [h]
  rfl
theorem ev_as10 {a0 : Option Value} {a1 : Option Value} {a2 : Option Value} {a3 : Option Value} {a4 : Option Value} {a5 : Option Value} {a6 : Option Value} {a7 : Option Value} {a8 : Option Value} {a9 : Option Value} {b : Option Value} {f : am_F} {L : List (Option Value)} {st : List Value} {u : am_St} {x : Nat} : am_th (i_as 10) f (a0 :: a1 :: a2 :: a3 :: a4 :: a5 :: a6 :: a7 :: a8 :: a9 :: b :: L, .ref x :: st, u) = f (a0 :: a1 :: a2 :: a3 :: a4 :: a5 :: a6 :: a7 :: a8 :: am_k1 a9 :: some (.ref x) :: L, st, u) := by
  show f (((am_kill (a0 :: a1 :: a2 :: a3 :: a4 :: a5 :: a6 :: a7 :: a8 :: a9 :: b :: L) 10).set 10 (some (.ref x))), st, u) = _
  have h := am_kill_s [a0, a1, a2, a3, a4, a5, a6, a7, a8] a9 (b :: L)
  have h : am_kill (a0 :: a1 :: a2 :: a3 :: a4 :: a5 :: a6 :: a7 :: a8 :: a9 :: b :: L) 10 = _ := h
  rw [h]
  rfl
theorem ev_ls10 {a0 : Option Value} {a1 : Option Value} {a2 : Option Value} {a3 : Option Value} {a4 : Option Value} {a5 : Option Value} {a6 : Option Value} {a7 : Option Value} {a8 : Option Value} {a9 : Option Value} {b b2 : Option Value} {f : am_F} {L : List (Option Value)} {st : List Value} {u : am_St} {x : Int64} : am_th (i_ls 10) f (a0 :: a1 :: a2 :: a3 :: a4 :: a5 :: a6 :: a7 :: a8 :: a9 :: b :: b2 :: L, .long x :: st, u) = f (a0 :: a1 :: a2 :: a3 :: a4 :: a5 :: a6 :: a7 :: a8 :: am_k1 a9 :: some (.long x) :: none :: L, st, u) := by
  show f ((((am_kill (a0 :: a1 :: a2 :: a3 :: a4 :: a5 :: a6 :: a7 :: a8 :: a9 :: b :: b2 :: L) 10).set 10 (some (.long x))).set 11 none), st, u) = _
  have h := am_kill_s [a0, a1, a2, a3, a4, a5, a6, a7, a8] a9 (b :: b2 :: L)
  have h : am_kill (a0 :: a1 :: a2 :: a3 :: a4 :: a5 :: a6 :: a7 :: a8 :: a9 :: b :: b2 :: L) 10 = _ := h
  rw [h]
  rfl
theorem ev_inc10 {a0 : Option Value} {a1 : Option Value} {a2 : Option Value} {a3 : Option Value} {a4 : Option Value} {a5 : Option Value} {a6 : Option Value} {a7 : Option Value} {a8 : Option Value} {a9 : Option Value} {f : am_F} {L : List (Option Value)} {st : List Value} {u : am_St} {x n : Int32} : am_th (i_inc 10 n) f (a0 :: a1 :: a2 :: a3 :: a4 :: a5 :: a6 :: a7 :: a8 :: a9 :: some (.int x) :: L, st, u) = f (a0 :: a1 :: a2 :: a3 :: a4 :: a5 :: a6 :: a7 :: a8 :: am_k1 a9 :: some (.int (x + n)) :: L, st, u) := by
  show f ((am_kill (a0 :: a1 :: a2 :: a3 :: a4 :: a5 :: a6 :: a7 :: a8 :: a9 :: some (.int x) :: L) 10).set 10 (some (.int (x + n))), st, u) = _
  have h := am_kill_s [a0, a1, a2, a3, a4, a5, a6, a7, a8] a9 (some (.int x) :: L)
  have h : am_kill (a0 :: a1 :: a2 :: a3 :: a4 :: a5 :: a6 :: a7 :: a8 :: a9 :: some (.int x) :: L) 10 = _ := h
  rw [h]
  rfl
theorem ev_is11 {a0 : Option Value} {a1 : Option Value} {a2 : Option Value} {a3 : Option Value} {a4 : Option Value} {a5 : Option Value} {a6 : Option Value} {a7 : Option Value} {a8 : Option Value} {a9 : Option Value} {a10 : Option Value} {b : Option Value} {f : am_F} {L : List (Option Value)} {st : List Value} {u : am_St} {x : Int32} : am_th (i_is 11) f (a0 :: a1 :: a2 :: a3 :: a4 :: a5 :: a6 :: a7 :: a8 :: a9 :: a10 :: b :: L, .int x :: st, u) = f (a0 :: a1 :: a2 :: a3 :: a4 :: a5 :: a6 :: a7 :: a8 :: a9 :: am_k1 a10 :: some (.int x) :: L, st, u) := by
  show f (((am_kill (a0 :: a1 :: a2 :: a3 :: a4 :: a5 :: a6 :: a7 :: a8 :: a9 :: a10 :: b :: L) 11).set 11 (some (.int x))), st, u) = _
  have h := am_kill_s [a0, a1, a2, a3, a4, a5, a6, a7, a8, a9] a10 (b :: L)
  have h : am_kill (a0 :: a1 :: a2 :: a3 :: a4 :: a5 :: a6 :: a7 :: a8 :: a9 :: a10 :: b :: L) 11 = _ := h
  rw [h]
  rfl
theorem ev_as11 {a0 : Option Value} {a1 : Option Value} {a2 : Option Value} {a3 : Option Value} {a4 : Option Value} {a5 : Option Value} {a6 : Option Value} {a7 : Option Value} {a8 : Option Value} {a9 : Option Value} {a10 : Option Value} {b : Option Value} {f : am_F} {L : List (Option Value)} {st : List Value} {u : am_St} {x : Nat} : am_th (i_as 11) f (a0 :: a1 :: a2 :: a3 :: a4 :: a5 :: a6 :: a7 :: a8 :: a9 :: a10 :: b :: L, .ref x :: st, u) = f (a0 :: a1 :: a2 :: a3 :: a4 :: a5 :: a6 :: a7 :: a8 :: a9 :: am_k1 a10 :: some (.ref x) :: L, st, u) := by
  show f (((am_kill (a0 :: a1 :: a2 :: a3 :: a4 :: a5 :: a6 :: a7 :: a8 :: a9 :: a10 :: b :: L) 11).set 11 (some (.ref x))), st, u) = _
  have h := am_kill_s [a0, a1, a2, a3, a4, a5, a6, a7, a8, a9] a10 (b :: L)
  have h : am_kill (a0 :: a1 :: a2 :: a3 :: a4 :: a5 :: a6 :: a7 :: a8 :: a9 :: a10 :: b :: L) 11 = _ := h
  rw [h]
  rfl
theorem ev_ls11 {a0 : Option Value} {a1 : Option Value} {a2 : Option Value} {a3 : Option Value} {a4 : Option Value} {a5 : Option Value} {a6 : Option Value} {a7 : Option Value} {a8 : Option Value} {a9 : Option Value} {a10 : Option Value} {b b2 : Option Value} {f : am_F} {L : List (Option Value)} {st : List Value} {u : am_St} {x : Int64} : am_th (i_ls 11) f (a0 :: a1 :: a2 :: a3 :: a4 :: a5 :: a6 :: a7 :: a8 :: a9 :: a10 :: b :: b2 :: L, .long x :: st, u) = f (a0 :: a1 :: a2 :: a3 :: a4 :: a5 :: a6 :: a7 :: a8 :: a9 :: am_k1 a10 :: some (.long x) :: none :: L, st, u) := by
  show f ((((am_kill (a0 :: a1 :: a2 :: a3 :: a4 :: a5 :: a6 :: a7 :: a8 :: a9 :: a10 :: b :: b2 :: L) 11).set 11 (some (.long x))).set 12 none), st, u) = _
  have h := am_kill_s [a0, a1, a2, a3, a4, a5, a6, a7, a8, a9] a10 (b :: b2 :: L)
  have h : am_kill (a0 :: a1 :: a2 :: a3 :: a4 :: a5 :: a6 :: a7 :: a8 :: a9 :: a10 :: b :: b2 :: L) 11 = _ := h
  rw [h]
  rfl
theorem ev_inc11 {a0 : Option Value} {a1 : Option Value} {a2 : Option Value} {a3 : Option Value} {a4 : Option Value} {a5 : Option Value} {a6 : Option Value} {a7 : Option Value} {a8 : Option Value} {a9 : Option Value} {a10 : Option Value} {f : am_F} {L : List (Option Value)} {st : List Value} {u : am_St} {x n : Int32} : am_th (i_inc 11 n) f (a0 :: a1 :: a2 :: a3 :: a4 :: a5 :: a6 :: a7 :: a8 :: a9 :: a10 :: some (.int x) :: L, st, u) = f (a0 :: a1 :: a2 :: a3 :: a4 :: a5 :: a6 :: a7 :: a8 :: a9 :: am_k1 a10 :: some (.int (x + n)) :: L, st, u) := by
  show f ((am_kill (a0 :: a1 :: a2 :: a3 :: a4 :: a5 :: a6 :: a7 :: a8 :: a9 :: a10 :: some (.int x) :: L) 11).set 11 (some (.int (x + n))), st, u) = _
  have h := am_kill_s [a0, a1, a2, a3, a4, a5, a6, a7, a8, a9] a10 (some (.int x) :: L)
  have h : am_kill (a0 :: a1 :: a2 :: a3 :: a4 :: a5 :: a6 :: a7 :: a8 :: a9 :: a10 :: some (.int x) :: L) 11 = _ := h
  rw [h]
  rfl
theorem ev_is12 {a0 : Option Value} {a1 : Option Value} {a2 : Option Value} {a3 : Option Value} {a4 : Option Value} {a5 : Option Value} {a6 : Option Value} {a7 : Option Value} {a8 : Option Value} {a9 : Option Value} {a10 : Option Value} {a11 : Option Value} {b : Option Value} {f : am_F} {L : List (Option Value)} {st : List Value} {u : am_St} {x : Int32} : am_th (i_is 12) f (a0 :: a1 :: a2 :: a3 :: a4 :: a5 :: a6 :: a7 :: a8 :: a9 :: a10 :: a11 :: b :: L, .int x :: st, u) = f (a0 :: a1 :: a2 :: a3 :: a4 :: a5 :: a6 :: a7 :: a8 :: a9 :: a10 :: am_k1 a11 :: some (.int x) :: L, st, u) := by
  show f (((am_kill (a0 :: a1 :: a2 :: a3 :: a4 :: a5 :: a6 :: a7 :: a8 :: a9 :: a10 :: a11 :: b :: L) 12).set 12 (some (.int x))), st, u) = _
  have h := am_kill_s [a0, a1, a2, a3, a4, a5, a6, a7, a8, a9, a10] a11 (b :: L)
  have h : am_kill (a0 :: a1 :: a2 :: a3 :: a4 :: a5 :: a6 :: a7 :: a8 :: a9 :: a10 :: a11 :: b :: L) 12 = _ := h
  rw [h]
  rfl
theorem ev_as12 {a0 : Option Value} {a1 : Option Value} {a2 : Option Value} {a3 : Option Value} {a4 : Option Value} {a5 : Option Value} {a6 : Option Value} {a7 : Option Value} {a8 : Option Value} {a9 : Option Value} {a10 : Option Value} {a11 : Option Value} {b : Option Value} {f : am_F} {L : List (Option Value)} {st : List Value} {u : am_St} {x : Nat} : am_th (i_as 12) f (a0 :: a1 :: a2 :: a3 :: a4 :: a5 :: a6 :: a7 :: a8 :: a9 :: a10 :: a11 :: b :: L, .ref x :: st, u) = f (a0 :: a1 :: a2 :: a3 :: a4 :: a5 :: a6 :: a7 :: a8 :: a9 :: a10 :: am_k1 a11 :: some (.ref x) :: L, st, u) := by
  show f (((am_kill (a0 :: a1 :: a2 :: a3 :: a4 :: a5 :: a6 :: a7 :: a8 :: a9 :: a10 :: a11 :: b :: L) 12).set 12 (some (.ref x))), st, u) = _
  have h := am_kill_s [a0, a1, a2, a3, a4, a5, a6, a7, a8, a9, a10] a11 (b :: L)
  have h : am_kill (a0 :: a1 :: a2 :: a3 :: a4 :: a5 :: a6 :: a7 :: a8 :: a9 :: a10 :: a11 :: b :: L) 12 = _ := h
  rw [h]
  rfl
theorem ev_ls12 {a0 : Option Value} {a1 : Option Value} {a2 : Option Value} {a3 : Option Value} {a4 : Option Value} {a5 : Option Value} {a6 : Option Value} {a7 : Option Value} {a8 : Option Value} {a9 : Option Value} {a10 : Option Value} {a11 : Option Value} {b b2 : Option Value} {f : am_F} {L : List (Option Value)} {st : List Value} {u : am_St} {x : Int64} : am_th (i_ls 12) f (a0 :: a1 :: a2 :: a3 :: a4 :: a5 :: a6 :: a7 :: a8 :: a9 :: a10 :: a11 :: b :: b2 :: L, .long x :: st, u) = f (a0 :: a1 :: a2 :: a3 :: a4 :: a5 :: a6 :: a7 :: a8 :: a9 :: a10 :: am_k1 a11 :: some (.long x) :: none :: L, st, u) := by
  show f ((((am_kill (a0 :: a1 :: a2 :: a3 :: a4 :: a5 :: a6 :: a7 :: a8 :: a9 :: a10 :: a11 :: b :: b2 :: L) 12).set 12 (some (.long x))).set 13 none), st, u) = _
  have h := am_kill_s [a0, a1, a2, a3, a4, a5, a6, a7, a8, a9, a10] a11 (b :: b2 :: L)
  have h : am_kill (a0 :: a1 :: a2 :: a3 :: a4 :: a5 :: a6 :: a7 :: a8 :: a9 :: a10 :: a11 :: b :: b2 :: L) 12 = _ := h
  rw [h]
  rfl
theorem ev_inc12 {a0 : Option Value} {a1 : Option Value} {a2 : Option Value} {a3 : Option Value} {a4 : Option Value} {a5 : Option Value} {a6 : Option Value} {a7 : Option Value} {a8 : Option Value} {a9 : Option Value} {a10 : Option Value} {a11 : Option Value} {f : am_F} {L : List (Option Value)} {st : List Value} {u : am_St} {x n : Int32} : am_th (i_inc 12 n) f (a0 :: a1 :: a2 :: a3 :: a4 :: a5 :: a6 :: a7 :: a8 :: a9 :: a10 :: a11 :: some (.int x) :: L, st, u) = f (a0 :: a1 :: a2 :: a3 :: a4 :: a5 :: a6 :: a7 :: a8 :: a9 :: a10 :: am_k1 a11 :: some (.int (x + n)) :: L, st, u) := by
  show f ((am_kill (a0 :: a1 :: a2 :: a3 :: a4 :: a5 :: a6 :: a7 :: a8 :: a9 :: a10 :: a11 :: some (.int x) :: L) 12).set 12 (some (.int (x + n))), st, u) = _
  have h := am_kill_s [a0, a1, a2, a3, a4, a5, a6, a7, a8, a9, a10] a11 (some (.int x) :: L)
  have h : am_kill (a0 :: a1 :: a2 :: a3 :: a4 :: a5 :: a6 :: a7 :: a8 :: a9 :: a10 :: a11 :: some (.int x) :: L) 12 = _ := h
  rw [h]
  rfl
theorem ev_is13 {a0 : Option Value} {a1 : Option Value} {a2 : Option Value} {a3 : Option Value} {a4 : Option Value} {a5 : Option Value} {a6 : Option Value} {a7 : Option Value} {a8 : Option Value} {a9 : Option Value} {a10 : Option Value} {a11 : Option Value} {a12 : Option Value} {b : Option Value} {f : am_F} {L : List (Option Value)} {st : List Value} {u : am_St} {x : Int32} : am_th (i_is 13) f (a0 :: a1 :: a2 :: a3 :: a4 :: a5 :: a6 :: a7 :: a8 :: a9 :: a10 :: a11 :: a12 :: b :: L, .int x :: st, u) = f (a0 :: a1 :: a2 :: a3 :: a4 :: a5 :: a6 :: a7 :: a8 :: a9 :: a10 :: a11 :: am_k1 a12 :: some (.int x) :: L, st, u) := by
  show f (((am_kill (a0 :: a1 :: a2 :: a3 :: a4 :: a5 :: a6 :: a7 :: a8 :: a9 :: a10 :: a11 :: a12 :: b :: L) 13).set 13 (some (.int x))), st, u) = _
  have h := am_kill_s [a0, a1, a2, a3, a4, a5, a6, a7, a8, a9, a10, a11] a12 (b :: L)
  have h : am_kill (a0 :: a1 :: a2 :: a3 :: a4 :: a5 :: a6 :: a7 :: a8 :: a9 :: a10 :: a11 :: a12 :: b :: L) 13 = _ := h
  rw [h]
  rfl
theorem ev_as13 {a0 : Option Value} {a1 : Option Value} {a2 : Option Value} {a3 : Option Value} {a4 : Option Value} {a5 : Option Value} {a6 : Option Value} {a7 : Option Value} {a8 : Option Value} {a9 : Option Value} {a10 : Option Value} {a11 : Option Value} {a12 : Option Value} {b : Option Value} {f : am_F} {L : List (Option Value)} {st : List Value} {u : am_St} {x : Nat} : am_th (i_as 13) f (a0 :: a1 :: a2 :: a3 :: a4 :: a5 :: a6 :: a7 :: a8 :: a9 :: a10 :: a11 :: a12 :: b :: L, .ref x :: st, u) = f (a0 :: a1 :: a2 :: a3 :: a4 :: a5 :: a6 :: a7 :: a8 :: a9 :: a10 :: a11 :: am_k1 a12 :: some (.ref x) :: L, st, u) := by
  show f (((am_kill (a0 :: a1 :: a2 :: a3 :: a4 :: a5 :: a6 :: a7 :: a8 :: a9 :: a10 :: a11 :: a12 :: b :: L) 13).set 13 (some (.ref x))), st, u) = _
  have h := am_kill_s [a0, a1, a2, a3, a4, a5, a6, a7, a8, a9, a10, a11] a12 (b :: L)
  have h : am_kill (a0 :: a1 :: a2 :: a3 :: a4 :: a5 :: a6 :: a7 :: a8 :: a9 :: a10 :: a11 :: a12 :: b :: L) 13 = _ := h
  rw [h]
  rfl
theorem ev_ls13 {a0 : Option Value} {a1 : Option Value} {a2 : Option Value} {a3 : Option Value} {a4 : Option Value} {a5 : Option Value} {a6 : Option Value} {a7 : Option Value} {a8 : Option Value} {a9 : Option Value} {a10 : Option Value} {a11 : Option Value} {a12 : Option Value} {b b2 : Option Value} {f : am_F} {L : List (Option Value)} {st : List Value} {u : am_St} {x : Int64} : am_th (i_ls 13) f (a0 :: a1 :: a2 :: a3 :: a4 :: a5 :: a6 :: a7 :: a8 :: a9 :: a10 :: a11 :: a12 :: b :: b2 :: L, .long x :: st, u) = f (a0 :: a1 :: a2 :: a3 :: a4 :: a5 :: a6 :: a7 :: a8 :: a9 :: a10 :: a11 :: am_k1 a12 :: some (.long x) :: none :: L, st, u) := by
  show f ((((am_kill (a0 :: a1 :: a2 :: a3 :: a4 :: a5 :: a6 :: a7 :: a8 :: a9 :: a10 :: a11 :: a12 :: b :: b2 :: L) 13).set 13 (some (.long x))).set 14 none), st, u) = _
  have h := am_kill_s [a0, a1, a2, a3, a4, a5, a6, a7, a8, a9, a10, a11] a12 (b :: b2 :: L)
  have h : am_kill (a0 :: a1 :: a2 :: a3 :: a4 :: a5 :: a6 :: a7 :: a8 :: a9 :: a10 :: a11 :: a12 :: b :: b2 :: L) 13 = _ := h
  rw [h]
  rfl
theorem ev_inc13 {a0 : Option Value} {a1 : Option Value} {a2 : Option Value} {a3 : Option Value} {a4 : Option Value} {a5 : Option Value} {a6 : Option Value} {a7 : Option Value} {a8 : Option Value} {a9 : Option Value} {a10 : Option Value} {a11 : Option Value} {a12 : Option Value} {f : am_F} {L : List (Option Value)} {st : List Value} {u : am_St} {x n : Int32} : am_th (i_inc 13 n) f (a0 :: a1 :: a2 :: a3 :: a4 :: a5 :: a6 :: a7 :: a8 :: a9 :: a10 :: a11 :: a12 :: some (.int x) :: L, st, u) = f (a0 :: a1 :: a2 :: a3 :: a4 :: a5 :: a6 :: a7 :: a8 :: a9 :: a10 :: a11 :: am_k1 a12 :: some (.int (x + n)) :: L, st, u) := by
  show f ((am_kill (a0 :: a1 :: a2 :: a3 :: a4 :: a5 :: a6 :: a7 :: a8 :: a9 :: a10 :: a11 :: a12 :: some (.int x) :: L) 13).set 13 (some (.int (x + n))), st, u) = _
  have h := am_kill_s [a0, a1, a2, a3, a4, a5, a6, a7, a8, a9, a10, a11] a12 (some (.int x) :: L)
  have h : am_kill (a0 :: a1 :: a2 :: a3 :: a4 :: a5 :: a6 :: a7 :: a8 :: a9 :: a10 :: a11 :: a12 :: some (.int x) :: L) 13 = _ := h
  rw [h]
  rfl
theorem ev_is14 {a0 : Option Value} {a1 : Option Value} {a2 : Option Value} {a3 : Option Value} {a4 : Option Value} {a5 : Option Value} {a6 : Option Value} {a7 : Option Value} {a8 : Option Value} {a9 : Option Value} {a10 : Option Value} {a11 : Option Value} {a12 : Option Value} {a13 : Option Value} {b : Option Value} {f : am_F} {L : List (Option Value)} {st : List Value} {u : am_St} {x : Int32} : am_th (i_is 14) f (a0 :: a1 :: a2 :: a3 :: a4 :: a5 :: a6 :: a7 :: a8 :: a9 :: a10 :: a11 :: a12 :: a13 :: b :: L, .int x :: st, u) = f (a0 :: a1 :: a2 :: a3 :: a4 :: a5 :: a6 :: a7 :: a8 :: a9 :: a10 :: a11 :: a12 :: am_k1 a13 :: some (.int x) :: L, st, u) := by
  show f (((am_kill (a0 :: a1 :: a2 :: a3 :: a4 :: a5 :: a6 :: a7 :: a8 :: a9 :: a10 :: a11 :: a12 :: a13 :: b :: L) 14).set 14 (some (.int x))), st, u) = _
  have h := am_kill_s [a0, a1, a2, a3, a4, a5, a6, a7, a8, a9, a10, a11, a12] a13 (b :: L)
  have h : am_kill (a0 :: a1 :: a2 :: a3 :: a4 :: a5 :: a6 :: a7 :: a8 :: a9 :: a10 :: a11 :: a12 :: a13 :: b :: L) 14 = _ := h
  rw [h]
  rfl
theorem ev_as14 {a0 : Option Value} {a1 : Option Value} {a2 : Option Value} {a3 : Option Value} {a4 : Option Value} {a5 : Option Value} {a6 : Option Value} {a7 : Option Value} {a8 : Option Value} {a9 : Option Value} {a10 : Option Value} {a11 : Option Value} {a12 : Option Value} {a13 : Option Value} {b : Option Value} {f : am_F} {L : List (Option Value)} {st : List Value} {u : am_St} {x : Nat} : am_th (i_as 14) f (a0 :: a1 :: a2 :: a3 :: a4 :: a5 :: a6 :: a7 :: a8 :: a9 :: a10 :: a11 :: a12 :: a13 :: b :: L, .ref x :: st, u) = f (a0 :: a1 :: a2 :: a3 :: a4 :: a5 :: a6 :: a7 :: a8 :: a9 :: a10 :: a11 :: a12 :: am_k1 a13 :: some (.ref x) :: L, st, u) := by
  show f (((am_kill (a0 :: a1 :: a2 :: a3 :: a4 :: a5 :: a6 :: a7 :: a8 :: a9 :: a10 :: a11 :: a12 :: a13 :: b :: L) 14).set 14 (some (.ref x))), st, u) = _
  have h := am_kill_s [a0, a1, a2, a3, a4, a5, a6, a7, a8, a9, a10, a11, a12] a13 (b :: L)
  have h : am_kill (a0 :: a1 :: a2 :: a3 :: a4 :: a5 :: a6 :: a7 :: a8 :: a9 :: a10 :: a11 :: a12 :: a13 :: b :: L) 14 = _ := h
  rw [h]
  rfl
theorem ev_ls14 {a0 : Option Value} {a1 : Option Value} {a2 : Option Value} {a3 : Option Value} {a4 : Option Value} {a5 : Option Value} {a6 : Option Value} {a7 : Option Value} {a8 : Option Value} {a9 : Option Value} {a10 : Option Value} {a11 : Option Value} {a12 : Option Value} {a13 : Option Value} {b b2 : Option Value} {f : am_F} {L : List (Option Value)} {st : List Value} {u : am_St} {x : Int64} : am_th (i_ls 14) f (a0 :: a1 :: a2 :: a3 :: a4 :: a5 :: a6 :: a7 :: a8 :: a9 :: a10 :: a11 :: a12 :: a13 :: b :: b2 :: L, .long x :: st, u) = f (a0 :: a1 :: a2 :: a3 :: a4 :: a5 :: a6 :: a7 :: a8 :: a9 :: a10 :: a11 :: a12 :: am_k1 a13 :: some (.long x) :: none :: L, st, u) := by
  show f ((((am_kill (a0 :: a1 :: a2 :: a3 :: a4 :: a5 :: a6 :: a7 :: a8 :: a9 :: a10 :: a11 :: a12 :: a13 :: b :: b2 :: L) 14).set 14 (some (.long x))).set 15 none), st, u) = _
  have h := am_kill_s [a0, a1, a2, a3, a4, a5, a6, a7, a8, a9, a10, a11, a12] a13 (b :: b2 :: L)
  have h : am_kill (a0 :: a1 :: a2 :: a3 :: a4 :: a5 :: a6 :: a7 :: a8 :: a9 :: a10 :: a11 :: a12 :: a13 :: b :: b2 :: L) 14 = _ := h
  rw [h]
  rfl
theorem ev_inc14 {a0 : Option Value} {a1 : Option Value} {a2 : Option Value} {a3 : Option Value} {a4 : Option Value} {a5 : Option Value} {a6 : Option Value} {a7 : Option Value} {a8 : Option Value} {a9 : Option Value} {a10 : Option Value} {a11 : Option Value} {a12 : Option Value} {a13 : Option Value} {f : am_F} {L : List (Option Value)} {st : List Value} {u : am_St} {x n : Int32} : am_th (i_inc 14 n) f (a0 :: a1 :: a2 :: a3 :: a4 :: a5 :: a6 :: a7 :: a8 :: a9 :: a10 :: a11 :: a12 :: a13 :: some (.int x) :: L, st, u) = f (a0 :: a1 :: a2 :: a3 :: a4 :: a5 :: a6 :: a7 :: a8 :: a9 :: a10 :: a11 :: a12 :: am_k1 a13 :: some (.int (x + n)) :: L, st, u) := by
  show f ((am_kill (a0 :: a1 :: a2 :: a3 :: a4 :: a5 :: a6 :: a7 :: a8 :: a9 :: a10 :: a11 :: a12 :: a13 :: some (.int x) :: L) 14).set 14 (some (.int (x + n))), st, u) = _
  have h := am_kill_s [a0, a1, a2, a3, a4, a5, a6, a7, a8, a9, a10, a11, a12] a13 (some (.int x) :: L)
  have h : am_kill (a0 :: a1 :: a2 :: a3 :: a4 :: a5 :: a6 :: a7 :: a8 :: a9 :: a10 :: a11 :: a12 :: a13 :: some (.int x) :: L) 14 = _ := h
  rw [h]
  rfl
theorem ev_is15 {a0 : Option Value} {a1 : Option Value} {a2 : Option Value} {a3 : Option Value} {a4 : Option Value} {a5 : Option Value} {a6 : Option Value} {a7 : Option Value} {a8 : Option Value} {a9 : Option Value} {a10 : Option Value} {a11 : Option Value} {a12 : Option Value} {a13 : Option Value} {a14 : Option Value} {b : Option Value} {f : am_F} {L : List (Option Value)} {st : List Value} {u : am_St} {x : Int32} : am_th (i_is 15) f (a0 :: a1 :: a2 :: a3 :: a4 :: a5 :: a6 :: a7 :: a8 :: a9 :: a10 :: a11 :: a12 :: a13 :: a14 :: b :: L, .int x :: st, u) = f (a0 :: a1 :: a2 :: a3 :: a4 :: a5 :: a6 :: a7 :: a8 :: a9 :: a10 :: a11 :: a12 :: a13 :: am_k1 a14 :: some (.int x) :: L, st, u) := by
  show f (((am_kill (a0 :: a1 :: a2 :: a3 :: a4 :: a5 :: a6 :: a7 :: a8 :: a9 :: a10 :: a11 :: a12 :: a13 :: a14 :: b :: L) 15).set 15 (some (.int x))), st, u) = _
  have h := am_kill_s [a0, a1, a2, a3, a4, a5, a6, a7, a8, a9, a10, a11, a12, a13] a14 (b :: L)
  have h : am_kill (a0 :: a1 :: a2 :: a3 :: a4 :: a5 :: a6 :: a7 :: a8 :: a9 :: a10 :: a11 :: a12 :: a13 :: a14 :: b :: L) 15 = _ := h
  rw [h]
  rfl
theorem ev_as15 {a0 : Option Value} {a1 : Option Value} {a2 : Option Value} {a3 : Option Value} {a4 : Option Value} {a5 : Option Value} {a6 : Option Value} {a7 : Option Value} {a8 : Option Value} {a9 : Option Value} {a10 : Option Value} {a11 : Option Value} {a12 : Option Value} {a13 : Option Value} {a14 : Option Value} {b : Option Value} {f : am_F} {L : List (Option Value)} {st : List Value} {u : am_St} {x : Nat} : am_th (i_as 15) f (a0 :: a1 :: a2 :: a3 :: a4 :: a5 :: a6 :: a7 :: a8 :: a9 :: a10 :: a11 :: a12 :: a13 :: a14 :: b :: L, .ref x :: st, u) = f (a0 :: a1 :: a2 :: a3 :: a4 :: a5 :: a6 :: a7 :: a8 :: a9 :: a10 :: a11 :: a12 :: a13 :: am_k1 a14 :: some (.ref x) :: L, st, u) := by
  show f (((am_kill (a0 :: a1 :: a2 :: a3 :: a4 :: a5 :: a6 :: a7 :: a8 :: a9 :: a10 :: a11 :: a12 :: a13 :: a14 :: b :: L) 15).set 15 (some (.ref x))), st, u) = _
  have h := am_kill_s [a0, a1, a2, a3, a4, a5, a6, a7, a8, a9, a10, a11, a12, a13] a14 (b :: L)
  have h : am_kill (a0 :: a1 :: a2 :: a3 :: a4 :: a5 :: a6 :: a7 :: a8 :: a9 :: a10 :: a11 :: a12 :: a13 :: a14 :: b :: L) 15 = _ := h
  rw [h]
  rfl
theorem ev_ls15 {a0 : Option Value} {a1 : Option Value} {a2 : Option Value} {a3 : Option Value} {a4 : Option Value} {a5 : Option Value} {a6 : Option Value} {a7 : Option Value} {a8 : Option Value} {a9 : Option Value} {a10 : Option Value} {a11 : Option Value} {a12 : Option Value} {a13 : Option Value} {a14 : Option Value} {b b2 : Option Value} {f : am_F} {L : List (Option Value)} {st : List Value} {u : am_St} {x : Int64} : am_th (i_ls 15) f (a0 :: a1 :: a2 :: a3 :: a4 :: a5 :: a6 :: a7 :: a8 :: a9 :: a10 :: a11 :: a12 :: a13 :: a14 :: b :: b2 :: L, .long x :: st, u) = f (a0 :: a1 :: a2 :: a3 :: a4 :: a5 :: a6 :: a7 :: a8 :: a9 :: a10 :: a11 :: a12 :: a13 :: am_k1 a14 :: some (.long x) :: none :: L, st, u) := by
  show f ((((am_kill (a0 :: a1 :: a2 :: a3 :: a4 :: a5 :: a6 :: a7 :: a8 :: a9 :: a10 :: a11 :: a12 :: a13 :: a14 :: b :: b2 :: L) 15).set 15 (some (.long x))).set 16 none), st, u) = _
  have h := am_kill_s [a0, a1, a2, a3, a4, a5, a6, a7, a8, a9, a10, a11, a12, a13] a14 (b :: b2 :: L)
  have h : am_kill (a0 :: a1 :: a2 :: a3 :: a4 :: a5 :: a6 :: a7 :: a8 :: a9 :: a10 :: a11 :: a12 :: a13 :: a14 :: b :: b2 :: L) 15 = _ := h
  rw [h]
  rfl
theorem ev_inc15 {a0 : Option Value} {a1 : Option Value} {a2 : Option Value} {a3 : Option Value} {a4 : Option Value} {a5 : Option Value} {a6 : Option Value} {a7 : Option Value} {a8 : Option Value} {a9 : Option Value} {a10 : Option Value} {a11 : Option Value} {a12 : Option Value} {a13 : Option Value} {a14 : Option Value} {f : am_F} {L : List (Option Value)} {st : List Value} {u : am_St} {x n : Int32} : am_th (i_inc 15 n) f (a0 :: a1 :: a2 :: a3 :: a4 :: a5 :: a6 :: a7 :: a8 :: a9 :: a10 :: a11 :: a12 :: a13 :: a14 :: some (.int x) :: L, st, u) = f (a0 :: a1 :: a2 :: a3 :: a4 :: a5 :: a6 :: a7 :: a8 :: a9 :: a10 :: a11 :: a12 :: a13 :: am_k1 a14 :: some (.int (x + n)) :: L, st, u) := by
  show f ((am_kill (a0 :: a1 :: a2 :: a3 :: a4 :: a5 :: a6 :: a7 :: a8 :: a9 :: a10 :: a11 :: a12 :: a13 :: a14 :: some (.int x) :: L) 15).set 15 (some (.int (x + n))), st, u) = _
  have h := am_kill_s [a0, a1, a2, a3, a4, a5, a6, a7, a8, a9, a10, a11, a12, a13] a14 (some (.int x) :: L)
  have h : am_kill (a0 :: a1 :: a2 :: a3 :: a4 :: a5 :: a6 :: a7 :: a8 :: a9 :: a10 :: a11 :: a12 :: a13 :: a14 :: some (.int x) :: L) 15 = _ := h
  rw [h]
  rfl
theorem ev_is16 {a0 : Option Value} {a1 : Option Value} {a2 : Option Value} {a3 : Option Value} {a4 : Option Value} {a5 : Option Value} {a6 : Option Value} {a7 : Option Value} {a8 : Option Value} {a9 : Option Value} {a10 : Option Value} {a11 : Option Value} {a12 : Option Value} {a13 : Option Value} {a14 : Option Value} {a15 : Option Value} {b : Option Value} {f : am_F} {L : List (Option Value)} {st : List Value} {u : am_St} {x : Int32} : am_th (i_is 16) f (a0 :: a1 :: a2 :: a3 :: a4 :: a5 :: a6 :: a7 :: a8 :: a9 :: a10 :: a11 :: a12 :: a13 :: a14 :: a15 :: b :: L, .int x :: st, u) = f (a0 :: a1 :: a2 :: a3 :: a4 :: a5 :: a6 :: a7 :: a8 :: a9 :: a10 :: a11 :: a12 :: a13 :: a14 :: am_k1 a15 :: some (.int x) :: L, st, u) := by
  show f (((am_kill (a0 :: a1 :: a2 :: a3 :: a4 :: a5 :: a6 :: a7 :: a8 :: a9 :: a10 :: a11 :: a12 :: a13 :: a14 :: a15 :: b :: L) 16).set 16 (some (.int x))), st, u) = _
  have h := am_kill_s [a0, a1, a2, a3, a4, a5, a6, a7, a8, a9, a10, a11, a12, a13, a14] a15 (b :: L)
  have h : am_kill (a0 :: a1 :: a2 :: a3 :: a4 :: a5 :: a6 :: a7 :: a8 :: a9 :: a10 :: a11 :: a12 :: a13 :: a14 :: a15 :: b :: L) 16 = _ := h
  rw [h]
  rfl
theorem ev_as16 {a0 : Option Value} {a1 : Option Value} {a2 : Option Value} {a3 : Option Value} {a4 : Option Value} {a5 : Option Value} {a6 : Option Value} {a7 : Option Value} {a8 : Option Value} {a9 : Option Value} {a10 : Option Value} {a11 : Option Value} {a12 : Option Value} {a13 : Option Value} {a14 : Option Value} {a15 : Option Value} {b : Option Value} {f : am_F} {L : List (Option Value)} {st : List Value} {u : am_St} {x : Nat} : am_th (i_as 16) f (a0 :: a1 :: a2 :: a3 :: a4 :: a5 :: a6 :: a7 :: a8 :: a9 :: a10 :: a11 :: a12 :: a13 :: a14 :: a15 :: b :: L, .ref x :: st, u) = f (a0 :: a1 :: a2 :: a3 :: a4 :: a5 :: a6 :: a7 :: a8 :: a9 :: a10 :: a11 :: a12 :: a13 :: a14 :: am_k1 a15 :: some (.ref x) :: L, st, u) := by
  show f (((am_kill (a0 :: a1 :: a2 :: a3 :: a4 :: a5 :: a6 :: a7 :: a8 :: a9 :: a10 :: a11 :: a12 :: a13 :: a14 :: a15 :: b :: L) 16).set 16 (some (.ref x))), st, u) = _
  have h := am_kill_s [a0, a1, a2, a3, a4, a5, a6, a7, a8, a9, a10, a11, a12, a13, a14] a15 (b :: L)
  have h : am_kill (a0 :: a1 :: a2 :: a3 :: a4 :: a5 :: a6 :: a7 :: a8 :: a9 :: a10 :: a11 :: a12 :: a13 :: a14 :: a15 :: b :: L) 16 = _ := h
  rw [h]
  rfl
theorem ev_ls16 {a0 : Option Value} {a1 : Option Value} {a2 : Option Value} {a3 : Option Value} {a4 : Option Value} {a5 : Option Value} {a6 : Option Value} {a7 : Option Value} {a8 : Option Value} {a9 : Option Value} {a10 : Option Value} {a11 : Option Value} {a12 : Option Value} {a13 : Option Value} {a14 : Option Value} {a15 : Option Value} {b b2 : Option Value} {f : am_F} {L : List (Option Value)} {st : List Value} {u : am_St} {x : Int64} : am_th (i_ls 16) f (a0 :: a1 :: a2 :: a3 :: a4 :: a5 :: a6 :: a7 :: a8 :: a9 :: a10 :: a11 :: a12 :: a13 :: a14 :: a15 :: b :: b2 :: L, .long x :: st, u) = f (a0 :: a1 :: a2 :: a3 :: a4 :: a5 :: a6 :: a7 :: a8 :: a9 :: a10 :: a11 :: a12 :: a13 :: a14 :: am_k1 a15 :: some (.long x) :: none :: L, st, u) := by
  show f ((((am_kill (a0 :: a1 :: a2 :: a3 :: a4 :: a5 :: a6 :: a7 :: a8 :: a9 :: a10 :: a11 :: a12 :: a13 :: a14 :: a15 :: b :: b2 :: L) 16).set 16 (some (.long x))).set 17 none), st, u) = _
  have h := am_kill_s [a0, a1, a2, a3, a4, a5, a6, a7, a8, a9, a10, a11, a12, a13, a14] a15 (b :: b2 :: L)
  have h : am_kill (a0 :: a1 :: a2 :: a3 :: a4 :: a5 :: a6 :: a7 :: a8 :: a9 :: a10 :: a11 :: a12 :: a13 :: a14 :: a15 :: b :: b2 :: L) 16 = _ := h
  rw [h]
  rfl
theorem ev_inc16 {a0 : Option Value} {a1 : Option Value} {a2 : Option Value} {a3 : Option Value} {a4 : Option Value} {a5 : Option Value} {a6 : Option Value} {a7 : Option Value} {a8 : Option Value} {a9 : Option Value} {a10 : Option Value} {a11 : Option Value} {a12 : Option Value} {a13 : Option Value} {a14 : Option Value} {a15 : Option Value} {f : am_F} {L : List (Option Value)} {st : List Value} {u : am_St} {x n : Int32} : am_th (i_inc 16 n) f (a0 :: a1 :: a2 :: a3 :: a4 :: a5 :: a6 :: a7 :: a8 :: a9 :: a10 :: a11 :: a12 :: a13 :: a14 :: a15 :: some (.int x) :: L, st, u) = f (a0 :: a1 :: a2 :: a3 :: a4 :: a5 :: a6 :: a7 :: a8 :: a9 :: a10 :: a11 :: a12 :: a13 :: a14 :: am_k1 a15 :: some (.int (x + n)) :: L, st, u) := by
  show f ((am_kill (a0 :: a1 :: a2 :: a3 :: a4 :: a5 :: a6 :: a7 :: a8 :: a9 :: a10 :: a11 :: a12 :: a13 :: a14 :: a15 :: some (.int x) :: L) 16).set 16 (some (.int (x + n))), st, u) = _
  have h := am_kill_s [a0, a1, a2, a3, a4, a5, a6, a7, a8, a9, a10, a11, a12, a13, a14] a15 (some (.int x) :: L)
  have h : am_kill (a0 :: a1 :: a2 :: a3 :: a4 :: a5 :: a6 :: a7 :: a8 :: a9 :: a10 :: a11 :: a12 :: a13 :: a14 :: a15 :: some (.int x) :: L) 16 = _ := h
  rw [h]
  rfl
theorem ev_is17 {a0 : Option Value} {a1 : Option Value} {a2 : Option Value} {a3 : Option Value} {a4 : Option Value} {a5 : Option Value} {a6 : Option Value} {a7 : Option Value} {a8 : Option Value} {a9 : Option Value} {a10 : Option Value} {a11 : Option Value} {a12 : Option Value} {a13 : Option Value} {a14 : Option Value} {a15 : Option Value} {a16 : Option Value} {b : Option Value} {f : am_F} {L : List (Option Value)} {st : List Value} {u : am_St} {x : Int32} : am_th (i_is 17) f (a0 :: a1 :: a2 :: a3 :: a4 :: a5 :: a6 :: a7 :: a8 :: a9 :: a10 :: a11 :: a12 :: a13 :: a14 :: a15 :: a16 :: b :: L, .int x :: st, u) = f (a0 :: a1 :: a2 :: a3 :: a4 :: a5 :: a6 :: a7 :: a8 :: a9 :: a10 :: a11 :: a12 :: a13 :: a14 :: a15 :: am_k1 a16 :: some (.int x) :: L, st, u) := by
  show f (((am_kill (a0 :: a1 :: a2 :: a3 :: a4 :: a5 :: a6 :: a7 :: a8 :: a9 :: a10 :: a11 :: a12 :: a13 :: a14 :: a15 :: a16 :: b :: L) 17).set 17 (some (.int x))), st, u) = _
  have h := am_kill_s [a0, a1, a2, a3, a4, a5, a6, a7, a8, a9, a10, a11, a12, a13, a14, a15] a16 (b :: L)
  have h : am_kill (a0 :: a1 :: a2 :: a3 :: a4 :: a5 :: a6 :: a7 :: a8 :: a9 :: a10 :: a11 :: a12 :: a13 :: a14 :: a15 :: a16 :: b :: L) 17 = _ := h
  rw [h]
  rfl
theorem ev_as17 {a0 : Option Value} {a1 : Option Value} {a2 : Option Value} {a3 : Option Value} {a4 : Option Value} {a5 : Option Value} {a6 : Option Value} {a7 : Option Value} {a8 : Option Value} {a9 : Option Value} {a10 : Option Value} {a11 : Option Value} {a12 : Option Value} {a13 : Option Value} {a14 : Option Value} {a15 : Option Value} {a16 : Option Value} {b : Option Value} {f : am_F} {L : List (Option Value)} {st : List Value} {u : am_St} {x : Nat} : am_th (i_as 17) f (a0 :: a1 :: a2 :: a3 :: a4 :: a5 :: a6 :: a7 :: a8 :: a9 :: a10 :: a11 :: a12 :: a13 :: a14 :: a15 :: a16 :: b :: L, .ref x :: st, u) = f (a0 :: a1 :: a2 :: a3 :: a4 :: a5 :: a6 :: a7 :: a8 :: a9 :: a10 :: a11 :: a12 :: a13 :: a14 :: a15 :: am_k1 a16 :: some (.ref x) :: L, st, u) := by
  show f (((am_kill (a0 :: a1 :: a2 :: a3 :: a4 :: a5 :: a6 :: a7 :: a8 :: a9 :: a10 :: a11 :: a12 :: a13 :: a14 :: a15 :: a16 :: b :: L) 17).set 17 (some (.ref x))), st, u) = _
  have h := am_kill_s [a0, a1, a2, a3, a4, a5, a6, a7, a8, a9, a10, a11, a12, a13, a14, a15] a16 (b :: L)
  have h : am_kill (a0 :: a1 :: a2 :: a3 :: a4 :: a5 :: a6 :: a7 :: a8 :: a9 :: a10 :: a11 :: a12 :: a13 :: a14 :: a15 :: a16 :: b :: L) 17 = _ := h
  rw [h]
  rfl
theorem ev_ls17 {a0 : Option Value} {a1 : Option Value} {a2 : Option Value} {a3 : Option Value} {a4 : Option Value} {a5 : Option Value} {a6 : Option Value} {a7 : Option Value} {a8 : Option Value} {a9 : Option Value} {a10 : Option Value} {a11 : Option Value} {a12 : Option Value} {a13 : Option Value} {a14 : Option Value} {a15 : Option Value} {a16 : Option Value} {b b2 : Option Value} {f : am_F} {L : List (Option Value)} {st : List Value} {u : am_St} {x : Int64} : am_th (i_ls 17) f (a0 :: a1 :: a2 :: a3 :: a4 :: a5 :: a6 :: a7 :: a8 :: a9 :: a10 :: a11 :: a12 :: a13 :: a14 :: a15 :: a16 :: b :: b2 :: L, .long x :: st, u) = f (a0 :: a1 :: a2 :: a3 :: a4 :: a5 :: a6 :: a7 :: a8 :: a9 :: a10 :: a11 :: a12 :: a13 :: a14 :: a15 :: am_k1 a16 :: some (.long x) :: none :: L, st, u) := by
  show f ((((am_kill (a0 :: a1 :: a2 :: a3 :: a4 :: a5 :: a6 :: a7 :: a8 :: a9 :: a10 :: a11 :: a12 :: a13 :: a14 :: a15 :: a16 :: b :: b2 :: L) 17).set 17 (some (.long x))).set 18 none), st, u) = _
  have h := am_kill_s [a0, a1, a2, a3, a4, a5, a6, a7, a8, a9, a10, a11, a12, a13, a14, a15] a16 (b :: b2 :: L)
  have h : am_kill (a0 :: a1 :: a2 :: a3 :: a4 :: a5 :: a6 :: a7 :: a8 :: a9 :: a10 :: a11 :: a12 :: a13 :: a14 :: a15 :: a16 :: b :: b2 :: L) 17 = _ := h
  rw [h]
  rfl
theorem ev_inc17 {a0 : Option Value} {a1 : Option Value} {a2 : Option Value} {a3 : Option Value} {a4 : Option Value} {a5 : Option Value} {a6 : Option Value} {a7 : Option Value} {a8 : Option Value} {a9 : Option Value} {a10 : Option Value} {a11 : Option Value} {a12 : Option Value} {a13 : Option Value} {a14 : Option Value} {a15 : Option Value} {a16 : Option Value} {f : am_F} {L : List (Option Value)} {st : List Value} {u : am_St} {x n : Int32} : am_th (i_inc 17 n) f (a0 :: a1 :: a2 :: a3 :: a4 :: a5 :: a6 :: a7 :: a8 :: a9 :: a10 :: a11 :: a12 :: a13 :: a14 :: a15 :: a16 :: some (.int x) :: L, st, u) = f (a0 :: a1 :: a2 :: a3 :: a4 :: a5 :: a6 :: a7 :: a8 :: a9 :: a10 :: a11 :: a12 :: a13 :: a14 :: a15 :: am_k1 a16 :: some (.int (x + n)) :: L, st, u) := by
  show f ((am_kill (a0 :: a1 :: a2 :: a3 :: a4 :: a5 :: a6 :: a7 :: a8 :: a9 :: a10 :: a11 :: a12 :: a13 :: a14 :: a15 :: a16 :: some (.int x) :: L) 17).set 17 (some (.int (x + n))), st, u) = _
  have h := am_kill_s [a0, a1, a2, a3, a4, a5, a6, a7, a8, a9, a10, a11, a12, a13, a14, a15] a16 (some (.int x) :: L)
  have h : am_kill (a0 :: a1 :: a2 :: a3 :: a4 :: a5 :: a6 :: a7 :: a8 :: a9 :: a10 :: a11 :: a12 :: a13 :: a14 :: a15 :: a16 :: some (.int x) :: L) 17 = _ := h
  rw [h]
  rfl
theorem ev_is18 {a0 : Option Value} {a1 : Option Value} {a2 : Option Value} {a3 : Option Value} {a4 : Option Value} {a5 : Option Value} {a6 : Option Value} {a7 : Option Value} {a8 : Option Value} {a9 : Option Value} {a10 : Option Value} {a11 : Option Value} {a12 : Option Value} {a13 : Option Value} {a14 : Option Value} {a15 : Option Value} {a16 : Option Value} {a17 : Option Value} {b : Option Value} {f : am_F} {L : List (Option Value)} {st : List Value} {u : am_St} {x : Int32} : am_th (i_is 18) f (a0 :: a1 :: a2 :: a3 :: a4 :: a5 :: a6 :: a7 :: a8 :: a9 :: a10 :: a11 :: a12 :: a13 :: a14 :: a15 :: a16 :: a17 :: b :: L, .int x :: st, u) = f (a0 :: a1 :: a2 :: a3 :: a4 :: a5 :: a6 :: a7 :: a8 :: a9 :: a10 :: a11 :: a12 :: a13 :: a14 :: a15 :: a16 :: am_k1 a17 :: some (.int x) :: L, st, u) := by
  show f (((am_kill (a0 :: a1 :: a2 :: a3 :: a4 :: a5 :: a6 :: a7 :: a8 :: a9 :: a10 :: a11 :: a12 :: a13 :: a14 :: a15 :: a16 :: a17 :: b :: L) 18).set 18 (some (.int x))), st, u) = _
  have h := am_kill_s [a0, a1, a2, a3, a4, a5, a6, a7, a8, a9, a10, a11, a12, a13, a14, a15, a16] a17 (b :: L)
  have h : am_kill (a0 :: a1 :: a2 :: a3 :: a4 :: a5 :: a6 :: a7 :: a8 :: a9 :: a10 :: a11 :: a12 :: a13 :: a14 :: a15 :: a16 :: a17 :: b :: L) 18 = _ := h
  rw [h]
  rfl
theorem ev_as18 {a0 : Option Value} {a1 : Option Value} {a2 : Option Value} {a3 : Option Value} {a4 : Option Value} {a5 : Option Value} {a6 : Option Value} {a7 : Option Value} {a8 : Option Value} {a9 : Option Value} {a10 : Option Value} {a11 : Option Value} {a12 : Option Value} {a13 : Option Value} {a14 : Option Value} {a15 : Option Value} {a16 : Option Value} {a17 : Option Value} {b : Option Value} {f : am_F} {L : List (Option Value)} {st : List Value} {u : am_St} {x : Nat} : am_th (i_as 18) f (a0 :: a1 :: a2 :: a3 :: a4 :: a5 :: a6 :: a7 :: a8 :: a9 :: a10 :: a11 :: a12 :: a13 :: a14 :: a15 :: a16 :: a17 :: b :: L, .ref x :: st, u) = f (a0 :: a1 :: a2 :: a3 :: a4 :: a5 :: a6 :: a7 :: a8 :: a9 :: a10 :: a11 :: a12 :: a13 :: a14 :: a15 :: a16 :: am_k1 a17 :: some (.ref x) :: L, st, u) := by
  show f (((am_kill (a0 :: a1 :: a2 :: a3 :: a4 :: a5 :: a6 :: a7 :: a8 :: a9 :: a10 :: a11 :: a12 :: a13 :: a14 :: a15 :: a16 :: a17 :: b :: L) 18).set 18 (some (.ref x))), st, u) = _
  have h := am_kill_s [a0, a1, a2, a3, a4, a5, a6, a7, a8, a9, a10, a11, a12, a13, a14, a15, a16] a17 (b :: L)
  have h : am_kill (a0 :: a1 :: a2 :: a3 :: a4 :: a5 :: a6 :: a7 :: a8 :: a9 :: a10 :: a11 :: a12 :: a13 :: a14 :: a15 :: a16 :: a17 :: b :: L) 18 = _ := h
  rw [h]
  rfl
theorem ev_ls18 {a0 : Option Value} {a1 : Option Value} {a2 : Option Value} {a3 : Option Value} {a4 : Option Value} {a5 : Option Value} {a6 : Option Value} {a7 : Option Value} {a8 : Option Value} {a9 : Option Value} {a10 : Option Value} {a11 : Option Value} {a12 : Option Value} {a13 : Option Value} {a14 : Option Value} {a15 : Option Value} {a16 : Option Value} {a17 : Option Value} {b b2 : Option Value} {f : am_F} {L : List (Option Value)} {st : List Value} {u : am_St} {x : Int64} : am_th (i_ls 18) f (a0 :: a1 :: a2 :: a3 :: a4 :: a5 :: a6 :: a7 :: a8 :: a9 :: a10 :: a11 :: a12 :: a13 :: a14 :: a15 :: a16 :: a17 :: b :: b2 :: L, .long x :: st, u) = f (a0 :: a1 :: a2 :: a3 :: a4 :: a5 :: a6 :: a7 :: a8 :: a9 :: a10 :: a11 :: a12 :: a13 :: a14 :: a15 :: a16 :: am_k1 a17 :: some (.long x) :: none :: L, st, u) := by
  show f ((((am_kill (a0 :: a1 :: a2 :: a3 :: a4 :: a5 :: a6 :: a7 :: a8 :: a9 :: a10 :: a11 :: a12 :: a13 :: a14 :: a15 :: a16 :: a17 :: b :: b2 :: L) 18).set 18 (some (.long x))).set 19 none), st, u) = _
  have h := am_kill_s [a0, a1, a2, a3, a4, a5, a6, a7, a8, a9, a10, a11, a12, a13, a14, a15, a16] a17 (b :: b2 :: L)
  have h : am_kill (a0 :: a1 :: a2 :: a3 :: a4 :: a5 :: a6 :: a7 :: a8 :: a9 :: a10 :: a11 :: a12 :: a13 :: a14 :: a15 :: a16 :: a17 :: b :: b2 :: L) 18 = _ := h
  rw [h]
  rfl
theorem ev_inc18 {a0 : Option Value} {a1 : Option Value} {a2 : Option Value} {a3 : Option Value} {a4 : Option Value} {a5 : Option Value} {a6 : Option Value} {a7 : Option Value} {a8 : Option Value} {a9 : Option Value} {a10 : Option Value} {a11 : Option Value} {a12 : Option Value} {a13 : Option Value} {a14 : Option Value} {a15 : Option Value} {a16 : Option Value} {a17 : Option Value} {f : am_F} {L : List (Option Value)} {st : List Value} {u : am_St} {x n : Int32} : am_th (i_inc 18 n) f (a0 :: a1 :: a2 :: a3 :: a4 :: a5 :: a6 :: a7 :: a8 :: a9 :: a10 :: a11 :: a12 :: a13 :: a14 :: a15 :: a16 :: a17 :: some (.int x) :: L, st, u) = f (a0 :: a1 :: a2 :: a3 :: a4 :: a5 :: a6 :: a7 :: a8 :: a9 :: a10 :: a11 :: a12 :: a13 :: a14 :: a15 :: a16 :: am_k1 a17 :: some (.int (x + n)) :: L, st, u) := by
  show f ((am_kill (a0 :: a1 :: a2 :: a3 :: a4 :: a5 :: a6 :: a7 :: a8 :: a9 :: a10 :: a11 :: a12 :: a13 :: a14 :: a15 :: a16 :: a17 :: some (.int x) :: L) 18).set 18 (some (.int (x + n))), st, u) = _
  have h := am_kill_s [a0, a1, a2, a3, a4, a5, a6, a7, a8, a9, a10, a11, a12, a13, a14, a15, a16] a17 (some (.int x) :: L)
  have h : am_kill (a0 :: a1 :: a2 :: a3 :: a4 :: a5 :: a6 :: a7 :: a8 :: a9 :: a10 :: a11 :: a12 :: a13 :: a14 :: a15 :: a16 :: a17 :: some (.int x) :: L) 18 = _ := h
  rw [h]
  rfl
theorem ev_is19 {a0 : Option Value} {a1 : Option Value} {a2 : Option Value} {a3 : Option Value} {a4 : Option Value} {a5 : Option Value} {a6 : Option Value} {a7 : Option Value} {a8 : Option Value} {a9 : Option Value} {a10 : Option Value} {a11 : Option Value} {a12 : Option Value} {a13 : Option Value} {a14 : Option Value} {a15 : Option Value} {a16 : Option Value} {a17 : Option Value} {a18 : Option Value} {b : Option Value} {f : am_F} {L : List (Option Value)} {st : List Value} {u : am_St} {x : Int32} : am_th (i_is 19) f (a0 :: a1 :: a2 :: a3 :: a4 :: a5 :: a6 :: a7 :: a8 :: a9 :: a10 :: a11 :: a12 :: a13 :: a14 :: a15 :: a16 :: a17 :: a18 :: b :: L, .int x :: st, u) = f (a0 :: a1 :: a2 :: a3 :: a4 :: a5 :: a6 :: a7 :: a8 :: a9 :: a10 :: a11 :: a12 :: a13 :: a14 :: a15 :: a16 :: a17 :: am_k1 a18 :: some (.int x) :: L, st, u) := by
  show f (((am_kill (a0 :: a1 :: a2 :: a3 :: a4 :: a5 :: a6 :: a7 :: a8 :: a9 :: a10 :: a11 :: a12 :: a13 :: a14 :: a15 :: a16 :: a17 :: a18 :: b :: L) 19).set 19 (some (.int x))), st, u) = _
  have h := am_kill_s [a0, a1, a2, a3, a4, a5, a6, a7, a8, a9, a10, a11, a12, a13, a14, a15, a16, a17] a18 (b :: L)
  have h : am_kill (a0 :: a1 :: a2 :: a3 :: a4 :: a5 :: a6 :: a7 :: a8 :: a9 :: a10 :: a11 :: a12 :: a13 :: a14 :: a15 :: a16 :: a17 :: a18 :: b :: L) 19 = _ := h
  rw [h]
  rfl
theorem ev_as19 {a0 : Option Value} {a1 : Option Value} {a2 : Option Value} {a3 : Option Value} {a4 : Option Value} {a5 : Option Value} {a6 : Option Value} {a7 : Option Value} {a8 : Option Value} {a9 : Option Value} {a10 : Option Value} {a11 : Option Value} {a12 : Option Value} {a13 : Option Value} {a14 : Option Value} {a15 : Option Value} {a16 : Option Value} {a17 : Option Value} {a18 : Option Value} {b : Option Value} {f : am_F} {L : List (Option Value)} {st : List Value} {u : am_St} {x : Nat} : am_th (i_as 19) f (a0 :: a1 :: a2 :: a3 :: a4 :: a5 :: a6 :: a7 :: a8 :: a9 :: a10 :: a11 :: a12 :: a13 :: a14 :: a15 :: a16 :: a17 :: a18 :: b :: L, .ref x :: st, u) = f (a0 :: a1 :: a2 :: a3 :: a4 :: a5 :: a6 :: a7 :: a8 :: a9 :: a10 :: a11 :: a12 :: a13 :: a14 :: a15 :: a16 :: a17 :: am_k1 a18 :: some (.ref x) :: L, st, u) := by
  show f (((am_kill (a0 :: a1 :: a2 :: a3 :: a4 :: a5 :: a6 :: a7 :: a8 :: a9 :: a10 :: a11 :: a12 :: a13 :: a14 :: a15 :: a16 :: a17 :: a18 :: b :: L) 19).set 19 (some (.ref x))), st, u) = _
  have h := am_kill_s [a0, a1, a2, a3, a4, a5, a6, a7, a8, a9, a10, a11, a12, a13, a14, a15, a16, a17] a18 (b :: L)
  have h : am_kill (a0 :: a1 :: a2 :: a3 :: a4 :: a5 :: a6 :: a7 :: a8 :: a9 :: a10 :: a11 :: a12 :: a13 :: a14 :: a15 :: a16 :: a17 :: a18 :: b :: L) 19 = _ := h
  rw [h]
  rfl
theorem ev_ls19 {a0 : Option Value} {a1 : Option Value} {a2 : Option Value} {a3 : Option Value} {a4 : Option Value} {a5 : Option Value} {a6 : Option Value} {a7 : Option Value} {a8 : Option Value} {a9 : Option Value} {a10 : Option Value} {a11 : Option Value} {a12 : Option Value} {a13 : Option Value} {a14 : Option Value} {a15 : Option Value} {a16 : Option Value} {a17 : Option Value} {a18 : Option Value} {b b2 : Option Value} {f : am_F} {L : List (Option Value)} {st : List Value} {u : am_St} {x : Int64} : am_th (i_ls 19) f (a0 :: a1 :: a2 :: a3 :: a4 :: a5 :: a6 :: a7 :: a8 :: a9 :: a10 :: a11 :: a12 :: a13 :: a14 :: a15 :: a16 :: a17 :: a18 :: b :: b2 :: L, .long x :: st, u) = f (a0 :: a1 :: a2 :: a3 :: a4 :: a5 :: a6 :: a7 :: a8 :: a9 :: a10 :: a11 :: a12 :: a13 :: a14 :: a15 :: a16 :: a17 :: am_k1 a18 :: some (.long x) :: none :: L, st, u) := by
  show f ((((am_kill (a0 :: a1 :: a2 :: a3 :: a4 :: a5 :: a6 :: a7 :: a8 :: a9 :: a10 :: a11 :: a12 :: a13 :: a14 :: a15 :: a16 :: a17 :: a18 :: b :: b2 :: L) 19).set 19 (some (.long x))).set 20 none), st, u) = _
  have h := am_kill_s [a0, a1, a2, a3, a4, a5, a6, a7, a8, a9, a10, a11, a12, a13, a14, a15, a16, a17] a18 (b :: b2 :: L)
  have h : am_kill (a0 :: a1 :: a2 :: a3 :: a4 :: a5 :: a6 :: a7 :: a8 :: a9 :: a10 :: a11 :: a12 :: a13 :: a14 :: a15 :: a16 :: a17 :: a18 :: b :: b2 :: L) 19 = _ := h
  rw [h]
  rfl
theorem ev_inc19 {a0 : Option Value} {a1 : Option Value} {a2 : Option Value} {a3 : Option Value} {a4 : Option Value} {a5 : Option Value} {a6 : Option Value} {a7 : Option Value} {a8 : Option Value} {a9 : Option Value} {a10 : Option Value} {a11 : Option Value} {a12 : Option Value} {a13 : Option Value} {a14 : Option Value} {a15 : Option Value} {a16 : Option Value} {a17 : Option Value} {a18 : Option Value} {f : am_F} {L : List (Option Value)} {st : List Value} {u : am_St} {x n : Int32} : am_th (i_inc 19 n) f (a0 :: a1 :: a2 :: a3 :: a4 :: a5 :: a6 :: a7 :: a8 :: a9 :: a10 :: a11 :: a12 :: a13 :: a14 :: a15 :: a16 :: a17 :: a18 :: some (.int x) :: L, st, u) = f (a0 :: a1 :: a2 :: a3 :: a4 :: a5 :: a6 :: a7 :: a8 :: a9 :: a10 :: a11 :: a12 :: a13 :: a14 :: a15 :: a16 :: a17 :: am_k1 a18 :: some (.int (x + n)) :: L, st, u) := by
  show f ((am_kill (a0 :: a1 :: a2 :: a3 :: a4 :: a5 :: a6 :: a7 :: a8 :: a9 :: a10 :: a11 :: a12 :: a13 :: a14 :: a15 :: a16 :: a17 :: a18 :: some (.int x) :: L) 19).set 19 (some (.int (x + n))), st, u) = _
  have h := am_kill_s [a0, a1, a2, a3, a4, a5, a6, a7, a8, a9, a10, a11, a12, a13, a14, a15, a16, a17] a18 (some (.int x) :: L)
  have h : am_kill (a0 :: a1 :: a2 :: a3 :: a4 :: a5 :: a6 :: a7 :: a8 :: a9 :: a10 :: a11 :: a12 :: a13 :: a14 :: a15 :: a16 :: a17 :: a18 :: some (.int x) :: L) 19 = _ := h
  rw [h]
  rfl
theorem ev_ic {f : am_F} {L : List (Option Value)} {st : List Value} {u : am_St} {v : Int32} : am_th (i_ic v) f (L, st, u) = f (L, .int v :: st, u) := (rfl)
theorem ev_lc {f : am_F} {L : List (Option Value)} {st : List Value} {u : am_St} {v : Int64} : am_th (i_lc v) f (L, st, u) = f (L, .long v :: st, u) := (rfl)
theorem ev_sg {f : am_F} {L : List (Option Value)} {st : List Value} {u : am_St} {n : Nat} : am_th (i_sg n) f (L, st, u) = f (L, .ref (1000000 + n) :: st, u) := (rfl)
theorem ev_1 {f : am_F} {L : List (Option Value)} {st : List Value} {u : am_St} {x : Int32} {h : Int32 → Int32} : am_th (i_1 h) f (L, .int x :: st, u) = f (L, .int (h x) :: st, u) := (rfl)
theorem ev_2 {f : am_F} {L : List (Option Value)} {st : List Value} {u : am_St} {x y : Int32} {h : Int32 → Int32 → Int32} : am_th (i_2 h) f (L, .int y :: .int x :: st, u) = f (L, .int (h x y) :: st, u) := (rfl)
theorem ev_2n {f : am_F} {L : List (Option Value)} {st : List Value} {u : am_St} {x y : Int32} {h : Int32 → Int32 → Int32} : am_th (i_2n h) f (L, .int y :: .int x :: st, u) = if y = 0 then none else f (L, .int (h x y) :: st, u) := by
  show Option.bind (if y = 0 then none else some _) f = _
  split <;> rfl
theorem ev_j2 {f : am_F} {L : List (Option Value)} {st : List Value} {u : am_St} {x y : Int64} {h : Int64 → Int64 → Int64} : am_th (j_2 h) f (L, .long y :: .long x :: st, u) = f (L, .long (h x y) :: st, u) := (rfl)
theorem ev_j2n {f : am_F} {L : List (Option Value)} {st : List Value} {u : am_St} {x y : Int64} {h : Int64 → Int64 → Int64} : am_th (j_2n h) f (L, .long y :: .long x :: st, u) = if y = 0 then none else f (L, .long (h x y) :: st, u) := by
  show Option.bind (if y = 0 then none else some _) f = _
  split <;> rfl
theorem ev_cmp {f : am_F} {L : List (Option Value)} {st : List Value} {u : am_St} {x y : Int64} : am_th j_cmp f (L, .long y :: .long x :: st, u) = f (L, .int (lg_cmp x y) :: st, u) := (rfl)
theorem ev_i2l {f : am_F} {L : List (Option Value)} {st : List Value} {u : am_St} {x : Int32} : am_th i_i2l f (L, .int x :: st, u) = f (L, .long x.toInt64 :: st, u) := (rfl)
theorem ev_dup_int {f : am_F} {L : List (Option Value)} {st : List Value} {u : am_St} {x : Int32} : am_th i_dup f (L, .int x :: st, u) = f (L, .int x :: .int x :: st, u) := (rfl)
theorem ev_pop_int {f : am_F} {L : List (Option Value)} {st : List Value} {u : am_St} {x : Int32} : am_th i_pop f (L, .int x :: st, u) = f (L, st, u) := (rfl)
theorem ev_dup_ref {f : am_F} {L : List (Option Value)} {st : List Value} {u : am_St} {x : Nat} : am_th i_dup f (L, .ref x :: st, u) = f (L, .ref x :: .ref x :: st, u) := (rfl)
theorem ev_pop_ref {f : am_F} {L : List (Option Value)} {st : List Value} {u : am_St} {x : Nat} : am_th i_pop f (L, .ref x :: st, u) = f (L, st, u) := (rfl)
theorem ev_dup2 {f : am_F} {L : List (Option Value)} {st : List Value} {u : am_St} {x : Int32} {k : Nat} : am_th i_dup2 f (L, .int x :: .ref k :: st, u) = f (L, .int x :: .ref k :: .int x :: .ref k :: st, u) := (rfl)
def am_kd (u : am_St) (k : Nat) : Option Nat := (u.1.1[k]?).map Prod.fst
def am_sz (u : am_St) (k : Nat) : Nat := ((u.1.1[k]?).map Prod.snd).getD 0
def am_sm (st : List Value) : Nat := (st.map fun v => v.category).sum
theorem am_sm_nil : am_sm [] = 0 := (rfl)
theorem am_sm_i {x : Int32} {st : List Value} : am_sm (.int x :: st) = 1 + am_sm st := by simp [am_sm, Value.category]
theorem am_sm_r {x : Nat} {st : List Value} : am_sm (.ref x :: st) = 1 + am_sm st := by simp [am_sm, Value.category]
theorem am_sm_l {x : Int64} {st : List Value} : am_sm (.long x :: st) = 2 + am_sm st := by simp [am_sm, Value.category]
theorem ev_oi {f : am_F} {L : List (Option Value)} {st : List Value} {u : am_St} {k : Nat} : am_th i_oi f (L, .ref k :: st, u) = if am_sm st ≤ 8 then f (L, st, u) else none := by
  show Option.bind (if am_sm st ≤ 8 then some _ else none) f = _
  split <;> rfl
theorem ev_mx {f : am_F} {L : List (Option Value)} {st : List Value} {u : am_St} {x y : Int32} {h : Int32 → Int32 → Int32} : am_th (i_mx h) f (L, .int y :: .int x :: st, u) = if am_sm st ≤ 8 then f (L, .int (h x y) :: st, u) else none := by
  show Option.bind (if am_sm st ≤ 8 then some _ else none) f = _
  split <;> rfl
theorem ev_gi {f : am_F} {L : List (Option Value)} {st : List Value} {u : am_St} {c j k : Nat} : am_th (i_gi c j) f (L, .ref k :: st, u) = if am_kd u k = some (c + 4) then f (L, .int (u.2.1 k j) :: st, u) else none := by
  show Option.bind (if _ then some _ else none) f = _
  unfold am_kd
  split <;> rfl
theorem ev_gl {f : am_F} {L : List (Option Value)} {st : List Value} {u : am_St} {c j k : Nat} : am_th (i_gl c j) f (L, .ref k :: st, u) = if am_kd u k = some (c + 4) then f (L, .long (u.2.2.1 k j) :: st, u) else none := by
  show Option.bind (if _ then some _ else none) f = _
  unfold am_kd
  split <;> rfl
theorem ev_gr {f : am_F} {L : List (Option Value)} {st : List Value} {u : am_St} {c j k : Nat} : am_th (i_gr c j) f (L, .ref k :: st, u) = if am_kd u k = some (c + 4) then f (L, va_rf (u.2.2.2 k j) :: st, u) else none := by
  show Option.bind (if _ then some _ else none) f = _
  unfold am_kd
  split <;> rfl
theorem ev_pi {f : am_F} {L : List (Option Value)} {st : List Value} {u : am_St} {c j k : Nat} {x : Int32} : am_th (i_pi c j) f (L, .int x :: .ref k :: st, u) = if am_kd u k = some (c + 4) then f (L, st, am_uI u k j x) else none := by
  show Option.bind (if _ then some _ else none) f = _
  unfold am_kd
  split <;> rfl
theorem ev_pl {f : am_F} {L : List (Option Value)} {st : List Value} {u : am_St} {c j k : Nat} {x : Int64} : am_th (i_pl c j) f (L, .long x :: .ref k :: st, u) = if am_kd u k = some (c + 4) then f (L, st, am_uJ u k j x) else none := by
  show Option.bind (if _ then some _ else none) f = _
  unfold am_kd
  split <;> rfl
theorem ev_pr {f : am_F} {L : List (Option Value)} {st : List Value} {u : am_St} {c j k : Nat} {x : Nat} : am_th (i_pr c j) f (L, .ref x :: .ref k :: st, u) = if am_kd u k = some (c + 4) then f (L, st, am_uR u k j (some x)) else none := by
  show Option.bind (if _ then some _ else none) f = _
  unfold am_kd
  split <;> rfl
theorem ev_pz {f : am_F} {L : List (Option Value)} {st : List Value} {u : am_St} {c j k : Nat} {x : Int32} : am_th (i_pz c j) f (L, .int x :: .ref k :: st, u) = if am_kd u k = some (c + 4) ∧ (x = 0 ∨ x = 1) then f (L, st, am_uI u k j x) else none := by
  show Option.bind (if _ then some _ else none) f = _
  unfold am_kd
  split <;> rfl
theorem ev_ia {f : am_F} {L : List (Option Value)} {st : List Value} {u : am_St} {t k : Nat} {i : Int32} : am_th (i_ia t) f (L, .int i :: .ref k :: st, u) = if am_kd u k = some t ∧ ¬ (i < 0 ∨ am_sz u k ≤ i.toNatClampNeg) then f (L, .int (u.2.1 k i.toNatClampNeg) :: st, u) else none := by
  unfold am_kd am_sz
  simp only [am_th, i_ia]
  cases h : u.1.1[k]? with
  | none => simp
  | some q =>
    obtain ⟨a, n⟩ := q
    simp only [Option.map_some, Option.some.injEq, Option.getD_some]
    split <;> simp_all
theorem ev_la {f : am_F} {L : List (Option Value)} {st : List Value} {u : am_St} {k : Nat} {i : Int32} : am_th i_la f (L, .int i :: .ref k :: st, u) = if am_kd u k = some 2 ∧ ¬ (i < 0 ∨ am_sz u k ≤ i.toNatClampNeg) then f (L, .long (u.2.2.1 k i.toNatClampNeg) :: st, u) else none := by
  unfold am_kd am_sz
  simp only [am_th, i_la]
  cases h : u.1.1[k]? with
  | none => simp
  | some q =>
    obtain ⟨a, n⟩ := q
    simp only [Option.map_some, Option.some.injEq, Option.getD_some]
    split <;> simp_all
theorem ev_aa {f : am_F} {L : List (Option Value)} {st : List Value} {u : am_St} {k : Nat} {i : Int32} : am_th i_aa f (L, .int i :: .ref k :: st, u) = if am_kd u k = some 3 ∧ ¬ (i < 0 ∨ am_sz u k ≤ i.toNatClampNeg) then f (L, va_rf (u.2.2.2 k i.toNatClampNeg) :: st, u) else none := by
  unfold am_kd am_sz
  simp only [am_th, i_aa]
  cases h : u.1.1[k]? with
  | none => simp
  | some q =>
    obtain ⟨a, n⟩ := q
    simp only [Option.map_some, Option.some.injEq, Option.getD_some]
    split <;> simp_all
theorem ev_iS {f : am_F} {L : List (Option Value)} {st : List Value} {u : am_St} {k : Nat} {i x : Int32} : am_th i_iS f (L, .int x :: .int i :: .ref k :: st, u) = if am_kd u k = some 0 ∧ ¬ (i < 0 ∨ am_sz u k ≤ i.toNatClampNeg) then f (L, st, am_uI u k i.toNatClampNeg x) else none := by
  unfold am_kd am_sz
  simp only [am_th, i_iS]
  cases h : u.1.1[k]? with
  | none => simp
  | some q =>
    obtain ⟨a, n⟩ := q
    simp only [Option.map_some, Option.some.injEq, Option.getD_some]
    split <;> simp_all
theorem ev_bS {f : am_F} {L : List (Option Value)} {st : List Value} {u : am_St} {k : Nat} {i x : Int32} : am_th i_bS f (L, .int x :: .int i :: .ref k :: st, u) = if am_kd u k = some 1 ∧ ¬ (i < 0 ∨ am_sz u k ≤ i.toNatClampNeg) then f (L, st, am_uI u k i.toNatClampNeg x.toInt8.toInt32) else none := by
  unfold am_kd am_sz
  simp only [am_th, i_bS]
  cases h : u.1.1[k]? with
  | none => simp
  | some q =>
    obtain ⟨a, n⟩ := q
    simp only [Option.map_some, Option.some.injEq, Option.getD_some]
    split <;> simp_all
theorem ev_lS {f : am_F} {L : List (Option Value)} {st : List Value} {u : am_St} {k : Nat} {i : Int32} {x : Int64} : am_th i_lS f (L, .long x :: .int i :: .ref k :: st, u) = if am_kd u k = some 2 ∧ ¬ (i < 0 ∨ am_sz u k ≤ i.toNatClampNeg) then f (L, st, am_uJ u k i.toNatClampNeg x) else none := by
  unfold am_kd am_sz
  simp only [am_th, i_lS]
  cases h : u.1.1[k]? with
  | none => simp
  | some q =>
    obtain ⟨a, n⟩ := q
    simp only [Option.map_some, Option.some.injEq, Option.getD_some]
    split <;> simp_all
theorem ev_aS {f : am_F} {L : List (Option Value)} {st : List Value} {u : am_St} {k v : Nat} {i : Int32} : am_th i_aS f (L, .ref v :: .int i :: .ref k :: st, u) = if (am_kd u k = some 3 ∧ am_kd u v = some 6) ∧ ¬ (i < 0 ∨ am_sz u k ≤ i.toNatClampNeg) then f (L, st, am_uR u k i.toNatClampNeg (some v)) else none := by
  unfold am_kd am_sz
  simp only [am_th, i_aS]
  cases h : u.1.1[k]? with
  | none => simp
  | some q =>
    obtain ⟨a, n⟩ := q
    simp only [Option.map_some, Option.some.injEq, Option.getD_some]
    split <;> simp_all
theorem ev_len {f : am_F} {L : List (Option Value)} {st : List Value} {u : am_St} {k n : Nat} {t : Nat} (h1 : am_kd u k = some t) (h2 : am_sz u k = n) (h3 : t < 4) : am_th i_len f (L, .ref k :: st, u) = f (L, .int (nI n) :: st, u) := by
  unfold am_kd at h1
  unfold am_sz at h2
  simp only [am_th, i_len]
  cases h : u.1.1[k]? with
  | none => simp [h] at h1
  | some q =>
    obtain ⟨a, n2⟩ := q
    simp [h] at h1 h2
    subst h1; subst h2
    simp [h3, nI]
def am_ret (q : Option (Option Value × am_St)) (L : List (Option Value)) (st : List Value) (u : am_St) (f : am_F) : Option am_O := q.bind (fun q => if am_ok st u q.2 = true then f (L, q.1.toList ++ st, q.2) else none)
theorem am_ret_s {v : Value} {u2 : am_St} {L : List (Option Value)} {st : List Value} {u : am_St} {f : am_F} : am_ret (some (some v, u2)) L st u f = if am_sm st ≤ 8 ∧ am_len u ≤ am_len u2 ∧ am_wt u ≤ am_wt u2 then f (L, v :: st, u2) else none := by
  simp only [am_ret, Option.bind_some, am_ok, am_sm, Bool.and_eq_true, decide_eq_true_eq, and_assoc]
  rfl
theorem am_ret_n {u2 : am_St} {L : List (Option Value)} {st : List Value} {u : am_St} {f : am_F} : am_ret (some (none, u2)) L st u f = if am_sm st ≤ 8 ∧ am_len u ≤ am_len u2 ∧ am_wt u ≤ am_wt u2 then f (L, st, u2) else none := by
  simp only [am_ret, Option.bind_some, am_ok, am_sm, Bool.and_eq_true, decide_eq_true_eq, and_assoc]
  rfl
theorem ev_cs0 {f : am_F} {L : List (Option Value)} {st : List Value} {u : am_St}  {d : am_D} : am_th (i_cs 0 d) f (L, st, u) = am_ret (d [] u) L st u f := by
  simp only [am_th, i_cs, am_ret]
  rw [if_pos (by simp)]
  simp only [List.take_succ_cons, List.take_zero, List.reverse_cons, List.reverse_nil, List.nil_append, List.cons_append, List.drop_succ_cons, List.drop_zero]
  cases d [] u with
  | none => rfl
  | some q =>
    simp only [Option.bind_some]
    split <;> rfl
theorem ev_cs1 {f : am_F} {L : List (Option Value)} {st : List Value} {u : am_St} {v0 : Value} {d : am_D} : am_th (i_cs 1 d) f (L, v0 :: st, u) = am_ret (d [v0] u) L st u f := by
  simp only [am_th, i_cs, am_ret]
  rw [if_pos (by simp)]
  simp only [List.take_succ_cons, List.take_zero, List.reverse_cons, List.reverse_nil, List.nil_append, List.cons_append, List.drop_succ_cons, List.drop_zero]
  cases d [v0] u with
  | none => rfl
  | some q =>
    simp only [Option.bind_some]
    split <;> rfl
theorem ev_cs2 {f : am_F} {L : List (Option Value)} {st : List Value} {u : am_St} {v0 v1 : Value} {d : am_D} : am_th (i_cs 2 d) f (L, v0 :: v1 :: st, u) = am_ret (d [v1, v0] u) L st u f := by
  simp only [am_th, i_cs, am_ret]
  rw [if_pos (by simp)]
  simp only [List.take_succ_cons, List.take_zero, List.reverse_cons, List.reverse_nil, List.nil_append, List.cons_append, List.drop_succ_cons, List.drop_zero]
  cases d [v1, v0] u with
  | none => rfl
  | some q =>
    simp only [Option.bind_some]
    split <;> rfl
theorem ev_cs3 {f : am_F} {L : List (Option Value)} {st : List Value} {u : am_St} {v0 v1 v2 : Value} {d : am_D} : am_th (i_cs 3 d) f (L, v0 :: v1 :: v2 :: st, u) = am_ret (d [v2, v1, v0] u) L st u f := by
  simp only [am_th, i_cs, am_ret]
  rw [if_pos (by simp)]
  simp only [List.take_succ_cons, List.take_zero, List.reverse_cons, List.reverse_nil, List.nil_append, List.cons_append, List.drop_succ_cons, List.drop_zero]
  cases d [v2, v1, v0] u with
  | none => rfl
  | some q =>
    simp only [Option.bind_some]
    split <;> rfl
theorem ev_cs4 {f : am_F} {L : List (Option Value)} {st : List Value} {u : am_St} {v0 v1 v2 v3 : Value} {d : am_D} : am_th (i_cs 4 d) f (L, v0 :: v1 :: v2 :: v3 :: st, u) = am_ret (d [v3, v2, v1, v0] u) L st u f := by
  simp only [am_th, i_cs, am_ret]
  rw [if_pos (by simp)]
  simp only [List.take_succ_cons, List.take_zero, List.reverse_cons, List.reverse_nil, List.nil_append, List.cons_append, List.drop_succ_cons, List.drop_zero]
  cases d [v3, v2, v1, v0] u with
  | none => rfl
  | some q =>
    simp only [Option.bind_some]
    split <;> rfl
theorem ev_cs5 {f : am_F} {L : List (Option Value)} {st : List Value} {u : am_St} {v0 v1 v2 v3 v4 : Value} {d : am_D} : am_th (i_cs 5 d) f (L, v0 :: v1 :: v2 :: v3 :: v4 :: st, u) = am_ret (d [v4, v3, v2, v1, v0] u) L st u f := by
  simp only [am_th, i_cs, am_ret]
  rw [if_pos (by simp)]
  simp only [List.take_succ_cons, List.take_zero, List.reverse_cons, List.reverse_nil, List.nil_append, List.cons_append, List.drop_succ_cons, List.drop_zero]
  cases d [v4, v3, v2, v1, v0] u with
  | none => rfl
  | some q =>
    simp only [Option.bind_some]
    split <;> rfl
theorem ev_cs6 {f : am_F} {L : List (Option Value)} {st : List Value} {u : am_St} {v0 v1 v2 v3 v4 v5 : Value} {d : am_D} : am_th (i_cs 6 d) f (L, v0 :: v1 :: v2 :: v3 :: v4 :: v5 :: st, u) = am_ret (d [v5, v4, v3, v2, v1, v0] u) L st u f := by
  simp only [am_th, i_cs, am_ret]
  rw [if_pos (by simp)]
  simp only [List.take_succ_cons, List.take_zero, List.reverse_cons, List.reverse_nil, List.nil_append, List.cons_append, List.drop_succ_cons, List.drop_zero]
  cases d [v5, v4, v3, v2, v1, v0] u with
  | none => rfl
  | some q =>
    simp only [Option.bind_some]
    split <;> rfl
theorem ev_cv0 {f : am_F} {L : List (Option Value)} {st : List Value} {u : am_St}  {c k : Nat} {d : am_D} : am_th (i_cv c 0 d) f (L, .ref k :: st, u) = if am_kd u k = some (c + 4) then am_ret (d [.ref k] u) L st u f else none := by
  show Option.bind (if _ then i_cs 1 d (L, .ref k :: st, u) else none) f = _
  unfold am_kd
  split
  · exact ev_cs1
  · rfl
theorem ev_ct0 {f : am_F} {L : List (Option Value)} {st : List Value} {u : am_St}  {k : Nat} {d : am_D} : am_th (i_ct 0 d) f (L, .ref k :: st, u) = if 1000000 ≤ k ∧ k < 1000000 + am_sb.length then am_ret (d [.ref k] u) L st u f else none := by
  show Option.bind (if _ then i_cs 1 d (L, .ref k :: st, u) else none) f = _
  split
  · exact ev_cs1
  · rfl
theorem ev_cv1 {f : am_F} {L : List (Option Value)} {st : List Value} {u : am_St} {v0 : Value} {c k : Nat} {d : am_D} : am_th (i_cv c 1 d) f (L, v0 :: .ref k :: st, u) = if am_kd u k = some (c + 4) then am_ret (d [.ref k, v0] u) L st u f else none := by
  show Option.bind (if _ then i_cs 2 d (L, v0 :: .ref k :: st, u) else none) f = _
  unfold am_kd
  split
  · exact ev_cs2
  · rfl
theorem ev_ct1 {f : am_F} {L : List (Option Value)} {st : List Value} {u : am_St} {v0 : Value} {k : Nat} {d : am_D} : am_th (i_ct 1 d) f (L, v0 :: .ref k :: st, u) = if 1000000 ≤ k ∧ k < 1000000 + am_sb.length then am_ret (d [.ref k, v0] u) L st u f else none := by
  show Option.bind (if _ then i_cs 2 d (L, v0 :: .ref k :: st, u) else none) f = _
  split
  · exact ev_cs2
  · rfl
theorem ev_cv2 {f : am_F} {L : List (Option Value)} {st : List Value} {u : am_St} {v0 v1 : Value} {c k : Nat} {d : am_D} : am_th (i_cv c 2 d) f (L, v0 :: v1 :: .ref k :: st, u) = if am_kd u k = some (c + 4) then am_ret (d [.ref k, v1, v0] u) L st u f else none := by
  show Option.bind (if _ then i_cs 3 d (L, v0 :: v1 :: .ref k :: st, u) else none) f = _
  unfold am_kd
  split
  · exact ev_cs3
  · rfl
theorem ev_cv3 {f : am_F} {L : List (Option Value)} {st : List Value} {u : am_St} {v0 v1 v2 : Value} {c k : Nat} {d : am_D} : am_th (i_cv c 3 d) f (L, v0 :: v1 :: v2 :: .ref k :: st, u) = if am_kd u k = some (c + 4) then am_ret (d [.ref k, v2, v1, v0] u) L st u f else none := by
  show Option.bind (if _ then i_cs 4 d (L, v0 :: v1 :: v2 :: .ref k :: st, u) else none) f = _
  unfold am_kd
  split
  · exact ev_cs4
  · rfl
theorem ev_cv4 {f : am_F} {L : List (Option Value)} {st : List Value} {u : am_St} {v0 v1 v2 v3 : Value} {c k : Nat} {d : am_D} : am_th (i_cv c 4 d) f (L, v0 :: v1 :: v2 :: v3 :: .ref k :: st, u) = if am_kd u k = some (c + 4) then am_ret (d [.ref k, v3, v2, v1, v0] u) L st u f else none := by
  show Option.bind (if _ then i_cs 5 d (L, v0 :: v1 :: v2 :: v3 :: .ref k :: st, u) else none) f = _
  unfold am_kd
  split
  · exact ev_cs5
  · rfl
theorem ev_cv5 {f : am_F} {L : List (Option Value)} {st : List Value} {u : am_St} {v0 v1 v2 v3 v4 : Value} {c k : Nat} {d : am_D} : am_th (i_cv c 5 d) f (L, v0 :: v1 :: v2 :: v3 :: v4 :: .ref k :: st, u) = if am_kd u k = some (c + 4) then am_ret (d [.ref k, v4, v3, v2, v1, v0] u) L st u f else none := by
  show Option.bind (if _ then i_cs 6 d (L, v0 :: v1 :: v2 :: v3 :: v4 :: .ref k :: st, u) else none) f = _
  unfold am_kd
  split
  · exact ev_cs6
  · rfl
theorem ev_to {pc : Nat} {cf : am_C} : am_to pc cf = some (.inl (pc, cf)) := (rfl)
theorem ev_b1 {P : Int32 → Bool} {f h : am_F} {L : List (Option Value)} {st : List Value} {u : am_St} {x : Int32} : am_br (b_1 P) f h (L, .int x :: st, u) = if P x = true then f (L, st, u) else h (L, st, u) := (rfl)
theorem ev_b2 {P : Int32 → Int32 → Bool} {f h : am_F} {L : List (Option Value)} {st : List Value} {u : am_St} {x y : Int32} : am_br (b_2 P) f h (L, .int y :: .int x :: st, u) = if P x y = true then f (L, st, u) else h (L, st, u) := (rfl)
def am_jn (j : Nat) (q : Option am_O) (h : am_F) : Option am_O := q.bind (fun o => match o with
  | .inl q => if q.1 = j then h q.2 else some (.inl q)
  | .inr q => some (.inr q))
theorem ev_sq {j : Nat} {f h : am_F} {cf : am_C} : am_sq j f h cf = am_jn j (f cf) h := (rfl)
theorem am_jn_l {j p : Nat} {c : am_C} {h : am_F} : am_jn j (some (.inl (p, c))) h = if p = j then h c else some (.inl (p, c)) := (rfl)
theorem am_jn_r {j : Nat} {q : Option Value × am_St} {h : am_F} : am_jn j (some (.inr q)) h = some (.inr q) := (rfl)
theorem am_jn_n {j : Nat} {h : am_F} : am_jn j none h = none := (rfl)
theorem am_jn_if {j : Nat} {c : Prop} [Decidable c] {a b : Option am_O} {h : am_F} : am_jn j (if c then a else b) h = if c then am_jn j a h else am_jn j b h := by split <;> rfl
theorem ev_rv {L : List (Option Value)} {u : am_St} : r_v (L, [], u) = some (.inr (none, u)) := (rfl)
theorem ev_ri {L : List (Option Value)} {u : am_St} {x : Int32} : r_i (L, [.int x], u) = some (.inr (some (.int x), u)) := (rfl)
theorem ev_rl {L : List (Option Value)} {u : am_St} {x : Int64} : r_l (L, [.long x], u) = some (.inr (some (.long x), u)) := (rfl)
theorem ev_rz {L : List (Option Value)} {u : am_St} {x : Int32} : r_z (L, [.int x], u) = if x = 0 ∨ x = 1 then some (.inr (some (.int x), u)) else none := (rfl)
def am_fin (q : Option am_O) : Option (Option Value × am_St) := match q with
  | some (.inr q) => some q
  | _ => none
theorem am_fin_r {q : Option Value × am_St} : am_fin (some (.inr q)) = some q := (rfl)
theorem am_fin_n : am_fin none = none := (rfl)
theorem am_fin_if {c : Prop} [Decidable c] {a b : Option am_O} : am_fin (if c then a else b) = if c then am_fin a else am_fin b := by split <;> rfl
theorem am_den_eq {nL : Nat} {f : am_F} {as : List Value} {u : am_St} : am_den nL f as u = if (am_ent as).length ≤ nL then am_fin (f (am_ent as ++ List.replicate (nL - (am_ent as).length) none, [], u)) else none := (rfl)
theorem am_ent_nil : am_ent [] = [] := (rfl)
theorem am_ent_i {x : Int32} {r : List Value} : am_ent (.int x :: r) = some (.int x) :: am_ent r := (rfl)
theorem am_ent_r {x : Nat} {r : List Value} : am_ent (.ref x :: r) = some (.ref x) :: am_ent r := (rfl)
theorem am_ent_l {x : Int64} {r : List Value} : am_ent (.long x :: r) = some (.long x) :: none :: am_ent r := (rfl)
/-- a loop: as long as the measure falls -/
theorem am_lp_s {n j : Nat} {f : am_F} {cf : am_C} : am_lp (n + 1) j f cf = am_jn j (f cf) (am_lp n j f) := (rfl)
theorem am_rf_s {k : Nat} : va_rf (some k) = .ref k := (rfl)
theorem am_rf_n : va_rf none = .null := (rfl)
theorem am_kd_I {u : am_St} {k j a : Nat} {x : Int32} : am_kd (am_uI u k j x) a = am_kd u a := (rfl)
theorem am_kd_J {u : am_St} {k j a : Nat} {x : Int64} : am_kd (am_uJ u k j x) a = am_kd u a := (rfl)
theorem am_kd_R {u : am_St} {k j a : Nat} {x : Option Nat} : am_kd (am_uR u k j x) a = am_kd u a := (rfl)
theorem am_sz_I {u : am_St} {k j a : Nat} {x : Int32} : am_sz (am_uI u k j x) a = am_sz u a := (rfl)
theorem am_sz_J {u : am_St} {k j a : Nat} {x : Int64} : am_sz (am_uJ u k j x) a = am_sz u a := (rfl)
theorem am_sz_R {u : am_St} {k j a : Nat} {x : Option Nat} : am_sz (am_uR u k j x) a = am_sz u a := (rfl)
theorem am_h_I {u : am_St} {k j : Nat} {x : Int32} : (am_uI u k j x).1 = u.1 := (rfl)
theorem am_h_J {u : am_St} {k j : Nat} {x : Int64} : (am_uJ u k j x).1 = u.1 := (rfl)
theorem am_h_R {u : am_St} {k j : Nat} {x : Option Nat} : (am_uR u k j x).1 = u.1 := (rfl)
theorem am_len_I {u : am_St} {k j : Nat} {x : Int32} : am_len (am_uI u k j x) = am_len u := (rfl)
theorem am_len_J {u : am_St} {k j : Nat} {x : Int64} : am_len (am_uJ u k j x) = am_len u := (rfl)
theorem am_len_R {u : am_St} {k j : Nat} {x : Option Nat} : am_len (am_uR u k j x) = am_len u := (rfl)
theorem am_wt_I {u : am_St} {k j : Nat} {x : Int32} : am_wt (am_uI u k j x) = am_wt u := (rfl)
theorem am_wt_J {u : am_St} {k j : Nat} {x : Int64} : am_wt (am_uJ u k j x) = am_wt u := (rfl)
theorem am_wt_R {u : am_St} {k j : Nat} {x : Option Nat} : am_wt (am_uR u k j x) = am_wt u := (rfl)
theorem am_II {u : am_St} {k j a i : Nat} {x : Int32} : (am_uI u k j x).2.1 a i = if a = k ∧ i = j then x else u.2.1 a i := by
  simp only [am_uI, va_up]
  by_cases h : a = k
  · subst h
    by_cases h2 : i = j <;> simp [h2, va_up]
  · simp [h]
theorem am_IJ {u : am_St} {k j : Nat} {x : Int32} : (am_uI u k j x).2.2.1 = u.2.2.1 := (rfl)
theorem am_IR {u : am_St} {k j : Nat} {x : Int32} : (am_uI u k j x).2.2.2 = u.2.2.2 := (rfl)
theorem am_JI {u : am_St} {k j : Nat} {x : Int64} : (am_uJ u k j x).2.1 = u.2.1 := (rfl)
theorem am_JJ {u : am_St} {k j a i : Nat} {x : Int64} : (am_uJ u k j x).2.2.1 a i = if a = k ∧ i = j then x else u.2.2.1 a i := by
  simp only [am_uJ, va_up]
  by_cases h : a = k
  · subst h
    by_cases h2 : i = j <;> simp [h2, va_up]
  · simp [h]
theorem am_JR {u : am_St} {k j : Nat} {x : Int64} : (am_uJ u k j x).2.2.2 = u.2.2.2 := (rfl)
theorem am_RI {u : am_St} {k j : Nat} {x : Option Nat} : (am_uR u k j x).2.1 = u.2.1 := (rfl)
theorem am_RJ {u : am_St} {k j : Nat} {x : Option Nat} : (am_uR u k j x).2.2.1 = u.2.2.1 := (rfl)
theorem am_RR {u : am_St} {k j a i : Nat} {x : Option Nat} : (am_uR u k j x).2.2.2 a i = if a = k ∧ i = j then x else u.2.2.2 a i := by
  simp only [am_uR, va_up]
  by_cases h : a = k
  · subst h
    by_cases h2 : i = j <;> simp [h2, va_up]
  · simp [h]
theorem am_in {q n : Nat} (h : q < n) (hn : n < 2147483648) : (nI q < 0 ∨ n ≤ (nI q).toNatClampNeg) = False := by
  have h1 : (nI q).toNatClampNeg = q := nI_clamp (by omega)
  rw [h1]
  simp only [eq_iff_iff, iff_false, not_or]
  exact ⟨nI_pos (by omega), by omega⟩
theorem am_clm {q : Nat} (h : q < 2147483648) : (nI q).toNatClampNeg = q := nI_clamp h
/-- a loop that goes through the states C 0, C 1 .. C M and then ends with o -/
theorem am_for {h : Nat} {f : am_F} {o : am_O} (C : Nat → am_C) (M : Nat) (hs : ∀ k, k < M → f (C k) = some (.inl (h, C (k + 1)))) (he : f (C M) = some o) (ho : ∀ c, o ≠ .inl (h, c)) : ∀ n k, k ≤ M → M - k < n → am_lp n h f (C k) = some o := by
  intro n
  induction n with
  | zero => intro k h1 h2; omega
  | succ n ih =>
    intro k h1 h2
    rw [am_lp_s]
    by_cases hk : k < M
    · rw [hs k hk, am_jn_l, if_pos rfl]
      exact ih (k + 1) hk (by omega)
    · have : k = M := by omega
      subst this
      rw [he]
      match o, ho with
      | .inl (p, c), ho => rw [am_jn_l, if_neg (fun q => ho c (by rw [q]))]
      | .inr q, _ => rfl
theorem am_forX {h e : Nat} {f : am_F} {D : am_C} (C : Nat → am_C) (M : Nat) (hs : ∀ k, k < M → f (C k) = some (.inl (h, C (k + 1)))) (he : f (C M) = some (.inl (e, D))) (ho : e ≠ h) : ∀ n, M < n → am_lp n h f (C 0) = some (.inl (e, D)) :=
  fun n hn => am_for C M hs he (fun c q => by cases q; exact ho rfl) n 0 (Nat.zero_le _) (by omega)
theorem am_forR {h : Nat} {f : am_F} {q : Option Value × am_St} (C : Nat → am_C) (M : Nat) (hs : ∀ k, k < M → f (C k) = some (.inl (h, C (k + 1)))) (he : f (C M) = some (.inr q)) : ∀ n, M < n → am_lp n h f (C 0) = some (.inr q) :=
  fun n hn => am_for C M hs he (fun c q => by cases q) n 0 (Nat.zero_le _) (by omega)
theorem am_fr0 {h e n : Nat} {f : am_F} {c0 D : am_C} (C : Nat → am_C) (M : Nat) (h0 : c0 = C 0) (hn : M < n) (ho : e ≠ h) (hs : ∀ k, k < M → f (C k) = some (.inl (h, C (k + 1)))) (he : f (C M) = some (.inl (e, D))) : am_lp n h f c0 = some (.inl (e, D)) := by
  rw [h0]
  exact am_forX C M hs he ho n hn
theorem am_frR {h n : Nat} {f : am_F} {c0 : am_C} {q : Option Value × am_St} (C : Nat → am_C) (M : Nat) (h0 : c0 = C 0) (hn : M < n) (hs : ∀ k, k < M → f (C k) = some (.inl (h, C (k + 1)))) (he : f (C M) = some (.inr q)) : am_lp n h f c0 = some (.inr q) := by
  rw [h0]
  exact am_forR C M hs he n hn
-- numbers
theorem nx_neg {q : Nat} (h : q < 2147483648) : (nI q < 0) = False := eq_false (nI_pos h)
theorem nx_le {a b : Nat} (h : b < a) : (a ≤ b) = False := eq_false (by omega)
theorem nx_leI {a b : Nat} (ha : a < 2147483648) (hb : b < 2147483648) : (nI a ≤ nI b) = (a ≤ b) := propext (nI_leI ha hb)
theorem nx_ltI {a b : Nat} (ha : a < 2147483648) (hb : b < 2147483648) : (nI a < nI b) = (a < b) := propext (nI_ltI ha hb)
theorem nx_eqI {a b : Nat} (ha : a < 2147483648) (hb : b < 2147483648) : (nI a = nI b) = (a = b) := propext (nI_eq ha hb)
theorem nx_lit (n : Nat) : (OfNat.ofNat n : Int32) = nI n := (rfl)
theorem nx_0 : nI 0 = 0 := (rfl)
theorem nx_sub {a b : Nat} (h : b ≤ a) : nI a - nI b = nI (a - b) := pk_sub h
theorem nx_mul (a b : Nat) : nI a * nI b = nI (a * b) := pk_mul a b
