def wX (q : Nat → Nat) (k : Nat → ClassId) (u : tl_U) : va_W := match u with
  | (S, A) => [(q 0, .inr (6, [.ref (q 1), .ref (q 6), .ref (q 3), .ref (q 5), .ref (q 10), .ref (q 11), .ref (q 12), .int (S 0), .int (S 1), .int (S 2), .int (S 3), .int (S 4)])),
   (q 1, .inr (2, [.ref (q 2), .int (S 5), .int (S 6)])),
   (q 2, .inl (k 0, 96, .inl (A 0))),
   (q 3, .inr (3, [.ref (q 4), .int (S 7), .int (S 8), .int (S 9), .int (S 10)])),
   (q 4, .inl (k 1, 34, .inl (A 1))),
   (q 5, .inr (5, [.ref (q 6), .ref (q 8), .ref (q 9), .int (S 11), .int (S 12), .int (S 13), .int (S 14), .int (S 15)])),
   (q 6, .inr (4, [.ref (q 7), .int (S 16), .int (S 17)])),
   (q 7, .inl (k 2, 96, .inl (A 2))),
   (q 8, .inl (k 3, 10, .inl (A 3))),
   (q 9, .inl (k 4, 8, .inl (A 4))),
   (q 10, .inr (1, [.int (S 18), .int (S 19), .int (S 20), .int (S 21), .int (S 22)])),
   (q 11, .inr (0, [.int (S 23), .int (S 24), .int (S 25), .int (S 26), .int (S 27)])),
   (q 12, .inl (k 5, 3, .inl (A 5)))]
def tX (k : Nat → ClassId) : List (ClassId × FieldType) := [(k 0, .int), (k 1, .int), (k 2, .int), (k 3, .int), (k 4, .int), (k 5, .int)]
def wM (q : Nat → Nat) (k : Nat → ClassId) (u : tl_U) : va_W := match u with
  | (S, A) => [(q 0, .inr (7, [.ref (q 1), .int (S 0), .int (S 1), .int (S 2), .int (S 3), .int (S 4), .int (S 5), .int (S 6), .int (S 7), .int (S 8), .int (S 9), .int (S 10), .int (S 11), .int (S 12), .int (S 13), .int (S 14), .int (S 15), .int (S 16), .int (S 17), .int (S 18), .int (S 19), .ref (q 2), .int (S 20), .int (S 21), .int (S 22), .int (S 23), .ref (q 3), .int (S 24), .ref (q 4), .ref (q 5)])),
   (q 1, .inl (k 0, 96, .inl (A 0))),
   (q 2, .inl (k 1, 34, .inl (A 1))),
   (q 3, .inl (k 2, 20, .inl (A 2))),
   (q 4, .inl (k 3, 96, .inl (A 3))),
   (q 5, .inl (k 4, 8, .inl (A 4)))]
def tM (k : Nat → ClassId) : List (ClassId × FieldType) := [(k 0, .int), (k 1, .int), (k 2, .int), (k 3, .int), (k 4, .int)]
def wN (q : Nat → Nat) (k : Nat → ClassId) (u : tl_U) : va_W := match u with
  | (S, A) => [(q 0, .inr (2, [.ref (q 1), .int (S 0), .int (S 1)])),
   (q 1, .inl (k 0, 96, .inl (A 0)))]
def tN (k : Nat → ClassId) : List (ClassId × FieldType) := [(k 0, .int)]
theorem pX_Rc_22 {l : Launch} {R : Room} {nc ns : Nat} {Q : tl_Z → State → Prop} {D : va_G} {q : Nat → Nat} {k : Nat → ClassId} {nL : Nat} {z : tl_Z} {cc : ByteArray} {ret : Option FieldType} {pc : Nat} {lv : List (Nat × Value)} {rest : List Value} {S : SS} {A : AA} {v : Int32} (C : tl_Cx cc nL R_Rc ret D (tX k) z) (hdg : decode cc pc = .ok (.putfield 22, 3)) (kk : tl_At l R nc ns Q D (wX q k) nL z (pc + 3) lv (rest) ((va_up S 10 v), A)) : tl_At l R nc ns Q D (wX q k) nL z pc lv (.int v :: .ref (q 3) :: rest) (S, A) := by
  obtain ⟨p, e, s, m, args, below, meth, c, F⟩ := z
  obtain ⟨hx, hb, hml, hown, hts, hN, hK, hA, hlk, hr⟩ := C
  exact fun ls H locs hl hP hD hS => va_put (D := D) (ci := 3) (v := .int v) (ty := .int) (C := R_Rc) (T := F_Rc) (N := 5) hx hb hts lays_Rc ty_Rc tyok_Rc nm_Rc hown hK hP hD hS 3 rfl rfl 4 (by decide) (hts _ in_59) (fun _ h => h) rfl (by decide +kernel) rfl rfl (Nat.le_of_ble_eq_true rfl) hdg (fun H1 locs1 hP1 hD1 hS1 => kk ls H1 locs1 hl hP1 hD1 hS1)
theorem gX_Rc_19 {l : Launch} {R : Room} {nc ns : Nat} {Q : tl_Z → State → Prop} {D : va_G} {q : Nat → Nat} {k : Nat → ClassId} {nL : Nat} {z : tl_Z} {cc : ByteArray} {ret : Option FieldType} {pc : Nat} {lv : List (Nat × Value)} {rest : List Value} {S : SS} {A : AA} {v : Int32} (C : tl_Cx cc nL R_Rc ret D (tX k) z) (hv : S 8 = v) (hdg : decode cc pc = .ok (.getfield 19, 3)) (kk : tl_At l R nc ns Q D (wX q k) nL z (pc + 3) lv (.int v :: rest) (S, A)) : tl_At l R nc ns Q D (wX q k) nL z pc lv (.ref (q 3) :: rest) (S, A) := by
  subst hv
  obtain ⟨p, e, s, m, args, below, meth, c, F⟩ := z
  obtain ⟨hx, hb, hml, hown, hts, hN, hK, hA, hlk, hr⟩ := C
  exact fun ls H locs hl hP hD hS => va_get (D := D) (ci := 3) (v := .int (S 8)) (C := R_Rc) (T := F_Rc) (N := 5) hx hb hts lays_Rc hown hK hP 3 rfl rfl 2 (by decide) (hts _ in_56) (fun _ h => h) rfl hdg (kk ls H locs hl hP hD hS)
theorem gX_Rc_15 {l : Launch} {R : Room} {nc ns : Nat} {Q : tl_Z → State → Prop} {D : va_G} {q : Nat → Nat} {k : Nat → ClassId} {nL : Nat} {z : tl_Z} {cc : ByteArray} {ret : Option FieldType} {pc : Nat} {lv : List (Nat × Value)} {rest : List Value} {S : SS} {A : AA} {v : Int32} (C : tl_Cx cc nL R_Rc ret D (tX k) z) (hv : S 7 = v) (hdg : decode cc pc = .ok (.getfield 15, 3)) (kk : tl_At l R nc ns Q D (wX q k) nL z (pc + 3) lv (.int v :: rest) (S, A)) : tl_At l R nc ns Q D (wX q k) nL z pc lv (.ref (q 3) :: rest) (S, A) := by
  subst hv
  obtain ⟨p, e, s, m, args, below, meth, c, F⟩ := z
  obtain ⟨hx, hb, hml, hown, hts, hN, hK, hA, hlk, hr⟩ := C
  exact fun ls H locs hl hP hD hS => va_get (D := D) (ci := 3) (v := .int (S 7)) (C := R_Rc) (T := F_Rc) (N := 5) hx hb hts lays_Rc hown hK hP 3 rfl rfl 1 (by decide) (hts _ in_54) (fun _ h => h) rfl hdg (kk ls H locs hl hP hD hS)
theorem gX_Rc_11 {l : Launch} {R : Room} {nc ns : Nat} {Q : tl_Z → State → Prop} {D : va_G} {q : Nat → Nat} {k : Nat → ClassId} {nL : Nat} {z : tl_Z} {cc : ByteArray} {ret : Option FieldType} {pc : Nat} {lv : List (Nat × Value)} {rest : List Value} {S : SS} {A : AA} (C : tl_Cx cc nL R_Rc ret D (tX k) z) (hdg : decode cc pc = .ok (.getfield 11, 3)) (kk : tl_At l R nc ns Q D (wX q k) nL z (pc + 3) lv (.ref (q 4) :: rest) (S, A)) : tl_At l R nc ns Q D (wX q k) nL z pc lv (.ref (q 3) :: rest) (S, A) := by
  obtain ⟨p, e, s, m, args, below, meth, c, F⟩ := z
  obtain ⟨hx, hb, hml, hown, hts, hN, hK, hA, hlk, hr⟩ := C
  exact fun ls H locs hl hP hD hS => va_get (D := D) (ci := 3) (v := .ref (q 4)) (C := R_Rc) (T := F_Rc) (N := 5) hx hb hts lays_Rc hown hK hP 3 rfl rfl 0 (by decide) (hts _ in_52) (fun _ h => h) rfl hdg (kk ls H locs hl hP hD hS)
theorem pX_Rc_15 {l : Launch} {R : Room} {nc ns : Nat} {Q : tl_Z → State → Prop} {D : va_G} {q : Nat → Nat} {k : Nat → ClassId} {nL : Nat} {z : tl_Z} {cc : ByteArray} {ret : Option FieldType} {pc : Nat} {lv : List (Nat × Value)} {rest : List Value} {S : SS} {A : AA} {v : Int32} (C : tl_Cx cc nL R_Rc ret D (tX k) z) (hdg : decode cc pc = .ok (.putfield 15, 3)) (kk : tl_At l R nc ns Q D (wX q k) nL z (pc + 3) lv (rest) ((va_up S 7 v), A)) : tl_At l R nc ns Q D (wX q k) nL z pc lv (.int v :: .ref (q 3) :: rest) (S, A) := by
  obtain ⟨p, e, s, m, args, below, meth, c, F⟩ := z
  obtain ⟨hx, hb, hml, hown, hts, hN, hK, hA, hlk, hr⟩ := C
  exact fun ls H locs hl hP hD hS => va_put (D := D) (ci := 3) (v := .int v) (ty := .int) (C := R_Rc) (T := F_Rc) (N := 5) hx hb hts lays_Rc ty_Rc tyok_Rc nm_Rc hown hK hP hD hS 3 rfl rfl 1 (by decide) (hts _ in_54) (fun _ h => h) rfl (by decide +kernel) rfl rfl (Nat.le_of_ble_eq_true rfl) hdg (fun H1 locs1 hP1 hD1 hS1 => kk ls H1 locs1 hl hP1 hD1 hS1)
theorem pX_Rc_19 {l : Launch} {R : Room} {nc ns : Nat} {Q : tl_Z → State → Prop} {D : va_G} {q : Nat → Nat} {k : Nat → ClassId} {nL : Nat} {z : tl_Z} {cc : ByteArray} {ret : Option FieldType} {pc : Nat} {lv : List (Nat × Value)} {rest : List Value} {S : SS} {A : AA} {v : Int32} (C : tl_Cx cc nL R_Rc ret D (tX k) z) (hdg : decode cc pc = .ok (.putfield 19, 3)) (kk : tl_At l R nc ns Q D (wX q k) nL z (pc + 3) lv (rest) ((va_up S 8 v), A)) : tl_At l R nc ns Q D (wX q k) nL z pc lv (.int v :: .ref (q 3) :: rest) (S, A) := by
  obtain ⟨p, e, s, m, args, below, meth, c, F⟩ := z
  obtain ⟨hx, hb, hml, hown, hts, hN, hK, hA, hlk, hr⟩ := C
  exact fun ls H locs hl hP hD hS => va_put (D := D) (ci := 3) (v := .int v) (ty := .int) (C := R_Rc) (T := F_Rc) (N := 5) hx hb hts lays_Rc ty_Rc tyok_Rc nm_Rc hown hK hP hD hS 3 rfl rfl 2 (by decide) (hts _ in_56) (fun _ h => h) rfl (by decide +kernel) rfl rfl (Nat.le_of_ble_eq_true rfl) hdg (fun H1 locs1 hP1 hD1 hS1 => kk ls H1 locs1 hl hP1 hD1 hS1)
theorem gX_Rc_44 {l : Launch} {R : Room} {nc ns : Nat} {Q : tl_Z → State → Prop} {D : va_G} {q : Nat → Nat} {k : Nat → ClassId} {nL : Nat} {z : tl_Z} {cc : ByteArray} {ret : Option FieldType} {pc : Nat} {lv : List (Nat × Value)} {rest : List Value} {S : SS} {A : AA} {v : Int32} (C : tl_Cx cc nL R_Rc ret D (tX k) z) (hv : S 9 = v) (hdg : decode cc pc = .ok (.getfield 44, 3)) (kk : tl_At l R nc ns Q D (wX q k) nL z (pc + 3) lv (.int v :: rest) (S, A)) : tl_At l R nc ns Q D (wX q k) nL z pc lv (.ref (q 3) :: rest) (S, A) := by
  subst hv
  obtain ⟨p, e, s, m, args, below, meth, c, F⟩ := z
  obtain ⟨hx, hb, hml, hown, hts, hN, hK, hA, hlk, hr⟩ := C
  exact fun ls H locs hl hP hD hS => va_get (D := D) (ci := 3) (v := .int (S 9)) (C := R_Rc) (T := F_Rc) (N := 5) hx hb hts lays_Rc hown hK hP 3 rfl rfl 3 (by decide) (hts _ in_58) (fun _ h => h) rfl hdg (kk ls H locs hl hP hD hS)
theorem pX_Rc_44 {l : Launch} {R : Room} {nc ns : Nat} {Q : tl_Z → State → Prop} {D : va_G} {q : Nat → Nat} {k : Nat → ClassId} {nL : Nat} {z : tl_Z} {cc : ByteArray} {ret : Option FieldType} {pc : Nat} {lv : List (Nat × Value)} {rest : List Value} {S : SS} {A : AA} {v : Int32} (C : tl_Cx cc nL R_Rc ret D (tX k) z) (hdg : decode cc pc = .ok (.putfield 44, 3)) (kk : tl_At l R nc ns Q D (wX q k) nL z (pc + 3) lv (rest) ((va_up S 9 v), A)) : tl_At l R nc ns Q D (wX q k) nL z pc lv (.int v :: .ref (q 3) :: rest) (S, A) := by
  obtain ⟨p, e, s, m, args, below, meth, c, F⟩ := z
  obtain ⟨hx, hb, hml, hown, hts, hN, hK, hA, hlk, hr⟩ := C
  exact fun ls H locs hl hP hD hS => va_put (D := D) (ci := 3) (v := .int v) (ty := .int) (C := R_Rc) (T := F_Rc) (N := 5) hx hb hts lays_Rc ty_Rc tyok_Rc nm_Rc hown hK hP hD hS 3 rfl rfl 3 (by decide) (hts _ in_58) (fun _ h => h) rfl (by decide +kernel) rfl rfl (Nat.le_of_ble_eq_true rfl) hdg (fun H1 locs1 hP1 hD1 hS1 => kk ls H1 locs1 hl hP1 hD1 hS1)
theorem gX_Rw_15 {l : Launch} {R : Room} {nc ns : Nat} {Q : tl_Z → State → Prop} {D : va_G} {q : Nat → Nat} {k : Nat → ClassId} {nL : Nat} {z : tl_Z} {cc : ByteArray} {ret : Option FieldType} {pc : Nat} {lv : List (Nat × Value)} {rest : List Value} {S : SS} {A : AA} {v : Int32} (C : tl_Cx cc nL R_Rw ret D (tX k) z) (hv : S 17 = v) (hdg : decode cc pc = .ok (.getfield 15, 3)) (kk : tl_At l R nc ns Q D (wX q k) nL z (pc + 3) lv (.int v :: rest) (S, A)) : tl_At l R nc ns Q D (wX q k) nL z pc lv (.ref (q 6) :: rest) (S, A) := by
  subst hv
  obtain ⟨p, e, s, m, args, below, meth, c, F⟩ := z
  obtain ⟨hx, hb, hml, hown, hts, hN, hK, hA, hlk, hr⟩ := C
  exact fun ls H locs hl hP hD hS => va_get (D := D) (ci := 4) (v := .int (S 17)) (C := R_Rw) (T := F_Rw) (N := 3) hx hb hts lays_Rw hown hK hP 6 rfl rfl 2 (by decide) (hts _ in_85) (fun _ h => h) rfl hdg (kk ls H locs hl hP hD hS)
theorem gX_Rw_19 {l : Launch} {R : Room} {nc ns : Nat} {Q : tl_Z → State → Prop} {D : va_G} {q : Nat → Nat} {k : Nat → ClassId} {nL : Nat} {z : tl_Z} {cc : ByteArray} {ret : Option FieldType} {pc : Nat} {lv : List (Nat × Value)} {rest : List Value} {S : SS} {A : AA} {v : Int32} (C : tl_Cx cc nL R_Rw ret D (tX k) z) (hv : S 16 = v) (hdg : decode cc pc = .ok (.getfield 19, 3)) (kk : tl_At l R nc ns Q D (wX q k) nL z (pc + 3) lv (.int v :: rest) (S, A)) : tl_At l R nc ns Q D (wX q k) nL z pc lv (.ref (q 6) :: rest) (S, A) := by
  subst hv
  obtain ⟨p, e, s, m, args, below, meth, c, F⟩ := z
  obtain ⟨hx, hb, hml, hown, hts, hN, hK, hA, hlk, hr⟩ := C
  exact fun ls H locs hl hP hD hS => va_get (D := D) (ci := 4) (v := .int (S 16)) (C := R_Rw) (T := F_Rw) (N := 3) hx hb hts lays_Rw hown hK hP 6 rfl rfl 1 (by decide) (hts _ in_84) (fun _ h => h) rfl hdg (kk ls H locs hl hP hD hS)
theorem gX_Rw_11 {l : Launch} {R : Room} {nc ns : Nat} {Q : tl_Z → State → Prop} {D : va_G} {q : Nat → Nat} {k : Nat → ClassId} {nL : Nat} {z : tl_Z} {cc : ByteArray} {ret : Option FieldType} {pc : Nat} {lv : List (Nat × Value)} {rest : List Value} {S : SS} {A : AA} (C : tl_Cx cc nL R_Rw ret D (tX k) z) (hdg : decode cc pc = .ok (.getfield 11, 3)) (kk : tl_At l R nc ns Q D (wX q k) nL z (pc + 3) lv (.ref (q 7) :: rest) (S, A)) : tl_At l R nc ns Q D (wX q k) nL z pc lv (.ref (q 6) :: rest) (S, A) := by
  obtain ⟨p, e, s, m, args, below, meth, c, F⟩ := z
  obtain ⟨hx, hb, hml, hown, hts, hN, hK, hA, hlk, hr⟩ := C
  exact fun ls H locs hl hP hD hS => va_get (D := D) (ci := 4) (v := .ref (q 7)) (C := R_Rw) (T := F_Rw) (N := 3) hx hb hts lays_Rw hown hK hP 6 rfl rfl 0 (by decide) (hts _ in_83) (fun _ h => h) rfl hdg (kk ls H locs hl hP hD hS)
theorem pX_Rw_15 {l : Launch} {R : Room} {nc ns : Nat} {Q : tl_Z → State → Prop} {D : va_G} {q : Nat → Nat} {k : Nat → ClassId} {nL : Nat} {z : tl_Z} {cc : ByteArray} {ret : Option FieldType} {pc : Nat} {lv : List (Nat × Value)} {rest : List Value} {S : SS} {A : AA} {v : Int32} (C : tl_Cx cc nL R_Rw ret D (tX k) z) (hdg : decode cc pc = .ok (.putfield 15, 3)) (kk : tl_At l R nc ns Q D (wX q k) nL z (pc + 3) lv (rest) ((va_up S 17 v), A)) : tl_At l R nc ns Q D (wX q k) nL z pc lv (.int v :: .ref (q 6) :: rest) (S, A) := by
  obtain ⟨p, e, s, m, args, below, meth, c, F⟩ := z
  obtain ⟨hx, hb, hml, hown, hts, hN, hK, hA, hlk, hr⟩ := C
  exact fun ls H locs hl hP hD hS => va_put (D := D) (ci := 4) (v := .int v) (ty := .int) (C := R_Rw) (T := F_Rw) (N := 3) hx hb hts lays_Rw ty_Rw tyok_Rw nm_Rw hown hK hP hD hS 6 rfl rfl 2 (by decide) (hts _ in_85) (fun _ h => h) rfl (by decide +kernel) rfl rfl (Nat.le_of_ble_eq_true rfl) hdg (fun H1 locs1 hP1 hD1 hS1 => kk ls H1 locs1 hl hP1 hD1 hS1)
theorem gX_Sd_33 {l : Launch} {R : Room} {nc ns : Nat} {Q : tl_Z → State → Prop} {D : va_G} {q : Nat → Nat} {k : Nat → ClassId} {nL : Nat} {z : tl_Z} {cc : ByteArray} {ret : Option FieldType} {pc : Nat} {lv : List (Nat × Value)} {rest : List Value} {S : SS} {A : AA} {v : Int32} (C : tl_Cx cc nL R_Sd ret D (tX k) z) (hv : S 12 = v) (hdg : decode cc pc = .ok (.getfield 33, 3)) (kk : tl_At l R nc ns Q D (wX q k) nL z (pc + 3) lv (.int v :: rest) (S, A)) : tl_At l R nc ns Q D (wX q k) nL z pc lv (.ref (q 5) :: rest) (S, A) := by
  subst hv
  obtain ⟨p, e, s, m, args, below, meth, c, F⟩ := z
  obtain ⟨hx, hb, hml, hown, hts, hN, hK, hA, hlk, hr⟩ := C
  exact fun ls H locs hl hP hD hS => va_get (D := D) (ci := 5) (v := .int (S 12)) (C := R_Sd) (T := F_Sd) (N := 8) hx hb hts lays_Sd hown hK hP 5 rfl rfl 4 (by decide) (hts _ in_99) (fun _ h => h) rfl hdg (kk ls H locs hl hP hD hS)
theorem gX_Sd_25 {l : Launch} {R : Room} {nc ns : Nat} {Q : tl_Z → State → Prop} {D : va_G} {q : Nat → Nat} {k : Nat → ClassId} {nL : Nat} {z : tl_Z} {cc : ByteArray} {ret : Option FieldType} {pc : Nat} {lv : List (Nat × Value)} {rest : List Value} {S : SS} {A : AA} {v : Int32} (C : tl_Cx cc nL R_Sd ret D (tX k) z) (hv : S 11 = v) (hdg : decode cc pc = .ok (.getfield 25, 3)) (kk : tl_At l R nc ns Q D (wX q k) nL z (pc + 3) lv (.int v :: rest) (S, A)) : tl_At l R nc ns Q D (wX q k) nL z pc lv (.ref (q 5) :: rest) (S, A) := by
  subst hv
  obtain ⟨p, e, s, m, args, below, meth, c, F⟩ := z
  obtain ⟨hx, hb, hml, hown, hts, hN, hK, hA, hlk, hr⟩ := C
  exact fun ls H locs hl hP hD hS => va_get (D := D) (ci := 5) (v := .int (S 11)) (C := R_Sd) (T := F_Sd) (N := 8) hx hb hts lays_Sd hown hK hP 5 rfl rfl 3 (by decide) (hts _ in_98) (fun _ h => h) rfl hdg (kk ls H locs hl hP hD hS)
theorem gX_Sd_22 {l : Launch} {R : Room} {nc ns : Nat} {Q : tl_Z → State → Prop} {D : va_G} {q : Nat → Nat} {k : Nat → ClassId} {nL : Nat} {z : tl_Z} {cc : ByteArray} {ret : Option FieldType} {pc : Nat} {lv : List (Nat × Value)} {rest : List Value} {S : SS} {A : AA} (C : tl_Cx cc nL R_Sd ret D (tX k) z) (hdg : decode cc pc = .ok (.getfield 22, 3)) (kk : tl_At l R nc ns Q D (wX q k) nL z (pc + 3) lv (.ref (q 9) :: rest) (S, A)) : tl_At l R nc ns Q D (wX q k) nL z pc lv (.ref (q 5) :: rest) (S, A) := by
  obtain ⟨p, e, s, m, args, below, meth, c, F⟩ := z
  obtain ⟨hx, hb, hml, hown, hts, hN, hK, hA, hlk, hr⟩ := C
  exact fun ls H locs hl hP hD hS => va_get (D := D) (ci := 5) (v := .ref (q 9)) (C := R_Sd) (T := F_Sd) (N := 8) hx hb hts lays_Sd hown hK hP 5 rfl rfl 2 (by decide) (hts _ in_97) (fun _ h => h) rfl hdg (kk ls H locs hl hP hD hS)
theorem gX_Sd_18 {l : Launch} {R : Room} {nc ns : Nat} {Q : tl_Z → State → Prop} {D : va_G} {q : Nat → Nat} {k : Nat → ClassId} {nL : Nat} {z : tl_Z} {cc : ByteArray} {ret : Option FieldType} {pc : Nat} {lv : List (Nat × Value)} {rest : List Value} {S : SS} {A : AA} (C : tl_Cx cc nL R_Sd ret D (tX k) z) (hdg : decode cc pc = .ok (.getfield 18, 3)) (kk : tl_At l R nc ns Q D (wX q k) nL z (pc + 3) lv (.ref (q 8) :: rest) (S, A)) : tl_At l R nc ns Q D (wX q k) nL z pc lv (.ref (q 5) :: rest) (S, A) := by
  obtain ⟨p, e, s, m, args, below, meth, c, F⟩ := z
  obtain ⟨hx, hb, hml, hown, hts, hN, hK, hA, hlk, hr⟩ := C
  exact fun ls H locs hl hP hD hS => va_get (D := D) (ci := 5) (v := .ref (q 8)) (C := R_Sd) (T := F_Sd) (N := 8) hx hb hts lays_Sd hown hK hP 5 rfl rfl 1 (by decide) (hts _ in_96) (fun _ h => h) rfl hdg (kk ls H locs hl hP hD hS)
theorem pX_Sd_33 {l : Launch} {R : Room} {nc ns : Nat} {Q : tl_Z → State → Prop} {D : va_G} {q : Nat → Nat} {k : Nat → ClassId} {nL : Nat} {z : tl_Z} {cc : ByteArray} {ret : Option FieldType} {pc : Nat} {lv : List (Nat × Value)} {rest : List Value} {S : SS} {A : AA} {v : Int32} (C : tl_Cx cc nL R_Sd ret D (tX k) z) (hdg : decode cc pc = .ok (.putfield 33, 3)) (kk : tl_At l R nc ns Q D (wX q k) nL z (pc + 3) lv (rest) ((va_up S 12 v), A)) : tl_At l R nc ns Q D (wX q k) nL z pc lv (.int v :: .ref (q 5) :: rest) (S, A) := by
  obtain ⟨p, e, s, m, args, below, meth, c, F⟩ := z
  obtain ⟨hx, hb, hml, hown, hts, hN, hK, hA, hlk, hr⟩ := C
  exact fun ls H locs hl hP hD hS => va_put (D := D) (ci := 5) (v := .int v) (ty := .int) (C := R_Sd) (T := F_Sd) (N := 8) hx hb hts lays_Sd ty_Sd tyok_Sd nm_Sd hown hK hP hD hS 5 rfl rfl 4 (by decide) (hts _ in_99) (fun _ h => h) rfl (by decide +kernel) rfl rfl (Nat.le_of_ble_eq_true rfl) hdg (fun H1 locs1 hP1 hD1 hS1 => kk ls H1 locs1 hl hP1 hD1 hS1)
theorem gX_Sd_12 {l : Launch} {R : Room} {nc ns : Nat} {Q : tl_Z → State → Prop} {D : va_G} {q : Nat → Nat} {k : Nat → ClassId} {nL : Nat} {z : tl_Z} {cc : ByteArray} {ret : Option FieldType} {pc : Nat} {lv : List (Nat × Value)} {rest : List Value} {S : SS} {A : AA} (C : tl_Cx cc nL R_Sd ret D (tX k) z) (hdg : decode cc pc = .ok (.getfield 12, 3)) (kk : tl_At l R nc ns Q D (wX q k) nL z (pc + 3) lv (.ref (q 6) :: rest) (S, A)) : tl_At l R nc ns Q D (wX q k) nL z pc lv (.ref (q 5) :: rest) (S, A) := by
  obtain ⟨p, e, s, m, args, below, meth, c, F⟩ := z
  obtain ⟨hx, hb, hml, hown, hts, hN, hK, hA, hlk, hr⟩ := C
  exact fun ls H locs hl hP hD hS => va_get (D := D) (ci := 5) (v := .ref (q 6)) (C := R_Sd) (T := F_Sd) (N := 8) hx hb hts lays_Sd hown hK hP 5 rfl rfl 0 (by decide) (hts _ in_94) (fun _ h => h) rfl hdg (kk ls H locs hl hP hD hS)
theorem pX_Sd_25 {l : Launch} {R : Room} {nc ns : Nat} {Q : tl_Z → State → Prop} {D : va_G} {q : Nat → Nat} {k : Nat → ClassId} {nL : Nat} {z : tl_Z} {cc : ByteArray} {ret : Option FieldType} {pc : Nat} {lv : List (Nat × Value)} {rest : List Value} {S : SS} {A : AA} {v : Int32} (C : tl_Cx cc nL R_Sd ret D (tX k) z) (hdg : decode cc pc = .ok (.putfield 25, 3)) (kk : tl_At l R nc ns Q D (wX q k) nL z (pc + 3) lv (rest) ((va_up S 11 v), A)) : tl_At l R nc ns Q D (wX q k) nL z pc lv (.int v :: .ref (q 5) :: rest) (S, A) := by
  obtain ⟨p, e, s, m, args, below, meth, c, F⟩ := z
  obtain ⟨hx, hb, hml, hown, hts, hN, hK, hA, hlk, hr⟩ := C
  exact fun ls H locs hl hP hD hS => va_put (D := D) (ci := 5) (v := .int v) (ty := .int) (C := R_Sd) (T := F_Sd) (N := 8) hx hb hts lays_Sd ty_Sd tyok_Sd nm_Sd hown hK hP hD hS 5 rfl rfl 3 (by decide) (hts _ in_98) (fun _ h => h) rfl (by decide +kernel) rfl rfl (Nat.le_of_ble_eq_true rfl) hdg (fun H1 locs1 hP1 hD1 hS1 => kk ls H1 locs1 hl hP1 hD1 hS1)
theorem pX_Sd_42 {l : Launch} {R : Room} {nc ns : Nat} {Q : tl_Z → State → Prop} {D : va_G} {q : Nat → Nat} {k : Nat → ClassId} {nL : Nat} {z : tl_Z} {cc : ByteArray} {ret : Option FieldType} {pc : Nat} {lv : List (Nat × Value)} {rest : List Value} {S : SS} {A : AA} {v : Int32} (C : tl_Cx cc nL R_Sd ret D (tX k) z) (hz : tl_z v) (hdg : decode cc pc = .ok (.putfield 42, 3)) (kk : tl_At l R nc ns Q D (wX q k) nL z (pc + 3) lv (rest) ((va_up S 15 v), A)) : tl_At l R nc ns Q D (wX q k) nL z pc lv (.int v :: .ref (q 5) :: rest) (S, A) := by
  obtain ⟨p, e, s, m, args, below, meth, c, F⟩ := z
  obtain ⟨hx, hb, hml, hown, hts, hN, hK, hA, hlk, hr⟩ := C
  exact fun ls H locs hl hP hD hS => va_put (D := D) (ci := 5) (v := .int v) (ty := .boolean) (C := R_Sd) (T := F_Sd) (N := 8) hx hb hts lays_Sd ty_Sd tyok_Sd nm_Sd hown hK hP hD hS 5 rfl rfl 7 (by decide) (hts _ in_103) (fun _ h => h) rfl (by decide +kernel) (tl_zn hz) (tl_zf hz) (Nat.le_of_ble_eq_true rfl) hdg (fun H1 locs1 hP1 hD1 hS1 => kk ls H1 locs1 hl hP1 hD1 hS1)
theorem gX_Sd_39 {l : Launch} {R : Room} {nc ns : Nat} {Q : tl_Z → State → Prop} {D : va_G} {q : Nat → Nat} {k : Nat → ClassId} {nL : Nat} {z : tl_Z} {cc : ByteArray} {ret : Option FieldType} {pc : Nat} {lv : List (Nat × Value)} {rest : List Value} {S : SS} {A : AA} {v : Int32} (C : tl_Cx cc nL R_Sd ret D (tX k) z) (hv : S 13 = v) (hdg : decode cc pc = .ok (.getfield 39, 3)) (kk : tl_At l R nc ns Q D (wX q k) nL z (pc + 3) lv (.int v :: rest) (S, A)) : tl_At l R nc ns Q D (wX q k) nL z pc lv (.ref (q 5) :: rest) (S, A) := by
  subst hv
  obtain ⟨p, e, s, m, args, below, meth, c, F⟩ := z
  obtain ⟨hx, hb, hml, hown, hts, hN, hK, hA, hlk, hr⟩ := C
  exact fun ls H locs hl hP hD hS => va_get (D := D) (ci := 5) (v := .int (S 13)) (C := R_Sd) (T := F_Sd) (N := 8) hx hb hts lays_Sd hown hK hP 5 rfl rfl 5 (by decide) (hts _ in_100) (fun _ h => h) rfl hdg (kk ls H locs hl hP hD hS)
theorem pX_Sd_39 {l : Launch} {R : Room} {nc ns : Nat} {Q : tl_Z → State → Prop} {D : va_G} {q : Nat → Nat} {k : Nat → ClassId} {nL : Nat} {z : tl_Z} {cc : ByteArray} {ret : Option FieldType} {pc : Nat} {lv : List (Nat × Value)} {rest : List Value} {S : SS} {A : AA} {v : Int32} (C : tl_Cx cc nL R_Sd ret D (tX k) z) (hdg : decode cc pc = .ok (.putfield 39, 3)) (kk : tl_At l R nc ns Q D (wX q k) nL z (pc + 3) lv (rest) ((va_up S 13 v), A)) : tl_At l R nc ns Q D (wX q k) nL z pc lv (.int v :: .ref (q 5) :: rest) (S, A) := by
  obtain ⟨p, e, s, m, args, below, meth, c, F⟩ := z
  obtain ⟨hx, hb, hml, hown, hts, hN, hK, hA, hlk, hr⟩ := C
  exact fun ls H locs hl hP hD hS => va_put (D := D) (ci := 5) (v := .int v) (ty := .int) (C := R_Sd) (T := F_Sd) (N := 8) hx hb hts lays_Sd ty_Sd tyok_Sd nm_Sd hown hK hP hD hS 5 rfl rfl 5 (by decide) (hts _ in_100) (fun _ h => h) rfl (by decide +kernel) rfl rfl (Nat.le_of_ble_eq_true rfl) hdg (fun H1 locs1 hP1 hD1 hS1 => kk ls H1 locs1 hl hP1 hD1 hS1)
theorem pX_Sd_46 {l : Launch} {R : Room} {nc ns : Nat} {Q : tl_Z → State → Prop} {D : va_G} {q : Nat → Nat} {k : Nat → ClassId} {nL : Nat} {z : tl_Z} {cc : ByteArray} {ret : Option FieldType} {pc : Nat} {lv : List (Nat × Value)} {rest : List Value} {S : SS} {A : AA} {v : Int32} (C : tl_Cx cc nL R_Sd ret D (tX k) z) (hdg : decode cc pc = .ok (.putfield 46, 3)) (kk : tl_At l R nc ns Q D (wX q k) nL z (pc + 3) lv (rest) ((va_up S 14 v), A)) : tl_At l R nc ns Q D (wX q k) nL z pc lv (.int v :: .ref (q 5) :: rest) (S, A) := by
  obtain ⟨p, e, s, m, args, below, meth, c, F⟩ := z
  obtain ⟨hx, hb, hml, hown, hts, hN, hK, hA, hlk, hr⟩ := C
  exact fun ls H locs hl hP hD hS => va_put (D := D) (ci := 5) (v := .int v) (ty := .int) (C := R_Sd) (T := F_Sd) (N := 8) hx hb hts lays_Sd ty_Sd tyok_Sd nm_Sd hown hK hP hD hS 5 rfl rfl 6 (by decide) (hts _ in_101) (fun _ h => h) rfl (by decide +kernel) rfl rfl (Nat.le_of_ble_eq_true rfl) hdg (fun H1 locs1 hP1 hD1 hS1 => kk ls H1 locs1 hl hP1 hD1 hS1)
theorem gX_T_26 {l : Launch} {R : Room} {nc ns : Nat} {Q : tl_Z → State → Prop} {D : va_G} {q : Nat → Nat} {k : Nat → ClassId} {nL : Nat} {z : tl_Z} {cc : ByteArray} {ret : Option FieldType} {pc : Nat} {lv : List (Nat × Value)} {rest : List Value} {S : SS} {A : AA} (C : tl_Cx cc nL R_T ret D (tX k) z) (hdg : decode cc pc = .ok (.getfield 26, 3)) (kk : tl_At l R nc ns Q D (wX q k) nL z (pc + 3) lv (.ref (q 5) :: rest) (S, A)) : tl_At l R nc ns Q D (wX q k) nL z pc lv (.ref (q 0) :: rest) (S, A) := by
  obtain ⟨p, e, s, m, args, below, meth, c, F⟩ := z
  obtain ⟨hx, hb, hml, hown, hts, hN, hK, hA, hlk, hr⟩ := C
  exact fun ls H locs hl hP hD hS => va_get (D := D) (ci := 6) (v := .ref (q 5)) (C := R_T) (T := F_T) (N := 12) hx hb hts lays_T hown hK hP 0 rfl rfl 3 (by decide) (hts _ in_208) (fun _ h => h) rfl hdg (kk ls H locs hl hP hD hS)
theorem gX_T_64 {l : Launch} {R : Room} {nc ns : Nat} {Q : tl_Z → State → Prop} {D : va_G} {q : Nat → Nat} {k : Nat → ClassId} {nL : Nat} {z : tl_Z} {cc : ByteArray} {ret : Option FieldType} {pc : Nat} {lv : List (Nat × Value)} {rest : List Value} {S : SS} {A : AA} {v : Int32} (C : tl_Cx cc nL R_T ret D (tX k) z) (hv : S 15 = v) (hdg : decode cc pc = .ok (.getfield 64, 3)) (kk : tl_At l R nc ns Q D (wX q k) nL z (pc + 3) lv (.int v :: rest) (S, A)) : tl_At l R nc ns Q D (wX q k) nL z pc lv (.ref (q 5) :: rest) (S, A) := by
  subst hv
  obtain ⟨p, e, s, m, args, below, meth, c, F⟩ := z
  obtain ⟨hx, hb, hml, hown, hts, hN, hK, hA, hlk, hr⟩ := C
  exact fun ls H locs hl hP hD hS => va_getN (D := D) (ci := 5) (v := .int (S 15)) (C := R_Sd) (T := F_Sd) (N := 8) hx hb hts lays_Sd hown hK hP 5 rfl rfl 7 (by decide) (va_Nw.use rfl hN.2.2.2.2.2.2.2.1) (fun _ h => h) rfl hdg (kk ls H locs hl hP hD hS)
theorem pX_Dl_9 {l : Launch} {R : Room} {nc ns : Nat} {Q : tl_Z → State → Prop} {D : va_G} {q : Nat → Nat} {k : Nat → ClassId} {nL : Nat} {z : tl_Z} {cc : ByteArray} {ret : Option FieldType} {pc : Nat} {lv : List (Nat × Value)} {rest : List Value} {S : SS} {A : AA} {v : Int32} (C : tl_Cx cc nL R_Dl ret D (tX k) z) (hz : tl_z v) (hdg : decode cc pc = .ok (.putfield 9, 3)) (kk : tl_At l R nc ns Q D (wX q k) nL z (pc + 3) lv (rest) ((va_up S 23 v), A)) : tl_At l R nc ns Q D (wX q k) nL z pc lv (.int v :: .ref (q 11) :: rest) (S, A) := by
  obtain ⟨p, e, s, m, args, below, meth, c, F⟩ := z
  obtain ⟨hx, hb, hml, hown, hts, hN, hK, hA, hlk, hr⟩ := C
  exact fun ls H locs hl hP hD hS => va_put (D := D) (ci := 0) (v := .int v) (ty := .boolean) (C := R_Dl) (T := F_Dl) (N := 5) hx hb hts lays_Dl ty_Dl tyok_Dl nm_Dl hown hK hP hD hS 11 rfl rfl 0 (by decide) (hts _ in_151) (fun _ h => h) rfl (by decide +kernel) (tl_zn hz) (tl_zf hz) (Nat.le_of_ble_eq_true rfl) hdg (fun H1 locs1 hP1 hD1 hS1 => kk ls H1 locs1 hl hP1 hD1 hS1)
theorem pX_Lk_19 {l : Launch} {R : Room} {nc ns : Nat} {Q : tl_Z → State → Prop} {D : va_G} {q : Nat → Nat} {k : Nat → ClassId} {nL : Nat} {z : tl_Z} {cc : ByteArray} {ret : Option FieldType} {pc : Nat} {lv : List (Nat × Value)} {rest : List Value} {S : SS} {A : AA} {v : Int32} (C : tl_Cx cc nL R_Lk ret D (tX k) z) (hz : tl_z v) (hdg : decode cc pc = .ok (.putfield 19, 3)) (kk : tl_At l R nc ns Q D (wX q k) nL z (pc + 3) lv (rest) ((va_up S 18 v), A)) : tl_At l R nc ns Q D (wX q k) nL z pc lv (.int v :: .ref (q 10) :: rest) (S, A) := by
  obtain ⟨p, e, s, m, args, below, meth, c, F⟩ := z
  obtain ⟨hx, hb, hml, hown, hts, hN, hK, hA, hlk, hr⟩ := C
  exact fun ls H locs hl hP hD hS => va_put (D := D) (ci := 1) (v := .int v) (ty := .boolean) (C := R_Lk) (T := F_Lk) (N := 5) hx hb hts lays_Lk ty_Lk tyok_Lk nm_Lk hown hK hP hD hS 10 rfl rfl 0 (by decide) (hts _ in_127) (fun _ h => h) rfl (by decide +kernel) (tl_zn hz) (tl_zf hz) (Nat.le_of_ble_eq_true rfl) hdg (fun H1 locs1 hP1 hD1 hS1 => kk ls H1 locs1 hl hP1 hD1 hS1)
theorem pX_Lk_23 {l : Launch} {R : Room} {nc ns : Nat} {Q : tl_Z → State → Prop} {D : va_G} {q : Nat → Nat} {k : Nat → ClassId} {nL : Nat} {z : tl_Z} {cc : ByteArray} {ret : Option FieldType} {pc : Nat} {lv : List (Nat × Value)} {rest : List Value} {S : SS} {A : AA} {v : Int32} (C : tl_Cx cc nL R_Lk ret D (tX k) z) (hdg : decode cc pc = .ok (.putfield 23, 3)) (kk : tl_At l R nc ns Q D (wX q k) nL z (pc + 3) lv (rest) ((va_up S 19 v), A)) : tl_At l R nc ns Q D (wX q k) nL z pc lv (.int v :: .ref (q 10) :: rest) (S, A) := by
  obtain ⟨p, e, s, m, args, below, meth, c, F⟩ := z
  obtain ⟨hx, hb, hml, hown, hts, hN, hK, hA, hlk, hr⟩ := C
  exact fun ls H locs hl hP hD hS => va_put (D := D) (ci := 1) (v := .int v) (ty := .int) (C := R_Lk) (T := F_Lk) (N := 5) hx hb hts lays_Lk ty_Lk tyok_Lk nm_Lk hown hK hP hD hS 10 rfl rfl 1 (by decide) (hts _ in_129) (fun _ h => h) rfl (by decide +kernel) rfl rfl (Nat.le_of_ble_eq_true rfl) hdg (fun H1 locs1 hP1 hD1 hS1 => kk ls H1 locs1 hl hP1 hD1 hS1)
theorem pX_Lk_12 {l : Launch} {R : Room} {nc ns : Nat} {Q : tl_Z → State → Prop} {D : va_G} {q : Nat → Nat} {k : Nat → ClassId} {nL : Nat} {z : tl_Z} {cc : ByteArray} {ret : Option FieldType} {pc : Nat} {lv : List (Nat × Value)} {rest : List Value} {S : SS} {A : AA} {v : Int32} (C : tl_Cx cc nL R_Lk ret D (tX k) z) (hdg : decode cc pc = .ok (.putfield 12, 3)) (kk : tl_At l R nc ns Q D (wX q k) nL z (pc + 3) lv (rest) ((va_up S 21 v), A)) : tl_At l R nc ns Q D (wX q k) nL z pc lv (.int v :: .ref (q 10) :: rest) (S, A) := by
  obtain ⟨p, e, s, m, args, below, meth, c, F⟩ := z
  obtain ⟨hx, hb, hml, hown, hts, hN, hK, hA, hlk, hr⟩ := C
  exact fun ls H locs hl hP hD hS => va_put (D := D) (ci := 1) (v := .int v) (ty := .int) (C := R_Lk) (T := F_Lk) (N := 5) hx hb hts lays_Lk ty_Lk tyok_Lk nm_Lk hown hK hP hD hS 10 rfl rfl 3 (by decide) (hts _ in_131) (fun _ h => h) rfl (by decide +kernel) rfl rfl (Nat.le_of_ble_eq_true rfl) hdg (fun H1 locs1 hP1 hD1 hS1 => kk ls H1 locs1 hl hP1 hD1 hS1)
theorem pX_Lk_16 {l : Launch} {R : Room} {nc ns : Nat} {Q : tl_Z → State → Prop} {D : va_G} {q : Nat → Nat} {k : Nat → ClassId} {nL : Nat} {z : tl_Z} {cc : ByteArray} {ret : Option FieldType} {pc : Nat} {lv : List (Nat × Value)} {rest : List Value} {S : SS} {A : AA} {v : Int32} (C : tl_Cx cc nL R_Lk ret D (tX k) z) (hdg : decode cc pc = .ok (.putfield 16, 3)) (kk : tl_At l R nc ns Q D (wX q k) nL z (pc + 3) lv (rest) ((va_up S 22 v), A)) : tl_At l R nc ns Q D (wX q k) nL z pc lv (.int v :: .ref (q 10) :: rest) (S, A) := by
  obtain ⟨p, e, s, m, args, below, meth, c, F⟩ := z
  obtain ⟨hx, hb, hml, hown, hts, hN, hK, hA, hlk, hr⟩ := C
  exact fun ls H locs hl hP hD hS => va_put (D := D) (ci := 1) (v := .int v) (ty := .int) (C := R_Lk) (T := F_Lk) (N := 5) hx hb hts lays_Lk ty_Lk tyok_Lk nm_Lk hown hK hP hD hS 10 rfl rfl 4 (by decide) (hts _ in_132) (fun _ h => h) rfl (by decide +kernel) rfl rfl (Nat.le_of_ble_eq_true rfl) hdg (fun H1 locs1 hP1 hD1 hS1 => kk ls H1 locs1 hl hP1 hD1 hS1)
theorem gX_Mm_11 {l : Launch} {R : Room} {nc ns : Nat} {Q : tl_Z → State → Prop} {D : va_G} {q : Nat → Nat} {k : Nat → ClassId} {nL : Nat} {z : tl_Z} {cc : ByteArray} {ret : Option FieldType} {pc : Nat} {lv : List (Nat × Value)} {rest : List Value} {S : SS} {A : AA} (C : tl_Cx cc nL R_Mm ret D (tX k) z) (hdg : decode cc pc = .ok (.getfield 11, 3)) (kk : tl_At l R nc ns Q D (wX q k) nL z (pc + 3) lv (.ref (q 2) :: rest) (S, A)) : tl_At l R nc ns Q D (wX q k) nL z pc lv (.ref (q 1) :: rest) (S, A) := by
  obtain ⟨p, e, s, m, args, below, meth, c, F⟩ := z
  obtain ⟨hx, hb, hml, hown, hts, hN, hK, hA, hlk, hr⟩ := C
  exact fun ls H locs hl hP hD hS => va_get (D := D) (ci := 2) (v := .ref (q 2)) (C := R_Mm) (T := F_Mm) (N := 3) hx hb hts lays_Mm hown hK hP 1 rfl rfl 0 (by decide) (hts _ in_33) (fun _ h => h) rfl hdg (kk ls H locs hl hP hD hS)
theorem gX_T_10 {l : Launch} {R : Room} {nc ns : Nat} {Q : tl_Z → State → Prop} {D : va_G} {q : Nat → Nat} {k : Nat → ClassId} {nL : Nat} {z : tl_Z} {cc : ByteArray} {ret : Option FieldType} {pc : Nat} {lv : List (Nat × Value)} {rest : List Value} {S : SS} {A : AA} (C : tl_Cx cc nL R_T ret D (tX k) z) (hdg : decode cc pc = .ok (.getfield 10, 3)) (kk : tl_At l R nc ns Q D (wX q k) nL z (pc + 3) lv (.ref (q 1) :: rest) (S, A)) : tl_At l R nc ns Q D (wX q k) nL z pc lv (.ref (q 0) :: rest) (S, A) := by
  obtain ⟨p, e, s, m, args, below, meth, c, F⟩ := z
  obtain ⟨hx, hb, hml, hown, hts, hN, hK, hA, hlk, hr⟩ := C
  exact fun ls H locs hl hP hD hS => va_get (D := D) (ci := 6) (v := .ref (q 1)) (C := R_T) (T := F_T) (N := 12) hx hb hts lays_T hown hK hP 0 rfl rfl 0 (by decide) (hts _ in_205) (fun _ h => h) rfl hdg (kk ls H locs hl hP hD hS)
theorem pX_T_124 {l : Launch} {R : Room} {nc ns : Nat} {Q : tl_Z → State → Prop} {D : va_G} {q : Nat → Nat} {k : Nat → ClassId} {nL : Nat} {z : tl_Z} {cc : ByteArray} {ret : Option FieldType} {pc : Nat} {lv : List (Nat × Value)} {rest : List Value} {S : SS} {A : AA} {v : Int32} (C : tl_Cx cc nL R_T ret D (tX k) z) (hdg : decode cc pc = .ok (.putfield 124, 3)) (kk : tl_At l R nc ns Q D (wX q k) nL z (pc + 3) lv (rest) ((va_up S 0 v), A)) : tl_At l R nc ns Q D (wX q k) nL z pc lv (.int v :: .ref (q 0) :: rest) (S, A) := by
  obtain ⟨p, e, s, m, args, below, meth, c, F⟩ := z
  obtain ⟨hx, hb, hml, hown, hts, hN, hK, hA, hlk, hr⟩ := C
  exact fun ls H locs hl hP hD hS => va_put (D := D) (ci := 6) (v := .int v) (ty := .int) (C := R_T) (T := F_T) (N := 12) hx hb hts lays_T ty_T tyok_T nm_T hown hK hP hD hS 0 rfl rfl 7 (by decide) (hts _ in_212) (fun _ h => h) rfl (by decide +kernel) rfl rfl (Nat.le_of_ble_eq_true rfl) hdg (fun H1 locs1 hP1 hD1 hS1 => kk ls H1 locs1 hl hP1 hD1 hS1)
theorem pX_T_98 {l : Launch} {R : Room} {nc ns : Nat} {Q : tl_Z → State → Prop} {D : va_G} {q : Nat → Nat} {k : Nat → ClassId} {nL : Nat} {z : tl_Z} {cc : ByteArray} {ret : Option FieldType} {pc : Nat} {lv : List (Nat × Value)} {rest : List Value} {S : SS} {A : AA} {v : Int32} (C : tl_Cx cc nL R_T ret D (tX k) z) (hdg : decode cc pc = .ok (.putfield 98, 3)) (kk : tl_At l R nc ns Q D (wX q k) nL z (pc + 3) lv (rest) ((va_up S 1 v), A)) : tl_At l R nc ns Q D (wX q k) nL z pc lv (.int v :: .ref (q 0) :: rest) (S, A) := by
  obtain ⟨p, e, s, m, args, below, meth, c, F⟩ := z
  obtain ⟨hx, hb, hml, hown, hts, hN, hK, hA, hlk, hr⟩ := C
  exact fun ls H locs hl hP hD hS => va_put (D := D) (ci := 6) (v := .int v) (ty := .int) (C := R_T) (T := F_T) (N := 12) hx hb hts lays_T ty_T tyok_T nm_T hown hK hP hD hS 0 rfl rfl 8 (by decide) (hts _ in_213) (fun _ h => h) rfl (by decide +kernel) rfl rfl (Nat.le_of_ble_eq_true rfl) hdg (fun H1 locs1 hP1 hD1 hS1 => kk ls H1 locs1 hl hP1 hD1 hS1)
theorem pX_T_137 {l : Launch} {R : Room} {nc ns : Nat} {Q : tl_Z → State → Prop} {D : va_G} {q : Nat → Nat} {k : Nat → ClassId} {nL : Nat} {z : tl_Z} {cc : ByteArray} {ret : Option FieldType} {pc : Nat} {lv : List (Nat × Value)} {rest : List Value} {S : SS} {A : AA} {v : Int32} (C : tl_Cx cc nL R_T ret D (tX k) z) (hdg : decode cc pc = .ok (.putfield 137, 3)) (kk : tl_At l R nc ns Q D (wX q k) nL z (pc + 3) lv (rest) ((va_up S 2 v), A)) : tl_At l R nc ns Q D (wX q k) nL z pc lv (.int v :: .ref (q 0) :: rest) (S, A) := by
  obtain ⟨p, e, s, m, args, below, meth, c, F⟩ := z
  obtain ⟨hx, hb, hml, hown, hts, hN, hK, hA, hlk, hr⟩ := C
  exact fun ls H locs hl hP hD hS => va_put (D := D) (ci := 6) (v := .int v) (ty := .int) (C := R_T) (T := F_T) (N := 12) hx hb hts lays_T ty_T tyok_T nm_T hown hK hP hD hS 0 rfl rfl 9 (by decide) (hts _ in_214) (fun _ h => h) rfl (by decide +kernel) rfl rfl (Nat.le_of_ble_eq_true rfl) hdg (fun H1 locs1 hP1 hD1 hS1 => kk ls H1 locs1 hl hP1 hD1 hS1)
theorem pX_T_149 {l : Launch} {R : Room} {nc ns : Nat} {Q : tl_Z → State → Prop} {D : va_G} {q : Nat → Nat} {k : Nat → ClassId} {nL : Nat} {z : tl_Z} {cc : ByteArray} {ret : Option FieldType} {pc : Nat} {lv : List (Nat × Value)} {rest : List Value} {S : SS} {A : AA} {v : Int32} (C : tl_Cx cc nL R_T ret D (tX k) z) (hdg : decode cc pc = .ok (.putfield 149, 3)) (kk : tl_At l R nc ns Q D (wX q k) nL z (pc + 3) lv (rest) ((va_up S 3 v), A)) : tl_At l R nc ns Q D (wX q k) nL z pc lv (.int v :: .ref (q 0) :: rest) (S, A) := by
  obtain ⟨p, e, s, m, args, below, meth, c, F⟩ := z
  obtain ⟨hx, hb, hml, hown, hts, hN, hK, hA, hlk, hr⟩ := C
  exact fun ls H locs hl hP hD hS => va_put (D := D) (ci := 6) (v := .int v) (ty := .int) (C := R_T) (T := F_T) (N := 12) hx hb hts lays_T ty_T tyok_T nm_T hown hK hP hD hS 0 rfl rfl 10 (by decide) (hts _ in_215) (fun _ h => h) rfl (by decide +kernel) rfl rfl (Nat.le_of_ble_eq_true rfl) hdg (fun H1 locs1 hP1 hD1 hS1 => kk ls H1 locs1 hl hP1 hD1 hS1)
theorem pX_T_95 {l : Launch} {R : Room} {nc ns : Nat} {Q : tl_Z → State → Prop} {D : va_G} {q : Nat → Nat} {k : Nat → ClassId} {nL : Nat} {z : tl_Z} {cc : ByteArray} {ret : Option FieldType} {pc : Nat} {lv : List (Nat × Value)} {rest : List Value} {S : SS} {A : AA} {v : Int32} (C : tl_Cx cc nL R_T ret D (tX k) z) (hdg : decode cc pc = .ok (.putfield 95, 3)) (kk : tl_At l R nc ns Q D (wX q k) nL z (pc + 3) lv (rest) ((va_up S 4 v), A)) : tl_At l R nc ns Q D (wX q k) nL z pc lv (.int v :: .ref (q 0) :: rest) (S, A) := by
  obtain ⟨p, e, s, m, args, below, meth, c, F⟩ := z
  obtain ⟨hx, hb, hml, hown, hts, hN, hK, hA, hlk, hr⟩ := C
  exact fun ls H locs hl hP hD hS => va_put (D := D) (ci := 6) (v := .int v) (ty := .int) (C := R_T) (T := F_T) (N := 12) hx hb hts lays_T ty_T tyok_T nm_T hown hK hP hD hS 0 rfl rfl 11 (by decide) (hts _ in_216) (fun _ h => h) rfl (by decide +kernel) rfl rfl (Nat.le_of_ble_eq_true rfl) hdg (fun H1 locs1 hP1 hD1 hS1 => kk ls H1 locs1 hl hP1 hD1 hS1)
theorem gX_T_38 {l : Launch} {R : Room} {nc ns : Nat} {Q : tl_Z → State → Prop} {D : va_G} {q : Nat → Nat} {k : Nat → ClassId} {nL : Nat} {z : tl_Z} {cc : ByteArray} {ret : Option FieldType} {pc : Nat} {lv : List (Nat × Value)} {rest : List Value} {S : SS} {A : AA} (C : tl_Cx cc nL R_T ret D (tX k) z) (hdg : decode cc pc = .ok (.getfield 38, 3)) (kk : tl_At l R nc ns Q D (wX q k) nL z (pc + 3) lv (.ref (q 10) :: rest) (S, A)) : tl_At l R nc ns Q D (wX q k) nL z pc lv (.ref (q 0) :: rest) (S, A) := by
  obtain ⟨p, e, s, m, args, below, meth, c, F⟩ := z
  obtain ⟨hx, hb, hml, hown, hts, hN, hK, hA, hlk, hr⟩ := C
  exact fun ls H locs hl hP hD hS => va_get (D := D) (ci := 6) (v := .ref (q 10)) (C := R_T) (T := F_T) (N := 12) hx hb hts lays_T hown hK hP 0 rfl rfl 4 (by decide) (hts _ in_209) (fun _ h => h) rfl hdg (kk ls H locs hl hP hD hS)
theorem gX_T_45 {l : Launch} {R : Room} {nc ns : Nat} {Q : tl_Z → State → Prop} {D : va_G} {q : Nat → Nat} {k : Nat → ClassId} {nL : Nat} {z : tl_Z} {cc : ByteArray} {ret : Option FieldType} {pc : Nat} {lv : List (Nat × Value)} {rest : List Value} {S : SS} {A : AA} (C : tl_Cx cc nL R_T ret D (tX k) z) (hdg : decode cc pc = .ok (.getfield 45, 3)) (kk : tl_At l R nc ns Q D (wX q k) nL z (pc + 3) lv (.ref (q 11) :: rest) (S, A)) : tl_At l R nc ns Q D (wX q k) nL z pc lv (.ref (q 0) :: rest) (S, A) := by
  obtain ⟨p, e, s, m, args, below, meth, c, F⟩ := z
  obtain ⟨hx, hb, hml, hown, hts, hN, hK, hA, hlk, hr⟩ := C
  exact fun ls H locs hl hP hD hS => va_get (D := D) (ci := 6) (v := .ref (q 11)) (C := R_T) (T := F_T) (N := 12) hx hb hts lays_T hown hK hP 0 rfl rfl 5 (by decide) (hts _ in_210) (fun _ h => h) rfl hdg (kk ls H locs hl hP hD hS)
theorem gX_T_19 {l : Launch} {R : Room} {nc ns : Nat} {Q : tl_Z → State → Prop} {D : va_G} {q : Nat → Nat} {k : Nat → ClassId} {nL : Nat} {z : tl_Z} {cc : ByteArray} {ret : Option FieldType} {pc : Nat} {lv : List (Nat × Value)} {rest : List Value} {S : SS} {A : AA} (C : tl_Cx cc nL R_T ret D (tX k) z) (hdg : decode cc pc = .ok (.getfield 19, 3)) (kk : tl_At l R nc ns Q D (wX q k) nL z (pc + 3) lv (.ref (q 3) :: rest) (S, A)) : tl_At l R nc ns Q D (wX q k) nL z pc lv (.ref (q 0) :: rest) (S, A) := by
  obtain ⟨p, e, s, m, args, below, meth, c, F⟩ := z
  obtain ⟨hx, hb, hml, hown, hts, hN, hK, hA, hlk, hr⟩ := C
  exact fun ls H locs hl hP hD hS => va_get (D := D) (ci := 6) (v := .ref (q 3)) (C := R_T) (T := F_T) (N := 12) hx hb hts lays_T hown hK hP 0 rfl rfl 2 (by decide) (hts _ in_207) (fun _ h => h) rfl hdg (kk ls H locs hl hP hD hS)
theorem gX_T_34 {l : Launch} {R : Room} {nc ns : Nat} {Q : tl_Z → State → Prop} {D : va_G} {q : Nat → Nat} {k : Nat → ClassId} {nL : Nat} {z : tl_Z} {cc : ByteArray} {ret : Option FieldType} {pc : Nat} {lv : List (Nat × Value)} {rest : List Value} {S : SS} {A : AA} (C : tl_Cx cc nL R_T ret D (tX k) z) (hdg : decode cc pc = .ok (.getfield 34, 3)) (kk : tl_At l R nc ns Q D (wX q k) nL z (pc + 3) lv (.ref (q 6) :: rest) (S, A)) : tl_At l R nc ns Q D (wX q k) nL z pc lv (.ref (q 0) :: rest) (S, A) := by
  obtain ⟨p, e, s, m, args, below, meth, c, F⟩ := z
  obtain ⟨hx, hb, hml, hown, hts, hN, hK, hA, hlk, hr⟩ := C
  exact fun ls H locs hl hP hD hS => va_get (D := D) (ci := 6) (v := .ref (q 6)) (C := R_T) (T := F_T) (N := 12) hx hb hts lays_T hown hK hP 0 rfl rfl 1 (by decide) (hts _ in_206) (fun _ h => h) rfl hdg (kk ls H locs hl hP hD hS)
theorem gX_T_208 {l : Launch} {R : Room} {nc ns : Nat} {Q : tl_Z → State → Prop} {D : va_G} {q : Nat → Nat} {k : Nat → ClassId} {nL : Nat} {z : tl_Z} {cc : ByteArray} {ret : Option FieldType} {pc : Nat} {lv : List (Nat × Value)} {rest : List Value} {S : SS} {A : AA} {v : Int32} (C : tl_Cx cc nL R_T ret D (tX k) z) (hv : S 7 = v) (hdg : decode cc pc = .ok (.getfield 208, 3)) (kk : tl_At l R nc ns Q D (wX q k) nL z (pc + 3) lv (.int v :: rest) (S, A)) : tl_At l R nc ns Q D (wX q k) nL z pc lv (.ref (q 3) :: rest) (S, A) := by
  subst hv
  obtain ⟨p, e, s, m, args, below, meth, c, F⟩ := z
  obtain ⟨hx, hb, hml, hown, hts, hN, hK, hA, hlk, hr⟩ := C
  exact fun ls H locs hl hP hD hS => va_getN (D := D) (ci := 3) (v := .int (S 7)) (C := R_Rc) (T := F_Rc) (N := 5) hx hb hts lays_Rc hown hK hP 3 rfl rfl 1 (by decide) (va_Nw.use rfl hN.2.2.2.1) (fun _ h => h) rfl hdg (kk ls H locs hl hP hD hS)
theorem gX_T_98 {l : Launch} {R : Room} {nc ns : Nat} {Q : tl_Z → State → Prop} {D : va_G} {q : Nat → Nat} {k : Nat → ClassId} {nL : Nat} {z : tl_Z} {cc : ByteArray} {ret : Option FieldType} {pc : Nat} {lv : List (Nat × Value)} {rest : List Value} {S : SS} {A : AA} {v : Int32} (C : tl_Cx cc nL R_T ret D (tX k) z) (hv : S 1 = v) (hdg : decode cc pc = .ok (.getfield 98, 3)) (kk : tl_At l R nc ns Q D (wX q k) nL z (pc + 3) lv (.int v :: rest) (S, A)) : tl_At l R nc ns Q D (wX q k) nL z pc lv (.ref (q 0) :: rest) (S, A) := by
  subst hv
  obtain ⟨p, e, s, m, args, below, meth, c, F⟩ := z
  obtain ⟨hx, hb, hml, hown, hts, hN, hK, hA, hlk, hr⟩ := C
  exact fun ls H locs hl hP hD hS => va_get (D := D) (ci := 6) (v := .int (S 1)) (C := R_T) (T := F_T) (N := 12) hx hb hts lays_T hown hK hP 0 rfl rfl 8 (by decide) (hts _ in_213) (fun _ h => h) rfl hdg (kk ls H locs hl hP hD hS)
theorem gX_T_127 {l : Launch} {R : Room} {nc ns : Nat} {Q : tl_Z → State → Prop} {D : va_G} {q : Nat → Nat} {k : Nat → ClassId} {nL : Nat} {z : tl_Z} {cc : ByteArray} {ret : Option FieldType} {pc : Nat} {lv : List (Nat × Value)} {rest : List Value} {S : SS} {A : AA} {v : Int32} (C : tl_Cx cc nL R_T ret D (tX k) z) (hv : S 18 = v) (hdg : decode cc pc = .ok (.getfield 127, 3)) (kk : tl_At l R nc ns Q D (wX q k) nL z (pc + 3) lv (.int v :: rest) (S, A)) : tl_At l R nc ns Q D (wX q k) nL z pc lv (.ref (q 10) :: rest) (S, A) := by
  subst hv
  obtain ⟨p, e, s, m, args, below, meth, c, F⟩ := z
  obtain ⟨hx, hb, hml, hown, hts, hN, hK, hA, hlk, hr⟩ := C
  exact fun ls H locs hl hP hD hS => va_getN (D := D) (ci := 1) (v := .int (S 18)) (C := R_Lk) (T := F_Lk) (N := 5) hx hb hts lays_Lk hown hK hP 10 rfl rfl 0 (by decide) (va_Nw.use rfl hN.2.2.2.2.2.2.2.2.2.1) (fun _ h => h) rfl hdg (kk ls H locs hl hP hD hS)
theorem pX_Dl_15 {l : Launch} {R : Room} {nc ns : Nat} {Q : tl_Z → State → Prop} {D : va_G} {q : Nat → Nat} {k : Nat → ClassId} {nL : Nat} {z : tl_Z} {cc : ByteArray} {ret : Option FieldType} {pc : Nat} {lv : List (Nat × Value)} {rest : List Value} {S : SS} {A : AA} {v : Int32} (C : tl_Cx cc nL R_Dl ret D (tX k) z) (hdg : decode cc pc = .ok (.putfield 15, 3)) (kk : tl_At l R nc ns Q D (wX q k) nL z (pc + 3) lv (rest) ((va_up S 24 v), A)) : tl_At l R nc ns Q D (wX q k) nL z pc lv (.int v :: .ref (q 11) :: rest) (S, A) := by
  obtain ⟨p, e, s, m, args, below, meth, c, F⟩ := z
  obtain ⟨hx, hb, hml, hown, hts, hN, hK, hA, hlk, hr⟩ := C
  exact fun ls H locs hl hP hD hS => va_put (D := D) (ci := 0) (v := .int v) (ty := .int) (C := R_Dl) (T := F_Dl) (N := 5) hx hb hts lays_Dl ty_Dl tyok_Dl nm_Dl hown hK hP hD hS 11 rfl rfl 1 (by decide) (hts _ in_152) (fun _ h => h) rfl (by decide +kernel) rfl rfl (Nat.le_of_ble_eq_true rfl) hdg (fun H1 locs1 hP1 hD1 hS1 => kk ls H1 locs1 hl hP1 hD1 hS1)
theorem pX_Dl_19 {l : Launch} {R : Room} {nc ns : Nat} {Q : tl_Z → State → Prop} {D : va_G} {q : Nat → Nat} {k : Nat → ClassId} {nL : Nat} {z : tl_Z} {cc : ByteArray} {ret : Option FieldType} {pc : Nat} {lv : List (Nat × Value)} {rest : List Value} {S : SS} {A : AA} {v : Int32} (C : tl_Cx cc nL R_Dl ret D (tX k) z) (hdg : decode cc pc = .ok (.putfield 19, 3)) (kk : tl_At l R nc ns Q D (wX q k) nL z (pc + 3) lv (rest) ((va_up S 25 v), A)) : tl_At l R nc ns Q D (wX q k) nL z pc lv (.int v :: .ref (q 11) :: rest) (S, A) := by
  obtain ⟨p, e, s, m, args, below, meth, c, F⟩ := z
  obtain ⟨hx, hb, hml, hown, hts, hN, hK, hA, hlk, hr⟩ := C
  exact fun ls H locs hl hP hD hS => va_put (D := D) (ci := 0) (v := .int v) (ty := .int) (C := R_Dl) (T := F_Dl) (N := 5) hx hb hts lays_Dl ty_Dl tyok_Dl nm_Dl hown hK hP hD hS 11 rfl rfl 2 (by decide) (hts _ in_154) (fun _ h => h) rfl (by decide +kernel) rfl rfl (Nat.le_of_ble_eq_true rfl) hdg (fun H1 locs1 hP1 hD1 hS1 => kk ls H1 locs1 hl hP1 hD1 hS1)
theorem pX_Dl_22 {l : Launch} {R : Room} {nc ns : Nat} {Q : tl_Z → State → Prop} {D : va_G} {q : Nat → Nat} {k : Nat → ClassId} {nL : Nat} {z : tl_Z} {cc : ByteArray} {ret : Option FieldType} {pc : Nat} {lv : List (Nat × Value)} {rest : List Value} {S : SS} {A : AA} {v : Int32} (C : tl_Cx cc nL R_Dl ret D (tX k) z) (hdg : decode cc pc = .ok (.putfield 22, 3)) (kk : tl_At l R nc ns Q D (wX q k) nL z (pc + 3) lv (rest) ((va_up S 26 v), A)) : tl_At l R nc ns Q D (wX q k) nL z pc lv (.int v :: .ref (q 11) :: rest) (S, A) := by
  obtain ⟨p, e, s, m, args, below, meth, c, F⟩ := z
  obtain ⟨hx, hb, hml, hown, hts, hN, hK, hA, hlk, hr⟩ := C
  exact fun ls H locs hl hP hD hS => va_put (D := D) (ci := 0) (v := .int v) (ty := .int) (C := R_Dl) (T := F_Dl) (N := 5) hx hb hts lays_Dl ty_Dl tyok_Dl nm_Dl hown hK hP hD hS 11 rfl rfl 3 (by decide) (hts _ in_155) (fun _ h => h) rfl (by decide +kernel) rfl rfl (Nat.le_of_ble_eq_true rfl) hdg (fun H1 locs1 hP1 hD1 hS1 => kk ls H1 locs1 hl hP1 hD1 hS1)
theorem pX_Dl_25 {l : Launch} {R : Room} {nc ns : Nat} {Q : tl_Z → State → Prop} {D : va_G} {q : Nat → Nat} {k : Nat → ClassId} {nL : Nat} {z : tl_Z} {cc : ByteArray} {ret : Option FieldType} {pc : Nat} {lv : List (Nat × Value)} {rest : List Value} {S : SS} {A : AA} {v : Int32} (C : tl_Cx cc nL R_Dl ret D (tX k) z) (hdg : decode cc pc = .ok (.putfield 25, 3)) (kk : tl_At l R nc ns Q D (wX q k) nL z (pc + 3) lv (rest) ((va_up S 27 v), A)) : tl_At l R nc ns Q D (wX q k) nL z pc lv (.int v :: .ref (q 11) :: rest) (S, A) := by
  obtain ⟨p, e, s, m, args, below, meth, c, F⟩ := z
  obtain ⟨hx, hb, hml, hown, hts, hN, hK, hA, hlk, hr⟩ := C
  exact fun ls H locs hl hP hD hS => va_put (D := D) (ci := 0) (v := .int v) (ty := .int) (C := R_Dl) (T := F_Dl) (N := 5) hx hb hts lays_Dl ty_Dl tyok_Dl nm_Dl hown hK hP hD hS 11 rfl rfl 4 (by decide) (hts _ in_157) (fun _ h => h) rfl (by decide +kernel) rfl rfl (Nat.le_of_ble_eq_true rfl) hdg (fun H1 locs1 hP1 hD1 hS1 => kk ls H1 locs1 hl hP1 hD1 hS1)
theorem gX_T_124 {l : Launch} {R : Room} {nc ns : Nat} {Q : tl_Z → State → Prop} {D : va_G} {q : Nat → Nat} {k : Nat → ClassId} {nL : Nat} {z : tl_Z} {cc : ByteArray} {ret : Option FieldType} {pc : Nat} {lv : List (Nat × Value)} {rest : List Value} {S : SS} {A : AA} {v : Int32} (C : tl_Cx cc nL R_T ret D (tX k) z) (hv : S 0 = v) (hdg : decode cc pc = .ok (.getfield 124, 3)) (kk : tl_At l R nc ns Q D (wX q k) nL z (pc + 3) lv (.int v :: rest) (S, A)) : tl_At l R nc ns Q D (wX q k) nL z pc lv (.ref (q 0) :: rest) (S, A) := by
  subst hv
  obtain ⟨p, e, s, m, args, below, meth, c, F⟩ := z
  obtain ⟨hx, hb, hml, hown, hts, hN, hK, hA, hlk, hr⟩ := C
  exact fun ls H locs hl hP hD hS => va_get (D := D) (ci := 6) (v := .int (S 0)) (C := R_T) (T := F_T) (N := 12) hx hb hts lays_T hown hK hP 0 rfl rfl 7 (by decide) (hts _ in_212) (fun _ h => h) rfl hdg (kk ls H locs hl hP hD hS)
theorem gX_Dl_9 {l : Launch} {R : Room} {nc ns : Nat} {Q : tl_Z → State → Prop} {D : va_G} {q : Nat → Nat} {k : Nat → ClassId} {nL : Nat} {z : tl_Z} {cc : ByteArray} {ret : Option FieldType} {pc : Nat} {lv : List (Nat × Value)} {rest : List Value} {S : SS} {A : AA} {v : Int32} (C : tl_Cx cc nL R_Dl ret D (tX k) z) (hv : S 23 = v) (hdg : decode cc pc = .ok (.getfield 9, 3)) (kk : tl_At l R nc ns Q D (wX q k) nL z (pc + 3) lv (.int v :: rest) (S, A)) : tl_At l R nc ns Q D (wX q k) nL z pc lv (.ref (q 11) :: rest) (S, A) := by
  subst hv
  obtain ⟨p, e, s, m, args, below, meth, c, F⟩ := z
  obtain ⟨hx, hb, hml, hown, hts, hN, hK, hA, hlk, hr⟩ := C
  exact fun ls H locs hl hP hD hS => va_get (D := D) (ci := 0) (v := .int (S 23)) (C := R_Dl) (T := F_Dl) (N := 5) hx hb hts lays_Dl hown hK hP 11 rfl rfl 0 (by decide) (hts _ in_151) (fun _ h => h) rfl hdg (kk ls H locs hl hP hD hS)
theorem gX_Dl_19 {l : Launch} {R : Room} {nc ns : Nat} {Q : tl_Z → State → Prop} {D : va_G} {q : Nat → Nat} {k : Nat → ClassId} {nL : Nat} {z : tl_Z} {cc : ByteArray} {ret : Option FieldType} {pc : Nat} {lv : List (Nat × Value)} {rest : List Value} {S : SS} {A : AA} {v : Int32} (C : tl_Cx cc nL R_Dl ret D (tX k) z) (hv : S 25 = v) (hdg : decode cc pc = .ok (.getfield 19, 3)) (kk : tl_At l R nc ns Q D (wX q k) nL z (pc + 3) lv (.int v :: rest) (S, A)) : tl_At l R nc ns Q D (wX q k) nL z pc lv (.ref (q 11) :: rest) (S, A) := by
  subst hv
  obtain ⟨p, e, s, m, args, below, meth, c, F⟩ := z
  obtain ⟨hx, hb, hml, hown, hts, hN, hK, hA, hlk, hr⟩ := C
  exact fun ls H locs hl hP hD hS => va_get (D := D) (ci := 0) (v := .int (S 25)) (C := R_Dl) (T := F_Dl) (N := 5) hx hb hts lays_Dl hown hK hP 11 rfl rfl 2 (by decide) (hts _ in_154) (fun _ h => h) rfl hdg (kk ls H locs hl hP hD hS)
theorem gX_Dl_22 {l : Launch} {R : Room} {nc ns : Nat} {Q : tl_Z → State → Prop} {D : va_G} {q : Nat → Nat} {k : Nat → ClassId} {nL : Nat} {z : tl_Z} {cc : ByteArray} {ret : Option FieldType} {pc : Nat} {lv : List (Nat × Value)} {rest : List Value} {S : SS} {A : AA} {v : Int32} (C : tl_Cx cc nL R_Dl ret D (tX k) z) (hv : S 26 = v) (hdg : decode cc pc = .ok (.getfield 22, 3)) (kk : tl_At l R nc ns Q D (wX q k) nL z (pc + 3) lv (.int v :: rest) (S, A)) : tl_At l R nc ns Q D (wX q k) nL z pc lv (.ref (q 11) :: rest) (S, A) := by
  subst hv
  obtain ⟨p, e, s, m, args, below, meth, c, F⟩ := z
  obtain ⟨hx, hb, hml, hown, hts, hN, hK, hA, hlk, hr⟩ := C
  exact fun ls H locs hl hP hD hS => va_get (D := D) (ci := 0) (v := .int (S 26)) (C := R_Dl) (T := F_Dl) (N := 5) hx hb hts lays_Dl hown hK hP 11 rfl rfl 3 (by decide) (hts _ in_155) (fun _ h => h) rfl hdg (kk ls H locs hl hP hD hS)
theorem gX_Lk_26 {l : Launch} {R : Room} {nc ns : Nat} {Q : tl_Z → State → Prop} {D : va_G} {q : Nat → Nat} {k : Nat → ClassId} {nL : Nat} {z : tl_Z} {cc : ByteArray} {ret : Option FieldType} {pc : Nat} {lv : List (Nat × Value)} {rest : List Value} {S : SS} {A : AA} {v : Int32} (C : tl_Cx cc nL R_Lk ret D (tX k) z) (hv : S 20 = v) (hdg : decode cc pc = .ok (.getfield 26, 3)) (kk : tl_At l R nc ns Q D (wX q k) nL z (pc + 3) lv (.int v :: rest) (S, A)) : tl_At l R nc ns Q D (wX q k) nL z pc lv (.ref (q 10) :: rest) (S, A) := by
  subst hv
  obtain ⟨p, e, s, m, args, below, meth, c, F⟩ := z
  obtain ⟨hx, hb, hml, hown, hts, hN, hK, hA, hlk, hr⟩ := C
  exact fun ls H locs hl hP hD hS => va_get (D := D) (ci := 1) (v := .int (S 20)) (C := R_Lk) (T := F_Lk) (N := 5) hx hb hts lays_Lk hown hK hP 10 rfl rfl 2 (by decide) (hts _ in_130) (fun _ h => h) rfl hdg (kk ls H locs hl hP hD hS)
theorem pX_Lk_26 {l : Launch} {R : Room} {nc ns : Nat} {Q : tl_Z → State → Prop} {D : va_G} {q : Nat → Nat} {k : Nat → ClassId} {nL : Nat} {z : tl_Z} {cc : ByteArray} {ret : Option FieldType} {pc : Nat} {lv : List (Nat × Value)} {rest : List Value} {S : SS} {A : AA} {v : Int32} (C : tl_Cx cc nL R_Lk ret D (tX k) z) (hdg : decode cc pc = .ok (.putfield 26, 3)) (kk : tl_At l R nc ns Q D (wX q k) nL z (pc + 3) lv (rest) ((va_up S 20 v), A)) : tl_At l R nc ns Q D (wX q k) nL z pc lv (.int v :: .ref (q 10) :: rest) (S, A) := by
  obtain ⟨p, e, s, m, args, below, meth, c, F⟩ := z
  obtain ⟨hx, hb, hml, hown, hts, hN, hK, hA, hlk, hr⟩ := C
  exact fun ls H locs hl hP hD hS => va_put (D := D) (ci := 1) (v := .int v) (ty := .int) (C := R_Lk) (T := F_Lk) (N := 5) hx hb hts lays_Lk ty_Lk tyok_Lk nm_Lk hown hK hP hD hS 10 rfl rfl 2 (by decide) (hts _ in_130) (fun _ h => h) rfl (by decide +kernel) rfl rfl (Nat.le_of_ble_eq_true rfl) hdg (fun H1 locs1 hP1 hD1 hS1 => kk ls H1 locs1 hl hP1 hD1 hS1)
theorem gX_Lk_23 {l : Launch} {R : Room} {nc ns : Nat} {Q : tl_Z → State → Prop} {D : va_G} {q : Nat → Nat} {k : Nat → ClassId} {nL : Nat} {z : tl_Z} {cc : ByteArray} {ret : Option FieldType} {pc : Nat} {lv : List (Nat × Value)} {rest : List Value} {S : SS} {A : AA} {v : Int32} (C : tl_Cx cc nL R_Lk ret D (tX k) z) (hv : S 19 = v) (hdg : decode cc pc = .ok (.getfield 23, 3)) (kk : tl_At l R nc ns Q D (wX q k) nL z (pc + 3) lv (.int v :: rest) (S, A)) : tl_At l R nc ns Q D (wX q k) nL z pc lv (.ref (q 10) :: rest) (S, A) := by
  subst hv
  obtain ⟨p, e, s, m, args, below, meth, c, F⟩ := z
  obtain ⟨hx, hb, hml, hown, hts, hN, hK, hA, hlk, hr⟩ := C
  exact fun ls H locs hl hP hD hS => va_get (D := D) (ci := 1) (v := .int (S 19)) (C := R_Lk) (T := F_Lk) (N := 5) hx hb hts lays_Lk hown hK hP 10 rfl rfl 1 (by decide) (hts _ in_129) (fun _ h => h) rfl hdg (kk ls H locs hl hP hD hS)
theorem gX_T_143 {l : Launch} {R : Room} {nc ns : Nat} {Q : tl_Z → State → Prop} {D : va_G} {q : Nat → Nat} {k : Nat → ClassId} {nL : Nat} {z : tl_Z} {cc : ByteArray} {ret : Option FieldType} {pc : Nat} {lv : List (Nat × Value)} {rest : List Value} {S : SS} {A : AA} {v : Int32} (C : tl_Cx cc nL R_T ret D (tX k) z) (hv : S 22 = v) (hdg : decode cc pc = .ok (.getfield 143, 3)) (kk : tl_At l R nc ns Q D (wX q k) nL z (pc + 3) lv (.int v :: rest) (S, A)) : tl_At l R nc ns Q D (wX q k) nL z pc lv (.ref (q 10) :: rest) (S, A) := by
  subst hv
  obtain ⟨p, e, s, m, args, below, meth, c, F⟩ := z
  obtain ⟨hx, hb, hml, hown, hts, hN, hK, hA, hlk, hr⟩ := C
  exact fun ls H locs hl hP hD hS => va_getN (D := D) (ci := 1) (v := .int (S 22)) (C := R_Lk) (T := F_Lk) (N := 5) hx hb hts lays_Lk hown hK hP 10 rfl rfl 4 (by decide) (va_Nw.use rfl hN.2.2.2.2.2.2.2.2.2.2.1) (fun _ h => h) rfl hdg (kk ls H locs hl hP hD hS)
theorem gX_T_149 {l : Launch} {R : Room} {nc ns : Nat} {Q : tl_Z → State → Prop} {D : va_G} {q : Nat → Nat} {k : Nat → ClassId} {nL : Nat} {z : tl_Z} {cc : ByteArray} {ret : Option FieldType} {pc : Nat} {lv : List (Nat × Value)} {rest : List Value} {S : SS} {A : AA} {v : Int32} (C : tl_Cx cc nL R_T ret D (tX k) z) (hv : S 3 = v) (hdg : decode cc pc = .ok (.getfield 149, 3)) (kk : tl_At l R nc ns Q D (wX q k) nL z (pc + 3) lv (.int v :: rest) (S, A)) : tl_At l R nc ns Q D (wX q k) nL z pc lv (.ref (q 0) :: rest) (S, A) := by
  subst hv
  obtain ⟨p, e, s, m, args, below, meth, c, F⟩ := z
  obtain ⟨hx, hb, hml, hown, hts, hN, hK, hA, hlk, hr⟩ := C
  exact fun ls H locs hl hP hD hS => va_get (D := D) (ci := 6) (v := .int (S 3)) (C := R_T) (T := F_T) (N := 12) hx hb hts lays_T hown hK hP 0 rfl rfl 10 (by decide) (hts _ in_215) (fun _ h => h) rfl hdg (kk ls H locs hl hP hD hS)
theorem gX_T_137 {l : Launch} {R : Room} {nc ns : Nat} {Q : tl_Z → State → Prop} {D : va_G} {q : Nat → Nat} {k : Nat → ClassId} {nL : Nat} {z : tl_Z} {cc : ByteArray} {ret : Option FieldType} {pc : Nat} {lv : List (Nat × Value)} {rest : List Value} {S : SS} {A : AA} {v : Int32} (C : tl_Cx cc nL R_T ret D (tX k) z) (hv : S 2 = v) (hdg : decode cc pc = .ok (.getfield 137, 3)) (kk : tl_At l R nc ns Q D (wX q k) nL z (pc + 3) lv (.int v :: rest) (S, A)) : tl_At l R nc ns Q D (wX q k) nL z pc lv (.ref (q 0) :: rest) (S, A) := by
  subst hv
  obtain ⟨p, e, s, m, args, below, meth, c, F⟩ := z
  obtain ⟨hx, hb, hml, hown, hts, hN, hK, hA, hlk, hr⟩ := C
  exact fun ls H locs hl hP hD hS => va_get (D := D) (ci := 6) (v := .int (S 2)) (C := R_T) (T := F_T) (N := 12) hx hb hts lays_T hown hK hP 0 rfl rfl 9 (by decide) (hts _ in_214) (fun _ h => h) rfl hdg (kk ls H locs hl hP hD hS)
theorem gX_Mm_22 {l : Launch} {R : Room} {nc ns : Nat} {Q : tl_Z → State → Prop} {D : va_G} {q : Nat → Nat} {k : Nat → ClassId} {nL : Nat} {z : tl_Z} {cc : ByteArray} {ret : Option FieldType} {pc : Nat} {lv : List (Nat × Value)} {rest : List Value} {S : SS} {A : AA} {v : Int32} (C : tl_Cx cc nL R_Mm ret D (tX k) z) (hv : S 5 = v) (hdg : decode cc pc = .ok (.getfield 22, 3)) (kk : tl_At l R nc ns Q D (wX q k) nL z (pc + 3) lv (.int v :: rest) (S, A)) : tl_At l R nc ns Q D (wX q k) nL z pc lv (.ref (q 1) :: rest) (S, A) := by
  subst hv
  obtain ⟨p, e, s, m, args, below, meth, c, F⟩ := z
  obtain ⟨hx, hb, hml, hown, hts, hN, hK, hA, hlk, hr⟩ := C
  exact fun ls H locs hl hP hD hS => va_get (D := D) (ci := 2) (v := .int (S 5)) (C := R_Mm) (T := F_Mm) (N := 3) hx hb hts lays_Mm hown hK hP 1 rfl rfl 1 (by decide) (hts _ in_35) (fun _ h => h) rfl hdg (kk ls H locs hl hP hD hS)
theorem gX_Mm_26 {l : Launch} {R : Room} {nc ns : Nat} {Q : tl_Z → State → Prop} {D : va_G} {q : Nat → Nat} {k : Nat → ClassId} {nL : Nat} {z : tl_Z} {cc : ByteArray} {ret : Option FieldType} {pc : Nat} {lv : List (Nat × Value)} {rest : List Value} {S : SS} {A : AA} {v : Int32} (C : tl_Cx cc nL R_Mm ret D (tX k) z) (hv : S 6 = v) (hdg : decode cc pc = .ok (.getfield 26, 3)) (kk : tl_At l R nc ns Q D (wX q k) nL z (pc + 3) lv (.int v :: rest) (S, A)) : tl_At l R nc ns Q D (wX q k) nL z pc lv (.ref (q 1) :: rest) (S, A) := by
  subst hv
  obtain ⟨p, e, s, m, args, below, meth, c, F⟩ := z
  obtain ⟨hx, hb, hml, hown, hts, hN, hK, hA, hlk, hr⟩ := C
  exact fun ls H locs hl hP hD hS => va_get (D := D) (ci := 2) (v := .int (S 6)) (C := R_Mm) (T := F_Mm) (N := 3) hx hb hts lays_Mm hown hK hP 1 rfl rfl 2 (by decide) (hts _ in_37) (fun _ h => h) rfl hdg (kk ls H locs hl hP hD hS)
theorem pX_Mm_22 {l : Launch} {R : Room} {nc ns : Nat} {Q : tl_Z → State → Prop} {D : va_G} {q : Nat → Nat} {k : Nat → ClassId} {nL : Nat} {z : tl_Z} {cc : ByteArray} {ret : Option FieldType} {pc : Nat} {lv : List (Nat × Value)} {rest : List Value} {S : SS} {A : AA} {v : Int32} (C : tl_Cx cc nL R_Mm ret D (tX k) z) (hz : tl_z v) (hdg : decode cc pc = .ok (.putfield 22, 3)) (kk : tl_At l R nc ns Q D (wX q k) nL z (pc + 3) lv (rest) ((va_up S 5 v), A)) : tl_At l R nc ns Q D (wX q k) nL z pc lv (.int v :: .ref (q 1) :: rest) (S, A) := by
  obtain ⟨p, e, s, m, args, below, meth, c, F⟩ := z
  obtain ⟨hx, hb, hml, hown, hts, hN, hK, hA, hlk, hr⟩ := C
  exact fun ls H locs hl hP hD hS => va_put (D := D) (ci := 2) (v := .int v) (ty := .boolean) (C := R_Mm) (T := F_Mm) (N := 3) hx hb hts lays_Mm ty_Mm tyok_Mm nm_Mm hown hK hP hD hS 1 rfl rfl 1 (by decide) (hts _ in_35) (fun _ h => h) rfl (by decide +kernel) (tl_zn hz) (tl_zf hz) (Nat.le_of_ble_eq_true rfl) hdg (fun H1 locs1 hP1 hD1 hS1 => kk ls H1 locs1 hl hP1 hD1 hS1)
theorem gX_T_49 {l : Launch} {R : Room} {nc ns : Nat} {Q : tl_Z → State → Prop} {D : va_G} {q : Nat → Nat} {k : Nat → ClassId} {nL : Nat} {z : tl_Z} {cc : ByteArray} {ret : Option FieldType} {pc : Nat} {lv : List (Nat × Value)} {rest : List Value} {S : SS} {A : AA} (C : tl_Cx cc nL R_T ret D (tX k) z) (hdg : decode cc pc = .ok (.getfield 49, 3)) (kk : tl_At l R nc ns Q D (wX q k) nL z (pc + 3) lv (.ref (q 12) :: rest) (S, A)) : tl_At l R nc ns Q D (wX q k) nL z pc lv (.ref (q 0) :: rest) (S, A) := by
  obtain ⟨p, e, s, m, args, below, meth, c, F⟩ := z
  obtain ⟨hx, hb, hml, hown, hts, hN, hK, hA, hlk, hr⟩ := C
  exact fun ls H locs hl hP hD hS => va_get (D := D) (ci := 6) (v := .ref (q 12)) (C := R_T) (T := F_T) (N := 12) hx hb hts lays_T hown hK hP 0 rfl rfl 6 (by decide) (hts _ in_211) (fun _ h => h) rfl hdg (kk ls H locs hl hP hD hS)
theorem gX_Dl_25 {l : Launch} {R : Room} {nc ns : Nat} {Q : tl_Z → State → Prop} {D : va_G} {q : Nat → Nat} {k : Nat → ClassId} {nL : Nat} {z : tl_Z} {cc : ByteArray} {ret : Option FieldType} {pc : Nat} {lv : List (Nat × Value)} {rest : List Value} {S : SS} {A : AA} {v : Int32} (C : tl_Cx cc nL R_Dl ret D (tX k) z) (hv : S 27 = v) (hdg : decode cc pc = .ok (.getfield 25, 3)) (kk : tl_At l R nc ns Q D (wX q k) nL z (pc + 3) lv (.int v :: rest) (S, A)) : tl_At l R nc ns Q D (wX q k) nL z pc lv (.ref (q 11) :: rest) (S, A) := by
  subst hv
  obtain ⟨p, e, s, m, args, below, meth, c, F⟩ := z
  obtain ⟨hx, hb, hml, hown, hts, hN, hK, hA, hlk, hr⟩ := C
  exact fun ls H locs hl hP hD hS => va_get (D := D) (ci := 0) (v := .int (S 27)) (C := R_Dl) (T := F_Dl) (N := 5) hx hb hts lays_Dl hown hK hP 11 rfl rfl 4 (by decide) (hts _ in_157) (fun _ h => h) rfl hdg (kk ls H locs hl hP hD hS)
theorem gX_T_292 {l : Launch} {R : Room} {nc ns : Nat} {Q : tl_Z → State → Prop} {D : va_G} {q : Nat → Nat} {k : Nat → ClassId} {nL : Nat} {z : tl_Z} {cc : ByteArray} {ret : Option FieldType} {pc : Nat} {lv : List (Nat × Value)} {rest : List Value} {S : SS} {A : AA} {v : Int32} (C : tl_Cx cc nL R_T ret D (tX k) z) (hv : S 24 = v) (hdg : decode cc pc = .ok (.getfield 292, 3)) (kk : tl_At l R nc ns Q D (wX q k) nL z (pc + 3) lv (.int v :: rest) (S, A)) : tl_At l R nc ns Q D (wX q k) nL z pc lv (.ref (q 11) :: rest) (S, A) := by
  subst hv
  obtain ⟨p, e, s, m, args, below, meth, c, F⟩ := z
  obtain ⟨hx, hb, hml, hown, hts, hN, hK, hA, hlk, hr⟩ := C
  exact fun ls H locs hl hP hD hS => va_getN (D := D) (ci := 0) (v := .int (S 24)) (C := R_Dl) (T := F_Dl) (N := 5) hx hb hts lays_Dl hown hK hP 11 rfl rfl 1 (by decide) (va_Nw.use rfl hN.2.2.2.2.2.2.2.2.2.2.2.2.1) (fun _ h => h) rfl hdg (kk ls H locs hl hP hD hS)
theorem gX_T_295 {l : Launch} {R : Room} {nc ns : Nat} {Q : tl_Z → State → Prop} {D : va_G} {q : Nat → Nat} {k : Nat → ClassId} {nL : Nat} {z : tl_Z} {cc : ByteArray} {ret : Option FieldType} {pc : Nat} {lv : List (Nat × Value)} {rest : List Value} {S : SS} {A : AA} {v : Int32} (C : tl_Cx cc nL R_T ret D (tX k) z) (hv : S 26 = v) (hdg : decode cc pc = .ok (.getfield 295, 3)) (kk : tl_At l R nc ns Q D (wX q k) nL z (pc + 3) lv (.int v :: rest) (S, A)) : tl_At l R nc ns Q D (wX q k) nL z pc lv (.ref (q 11) :: rest) (S, A) := by
  subst hv
  obtain ⟨p, e, s, m, args, below, meth, c, F⟩ := z
  obtain ⟨hx, hb, hml, hown, hts, hN, hK, hA, hlk, hr⟩ := C
  exact fun ls H locs hl hP hD hS => va_getN (D := D) (ci := 0) (v := .int (S 26)) (C := R_Dl) (T := F_Dl) (N := 5) hx hb hts lays_Dl hown hK hP 11 rfl rfl 3 (by decide) (va_Nw.use rfl hN.2.2.2.2.2.2.2.2.2.2.2.2.2.1) (fun _ h => h) rfl hdg (kk ls H locs hl hP hD hS)
theorem gX_T_301 {l : Launch} {R : Room} {nc ns : Nat} {Q : tl_Z → State → Prop} {D : va_G} {q : Nat → Nat} {k : Nat → ClassId} {nL : Nat} {z : tl_Z} {cc : ByteArray} {ret : Option FieldType} {pc : Nat} {lv : List (Nat × Value)} {rest : List Value} {S : SS} {A : AA} (C : tl_Cx cc nL R_T ret D (tX k) z) (hdg : decode cc pc = .ok (.getfield 301, 3)) (kk : tl_At l R nc ns Q D (wX q k) nL z (pc + 3) lv (.ref (q 4) :: rest) (S, A)) : tl_At l R nc ns Q D (wX q k) nL z pc lv (.ref (q 3) :: rest) (S, A) := by
  obtain ⟨p, e, s, m, args, below, meth, c, F⟩ := z
  obtain ⟨hx, hb, hml, hown, hts, hN, hK, hA, hlk, hr⟩ := C
  exact fun ls H locs hl hP hD hS => va_getN (D := D) (ci := 3) (v := .ref (q 4)) (C := R_Rc) (T := F_Rc) (N := 5) hx hb hts lays_Rc hown hK hP 3 rfl rfl 0 (by decide) (va_Nw.use rfl hN.2.2.1) (fun _ h => h) rfl hdg (kk ls H locs hl hP hD hS)
theorem gX_Lk_12 {l : Launch} {R : Room} {nc ns : Nat} {Q : tl_Z → State → Prop} {D : va_G} {q : Nat → Nat} {k : Nat → ClassId} {nL : Nat} {z : tl_Z} {cc : ByteArray} {ret : Option FieldType} {pc : Nat} {lv : List (Nat × Value)} {rest : List Value} {S : SS} {A : AA} {v : Int32} (C : tl_Cx cc nL R_Lk ret D (tX k) z) (hv : S 21 = v) (hdg : decode cc pc = .ok (.getfield 12, 3)) (kk : tl_At l R nc ns Q D (wX q k) nL z (pc + 3) lv (.int v :: rest) (S, A)) : tl_At l R nc ns Q D (wX q k) nL z pc lv (.ref (q 10) :: rest) (S, A) := by
  subst hv
  obtain ⟨p, e, s, m, args, below, meth, c, F⟩ := z
  obtain ⟨hx, hb, hml, hown, hts, hN, hK, hA, hlk, hr⟩ := C
  exact fun ls H locs hl hP hD hS => va_get (D := D) (ci := 1) (v := .int (S 21)) (C := R_Lk) (T := F_Lk) (N := 5) hx hb hts lays_Lk hown hK hP 10 rfl rfl 3 (by decide) (hts _ in_131) (fun _ h => h) rfl hdg (kk ls H locs hl hP hD hS)
theorem gX_T_78 {l : Launch} {R : Room} {nc ns : Nat} {Q : tl_Z → State → Prop} {D : va_G} {q : Nat → Nat} {k : Nat → ClassId} {nL : Nat} {z : tl_Z} {cc : ByteArray} {ret : Option FieldType} {pc : Nat} {lv : List (Nat × Value)} {rest : List Value} {S : SS} {A : AA} {v : Int32} (C : tl_Cx cc nL R_T ret D (tX k) z) (hv : S 17 = v) (hdg : decode cc pc = .ok (.getfield 78, 3)) (kk : tl_At l R nc ns Q D (wX q k) nL z (pc + 3) lv (.int v :: rest) (S, A)) : tl_At l R nc ns Q D (wX q k) nL z pc lv (.ref (q 6) :: rest) (S, A) := by
  subst hv
  obtain ⟨p, e, s, m, args, below, meth, c, F⟩ := z
  obtain ⟨hx, hb, hml, hown, hts, hN, hK, hA, hlk, hr⟩ := C
  exact fun ls H locs hl hP hD hS => va_getN (D := D) (ci := 4) (v := .int (S 17)) (C := R_Rw) (T := F_Rw) (N := 3) hx hb hts lays_Rw hown hK hP 6 rfl rfl 2 (by decide) (va_Nw.use rfl hN.2.2.2.2.2.1) (fun _ h => h) rfl hdg (kk ls H locs hl hP hD hS)
theorem pX_Rw_19 {l : Launch} {R : Room} {nc ns : Nat} {Q : tl_Z → State → Prop} {D : va_G} {q : Nat → Nat} {k : Nat → ClassId} {nL : Nat} {z : tl_Z} {cc : ByteArray} {ret : Option FieldType} {pc : Nat} {lv : List (Nat × Value)} {rest : List Value} {S : SS} {A : AA} {v : Int32} (C : tl_Cx cc nL R_Rw ret D (tX k) z) (hdg : decode cc pc = .ok (.putfield 19, 3)) (kk : tl_At l R nc ns Q D (wX q k) nL z (pc + 3) lv (rest) ((va_up S 16 v), A)) : tl_At l R nc ns Q D (wX q k) nL z pc lv (.int v :: .ref (q 6) :: rest) (S, A) := by
  obtain ⟨p, e, s, m, args, below, meth, c, F⟩ := z
  obtain ⟨hx, hb, hml, hown, hts, hN, hK, hA, hlk, hr⟩ := C
  exact fun ls H locs hl hP hD hS => va_put (D := D) (ci := 4) (v := .int v) (ty := .int) (C := R_Rw) (T := F_Rw) (N := 3) hx hb hts lays_Rw ty_Rw tyok_Rw nm_Rw hown hK hP hD hS 6 rfl rfl 1 (by decide) (hts _ in_84) (fun _ h => h) rfl (by decide +kernel) rfl rfl (Nat.le_of_ble_eq_true rfl) hdg (fun H1 locs1 hP1 hD1 hS1 => kk ls H1 locs1 hl hP1 hD1 hS1)
theorem gX_Lk_16 {l : Launch} {R : Room} {nc ns : Nat} {Q : tl_Z → State → Prop} {D : va_G} {q : Nat → Nat} {k : Nat → ClassId} {nL : Nat} {z : tl_Z} {cc : ByteArray} {ret : Option FieldType} {pc : Nat} {lv : List (Nat × Value)} {rest : List Value} {S : SS} {A : AA} {v : Int32} (C : tl_Cx cc nL R_Lk ret D (tX k) z) (hv : S 22 = v) (hdg : decode cc pc = .ok (.getfield 16, 3)) (kk : tl_At l R nc ns Q D (wX q k) nL z (pc + 3) lv (.int v :: rest) (S, A)) : tl_At l R nc ns Q D (wX q k) nL z pc lv (.ref (q 10) :: rest) (S, A) := by
  subst hv
  obtain ⟨p, e, s, m, args, below, meth, c, F⟩ := z
  obtain ⟨hx, hb, hml, hown, hts, hN, hK, hA, hlk, hr⟩ := C
  exact fun ls H locs hl hP hD hS => va_get (D := D) (ci := 1) (v := .int (S 22)) (C := R_Lk) (T := F_Lk) (N := 5) hx hb hts lays_Lk hown hK hP 10 rfl rfl 4 (by decide) (hts _ in_132) (fun _ h => h) rfl hdg (kk ls H locs hl hP hD hS)
theorem gX_Rc_22 {l : Launch} {R : Room} {nc ns : Nat} {Q : tl_Z → State → Prop} {D : va_G} {q : Nat → Nat} {k : Nat → ClassId} {nL : Nat} {z : tl_Z} {cc : ByteArray} {ret : Option FieldType} {pc : Nat} {lv : List (Nat × Value)} {rest : List Value} {S : SS} {A : AA} {v : Int32} (C : tl_Cx cc nL R_Rc ret D (tX k) z) (hv : S 10 = v) (hdg : decode cc pc = .ok (.getfield 22, 3)) (kk : tl_At l R nc ns Q D (wX q k) nL z (pc + 3) lv (.int v :: rest) (S, A)) : tl_At l R nc ns Q D (wX q k) nL z pc lv (.ref (q 3) :: rest) (S, A) := by
  subst hv
  obtain ⟨p, e, s, m, args, below, meth, c, F⟩ := z
  obtain ⟨hx, hb, hml, hown, hts, hN, hK, hA, hlk, hr⟩ := C
  exact fun ls H locs hl hP hD hS => va_get (D := D) (ci := 3) (v := .int (S 10)) (C := R_Rc) (T := F_Rc) (N := 5) hx hb hts lays_Rc hown hK hP 3 rfl rfl 4 (by decide) (hts _ in_59) (fun _ h => h) rfl hdg (kk ls H locs hl hP hD hS)
theorem gX_Sd_42 {l : Launch} {R : Room} {nc ns : Nat} {Q : tl_Z → State → Prop} {D : va_G} {q : Nat → Nat} {k : Nat → ClassId} {nL : Nat} {z : tl_Z} {cc : ByteArray} {ret : Option FieldType} {pc : Nat} {lv : List (Nat × Value)} {rest : List Value} {S : SS} {A : AA} {v : Int32} (C : tl_Cx cc nL R_Sd ret D (tX k) z) (hv : S 15 = v) (hdg : decode cc pc = .ok (.getfield 42, 3)) (kk : tl_At l R nc ns Q D (wX q k) nL z (pc + 3) lv (.int v :: rest) (S, A)) : tl_At l R nc ns Q D (wX q k) nL z pc lv (.ref (q 5) :: rest) (S, A) := by
  subst hv
  obtain ⟨p, e, s, m, args, below, meth, c, F⟩ := z
  obtain ⟨hx, hb, hml, hown, hts, hN, hK, hA, hlk, hr⟩ := C
  exact fun ls H locs hl hP hD hS => va_get (D := D) (ci := 5) (v := .int (S 15)) (C := R_Sd) (T := F_Sd) (N := 8) hx hb hts lays_Sd hown hK hP 5 rfl rfl 7 (by decide) (hts _ in_103) (fun _ h => h) rfl hdg (kk ls H locs hl hP hD hS)
theorem gX_Sd_46 {l : Launch} {R : Room} {nc ns : Nat} {Q : tl_Z → State → Prop} {D : va_G} {q : Nat → Nat} {k : Nat → ClassId} {nL : Nat} {z : tl_Z} {cc : ByteArray} {ret : Option FieldType} {pc : Nat} {lv : List (Nat × Value)} {rest : List Value} {S : SS} {A : AA} {v : Int32} (C : tl_Cx cc nL R_Sd ret D (tX k) z) (hv : S 14 = v) (hdg : decode cc pc = .ok (.getfield 46, 3)) (kk : tl_At l R nc ns Q D (wX q k) nL z (pc + 3) lv (.int v :: rest) (S, A)) : tl_At l R nc ns Q D (wX q k) nL z pc lv (.ref (q 5) :: rest) (S, A) := by
  subst hv
  obtain ⟨p, e, s, m, args, below, meth, c, F⟩ := z
  obtain ⟨hx, hb, hml, hown, hts, hN, hK, hA, hlk, hr⟩ := C
  exact fun ls H locs hl hP hD hS => va_get (D := D) (ci := 5) (v := .int (S 14)) (C := R_Sd) (T := F_Sd) (N := 8) hx hb hts lays_Sd hown hK hP 5 rfl rfl 6 (by decide) (hts _ in_101) (fun _ h => h) rfl hdg (kk ls H locs hl hP hD hS)
theorem gX_T_95 {l : Launch} {R : Room} {nc ns : Nat} {Q : tl_Z → State → Prop} {D : va_G} {q : Nat → Nat} {k : Nat → ClassId} {nL : Nat} {z : tl_Z} {cc : ByteArray} {ret : Option FieldType} {pc : Nat} {lv : List (Nat × Value)} {rest : List Value} {S : SS} {A : AA} {v : Int32} (C : tl_Cx cc nL R_T ret D (tX k) z) (hv : S 4 = v) (hdg : decode cc pc = .ok (.getfield 95, 3)) (kk : tl_At l R nc ns Q D (wX q k) nL z (pc + 3) lv (.int v :: rest) (S, A)) : tl_At l R nc ns Q D (wX q k) nL z pc lv (.ref (q 0) :: rest) (S, A) := by
  subst hv
  obtain ⟨p, e, s, m, args, below, meth, c, F⟩ := z
  obtain ⟨hx, hb, hml, hown, hts, hN, hK, hA, hlk, hr⟩ := C
  exact fun ls H locs hl hP hD hS => va_get (D := D) (ci := 6) (v := .int (S 4)) (C := R_T) (T := F_T) (N := 12) hx hb hts lays_T hown hK hP 0 rfl rfl 11 (by decide) (hts _ in_216) (fun _ h => h) rfl hdg (kk ls H locs hl hP hD hS)
theorem gX_T_101 {l : Launch} {R : Room} {nc ns : Nat} {Q : tl_Z → State → Prop} {D : va_G} {q : Nat → Nat} {k : Nat → ClassId} {nL : Nat} {z : tl_Z} {cc : ByteArray} {ret : Option FieldType} {pc : Nat} {lv : List (Nat × Value)} {rest : List Value} {S : SS} {A : AA} {v : Int32} (C : tl_Cx cc nL R_T ret D (tX k) z) (hv : S 8 = v) (hdg : decode cc pc = .ok (.getfield 101, 3)) (kk : tl_At l R nc ns Q D (wX q k) nL z (pc + 3) lv (.int v :: rest) (S, A)) : tl_At l R nc ns Q D (wX q k) nL z pc lv (.ref (q 3) :: rest) (S, A) := by
  subst hv
  obtain ⟨p, e, s, m, args, below, meth, c, F⟩ := z
  obtain ⟨hx, hb, hml, hown, hts, hN, hK, hA, hlk, hr⟩ := C
  exact fun ls H locs hl hP hD hS => va_getN (D := D) (ci := 3) (v := .int (S 8)) (C := R_Rc) (T := F_Rc) (N := 5) hx hb hts lays_Rc hown hK hP 3 rfl rfl 2 (by decide) (va_Nw.use rfl hN.2.2.2.2.1) (fun _ h => h) rfl hdg (kk ls H locs hl hP hD hS)
theorem pX_Mm_26 {l : Launch} {R : Room} {nc ns : Nat} {Q : tl_Z → State → Prop} {D : va_G} {q : Nat → Nat} {k : Nat → ClassId} {nL : Nat} {z : tl_Z} {cc : ByteArray} {ret : Option FieldType} {pc : Nat} {lv : List (Nat × Value)} {rest : List Value} {S : SS} {A : AA} {v : Int32} (C : tl_Cx cc nL R_Mm ret D (tX k) z) (hdg : decode cc pc = .ok (.putfield 26, 3)) (kk : tl_At l R nc ns Q D (wX q k) nL z (pc + 3) lv (rest) ((va_up S 6 v), A)) : tl_At l R nc ns Q D (wX q k) nL z pc lv (.int v :: .ref (q 1) :: rest) (S, A) := by
  obtain ⟨p, e, s, m, args, below, meth, c, F⟩ := z
  obtain ⟨hx, hb, hml, hown, hts, hN, hK, hA, hlk, hr⟩ := C
  exact fun ls H locs hl hP hD hS => va_put (D := D) (ci := 2) (v := .int v) (ty := .int) (C := R_Mm) (T := F_Mm) (N := 3) hx hb hts lays_Mm ty_Mm tyok_Mm nm_Mm hown hK hP hD hS 1 rfl rfl 2 (by decide) (hts _ in_37) (fun _ h => h) rfl (by decide +kernel) rfl rfl (Nat.le_of_ble_eq_true rfl) hdg (fun H1 locs1 hP1 hD1 hS1 => kk ls H1 locs1 hl hP1 hD1 hS1)
theorem gX_T_121 {l : Launch} {R : Room} {nc ns : Nat} {Q : tl_Z → State → Prop} {D : va_G} {q : Nat → Nat} {k : Nat → ClassId} {nL : Nat} {z : tl_Z} {cc : ByteArray} {ret : Option FieldType} {pc : Nat} {lv : List (Nat × Value)} {rest : List Value} {S : SS} {A : AA} (C : tl_Cx cc nL R_T ret D (tX k) z) (hdg : decode cc pc = .ok (.getfield 121, 3)) (kk : tl_At l R nc ns Q D (wX q k) nL z (pc + 3) lv (.ref (q 2) :: rest) (S, A)) : tl_At l R nc ns Q D (wX q k) nL z pc lv (.ref (q 1) :: rest) (S, A) := by
  obtain ⟨p, e, s, m, args, below, meth, c, F⟩ := z
  obtain ⟨hx, hb, hml, hown, hts, hN, hK, hA, hlk, hr⟩ := C
  exact fun ls H locs hl hP hD hS => va_getN (D := D) (ci := 2) (v := .ref (q 2)) (C := R_Mm) (T := F_Mm) (N := 3) hx hb hts lays_Mm hown hK hP 1 rfl rfl 0 (by decide) (va_Nw.use rfl hN.1) (fun _ h => h) rfl hdg (kk ls H locs hl hP hD hS)
theorem gX_T_134 {l : Launch} {R : Room} {nc ns : Nat} {Q : tl_Z → State → Prop} {D : va_G} {q : Nat → Nat} {k : Nat → ClassId} {nL : Nat} {z : tl_Z} {cc : ByteArray} {ret : Option FieldType} {pc : Nat} {lv : List (Nat × Value)} {rest : List Value} {S : SS} {A : AA} {v : Int32} (C : tl_Cx cc nL R_T ret D (tX k) z) (hv : S 5 = v) (hdg : decode cc pc = .ok (.getfield 134, 3)) (kk : tl_At l R nc ns Q D (wX q k) nL z (pc + 3) lv (.int v :: rest) (S, A)) : tl_At l R nc ns Q D (wX q k) nL z pc lv (.ref (q 1) :: rest) (S, A) := by
  subst hv
  obtain ⟨p, e, s, m, args, below, meth, c, F⟩ := z
  obtain ⟨hx, hb, hml, hown, hts, hN, hK, hA, hlk, hr⟩ := C
  exact fun ls H locs hl hP hD hS => va_getN (D := D) (ci := 2) (v := .int (S 5)) (C := R_Mm) (T := F_Mm) (N := 3) hx hb hts lays_Mm hown hK hP 1 rfl rfl 1 (by decide) (va_Nw.use rfl hN.2.1) (fun _ h => h) rfl hdg (kk ls H locs hl hP hD hS)
theorem rX_ald0 {l : Launch} {R : Room} {nc ns : Nat} {Q : tl_Z → State → Prop} {D : va_G} {q : Nat → Nat} {k : Nat → ClassId} {nL : Nat} {z : tl_Z} {cc : ByteArray} {ret : Option FieldType} {pc : Nat} {lv : List (Nat × Value)} {rest : List Value} {S : SS} {A : AA} {f : Nat → Int32} {i : Int32} {own : String} (C : tl_Cx cc nL own ret D (tX k) z) (hf : A 0 = f) (hi : vp_in i 96) (hdg : decode cc pc = .ok (.iaload, 1)) (kk : tl_At l R nc ns Q D (wX q k) nL z (pc + 1) lv (.int (f i.toNatClampNeg) :: rest) (S, A)) : tl_At l R nc ns Q D (wX q k) nL z pc lv (.int i :: .ref (q 2) :: rest) (S, A) := by
  subst hf
  obtain ⟨p, e, s, m, args, below, meth, c, F⟩ := z
  obtain ⟨hx, hb, hml, hown, hts, hN, hK, hA, hlk, hr⟩ := C
  exact fun ls H locs hl hP hD hS => va_iald (D := D) (cA := k 0) (n := 96) (f := A 0) hx hb hK hP 2 0 rfl rfl hi hdg (kk ls H locs hl hP hD hS)
theorem rX_ast0 {l : Launch} {R : Room} {nc ns : Nat} {Q : tl_Z → State → Prop} {D : va_G} {q : Nat → Nat} {k : Nat → ClassId} {nL : Nat} {z : tl_Z} {cc : ByteArray} {ret : Option FieldType} {pc : Nat} {lv : List (Nat × Value)} {rest : List Value} {S : SS} {A : AA} {f : Nat → Int32} {i x : Int32} {own : String} (C : tl_Cx cc nL own ret D (tX k) z) (hf : A 0 = f) (hi : vp_in i 96) (hdg : decode cc pc = .ok (.iastore, 1)) (kk : tl_At l R nc ns Q D (wX q k) nL z (pc + 1) lv (rest) (S, (va_up A 0 (upd f i.toNatClampNeg x)))) : tl_At l R nc ns Q D (wX q k) nL z pc lv (.int x :: .int i :: .ref (q 2) :: rest) (S, A) := by
  subst hf
  obtain ⟨p, e, s, m, args, below, meth, c, F⟩ := z
  obtain ⟨hx, hb, hml, hown, hts, hN, hK, hA, hlk, hr⟩ := C
  exact fun ls H locs hl hP hD hS => va_iast (D := D) (cA := k 0) (n := 96) (f := A 0) hx hb hK hP hD hS 2 0 rfl rfl hi hdg (fun H1 locs1 hP1 hD1 hS1 => kk ls H1 locs1 hl hP1 hD1 hS1)
theorem rX_len0 {l : Launch} {R : Room} {nc ns : Nat} {Q : tl_Z → State → Prop} {D : va_G} {q : Nat → Nat} {k : Nat → ClassId} {nL : Nat} {z : tl_Z} {cc : ByteArray} {ret : Option FieldType} {pc : Nat} {lv : List (Nat × Value)} {rest : List Value} {S : SS} {A : AA} {own : String} (C : tl_Cx cc nL own ret D (tX k) z) (hdg : decode cc pc = .ok (.arraylength, 1)) (kk : tl_At l R nc ns Q D (wX q k) nL z (pc + 1) lv (.int (96 : Int32) :: rest) (S, A)) : tl_At l R nc ns Q D (wX q k) nL z pc lv (.ref (q 2) :: rest) (S, A) := by
  obtain ⟨p, e, s, m, args, below, meth, c, F⟩ := z
  obtain ⟨hx, hb, hml, hown, hts, hN, hK, hA, hlk, hr⟩ := C
  exact fun ls H locs hl hP hD hS => va_alen (D := D) (cA := k 0) (x := (96, .inl (A 0))) hx hb hK hP 2 0 rfl rfl rfl hdg (kk ls H locs hl hP hD hS)
theorem rX_ald1 {l : Launch} {R : Room} {nc ns : Nat} {Q : tl_Z → State → Prop} {D : va_G} {q : Nat → Nat} {k : Nat → ClassId} {nL : Nat} {z : tl_Z} {cc : ByteArray} {ret : Option FieldType} {pc : Nat} {lv : List (Nat × Value)} {rest : List Value} {S : SS} {A : AA} {f : Nat → Int32} {i : Int32} {own : String} (C : tl_Cx cc nL own ret D (tX k) z) (hf : A 1 = f) (hi : vp_in i 34) (hdg : decode cc pc = .ok (.iaload, 1)) (kk : tl_At l R nc ns Q D (wX q k) nL z (pc + 1) lv (.int (f i.toNatClampNeg) :: rest) (S, A)) : tl_At l R nc ns Q D (wX q k) nL z pc lv (.int i :: .ref (q 4) :: rest) (S, A) := by
  subst hf
  obtain ⟨p, e, s, m, args, below, meth, c, F⟩ := z
  obtain ⟨hx, hb, hml, hown, hts, hN, hK, hA, hlk, hr⟩ := C
  exact fun ls H locs hl hP hD hS => va_iald (D := D) (cA := k 1) (n := 34) (f := A 1) hx hb hK hP 4 1 rfl rfl hi hdg (kk ls H locs hl hP hD hS)
theorem rX_ast1 {l : Launch} {R : Room} {nc ns : Nat} {Q : tl_Z → State → Prop} {D : va_G} {q : Nat → Nat} {k : Nat → ClassId} {nL : Nat} {z : tl_Z} {cc : ByteArray} {ret : Option FieldType} {pc : Nat} {lv : List (Nat × Value)} {rest : List Value} {S : SS} {A : AA} {f : Nat → Int32} {i x : Int32} {own : String} (C : tl_Cx cc nL own ret D (tX k) z) (hf : A 1 = f) (hi : vp_in i 34) (hdg : decode cc pc = .ok (.iastore, 1)) (kk : tl_At l R nc ns Q D (wX q k) nL z (pc + 1) lv (rest) (S, (va_up A 1 (upd f i.toNatClampNeg x)))) : tl_At l R nc ns Q D (wX q k) nL z pc lv (.int x :: .int i :: .ref (q 4) :: rest) (S, A) := by
  subst hf
  obtain ⟨p, e, s, m, args, below, meth, c, F⟩ := z
  obtain ⟨hx, hb, hml, hown, hts, hN, hK, hA, hlk, hr⟩ := C
  exact fun ls H locs hl hP hD hS => va_iast (D := D) (cA := k 1) (n := 34) (f := A 1) hx hb hK hP hD hS 4 1 rfl rfl hi hdg (fun H1 locs1 hP1 hD1 hS1 => kk ls H1 locs1 hl hP1 hD1 hS1)
theorem rX_len1 {l : Launch} {R : Room} {nc ns : Nat} {Q : tl_Z → State → Prop} {D : va_G} {q : Nat → Nat} {k : Nat → ClassId} {nL : Nat} {z : tl_Z} {cc : ByteArray} {ret : Option FieldType} {pc : Nat} {lv : List (Nat × Value)} {rest : List Value} {S : SS} {A : AA} {own : String} (C : tl_Cx cc nL own ret D (tX k) z) (hdg : decode cc pc = .ok (.arraylength, 1)) (kk : tl_At l R nc ns Q D (wX q k) nL z (pc + 1) lv (.int (34 : Int32) :: rest) (S, A)) : tl_At l R nc ns Q D (wX q k) nL z pc lv (.ref (q 4) :: rest) (S, A) := by
  obtain ⟨p, e, s, m, args, below, meth, c, F⟩ := z
  obtain ⟨hx, hb, hml, hown, hts, hN, hK, hA, hlk, hr⟩ := C
  exact fun ls H locs hl hP hD hS => va_alen (D := D) (cA := k 1) (x := (34, .inl (A 1))) hx hb hK hP 4 1 rfl rfl rfl hdg (kk ls H locs hl hP hD hS)
theorem rX_ald2 {l : Launch} {R : Room} {nc ns : Nat} {Q : tl_Z → State → Prop} {D : va_G} {q : Nat → Nat} {k : Nat → ClassId} {nL : Nat} {z : tl_Z} {cc : ByteArray} {ret : Option FieldType} {pc : Nat} {lv : List (Nat × Value)} {rest : List Value} {S : SS} {A : AA} {f : Nat → Int32} {i : Int32} {own : String} (C : tl_Cx cc nL own ret D (tX k) z) (hf : A 2 = f) (hi : vp_in i 96) (hdg : decode cc pc = .ok (.iaload, 1)) (kk : tl_At l R nc ns Q D (wX q k) nL z (pc + 1) lv (.int (f i.toNatClampNeg) :: rest) (S, A)) : tl_At l R nc ns Q D (wX q k) nL z pc lv (.int i :: .ref (q 7) :: rest) (S, A) := by
  subst hf
  obtain ⟨p, e, s, m, args, below, meth, c, F⟩ := z
  obtain ⟨hx, hb, hml, hown, hts, hN, hK, hA, hlk, hr⟩ := C
  exact fun ls H locs hl hP hD hS => va_iald (D := D) (cA := k 2) (n := 96) (f := A 2) hx hb hK hP 7 2 rfl rfl hi hdg (kk ls H locs hl hP hD hS)
theorem rX_ast2 {l : Launch} {R : Room} {nc ns : Nat} {Q : tl_Z → State → Prop} {D : va_G} {q : Nat → Nat} {k : Nat → ClassId} {nL : Nat} {z : tl_Z} {cc : ByteArray} {ret : Option FieldType} {pc : Nat} {lv : List (Nat × Value)} {rest : List Value} {S : SS} {A : AA} {f : Nat → Int32} {i x : Int32} {own : String} (C : tl_Cx cc nL own ret D (tX k) z) (hf : A 2 = f) (hi : vp_in i 96) (hdg : decode cc pc = .ok (.iastore, 1)) (kk : tl_At l R nc ns Q D (wX q k) nL z (pc + 1) lv (rest) (S, (va_up A 2 (upd f i.toNatClampNeg x)))) : tl_At l R nc ns Q D (wX q k) nL z pc lv (.int x :: .int i :: .ref (q 7) :: rest) (S, A) := by
  subst hf
  obtain ⟨p, e, s, m, args, below, meth, c, F⟩ := z
  obtain ⟨hx, hb, hml, hown, hts, hN, hK, hA, hlk, hr⟩ := C
  exact fun ls H locs hl hP hD hS => va_iast (D := D) (cA := k 2) (n := 96) (f := A 2) hx hb hK hP hD hS 7 2 rfl rfl hi hdg (fun H1 locs1 hP1 hD1 hS1 => kk ls H1 locs1 hl hP1 hD1 hS1)
theorem rX_len2 {l : Launch} {R : Room} {nc ns : Nat} {Q : tl_Z → State → Prop} {D : va_G} {q : Nat → Nat} {k : Nat → ClassId} {nL : Nat} {z : tl_Z} {cc : ByteArray} {ret : Option FieldType} {pc : Nat} {lv : List (Nat × Value)} {rest : List Value} {S : SS} {A : AA} {own : String} (C : tl_Cx cc nL own ret D (tX k) z) (hdg : decode cc pc = .ok (.arraylength, 1)) (kk : tl_At l R nc ns Q D (wX q k) nL z (pc + 1) lv (.int (96 : Int32) :: rest) (S, A)) : tl_At l R nc ns Q D (wX q k) nL z pc lv (.ref (q 7) :: rest) (S, A) := by
  obtain ⟨p, e, s, m, args, below, meth, c, F⟩ := z
  obtain ⟨hx, hb, hml, hown, hts, hN, hK, hA, hlk, hr⟩ := C
  exact fun ls H locs hl hP hD hS => va_alen (D := D) (cA := k 2) (x := (96, .inl (A 2))) hx hb hK hP 7 2 rfl rfl rfl hdg (kk ls H locs hl hP hD hS)
theorem rX_ald3 {l : Launch} {R : Room} {nc ns : Nat} {Q : tl_Z → State → Prop} {D : va_G} {q : Nat → Nat} {k : Nat → ClassId} {nL : Nat} {z : tl_Z} {cc : ByteArray} {ret : Option FieldType} {pc : Nat} {lv : List (Nat × Value)} {rest : List Value} {S : SS} {A : AA} {f : Nat → Int32} {i : Int32} {own : String} (C : tl_Cx cc nL own ret D (tX k) z) (hf : A 3 = f) (hi : vp_in i 10) (hdg : decode cc pc = .ok (.iaload, 1)) (kk : tl_At l R nc ns Q D (wX q k) nL z (pc + 1) lv (.int (f i.toNatClampNeg) :: rest) (S, A)) : tl_At l R nc ns Q D (wX q k) nL z pc lv (.int i :: .ref (q 8) :: rest) (S, A) := by
  subst hf
  obtain ⟨p, e, s, m, args, below, meth, c, F⟩ := z
  obtain ⟨hx, hb, hml, hown, hts, hN, hK, hA, hlk, hr⟩ := C
  exact fun ls H locs hl hP hD hS => va_iald (D := D) (cA := k 3) (n := 10) (f := A 3) hx hb hK hP 8 3 rfl rfl hi hdg (kk ls H locs hl hP hD hS)
theorem rX_ast3 {l : Launch} {R : Room} {nc ns : Nat} {Q : tl_Z → State → Prop} {D : va_G} {q : Nat → Nat} {k : Nat → ClassId} {nL : Nat} {z : tl_Z} {cc : ByteArray} {ret : Option FieldType} {pc : Nat} {lv : List (Nat × Value)} {rest : List Value} {S : SS} {A : AA} {f : Nat → Int32} {i x : Int32} {own : String} (C : tl_Cx cc nL own ret D (tX k) z) (hf : A 3 = f) (hi : vp_in i 10) (hdg : decode cc pc = .ok (.iastore, 1)) (kk : tl_At l R nc ns Q D (wX q k) nL z (pc + 1) lv (rest) (S, (va_up A 3 (upd f i.toNatClampNeg x)))) : tl_At l R nc ns Q D (wX q k) nL z pc lv (.int x :: .int i :: .ref (q 8) :: rest) (S, A) := by
  subst hf
  obtain ⟨p, e, s, m, args, below, meth, c, F⟩ := z
  obtain ⟨hx, hb, hml, hown, hts, hN, hK, hA, hlk, hr⟩ := C
  exact fun ls H locs hl hP hD hS => va_iast (D := D) (cA := k 3) (n := 10) (f := A 3) hx hb hK hP hD hS 8 3 rfl rfl hi hdg (fun H1 locs1 hP1 hD1 hS1 => kk ls H1 locs1 hl hP1 hD1 hS1)
theorem rX_len3 {l : Launch} {R : Room} {nc ns : Nat} {Q : tl_Z → State → Prop} {D : va_G} {q : Nat → Nat} {k : Nat → ClassId} {nL : Nat} {z : tl_Z} {cc : ByteArray} {ret : Option FieldType} {pc : Nat} {lv : List (Nat × Value)} {rest : List Value} {S : SS} {A : AA} {own : String} (C : tl_Cx cc nL own ret D (tX k) z) (hdg : decode cc pc = .ok (.arraylength, 1)) (kk : tl_At l R nc ns Q D (wX q k) nL z (pc + 1) lv (.int (10 : Int32) :: rest) (S, A)) : tl_At l R nc ns Q D (wX q k) nL z pc lv (.ref (q 8) :: rest) (S, A) := by
  obtain ⟨p, e, s, m, args, below, meth, c, F⟩ := z
  obtain ⟨hx, hb, hml, hown, hts, hN, hK, hA, hlk, hr⟩ := C
  exact fun ls H locs hl hP hD hS => va_alen (D := D) (cA := k 3) (x := (10, .inl (A 3))) hx hb hK hP 8 3 rfl rfl rfl hdg (kk ls H locs hl hP hD hS)
theorem rX_ald4 {l : Launch} {R : Room} {nc ns : Nat} {Q : tl_Z → State → Prop} {D : va_G} {q : Nat → Nat} {k : Nat → ClassId} {nL : Nat} {z : tl_Z} {cc : ByteArray} {ret : Option FieldType} {pc : Nat} {lv : List (Nat × Value)} {rest : List Value} {S : SS} {A : AA} {f : Nat → Int32} {i : Int32} {own : String} (C : tl_Cx cc nL own ret D (tX k) z) (hf : A 4 = f) (hi : vp_in i 8) (hdg : decode cc pc = .ok (.iaload, 1)) (kk : tl_At l R nc ns Q D (wX q k) nL z (pc + 1) lv (.int (f i.toNatClampNeg) :: rest) (S, A)) : tl_At l R nc ns Q D (wX q k) nL z pc lv (.int i :: .ref (q 9) :: rest) (S, A) := by
  subst hf
  obtain ⟨p, e, s, m, args, below, meth, c, F⟩ := z
  obtain ⟨hx, hb, hml, hown, hts, hN, hK, hA, hlk, hr⟩ := C
  exact fun ls H locs hl hP hD hS => va_iald (D := D) (cA := k 4) (n := 8) (f := A 4) hx hb hK hP 9 4 rfl rfl hi hdg (kk ls H locs hl hP hD hS)
theorem rX_ast4 {l : Launch} {R : Room} {nc ns : Nat} {Q : tl_Z → State → Prop} {D : va_G} {q : Nat → Nat} {k : Nat → ClassId} {nL : Nat} {z : tl_Z} {cc : ByteArray} {ret : Option FieldType} {pc : Nat} {lv : List (Nat × Value)} {rest : List Value} {S : SS} {A : AA} {f : Nat → Int32} {i x : Int32} {own : String} (C : tl_Cx cc nL own ret D (tX k) z) (hf : A 4 = f) (hi : vp_in i 8) (hdg : decode cc pc = .ok (.iastore, 1)) (kk : tl_At l R nc ns Q D (wX q k) nL z (pc + 1) lv (rest) (S, (va_up A 4 (upd f i.toNatClampNeg x)))) : tl_At l R nc ns Q D (wX q k) nL z pc lv (.int x :: .int i :: .ref (q 9) :: rest) (S, A) := by
  subst hf
  obtain ⟨p, e, s, m, args, below, meth, c, F⟩ := z
  obtain ⟨hx, hb, hml, hown, hts, hN, hK, hA, hlk, hr⟩ := C
  exact fun ls H locs hl hP hD hS => va_iast (D := D) (cA := k 4) (n := 8) (f := A 4) hx hb hK hP hD hS 9 4 rfl rfl hi hdg (fun H1 locs1 hP1 hD1 hS1 => kk ls H1 locs1 hl hP1 hD1 hS1)
theorem rX_len4 {l : Launch} {R : Room} {nc ns : Nat} {Q : tl_Z → State → Prop} {D : va_G} {q : Nat → Nat} {k : Nat → ClassId} {nL : Nat} {z : tl_Z} {cc : ByteArray} {ret : Option FieldType} {pc : Nat} {lv : List (Nat × Value)} {rest : List Value} {S : SS} {A : AA} {own : String} (C : tl_Cx cc nL own ret D (tX k) z) (hdg : decode cc pc = .ok (.arraylength, 1)) (kk : tl_At l R nc ns Q D (wX q k) nL z (pc + 1) lv (.int (8 : Int32) :: rest) (S, A)) : tl_At l R nc ns Q D (wX q k) nL z pc lv (.ref (q 9) :: rest) (S, A) := by
  obtain ⟨p, e, s, m, args, below, meth, c, F⟩ := z
  obtain ⟨hx, hb, hml, hown, hts, hN, hK, hA, hlk, hr⟩ := C
  exact fun ls H locs hl hP hD hS => va_alen (D := D) (cA := k 4) (x := (8, .inl (A 4))) hx hb hK hP 9 4 rfl rfl rfl hdg (kk ls H locs hl hP hD hS)
theorem rX_ald5 {l : Launch} {R : Room} {nc ns : Nat} {Q : tl_Z → State → Prop} {D : va_G} {q : Nat → Nat} {k : Nat → ClassId} {nL : Nat} {z : tl_Z} {cc : ByteArray} {ret : Option FieldType} {pc : Nat} {lv : List (Nat × Value)} {rest : List Value} {S : SS} {A : AA} {f : Nat → Int32} {i : Int32} {own : String} (C : tl_Cx cc nL own ret D (tX k) z) (hf : A 5 = f) (hi : vp_in i 3) (hdg : decode cc pc = .ok (.iaload, 1)) (kk : tl_At l R nc ns Q D (wX q k) nL z (pc + 1) lv (.int (f i.toNatClampNeg) :: rest) (S, A)) : tl_At l R nc ns Q D (wX q k) nL z pc lv (.int i :: .ref (q 12) :: rest) (S, A) := by
  subst hf
  obtain ⟨p, e, s, m, args, below, meth, c, F⟩ := z
  obtain ⟨hx, hb, hml, hown, hts, hN, hK, hA, hlk, hr⟩ := C
  exact fun ls H locs hl hP hD hS => va_iald (D := D) (cA := k 5) (n := 3) (f := A 5) hx hb hK hP 12 5 rfl rfl hi hdg (kk ls H locs hl hP hD hS)
theorem rX_ast5 {l : Launch} {R : Room} {nc ns : Nat} {Q : tl_Z → State → Prop} {D : va_G} {q : Nat → Nat} {k : Nat → ClassId} {nL : Nat} {z : tl_Z} {cc : ByteArray} {ret : Option FieldType} {pc : Nat} {lv : List (Nat × Value)} {rest : List Value} {S : SS} {A : AA} {f : Nat → Int32} {i x : Int32} {own : String} (C : tl_Cx cc nL own ret D (tX k) z) (hf : A 5 = f) (hi : vp_in i 3) (hdg : decode cc pc = .ok (.iastore, 1)) (kk : tl_At l R nc ns Q D (wX q k) nL z (pc + 1) lv (rest) (S, (va_up A 5 (upd f i.toNatClampNeg x)))) : tl_At l R nc ns Q D (wX q k) nL z pc lv (.int x :: .int i :: .ref (q 12) :: rest) (S, A) := by
  subst hf
  obtain ⟨p, e, s, m, args, below, meth, c, F⟩ := z
  obtain ⟨hx, hb, hml, hown, hts, hN, hK, hA, hlk, hr⟩ := C
  exact fun ls H locs hl hP hD hS => va_iast (D := D) (cA := k 5) (n := 3) (f := A 5) hx hb hK hP hD hS 12 5 rfl rfl hi hdg (fun H1 locs1 hP1 hD1 hS1 => kk ls H1 locs1 hl hP1 hD1 hS1)
theorem rX_len5 {l : Launch} {R : Room} {nc ns : Nat} {Q : tl_Z → State → Prop} {D : va_G} {q : Nat → Nat} {k : Nat → ClassId} {nL : Nat} {z : tl_Z} {cc : ByteArray} {ret : Option FieldType} {pc : Nat} {lv : List (Nat × Value)} {rest : List Value} {S : SS} {A : AA} {own : String} (C : tl_Cx cc nL own ret D (tX k) z) (hdg : decode cc pc = .ok (.arraylength, 1)) (kk : tl_At l R nc ns Q D (wX q k) nL z (pc + 1) lv (.int (3 : Int32) :: rest) (S, A)) : tl_At l R nc ns Q D (wX q k) nL z pc lv (.ref (q 12) :: rest) (S, A) := by
  obtain ⟨p, e, s, m, args, below, meth, c, F⟩ := z
  obtain ⟨hx, hb, hml, hown, hts, hN, hK, hA, hlk, hr⟩ := C
  exact fun ls H locs hl hP hD hS => va_alen (D := D) (cA := k 5) (x := (3, .inl (A 5))) hx hb hK hP 12 5 rfl rfl rfl hdg (kk ls H locs hl hP hD hS)
theorem pM_M_105 {l : Launch} {R : Room} {nc ns : Nat} {Q : tl_Z → State → Prop} {D : va_G} {q : Nat → Nat} {k : Nat → ClassId} {nL : Nat} {z : tl_Z} {cc : ByteArray} {ret : Option FieldType} {pc : Nat} {lv : List (Nat × Value)} {rest : List Value} {S : SS} {A : AA} {v : Int32} (C : tl_Cx cc nL R_M ret D (tM k) z) (hdg : decode cc pc = .ok (.putfield 105, 3)) (kk : tl_At l R nc ns Q D (wM q k) nL z (pc + 3) lv (rest) ((va_up S 20 v), A)) : tl_At l R nc ns Q D (wM q k) nL z pc lv (.int v :: .ref (q 0) :: rest) (S, A) := by
  obtain ⟨p, e, s, m, args, below, meth, c, F⟩ := z
  obtain ⟨hx, hb, hml, hown, hts, hN, hK, hA, hlk, hr⟩ := C
  exact fun ls H locs hl hP hD hS => va_put (D := D) (ci := 7) (v := .int v) (ty := .int) (C := R_M) (T := F_M) (N := 30) hx hb hts lays_M ty_M tyok_M nm_M hown hK hP hD hS 0 rfl rfl 22 (by decide) (hts _ in_586) (fun _ h => h) rfl (by decide +kernel) rfl rfl (Nat.le_of_ble_eq_true rfl) hdg (fun H1 locs1 hP1 hD1 hS1 => kk ls H1 locs1 hl hP1 hD1 hS1)
theorem pM_M_108 {l : Launch} {R : Room} {nc ns : Nat} {Q : tl_Z → State → Prop} {D : va_G} {q : Nat → Nat} {k : Nat → ClassId} {nL : Nat} {z : tl_Z} {cc : ByteArray} {ret : Option FieldType} {pc : Nat} {lv : List (Nat × Value)} {rest : List Value} {S : SS} {A : AA} {v : Int32} (C : tl_Cx cc nL R_M ret D (tM k) z) (hdg : decode cc pc = .ok (.putfield 108, 3)) (kk : tl_At l R nc ns Q D (wM q k) nL z (pc + 3) lv (rest) ((va_up S 21 v), A)) : tl_At l R nc ns Q D (wM q k) nL z pc lv (.int v :: .ref (q 0) :: rest) (S, A) := by
  obtain ⟨p, e, s, m, args, below, meth, c, F⟩ := z
  obtain ⟨hx, hb, hml, hown, hts, hN, hK, hA, hlk, hr⟩ := C
  exact fun ls H locs hl hP hD hS => va_put (D := D) (ci := 7) (v := .int v) (ty := .int) (C := R_M) (T := F_M) (N := 30) hx hb hts lays_M ty_M tyok_M nm_M hown hK hP hD hS 0 rfl rfl 23 (by decide) (hts _ in_587) (fun _ h => h) rfl (by decide +kernel) rfl rfl (Nat.le_of_ble_eq_true rfl) hdg (fun H1 locs1 hP1 hD1 hS1 => kk ls H1 locs1 hl hP1 hD1 hS1)
theorem gM_M_105 {l : Launch} {R : Room} {nc ns : Nat} {Q : tl_Z → State → Prop} {D : va_G} {q : Nat → Nat} {k : Nat → ClassId} {nL : Nat} {z : tl_Z} {cc : ByteArray} {ret : Option FieldType} {pc : Nat} {lv : List (Nat × Value)} {rest : List Value} {S : SS} {A : AA} {v : Int32} (C : tl_Cx cc nL R_M ret D (tM k) z) (hv : S 20 = v) (hdg : decode cc pc = .ok (.getfield 105, 3)) (kk : tl_At l R nc ns Q D (wM q k) nL z (pc + 3) lv (.int v :: rest) (S, A)) : tl_At l R nc ns Q D (wM q k) nL z pc lv (.ref (q 0) :: rest) (S, A) := by
  subst hv
  obtain ⟨p, e, s, m, args, below, meth, c, F⟩ := z
  obtain ⟨hx, hb, hml, hown, hts, hN, hK, hA, hlk, hr⟩ := C
  exact fun ls H locs hl hP hD hS => va_get (D := D) (ci := 7) (v := .int (S 20)) (C := R_M) (T := F_M) (N := 30) hx hb hts lays_M hown hK hP 0 rfl rfl 22 (by decide) (hts _ in_586) (fun _ h => h) rfl hdg (kk ls H locs hl hP hD hS)
theorem gM_M_108 {l : Launch} {R : Room} {nc ns : Nat} {Q : tl_Z → State → Prop} {D : va_G} {q : Nat → Nat} {k : Nat → ClassId} {nL : Nat} {z : tl_Z} {cc : ByteArray} {ret : Option FieldType} {pc : Nat} {lv : List (Nat × Value)} {rest : List Value} {S : SS} {A : AA} {v : Int32} (C : tl_Cx cc nL R_M ret D (tM k) z) (hv : S 21 = v) (hdg : decode cc pc = .ok (.getfield 108, 3)) (kk : tl_At l R nc ns Q D (wM q k) nL z (pc + 3) lv (.int v :: rest) (S, A)) : tl_At l R nc ns Q D (wM q k) nL z pc lv (.ref (q 0) :: rest) (S, A) := by
  subst hv
  obtain ⟨p, e, s, m, args, below, meth, c, F⟩ := z
  obtain ⟨hx, hb, hml, hown, hts, hN, hK, hA, hlk, hr⟩ := C
  exact fun ls H locs hl hP hD hS => va_get (D := D) (ci := 7) (v := .int (S 21)) (C := R_M) (T := F_M) (N := 30) hx hb hts lays_M hown hK hP 0 rfl rfl 23 (by decide) (hts _ in_587) (fun _ h => h) rfl hdg (kk ls H locs hl hP hD hS)
theorem gM_M_36 {l : Launch} {R : Room} {nc ns : Nat} {Q : tl_Z → State → Prop} {D : va_G} {q : Nat → Nat} {k : Nat → ClassId} {nL : Nat} {z : tl_Z} {cc : ByteArray} {ret : Option FieldType} {pc : Nat} {lv : List (Nat × Value)} {rest : List Value} {S : SS} {A : AA} {v : Int32} (C : tl_Cx cc nL R_M ret D (tM k) z) (hv : S 24 = v) (hdg : decode cc pc = .ok (.getfield 36, 3)) (kk : tl_At l R nc ns Q D (wM q k) nL z (pc + 3) lv (.int v :: rest) (S, A)) : tl_At l R nc ns Q D (wM q k) nL z pc lv (.ref (q 0) :: rest) (S, A) := by
  subst hv
  obtain ⟨p, e, s, m, args, below, meth, c, F⟩ := z
  obtain ⟨hx, hb, hml, hown, hts, hN, hK, hA, hlk, hr⟩ := C
  exact fun ls H locs hl hP hD hS => va_get (D := D) (ci := 7) (v := .int (S 24)) (C := R_M) (T := F_M) (N := 30) hx hb hts lays_M hown hK hP 0 rfl rfl 27 (by decide) (hts _ in_591) (fun _ h => h) rfl hdg (kk ls H locs hl hP hD hS)
theorem gM_M_23 {l : Launch} {R : Room} {nc ns : Nat} {Q : tl_Z → State → Prop} {D : va_G} {q : Nat → Nat} {k : Nat → ClassId} {nL : Nat} {z : tl_Z} {cc : ByteArray} {ret : Option FieldType} {pc : Nat} {lv : List (Nat × Value)} {rest : List Value} {S : SS} {A : AA} (C : tl_Cx cc nL R_M ret D (tM k) z) (hdg : decode cc pc = .ok (.getfield 23, 3)) (kk : tl_At l R nc ns Q D (wM q k) nL z (pc + 3) lv (.ref (q 4) :: rest) (S, A)) : tl_At l R nc ns Q D (wM q k) nL z pc lv (.ref (q 0) :: rest) (S, A) := by
  obtain ⟨p, e, s, m, args, below, meth, c, F⟩ := z
  obtain ⟨hx, hb, hml, hown, hts, hN, hK, hA, hlk, hr⟩ := C
  exact fun ls H locs hl hP hD hS => va_get (D := D) (ci := 7) (v := .ref (q 4)) (C := R_M) (T := F_M) (N := 30) hx hb hts lays_M hown hK hP 0 rfl rfl 28 (by decide) (hts _ in_592) (fun _ h => h) rfl hdg (kk ls H locs hl hP hD hS)
theorem gM_M_20 {l : Launch} {R : Room} {nc ns : Nat} {Q : tl_Z → State → Prop} {D : va_G} {q : Nat → Nat} {k : Nat → ClassId} {nL : Nat} {z : tl_Z} {cc : ByteArray} {ret : Option FieldType} {pc : Nat} {lv : List (Nat × Value)} {rest : List Value} {S : SS} {A : AA} (C : tl_Cx cc nL R_M ret D (tM k) z) (hdg : decode cc pc = .ok (.getfield 20, 3)) (kk : tl_At l R nc ns Q D (wM q k) nL z (pc + 3) lv (.ref (q 3) :: rest) (S, A)) : tl_At l R nc ns Q D (wM q k) nL z pc lv (.ref (q 0) :: rest) (S, A) := by
  obtain ⟨p, e, s, m, args, below, meth, c, F⟩ := z
  obtain ⟨hx, hb, hml, hown, hts, hN, hK, hA, hlk, hr⟩ := C
  exact fun ls H locs hl hP hD hS => va_get (D := D) (ci := 7) (v := .ref (q 3)) (C := R_M) (T := F_M) (N := 30) hx hb hts lays_M hown hK hP 0 rfl rfl 26 (by decide) (hts _ in_590) (fun _ h => h) rfl hdg (kk ls H locs hl hP hD hS)
theorem pM_M_36 {l : Launch} {R : Room} {nc ns : Nat} {Q : tl_Z → State → Prop} {D : va_G} {q : Nat → Nat} {k : Nat → ClassId} {nL : Nat} {z : tl_Z} {cc : ByteArray} {ret : Option FieldType} {pc : Nat} {lv : List (Nat × Value)} {rest : List Value} {S : SS} {A : AA} {v : Int32} (C : tl_Cx cc nL R_M ret D (tM k) z) (hdg : decode cc pc = .ok (.putfield 36, 3)) (kk : tl_At l R nc ns Q D (wM q k) nL z (pc + 3) lv (rest) ((va_up S 24 v), A)) : tl_At l R nc ns Q D (wM q k) nL z pc lv (.int v :: .ref (q 0) :: rest) (S, A) := by
  obtain ⟨p, e, s, m, args, below, meth, c, F⟩ := z
  obtain ⟨hx, hb, hml, hown, hts, hN, hK, hA, hlk, hr⟩ := C
  exact fun ls H locs hl hP hD hS => va_put (D := D) (ci := 7) (v := .int v) (ty := .int) (C := R_M) (T := F_M) (N := 30) hx hb hts lays_M ty_M tyok_M nm_M hown hK hP hD hS 0 rfl rfl 27 (by decide) (hts _ in_591) (fun _ h => h) rfl (by decide +kernel) rfl rfl (Nat.le_of_ble_eq_true rfl) hdg (fun H1 locs1 hP1 hD1 hS1 => kk ls H1 locs1 hl hP1 hD1 hS1)
theorem gM_M_120 {l : Launch} {R : Room} {nc ns : Nat} {Q : tl_Z → State → Prop} {D : va_G} {q : Nat → Nat} {k : Nat → ClassId} {nL : Nat} {z : tl_Z} {cc : ByteArray} {ret : Option FieldType} {pc : Nat} {lv : List (Nat × Value)} {rest : List Value} {S : SS} {A : AA} {v : Int32} (C : tl_Cx cc nL R_M ret D (tM k) z) (hv : S 22 = v) (hdg : decode cc pc = .ok (.getfield 120, 3)) (kk : tl_At l R nc ns Q D (wM q k) nL z (pc + 3) lv (.int v :: rest) (S, A)) : tl_At l R nc ns Q D (wM q k) nL z pc lv (.ref (q 0) :: rest) (S, A) := by
  subst hv
  obtain ⟨p, e, s, m, args, below, meth, c, F⟩ := z
  obtain ⟨hx, hb, hml, hown, hts, hN, hK, hA, hlk, hr⟩ := C
  exact fun ls H locs hl hP hD hS => va_get (D := D) (ci := 7) (v := .int (S 22)) (C := R_M) (T := F_M) (N := 30) hx hb hts lays_M hown hK hP 0 rfl rfl 24 (by decide) (hts _ in_588) (fun _ h => h) rfl hdg (kk ls H locs hl hP hD hS)
theorem pM_M_120 {l : Launch} {R : Room} {nc ns : Nat} {Q : tl_Z → State → Prop} {D : va_G} {q : Nat → Nat} {k : Nat → ClassId} {nL : Nat} {z : tl_Z} {cc : ByteArray} {ret : Option FieldType} {pc : Nat} {lv : List (Nat × Value)} {rest : List Value} {S : SS} {A : AA} {v : Int32} (C : tl_Cx cc nL R_M ret D (tM k) z) (hdg : decode cc pc = .ok (.putfield 120, 3)) (kk : tl_At l R nc ns Q D (wM q k) nL z (pc + 3) lv (rest) ((va_up S 22 v), A)) : tl_At l R nc ns Q D (wM q k) nL z pc lv (.int v :: .ref (q 0) :: rest) (S, A) := by
  obtain ⟨p, e, s, m, args, below, meth, c, F⟩ := z
  obtain ⟨hx, hb, hml, hown, hts, hN, hK, hA, hlk, hr⟩ := C
  exact fun ls H locs hl hP hD hS => va_put (D := D) (ci := 7) (v := .int v) (ty := .int) (C := R_M) (T := F_M) (N := 30) hx hb hts lays_M ty_M tyok_M nm_M hown hK hP hD hS 0 rfl rfl 24 (by decide) (hts _ in_588) (fun _ h => h) rfl (by decide +kernel) rfl rfl (Nat.le_of_ble_eq_true rfl) hdg (fun H1 locs1 hP1 hD1 hS1 => kk ls H1 locs1 hl hP1 hD1 hS1)
theorem pM_M_123 {l : Launch} {R : Room} {nc ns : Nat} {Q : tl_Z → State → Prop} {D : va_G} {q : Nat → Nat} {k : Nat → ClassId} {nL : Nat} {z : tl_Z} {cc : ByteArray} {ret : Option FieldType} {pc : Nat} {lv : List (Nat × Value)} {rest : List Value} {S : SS} {A : AA} {v : Int32} (C : tl_Cx cc nL R_M ret D (tM k) z) (hdg : decode cc pc = .ok (.putfield 123, 3)) (kk : tl_At l R nc ns Q D (wM q k) nL z (pc + 3) lv (rest) ((va_up S 23 v), A)) : tl_At l R nc ns Q D (wM q k) nL z pc lv (.int v :: .ref (q 0) :: rest) (S, A) := by
  obtain ⟨p, e, s, m, args, below, meth, c, F⟩ := z
  obtain ⟨hx, hb, hml, hown, hts, hN, hK, hA, hlk, hr⟩ := C
  exact fun ls H locs hl hP hD hS => va_put (D := D) (ci := 7) (v := .int v) (ty := .int) (C := R_M) (T := F_M) (N := 30) hx hb hts lays_M ty_M tyok_M nm_M hown hK hP hD hS 0 rfl rfl 25 (by decide) (hts _ in_589) (fun _ h => h) rfl (by decide +kernel) rfl rfl (Nat.le_of_ble_eq_true rfl) hdg (fun H1 locs1 hP1 hD1 hS1 => kk ls H1 locs1 hl hP1 hD1 hS1)
theorem gM_M_26 {l : Launch} {R : Room} {nc ns : Nat} {Q : tl_Z → State → Prop} {D : va_G} {q : Nat → Nat} {k : Nat → ClassId} {nL : Nat} {z : tl_Z} {cc : ByteArray} {ret : Option FieldType} {pc : Nat} {lv : List (Nat × Value)} {rest : List Value} {S : SS} {A : AA} (C : tl_Cx cc nL R_M ret D (tM k) z) (hdg : decode cc pc = .ok (.getfield 26, 3)) (kk : tl_At l R nc ns Q D (wM q k) nL z (pc + 3) lv (.ref (q 5) :: rest) (S, A)) : tl_At l R nc ns Q D (wM q k) nL z pc lv (.ref (q 0) :: rest) (S, A) := by
  obtain ⟨p, e, s, m, args, below, meth, c, F⟩ := z
  obtain ⟨hx, hb, hml, hown, hts, hN, hK, hA, hlk, hr⟩ := C
  exact fun ls H locs hl hP hD hS => va_get (D := D) (ci := 7) (v := .ref (q 5)) (C := R_M) (T := F_M) (N := 30) hx hb hts lays_M hown hK hP 0 rfl rfl 29 (by decide) (hts _ in_593) (fun _ h => h) rfl hdg (kk ls H locs hl hP hD hS)
theorem gM_M_102 {l : Launch} {R : Room} {nc ns : Nat} {Q : tl_Z → State → Prop} {D : va_G} {q : Nat → Nat} {k : Nat → ClassId} {nL : Nat} {z : tl_Z} {cc : ByteArray} {ret : Option FieldType} {pc : Nat} {lv : List (Nat × Value)} {rest : List Value} {S : SS} {A : AA} {v : Int32} (C : tl_Cx cc nL R_M ret D (tM k) z) (hv : S 17 = v) (hdg : decode cc pc = .ok (.getfield 102, 3)) (kk : tl_At l R nc ns Q D (wM q k) nL z (pc + 3) lv (.int v :: rest) (S, A)) : tl_At l R nc ns Q D (wM q k) nL z pc lv (.ref (q 0) :: rest) (S, A) := by
  subst hv
  obtain ⟨p, e, s, m, args, below, meth, c, F⟩ := z
  obtain ⟨hx, hb, hml, hown, hts, hN, hK, hA, hlk, hr⟩ := C
  exact fun ls H locs hl hP hD hS => va_get (D := D) (ci := 7) (v := .int (S 17)) (C := R_M) (T := F_M) (N := 30) hx hb hts lays_M hown hK hP 0 rfl rfl 18 (by decide) (hts _ in_582) (fun _ h => h) rfl hdg (kk ls H locs hl hP hD hS)
theorem gM_M_99 {l : Launch} {R : Room} {nc ns : Nat} {Q : tl_Z → State → Prop} {D : va_G} {q : Nat → Nat} {k : Nat → ClassId} {nL : Nat} {z : tl_Z} {cc : ByteArray} {ret : Option FieldType} {pc : Nat} {lv : List (Nat × Value)} {rest : List Value} {S : SS} {A : AA} {v : Int32} (C : tl_Cx cc nL R_M ret D (tM k) z) (hv : S 16 = v) (hdg : decode cc pc = .ok (.getfield 99, 3)) (kk : tl_At l R nc ns Q D (wM q k) nL z (pc + 3) lv (.int v :: rest) (S, A)) : tl_At l R nc ns Q D (wM q k) nL z pc lv (.ref (q 0) :: rest) (S, A) := by
  subst hv
  obtain ⟨p, e, s, m, args, below, meth, c, F⟩ := z
  obtain ⟨hx, hb, hml, hown, hts, hN, hK, hA, hlk, hr⟩ := C
  exact fun ls H locs hl hP hD hS => va_get (D := D) (ci := 7) (v := .int (S 16)) (C := R_M) (T := F_M) (N := 30) hx hb hts lays_M hown hK hP 0 rfl rfl 17 (by decide) (hts _ in_581) (fun _ h => h) rfl hdg (kk ls H locs hl hP hD hS)
theorem gM_M_17 {l : Launch} {R : Room} {nc ns : Nat} {Q : tl_Z → State → Prop} {D : va_G} {q : Nat → Nat} {k : Nat → ClassId} {nL : Nat} {z : tl_Z} {cc : ByteArray} {ret : Option FieldType} {pc : Nat} {lv : List (Nat × Value)} {rest : List Value} {S : SS} {A : AA} (C : tl_Cx cc nL R_M ret D (tM k) z) (hdg : decode cc pc = .ok (.getfield 17, 3)) (kk : tl_At l R nc ns Q D (wM q k) nL z (pc + 3) lv (.ref (q 2) :: rest) (S, A)) : tl_At l R nc ns Q D (wM q k) nL z pc lv (.ref (q 0) :: rest) (S, A) := by
  obtain ⟨p, e, s, m, args, below, meth, c, F⟩ := z
  obtain ⟨hx, hb, hml, hown, hts, hN, hK, hA, hlk, hr⟩ := C
  exact fun ls H locs hl hP hD hS => va_get (D := D) (ci := 7) (v := .ref (q 2)) (C := R_M) (T := F_M) (N := 30) hx hb hts lays_M hown hK hP 0 rfl rfl 21 (by decide) (hts _ in_585) (fun _ h => h) rfl hdg (kk ls H locs hl hP hD hS)
theorem pM_M_102 {l : Launch} {R : Room} {nc ns : Nat} {Q : tl_Z → State → Prop} {D : va_G} {q : Nat → Nat} {k : Nat → ClassId} {nL : Nat} {z : tl_Z} {cc : ByteArray} {ret : Option FieldType} {pc : Nat} {lv : List (Nat × Value)} {rest : List Value} {S : SS} {A : AA} {v : Int32} (C : tl_Cx cc nL R_M ret D (tM k) z) (hdg : decode cc pc = .ok (.putfield 102, 3)) (kk : tl_At l R nc ns Q D (wM q k) nL z (pc + 3) lv (rest) ((va_up S 17 v), A)) : tl_At l R nc ns Q D (wM q k) nL z pc lv (.int v :: .ref (q 0) :: rest) (S, A) := by
  obtain ⟨p, e, s, m, args, below, meth, c, F⟩ := z
  obtain ⟨hx, hb, hml, hown, hts, hN, hK, hA, hlk, hr⟩ := C
  exact fun ls H locs hl hP hD hS => va_put (D := D) (ci := 7) (v := .int v) (ty := .int) (C := R_M) (T := F_M) (N := 30) hx hb hts lays_M ty_M tyok_M nm_M hown hK hP hD hS 0 rfl rfl 18 (by decide) (hts _ in_582) (fun _ h => h) rfl (by decide +kernel) rfl rfl (Nat.le_of_ble_eq_true rfl) hdg (fun H1 locs1 hP1 hD1 hS1 => kk ls H1 locs1 hl hP1 hD1 hS1)
theorem pM_M_192 {l : Launch} {R : Room} {nc ns : Nat} {Q : tl_Z → State → Prop} {D : va_G} {q : Nat → Nat} {k : Nat → ClassId} {nL : Nat} {z : tl_Z} {cc : ByteArray} {ret : Option FieldType} {pc : Nat} {lv : List (Nat × Value)} {rest : List Value} {S : SS} {A : AA} {v : Int32} (C : tl_Cx cc nL R_M ret D (tM k) z) (hdg : decode cc pc = .ok (.putfield 192, 3)) (kk : tl_At l R nc ns Q D (wM q k) nL z (pc + 3) lv (rest) ((va_up S 19 v), A)) : tl_At l R nc ns Q D (wM q k) nL z pc lv (.int v :: .ref (q 0) :: rest) (S, A) := by
  obtain ⟨p, e, s, m, args, below, meth, c, F⟩ := z
  obtain ⟨hx, hb, hml, hown, hts, hN, hK, hA, hlk, hr⟩ := C
  exact fun ls H locs hl hP hD hS => va_put (D := D) (ci := 7) (v := .int v) (ty := .int) (C := R_M) (T := F_M) (N := 30) hx hb hts lays_M ty_M tyok_M nm_M hown hK hP hD hS 0 rfl rfl 20 (by decide) (hts _ in_584) (fun _ h => h) rfl (by decide +kernel) rfl rfl (Nat.le_of_ble_eq_true rfl) hdg (fun H1 locs1 hP1 hD1 hS1 => kk ls H1 locs1 hl hP1 hD1 hS1)
theorem pM_M_99 {l : Launch} {R : Room} {nc ns : Nat} {Q : tl_Z → State → Prop} {D : va_G} {q : Nat → Nat} {k : Nat → ClassId} {nL : Nat} {z : tl_Z} {cc : ByteArray} {ret : Option FieldType} {pc : Nat} {lv : List (Nat × Value)} {rest : List Value} {S : SS} {A : AA} {v : Int32} (C : tl_Cx cc nL R_M ret D (tM k) z) (hdg : decode cc pc = .ok (.putfield 99, 3)) (kk : tl_At l R nc ns Q D (wM q k) nL z (pc + 3) lv (rest) ((va_up S 16 v), A)) : tl_At l R nc ns Q D (wM q k) nL z pc lv (.int v :: .ref (q 0) :: rest) (S, A) := by
  obtain ⟨p, e, s, m, args, below, meth, c, F⟩ := z
  obtain ⟨hx, hb, hml, hown, hts, hN, hK, hA, hlk, hr⟩ := C
  exact fun ls H locs hl hP hD hS => va_put (D := D) (ci := 7) (v := .int v) (ty := .int) (C := R_M) (T := F_M) (N := 30) hx hb hts lays_M ty_M tyok_M nm_M hown hK hP hD hS 0 rfl rfl 17 (by decide) (hts _ in_581) (fun _ h => h) rfl (by decide +kernel) rfl rfl (Nat.le_of_ble_eq_true rfl) hdg (fun H1 locs1 hP1 hD1 hS1 => kk ls H1 locs1 hl hP1 hD1 hS1)
theorem pM_M_195 {l : Launch} {R : Room} {nc ns : Nat} {Q : tl_Z → State → Prop} {D : va_G} {q : Nat → Nat} {k : Nat → ClassId} {nL : Nat} {z : tl_Z} {cc : ByteArray} {ret : Option FieldType} {pc : Nat} {lv : List (Nat × Value)} {rest : List Value} {S : SS} {A : AA} {v : Int32} (C : tl_Cx cc nL R_M ret D (tM k) z) (hdg : decode cc pc = .ok (.putfield 195, 3)) (kk : tl_At l R nc ns Q D (wM q k) nL z (pc + 3) lv (rest) ((va_up S 18 v), A)) : tl_At l R nc ns Q D (wM q k) nL z pc lv (.int v :: .ref (q 0) :: rest) (S, A) := by
  obtain ⟨p, e, s, m, args, below, meth, c, F⟩ := z
  obtain ⟨hx, hb, hml, hown, hts, hN, hK, hA, hlk, hr⟩ := C
  exact fun ls H locs hl hP hD hS => va_put (D := D) (ci := 7) (v := .int v) (ty := .int) (C := R_M) (T := F_M) (N := 30) hx hb hts lays_M ty_M tyok_M nm_M hown hK hP hD hS 0 rfl rfl 19 (by decide) (hts _ in_583) (fun _ h => h) rfl (by decide +kernel) rfl rfl (Nat.le_of_ble_eq_true rfl) hdg (fun H1 locs1 hP1 hD1 hS1 => kk ls H1 locs1 hl hP1 hD1 hS1)
theorem gM_M_90 {l : Launch} {R : Room} {nc ns : Nat} {Q : tl_Z → State → Prop} {D : va_G} {q : Nat → Nat} {k : Nat → ClassId} {nL : Nat} {z : tl_Z} {cc : ByteArray} {ret : Option FieldType} {pc : Nat} {lv : List (Nat × Value)} {rest : List Value} {S : SS} {A : AA} {v : Int32} (C : tl_Cx cc nL R_M ret D (tM k) z) (hv : S 3 = v) (hdg : decode cc pc = .ok (.getfield 90, 3)) (kk : tl_At l R nc ns Q D (wM q k) nL z (pc + 3) lv (.int v :: rest) (S, A)) : tl_At l R nc ns Q D (wM q k) nL z pc lv (.ref (q 0) :: rest) (S, A) := by
  subst hv
  obtain ⟨p, e, s, m, args, below, meth, c, F⟩ := z
  obtain ⟨hx, hb, hml, hown, hts, hN, hK, hA, hlk, hr⟩ := C
  exact fun ls H locs hl hP hD hS => va_get (D := D) (ci := 7) (v := .int (S 3)) (C := R_M) (T := F_M) (N := 30) hx hb hts lays_M hown hK hP 0 rfl rfl 4 (by decide) (hts _ in_568) (fun _ h => h) rfl hdg (kk ls H locs hl hP hD hS)
theorem gM_M_93 {l : Launch} {R : Room} {nc ns : Nat} {Q : tl_Z → State → Prop} {D : va_G} {q : Nat → Nat} {k : Nat → ClassId} {nL : Nat} {z : tl_Z} {cc : ByteArray} {ret : Option FieldType} {pc : Nat} {lv : List (Nat × Value)} {rest : List Value} {S : SS} {A : AA} {v : Int32} (C : tl_Cx cc nL R_M ret D (tM k) z) (hv : S 4 = v) (hdg : decode cc pc = .ok (.getfield 93, 3)) (kk : tl_At l R nc ns Q D (wM q k) nL z (pc + 3) lv (.int v :: rest) (S, A)) : tl_At l R nc ns Q D (wM q k) nL z pc lv (.ref (q 0) :: rest) (S, A) := by
  subst hv
  obtain ⟨p, e, s, m, args, below, meth, c, F⟩ := z
  obtain ⟨hx, hb, hml, hown, hts, hN, hK, hA, hlk, hr⟩ := C
  exact fun ls H locs hl hP hD hS => va_get (D := D) (ci := 7) (v := .int (S 4)) (C := R_M) (T := F_M) (N := 30) hx hb hts lays_M hown hK hP 0 rfl rfl 5 (by decide) (hts _ in_569) (fun _ h => h) rfl hdg (kk ls H locs hl hP hD hS)
theorem gM_M_7 {l : Launch} {R : Room} {nc ns : Nat} {Q : tl_Z → State → Prop} {D : va_G} {q : Nat → Nat} {k : Nat → ClassId} {nL : Nat} {z : tl_Z} {cc : ByteArray} {ret : Option FieldType} {pc : Nat} {lv : List (Nat × Value)} {rest : List Value} {S : SS} {A : AA} (C : tl_Cx cc nL R_M ret D (tM k) z) (hdg : decode cc pc = .ok (.getfield 7, 3)) (kk : tl_At l R nc ns Q D (wM q k) nL z (pc + 3) lv (.ref (q 1) :: rest) (S, A)) : tl_At l R nc ns Q D (wM q k) nL z pc lv (.ref (q 0) :: rest) (S, A) := by
  obtain ⟨p, e, s, m, args, below, meth, c, F⟩ := z
  obtain ⟨hx, hb, hml, hown, hts, hN, hK, hA, hlk, hr⟩ := C
  exact fun ls H locs hl hP hD hS => va_get (D := D) (ci := 7) (v := .ref (q 1)) (C := R_M) (T := F_M) (N := 30) hx hb hts lays_M hown hK hP 0 rfl rfl 0 (by decide) (hts _ in_564) (fun _ h => h) rfl hdg (kk ls H locs hl hP hD hS)
theorem pM_M_90 {l : Launch} {R : Room} {nc ns : Nat} {Q : tl_Z → State → Prop} {D : va_G} {q : Nat → Nat} {k : Nat → ClassId} {nL : Nat} {z : tl_Z} {cc : ByteArray} {ret : Option FieldType} {pc : Nat} {lv : List (Nat × Value)} {rest : List Value} {S : SS} {A : AA} {v : Int32} (C : tl_Cx cc nL R_M ret D (tM k) z) (hdg : decode cc pc = .ok (.putfield 90, 3)) (kk : tl_At l R nc ns Q D (wM q k) nL z (pc + 3) lv (rest) ((va_up S 3 v), A)) : tl_At l R nc ns Q D (wM q k) nL z pc lv (.int v :: .ref (q 0) :: rest) (S, A) := by
  obtain ⟨p, e, s, m, args, below, meth, c, F⟩ := z
  obtain ⟨hx, hb, hml, hown, hts, hN, hK, hA, hlk, hr⟩ := C
  exact fun ls H locs hl hP hD hS => va_put (D := D) (ci := 7) (v := .int v) (ty := .int) (C := R_M) (T := F_M) (N := 30) hx hb hts lays_M ty_M tyok_M nm_M hown hK hP hD hS 0 rfl rfl 4 (by decide) (hts _ in_568) (fun _ h => h) rfl (by decide +kernel) rfl rfl (Nat.le_of_ble_eq_true rfl) hdg (fun H1 locs1 hP1 hD1 hS1 => kk ls H1 locs1 hl hP1 hD1 hS1)
theorem pM_M_93 {l : Launch} {R : Room} {nc ns : Nat} {Q : tl_Z → State → Prop} {D : va_G} {q : Nat → Nat} {k : Nat → ClassId} {nL : Nat} {z : tl_Z} {cc : ByteArray} {ret : Option FieldType} {pc : Nat} {lv : List (Nat × Value)} {rest : List Value} {S : SS} {A : AA} {v : Int32} (C : tl_Cx cc nL R_M ret D (tM k) z) (hz : tl_z v) (hdg : decode cc pc = .ok (.putfield 93, 3)) (kk : tl_At l R nc ns Q D (wM q k) nL z (pc + 3) lv (rest) ((va_up S 4 v), A)) : tl_At l R nc ns Q D (wM q k) nL z pc lv (.int v :: .ref (q 0) :: rest) (S, A) := by
  obtain ⟨p, e, s, m, args, below, meth, c, F⟩ := z
  obtain ⟨hx, hb, hml, hown, hts, hN, hK, hA, hlk, hr⟩ := C
  exact fun ls H locs hl hP hD hS => va_put (D := D) (ci := 7) (v := .int v) (ty := .boolean) (C := R_M) (T := F_M) (N := 30) hx hb hts lays_M ty_M tyok_M nm_M hown hK hP hD hS 0 rfl rfl 5 (by decide) (hts _ in_569) (fun _ h => h) rfl (by decide +kernel) (tl_zn hz) (tl_zf hz) (Nat.le_of_ble_eq_true rfl) hdg (fun H1 locs1 hP1 hD1 hS1 => kk ls H1 locs1 hl hP1 hD1 hS1)
theorem pM_M_96 {l : Launch} {R : Room} {nc ns : Nat} {Q : tl_Z → State → Prop} {D : va_G} {q : Nat → Nat} {k : Nat → ClassId} {nL : Nat} {z : tl_Z} {cc : ByteArray} {ret : Option FieldType} {pc : Nat} {lv : List (Nat × Value)} {rest : List Value} {S : SS} {A : AA} {v : Int32} (C : tl_Cx cc nL R_M ret D (tM k) z) (hdg : decode cc pc = .ok (.putfield 96, 3)) (kk : tl_At l R nc ns Q D (wM q k) nL z (pc + 3) lv (rest) ((va_up S 8 v), A)) : tl_At l R nc ns Q D (wM q k) nL z pc lv (.int v :: .ref (q 0) :: rest) (S, A) := by
  obtain ⟨p, e, s, m, args, below, meth, c, F⟩ := z
  obtain ⟨hx, hb, hml, hown, hts, hN, hK, hA, hlk, hr⟩ := C
  exact fun ls H locs hl hP hD hS => va_put (D := D) (ci := 7) (v := .int v) (ty := .int) (C := R_M) (T := F_M) (N := 30) hx hb hts lays_M ty_M tyok_M nm_M hown hK hP hD hS 0 rfl rfl 9 (by decide) (hts _ in_573) (fun _ h => h) rfl (by decide +kernel) rfl rfl (Nat.le_of_ble_eq_true rfl) hdg (fun H1 locs1 hP1 hD1 hS1 => kk ls H1 locs1 hl hP1 hD1 hS1)
theorem pM_M_13 {l : Launch} {R : Room} {nc ns : Nat} {Q : tl_Z → State → Prop} {D : va_G} {q : Nat → Nat} {k : Nat → ClassId} {nL : Nat} {z : tl_Z} {cc : ByteArray} {ret : Option FieldType} {pc : Nat} {lv : List (Nat × Value)} {rest : List Value} {S : SS} {A : AA} {v : Int32} (C : tl_Cx cc nL R_M ret D (tM k) z) (hdg : decode cc pc = .ok (.putfield 13, 3)) (kk : tl_At l R nc ns Q D (wM q k) nL z (pc + 3) lv (rest) ((va_up S 12 v), A)) : tl_At l R nc ns Q D (wM q k) nL z pc lv (.int v :: .ref (q 0) :: rest) (S, A) := by
  obtain ⟨p, e, s, m, args, below, meth, c, F⟩ := z
  obtain ⟨hx, hb, hml, hown, hts, hN, hK, hA, hlk, hr⟩ := C
  exact fun ls H locs hl hP hD hS => va_put (D := D) (ci := 7) (v := .int v) (ty := .int) (C := R_M) (T := F_M) (N := 30) hx hb hts lays_M ty_M tyok_M nm_M hown hK hP hD hS 0 rfl rfl 13 (by decide) (hts _ in_577) (fun _ h => h) rfl (by decide +kernel) rfl rfl (Nat.le_of_ble_eq_true rfl) hdg (fun H1 locs1 hP1 hD1 hS1 => kk ls H1 locs1 hl hP1 hD1 hS1)
theorem pM_M_65 {l : Launch} {R : Room} {nc ns : Nat} {Q : tl_Z → State → Prop} {D : va_G} {q : Nat → Nat} {k : Nat → ClassId} {nL : Nat} {z : tl_Z} {cc : ByteArray} {ret : Option FieldType} {pc : Nat} {lv : List (Nat × Value)} {rest : List Value} {S : SS} {A : AA} {v : Int32} (C : tl_Cx cc nL R_M ret D (tM k) z) (hdg : decode cc pc = .ok (.putfield 65, 3)) (kk : tl_At l R nc ns Q D (wM q k) nL z (pc + 3) lv (rest) ((va_up S 2 v), A)) : tl_At l R nc ns Q D (wM q k) nL z pc lv (.int v :: .ref (q 0) :: rest) (S, A) := by
  obtain ⟨p, e, s, m, args, below, meth, c, F⟩ := z
  obtain ⟨hx, hb, hml, hown, hts, hN, hK, hA, hlk, hr⟩ := C
  exact fun ls H locs hl hP hD hS => va_put (D := D) (ci := 7) (v := .int v) (ty := .int) (C := R_M) (T := F_M) (N := 30) hx hb hts lays_M ty_M tyok_M nm_M hown hK hP hD hS 0 rfl rfl 3 (by decide) (hts _ in_567) (fun _ h => h) rfl (by decide +kernel) rfl rfl (Nat.le_of_ble_eq_true rfl) hdg (fun H1 locs1 hP1 hD1 hS1 => kk ls H1 locs1 hl hP1 hD1 hS1)
theorem pM_M_78 {l : Launch} {R : Room} {nc ns : Nat} {Q : tl_Z → State → Prop} {D : va_G} {q : Nat → Nat} {k : Nat → ClassId} {nL : Nat} {z : tl_Z} {cc : ByteArray} {ret : Option FieldType} {pc : Nat} {lv : List (Nat × Value)} {rest : List Value} {S : SS} {A : AA} {v : Int32} (C : tl_Cx cc nL R_M ret D (tM k) z) (hdg : decode cc pc = .ok (.putfield 78, 3)) (kk : tl_At l R nc ns Q D (wM q k) nL z (pc + 3) lv (rest) ((va_up S 5 v), A)) : tl_At l R nc ns Q D (wM q k) nL z pc lv (.int v :: .ref (q 0) :: rest) (S, A) := by
  obtain ⟨p, e, s, m, args, below, meth, c, F⟩ := z
  obtain ⟨hx, hb, hml, hown, hts, hN, hK, hA, hlk, hr⟩ := C
  exact fun ls H locs hl hP hD hS => va_put (D := D) (ci := 7) (v := .int v) (ty := .int) (C := R_M) (T := F_M) (N := 30) hx hb hts lays_M ty_M tyok_M nm_M hown hK hP hD hS 0 rfl rfl 6 (by decide) (hts _ in_570) (fun _ h => h) rfl (by decide +kernel) rfl rfl (Nat.le_of_ble_eq_true rfl) hdg (fun H1 locs1 hP1 hD1 hS1 => kk ls H1 locs1 hl hP1 hD1 hS1)
theorem pM_M_81 {l : Launch} {R : Room} {nc ns : Nat} {Q : tl_Z → State → Prop} {D : va_G} {q : Nat → Nat} {k : Nat → ClassId} {nL : Nat} {z : tl_Z} {cc : ByteArray} {ret : Option FieldType} {pc : Nat} {lv : List (Nat × Value)} {rest : List Value} {S : SS} {A : AA} {v : Int32} (C : tl_Cx cc nL R_M ret D (tM k) z) (hdg : decode cc pc = .ok (.putfield 81, 3)) (kk : tl_At l R nc ns Q D (wM q k) nL z (pc + 3) lv (rest) ((va_up S 9 v), A)) : tl_At l R nc ns Q D (wM q k) nL z pc lv (.int v :: .ref (q 0) :: rest) (S, A) := by
  obtain ⟨p, e, s, m, args, below, meth, c, F⟩ := z
  obtain ⟨hx, hb, hml, hown, hts, hN, hK, hA, hlk, hr⟩ := C
  exact fun ls H locs hl hP hD hS => va_put (D := D) (ci := 7) (v := .int v) (ty := .int) (C := R_M) (T := F_M) (N := 30) hx hb hts lays_M ty_M tyok_M nm_M hown hK hP hD hS 0 rfl rfl 10 (by decide) (hts _ in_574) (fun _ h => h) rfl (by decide +kernel) rfl rfl (Nat.le_of_ble_eq_true rfl) hdg (fun H1 locs1 hP1 hD1 hS1 => kk ls H1 locs1 hl hP1 hD1 hS1)
theorem pM_M_84 {l : Launch} {R : Room} {nc ns : Nat} {Q : tl_Z → State → Prop} {D : va_G} {q : Nat → Nat} {k : Nat → ClassId} {nL : Nat} {z : tl_Z} {cc : ByteArray} {ret : Option FieldType} {pc : Nat} {lv : List (Nat × Value)} {rest : List Value} {S : SS} {A : AA} {v : Int32} (C : tl_Cx cc nL R_M ret D (tM k) z) (hdg : decode cc pc = .ok (.putfield 84, 3)) (kk : tl_At l R nc ns Q D (wM q k) nL z (pc + 3) lv (rest) ((va_up S 10 v), A)) : tl_At l R nc ns Q D (wM q k) nL z pc lv (.int v :: .ref (q 0) :: rest) (S, A) := by
  obtain ⟨p, e, s, m, args, below, meth, c, F⟩ := z
  obtain ⟨hx, hb, hml, hown, hts, hN, hK, hA, hlk, hr⟩ := C
  exact fun ls H locs hl hP hD hS => va_put (D := D) (ci := 7) (v := .int v) (ty := .int) (C := R_M) (T := F_M) (N := 30) hx hb hts lays_M ty_M tyok_M nm_M hown hK hP hD hS 0 rfl rfl 11 (by decide) (hts _ in_575) (fun _ h => h) rfl (by decide +kernel) rfl rfl (Nat.le_of_ble_eq_true rfl) hdg (fun H1 locs1 hP1 hD1 hS1 => kk ls H1 locs1 hl hP1 hD1 hS1)
theorem pM_M_87 {l : Launch} {R : Room} {nc ns : Nat} {Q : tl_Z → State → Prop} {D : va_G} {q : Nat → Nat} {k : Nat → ClassId} {nL : Nat} {z : tl_Z} {cc : ByteArray} {ret : Option FieldType} {pc : Nat} {lv : List (Nat × Value)} {rest : List Value} {S : SS} {A : AA} {v : Int32} (C : tl_Cx cc nL R_M ret D (tM k) z) (hdg : decode cc pc = .ok (.putfield 87, 3)) (kk : tl_At l R nc ns Q D (wM q k) nL z (pc + 3) lv (rest) ((va_up S 6 v), A)) : tl_At l R nc ns Q D (wM q k) nL z pc lv (.int v :: .ref (q 0) :: rest) (S, A) := by
  obtain ⟨p, e, s, m, args, below, meth, c, F⟩ := z
  obtain ⟨hx, hb, hml, hown, hts, hN, hK, hA, hlk, hr⟩ := C
  exact fun ls H locs hl hP hD hS => va_put (D := D) (ci := 7) (v := .int v) (ty := .int) (C := R_M) (T := F_M) (N := 30) hx hb hts lays_M ty_M tyok_M nm_M hown hK hP hD hS 0 rfl rfl 7 (by decide) (hts _ in_571) (fun _ h => h) rfl (by decide +kernel) rfl rfl (Nat.le_of_ble_eq_true rfl) hdg (fun H1 locs1 hP1 hD1 hS1 => kk ls H1 locs1 hl hP1 hD1 hS1)
theorem gM_M_46 {l : Launch} {R : Room} {nc ns : Nat} {Q : tl_Z → State → Prop} {D : va_G} {q : Nat → Nat} {k : Nat → ClassId} {nL : Nat} {z : tl_Z} {cc : ByteArray} {ret : Option FieldType} {pc : Nat} {lv : List (Nat × Value)} {rest : List Value} {S : SS} {A : AA} {v : Int32} (C : tl_Cx cc nL R_M ret D (tM k) z) (hv : S 0 = v) (hdg : decode cc pc = .ok (.getfield 46, 3)) (kk : tl_At l R nc ns Q D (wM q k) nL z (pc + 3) lv (.int v :: rest) (S, A)) : tl_At l R nc ns Q D (wM q k) nL z pc lv (.ref (q 0) :: rest) (S, A) := by
  subst hv
  obtain ⟨p, e, s, m, args, below, meth, c, F⟩ := z
  obtain ⟨hx, hb, hml, hown, hts, hN, hK, hA, hlk, hr⟩ := C
  exact fun ls H locs hl hP hD hS => va_get (D := D) (ci := 7) (v := .int (S 0)) (C := R_M) (T := F_M) (N := 30) hx hb hts lays_M hown hK hP 0 rfl rfl 1 (by decide) (hts _ in_565) (fun _ h => h) rfl hdg (kk ls H locs hl hP hD hS)
theorem gM_M_50 {l : Launch} {R : Room} {nc ns : Nat} {Q : tl_Z → State → Prop} {D : va_G} {q : Nat → Nat} {k : Nat → ClassId} {nL : Nat} {z : tl_Z} {cc : ByteArray} {ret : Option FieldType} {pc : Nat} {lv : List (Nat × Value)} {rest : List Value} {S : SS} {A : AA} {v : Int32} (C : tl_Cx cc nL R_M ret D (tM k) z) (hv : S 1 = v) (hdg : decode cc pc = .ok (.getfield 50, 3)) (kk : tl_At l R nc ns Q D (wM q k) nL z (pc + 3) lv (.int v :: rest) (S, A)) : tl_At l R nc ns Q D (wM q k) nL z pc lv (.ref (q 0) :: rest) (S, A) := by
  subst hv
  obtain ⟨p, e, s, m, args, below, meth, c, F⟩ := z
  obtain ⟨hx, hb, hml, hown, hts, hN, hK, hA, hlk, hr⟩ := C
  exact fun ls H locs hl hP hD hS => va_get (D := D) (ci := 7) (v := .int (S 1)) (C := R_M) (T := F_M) (N := 30) hx hb hts lays_M hown hK hP 0 rfl rfl 2 (by decide) (hts _ in_566) (fun _ h => h) rfl hdg (kk ls H locs hl hP hD hS)
theorem gM_M_13 {l : Launch} {R : Room} {nc ns : Nat} {Q : tl_Z → State → Prop} {D : va_G} {q : Nat → Nat} {k : Nat → ClassId} {nL : Nat} {z : tl_Z} {cc : ByteArray} {ret : Option FieldType} {pc : Nat} {lv : List (Nat × Value)} {rest : List Value} {S : SS} {A : AA} {v : Int32} (C : tl_Cx cc nL R_M ret D (tM k) z) (hv : S 12 = v) (hdg : decode cc pc = .ok (.getfield 13, 3)) (kk : tl_At l R nc ns Q D (wM q k) nL z (pc + 3) lv (.int v :: rest) (S, A)) : tl_At l R nc ns Q D (wM q k) nL z pc lv (.ref (q 0) :: rest) (S, A) := by
  subst hv
  obtain ⟨p, e, s, m, args, below, meth, c, F⟩ := z
  obtain ⟨hx, hb, hml, hown, hts, hN, hK, hA, hlk, hr⟩ := C
  exact fun ls H locs hl hP hD hS => va_get (D := D) (ci := 7) (v := .int (S 12)) (C := R_M) (T := F_M) (N := 30) hx hb hts lays_M hown hK hP 0 rfl rfl 13 (by decide) (hts _ in_577) (fun _ h => h) rfl hdg (kk ls H locs hl hP hD hS)
theorem gM_M_111 {l : Launch} {R : Room} {nc ns : Nat} {Q : tl_Z → State → Prop} {D : va_G} {q : Nat → Nat} {k : Nat → ClassId} {nL : Nat} {z : tl_Z} {cc : ByteArray} {ret : Option FieldType} {pc : Nat} {lv : List (Nat × Value)} {rest : List Value} {S : SS} {A : AA} {v : Int32} (C : tl_Cx cc nL R_M ret D (tM k) z) (hv : S 13 = v) (hdg : decode cc pc = .ok (.getfield 111, 3)) (kk : tl_At l R nc ns Q D (wM q k) nL z (pc + 3) lv (.int v :: rest) (S, A)) : tl_At l R nc ns Q D (wM q k) nL z pc lv (.ref (q 0) :: rest) (S, A) := by
  subst hv
  obtain ⟨p, e, s, m, args, below, meth, c, F⟩ := z
  obtain ⟨hx, hb, hml, hown, hts, hN, hK, hA, hlk, hr⟩ := C
  exact fun ls H locs hl hP hD hS => va_get (D := D) (ci := 7) (v := .int (S 13)) (C := R_M) (T := F_M) (N := 30) hx hb hts lays_M hown hK hP 0 rfl rfl 14 (by decide) (hts _ in_578) (fun _ h => h) rfl hdg (kk ls H locs hl hP hD hS)
theorem gM_M_114 {l : Launch} {R : Room} {nc ns : Nat} {Q : tl_Z → State → Prop} {D : va_G} {q : Nat → Nat} {k : Nat → ClassId} {nL : Nat} {z : tl_Z} {cc : ByteArray} {ret : Option FieldType} {pc : Nat} {lv : List (Nat × Value)} {rest : List Value} {S : SS} {A : AA} {v : Int32} (C : tl_Cx cc nL R_M ret D (tM k) z) (hv : S 14 = v) (hdg : decode cc pc = .ok (.getfield 114, 3)) (kk : tl_At l R nc ns Q D (wM q k) nL z (pc + 3) lv (.int v :: rest) (S, A)) : tl_At l R nc ns Q D (wM q k) nL z pc lv (.ref (q 0) :: rest) (S, A) := by
  subst hv
  obtain ⟨p, e, s, m, args, below, meth, c, F⟩ := z
  obtain ⟨hx, hb, hml, hown, hts, hN, hK, hA, hlk, hr⟩ := C
  exact fun ls H locs hl hP hD hS => va_get (D := D) (ci := 7) (v := .int (S 14)) (C := R_M) (T := F_M) (N := 30) hx hb hts lays_M hown hK hP 0 rfl rfl 15 (by decide) (hts _ in_579) (fun _ h => h) rfl hdg (kk ls H locs hl hP hD hS)
theorem pM_M_46 {l : Launch} {R : Room} {nc ns : Nat} {Q : tl_Z → State → Prop} {D : va_G} {q : Nat → Nat} {k : Nat → ClassId} {nL : Nat} {z : tl_Z} {cc : ByteArray} {ret : Option FieldType} {pc : Nat} {lv : List (Nat × Value)} {rest : List Value} {S : SS} {A : AA} {v : Int32} (C : tl_Cx cc nL R_M ret D (tM k) z) (hz : tl_z v) (hdg : decode cc pc = .ok (.putfield 46, 3)) (kk : tl_At l R nc ns Q D (wM q k) nL z (pc + 3) lv (rest) ((va_up S 0 v), A)) : tl_At l R nc ns Q D (wM q k) nL z pc lv (.int v :: .ref (q 0) :: rest) (S, A) := by
  obtain ⟨p, e, s, m, args, below, meth, c, F⟩ := z
  obtain ⟨hx, hb, hml, hown, hts, hN, hK, hA, hlk, hr⟩ := C
  exact fun ls H locs hl hP hD hS => va_put (D := D) (ci := 7) (v := .int v) (ty := .boolean) (C := R_M) (T := F_M) (N := 30) hx hb hts lays_M ty_M tyok_M nm_M hown hK hP hD hS 0 rfl rfl 1 (by decide) (hts _ in_565) (fun _ h => h) rfl (by decide +kernel) (tl_zn hz) (tl_zf hz) (Nat.le_of_ble_eq_true rfl) hdg (fun H1 locs1 hP1 hD1 hS1 => kk ls H1 locs1 hl hP1 hD1 hS1)
theorem gM_M_150 {l : Launch} {R : Room} {nc ns : Nat} {Q : tl_Z → State → Prop} {D : va_G} {q : Nat → Nat} {k : Nat → ClassId} {nL : Nat} {z : tl_Z} {cc : ByteArray} {ret : Option FieldType} {pc : Nat} {lv : List (Nat × Value)} {rest : List Value} {S : SS} {A : AA} {v : Int32} (C : tl_Cx cc nL R_M ret D (tM k) z) (hv : S 15 = v) (hdg : decode cc pc = .ok (.getfield 150, 3)) (kk : tl_At l R nc ns Q D (wM q k) nL z (pc + 3) lv (.int v :: rest) (S, A)) : tl_At l R nc ns Q D (wM q k) nL z pc lv (.ref (q 0) :: rest) (S, A) := by
  subst hv
  obtain ⟨p, e, s, m, args, below, meth, c, F⟩ := z
  obtain ⟨hx, hb, hml, hown, hts, hN, hK, hA, hlk, hr⟩ := C
  exact fun ls H locs hl hP hD hS => va_get (D := D) (ci := 7) (v := .int (S 15)) (C := R_M) (T := F_M) (N := 30) hx hb hts lays_M hown hK hP 0 rfl rfl 16 (by decide) (hts _ in_580) (fun _ h => h) rfl hdg (kk ls H locs hl hP hD hS)
theorem pM_M_114 {l : Launch} {R : Room} {nc ns : Nat} {Q : tl_Z → State → Prop} {D : va_G} {q : Nat → Nat} {k : Nat → ClassId} {nL : Nat} {z : tl_Z} {cc : ByteArray} {ret : Option FieldType} {pc : Nat} {lv : List (Nat × Value)} {rest : List Value} {S : SS} {A : AA} {v : Int32} (C : tl_Cx cc nL R_M ret D (tM k) z) (hdg : decode cc pc = .ok (.putfield 114, 3)) (kk : tl_At l R nc ns Q D (wM q k) nL z (pc + 3) lv (rest) ((va_up S 14 v), A)) : tl_At l R nc ns Q D (wM q k) nL z pc lv (.int v :: .ref (q 0) :: rest) (S, A) := by
  obtain ⟨p, e, s, m, args, below, meth, c, F⟩ := z
  obtain ⟨hx, hb, hml, hown, hts, hN, hK, hA, hlk, hr⟩ := C
  exact fun ls H locs hl hP hD hS => va_put (D := D) (ci := 7) (v := .int v) (ty := .int) (C := R_M) (T := F_M) (N := 30) hx hb hts lays_M ty_M tyok_M nm_M hown hK hP hD hS 0 rfl rfl 15 (by decide) (hts _ in_579) (fun _ h => h) rfl (by decide +kernel) rfl rfl (Nat.le_of_ble_eq_true rfl) hdg (fun H1 locs1 hP1 hD1 hS1 => kk ls H1 locs1 hl hP1 hD1 hS1)
theorem pM_M_150 {l : Launch} {R : Room} {nc ns : Nat} {Q : tl_Z → State → Prop} {D : va_G} {q : Nat → Nat} {k : Nat → ClassId} {nL : Nat} {z : tl_Z} {cc : ByteArray} {ret : Option FieldType} {pc : Nat} {lv : List (Nat × Value)} {rest : List Value} {S : SS} {A : AA} {v : Int32} (C : tl_Cx cc nL R_M ret D (tM k) z) (hdg : decode cc pc = .ok (.putfield 150, 3)) (kk : tl_At l R nc ns Q D (wM q k) nL z (pc + 3) lv (rest) ((va_up S 15 v), A)) : tl_At l R nc ns Q D (wM q k) nL z pc lv (.int v :: .ref (q 0) :: rest) (S, A) := by
  obtain ⟨p, e, s, m, args, below, meth, c, F⟩ := z
  obtain ⟨hx, hb, hml, hown, hts, hN, hK, hA, hlk, hr⟩ := C
  exact fun ls H locs hl hP hD hS => va_put (D := D) (ci := 7) (v := .int v) (ty := .int) (C := R_M) (T := F_M) (N := 30) hx hb hts lays_M ty_M tyok_M nm_M hown hK hP hD hS 0 rfl rfl 16 (by decide) (hts _ in_580) (fun _ h => h) rfl (by decide +kernel) rfl rfl (Nat.le_of_ble_eq_true rfl) hdg (fun H1 locs1 hP1 hD1 hS1 => kk ls H1 locs1 hl hP1 hD1 hS1)
theorem gM_M_65 {l : Launch} {R : Room} {nc ns : Nat} {Q : tl_Z → State → Prop} {D : va_G} {q : Nat → Nat} {k : Nat → ClassId} {nL : Nat} {z : tl_Z} {cc : ByteArray} {ret : Option FieldType} {pc : Nat} {lv : List (Nat × Value)} {rest : List Value} {S : SS} {A : AA} {v : Int32} (C : tl_Cx cc nL R_M ret D (tM k) z) (hv : S 2 = v) (hdg : decode cc pc = .ok (.getfield 65, 3)) (kk : tl_At l R nc ns Q D (wM q k) nL z (pc + 3) lv (.int v :: rest) (S, A)) : tl_At l R nc ns Q D (wM q k) nL z pc lv (.ref (q 0) :: rest) (S, A) := by
  subst hv
  obtain ⟨p, e, s, m, args, below, meth, c, F⟩ := z
  obtain ⟨hx, hb, hml, hown, hts, hN, hK, hA, hlk, hr⟩ := C
  exact fun ls H locs hl hP hD hS => va_get (D := D) (ci := 7) (v := .int (S 2)) (C := R_M) (T := F_M) (N := 30) hx hb hts lays_M hown hK hP 0 rfl rfl 3 (by decide) (hts _ in_567) (fun _ h => h) rfl hdg (kk ls H locs hl hP hD hS)
theorem pM_M_111 {l : Launch} {R : Room} {nc ns : Nat} {Q : tl_Z → State → Prop} {D : va_G} {q : Nat → Nat} {k : Nat → ClassId} {nL : Nat} {z : tl_Z} {cc : ByteArray} {ret : Option FieldType} {pc : Nat} {lv : List (Nat × Value)} {rest : List Value} {S : SS} {A : AA} {v : Int32} (C : tl_Cx cc nL R_M ret D (tM k) z) (hdg : decode cc pc = .ok (.putfield 111, 3)) (kk : tl_At l R nc ns Q D (wM q k) nL z (pc + 3) lv (rest) ((va_up S 13 v), A)) : tl_At l R nc ns Q D (wM q k) nL z pc lv (.int v :: .ref (q 0) :: rest) (S, A) := by
  obtain ⟨p, e, s, m, args, below, meth, c, F⟩ := z
  obtain ⟨hx, hb, hml, hown, hts, hN, hK, hA, hlk, hr⟩ := C
  exact fun ls H locs hl hP hD hS => va_put (D := D) (ci := 7) (v := .int v) (ty := .int) (C := R_M) (T := F_M) (N := 30) hx hb hts lays_M ty_M tyok_M nm_M hown hK hP hD hS 0 rfl rfl 14 (by decide) (hts _ in_578) (fun _ h => h) rfl (by decide +kernel) rfl rfl (Nat.le_of_ble_eq_true rfl) hdg (fun H1 locs1 hP1 hD1 hS1 => kk ls H1 locs1 hl hP1 hD1 hS1)
theorem gM_M_87 {l : Launch} {R : Room} {nc ns : Nat} {Q : tl_Z → State → Prop} {D : va_G} {q : Nat → Nat} {k : Nat → ClassId} {nL : Nat} {z : tl_Z} {cc : ByteArray} {ret : Option FieldType} {pc : Nat} {lv : List (Nat × Value)} {rest : List Value} {S : SS} {A : AA} {v : Int32} (C : tl_Cx cc nL R_M ret D (tM k) z) (hv : S 6 = v) (hdg : decode cc pc = .ok (.getfield 87, 3)) (kk : tl_At l R nc ns Q D (wM q k) nL z (pc + 3) lv (.int v :: rest) (S, A)) : tl_At l R nc ns Q D (wM q k) nL z pc lv (.ref (q 0) :: rest) (S, A) := by
  subst hv
  obtain ⟨p, e, s, m, args, below, meth, c, F⟩ := z
  obtain ⟨hx, hb, hml, hown, hts, hN, hK, hA, hlk, hr⟩ := C
  exact fun ls H locs hl hP hD hS => va_get (D := D) (ci := 7) (v := .int (S 6)) (C := R_M) (T := F_M) (N := 30) hx hb hts lays_M hown hK hP 0 rfl rfl 7 (by decide) (hts _ in_571) (fun _ h => h) rfl hdg (kk ls H locs hl hP hD hS)
theorem gM_M_78 {l : Launch} {R : Room} {nc ns : Nat} {Q : tl_Z → State → Prop} {D : va_G} {q : Nat → Nat} {k : Nat → ClassId} {nL : Nat} {z : tl_Z} {cc : ByteArray} {ret : Option FieldType} {pc : Nat} {lv : List (Nat × Value)} {rest : List Value} {S : SS} {A : AA} {v : Int32} (C : tl_Cx cc nL R_M ret D (tM k) z) (hv : S 5 = v) (hdg : decode cc pc = .ok (.getfield 78, 3)) (kk : tl_At l R nc ns Q D (wM q k) nL z (pc + 3) lv (.int v :: rest) (S, A)) : tl_At l R nc ns Q D (wM q k) nL z pc lv (.ref (q 0) :: rest) (S, A) := by
  subst hv
  obtain ⟨p, e, s, m, args, below, meth, c, F⟩ := z
  obtain ⟨hx, hb, hml, hown, hts, hN, hK, hA, hlk, hr⟩ := C
  exact fun ls H locs hl hP hD hS => va_get (D := D) (ci := 7) (v := .int (S 5)) (C := R_M) (T := F_M) (N := 30) hx hb hts lays_M hown hK hP 0 rfl rfl 6 (by decide) (hts _ in_570) (fun _ h => h) rfl hdg (kk ls H locs hl hP hD hS)
theorem gM_M_96 {l : Launch} {R : Room} {nc ns : Nat} {Q : tl_Z → State → Prop} {D : va_G} {q : Nat → Nat} {k : Nat → ClassId} {nL : Nat} {z : tl_Z} {cc : ByteArray} {ret : Option FieldType} {pc : Nat} {lv : List (Nat × Value)} {rest : List Value} {S : SS} {A : AA} {v : Int32} (C : tl_Cx cc nL R_M ret D (tM k) z) (hv : S 8 = v) (hdg : decode cc pc = .ok (.getfield 96, 3)) (kk : tl_At l R nc ns Q D (wM q k) nL z (pc + 3) lv (.int v :: rest) (S, A)) : tl_At l R nc ns Q D (wM q k) nL z pc lv (.ref (q 0) :: rest) (S, A) := by
  subst hv
  obtain ⟨p, e, s, m, args, below, meth, c, F⟩ := z
  obtain ⟨hx, hb, hml, hown, hts, hN, hK, hA, hlk, hr⟩ := C
  exact fun ls H locs hl hP hD hS => va_get (D := D) (ci := 7) (v := .int (S 8)) (C := R_M) (T := F_M) (N := 30) hx hb hts lays_M hown hK hP 0 rfl rfl 9 (by decide) (hts _ in_573) (fun _ h => h) rfl hdg (kk ls H locs hl hP hD hS)
theorem gM_M_84 {l : Launch} {R : Room} {nc ns : Nat} {Q : tl_Z → State → Prop} {D : va_G} {q : Nat → Nat} {k : Nat → ClassId} {nL : Nat} {z : tl_Z} {cc : ByteArray} {ret : Option FieldType} {pc : Nat} {lv : List (Nat × Value)} {rest : List Value} {S : SS} {A : AA} {v : Int32} (C : tl_Cx cc nL R_M ret D (tM k) z) (hv : S 10 = v) (hdg : decode cc pc = .ok (.getfield 84, 3)) (kk : tl_At l R nc ns Q D (wM q k) nL z (pc + 3) lv (.int v :: rest) (S, A)) : tl_At l R nc ns Q D (wM q k) nL z pc lv (.ref (q 0) :: rest) (S, A) := by
  subst hv
  obtain ⟨p, e, s, m, args, below, meth, c, F⟩ := z
  obtain ⟨hx, hb, hml, hown, hts, hN, hK, hA, hlk, hr⟩ := C
  exact fun ls H locs hl hP hD hS => va_get (D := D) (ci := 7) (v := .int (S 10)) (C := R_M) (T := F_M) (N := 30) hx hb hts lays_M hown hK hP 0 rfl rfl 11 (by decide) (hts _ in_575) (fun _ h => h) rfl hdg (kk ls H locs hl hP hD hS)
theorem gM_M_135 {l : Launch} {R : Room} {nc ns : Nat} {Q : tl_Z → State → Prop} {D : va_G} {q : Nat → Nat} {k : Nat → ClassId} {nL : Nat} {z : tl_Z} {cc : ByteArray} {ret : Option FieldType} {pc : Nat} {lv : List (Nat × Value)} {rest : List Value} {S : SS} {A : AA} {v : Int32} (C : tl_Cx cc nL R_M ret D (tM k) z) (hv : S 7 = v) (hdg : decode cc pc = .ok (.getfield 135, 3)) (kk : tl_At l R nc ns Q D (wM q k) nL z (pc + 3) lv (.int v :: rest) (S, A)) : tl_At l R nc ns Q D (wM q k) nL z pc lv (.ref (q 0) :: rest) (S, A) := by
  subst hv
  obtain ⟨p, e, s, m, args, below, meth, c, F⟩ := z
  obtain ⟨hx, hb, hml, hown, hts, hN, hK, hA, hlk, hr⟩ := C
  exact fun ls H locs hl hP hD hS => va_get (D := D) (ci := 7) (v := .int (S 7)) (C := R_M) (T := F_M) (N := 30) hx hb hts lays_M hown hK hP 0 rfl rfl 8 (by decide) (hts _ in_572) (fun _ h => h) rfl hdg (kk ls H locs hl hP hD hS)
theorem pM_M_135 {l : Launch} {R : Room} {nc ns : Nat} {Q : tl_Z → State → Prop} {D : va_G} {q : Nat → Nat} {k : Nat → ClassId} {nL : Nat} {z : tl_Z} {cc : ByteArray} {ret : Option FieldType} {pc : Nat} {lv : List (Nat × Value)} {rest : List Value} {S : SS} {A : AA} {v : Int32} (C : tl_Cx cc nL R_M ret D (tM k) z) (hdg : decode cc pc = .ok (.putfield 135, 3)) (kk : tl_At l R nc ns Q D (wM q k) nL z (pc + 3) lv (rest) ((va_up S 7 v), A)) : tl_At l R nc ns Q D (wM q k) nL z pc lv (.int v :: .ref (q 0) :: rest) (S, A) := by
  obtain ⟨p, e, s, m, args, below, meth, c, F⟩ := z
  obtain ⟨hx, hb, hml, hown, hts, hN, hK, hA, hlk, hr⟩ := C
  exact fun ls H locs hl hP hD hS => va_put (D := D) (ci := 7) (v := .int v) (ty := .int) (C := R_M) (T := F_M) (N := 30) hx hb hts lays_M ty_M tyok_M nm_M hown hK hP hD hS 0 rfl rfl 8 (by decide) (hts _ in_572) (fun _ h => h) rfl (by decide +kernel) rfl rfl (Nat.le_of_ble_eq_true rfl) hdg (fun H1 locs1 hP1 hD1 hS1 => kk ls H1 locs1 hl hP1 hD1 hS1)
theorem gM_M_81 {l : Launch} {R : Room} {nc ns : Nat} {Q : tl_Z → State → Prop} {D : va_G} {q : Nat → Nat} {k : Nat → ClassId} {nL : Nat} {z : tl_Z} {cc : ByteArray} {ret : Option FieldType} {pc : Nat} {lv : List (Nat × Value)} {rest : List Value} {S : SS} {A : AA} {v : Int32} (C : tl_Cx cc nL R_M ret D (tM k) z) (hv : S 9 = v) (hdg : decode cc pc = .ok (.getfield 81, 3)) (kk : tl_At l R nc ns Q D (wM q k) nL z (pc + 3) lv (.int v :: rest) (S, A)) : tl_At l R nc ns Q D (wM q k) nL z pc lv (.ref (q 0) :: rest) (S, A) := by
  subst hv
  obtain ⟨p, e, s, m, args, below, meth, c, F⟩ := z
  obtain ⟨hx, hb, hml, hown, hts, hN, hK, hA, hlk, hr⟩ := C
  exact fun ls H locs hl hP hD hS => va_get (D := D) (ci := 7) (v := .int (S 9)) (C := R_M) (T := F_M) (N := 30) hx hb hts lays_M hown hK hP 0 rfl rfl 10 (by decide) (hts _ in_574) (fun _ h => h) rfl hdg (kk ls H locs hl hP hD hS)
theorem pM_M_177 {l : Launch} {R : Room} {nc ns : Nat} {Q : tl_Z → State → Prop} {D : va_G} {q : Nat → Nat} {k : Nat → ClassId} {nL : Nat} {z : tl_Z} {cc : ByteArray} {ret : Option FieldType} {pc : Nat} {lv : List (Nat × Value)} {rest : List Value} {S : SS} {A : AA} {v : Int32} (C : tl_Cx cc nL R_M ret D (tM k) z) (hdg : decode cc pc = .ok (.putfield 177, 3)) (kk : tl_At l R nc ns Q D (wM q k) nL z (pc + 3) lv (rest) ((va_up S 11 v), A)) : tl_At l R nc ns Q D (wM q k) nL z pc lv (.int v :: .ref (q 0) :: rest) (S, A) := by
  obtain ⟨p, e, s, m, args, below, meth, c, F⟩ := z
  obtain ⟨hx, hb, hml, hown, hts, hN, hK, hA, hlk, hr⟩ := C
  exact fun ls H locs hl hP hD hS => va_put (D := D) (ci := 7) (v := .int v) (ty := .int) (C := R_M) (T := F_M) (N := 30) hx hb hts lays_M ty_M tyok_M nm_M hown hK hP hD hS 0 rfl rfl 12 (by decide) (hts _ in_576) (fun _ h => h) rfl (by decide +kernel) rfl rfl (Nat.le_of_ble_eq_true rfl) hdg (fun H1 locs1 hP1 hD1 hS1 => kk ls H1 locs1 hl hP1 hD1 hS1)
theorem gM_M_195 {l : Launch} {R : Room} {nc ns : Nat} {Q : tl_Z → State → Prop} {D : va_G} {q : Nat → Nat} {k : Nat → ClassId} {nL : Nat} {z : tl_Z} {cc : ByteArray} {ret : Option FieldType} {pc : Nat} {lv : List (Nat × Value)} {rest : List Value} {S : SS} {A : AA} {v : Int32} (C : tl_Cx cc nL R_M ret D (tM k) z) (hv : S 18 = v) (hdg : decode cc pc = .ok (.getfield 195, 3)) (kk : tl_At l R nc ns Q D (wM q k) nL z (pc + 3) lv (.int v :: rest) (S, A)) : tl_At l R nc ns Q D (wM q k) nL z pc lv (.ref (q 0) :: rest) (S, A) := by
  subst hv
  obtain ⟨p, e, s, m, args, below, meth, c, F⟩ := z
  obtain ⟨hx, hb, hml, hown, hts, hN, hK, hA, hlk, hr⟩ := C
  exact fun ls H locs hl hP hD hS => va_get (D := D) (ci := 7) (v := .int (S 18)) (C := R_M) (T := F_M) (N := 30) hx hb hts lays_M hown hK hP 0 rfl rfl 19 (by decide) (hts _ in_583) (fun _ h => h) rfl hdg (kk ls H locs hl hP hD hS)
theorem gM_M_192 {l : Launch} {R : Room} {nc ns : Nat} {Q : tl_Z → State → Prop} {D : va_G} {q : Nat → Nat} {k : Nat → ClassId} {nL : Nat} {z : tl_Z} {cc : ByteArray} {ret : Option FieldType} {pc : Nat} {lv : List (Nat × Value)} {rest : List Value} {S : SS} {A : AA} {v : Int32} (C : tl_Cx cc nL R_M ret D (tM k) z) (hv : S 19 = v) (hdg : decode cc pc = .ok (.getfield 192, 3)) (kk : tl_At l R nc ns Q D (wM q k) nL z (pc + 3) lv (.int v :: rest) (S, A)) : tl_At l R nc ns Q D (wM q k) nL z pc lv (.ref (q 0) :: rest) (S, A) := by
  subst hv
  obtain ⟨p, e, s, m, args, below, meth, c, F⟩ := z
  obtain ⟨hx, hb, hml, hown, hts, hN, hK, hA, hlk, hr⟩ := C
  exact fun ls H locs hl hP hD hS => va_get (D := D) (ci := 7) (v := .int (S 19)) (C := R_M) (T := F_M) (N := 30) hx hb hts lays_M hown hK hP 0 rfl rfl 20 (by decide) (hts _ in_584) (fun _ h => h) rfl hdg (kk ls H locs hl hP hD hS)
theorem gM_M_123 {l : Launch} {R : Room} {nc ns : Nat} {Q : tl_Z → State → Prop} {D : va_G} {q : Nat → Nat} {k : Nat → ClassId} {nL : Nat} {z : tl_Z} {cc : ByteArray} {ret : Option FieldType} {pc : Nat} {lv : List (Nat × Value)} {rest : List Value} {S : SS} {A : AA} {v : Int32} (C : tl_Cx cc nL R_M ret D (tM k) z) (hv : S 23 = v) (hdg : decode cc pc = .ok (.getfield 123, 3)) (kk : tl_At l R nc ns Q D (wM q k) nL z (pc + 3) lv (.int v :: rest) (S, A)) : tl_At l R nc ns Q D (wM q k) nL z pc lv (.ref (q 0) :: rest) (S, A) := by
  subst hv
  obtain ⟨p, e, s, m, args, below, meth, c, F⟩ := z
  obtain ⟨hx, hb, hml, hown, hts, hN, hK, hA, hlk, hr⟩ := C
  exact fun ls H locs hl hP hD hS => va_get (D := D) (ci := 7) (v := .int (S 23)) (C := R_M) (T := F_M) (N := 30) hx hb hts lays_M hown hK hP 0 rfl rfl 25 (by decide) (hts _ in_589) (fun _ h => h) rfl hdg (kk ls H locs hl hP hD hS)
theorem gM_M_177 {l : Launch} {R : Room} {nc ns : Nat} {Q : tl_Z → State → Prop} {D : va_G} {q : Nat → Nat} {k : Nat → ClassId} {nL : Nat} {z : tl_Z} {cc : ByteArray} {ret : Option FieldType} {pc : Nat} {lv : List (Nat × Value)} {rest : List Value} {S : SS} {A : AA} {v : Int32} (C : tl_Cx cc nL R_M ret D (tM k) z) (hv : S 11 = v) (hdg : decode cc pc = .ok (.getfield 177, 3)) (kk : tl_At l R nc ns Q D (wM q k) nL z (pc + 3) lv (.int v :: rest) (S, A)) : tl_At l R nc ns Q D (wM q k) nL z pc lv (.ref (q 0) :: rest) (S, A) := by
  subst hv
  obtain ⟨p, e, s, m, args, below, meth, c, F⟩ := z
  obtain ⟨hx, hb, hml, hown, hts, hN, hK, hA, hlk, hr⟩ := C
  exact fun ls H locs hl hP hD hS => va_get (D := D) (ci := 7) (v := .int (S 11)) (C := R_M) (T := F_M) (N := 30) hx hb hts lays_M hown hK hP 0 rfl rfl 12 (by decide) (hts _ in_576) (fun _ h => h) rfl hdg (kk ls H locs hl hP hD hS)
theorem pM_M_50 {l : Launch} {R : Room} {nc ns : Nat} {Q : tl_Z → State → Prop} {D : va_G} {q : Nat → Nat} {k : Nat → ClassId} {nL : Nat} {z : tl_Z} {cc : ByteArray} {ret : Option FieldType} {pc : Nat} {lv : List (Nat × Value)} {rest : List Value} {S : SS} {A : AA} {v : Int32} (C : tl_Cx cc nL R_M ret D (tM k) z) (hdg : decode cc pc = .ok (.putfield 50, 3)) (kk : tl_At l R nc ns Q D (wM q k) nL z (pc + 3) lv (rest) ((va_up S 1 v), A)) : tl_At l R nc ns Q D (wM q k) nL z pc lv (.int v :: .ref (q 0) :: rest) (S, A) := by
  obtain ⟨p, e, s, m, args, below, meth, c, F⟩ := z
  obtain ⟨hx, hb, hml, hown, hts, hN, hK, hA, hlk, hr⟩ := C
  exact fun ls H locs hl hP hD hS => va_put (D := D) (ci := 7) (v := .int v) (ty := .int) (C := R_M) (T := F_M) (N := 30) hx hb hts lays_M ty_M tyok_M nm_M hown hK hP hD hS 0 rfl rfl 2 (by decide) (hts _ in_566) (fun _ h => h) rfl (by decide +kernel) rfl rfl (Nat.le_of_ble_eq_true rfl) hdg (fun H1 locs1 hP1 hD1 hS1 => kk ls H1 locs1 hl hP1 hD1 hS1)
theorem rM_ald0 {l : Launch} {R : Room} {nc ns : Nat} {Q : tl_Z → State → Prop} {D : va_G} {q : Nat → Nat} {k : Nat → ClassId} {nL : Nat} {z : tl_Z} {cc : ByteArray} {ret : Option FieldType} {pc : Nat} {lv : List (Nat × Value)} {rest : List Value} {S : SS} {A : AA} {f : Nat → Int32} {i : Int32} {own : String} (C : tl_Cx cc nL own ret D (tM k) z) (hf : A 0 = f) (hi : vp_in i 96) (hdg : decode cc pc = .ok (.iaload, 1)) (kk : tl_At l R nc ns Q D (wM q k) nL z (pc + 1) lv (.int (f i.toNatClampNeg) :: rest) (S, A)) : tl_At l R nc ns Q D (wM q k) nL z pc lv (.int i :: .ref (q 1) :: rest) (S, A) := by
  subst hf
  obtain ⟨p, e, s, m, args, below, meth, c, F⟩ := z
  obtain ⟨hx, hb, hml, hown, hts, hN, hK, hA, hlk, hr⟩ := C
  exact fun ls H locs hl hP hD hS => va_iald (D := D) (cA := k 0) (n := 96) (f := A 0) hx hb hK hP 1 0 rfl rfl hi hdg (kk ls H locs hl hP hD hS)
theorem rM_ast0 {l : Launch} {R : Room} {nc ns : Nat} {Q : tl_Z → State → Prop} {D : va_G} {q : Nat → Nat} {k : Nat → ClassId} {nL : Nat} {z : tl_Z} {cc : ByteArray} {ret : Option FieldType} {pc : Nat} {lv : List (Nat × Value)} {rest : List Value} {S : SS} {A : AA} {f : Nat → Int32} {i x : Int32} {own : String} (C : tl_Cx cc nL own ret D (tM k) z) (hf : A 0 = f) (hi : vp_in i 96) (hdg : decode cc pc = .ok (.iastore, 1)) (kk : tl_At l R nc ns Q D (wM q k) nL z (pc + 1) lv (rest) (S, (va_up A 0 (upd f i.toNatClampNeg x)))) : tl_At l R nc ns Q D (wM q k) nL z pc lv (.int x :: .int i :: .ref (q 1) :: rest) (S, A) := by
  subst hf
  obtain ⟨p, e, s, m, args, below, meth, c, F⟩ := z
  obtain ⟨hx, hb, hml, hown, hts, hN, hK, hA, hlk, hr⟩ := C
  exact fun ls H locs hl hP hD hS => va_iast (D := D) (cA := k 0) (n := 96) (f := A 0) hx hb hK hP hD hS 1 0 rfl rfl hi hdg (fun H1 locs1 hP1 hD1 hS1 => kk ls H1 locs1 hl hP1 hD1 hS1)
theorem rM_len0 {l : Launch} {R : Room} {nc ns : Nat} {Q : tl_Z → State → Prop} {D : va_G} {q : Nat → Nat} {k : Nat → ClassId} {nL : Nat} {z : tl_Z} {cc : ByteArray} {ret : Option FieldType} {pc : Nat} {lv : List (Nat × Value)} {rest : List Value} {S : SS} {A : AA} {own : String} (C : tl_Cx cc nL own ret D (tM k) z) (hdg : decode cc pc = .ok (.arraylength, 1)) (kk : tl_At l R nc ns Q D (wM q k) nL z (pc + 1) lv (.int (96 : Int32) :: rest) (S, A)) : tl_At l R nc ns Q D (wM q k) nL z pc lv (.ref (q 1) :: rest) (S, A) := by
  obtain ⟨p, e, s, m, args, below, meth, c, F⟩ := z
  obtain ⟨hx, hb, hml, hown, hts, hN, hK, hA, hlk, hr⟩ := C
  exact fun ls H locs hl hP hD hS => va_alen (D := D) (cA := k 0) (x := (96, .inl (A 0))) hx hb hK hP 1 0 rfl rfl rfl hdg (kk ls H locs hl hP hD hS)
theorem rM_ald1 {l : Launch} {R : Room} {nc ns : Nat} {Q : tl_Z → State → Prop} {D : va_G} {q : Nat → Nat} {k : Nat → ClassId} {nL : Nat} {z : tl_Z} {cc : ByteArray} {ret : Option FieldType} {pc : Nat} {lv : List (Nat × Value)} {rest : List Value} {S : SS} {A : AA} {f : Nat → Int32} {i : Int32} {own : String} (C : tl_Cx cc nL own ret D (tM k) z) (hf : A 1 = f) (hi : vp_in i 34) (hdg : decode cc pc = .ok (.iaload, 1)) (kk : tl_At l R nc ns Q D (wM q k) nL z (pc + 1) lv (.int (f i.toNatClampNeg) :: rest) (S, A)) : tl_At l R nc ns Q D (wM q k) nL z pc lv (.int i :: .ref (q 2) :: rest) (S, A) := by
  subst hf
  obtain ⟨p, e, s, m, args, below, meth, c, F⟩ := z
  obtain ⟨hx, hb, hml, hown, hts, hN, hK, hA, hlk, hr⟩ := C
  exact fun ls H locs hl hP hD hS => va_iald (D := D) (cA := k 1) (n := 34) (f := A 1) hx hb hK hP 2 1 rfl rfl hi hdg (kk ls H locs hl hP hD hS)
theorem rM_ast1 {l : Launch} {R : Room} {nc ns : Nat} {Q : tl_Z → State → Prop} {D : va_G} {q : Nat → Nat} {k : Nat → ClassId} {nL : Nat} {z : tl_Z} {cc : ByteArray} {ret : Option FieldType} {pc : Nat} {lv : List (Nat × Value)} {rest : List Value} {S : SS} {A : AA} {f : Nat → Int32} {i x : Int32} {own : String} (C : tl_Cx cc nL own ret D (tM k) z) (hf : A 1 = f) (hi : vp_in i 34) (hdg : decode cc pc = .ok (.iastore, 1)) (kk : tl_At l R nc ns Q D (wM q k) nL z (pc + 1) lv (rest) (S, (va_up A 1 (upd f i.toNatClampNeg x)))) : tl_At l R nc ns Q D (wM q k) nL z pc lv (.int x :: .int i :: .ref (q 2) :: rest) (S, A) := by
  subst hf
  obtain ⟨p, e, s, m, args, below, meth, c, F⟩ := z
  obtain ⟨hx, hb, hml, hown, hts, hN, hK, hA, hlk, hr⟩ := C
  exact fun ls H locs hl hP hD hS => va_iast (D := D) (cA := k 1) (n := 34) (f := A 1) hx hb hK hP hD hS 2 1 rfl rfl hi hdg (fun H1 locs1 hP1 hD1 hS1 => kk ls H1 locs1 hl hP1 hD1 hS1)
theorem rM_len1 {l : Launch} {R : Room} {nc ns : Nat} {Q : tl_Z → State → Prop} {D : va_G} {q : Nat → Nat} {k : Nat → ClassId} {nL : Nat} {z : tl_Z} {cc : ByteArray} {ret : Option FieldType} {pc : Nat} {lv : List (Nat × Value)} {rest : List Value} {S : SS} {A : AA} {own : String} (C : tl_Cx cc nL own ret D (tM k) z) (hdg : decode cc pc = .ok (.arraylength, 1)) (kk : tl_At l R nc ns Q D (wM q k) nL z (pc + 1) lv (.int (34 : Int32) :: rest) (S, A)) : tl_At l R nc ns Q D (wM q k) nL z pc lv (.ref (q 2) :: rest) (S, A) := by
  obtain ⟨p, e, s, m, args, below, meth, c, F⟩ := z
  obtain ⟨hx, hb, hml, hown, hts, hN, hK, hA, hlk, hr⟩ := C
  exact fun ls H locs hl hP hD hS => va_alen (D := D) (cA := k 1) (x := (34, .inl (A 1))) hx hb hK hP 2 1 rfl rfl rfl hdg (kk ls H locs hl hP hD hS)
theorem rM_ald2 {l : Launch} {R : Room} {nc ns : Nat} {Q : tl_Z → State → Prop} {D : va_G} {q : Nat → Nat} {k : Nat → ClassId} {nL : Nat} {z : tl_Z} {cc : ByteArray} {ret : Option FieldType} {pc : Nat} {lv : List (Nat × Value)} {rest : List Value} {S : SS} {A : AA} {f : Nat → Int32} {i : Int32} {own : String} (C : tl_Cx cc nL own ret D (tM k) z) (hf : A 2 = f) (hi : vp_in i 20) (hdg : decode cc pc = .ok (.iaload, 1)) (kk : tl_At l R nc ns Q D (wM q k) nL z (pc + 1) lv (.int (f i.toNatClampNeg) :: rest) (S, A)) : tl_At l R nc ns Q D (wM q k) nL z pc lv (.int i :: .ref (q 3) :: rest) (S, A) := by
  subst hf
  obtain ⟨p, e, s, m, args, below, meth, c, F⟩ := z
  obtain ⟨hx, hb, hml, hown, hts, hN, hK, hA, hlk, hr⟩ := C
  exact fun ls H locs hl hP hD hS => va_iald (D := D) (cA := k 2) (n := 20) (f := A 2) hx hb hK hP 3 2 rfl rfl hi hdg (kk ls H locs hl hP hD hS)
theorem rM_ast2 {l : Launch} {R : Room} {nc ns : Nat} {Q : tl_Z → State → Prop} {D : va_G} {q : Nat → Nat} {k : Nat → ClassId} {nL : Nat} {z : tl_Z} {cc : ByteArray} {ret : Option FieldType} {pc : Nat} {lv : List (Nat × Value)} {rest : List Value} {S : SS} {A : AA} {f : Nat → Int32} {i x : Int32} {own : String} (C : tl_Cx cc nL own ret D (tM k) z) (hf : A 2 = f) (hi : vp_in i 20) (hdg : decode cc pc = .ok (.iastore, 1)) (kk : tl_At l R nc ns Q D (wM q k) nL z (pc + 1) lv (rest) (S, (va_up A 2 (upd f i.toNatClampNeg x)))) : tl_At l R nc ns Q D (wM q k) nL z pc lv (.int x :: .int i :: .ref (q 3) :: rest) (S, A) := by
  subst hf
  obtain ⟨p, e, s, m, args, below, meth, c, F⟩ := z
  obtain ⟨hx, hb, hml, hown, hts, hN, hK, hA, hlk, hr⟩ := C
  exact fun ls H locs hl hP hD hS => va_iast (D := D) (cA := k 2) (n := 20) (f := A 2) hx hb hK hP hD hS 3 2 rfl rfl hi hdg (fun H1 locs1 hP1 hD1 hS1 => kk ls H1 locs1 hl hP1 hD1 hS1)
theorem rM_len2 {l : Launch} {R : Room} {nc ns : Nat} {Q : tl_Z → State → Prop} {D : va_G} {q : Nat → Nat} {k : Nat → ClassId} {nL : Nat} {z : tl_Z} {cc : ByteArray} {ret : Option FieldType} {pc : Nat} {lv : List (Nat × Value)} {rest : List Value} {S : SS} {A : AA} {own : String} (C : tl_Cx cc nL own ret D (tM k) z) (hdg : decode cc pc = .ok (.arraylength, 1)) (kk : tl_At l R nc ns Q D (wM q k) nL z (pc + 1) lv (.int (20 : Int32) :: rest) (S, A)) : tl_At l R nc ns Q D (wM q k) nL z pc lv (.ref (q 3) :: rest) (S, A) := by
  obtain ⟨p, e, s, m, args, below, meth, c, F⟩ := z
  obtain ⟨hx, hb, hml, hown, hts, hN, hK, hA, hlk, hr⟩ := C
  exact fun ls H locs hl hP hD hS => va_alen (D := D) (cA := k 2) (x := (20, .inl (A 2))) hx hb hK hP 3 2 rfl rfl rfl hdg (kk ls H locs hl hP hD hS)
theorem rM_ald3 {l : Launch} {R : Room} {nc ns : Nat} {Q : tl_Z → State → Prop} {D : va_G} {q : Nat → Nat} {k : Nat → ClassId} {nL : Nat} {z : tl_Z} {cc : ByteArray} {ret : Option FieldType} {pc : Nat} {lv : List (Nat × Value)} {rest : List Value} {S : SS} {A : AA} {f : Nat → Int32} {i : Int32} {own : String} (C : tl_Cx cc nL own ret D (tM k) z) (hf : A 3 = f) (hi : vp_in i 96) (hdg : decode cc pc = .ok (.iaload, 1)) (kk : tl_At l R nc ns Q D (wM q k) nL z (pc + 1) lv (.int (f i.toNatClampNeg) :: rest) (S, A)) : tl_At l R nc ns Q D (wM q k) nL z pc lv (.int i :: .ref (q 4) :: rest) (S, A) := by
  subst hf
  obtain ⟨p, e, s, m, args, below, meth, c, F⟩ := z
  obtain ⟨hx, hb, hml, hown, hts, hN, hK, hA, hlk, hr⟩ := C
  exact fun ls H locs hl hP hD hS => va_iald (D := D) (cA := k 3) (n := 96) (f := A 3) hx hb hK hP 4 3 rfl rfl hi hdg (kk ls H locs hl hP hD hS)
theorem rM_ast3 {l : Launch} {R : Room} {nc ns : Nat} {Q : tl_Z → State → Prop} {D : va_G} {q : Nat → Nat} {k : Nat → ClassId} {nL : Nat} {z : tl_Z} {cc : ByteArray} {ret : Option FieldType} {pc : Nat} {lv : List (Nat × Value)} {rest : List Value} {S : SS} {A : AA} {f : Nat → Int32} {i x : Int32} {own : String} (C : tl_Cx cc nL own ret D (tM k) z) (hf : A 3 = f) (hi : vp_in i 96) (hdg : decode cc pc = .ok (.iastore, 1)) (kk : tl_At l R nc ns Q D (wM q k) nL z (pc + 1) lv (rest) (S, (va_up A 3 (upd f i.toNatClampNeg x)))) : tl_At l R nc ns Q D (wM q k) nL z pc lv (.int x :: .int i :: .ref (q 4) :: rest) (S, A) := by
  subst hf
  obtain ⟨p, e, s, m, args, below, meth, c, F⟩ := z
  obtain ⟨hx, hb, hml, hown, hts, hN, hK, hA, hlk, hr⟩ := C
  exact fun ls H locs hl hP hD hS => va_iast (D := D) (cA := k 3) (n := 96) (f := A 3) hx hb hK hP hD hS 4 3 rfl rfl hi hdg (fun H1 locs1 hP1 hD1 hS1 => kk ls H1 locs1 hl hP1 hD1 hS1)
theorem rM_len3 {l : Launch} {R : Room} {nc ns : Nat} {Q : tl_Z → State → Prop} {D : va_G} {q : Nat → Nat} {k : Nat → ClassId} {nL : Nat} {z : tl_Z} {cc : ByteArray} {ret : Option FieldType} {pc : Nat} {lv : List (Nat × Value)} {rest : List Value} {S : SS} {A : AA} {own : String} (C : tl_Cx cc nL own ret D (tM k) z) (hdg : decode cc pc = .ok (.arraylength, 1)) (kk : tl_At l R nc ns Q D (wM q k) nL z (pc + 1) lv (.int (96 : Int32) :: rest) (S, A)) : tl_At l R nc ns Q D (wM q k) nL z pc lv (.ref (q 4) :: rest) (S, A) := by
  obtain ⟨p, e, s, m, args, below, meth, c, F⟩ := z
  obtain ⟨hx, hb, hml, hown, hts, hN, hK, hA, hlk, hr⟩ := C
  exact fun ls H locs hl hP hD hS => va_alen (D := D) (cA := k 3) (x := (96, .inl (A 3))) hx hb hK hP 4 3 rfl rfl rfl hdg (kk ls H locs hl hP hD hS)
theorem rM_ald4 {l : Launch} {R : Room} {nc ns : Nat} {Q : tl_Z → State → Prop} {D : va_G} {q : Nat → Nat} {k : Nat → ClassId} {nL : Nat} {z : tl_Z} {cc : ByteArray} {ret : Option FieldType} {pc : Nat} {lv : List (Nat × Value)} {rest : List Value} {S : SS} {A : AA} {f : Nat → Int32} {i : Int32} {own : String} (C : tl_Cx cc nL own ret D (tM k) z) (hf : A 4 = f) (hi : vp_in i 8) (hdg : decode cc pc = .ok (.iaload, 1)) (kk : tl_At l R nc ns Q D (wM q k) nL z (pc + 1) lv (.int (f i.toNatClampNeg) :: rest) (S, A)) : tl_At l R nc ns Q D (wM q k) nL z pc lv (.int i :: .ref (q 5) :: rest) (S, A) := by
  subst hf
  obtain ⟨p, e, s, m, args, below, meth, c, F⟩ := z
  obtain ⟨hx, hb, hml, hown, hts, hN, hK, hA, hlk, hr⟩ := C
  exact fun ls H locs hl hP hD hS => va_iald (D := D) (cA := k 4) (n := 8) (f := A 4) hx hb hK hP 5 4 rfl rfl hi hdg (kk ls H locs hl hP hD hS)
theorem rM_ast4 {l : Launch} {R : Room} {nc ns : Nat} {Q : tl_Z → State → Prop} {D : va_G} {q : Nat → Nat} {k : Nat → ClassId} {nL : Nat} {z : tl_Z} {cc : ByteArray} {ret : Option FieldType} {pc : Nat} {lv : List (Nat × Value)} {rest : List Value} {S : SS} {A : AA} {f : Nat → Int32} {i x : Int32} {own : String} (C : tl_Cx cc nL own ret D (tM k) z) (hf : A 4 = f) (hi : vp_in i 8) (hdg : decode cc pc = .ok (.iastore, 1)) (kk : tl_At l R nc ns Q D (wM q k) nL z (pc + 1) lv (rest) (S, (va_up A 4 (upd f i.toNatClampNeg x)))) : tl_At l R nc ns Q D (wM q k) nL z pc lv (.int x :: .int i :: .ref (q 5) :: rest) (S, A) := by
  subst hf
  obtain ⟨p, e, s, m, args, below, meth, c, F⟩ := z
  obtain ⟨hx, hb, hml, hown, hts, hN, hK, hA, hlk, hr⟩ := C
  exact fun ls H locs hl hP hD hS => va_iast (D := D) (cA := k 4) (n := 8) (f := A 4) hx hb hK hP hD hS 5 4 rfl rfl hi hdg (fun H1 locs1 hP1 hD1 hS1 => kk ls H1 locs1 hl hP1 hD1 hS1)
theorem rM_len4 {l : Launch} {R : Room} {nc ns : Nat} {Q : tl_Z → State → Prop} {D : va_G} {q : Nat → Nat} {k : Nat → ClassId} {nL : Nat} {z : tl_Z} {cc : ByteArray} {ret : Option FieldType} {pc : Nat} {lv : List (Nat × Value)} {rest : List Value} {S : SS} {A : AA} {own : String} (C : tl_Cx cc nL own ret D (tM k) z) (hdg : decode cc pc = .ok (.arraylength, 1)) (kk : tl_At l R nc ns Q D (wM q k) nL z (pc + 1) lv (.int (8 : Int32) :: rest) (S, A)) : tl_At l R nc ns Q D (wM q k) nL z pc lv (.ref (q 5) :: rest) (S, A) := by
  obtain ⟨p, e, s, m, args, below, meth, c, F⟩ := z
  obtain ⟨hx, hb, hml, hown, hts, hN, hK, hA, hlk, hr⟩ := C
  exact fun ls H locs hl hP hD hS => va_alen (D := D) (cA := k 4) (x := (8, .inl (A 4))) hx hb hK hP 5 4 rfl rfl rfl hdg (kk ls H locs hl hP hD hS)
theorem gN_Mm_11 {l : Launch} {R : Room} {nc ns : Nat} {Q : tl_Z → State → Prop} {D : va_G} {q : Nat → Nat} {k : Nat → ClassId} {nL : Nat} {z : tl_Z} {cc : ByteArray} {ret : Option FieldType} {pc : Nat} {lv : List (Nat × Value)} {rest : List Value} {S : SS} {A : AA} (C : tl_Cx cc nL R_Mm ret D (tN k) z) (hdg : decode cc pc = .ok (.getfield 11, 3)) (kk : tl_At l R nc ns Q D (wN q k) nL z (pc + 3) lv (.ref (q 1) :: rest) (S, A)) : tl_At l R nc ns Q D (wN q k) nL z pc lv (.ref (q 0) :: rest) (S, A) := by
  obtain ⟨p, e, s, m, args, below, meth, c, F⟩ := z
  obtain ⟨hx, hb, hml, hown, hts, hN, hK, hA, hlk, hr⟩ := C
  exact fun ls H locs hl hP hD hS => va_get (D := D) (ci := 2) (v := .ref (q 1)) (C := R_Mm) (T := F_Mm) (N := 3) hx hb hts lays_Mm hown hK hP 0 rfl rfl 0 (by decide) (hts _ in_33) (fun _ h => h) rfl hdg (kk ls H locs hl hP hD hS)
theorem rN_ald0 {l : Launch} {R : Room} {nc ns : Nat} {Q : tl_Z → State → Prop} {D : va_G} {q : Nat → Nat} {k : Nat → ClassId} {nL : Nat} {z : tl_Z} {cc : ByteArray} {ret : Option FieldType} {pc : Nat} {lv : List (Nat × Value)} {rest : List Value} {S : SS} {A : AA} {f : Nat → Int32} {i : Int32} {own : String} (C : tl_Cx cc nL own ret D (tN k) z) (hf : A 0 = f) (hi : vp_in i 96) (hdg : decode cc pc = .ok (.iaload, 1)) (kk : tl_At l R nc ns Q D (wN q k) nL z (pc + 1) lv (.int (f i.toNatClampNeg) :: rest) (S, A)) : tl_At l R nc ns Q D (wN q k) nL z pc lv (.int i :: .ref (q 1) :: rest) (S, A) := by
  subst hf
  obtain ⟨p, e, s, m, args, below, meth, c, F⟩ := z
  obtain ⟨hx, hb, hml, hown, hts, hN, hK, hA, hlk, hr⟩ := C
  exact fun ls H locs hl hP hD hS => va_iald (D := D) (cA := k 0) (n := 96) (f := A 0) hx hb hK hP 1 0 rfl rfl hi hdg (kk ls H locs hl hP hD hS)
theorem rN_ast0 {l : Launch} {R : Room} {nc ns : Nat} {Q : tl_Z → State → Prop} {D : va_G} {q : Nat → Nat} {k : Nat → ClassId} {nL : Nat} {z : tl_Z} {cc : ByteArray} {ret : Option FieldType} {pc : Nat} {lv : List (Nat × Value)} {rest : List Value} {S : SS} {A : AA} {f : Nat → Int32} {i x : Int32} {own : String} (C : tl_Cx cc nL own ret D (tN k) z) (hf : A 0 = f) (hi : vp_in i 96) (hdg : decode cc pc = .ok (.iastore, 1)) (kk : tl_At l R nc ns Q D (wN q k) nL z (pc + 1) lv (rest) (S, (va_up A 0 (upd f i.toNatClampNeg x)))) : tl_At l R nc ns Q D (wN q k) nL z pc lv (.int x :: .int i :: .ref (q 1) :: rest) (S, A) := by
  subst hf
  obtain ⟨p, e, s, m, args, below, meth, c, F⟩ := z
  obtain ⟨hx, hb, hml, hown, hts, hN, hK, hA, hlk, hr⟩ := C
  exact fun ls H locs hl hP hD hS => va_iast (D := D) (cA := k 0) (n := 96) (f := A 0) hx hb hK hP hD hS 1 0 rfl rfl hi hdg (fun H1 locs1 hP1 hD1 hS1 => kk ls H1 locs1 hl hP1 hD1 hS1)
theorem rN_len0 {l : Launch} {R : Room} {nc ns : Nat} {Q : tl_Z → State → Prop} {D : va_G} {q : Nat → Nat} {k : Nat → ClassId} {nL : Nat} {z : tl_Z} {cc : ByteArray} {ret : Option FieldType} {pc : Nat} {lv : List (Nat × Value)} {rest : List Value} {S : SS} {A : AA} {own : String} (C : tl_Cx cc nL own ret D (tN k) z) (hdg : decode cc pc = .ok (.arraylength, 1)) (kk : tl_At l R nc ns Q D (wN q k) nL z (pc + 1) lv (.int (96 : Int32) :: rest) (S, A)) : tl_At l R nc ns Q D (wN q k) nL z pc lv (.ref (q 1) :: rest) (S, A) := by
  obtain ⟨p, e, s, m, args, below, meth, c, F⟩ := z
  obtain ⟨hx, hb, hml, hown, hts, hN, hK, hA, hlk, hr⟩ := C
  exact fun ls H locs hl hP hD hS => va_alen (D := D) (cA := k 0) (x := (96, .inl (A 0))) hx hb hK hP 1 0 rfl rfl rfl hdg (kk ls H locs hl hP hD hS)
