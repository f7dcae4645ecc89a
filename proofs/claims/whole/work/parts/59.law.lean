def wL (q : Nat → Nat) (k : Nat → ClassId) (q2 : Nat → Nat) (k2 : Nat → ClassId) (u : tl_U × tl_U) : va_W := wX q k u.1 ++ wM q2 k2 u.2
def tL (k k2 : Nat → ClassId) : List (ClassId × FieldType) := tX k ++ tM k2
def tl_LZ (z : tl_Z) : State → Prop := lw_Z z.b z.a z.s
/-- what stands at the law: the context, the script -/
def tl_CL (D : va_G) (tys : List (ClassId × FieldType)) (b L : Nat) (xs : Nat → Int32) (z : tl_Z) : Prop := tl_Cx code 4 R_L ret D tys z ∧ z.a = #[Value.ref b] ∧ (∀ x : Nat, z.F x → z.s.heap.size ≤ x) ∧ va_X b L xs z.s z.s.heap ∧ b < z.s.heap.size
theorem tl_sld {σ : Type} {l : Launch} {R : Room} {nc ns : Nat} {Q : tl_Z → State → Prop} {D : va_G} {w : σ → va_W} {z : tl_Z} {tys : List (ClassId × FieldType)} {b L : Nat} {xs : Nat → Int32} {pc : Nat} {lv : List (Nat × Value)} {rest : List Value} {u : σ} {i : Int32} (C : tl_CL D tys b L xs z) (hi : vp_in i L) (hdg : decode code pc = .ok (.iaload, 1)) (kk : tl_At l R nc ns Q D w 4 z (pc + 1) lv (.int (xs i.toNatClampNeg) :: rest) u) : tl_At l R nc ns Q D w 4 z pc lv (.int i :: .ref b :: rest) u := by
  obtain ⟨p, e, s, m, args, below, meth, c, F⟩ := z
  obtain ⟨⟨hx, hb, hml, hown, hts, hN, hK, hA, hlk, hr⟩, ha, hF, hX, hbl⟩ := C
  exact fun ls H locs hl hP hD hS => va_sld (A := F) hx hb hX hbl (fun h => absurd hbl (Nat.not_lt.mpr (hF b h))) hS hi hdg (kk ls H locs hl hP hD hS)
theorem tl_slen {σ : Type} {l : Launch} {R : Room} {nc ns : Nat} {Q : tl_Z → State → Prop} {D : va_G} {w : σ → va_W} {z : tl_Z} {tys : List (ClassId × FieldType)} {b L : Nat} {xs : Nat → Int32} {pc : Nat} {lv : List (Nat × Value)} {rest : List Value} {u : σ} (C : tl_CL D tys b L xs z) (hdg : decode code pc = .ok (.arraylength, 1)) (kk : tl_At l R nc ns Q D w 4 z (pc + 1) lv (.int (Int32.ofNat L) :: rest) u) : tl_At l R nc ns Q D w 4 z pc lv (.ref b :: rest) u := by
  obtain ⟨p, e, s, m, args, below, meth, c, F⟩ := z
  obtain ⟨⟨hx, hb, hml, hown, hts, hN, hK, hA, hlk, hr⟩, ha, hF, hX, hbl⟩ := C
  exact fun ls H locs hl hP hD hS => va_slen (A := F) hx hb hX hbl (fun h => absurd hbl (Nat.not_lt.mpr (hF b h))) hS hdg (kk ls H locs hl hP hD hS)
theorem tl_lret {σ : Type} {l : Launch} {D : va_G} {w : σ → va_W} {z : tl_Z} {tys : List (ClassId × FieldType)} {b L : Nat} {xs : Nat → Int32} {pc : Nat} {lv : List (Nat × Value)} {u : σ} {v : Int32} (C : tl_CL D tys b L xs z) (hv : v = 1) (hdg : decode code pc = .ok (.ireturn, 1)) : tl_At l room_1 19 572 tl_LZ D w 4 z pc lv [.int v] u := by
  subst hv
  obtain ⟨p, e, s, m, args, below, meth, c, F⟩ := z
  obtain ⟨⟨hx, hb, hml, hown, hts, hN, hK, hA, hlk, hr⟩, ha, hF, hX, hbl⟩ := C
  have ha : args = #[Value.ref b] := ha
  subst ha
  exact fun ls H locs hl hP hD hS => va_forget (fun q hq => hF _ (hS.2.2 q hq)) (lw_ret hx hb hr hlk hdg)
/-! two worlds side by side: what a call on one of them leaves of the other -/
theorem tl_PL {D : va_G} {cl : List vw_C} {a b : va_W} {H : Heap} (h : va_P D cl (a ++ b) H) : va_P D cl a H := fun k q hk => h k q (by rw [List.getElem?_append_left (List.getElem?_eq_some_iff.mp hk).1]; exact hk)
theorem tl_PR {D : va_G} {cl : List vw_C} {a b : va_W} {H : Heap} (h : va_P D cl (a ++ b) H) : va_P D cl b H := fun k q hk => h (a.length + k) q (by rw [List.getElem?_append_right (Nat.le_add_right _ _), Nat.add_sub_cancel_left]; exact hk)
theorem tl_DL {F : Nat → Prop} {a b : va_W} (h : va_D F (a ++ b)) : va_D F a := ⟨fun i j p q hi hj => h.1 i j p q (by rw [List.getElem?_append_left (List.getElem?_eq_some_iff.mp hi).1]; exact hi) (by rw [List.getElem?_append_left (List.getElem?_eq_some_iff.mp hj).1]; exact hj), fun k q hk => h.2 k q (by rw [List.getElem?_append_left (List.getElem?_eq_some_iff.mp hk).1]; exact hk)⟩
theorem tl_DR {F : Nat → Prop} {a b : va_W} (h : va_D F (a ++ b)) : va_D F b := by
  have e : ∀ (k : Nat) (q : Nat × va_E), b[k]? = some q → (a ++ b)[a.length + k]? = some q := fun k q hk => by rw [List.getElem?_append_right (Nat.le_add_right _ _), Nat.add_sub_cancel_left]; exact hk
  exact ⟨fun i j p q hi hj hpq => Nat.add_left_cancel (h.1 _ _ p q (e i p hi) (e j q hj) hpq), fun k q hk => h.2 _ q (e k q hk)⟩
theorem tl_DX {F : Nat → Prop} {a b : va_W} (h : va_D F (a ++ b)) {i j : Nat} {p q : Nat × va_E} (hi : a[i]? = some p) (hj : b[j]? = some q) : p.1 ≠ q.1 := by
  intro hpq
  have h1 := h.1 i (a.length + j) p q (by rw [List.getElem?_append_left (List.getElem?_eq_some_iff.mp hi).1]; exact hi) (by rw [List.getElem?_append_right (Nat.le_add_right _ _), Nat.add_sub_cancel_left]; exact hj) hpq
  have h2 := (List.getElem?_eq_some_iff.mp hi).1
  omega
theorem tl_KL {D : va_G} {cl : List vw_C} {a b : List (ClassId × FieldType)} {U : State} (h : va_K D cl (a ++ b) U) : va_K D cl a U := ⟨h.1, fun k q hk => h.2 k q (by rw [List.getElem?_append_left (List.getElem?_eq_some_iff.mp hk).1]; exact hk)⟩
theorem tl_KR {D : va_G} {cl : List vw_C} {a b : List (ClassId × FieldType)} {U : State} (h : va_K D cl (a ++ b) U) : va_K D cl b U := ⟨h.1, fun k q hk => h.2 (a.length + k) q (by rw [List.getElem?_append_right (Nat.le_add_right _ _), Nat.add_sub_cancel_left]; exact hk)⟩
theorem tl_frL {F : Nat → Prop} {D : va_G} {cl : List vw_C} {a b a1 : va_W} {H H1 : Heap} (hP : va_P D cl (a ++ b) H) (hD : va_D F (a ++ b)) (hk : ∀ q : Nat, q < H.size → ¬ va_A a H.size q → H1[q]? = H[q]?) (hF : ∀ q, va_A a H.size q → F q) (hP1 : va_P D cl a1 H1) (hD1 : va_D (va_A a H.size) a1) : va_P D cl (a1 ++ b) H1 ∧ va_D F (a1 ++ b) := by
  have hn : ∀ (k : Nat) (q : Nat × va_E), b[k]? = some q → q.1 < H.size ∧ ¬ va_A a H.size q.1 := by
    intro k q hq
    have hl := ((tl_PR hP) k q hq).lt
    refine ⟨hl, fun h => ?_⟩
    rcases h with ⟨k2, e, h⟩ | h
    · exact tl_DX hD h hq rfl
    · omega
  refine ⟨va_P.app hP1 ((tl_PR hP).kept fun k q hq => hk q.1 (hn k q hq).1 (hn k q hq).2), va_D.app (hD1.weaken (fun k q _ h => hF q.1 h)) (tl_DR hD) (fun i j x y hx hy hxy => ?_)⟩
  exact (hn j y hy).2 (by rw [← hxy]; exact hD1.2 i x hx)
theorem tl_frR {F : Nat → Prop} {D : va_G} {cl : List vw_C} {a b b1 : va_W} {H H1 : Heap} (hP : va_P D cl (a ++ b) H) (hD : va_D F (a ++ b)) (hk : ∀ q : Nat, q < H.size → ¬ va_A b H.size q → H1[q]? = H[q]?) (hF : ∀ q, va_A b H.size q → F q) (hP1 : va_P D cl b1 H1) (hD1 : va_D (va_A b H.size) b1) : va_P D cl (a ++ b1) H1 ∧ va_D F (a ++ b1) := by
  have hn : ∀ (k : Nat) (q : Nat × va_E), a[k]? = some q → q.1 < H.size ∧ ¬ va_A b H.size q.1 := by
    intro k q hq
    have hl := ((tl_PL hP) k q hq).lt
    refine ⟨hl, fun h => ?_⟩
    rcases h with ⟨k2, e, h⟩ | h
    · exact tl_DX hD hq h rfl
    · omega
  refine ⟨va_P.app ((tl_PL hP).kept fun k q hq => hk q.1 (hn k q hq).1 (hn k q hq).2) hP1, va_D.app (tl_DL hD) (hD1.weaken (fun k q _ h => hF q.1 h)) (fun i j x y hx hy hxy => ?_)⟩
  exact (hn i x hx).2 (by rw [hxy]; exact hD1.2 j y hy)
theorem tl_callLi {l : Launch} {R : Room} {nc ns : Nat} {Q : tl_Z → State → Prop} {D : va_G} {wa wb : tl_U → va_W} {ta tb : List (ClassId × FieldType)} {nL : Nat} {z : tl_Z} {cc : ByteArray} {own : String} {ret : Option FieldType} {pc : Nat} {lv : List (Nat × Value)} {rest : List Value} {S : SS} {A : AA} {v : tl_U} {y : MethodName} {bytes : ByteArray} {maxL n index : Nat} {ry : Option FieldType} {rm : Room} {As : List Value} {b q0 ci N : Nat} {T : u_T} {fs : List Value} {post : Int32 → SS → AA → Prop} (C : tl_Cx cc nL own ret D (ta ++ tb) z) (hM : ∀ sz : Nat, tl_Met l y bytes maxL ry rm D wa ta sz (.ref b :: As) (S, A) (tl_Qi D wa ta post))
    (hcode : Cond.code y bytes maxL ry ∈ wsAll) (hini : Cond.initialized y.cls ∈ wsAll) (hinst : Cond.instanceMethod y ∈ wsAll) (hsel : Cond.selects y.cls y y ∈ wsAll) (hd : y.cls ≠ "java/lang/invoke/MethodHandle" ∧ y.cls ≠ "java/lang/invoke/VarHandle" ∧ (parseMethodDescriptor y.desc).map (fun d => d.parameters.length) = some n) (hAs : As.length = n) (hrc : rm.cells = 0 ∧ rm.slots = 0) (he : (wa (S, A))[q0]? = some (b, .inr (ci, fs))) (hc : vwCl[ci]? = some (y.cls, T, N))
    (hlink : Cond.methodLink own index y ∈ wsAll) (hf : tl_fit R rm nc ns maxL rest = true) (hdg : decode cc pc = .ok (.invokevirtual index, 3)) (kk : ∀ (r : Int32) (S1 : SS) (A1 : AA), post r S1 A1 → tl_At l R nc ns Q D (fun u : tl_U × tl_U => wa u.1 ++ wb u.2) nL z (pc + 3) lv (.int r :: rest) ((S1, A1), v)) : tl_At l R nc ns Q D (fun u : tl_U × tl_U => wa u.1 ++ wb u.2) nL z pc lv (As.reverse ++ .ref b :: rest) ((S, A), v) := by
  obtain ⟨p, e, s, m, args, below, meth, c, F⟩ := z
  obtain ⟨hx, hb, hml, hown, hts, hN, hK, hA, hlk, hr⟩ := C
  intro ls H locs hl hP0 hD0 hS
  have hP := tl_PL hP0
  have hD := tl_DL hD0
  have hK := tl_KL hK
  have hFc := tl_free hD hS hA
  obtain ⟨hf0, hf1, hf2⟩ := tl_fit1 hf
  refine va_calli (va_runV (As := As) (rest := rest) (b := b) ⟨hx, hb, hml, hown, hts⟩ (hM H.size) ⟨callB_of n hts (tl_good hcode) rfl hrc.1 hrc.2 (hts _ hini) (hts _ hlink) hd hf1, hts _ hinst, hts _ hsel⟩ ⟨tl_blind, va_recv hK hP hc he, fun U hU hW => ⟨rfl, by rw [hU], by rw [hU]; exact hP, va_K.moved hW.alike hK, hD.weaken (fun _ _ _ _ => trivial), tl_NS.warm hW hN⟩⟩ rfl hAs hl.1 rfl (lv_room hf2) hdg hf0) hS (fun q _ h => hFc q h) hFc (fun r u t H1 locs1 ht hvm hp hB hz hk1 hS1 => ?_)
  obtain ⟨S1, A1⟩ := u
  obtain ⟨hP1, hK1, hD1⟩ := hB
  rw [ht] at hP1
  obtain ⟨hP2, hD2⟩ := tl_frL hP0 hD0 hk1 hFc hP1 hD1
  exact kk r S1 A1 hp ls H1 locs1 hl hP2 hD2 hS1
theorem tl_callLv {l : Launch} {R : Room} {nc ns : Nat} {Q : tl_Z → State → Prop} {D : va_G} {wa wb : tl_U → va_W} {ta tb : List (ClassId × FieldType)} {nL : Nat} {z : tl_Z} {cc : ByteArray} {own : String} {ret : Option FieldType} {pc : Nat} {lv : List (Nat × Value)} {rest : List Value} {S : SS} {A : AA} {v : tl_U} {y : MethodName} {bytes : ByteArray} {maxL n index : Nat} {ry : Option FieldType} {rm : Room} {As : List Value} {b q0 ci N : Nat} {T : u_T} {fs : List Value} {post : SS → AA → Prop} (C : tl_Cx cc nL own ret D (ta ++ tb) z) (hM : ∀ sz : Nat, tl_Met l y bytes maxL ry rm D wa ta sz (.ref b :: As) (S, A) (tl_Qv D wa ta post))
    (hcode : Cond.code y bytes maxL ry ∈ wsAll) (hini : Cond.initialized y.cls ∈ wsAll) (hinst : Cond.instanceMethod y ∈ wsAll) (hsel : Cond.selects y.cls y y ∈ wsAll) (hd : y.cls ≠ "java/lang/invoke/MethodHandle" ∧ y.cls ≠ "java/lang/invoke/VarHandle" ∧ (parseMethodDescriptor y.desc).map (fun d => d.parameters.length) = some n) (hAs : As.length = n) (hrc : rm.cells = 0 ∧ rm.slots = 0) (he : (wa (S, A))[q0]? = some (b, .inr (ci, fs))) (hc : vwCl[ci]? = some (y.cls, T, N))
    (hlink : Cond.methodLink own index y ∈ wsAll) (hf : tl_fit R rm nc ns maxL rest = true) (hdg : decode cc pc = .ok (.invokevirtual index, 3)) (kk : ∀ (S1 : SS) (A1 : AA), post S1 A1 → tl_At l R nc ns Q D (fun u : tl_U × tl_U => wa u.1 ++ wb u.2) nL z (pc + 3) lv (rest) ((S1, A1), v)) : tl_At l R nc ns Q D (fun u : tl_U × tl_U => wa u.1 ++ wb u.2) nL z pc lv (As.reverse ++ .ref b :: rest) ((S, A), v) := by
  obtain ⟨p, e, s, m, args, below, meth, c, F⟩ := z
  obtain ⟨hx, hb, hml, hown, hts, hN, hK, hA, hlk, hr⟩ := C
  intro ls H locs hl hP0 hD0 hS
  have hP := tl_PL hP0
  have hD := tl_DL hD0
  have hK := tl_KL hK
  have hFc := tl_free hD hS hA
  obtain ⟨hf0, hf1, hf2⟩ := tl_fit1 hf
  refine va_callv (va_runV (As := As) (rest := rest) (b := b) ⟨hx, hb, hml, hown, hts⟩ (hM H.size) ⟨callB_of n hts (tl_good hcode) rfl hrc.1 hrc.2 (hts _ hini) (hts _ hlink) hd hf1, hts _ hinst, hts _ hsel⟩ ⟨tl_blind, va_recv hK hP hc he, fun U hU hW => ⟨rfl, by rw [hU], by rw [hU]; exact hP, va_K.moved hW.alike hK, hD.weaken (fun _ _ _ _ => trivial), tl_NS.warm hW hN⟩⟩ rfl hAs hl.1 rfl (lv_room hf2) hdg hf0) hS (fun q _ h => hFc q h) hFc (fun u t H1 locs1 ht hvm hp hB hz hk1 hS1 => ?_)
  obtain ⟨S1, A1⟩ := u
  obtain ⟨hP1, hK1, hD1⟩ := hB
  rw [ht] at hP1
  obtain ⟨hP2, hD2⟩ := tl_frL hP0 hD0 hk1 hFc hP1 hD1
  exact kk S1 A1 hp ls H1 locs1 hl hP2 hD2 hS1
theorem tl_callRi {l : Launch} {R : Room} {nc ns : Nat} {Q : tl_Z → State → Prop} {D : va_G} {wa wb : tl_U → va_W} {ta tb : List (ClassId × FieldType)} {nL : Nat} {z : tl_Z} {cc : ByteArray} {own : String} {ret : Option FieldType} {pc : Nat} {lv : List (Nat × Value)} {rest : List Value} {S : SS} {A : AA} {v : tl_U} {y : MethodName} {bytes : ByteArray} {maxL n index : Nat} {ry : Option FieldType} {rm : Room} {As : List Value} {b q0 ci N : Nat} {T : u_T} {fs : List Value} {post : Int32 → SS → AA → Prop} (C : tl_Cx cc nL own ret D (ta ++ tb) z) (hM : ∀ sz : Nat, tl_Met l y bytes maxL ry rm D wb tb sz (.ref b :: As) (S, A) (tl_Qi D wb tb post))
    (hcode : Cond.code y bytes maxL ry ∈ wsAll) (hini : Cond.initialized y.cls ∈ wsAll) (hinst : Cond.instanceMethod y ∈ wsAll) (hsel : Cond.selects y.cls y y ∈ wsAll) (hd : y.cls ≠ "java/lang/invoke/MethodHandle" ∧ y.cls ≠ "java/lang/invoke/VarHandle" ∧ (parseMethodDescriptor y.desc).map (fun d => d.parameters.length) = some n) (hAs : As.length = n) (hrc : rm.cells = 0 ∧ rm.slots = 0) (he : (wb (S, A))[q0]? = some (b, .inr (ci, fs))) (hc : vwCl[ci]? = some (y.cls, T, N))
    (hlink : Cond.methodLink own index y ∈ wsAll) (hf : tl_fit R rm nc ns maxL rest = true) (hdg : decode cc pc = .ok (.invokevirtual index, 3)) (kk : ∀ (r : Int32) (S1 : SS) (A1 : AA), post r S1 A1 → tl_At l R nc ns Q D (fun u : tl_U × tl_U => wa u.1 ++ wb u.2) nL z (pc + 3) lv (.int r :: rest) (v, (S1, A1))) : tl_At l R nc ns Q D (fun u : tl_U × tl_U => wa u.1 ++ wb u.2) nL z pc lv (As.reverse ++ .ref b :: rest) (v, (S, A)) := by
  obtain ⟨p, e, s, m, args, below, meth, c, F⟩ := z
  obtain ⟨hx, hb, hml, hown, hts, hN, hK, hA, hlk, hr⟩ := C
  intro ls H locs hl hP0 hD0 hS
  have hP := tl_PR hP0
  have hD := tl_DR hD0
  have hK := tl_KR hK
  have hFc := tl_free hD hS hA
  obtain ⟨hf0, hf1, hf2⟩ := tl_fit1 hf
  refine va_calli (va_runV (As := As) (rest := rest) (b := b) ⟨hx, hb, hml, hown, hts⟩ (hM H.size) ⟨callB_of n hts (tl_good hcode) rfl hrc.1 hrc.2 (hts _ hini) (hts _ hlink) hd hf1, hts _ hinst, hts _ hsel⟩ ⟨tl_blind, va_recv hK hP hc he, fun U hU hW => ⟨rfl, by rw [hU], by rw [hU]; exact hP, va_K.moved hW.alike hK, hD.weaken (fun _ _ _ _ => trivial), tl_NS.warm hW hN⟩⟩ rfl hAs hl.1 rfl (lv_room hf2) hdg hf0) hS (fun q _ h => hFc q h) hFc (fun r u t H1 locs1 ht hvm hp hB hz hk1 hS1 => ?_)
  obtain ⟨S1, A1⟩ := u
  obtain ⟨hP1, hK1, hD1⟩ := hB
  rw [ht] at hP1
  obtain ⟨hP2, hD2⟩ := tl_frR hP0 hD0 hk1 hFc hP1 hD1
  exact kk r S1 A1 hp ls H1 locs1 hl hP2 hD2 hS1
theorem tl_callRv {l : Launch} {R : Room} {nc ns : Nat} {Q : tl_Z → State → Prop} {D : va_G} {wa wb : tl_U → va_W} {ta tb : List (ClassId × FieldType)} {nL : Nat} {z : tl_Z} {cc : ByteArray} {own : String} {ret : Option FieldType} {pc : Nat} {lv : List (Nat × Value)} {rest : List Value} {S : SS} {A : AA} {v : tl_U} {y : MethodName} {bytes : ByteArray} {maxL n index : Nat} {ry : Option FieldType} {rm : Room} {As : List Value} {b q0 ci N : Nat} {T : u_T} {fs : List Value} {post : SS → AA → Prop} (C : tl_Cx cc nL own ret D (ta ++ tb) z) (hM : ∀ sz : Nat, tl_Met l y bytes maxL ry rm D wb tb sz (.ref b :: As) (S, A) (tl_Qv D wb tb post))
    (hcode : Cond.code y bytes maxL ry ∈ wsAll) (hini : Cond.initialized y.cls ∈ wsAll) (hinst : Cond.instanceMethod y ∈ wsAll) (hsel : Cond.selects y.cls y y ∈ wsAll) (hd : y.cls ≠ "java/lang/invoke/MethodHandle" ∧ y.cls ≠ "java/lang/invoke/VarHandle" ∧ (parseMethodDescriptor y.desc).map (fun d => d.parameters.length) = some n) (hAs : As.length = n) (hrc : rm.cells = 0 ∧ rm.slots = 0) (he : (wb (S, A))[q0]? = some (b, .inr (ci, fs))) (hc : vwCl[ci]? = some (y.cls, T, N))
    (hlink : Cond.methodLink own index y ∈ wsAll) (hf : tl_fit R rm nc ns maxL rest = true) (hdg : decode cc pc = .ok (.invokevirtual index, 3)) (kk : ∀ (S1 : SS) (A1 : AA), post S1 A1 → tl_At l R nc ns Q D (fun u : tl_U × tl_U => wa u.1 ++ wb u.2) nL z (pc + 3) lv (rest) (v, (S1, A1))) : tl_At l R nc ns Q D (fun u : tl_U × tl_U => wa u.1 ++ wb u.2) nL z pc lv (As.reverse ++ .ref b :: rest) (v, (S, A)) := by
  obtain ⟨p, e, s, m, args, below, meth, c, F⟩ := z
  obtain ⟨hx, hb, hml, hown, hts, hN, hK, hA, hlk, hr⟩ := C
  intro ls H locs hl hP0 hD0 hS
  have hP := tl_PR hP0
  have hD := tl_DR hD0
  have hK := tl_KR hK
  have hFc := tl_free hD hS hA
  obtain ⟨hf0, hf1, hf2⟩ := tl_fit1 hf
  refine va_callv (va_runV (As := As) (rest := rest) (b := b) ⟨hx, hb, hml, hown, hts⟩ (hM H.size) ⟨callB_of n hts (tl_good hcode) rfl hrc.1 hrc.2 (hts _ hini) (hts _ hlink) hd hf1, hts _ hinst, hts _ hsel⟩ ⟨tl_blind, va_recv hK hP hc he, fun U hU hW => ⟨rfl, by rw [hU], by rw [hU]; exact hP, va_K.moved hW.alike hK, hD.weaken (fun _ _ _ _ => trivial), tl_NS.warm hW hN⟩⟩ rfl hAs hl.1 rfl (lv_room hf2) hdg hf0) hS (fun q _ h => hFc q h) hFc (fun u t H1 locs1 ht hvm hp hB hz hk1 hS1 => ?_)
  obtain ⟨S1, A1⟩ := u
  obtain ⟨hP1, hK1, hD1⟩ := hB
  rw [ht] at hP1
  obtain ⟨hP2, hD2⟩ := tl_frR hP0 hD0 hk1 hFc hP1 hD1
  exact kk S1 A1 hp ls H1 locs1 hl hP2 hD2 hS1
theorem kL_X_T_frame {l : Launch} {D : va_G} {q : Nat → Nat} {k : Nat → ClassId} {q2 : Nat → Nat} {k2 : Nat → ClassId} {z : tl_Z} {pc : Nat} {lv : List (Nat × Value)} {rest : List Value} {S : SS} {A : AA} {v : tl_U} {x1 x2 : Int32} {post : Int32 → SS → AA → Prop} (C : tl_Cx code 4 R_L ret D (tL k k2) z) (hw : wX_T_frame post S A x1 x2) (hdg : decode code pc = .ok (.invokevirtual 13, 3)) (hn : (rest.map fun v => v.category).sum ≤ 8) (kk : ∀ (r : Int32) (S1 : SS) (A1 : AA), post r S1 A1 → tl_At l room_1 19 572 tl_LZ D (wL q k q2 k2) 4 z (pc + 3) lv (.int r :: rest) ((S1, A1), v)) : tl_At l room_1 19 572 tl_LZ D (wL q k q2 k2) 4 z pc lv (.int x2 :: .int x1 :: .ref (q 0) :: rest) ((S, A), v) :=
  tl_callLi (n := 2) (wa := wX q k) (wb := wM q2 k2) (As := [.int x1, .int x2]) (b := q 0) (q0 := 0) (ci := 6) C (fun sz => cX_T_frame l D q k sz S A x1 x2 hw) in_245 in_1 in_243 in_244 (by decide +kernel) rfl ⟨rfl, rfl⟩ rfl rfl in_242 (tl_fitL hn rfl) hdg kk
theorem kL_X_T_peek {l : Launch} {D : va_G} {q : Nat → Nat} {k : Nat → ClassId} {q2 : Nat → Nat} {k2 : Nat → ClassId} {z : tl_Z} {pc : Nat} {lv : List (Nat × Value)} {rest : List Value} {S : SS} {A : AA} {v : tl_U} {x1 : Int32} {post : Int32 → SS → AA → Prop} (C : tl_Cx code 4 R_L ret D (tL k k2) z) (hw : wX_T_peek post S A x1) (hdg : decode code pc = .ok (.invokevirtual 18, 3)) (hn : (rest.map fun v => v.category).sum ≤ 8) (kk : ∀ (r : Int32) (S1 : SS) (A1 : AA), post r S1 A1 → tl_At l room_1 19 572 tl_LZ D (wL q k q2 k2) 4 z (pc + 3) lv (.int r :: rest) ((S1, A1), v)) : tl_At l room_1 19 572 tl_LZ D (wL q k q2 k2) 4 z pc lv (.int x1 :: .ref (q 0) :: rest) ((S, A), v) :=
  tl_callLi (n := 1) (wa := wX q k) (wb := wM q2 k2) (As := [.int x1]) (b := q 0) (q0 := 0) (ci := 6) C (fun sz => cX_T_peek l D q k sz S A x1 hw) in_468 in_1 in_466 in_467 (by decide +kernel) rfl ⟨rfl, rfl⟩ rfl rfl in_465 (tl_fitL hn rfl) hdg kk
theorem kL_X_T_take {l : Launch} {D : va_G} {q : Nat → Nat} {k : Nat → ClassId} {q2 : Nat → Nat} {k2 : Nat → ClassId} {z : tl_Z} {pc : Nat} {lv : List (Nat × Value)} {rest : List Value} {S : SS} {A : AA} {v : tl_U} {post : Int32 → SS → AA → Prop} (C : tl_Cx code 4 R_L ret D (tL k k2) z) (hw : wX_T_take post S A) (hdg : decode code pc = .ok (.invokevirtual 23, 3)) (hn : (rest.map fun v => v.category).sum ≤ 8) (kk : ∀ (r : Int32) (S1 : SS) (A1 : AA), post r S1 A1 → tl_At l room_1 19 572 tl_LZ D (wL q k q2 k2) 4 z (pc + 3) lv (.int r :: rest) ((S1, A1), v)) : tl_At l room_1 19 572 tl_LZ D (wL q k q2 k2) 4 z pc lv (.ref (q 0) :: rest) ((S, A), v) :=
  tl_callLi (n := 0) (wa := wX q k) (wb := wM q2 k2) (As := []) (b := q 0) (q0 := 0) (ci := 6) C (fun sz => cX_T_take l D q k sz S A hw) in_476 in_1 in_474 in_475 (by decide +kernel) rfl ⟨rfl, rfl⟩ rfl rfl in_473 (tl_fitL hn rfl) hdg kk
theorem kL_X_T_tick {l : Launch} {D : va_G} {q : Nat → Nat} {k : Nat → ClassId} {q2 : Nat → Nat} {k2 : Nat → ClassId} {z : tl_Z} {pc : Nat} {lv : List (Nat × Value)} {rest : List Value} {S : SS} {A : AA} {v : tl_U} {post : SS → AA → Prop} (C : tl_Cx code 4 R_L ret D (tL k k2) z) (hw : wX_T_tick post S A) (hdg : decode code pc = .ok (.invokevirtual 28, 3)) (hn : (rest.map fun v => v.category).sum ≤ 8) (kk : ∀ (S1 : SS) (A1 : AA), post S1 A1 → tl_At l room_1 19 572 tl_LZ D (wL q k q2 k2) 4 z (pc + 3) lv (rest) ((S1, A1), v)) : tl_At l room_1 19 572 tl_LZ D (wL q k q2 k2) 4 z pc lv (.ref (q 0) :: rest) ((S, A), v) :=
  tl_callLv (n := 0) (wa := wX q k) (wb := wM q2 k2) (As := []) (b := q 0) (q0 := 0) (ci := 6) C (fun sz => cX_T_tick l D q k sz S A hw) in_484 in_1 in_482 in_483 (by decide +kernel) rfl ⟨rfl, rfl⟩ rfl rfl in_481 (tl_fitL hn rfl) hdg kk
theorem kL_X_T_cut {l : Launch} {D : va_G} {q : Nat → Nat} {k : Nat → ClassId} {q2 : Nat → Nat} {k2 : Nat → ClassId} {z : tl_Z} {pc : Nat} {lv : List (Nat × Value)} {rest : List Value} {S : SS} {A : AA} {v : tl_U} {x1 : Int32} {post : SS → AA → Prop} (C : tl_Cx code 4 R_L ret D (tL k k2) z) (hw : wX_T_cut post S A x1) (hdg : decode code pc = .ok (.invokevirtual 32, 3)) (hn : (rest.map fun v => v.category).sum ≤ 8) (kk : ∀ (S1 : SS) (A1 : AA), post S1 A1 → tl_At l room_1 19 572 tl_LZ D (wL q k q2 k2) 4 z (pc + 3) lv (rest) ((S1, A1), v)) : tl_At l room_1 19 572 tl_LZ D (wL q k q2 k2) 4 z pc lv (.int x1 :: .ref (q 0) :: rest) ((S, A), v) :=
  tl_callLv (n := 1) (wa := wX q k) (wb := wM q2 k2) (As := [.int x1]) (b := q 0) (q0 := 0) (ci := 6) C (fun sz => cX_T_cut l D q k sz S A x1 hw) in_501 in_1 in_499 in_500 (by decide +kernel) rfl ⟨rfl, rfl⟩ rfl rfl in_498 (tl_fitL hn rfl) hdg kk
theorem kL_X_T_restart {l : Launch} {D : va_G} {q : Nat → Nat} {k : Nat → ClassId} {q2 : Nat → Nat} {k2 : Nat → ClassId} {z : tl_Z} {pc : Nat} {lv : List (Nat × Value)} {rest : List Value} {S : SS} {A : AA} {v : tl_U} {post : SS → AA → Prop} (C : tl_Cx code 4 R_L ret D (tL k k2) z) (hw : wX_T_restart post S A) (hdg : decode code pc = .ok (.invokevirtual 37, 3)) (hn : (rest.map fun v => v.category).sum ≤ 8) (kk : ∀ (S1 : SS) (A1 : AA), post S1 A1 → tl_At l room_1 19 572 tl_LZ D (wL q k q2 k2) 4 z (pc + 3) lv (rest) ((S1, A1), v)) : tl_At l room_1 19 572 tl_LZ D (wL q k q2 k2) 4 z pc lv (.ref (q 0) :: rest) ((S, A), v) :=
  tl_callLv (n := 0) (wa := wX q k) (wb := wM q2 k2) (As := []) (b := q 0) (q0 := 0) (ci := 6) C (fun sz => cX_T_restart l D q k sz S A hw) in_509 in_1 in_507 in_508 (by decide +kernel) rfl ⟨rfl, rfl⟩ rfl rfl in_506 (tl_fitL hn rfl) hdg kk
theorem kL_X_T_flash {l : Launch} {D : va_G} {q : Nat → Nat} {k : Nat → ClassId} {q2 : Nat → Nat} {k2 : Nat → ClassId} {z : tl_Z} {pc : Nat} {lv : List (Nat × Value)} {rest : List Value} {S : SS} {A : AA} {v : tl_U} {x1 : Int32} {post : Int32 → SS → AA → Prop} (C : tl_Cx code 4 R_L ret D (tL k k2) z) (hw : wX_T_flash post S A x1) (hdg : decode code pc = .ok (.invokevirtual 41, 3)) (hn : (rest.map fun v => v.category).sum ≤ 8) (kk : ∀ (r : Int32) (S1 : SS) (A1 : AA), post r S1 A1 → tl_At l room_1 19 572 tl_LZ D (wL q k q2 k2) 4 z (pc + 3) lv (.int r :: rest) ((S1, A1), v)) : tl_At l room_1 19 572 tl_LZ D (wL q k q2 k2) 4 z pc lv (.int x1 :: .ref (q 0) :: rest) ((S, A), v) :=
  tl_callLi (n := 1) (wa := wX q k) (wb := wM q2 k2) (As := [.int x1]) (b := q 0) (q0 := 0) (ci := 6) C (fun sz => cX_T_flash l D q k sz S A x1 hw) in_513 in_1 in_511 in_512 (by decide +kernel) rfl ⟨rfl, rfl⟩ rfl rfl in_510 (tl_fitL hn rfl) hdg kk
theorem kL_X_T_word {l : Launch} {D : va_G} {q : Nat → Nat} {k : Nat → ClassId} {q2 : Nat → Nat} {k2 : Nat → ClassId} {z : tl_Z} {pc : Nat} {lv : List (Nat × Value)} {rest : List Value} {S : SS} {A : AA} {v : tl_U} {x1 : Int32} {post : Int32 → SS → AA → Prop} (C : tl_Cx code 4 R_L ret D (tL k k2) z) (hw : wX_T_word post S A x1) (hdg : decode code pc = .ok (.invokevirtual 45, 3)) (hn : (rest.map fun v => v.category).sum ≤ 8) (kk : ∀ (r : Int32) (S1 : SS) (A1 : AA), post r S1 A1 → tl_At l room_1 19 572 tl_LZ D (wL q k q2 k2) 4 z (pc + 3) lv (.int r :: rest) ((S1, A1), v)) : tl_At l room_1 19 572 tl_LZ D (wL q k q2 k2) 4 z pc lv (.int x1 :: .ref (q 0) :: rest) ((S, A), v) :=
  tl_callLi (n := 1) (wa := wX q k) (wb := wM q2 k2) (As := [.int x1]) (b := q 0) (q0 := 0) (ci := 6) C (fun sz => cX_T_word l D q k sz S A x1 hw) in_518 in_1 in_516 in_517 (by decide +kernel) rfl ⟨rfl, rfl⟩ rfl rfl in_515 (tl_fitL hn rfl) hdg kk
theorem kL_X_T_state {l : Launch} {D : va_G} {q : Nat → Nat} {k : Nat → ClassId} {q2 : Nat → Nat} {k2 : Nat → ClassId} {z : tl_Z} {pc : Nat} {lv : List (Nat × Value)} {rest : List Value} {S : SS} {A : AA} {v : tl_U} {x1 : Int32} {post : Int32 → SS → AA → Prop} (C : tl_Cx code 4 R_L ret D (tL k k2) z) (hw : wX_T_state post S A x1) (hdg : decode code pc = .ok (.invokevirtual 49, 3)) (hn : (rest.map fun v => v.category).sum ≤ 8) (kk : ∀ (r : Int32) (S1 : SS) (A1 : AA), post r S1 A1 → tl_At l room_1 19 572 tl_LZ D (wL q k q2 k2) 4 z (pc + 3) lv (.int r :: rest) ((S1, A1), v)) : tl_At l room_1 19 572 tl_LZ D (wL q k q2 k2) 4 z pc lv (.int x1 :: .ref (q 0) :: rest) ((S, A), v) :=
  tl_callLi (n := 1) (wa := wX q k) (wb := wM q2 k2) (As := [.int x1]) (b := q 0) (q0 := 0) (ci := 6) C (fun sz => cX_T_state l D q k sz S A x1 hw) in_522 in_1 in_520 in_521 (by decide +kernel) rfl ⟨rfl, rfl⟩ rfl rfl in_519 (tl_fitL hn rfl) hdg kk
theorem kL_M_M_frame {l : Launch} {D : va_G} {q : Nat → Nat} {k : Nat → ClassId} {q2 : Nat → Nat} {k2 : Nat → ClassId} {z : tl_Z} {pc : Nat} {lv : List (Nat × Value)} {rest : List Value} {S : SS} {A : AA} {v : tl_U} {x1 x2 : Int32} {post : Int32 → SS → AA → Prop} (C : tl_Cx code 4 R_L ret D (tL k k2) z) (hw : wM_M_frame post S A x1 x2) (hdg : decode code pc = .ok (.invokevirtual 17, 3)) (hn : (rest.map fun v => v.category).sum ≤ 8) (kk : ∀ (r : Int32) (S1 : SS) (A1 : AA), post r S1 A1 → tl_At l room_1 19 572 tl_LZ D (wL q k q2 k2) 4 z (pc + 3) lv (.int r :: rest) (v, (S1, A1))) : tl_At l room_1 19 572 tl_LZ D (wL q k q2 k2) 4 z pc lv (.int x2 :: .int x1 :: .ref (q2 0) :: rest) (v, (S, A)) :=
  tl_callRi (n := 2) (wa := wX q k) (wb := wM q2 k2) (As := [.int x1, .int x2]) (b := q2 0) (q0 := 0) (ci := 7) C (fun sz => cM_M_frame l D q2 k2 sz S A x1 x2 hw) in_666 in_8 in_664 in_665 (by decide +kernel) rfl ⟨rfl, rfl⟩ rfl rfl in_663 (tl_fitL hn rfl) hdg kk
theorem kL_M_M_peek {l : Launch} {D : va_G} {q : Nat → Nat} {k : Nat → ClassId} {q2 : Nat → Nat} {k2 : Nat → ClassId} {z : tl_Z} {pc : Nat} {lv : List (Nat × Value)} {rest : List Value} {S : SS} {A : AA} {v : tl_U} {x1 : Int32} {post : Int32 → SS → AA → Prop} (C : tl_Cx code 4 R_L ret D (tL k k2) z) (hw : wM_M_peek post S A x1) (hdg : decode code pc = .ok (.invokevirtual 22, 3)) (hn : (rest.map fun v => v.category).sum ≤ 8) (kk : ∀ (r : Int32) (S1 : SS) (A1 : AA), post r S1 A1 → tl_At l room_1 19 572 tl_LZ D (wL q k q2 k2) 4 z (pc + 3) lv (.int r :: rest) (v, (S1, A1))) : tl_At l room_1 19 572 tl_LZ D (wL q k q2 k2) 4 z pc lv (.int x1 :: .ref (q2 0) :: rest) (v, (S, A)) :=
  tl_callRi (n := 1) (wa := wX q k) (wb := wM q2 k2) (As := [.int x1]) (b := q2 0) (q0 := 0) (ci := 7) C (fun sz => cM_M_peek l D q2 k2 sz S A x1 hw) in_783 in_8 in_781 in_782 (by decide +kernel) rfl ⟨rfl, rfl⟩ rfl rfl in_780 (tl_fitL hn rfl) hdg kk
theorem kL_M_M_take {l : Launch} {D : va_G} {q : Nat → Nat} {k : Nat → ClassId} {q2 : Nat → Nat} {k2 : Nat → ClassId} {z : tl_Z} {pc : Nat} {lv : List (Nat × Value)} {rest : List Value} {S : SS} {A : AA} {v : tl_U} {post : Int32 → SS → AA → Prop} (C : tl_Cx code 4 R_L ret D (tL k k2) z) (hw : wM_M_take post S A) (hdg : decode code pc = .ok (.invokevirtual 27, 3)) (hn : (rest.map fun v => v.category).sum ≤ 8) (kk : ∀ (r : Int32) (S1 : SS) (A1 : AA), post r S1 A1 → tl_At l room_1 19 572 tl_LZ D (wL q k q2 k2) 4 z (pc + 3) lv (.int r :: rest) (v, (S1, A1))) : tl_At l room_1 19 572 tl_LZ D (wL q k q2 k2) 4 z pc lv (.ref (q2 0) :: rest) (v, (S, A)) :=
  tl_callRi (n := 0) (wa := wX q k) (wb := wM q2 k2) (As := []) (b := q2 0) (q0 := 0) (ci := 7) C (fun sz => cM_M_take l D q2 k2 sz S A hw) in_787 in_8 in_785 in_786 (by decide +kernel) rfl ⟨rfl, rfl⟩ rfl rfl in_784 (tl_fitL hn rfl) hdg kk
theorem kL_M_M_tick {l : Launch} {D : va_G} {q : Nat → Nat} {k : Nat → ClassId} {q2 : Nat → Nat} {k2 : Nat → ClassId} {z : tl_Z} {pc : Nat} {lv : List (Nat × Value)} {rest : List Value} {S : SS} {A : AA} {v : tl_U} {post : SS → AA → Prop} (C : tl_Cx code 4 R_L ret D (tL k k2) z) (hw : wM_M_tick post S A) (hdg : decode code pc = .ok (.invokevirtual 31, 3)) (hn : (rest.map fun v => v.category).sum ≤ 8) (kk : ∀ (S1 : SS) (A1 : AA), post S1 A1 → tl_At l room_1 19 572 tl_LZ D (wL q k q2 k2) 4 z (pc + 3) lv (rest) (v, (S1, A1))) : tl_At l room_1 19 572 tl_LZ D (wL q k q2 k2) 4 z pc lv (.ref (q2 0) :: rest) (v, (S, A)) :=
  tl_callRv (n := 0) (wa := wX q k) (wb := wM q2 k2) (As := []) (b := q2 0) (q0 := 0) (ci := 7) C (fun sz => cM_M_tick l D q2 k2 sz S A hw) in_791 in_8 in_789 in_790 (by decide +kernel) rfl ⟨rfl, rfl⟩ rfl rfl in_788 (tl_fitL hn rfl) hdg kk
theorem kL_M_M_cut {l : Launch} {D : va_G} {q : Nat → Nat} {k : Nat → ClassId} {q2 : Nat → Nat} {k2 : Nat → ClassId} {z : tl_Z} {pc : Nat} {lv : List (Nat × Value)} {rest : List Value} {S : SS} {A : AA} {v : tl_U} {x1 : Int32} {post : SS → AA → Prop} (C : tl_Cx code 4 R_L ret D (tL k k2) z) (hw : wM_M_cut post S A x1) (hdg : decode code pc = .ok (.invokevirtual 36, 3)) (hn : (rest.map fun v => v.category).sum ≤ 8) (kk : ∀ (S1 : SS) (A1 : AA), post S1 A1 → tl_At l room_1 19 572 tl_LZ D (wL q k q2 k2) 4 z (pc + 3) lv (rest) (v, (S1, A1))) : tl_At l room_1 19 572 tl_LZ D (wL q k q2 k2) 4 z pc lv (.int x1 :: .ref (q2 0) :: rest) (v, (S, A)) :=
  tl_callRv (n := 1) (wa := wX q k) (wb := wM q2 k2) (As := [.int x1]) (b := q2 0) (q0 := 0) (ci := 7) C (fun sz => cM_M_cut l D q2 k2 sz S A x1 hw) in_662 in_8 in_660 in_661 (by decide +kernel) rfl ⟨rfl, rfl⟩ rfl rfl in_659 (tl_fitL hn rfl) hdg kk
theorem kL_M_M_restart {l : Launch} {D : va_G} {q : Nat → Nat} {k : Nat → ClassId} {q2 : Nat → Nat} {k2 : Nat → ClassId} {z : tl_Z} {pc : Nat} {lv : List (Nat × Value)} {rest : List Value} {S : SS} {A : AA} {v : tl_U} {post : SS → AA → Prop} (C : tl_Cx code 4 R_L ret D (tL k k2) z) (hw : wM_M_restart post S A) (hdg : decode code pc = .ok (.invokevirtual 40, 3)) (hn : (rest.map fun v => v.category).sum ≤ 8) (kk : ∀ (S1 : SS) (A1 : AA), post S1 A1 → tl_At l room_1 19 572 tl_LZ D (wL q k q2 k2) 4 z (pc + 3) lv (rest) (v, (S1, A1))) : tl_At l room_1 19 572 tl_LZ D (wL q k q2 k2) 4 z pc lv (.ref (q2 0) :: rest) (v, (S, A)) :=
  tl_callRv (n := 0) (wa := wX q k) (wb := wM q2 k2) (As := []) (b := q2 0) (q0 := 0) (ci := 7) C (fun sz => cM_M_restart l D q2 k2 sz S A hw) in_658 in_8 in_656 in_657 (by decide +kernel) rfl ⟨rfl, rfl⟩ rfl rfl in_655 (tl_fitL hn rfl) hdg kk
theorem kL_M_M_flash {l : Launch} {D : va_G} {q : Nat → Nat} {k : Nat → ClassId} {q2 : Nat → Nat} {k2 : Nat → ClassId} {z : tl_Z} {pc : Nat} {lv : List (Nat × Value)} {rest : List Value} {S : SS} {A : AA} {v : tl_U} {x1 : Int32} {post : Int32 → SS → AA → Prop} (C : tl_Cx code 4 R_L ret D (tL k k2) z) (hw : wM_M_flash post S A x1) (hdg : decode code pc = .ok (.invokevirtual 44, 3)) (hn : (rest.map fun v => v.category).sum ≤ 8) (kk : ∀ (r : Int32) (S1 : SS) (A1 : AA), post r S1 A1 → tl_At l room_1 19 572 tl_LZ D (wL q k q2 k2) 4 z (pc + 3) lv (.int r :: rest) (v, (S1, A1))) : tl_At l room_1 19 572 tl_LZ D (wL q k q2 k2) 4 z pc lv (.int x1 :: .ref (q2 0) :: rest) (v, (S, A)) :=
  tl_callRi (n := 1) (wa := wX q k) (wb := wM q2 k2) (As := [.int x1]) (b := q2 0) (q0 := 0) (ci := 7) C (fun sz => cM_M_flash l D q2 k2 sz S A x1 hw) in_795 in_8 in_793 in_794 (by decide +kernel) rfl ⟨rfl, rfl⟩ rfl rfl in_792 (tl_fitL hn rfl) hdg kk
theorem kL_M_M_word {l : Launch} {D : va_G} {q : Nat → Nat} {k : Nat → ClassId} {q2 : Nat → Nat} {k2 : Nat → ClassId} {z : tl_Z} {pc : Nat} {lv : List (Nat × Value)} {rest : List Value} {S : SS} {A : AA} {v : tl_U} {x1 : Int32} {post : Int32 → SS → AA → Prop} (C : tl_Cx code 4 R_L ret D (tL k k2) z) (hw : wM_M_word post S A x1) (hdg : decode code pc = .ok (.invokevirtual 48, 3)) (hn : (rest.map fun v => v.category).sum ≤ 8) (kk : ∀ (r : Int32) (S1 : SS) (A1 : AA), post r S1 A1 → tl_At l room_1 19 572 tl_LZ D (wL q k q2 k2) 4 z (pc + 3) lv (.int r :: rest) (v, (S1, A1))) : tl_At l room_1 19 572 tl_LZ D (wL q k q2 k2) 4 z pc lv (.int x1 :: .ref (q2 0) :: rest) (v, (S, A)) :=
  tl_callRi (n := 1) (wa := wX q k) (wb := wM q2 k2) (As := [.int x1]) (b := q2 0) (q0 := 0) (ci := 7) C (fun sz => cM_M_word l D q2 k2 sz S A x1 hw) in_799 in_8 in_797 in_798 (by decide +kernel) rfl ⟨rfl, rfl⟩ rfl rfl in_796 (tl_fitL hn rfl) hdg kk
theorem kL_M_M_state {l : Launch} {D : va_G} {q : Nat → Nat} {k : Nat → ClassId} {q2 : Nat → Nat} {k2 : Nat → ClassId} {z : tl_Z} {pc : Nat} {lv : List (Nat × Value)} {rest : List Value} {S : SS} {A : AA} {v : tl_U} {x1 : Int32} {post : Int32 → SS → AA → Prop} (C : tl_Cx code 4 R_L ret D (tL k k2) z) (hw : wM_M_state post S A x1) (hdg : decode code pc = .ok (.invokevirtual 52, 3)) (hn : (rest.map fun v => v.category).sum ≤ 8) (kk : ∀ (r : Int32) (S1 : SS) (A1 : AA), post r S1 A1 → tl_At l room_1 19 572 tl_LZ D (wL q k q2 k2) 4 z (pc + 3) lv (.int r :: rest) (v, (S1, A1))) : tl_At l room_1 19 572 tl_LZ D (wL q k q2 k2) 4 z pc lv (.int x1 :: .ref (q2 0) :: rest) (v, (S, A)) :=
  tl_callRi (n := 1) (wa := wX q k) (wb := wM q2 k2) (As := [.int x1]) (b := q2 0) (q0 := 0) (ci := 7) C (fun sz => cM_M_state l D q2 k2 sz S A x1 hw) in_803 in_8 in_801 in_802 (by decide +kernel) rfl ⟨rfl, rfl⟩ rfl rfl in_800 (tl_fitL hn rfl) hdg kk
theorem swL_law_32_0 {σ : Type} {l : Launch} {R : Room} {nc ns : Nat} {Q : tl_Z → State → Prop} {D : va_G} {w : σ → va_W} {nL : Nat} {z : tl_Z} {own : String} {ret : Option FieldType} {tys : List (ClassId × FieldType)} {lv : List (Nat × Value)} {rest : List Value} {u : σ} {x : Int32} (C : tl_Cx code nL own ret D tys z) (hc : x = (0 : Int32)) (kk : tl_At l R nc ns Q D w nL z 84 lv rest u) : tl_At l R nc ns Q D w nL z 32 lv (.int x :: rest) u := by
  subst hc
  obtain ⟨p, e, s, m, args, below, meth, c, F⟩ := z
  obtain ⟨hx, hb, hml, hown, hts, hN, hK, hA, hlk, hr⟩ := C
  exact fun ls H locs hl hP hD hS => lv_tableIn hx hb d_L_law_32 (by decide) (by decide) (by decide +kernel : _ = some (52 : Int)) rfl (kk ls H locs hl hP hD hS)
theorem swL_law_32_1 {σ : Type} {l : Launch} {R : Room} {nc ns : Nat} {Q : tl_Z → State → Prop} {D : va_G} {w : σ → va_W} {nL : Nat} {z : tl_Z} {own : String} {ret : Option FieldType} {tys : List (ClassId × FieldType)} {lv : List (Nat × Value)} {rest : List Value} {u : σ} {x : Int32} (C : tl_Cx code nL own ret D tys z) (hc : x = (1 : Int32)) (kk : tl_At l R nc ns Q D w nL z 117 lv rest u) : tl_At l R nc ns Q D w nL z 32 lv (.int x :: rest) u := by
  subst hc
  obtain ⟨p, e, s, m, args, below, meth, c, F⟩ := z
  obtain ⟨hx, hb, hml, hown, hts, hN, hK, hA, hlk, hr⟩ := C
  exact fun ls H locs hl hP hD hS => lv_tableIn hx hb d_L_law_32 (by decide) (by decide) (by decide +kernel : _ = some (85 : Int)) rfl (kk ls H locs hl hP hD hS)
theorem swL_law_32_2 {σ : Type} {l : Launch} {R : Room} {nc ns : Nat} {Q : tl_Z → State → Prop} {D : va_G} {w : σ → va_W} {nL : Nat} {z : tl_Z} {own : String} {ret : Option FieldType} {tys : List (ClassId × FieldType)} {lv : List (Nat × Value)} {rest : List Value} {u : σ} {x : Int32} (C : tl_Cx code nL own ret D tys z) (hc : x = (2 : Int32)) (kk : tl_At l R nc ns Q D w nL z 140 lv rest u) : tl_At l R nc ns Q D w nL z 32 lv (.int x :: rest) u := by
  subst hc
  obtain ⟨p, e, s, m, args, below, meth, c, F⟩ := z
  obtain ⟨hx, hb, hml, hown, hts, hN, hK, hA, hlk, hr⟩ := C
  exact fun ls H locs hl hP hD hS => lv_tableIn hx hb d_L_law_32 (by decide) (by decide) (by decide +kernel : _ = some (108 : Int)) rfl (kk ls H locs hl hP hD hS)
theorem swL_law_32_3 {σ : Type} {l : Launch} {R : Room} {nc ns : Nat} {Q : tl_Z → State → Prop} {D : va_G} {w : σ → va_W} {nL : Nat} {z : tl_Z} {own : String} {ret : Option FieldType} {tys : List (ClassId × FieldType)} {lv : List (Nat × Value)} {rest : List Value} {u : σ} {x : Int32} (C : tl_Cx code nL own ret D tys z) (hc : x = (3 : Int32)) (kk : tl_At l R nc ns Q D w nL z 153 lv rest u) : tl_At l R nc ns Q D w nL z 32 lv (.int x :: rest) u := by
  subst hc
  obtain ⟨p, e, s, m, args, below, meth, c, F⟩ := z
  obtain ⟨hx, hb, hml, hown, hts, hN, hK, hA, hlk, hr⟩ := C
  exact fun ls H locs hl hP hD hS => lv_tableIn hx hb d_L_law_32 (by decide) (by decide) (by decide +kernel : _ = some (121 : Int)) rfl (kk ls H locs hl hP hD hS)
theorem swL_law_32_4 {σ : Type} {l : Launch} {R : Room} {nc ns : Nat} {Q : tl_Z → State → Prop} {D : va_G} {w : σ → va_W} {nL : Nat} {z : tl_Z} {own : String} {ret : Option FieldType} {tys : List (ClassId × FieldType)} {lv : List (Nat × Value)} {rest : List Value} {u : σ} {x : Int32} (C : tl_Cx code nL own ret D tys z) (hc : x = (4 : Int32)) (kk : tl_At l R nc ns Q D w nL z 164 lv rest u) : tl_At l R nc ns Q D w nL z 32 lv (.int x :: rest) u := by
  subst hc
  obtain ⟨p, e, s, m, args, below, meth, c, F⟩ := z
  obtain ⟨hx, hb, hml, hown, hts, hN, hK, hA, hlk, hr⟩ := C
  exact fun ls H locs hl hP hD hS => lv_tableIn hx hb d_L_law_32 (by decide) (by decide) (by decide +kernel : _ = some (132 : Int)) rfl (kk ls H locs hl hP hD hS)
theorem swL_law_32_5 {σ : Type} {l : Launch} {R : Room} {nc ns : Nat} {Q : tl_Z → State → Prop} {D : va_G} {w : σ → va_W} {nL : Nat} {z : tl_Z} {own : String} {ret : Option FieldType} {tys : List (ClassId × FieldType)} {lv : List (Nat × Value)} {rest : List Value} {u : σ} {x : Int32} (C : tl_Cx code nL own ret D tys z) (hc : x = (5 : Int32)) (kk : tl_At l R nc ns Q D w nL z 185 lv rest u) : tl_At l R nc ns Q D w nL z 32 lv (.int x :: rest) u := by
  subst hc
  obtain ⟨p, e, s, m, args, below, meth, c, F⟩ := z
  obtain ⟨hx, hb, hml, hown, hts, hN, hK, hA, hlk, hr⟩ := C
  exact fun ls H locs hl hP hD hS => lv_tableIn hx hb d_L_law_32 (by decide) (by decide) (by decide +kernel : _ = some (153 : Int)) rfl (kk ls H locs hl hP hD hS)
theorem swL_law_32_6 {σ : Type} {l : Launch} {R : Room} {nc ns : Nat} {Q : tl_Z → State → Prop} {D : va_G} {w : σ → va_W} {nL : Nat} {z : tl_Z} {own : String} {ret : Option FieldType} {tys : List (ClassId × FieldType)} {lv : List (Nat × Value)} {rest : List Value} {u : σ} {x : Int32} (C : tl_Cx code nL own ret D tys z) (hc : x = (6 : Int32)) (kk : tl_At l R nc ns Q D w nL z 196 lv rest u) : tl_At l R nc ns Q D w nL z 32 lv (.int x :: rest) u := by
  subst hc
  obtain ⟨p, e, s, m, args, below, meth, c, F⟩ := z
  obtain ⟨hx, hb, hml, hown, hts, hN, hK, hA, hlk, hr⟩ := C
  exact fun ls H locs hl hP hD hS => lv_tableIn hx hb d_L_law_32 (by decide) (by decide) (by decide +kernel : _ = some (164 : Int)) rfl (kk ls H locs hl hP hD hS)
theorem swL_law_32_7 {σ : Type} {l : Launch} {R : Room} {nc ns : Nat} {Q : tl_Z → State → Prop} {D : va_G} {w : σ → va_W} {nL : Nat} {z : tl_Z} {own : String} {ret : Option FieldType} {tys : List (ClassId × FieldType)} {lv : List (Nat × Value)} {rest : List Value} {u : σ} {x : Int32} (C : tl_Cx code nL own ret D tys z) (hc : x = (7 : Int32)) (kk : tl_At l R nc ns Q D w nL z 219 lv rest u) : tl_At l R nc ns Q D w nL z 32 lv (.int x :: rest) u := by
  subst hc
  obtain ⟨p, e, s, m, args, below, meth, c, F⟩ := z
  obtain ⟨hx, hb, hml, hown, hts, hN, hK, hA, hlk, hr⟩ := C
  exact fun ls H locs hl hP hD hS => lv_tableIn hx hb d_L_law_32 (by decide) (by decide) (by decide +kernel : _ = some (187 : Int)) rfl (kk ls H locs hl hP hD hS)
theorem swL_law_32_8 {σ : Type} {l : Launch} {R : Room} {nc ns : Nat} {Q : tl_Z → State → Prop} {D : va_G} {w : σ → va_W} {nL : Nat} {z : tl_Z} {own : String} {ret : Option FieldType} {tys : List (ClassId × FieldType)} {lv : List (Nat × Value)} {rest : List Value} {u : σ} {x : Int32} (C : tl_Cx code nL own ret D tys z) (hc : x = (8 : Int32)) (kk : tl_At l R nc ns Q D w nL z 242 lv rest u) : tl_At l R nc ns Q D w nL z 32 lv (.int x :: rest) u := by
  subst hc
  obtain ⟨p, e, s, m, args, below, meth, c, F⟩ := z
  obtain ⟨hx, hb, hml, hown, hts, hN, hK, hA, hlk, hr⟩ := C
  exact fun ls H locs hl hP hD hS => lv_tableIn hx hb d_L_law_32 (by decide) (by decide) (by decide +kernel : _ = some (210 : Int)) rfl (kk ls H locs hl hP hD hS)
theorem swL_law_32_d {σ : Type} {l : Launch} {R : Room} {nc ns : Nat} {Q : tl_Z → State → Prop} {D : va_G} {w : σ → va_W} {nL : Nat} {z : tl_Z} {own : String} {ret : Option FieldType} {tys : List (ClassId × FieldType)} {lv : List (Nat × Value)} {rest : List Value} {u : σ} {x : Int32} (C : tl_Cx code nL own ret D tys z) (h0 : ¬ x = (0 : Int32)) (h1 : ¬ x = (1 : Int32)) (h2 : ¬ x = (2 : Int32)) (h3 : ¬ x = (3 : Int32)) (h4 : ¬ x = (4 : Int32)) (h5 : ¬ x = (5 : Int32)) (h6 : ¬ x = (6 : Int32)) (h7 : ¬ x = (7 : Int32)) (h8 : ¬ x = (8 : Int32)) (kk : tl_At l R nc ns Q D w nL z 265 lv rest u) : tl_At l R nc ns Q D w nL z 32 lv (.int x :: rest) u := by
  obtain ⟨p, e, s, m, args, below, meth, c, F⟩ := z
  obtain ⟨hx, hb, hml, hown, hts, hN, hK, hA, hlk, hr⟩ := C
  intro ls H locs hl hP hD hS
  have n0 := lv_neT h0 (show (0 : Int32).toInt = 0 by decide)
  have n1 := lv_neT h1 (show (1 : Int32).toInt = 1 by decide)
  have n2 := lv_neT h2 (show (2 : Int32).toInt = 2 by decide)
  have n3 := lv_neT h3 (show (3 : Int32).toInt = 3 by decide)
  have n4 := lv_neT h4 (show (4 : Int32).toInt = 4 by decide)
  have n5 := lv_neT h5 (show (5 : Int32).toInt = 5 by decide)
  have n6 := lv_neT h6 (show (6 : Int32).toInt = 6 by decide)
  have n7 := lv_neT h7 (show (7 : Int32).toInt = 7 by decide)
  have n8 := lv_neT h8 (show (8 : Int32).toInt = 8 by decide)
  by_cases ha : x.toInt < 0
  · exact lv_tableOut hx hb d_L_law_32 (Or.inl ha) rfl (kk ls H locs hl hP hD hS)
  by_cases hz : 8 < x.toInt
  · exact lv_tableOut hx hb d_L_law_32 (Or.inr hz) rfl (kk ls H locs hl hP hD hS)
  exact absurd hz (by omega)
set_option maxHeartbeats 4000000 in
set_option maxRecDepth 100000 in
theorem aL_law (l : Launch) (D : va_G) (q : Nat → Nat) (k : Nat → ClassId) (q2 : Nat → Nat) (k2 : Nat → ClassId) (S : SS) (A : AA) (T : SS) (B : AA) {b L : Nat} {xs : Nat → Int32} {z : tl_Z} (CL : tl_CL D (tL k k2) b L xs z) (hw : wL_law L xs S A T B) : tl_At l room_1 19 572 tl_LZ D (wL q k q2 k2) 4 z 16 [(0, .ref b), (1, .ref (q 0)), (2, .ref (q2 0))] [] ((S, A), (T, B)) := by
  have C := CL.1
  have B18 : ∀ (S : SS) (A : AA) (T : SS) (B : AA) (x3 : Int32), wL_law_18 L xs S A T B x3 → tl_At l room_1 19 572 tl_LZ D (wL q k q2 k2) 4 z 18 [(0, .ref b), (1, .ref (q 0)), (2, .ref (q2 0)), (3, .int x3)] [] ((S, A), (T, B)) := by
    intro S A T B x3 hw
    have key : ∀ X18 : SS → AA → SS → AA → Int32 → Prop, (∀ (S : SS) (A : AA) (T : SS) (B : AA) (x3 : Int32), X18 S A T B x3 → tl_At l room_1 19 572 tl_LZ D (wL q k q2 k2) 4 z 18 [(0, .ref b), (1, .ref (q 0)), (2, .ref (q2 0)), (3, .int x3)] [] ((S, A), (T, B))) → ∀ (S : SS) (A : AA) (T : SS) (B : AA) (x3 : Int32), wL_law_18B L xs X18 S A T B x3 → tl_At l room_1 19 572 tl_LZ D (wL q k q2 k2) 4 z 18 [(0, .ref b), (1, .ref (q 0)), (2, .ref (q2 0)), (3, .int x3)] [] ((S, A), (T, B)) := by
      intro X18 hX18 S A T B x3 hw
      have B265 : ∀ (S : SS) (A : AA) (T : SS) (B : AA) (x3 : Int32), wL_law_265 L xs X18 S A T B x3 → tl_At l room_1 19 572 tl_LZ D (wL q k q2 k2) 4 z 265 [(0, .ref b), (1, .ref (q 0)), (2, .ref (q2 0)), (3, .int x3)] [] ((S, A), (T, B)) := by
        intro S A T B x3 hw
        refine tl_iinc (pc := 265) (lv' := [(3, .int (x3 + (3 : Int32))), (0, .ref b), (1, .ref (q 0)), (2, .ref (q2 0))]) C d_L_law_265 (by decide) 3 rfl rfl (by decide) rfl ?_
        refine tl_goto (pc := 268) (tgt := 18) C d_L_law_268 rfl ?_
        exact tl_sub [1, 2, 3, 0] rfl (hX18 _ _ _ _ _ hw)
      refine tl_iload_n (pc := 18) C d_L_law_18 rfl 3 rfl ?_
      refine tl_aload_n (pc := 19) C d_L_law_19 rfl 0 rfl ?_
      refine tl_slen (pc := 20) CL d_L_law_20 ?_
      refine tl_iconst (pc := 21) (v := 3) C d_L_law_21 (by decide) ?_
      refine tl_isub (pc := 22) C d_L_law_22 ?_
      refine tl_icmp_gt (pc := 23) (tgt := 271) C d_L_law_23 rfl (fun hc => ?_) (fun hc => ?_)
      · have hw := hw.1 hc
        refine tl_iconst (pc := 271) (v := 1) C d_L_law_271 (by decide) ?_
        exact tl_lret (pc := 272) CL hw d_L_law_272
      · have hw := hw.2 hc
        refine tl_aload_n (pc := 26) C d_L_law_26 rfl 0 rfl ?_
        refine tl_iload_n (pc := 27) C d_L_law_27 rfl 3 rfl ?_
        obtain ⟨hi, hw⟩ := hw
        refine tl_sld (pc := 28) CL hi d_L_law_28 ?_
        refine tl_bipush (pc := 29) (v := 15) C d_L_law_29 (by decide) ?_
        refine tl_iand (pc := 31) C d_L_law_31 ?_
        by_cases hc : ((xs x3.toNatClampNeg) &&& (15 : Int32)) = (0 : Int32)
        · have hw := hw.1 hc
          refine swL_law_32_0 C hc ?_
          refine tl_aload_n (pc := 84) C d_L_law_84 rfl 1 rfl ?_
          refine tl_aload_n (pc := 85) C d_L_law_85 rfl 0 rfl ?_
          refine tl_iload_n (pc := 86) C d_L_law_86 rfl 3 rfl ?_
          refine tl_iconst (pc := 87) (v := 1) C d_L_law_87 (by decide) ?_
          refine tl_iadd (pc := 88) C d_L_law_88 ?_
          obtain ⟨hi, hw⟩ := hw
          refine tl_sld (pc := 89) CL hi d_L_law_89 ?_
          refine tl_aload_n (pc := 90) C d_L_law_90 rfl 0 rfl ?_
          refine tl_iload_n (pc := 91) C d_L_law_91 rfl 3 rfl ?_
          refine tl_iconst (pc := 92) (v := 2) C d_L_law_92 (by decide) ?_
          refine tl_iadd (pc := 93) C d_L_law_93 ?_
          obtain ⟨hi, hw⟩ := hw
          refine tl_sld (pc := 94) CL hi d_L_law_94 ?_
          refine kL_X_T_frame (pc := 95) C hw d_L_law_95 (Nat.le_of_ble_eq_true rfl) (fun r95 S95 A95 hw => ?_)
          refine tl_aload_n (pc := 98) C d_L_law_98 rfl 2 rfl ?_
          refine tl_aload_n (pc := 99) C d_L_law_99 rfl 0 rfl ?_
          refine tl_iload_n (pc := 100) C d_L_law_100 rfl 3 rfl ?_
          refine tl_iconst (pc := 101) (v := 1) C d_L_law_101 (by decide) ?_
          refine tl_iadd (pc := 102) C d_L_law_102 ?_
          obtain ⟨hi, hw⟩ := hw
          refine tl_sld (pc := 103) CL hi d_L_law_103 ?_
          refine tl_aload_n (pc := 104) C d_L_law_104 rfl 0 rfl ?_
          refine tl_iload_n (pc := 105) C d_L_law_105 rfl 3 rfl ?_
          refine tl_iconst (pc := 106) (v := 2) C d_L_law_106 (by decide) ?_
          refine tl_iadd (pc := 107) C d_L_law_107 ?_
          obtain ⟨hi, hw⟩ := hw
          refine tl_sld (pc := 108) CL hi d_L_law_108 ?_
          refine kL_M_M_frame (pc := 109) C hw d_L_law_109 (Nat.le_of_ble_eq_true rfl) (fun r109 T109 B109 hw => ?_)
          refine tl_icmp_eq (pc := 112) (tgt := 265) C d_L_law_112 rfl (fun hc => ?_) (fun hc => ?_)
          · have hw := hw.1 hc
            exact tl_sub [0, 1, 2, 3] rfl (B265 _ _ _ _ _ hw)
          · have hw := hw.2 hc
            refine tl_iconst (pc := 115) (v := 0) C d_L_law_115 (by decide) ?_
            exact tl_lret (pc := 116) CL hw d_L_law_116
        · have hw := hw.2 hc
          have hc0 := hc
          by_cases hc : ((xs x3.toNatClampNeg) &&& (15 : Int32)) = (1 : Int32)
          · have hw := hw.1 hc
            refine swL_law_32_1 C hc ?_
            refine tl_aload_n (pc := 117) C d_L_law_117 rfl 1 rfl ?_
            refine tl_aload_n (pc := 118) C d_L_law_118 rfl 0 rfl ?_
            refine tl_iload_n (pc := 119) C d_L_law_119 rfl 3 rfl ?_
            refine tl_iconst (pc := 120) (v := 1) C d_L_law_120 (by decide) ?_
            refine tl_iadd (pc := 121) C d_L_law_121 ?_
            obtain ⟨hi, hw⟩ := hw
            refine tl_sld (pc := 122) CL hi d_L_law_122 ?_
            refine kL_X_T_peek (pc := 123) C hw d_L_law_123 (Nat.le_of_ble_eq_true rfl) (fun r123 S123 A123 hw => ?_)
            refine tl_aload_n (pc := 126) C d_L_law_126 rfl 2 rfl ?_
            refine tl_aload_n (pc := 127) C d_L_law_127 rfl 0 rfl ?_
            refine tl_iload_n (pc := 128) C d_L_law_128 rfl 3 rfl ?_
            refine tl_iconst (pc := 129) (v := 1) C d_L_law_129 (by decide) ?_
            refine tl_iadd (pc := 130) C d_L_law_130 ?_
            obtain ⟨hi, hw⟩ := hw
            refine tl_sld (pc := 131) CL hi d_L_law_131 ?_
            refine kL_M_M_peek (pc := 132) C hw d_L_law_132 (Nat.le_of_ble_eq_true rfl) (fun r132 T132 B132 hw => ?_)
            refine tl_icmp_eq (pc := 135) (tgt := 265) C d_L_law_135 rfl (fun hc => ?_) (fun hc => ?_)
            · have hw := hw.1 hc
              exact tl_sub [0, 1, 2, 3] rfl (B265 _ _ _ _ _ hw)
            · have hw := hw.2 hc
              refine tl_iconst (pc := 138) (v := 0) C d_L_law_138 (by decide) ?_
              exact tl_lret (pc := 139) CL hw d_L_law_139
          · have hw := hw.2 hc
            have hc1 := hc
            by_cases hc : ((xs x3.toNatClampNeg) &&& (15 : Int32)) = (2 : Int32)
            · have hw := hw.1 hc
              refine swL_law_32_2 C hc ?_
              refine tl_aload_n (pc := 140) C d_L_law_140 rfl 1 rfl ?_
              refine kL_X_T_take (pc := 141) C hw d_L_law_141 (Nat.le_of_ble_eq_true rfl) (fun r141 S141 A141 hw => ?_)
              refine tl_aload_n (pc := 144) C d_L_law_144 rfl 2 rfl ?_
              refine kL_M_M_take (pc := 145) C hw d_L_law_145 (Nat.le_of_ble_eq_true rfl) (fun r145 T145 B145 hw => ?_)
              refine tl_icmp_eq (pc := 148) (tgt := 265) C d_L_law_148 rfl (fun hc => ?_) (fun hc => ?_)
              · have hw := hw.1 hc
                exact tl_sub [0, 1, 2, 3] rfl (B265 _ _ _ _ _ hw)
              · have hw := hw.2 hc
                refine tl_iconst (pc := 151) (v := 0) C d_L_law_151 (by decide) ?_
                exact tl_lret (pc := 152) CL hw d_L_law_152
            · have hw := hw.2 hc
              have hc2 := hc
              by_cases hc : ((xs x3.toNatClampNeg) &&& (15 : Int32)) = (3 : Int32)
              · have hw := hw.1 hc
                refine swL_law_32_3 C hc ?_
                refine tl_aload_n (pc := 153) C d_L_law_153 rfl 1 rfl ?_
                refine kL_X_T_tick (pc := 154) C hw d_L_law_154 (Nat.le_of_ble_eq_true rfl) (fun S154 A154 hw => ?_)
                refine tl_aload_n (pc := 157) C d_L_law_157 rfl 2 rfl ?_
                refine kL_M_M_tick (pc := 158) C hw d_L_law_158 (Nat.le_of_ble_eq_true rfl) (fun T158 B158 hw => ?_)
                refine tl_goto (pc := 161) (tgt := 265) C d_L_law_161 rfl ?_
                exact tl_sub [0, 1, 2, 3] rfl (B265 _ _ _ _ _ hw)
              · have hw := hw.2 hc
                have hc3 := hc
                by_cases hc : ((xs x3.toNatClampNeg) &&& (15 : Int32)) = (4 : Int32)
                · have hw := hw.1 hc
                  refine swL_law_32_4 C hc ?_
                  refine tl_aload_n (pc := 164) C d_L_law_164 rfl 1 rfl ?_
                  refine tl_aload_n (pc := 165) C d_L_law_165 rfl 0 rfl ?_
                  refine tl_iload_n (pc := 166) C d_L_law_166 rfl 3 rfl ?_
                  refine tl_iconst (pc := 167) (v := 1) C d_L_law_167 (by decide) ?_
                  refine tl_iadd (pc := 168) C d_L_law_168 ?_
                  obtain ⟨hi, hw⟩ := hw
                  refine tl_sld (pc := 169) CL hi d_L_law_169 ?_
                  refine kL_X_T_cut (pc := 170) C hw d_L_law_170 (Nat.le_of_ble_eq_true rfl) (fun S170 A170 hw => ?_)
                  refine tl_aload_n (pc := 173) C d_L_law_173 rfl 2 rfl ?_
                  refine tl_aload_n (pc := 174) C d_L_law_174 rfl 0 rfl ?_
                  refine tl_iload_n (pc := 175) C d_L_law_175 rfl 3 rfl ?_
                  refine tl_iconst (pc := 176) (v := 1) C d_L_law_176 (by decide) ?_
                  refine tl_iadd (pc := 177) C d_L_law_177 ?_
                  obtain ⟨hi, hw⟩ := hw
                  refine tl_sld (pc := 178) CL hi d_L_law_178 ?_
                  refine kL_M_M_cut (pc := 179) C hw d_L_law_179 (Nat.le_of_ble_eq_true rfl) (fun T179 B179 hw => ?_)
                  refine tl_goto (pc := 182) (tgt := 265) C d_L_law_182 rfl ?_
                  exact tl_sub [0, 1, 2, 3] rfl (B265 _ _ _ _ _ hw)
                · have hw := hw.2 hc
                  have hc4 := hc
                  by_cases hc : ((xs x3.toNatClampNeg) &&& (15 : Int32)) = (5 : Int32)
                  · have hw := hw.1 hc
                    refine swL_law_32_5 C hc ?_
                    refine tl_aload_n (pc := 185) C d_L_law_185 rfl 1 rfl ?_
                    refine kL_X_T_restart (pc := 186) C hw d_L_law_186 (Nat.le_of_ble_eq_true rfl) (fun S186 A186 hw => ?_)
                    refine tl_aload_n (pc := 189) C d_L_law_189 rfl 2 rfl ?_
                    refine kL_M_M_restart (pc := 190) C hw d_L_law_190 (Nat.le_of_ble_eq_true rfl) (fun T190 B190 hw => ?_)
                    refine tl_goto (pc := 193) (tgt := 265) C d_L_law_193 rfl ?_
                    exact tl_sub [0, 1, 2, 3] rfl (B265 _ _ _ _ _ hw)
                  · have hw := hw.2 hc
                    have hc5 := hc
                    by_cases hc : ((xs x3.toNatClampNeg) &&& (15 : Int32)) = (6 : Int32)
                    · have hw := hw.1 hc
                      refine swL_law_32_6 C hc ?_
                      refine tl_aload_n (pc := 196) C d_L_law_196 rfl 1 rfl ?_
                      refine tl_aload_n (pc := 197) C d_L_law_197 rfl 0 rfl ?_
                      refine tl_iload_n (pc := 198) C d_L_law_198 rfl 3 rfl ?_
                      refine tl_iconst (pc := 199) (v := 1) C d_L_law_199 (by decide) ?_
                      refine tl_iadd (pc := 200) C d_L_law_200 ?_
                      obtain ⟨hi, hw⟩ := hw
                      refine tl_sld (pc := 201) CL hi d_L_law_201 ?_
                      refine kL_X_T_flash (pc := 202) C hw d_L_law_202 (Nat.le_of_ble_eq_true rfl) (fun r202 S202 A202 hw => ?_)
                      refine tl_aload_n (pc := 205) C d_L_law_205 rfl 2 rfl ?_
                      refine tl_aload_n (pc := 206) C d_L_law_206 rfl 0 rfl ?_
                      refine tl_iload_n (pc := 207) C d_L_law_207 rfl 3 rfl ?_
                      refine tl_iconst (pc := 208) (v := 1) C d_L_law_208 (by decide) ?_
                      refine tl_iadd (pc := 209) C d_L_law_209 ?_
                      obtain ⟨hi, hw⟩ := hw
                      refine tl_sld (pc := 210) CL hi d_L_law_210 ?_
                      refine kL_M_M_flash (pc := 211) C hw d_L_law_211 (Nat.le_of_ble_eq_true rfl) (fun r211 T211 B211 hw => ?_)
                      refine tl_icmp_eq (pc := 214) (tgt := 265) C d_L_law_214 rfl (fun hc => ?_) (fun hc => ?_)
                      · have hw := hw.1 hc
                        exact tl_sub [0, 1, 2, 3] rfl (B265 _ _ _ _ _ hw)
                      · have hw := hw.2 hc
                        refine tl_iconst (pc := 217) (v := 0) C d_L_law_217 (by decide) ?_
                        exact tl_lret (pc := 218) CL hw d_L_law_218
                    · have hw := hw.2 hc
                      have hc6 := hc
                      by_cases hc : ((xs x3.toNatClampNeg) &&& (15 : Int32)) = (7 : Int32)
                      · have hw := hw.1 hc
                        refine swL_law_32_7 C hc ?_
                        refine tl_aload_n (pc := 219) C d_L_law_219 rfl 1 rfl ?_
                        refine tl_aload_n (pc := 220) C d_L_law_220 rfl 0 rfl ?_
                        refine tl_iload_n (pc := 221) C d_L_law_221 rfl 3 rfl ?_
                        refine tl_iconst (pc := 222) (v := 1) C d_L_law_222 (by decide) ?_
                        refine tl_iadd (pc := 223) C d_L_law_223 ?_
                        obtain ⟨hi, hw⟩ := hw
                        refine tl_sld (pc := 224) CL hi d_L_law_224 ?_
                        refine kL_X_T_word (pc := 225) C hw d_L_law_225 (Nat.le_of_ble_eq_true rfl) (fun r225 S225 A225 hw => ?_)
                        refine tl_aload_n (pc := 228) C d_L_law_228 rfl 2 rfl ?_
                        refine tl_aload_n (pc := 229) C d_L_law_229 rfl 0 rfl ?_
                        refine tl_iload_n (pc := 230) C d_L_law_230 rfl 3 rfl ?_
                        refine tl_iconst (pc := 231) (v := 1) C d_L_law_231 (by decide) ?_
                        refine tl_iadd (pc := 232) C d_L_law_232 ?_
                        obtain ⟨hi, hw⟩ := hw
                        refine tl_sld (pc := 233) CL hi d_L_law_233 ?_
                        refine kL_M_M_word (pc := 234) C hw d_L_law_234 (Nat.le_of_ble_eq_true rfl) (fun r234 T234 B234 hw => ?_)
                        refine tl_icmp_eq (pc := 237) (tgt := 265) C d_L_law_237 rfl (fun hc => ?_) (fun hc => ?_)
                        · have hw := hw.1 hc
                          exact tl_sub [0, 1, 2, 3] rfl (B265 _ _ _ _ _ hw)
                        · have hw := hw.2 hc
                          refine tl_iconst (pc := 240) (v := 0) C d_L_law_240 (by decide) ?_
                          exact tl_lret (pc := 241) CL hw d_L_law_241
                      · have hw := hw.2 hc
                        have hc7 := hc
                        by_cases hc : ((xs x3.toNatClampNeg) &&& (15 : Int32)) = (8 : Int32)
                        · have hw := hw.1 hc
                          refine swL_law_32_8 C hc ?_
                          refine tl_aload_n (pc := 242) C d_L_law_242 rfl 1 rfl ?_
                          refine tl_aload_n (pc := 243) C d_L_law_243 rfl 0 rfl ?_
                          refine tl_iload_n (pc := 244) C d_L_law_244 rfl 3 rfl ?_
                          refine tl_iconst (pc := 245) (v := 1) C d_L_law_245 (by decide) ?_
                          refine tl_iadd (pc := 246) C d_L_law_246 ?_
                          obtain ⟨hi, hw⟩ := hw
                          refine tl_sld (pc := 247) CL hi d_L_law_247 ?_
                          refine kL_X_T_state (pc := 248) C hw d_L_law_248 (Nat.le_of_ble_eq_true rfl) (fun r248 S248 A248 hw => ?_)
                          refine tl_aload_n (pc := 251) C d_L_law_251 rfl 2 rfl ?_
                          refine tl_aload_n (pc := 252) C d_L_law_252 rfl 0 rfl ?_
                          refine tl_iload_n (pc := 253) C d_L_law_253 rfl 3 rfl ?_
                          refine tl_iconst (pc := 254) (v := 1) C d_L_law_254 (by decide) ?_
                          refine tl_iadd (pc := 255) C d_L_law_255 ?_
                          obtain ⟨hi, hw⟩ := hw
                          refine tl_sld (pc := 256) CL hi d_L_law_256 ?_
                          refine kL_M_M_state (pc := 257) C hw d_L_law_257 (Nat.le_of_ble_eq_true rfl) (fun r257 T257 B257 hw => ?_)
                          refine tl_icmp_eq (pc := 260) (tgt := 265) C d_L_law_260 rfl (fun hc => ?_) (fun hc => ?_)
                          · have hw := hw.1 hc
                            exact tl_sub [0, 1, 2, 3] rfl (B265 _ _ _ _ _ hw)
                          · have hw := hw.2 hc
                            refine tl_iconst (pc := 263) (v := 0) C d_L_law_263 (by decide) ?_
                            exact tl_lret (pc := 264) CL hw d_L_law_264
                        · have hw := hw.2 hc
                          have hc8 := hc
                          refine swL_law_32_d C hc0 hc1 hc2 hc3 hc4 hc5 hc6 hc7 hc8 ?_
                          exact tl_sub [0, 1, 2, 3] rfl (B265 _ _ _ _ _ hw)
    exact hw _ (fun S A T B x3 hb => key _ (fun _ _ _ _ _ h => h) S A T B x3 hb)
  refine tl_iconst (pc := 16) (v := 0) C d_L_law_16 (by decide) ?_
  refine tl_istore_n (pc := 17) (lv' := [(3, .int (0 : Int32)), (0, .ref b), (1, .ref (q 0)), (2, .ref (q2 0))]) C d_L_law_17 rfl (by decide) rfl ?_
  exact tl_sub [1, 2, 3, 0] rfl (B18 _ _ _ _ _ hw)
