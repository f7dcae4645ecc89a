theorem sv_16 {n L : Nat} {S : SS} {A : AA} {T : SS} {B : AA} (hW : Wk n S A T B) (e7 : S 7 = nI L) (hL : L ≤ 34) (e11 : S 11 = nI 1) (e20 : T 20 = nI 0) (hs : B 1 0 = 16) (hA0 : A 3 0 = 80) (hl : 1 < L) (h12 : B 1 1 = 1 ∨ B 1 1 = 2) {P : Int32 → SS → AA → Prop} (hP : Dn n P (fun Q => wM_M_workOn Q T B) B) : wX_T_serve P S A 16 := by
  obtain ⟨hF, ⟨c1, c2, c3, c4, c5, c6, c7, c8, c9, c10, c11, c12, c13, c14, c15, c16, c17⟩, ⟨i1, i2⟩, hD, ⟨q1, q2, q3⟩, a1, hR⟩ := hW.step
  unfold wX_T_serve
  refine br_t rfl (?_)
  refine hX_atY 1 e7 hL hl ?_
  unfold wX_T_changeSession wX_Lk_close wX_Dl_end
  refine hX_atY 1 e7 hL hl ?_
  refine hX_done 1 e11 (by decide) ?_
  refine hP.1 0 _ _ (va_up (va_up (va_up (va_up (va_up (va_up T 3 (B 1 1)) 4 0) 8 0) 12 (-1)) 20 (nI 1)) 20 (nI 2)) (va_up (va_up B 2 (upd (B 2) 0 80)) 2 (upd (upd (B 2) 0 80) 1 (B 1 1))) (fun Q hQ => ?_) ⟨hF, ⟨c1, c2, ?_, h12, rfl, Or.inl rfl, c7, c8, c9, c10, c11, rfl, ⟨0, by decide, rfl⟩, c14, c15, c16, c17⟩, ⟨i1, i2⟩, Or.inl ⟨rfl, rfl⟩, ⟨q1, q2, q3⟩, a1, hR⟩ rfl (Or.inl ⟨rfl, 2, Or.inl (by decide), rfl, rfl, ?_⟩)
  · unfold wM_M_workOn
    rw [cl_0, hs]
    refine ⟨vl_0 (by decide) (by decide), br_t rfl (⟨vl_1 (by decide) (by decide), ?_⟩)⟩
    rw [cl_1]
    unfold wM_M_changeSession
    refine hM_add 0 e20 (by decide) ⟨vl_1 (by decide) (by decide), ?_⟩
    refine hM_add 1 rfl (by decide) ?_
    exact hQ
  · show A 1 1 = B 1 1
    rw [q1]
  · show ∀ i, i < 2 → upd (A 3) 1 (A 1 1) i = upd (upd (B 2) 0 80) 1 (B 1 1) i
    rw [q1]
    exact wa_s (wa_1 hA0) (B 1 1)
theorem sv_17 {n L : Nat} {S : SS} {A : AA} {T : SS} {B : AA} (hW : Wk n S A T B) (e7 : S 7 = nI L) (hL : L ≤ 34) (e11 : S 11 = nI 1) (e20 : T 20 = nI 0) (hs : B 1 0 = 17) (hA0 : A 3 0 = 81) (hl : 1 < L) (h1 : B 1 1 = 1) {P : Int32 → SS → AA → Prop} (hP : Dn n P (fun Q => wM_M_workOn Q T B) B) : wX_T_serve P S A 17 := by
  obtain ⟨hF, ⟨c1, c2, c3, c4, c5, c6, c7, c8, c9, c10, c11, c12, c13, c14, c15, c16, c17⟩, ⟨i1, i2⟩, hD, ⟨q1, q2, q3⟩, a1, hR⟩ := hW.step
  unfold wX_T_serve
  refine br_f (by decide) (br_f (by decide) (br_f (by decide) (br_f (by decide) (br_f (by decide) (br_f (by decide) (br_f (by decide) (br_f (by decide) (?_))))))))
  refine hX_atY 1 e7 hL hl ?_
  refine hX_done 1 e11 (by decide) ?_
  refine hP.1 0 _ _ (va_up (va_up T 20 (nI 1)) 20 (nI 2)) (va_up (va_up B 2 (upd (B 2) 0 81)) 2 (upd (upd (B 2) 0 81) 1 1)) (fun Q hQ => ?_) ⟨hF, ⟨c1, c2, c3, c4, c5, c6, c7, c8, c9, c10, c11, c12, c13, c14, c15, c16, c17⟩, ⟨i1, i2⟩, hD, ⟨q1, q2, q3⟩, a1, hR⟩ rfl (Or.inl ⟨rfl, 2, Or.inl (by decide), rfl, rfl, ?_⟩)
  · unfold wM_M_workOn
    rw [cl_0, hs]
    refine ⟨vl_0 (by decide) (by decide), br_f (by decide) (br_t rfl (?_))⟩
    refine hM_add 0 e20 (by decide) ?_
    refine hM_add 1 rfl (by decide) ?_
    exact hQ
  · show ∀ i, i < 2 → upd (A 3) 1 (A 1 1) i = upd (upd (B 2) 0 81) 1 1 i
    rw [q1, h1]
    exact wa_s (wa_1 hA0) 1
theorem sv_62 {n L : Nat} {S : SS} {A : AA} {T : SS} {B : AA} (hW : Wk n S A T B) (e7 : S 7 = nI L) (hL : L ≤ 34) (e11 : S 11 = nI 1) (e20 : T 20 = nI 0) (hs : B 1 0 = 62) (hA0 : A 3 0 = 126) (hl : 1 < L) (h1 : B 1 1 = 0) {P : Int32 → SS → AA → Prop} (hP : Dn n P (fun Q => wM_M_workOn Q T B) B) : wX_T_serve P S A 62 := by
  obtain ⟨hF, ⟨c1, c2, c3, c4, c5, c6, c7, c8, c9, c10, c11, c12, c13, c14, c15, c16, c17⟩, ⟨i1, i2⟩, hD, ⟨q1, q2, q3⟩, a1, hR⟩ := hW.step
  unfold wX_T_serve
  refine br_f (by decide) (br_f (by decide) (br_f (by decide) (br_f (by decide) (br_f (by decide) (br_f (by decide) (br_f (by decide) (br_f (by decide) (?_))))))))
  refine hX_atY 1 e7 hL hl ?_
  refine hX_done 1 e11 (by decide) ?_
  refine hP.1 0 _ _ (va_up (va_up T 20 (nI 1)) 20 (nI 2)) (va_up (va_up B 2 (upd (B 2) 0 126)) 2 (upd (upd (B 2) 0 126) 1 0)) (fun Q hQ => ?_) ⟨hF, ⟨c1, c2, c3, c4, c5, c6, c7, c8, c9, c10, c11, c12, c13, c14, c15, c16, c17⟩, ⟨i1, i2⟩, hD, ⟨q1, q2, q3⟩, a1, hR⟩ rfl (Or.inl ⟨rfl, 2, Or.inl (by decide), rfl, rfl, ?_⟩)
  · unfold wM_M_workOn
    rw [cl_0, hs]
    refine ⟨vl_0 (by decide) (by decide), br_f (by decide) (br_f (by decide) (br_f (by decide) (br_f (by decide) (br_f (by decide) (br_f (by decide) (br_f (by decide) (br_f (by decide) (br_t rfl (?_)))))))))⟩
    refine hM_add 0 e20 (by decide) ?_
    refine hM_add 1 rfl (by decide) ?_
    exact hQ
  · show ∀ i, i < 2 → upd (A 3) 1 (A 1 1) i = upd (upd (B 2) 0 126) 1 0 i
    rw [q1, h1]
    exact wa_s (wa_1 hA0) 0
theorem sv_46 {n L : Nat} {S : SS} {A : AA} {T : SS} {B : AA} (hW : Wk n S A T B) (e7 : S 7 = nI L) (hL : L ≤ 34) (e11 : S 11 = nI 1) (e20 : T 20 = nI 0) (hs : B 1 0 = 46) (hA0 : A 3 0 = 110) (hl : 2 < L) (h1 : B 1 1 = 1) {P : Int32 → SS → AA → Prop} (hP : Dn n P (fun Q => wM_M_workOn Q T B) B) : wX_T_serve P S A 46 := by
  obtain ⟨hF, ⟨c1, c2, c3, c4, c5, c6, c7, c8, c9, c10, c11, c12, c13, c14, c15, c16, c17⟩, ⟨i1, i2⟩, hD, ⟨q1, q2, q3⟩, a1, hR⟩ := hW.step
  unfold wX_T_serve
  refine br_f (by decide) (br_f (by decide) (br_f (by decide) (br_t rfl (?_))))
  refine hX_atY 2 e7 hL hl ?_
  refine hX_done 1 e11 (by decide) ?_
  refine hP.1 0 _ _ (va_up (va_up (va_up T 6 (B 1 2)) 20 (nI 1)) 20 (nI 2)) (va_up (va_up B 2 (upd (B 2) 0 110)) 2 (upd (upd (B 2) 0 110) 1 1)) (fun Q hQ => ?_) ⟨hF, ⟨c1, c2, c3, c4, c5, c6, c7, c8, ?_, c10, c11, c12, c13, c14, c15, c16, c17⟩, ⟨i1, i2⟩, hD, ⟨q1, q2, q3⟩, a1, hR⟩ rfl (Or.inl ⟨rfl, 2, Or.inl (by decide), rfl, rfl, ?_⟩)
  · unfold wM_M_workOn
    rw [cl_0, hs]
    refine ⟨vl_0 (by decide) (by decide), br_f (by decide) (br_f (by decide) (br_f (by decide) (br_f (by decide) (br_t rfl (?_)))))⟩
    unfold wM_M_writeData
    rw [cl_1, cl_2, h1]
    refine ⟨vl_1 (by decide) (by decide), br_t rfl ⟨vl_2 (by decide) (by decide), ?_⟩⟩
    refine hM_add 0 e20 (by decide) ?_
    refine hM_add 1 rfl (by decide) ?_
    exact hQ
  · show A 1 2 = B 1 2
    rw [q1]
  · exact wa_s (wa_1 hA0) 1
theorem toc_X {post : Int32 → SS → AA → Prop} {S : SS} {A : AA} {T : SS} {n : Nat} (hD : RelD n S T) (h0 : S 23 = 0 → T 12 = -1 → post (-1) S A) (h1 : ∀ sz ca bl sl : Nat, S 23 = 1 → S 24 = nI sl → T 12 = nI sl → sl ≤ 1 → S 25 = nI sz → T 13 = nI sz → S 26 = nI ca → T 14 = nI ca → S 27 = nI bl → T 15 = nI bl → ca ≤ sz → sz ≤ 32 → bl ≤ n → post (nI (sz - ca)) S A) : wX_Dl_toCome post S A := by
  unfold wX_Dl_toCome
  rcases hD with ⟨d1, d2⟩ | ⟨d1, d2, d3, d4, d5, d6, sz, ca, bl, e1, e2, e3, g1, g2, g3⟩
  · exact br_t d1 (h0 d1 d2)
  · refine br_f (by rw [d1]; decide) ?_
    obtain ⟨sl, hsl, esl⟩ : ∃ sl : Nat, sl ≤ 1 ∧ T 12 = nI sl := by
      rcases d3 with d3 | d3
      · exact ⟨0, by decide, d3⟩
      · exact ⟨1, by decide, d3⟩
    have e4 : S 25 - S 26 = nI (sz - ca) := by rw [d4, d5, e1, e2]; exact pk_sub g1
    rw [e4]
    exact h1 sz ca bl sl d1 (d2.trans esl) esl hsl (d4.trans e1) e1 (d5.trans e2) e2 (d6.trans e3) e3 g1 g2 g3
theorem toc_M0 {post : Int32 → SS → AA → Prop} {T : SS} {B : AA} (h : T 12 = -1) (hp : post (-1) T B) : wM_M_toCome post T B := by
  unfold wM_M_toCome
  exact br_f (by rw [h]; decide) hp
theorem toc_M1 {post : Int32 → SS → AA → Prop} {T : SS} {B : AA} {sl sz ca : Nat} (h : T 12 = nI sl) (hs : sl ≤ 1) (e1 : T 13 = nI sz) (e2 : T 14 = nI ca) (hc : ca ≤ sz) (hp : post (nI (sz - ca)) T B) : wM_M_toCome post T B := by
  unfold wM_M_toCome
  rw [e1, e2, show nI sz - nI ca = nI (sz - ca) from pk_sub hc]
  exact br_t (by rw [h]; exact nI_pos' (by omega)) hp
theorem sv_55 {n L : Nat} {S : SS} {A : AA} {T : SS} {B : AA} (hW : Wk n S A T B) (e7 : S 7 = nI L) (hL : L ≤ 34) (e11 : S 11 = nI 1) (e20 : T 20 = nI 0) (hs : B 1 0 = 55) (hA0 : A 3 0 = 119) {P : Int32 → SS → AA → Prop} (hP : Dn n P (fun Q => wM_M_workOn Q T B) B) : wX_T_serve P S A 55 := by
  obtain ⟨hF, ⟨c1, c2, c3, c4, c5, c6, c7, c8, c9, c10, c11, c12, c13, c14, c15, c16, c17⟩, ⟨i1, i2⟩, hD, ⟨q1, q2, q3⟩, a1, hR⟩ := hW.step
  unfold wX_T_serve
  refine br_f (by decide) (br_f (by decide) (br_f (by decide) (br_f (by decide) (br_f (by decide) (br_f (by decide) (br_f (by decide) (br_t rfl (?_))))))))
  unfold wX_T_endDownload
  refine toc_X hD (fun d1 d2 => br_f (by decide) ?_) (fun sz ca bl sl d1 d2 d3 d4 d5 d6 d7 d8 d9 d10 g1 g2 g3 => ⟨fun z => ?_, fun z => ?_⟩)
  · refine hP.1 36 _ _ T B (fun Q hQ => ?_) hW.step rfl (Or.inr ⟨by show ¬ B 1 0 = 17; rw [hs]; decide, 36, by decide, by decide, rfl⟩)
    unfold wM_M_workOn
    rw [cl_0, hs]
    refine ⟨vl_0 (by decide) (by decide), br_f (by decide) (br_f (by decide) (br_f (by decide) (br_f (by decide) (br_f (by decide) (br_f (by decide) (br_f (by decide) (br_f (by decide) (br_f (by decide) (?_)))))))))⟩
    unfold wM_M_leave
    exact toc_M0 d2 (br_f (by decide) hQ)
  · unfold wX_Dl_end
    refine hP.1 0 _ _ (va_up (va_up T 12 (-1)) 20 (nI 1)) (va_up B 2 (upd (B 2) 0 119)) (fun Q hQ => ?_) ⟨hF, ⟨c1, c2, c3, c4, c5, c6, c7, c8, c9, c10, c11, c12, c13, c14, c15, c16, c17⟩, ⟨i1, i2⟩, Or.inl ⟨rfl, rfl⟩, ⟨q1, q2, q3⟩, a1, hR⟩ rfl (Or.inl ⟨rfl, 1, Or.inl (by decide), e11, rfl, wa_1 hA0⟩)
    unfold wM_M_workOn
    rw [cl_0, hs]
    refine ⟨vl_0 (by decide) (by decide), br_f (by decide) (br_f (by decide) (br_f (by decide) (br_f (by decide) (br_f (by decide) (br_f (by decide) (br_f (by decide) (br_f (by decide) (br_f (by decide) (?_)))))))))⟩
    unfold wM_M_leave
    refine toc_M1 d3 d4 d6 d8 g1 (br_t z ?_)
    refine hM_add 0 e20 (by decide) ?_
    exact hQ
  · refine hP.1 36 _ _ T B (fun Q hQ => ?_) hW.step rfl (Or.inr ⟨by show ¬ B 1 0 = 17; rw [hs]; decide, 36, by decide, by decide, rfl⟩)
    unfold wM_M_workOn
    rw [cl_0, hs]
    refine ⟨vl_0 (by decide) (by decide), br_f (by decide) (br_f (by decide) (br_f (by decide) (br_f (by decide) (br_f (by decide) (br_f (by decide) (br_f (by decide) (br_f (by decide) (br_f (by decide) (?_)))))))))⟩
    unfold wM_M_leave
    exact toc_M1 d3 d4 d6 d8 g1 (br_f z hQ)
theorem sv_52 {n L : Nat} {S : SS} {A : AA} {T : SS} {B : AA} (hW : Wk n S A T B) (e7 : S 7 = nI L) (hL : L ≤ 34) (e11 : S 11 = nI 1) (e20 : T 20 = nI 0) (hs : B 1 0 = 52) (hA0 : A 3 0 = 116) (hl : 2 < L) (hr1 : ¬ (1 : Int32) < B 1 1) (hr2 : ¬ B 1 2 < (1 : Int32)) (hr3 : ¬ (32 : Int32) < B 1 2) {P : Int32 → SS → AA → Prop} (hP : Dn n P (fun Q => wM_M_workOn Q T B) B) : wX_T_serve P S A 52 := by
  obtain ⟨hF, ⟨c1, c2, c3, c4, c5, c6, c7, c8, c9, c10, c11, c12, c13, c14, c15, c16, c17⟩, ⟨i1, i2⟩, hD, ⟨q1, q2, q3⟩, a1, hR⟩ := hW.step
  obtain ⟨u, hu, eu⟩ := q2 1
  obtain ⟨v, hv, ev⟩ := q2 2
  have hu1 : u ≤ 1 := Nat.le_of_not_lt (fun q => hr1 (by rw [eu]; exact nI_lt (a := 1) q (by omega)))
  have hv2 : v ≤ 32 := Nat.le_of_not_lt (fun q => hr3 (by rw [ev]; exact nI_lt (a := 32) q (by omega)))
  unfold wX_T_serve
  refine br_f (by decide) (br_f (by decide) (br_f (by decide) (br_f (by decide) (br_f (by decide) (br_t rfl (?_))))))
  refine hX_atY 1 e7 hL (by omega) ?_
  refine hX_atY 2 e7 hL hl ?_
  unfold wX_T_beginDownload wX_Dl_begin
  rw [q1, c1]
  refine ⟨fun hne => ?_, fun he => ?_⟩
  · refine hX_done 1 e11 (by decide) ?_
    refine hP.1 0 _ _ (va_up (va_up (va_up (va_up (va_up (va_up (va_up T 12 (B 1 1)) 13 (B 1 2)) 14 0) 15 0) 5 (-1)) 20 (nI 1)) 20 (nI 2)) (va_up (va_up B 2 (upd (B 2) 0 116)) 2 (upd (upd (B 2) 0 116) 1 8)) (fun Q hQ => ?_) ⟨hF, ⟨c1, c2, c3, c4, c5, c6, rfl, Or.inl rfl, c9, c10, c11, c12, c13, c14, c15, c16, c17⟩, ⟨i1, i2⟩, Or.inr ⟨rfl, rfl, ?_, rfl, rfl, rfl, v, 0, 0, ev, rfl, rfl, Nat.zero_le _, hv2, Nat.zero_le _⟩, ⟨q1, q2, q3⟩, a1, hR⟩ rfl (Or.inl ⟨rfl, 2, Or.inl (by decide), rfl, rfl, wa_s (wa_1 hA0) 8⟩)
    · unfold wM_M_workOn
      rw [cl_0, hs]
      refine ⟨vl_0 (by decide) (by decide), br_f (by decide) (br_f (by decide) (br_f (by decide) (br_f (by decide) (br_f (by decide) (br_f (by decide) (br_t rfl (?_)))))))⟩
      unfold wM_M_download
      rw [cl_1, cl_2]
      refine ⟨vl_1 (by decide) (by decide), vl_2 (by decide) (by decide), br_f hr1 (br_f hr2 (br_t (Int32.not_lt.mp hr3) (bn_f hne ?_)))⟩
      refine hM_add 0 e20 (by decide) ?_
      refine hM_add 1 rfl (by decide) ?_
      exact hQ
    · show B 1 1 = 0 ∨ B 1 1 = 1
      rw [eu]
      have : u = 0 ∨ u = 1 := by omega
      rcases this with q | q
      · exact Or.inl (by rw [q]; rfl)
      · exact Or.inr (by rw [q]; rfl)
  · refine hP.1 34 _ _ T B (fun Q hQ => ?_) hW.step rfl (Or.inr ⟨by show ¬ B 1 0 = 17; rw [hs]; decide, 34, by decide, by decide, rfl⟩)
    unfold wM_M_workOn
    rw [cl_0, hs]
    refine ⟨vl_0 (by decide) (by decide), br_f (by decide) (br_f (by decide) (br_f (by decide) (br_f (by decide) (br_f (by decide) (br_f (by decide) (br_t rfl (?_)))))))⟩
    unfold wM_M_download
    rw [cl_1, cl_2]
    exact ⟨vl_1 (by decide) (by decide), vl_2 (by decide) (by decide), br_f hr1 (br_f hr2 (br_t (Int32.not_lt.mp hr3) (bn_t he hQ)))⟩
theorem hM_rd66 {post : Int32 → SS → AA → Prop} {T : SS} {B : AA} {x1 : Int32} (h : ¬ x1 = 2) (hp : post 0 T B) : wM_M_readData_66 post T B x1 := by
  unfold wM_M_readData_66 wM_M_readData_68
  intro X hX
  apply hX
  unfold wM_M_readData_68B
  exact br_f (by decide) (bn_f h hp)
theorem hX_rd {post : Int32 → SS → AA → Prop} {S : SS} {A : AA} {st : Nat} (hst : st + 8 ≤ 96) (e11 : S 11 = nI 2) (hp : post 0 (va_up S 11 (nI 10)) (va_up A 3 (lay (A 3) 2 8 (fun j => A 0 (st + j))))) : wX_T_read_61 post S A (nI st) 0 := by
  unfold wX_T_read_61
  intro X hX
  have key : ∀ m k : Nat, k + m = 8 → X (va_up S 11 (nI (2 + k))) (va_up A 3 (lay (A 3) 2 k (fun j => A 0 (st + j)))) (nI st) (nI k) := by
    intro m
    induction m with
    | zero =>
      intro k hk
      have hk : k = 8 := by omega
      subst hk
      apply hX
      unfold wX_T_read_61B
      exact ⟨fun _ => hp, fun q => absurd (show (8 : Int32) ≤ nI 8 from Int32.le_refl _) q⟩
    | succ m ih =>
      intro k hk
      apply hX
      unfold wX_T_read_61B
      refine ⟨fun q => absurd q (nI_ge (b := 8) (by omega) (by decide)), fun _ => ?_⟩
      rw [nI_add]
      refine hX_byteAt (n := st + k) (by omega) ?_
      refine hX_sadd (2 + k) rfl (by omega) ?_
      have h2 := ih (k + 1) (by omega)
      rw [← lay_s] at h2
      rw [pz_inc, pz_upup, pz_upup]
      exact h2
  have h2 := key 8 0 rfl
  rw [lay_0, pz_up, show nI (2 + 0) = S 11 from e11.symm, pz_up] at h2
  exact h2
theorem hM_rd {post : Int32 → SS → AA → Prop} {T : SS} {B : AA} {r0 : Nat} (hr : r0 ≤ 1) (e2 : T 2 = nI r0) (e20 : T 20 = nI 2) (hp : post 0 (va_up T 20 (nI 10)) (va_up B 2 (lay (B 2) 2 8 (fun j => B 0 (48 * r0 + j))))) : wM_M_readData_66 post T B 2 := by
  unfold wM_M_readData_66 wM_M_readData_68
  intro X hX
  have key : ∀ m k : Nat, k + m = 8 → X (va_up T 20 (nI (2 + k))) (va_up B 2 (lay (B 2) 2 k (fun j => B 0 (48 * r0 + j)))) 2 (nI k) := by
    intro m
    induction m with
    | zero =>
      intro k hk
      have hk : k = 8 := by omega
      subst hk
      apply hX
      unfold wM_M_readData_68B
      exact ⟨fun _ => hp, fun q => absurd (show (8 : Int32) ≤ nI 8 from Int32.le_refl _) q⟩
    | succ m ih =>
      intro k hk
      apply hX
      unfold wM_M_readData_68B
      have e2' : (va_up T 20 (nI (2 + k))) 2 = nI r0 := e2
      have e0' : (va_up B 2 (lay (B 2) 2 k (fun j => B 0 (48 * r0 + j)))) 0 = B 0 := rfl
      rw [e2', e0', show (48 : Int32) * nI r0 = nI (48 * r0) from pk_mul 48 r0, nI_add, nI_clamp (n := 48 * r0 + k) (by omega)]
      refine ⟨fun q => absurd q (nI_ge (b := 8) (by omega) (by decide)), fun _ => bn_t rfl ⟨vp_in_nI (by omega) (by decide), ?_⟩⟩
      refine hM_add (2 + k) rfl (by omega) ?_
      have h2 := ih (k + 1) (by omega)
      rw [← lay_s] at h2
      rw [pz_inc, pz_upup, pz_upup]
      exact h2
  have h2 := key 8 0 rfl
  rw [lay_0, pz_up, show nI (2 + 0) = T 20 from e20.symm, pz_up] at h2
  exact h2
theorem sv_34 {n L : Nat} {S : SS} {A : AA} {T : SS} {B : AA} (hW : Wk n S A T B) (e7 : S 7 = nI L) (hL : L ≤ 34) (e11 : S 11 = nI 1) (e20 : T 20 = nI 0) (hs : B 1 0 = 34) (hA0 : A 3 0 = 98) (hl : 1 < L) (hr : ¬ (2 : Int32) < B 1 1) {P : Int32 → SS → AA → Prop} (hP : Dn n P (fun Q => wM_M_workOn Q T B) B) : wX_T_serve P S A 34 := by
  obtain ⟨hF, ⟨c1, c2, c3, c4, c5, c6, c7, c8, c9, c10, c11, c12, c13, c14, c15, c16, c17⟩, ⟨i1, i2⟩, hD, ⟨q1, q2, q3⟩, a1, hR⟩ := hW.step
  obtain ⟨u, hu, eu⟩ := q2 1
  have hu2 : u ≤ 2 := Nat.le_of_not_lt (fun q => hr (by rw [eu]; exact nI_lt (a := 2) q (by omega)))
  have hle : B 1 1 ≤ (2 : Int32) := Int32.not_lt.mp hr
  have ex1 : A 1 1 = B 1 1 := by rw [q1]
  unfold wX_T_serve
  refine br_f (by decide) (br_t rfl (?_))
  refine hX_atY 1 e7 hL hl ?_
  unfold wX_T_read
  rw [ex1, c1]
  have hneg : T 2 = -1 → ¬ B 1 1 = 1 → P 34 S A := by
    intro h2 h1
    refine hP.1 34 _ _ T B (fun Q hQ => ?_) hW.step rfl (Or.inr ⟨by show ¬ B 1 0 = 17; rw [hs]; decide, 34, by decide, by decide, rfl⟩)
    unfold wM_M_workOn
    rw [cl_0, hs]
    refine ⟨vl_0 (by decide) (by decide), br_f (by decide) (br_f (by decide) (br_t rfl (?_)))⟩
    unfold wM_M_readData
    rw [cl_1]
    exact ⟨vl_1 (by decide) (by decide), br_t hle (br_f h1 (br_f (by rw [h2]; decide) hQ))⟩
  have hpos : (B 1 1 = 1 ∨ ¬ T 2 = -1) → wX_T_read_16 P S A (B 1 1) := by
    intro hc
    -- the reference's road to its answer
    have ref : ∀ Q : Int32 → SS → AA → Prop, wM_M_readData_30 Q T B (B 1 1) → wM_M_workOn Q T B := by
      intro Q hQ
      unfold wM_M_workOn
      rw [cl_0, hs]
      refine ⟨vl_0 (by decide) (by decide), br_f (by decide) (br_f (by decide) (br_t rfl (?_)))⟩
      unfold wM_M_readData
      rw [cl_1]
      refine ⟨vl_1 (by decide) (by decide), br_t hle ⟨fun _ => hQ, fun h1 => ⟨fun _ => hQ, fun h2 => ?_⟩⟩⟩
      exfalso
      rcases hc with hc | hc
      · exact h1 hc
      · rcases c2 with q | q | q
        · exact hc q
        · exact h2 (by rw [q]; exact Int32.le_refl _)
        · exact h2 (by rw [q]; decide)
    unfold wX_T_read_16
    refine hX_sadd 1 e11 (by decide) ?_
    have e3 : u = 0 ∨ u = 1 ∨ u = 2 := by omega
    rcases e3 with q | q | q
    · have ed : B 1 1 = 0 := by rw [eu, q]; rfl
      rw [ed] at ref ⊢
      refine bn_t rfl ?_
      refine hX_done 2 rfl (by decide) ?_
      refine hP.1 0 _ _ (va_up (va_up (va_up T 20 (nI 1)) 20 (nI 2)) 20 (nI 3)) (va_up (va_up (va_up B 2 (upd (B 2) 0 98)) 2 (upd (upd (B 2) 0 98) 1 0)) 2 (upd (upd (upd (B 2) 0 98) 1 0) 2 (T 2))) (fun Q hQ => ref Q ?_) ⟨hF, ⟨c1, c2, c3, c4, c5, c6, c7, c8, c9, c10, c11, c12, c13, c14, c15, c16, c17⟩, ⟨i1, i2⟩, hD, ⟨q1, q2, q3⟩, a1, hR⟩ rfl (Or.inl ⟨rfl, 3, Or.inl (by decide), rfl, rfl, ?_⟩)
      · unfold wM_M_readData_30 wM_M_readData_53
        refine hM_add 0 e20 (by decide) ?_
        refine hM_add 1 rfl (by decide) ?_
        refine bn_t rfl ?_
        refine hM_add 2 rfl (by decide) ?_
        refine bn_f (by decide) ?_
        exact hM_rd66 (by decide) hQ
      · show ∀ i, i < 3 → upd (upd (A 3) 1 0) 2 (S 0) i = upd (upd (upd (B 2) 0 98) 1 0) 2 (T 2) i
        rw [c1]
        exact wa_s (wa_s (wa_1 hA0) 0) (T 2)
    · have ed : B 1 1 = 1 := by rw [eu, q]; rfl
      rw [ed] at ref ⊢
      refine bn_f (by decide) (bn_t rfl ?_)
      refine hX_done 2 rfl (by decide) ?_
      refine hP.1 0 _ _ (va_up (va_up (va_up T 20 (nI 1)) 20 (nI 2)) 20 (nI 3)) (va_up (va_up (va_up B 2 (upd (B 2) 0 98)) 2 (upd (upd (B 2) 0 98) 1 1)) 2 (upd (upd (upd (B 2) 0 98) 1 1) 2 (T 6))) (fun Q hQ => ref Q ?_) ⟨hF, ⟨c1, c2, c3, c4, c5, c6, c7, c8, c9, c10, c11, c12, c13, c14, c15, c16, c17⟩, ⟨i1, i2⟩, hD, ⟨q1, q2, q3⟩, a1, hR⟩ rfl (Or.inl ⟨rfl, 3, Or.inl (by decide), rfl, rfl, ?_⟩)
      · unfold wM_M_readData_30 wM_M_readData_53
        refine hM_add 0 e20 (by decide) ?_
        refine hM_add 1 rfl (by decide) ?_
        refine bn_f (by decide) (bn_t rfl ?_)
        refine hM_add 2 rfl (by decide) ?_
        exact hM_rd66 (by decide) hQ
      · show ∀ i, i < 3 → upd (upd (A 3) 1 1) 2 (S 3) i = upd (upd (upd (B 2) 0 98) 1 1) 2 (T 6) i
        rw [c9]
        exact wa_s (wa_s (wa_1 hA0) 1) (T 6)
    · have ed : B 1 1 = 2 := by rw [eu, q]; rfl
      rw [ed] at ref hc ⊢
      obtain ⟨r0, hr0, er⟩ : ∃ r0 : Nat, r0 ≤ 1 ∧ T 2 = nI r0 := by
        rcases c2 with q | q | q
        · rcases hc with hc | hc
          · exact absurd hc (by decide)
          · exact absurd q hc
        · exact ⟨0, by decide, q⟩
        · exact ⟨1, by decide, q⟩
      refine bn_f (by decide) (bn_f (by decide) ?_)
      unfold wX_Mm_imageOf
      have est : S 0 * (48 : Int32) = nI (48 * r0) := by
        rw [c1, er, show nI r0 * (48 : Int32) = nI (r0 * 48) from pk_mul r0 48, Nat.mul_comm]
      show wX_T_read_61 P (va_up S 11 (nI (1 + 1))) (va_up A 3 (upd (A 3) 1 2)) (S 0 * (48 : Int32)) 0
      rw [est]
      refine hX_rd (st := 48 * r0) (by omega) rfl ?_
      refine hP.1 0 _ _ (va_up (va_up (va_up T 20 (nI 1)) 20 (nI 2)) 20 (nI 10)) (va_up (va_up (va_up B 2 (upd (B 2) 0 98)) 2 (upd (upd (B 2) 0 98) 1 2)) 2 (lay (upd (upd (B 2) 0 98) 1 2) 2 8 (fun j => B 0 (48 * r0 + j)))) (fun Q hQ => ref Q ?_) ⟨hF, ⟨c1, c2, c3, c4, c5, c6, c7, c8, c9, c10, c11, c12, c13, c14, c15, c16, c17⟩, ⟨i1, i2⟩, hD, ⟨q1, q2, q3⟩, a1, hR⟩ rfl (Or.inl ⟨rfl, 10, Or.inr rfl, rfl, rfl, ?_⟩)
      · unfold wM_M_readData_30 wM_M_readData_53
        refine hM_add 0 e20 (by decide) ?_
        refine hM_add 1 rfl (by decide) ?_
        refine bn_f (by decide) (bn_f (by decide) ?_)
        exact hM_rd (r0 := r0) hr0 er rfl hQ
      · show ∀ i, i < 10 → lay (upd (A 3) 1 2) 2 8 (fun j => A 0 (48 * r0 + j)) i = lay (upd (upd (B 2) 0 98) 1 2) 2 8 (fun j => B 0 (48 * r0 + j)) i
        intro i hi
        by_cases h2 : i < 2
        · rw [lay_out (by omega), lay_out (by omega)]
          exact wa_s (wa_1 hA0) 2 i h2
        · obtain ⟨j, rfl⟩ : ∃ j, i = 2 + j := ⟨i - 2, by omega⟩
          rw [lay_in (by omega), lay_in (by omega), hF.1]
  exact ⟨fun h => hpos (Or.inl h), fun h => ⟨fun h2 => hpos (Or.inr h2), fun h2 => hneg h2 h⟩⟩
