theorem sv_39 {n L : Nat} {S : SS} {A : AA} {T : SS} {B : AA} (hW : Wk n S A T B) (e7 : S 7 = nI L) (hL : L ≤ 34) (e11 : S 11 = nI 1) (e20 : T 20 = nI 0) (hs : B 1 0 = 39) (hA0 : A 3 0 = 103) (hn : n < 2 ^ 20) (hl : 2 ≤ L) (h12 : B 1 1 = 1 ∨ B 1 1 = 2) (h3 : B 1 1 = 2 → L = 3) {P : Int32 → SS → AA → Prop} (hP : Dn n P (fun Q => wM_M_workOn Q T B) B) : wX_T_serve P S A 39 := by
  obtain ⟨hF, ⟨c1, c2, c3, c4, c5, c6, c7, c8, c9, c10, c11, c12, c13, c14, c15, c16, c17⟩, ⟨i1, i2⟩, hD, ⟨q1, q2, q3⟩, a1, hR⟩ := hW.step
  obtain ⟨g, hg, eg⟩ : ∃ g : Nat, g ≤ n ∧ T 7 = nI g := hW.2.1.2.2.2.2.2.2.2.2.2.2.1
  obtain ⟨b, hb, eb⟩ := c13
  have ex1 : A 1 1 = B 1 1 := by rw [q1]
  have ex2 : A 1 2 = B 1 2 := by rw [q1]
  unfold wX_T_serve
  refine br_f (by decide) (br_f (by decide) (br_t rfl (?_)))
  refine hX_atY 1 e7 hL (by omega) ?_
  rw [ex1]
  rcases h12 with h1 | h2
  · refine bn_t h1 ?_
    have ref : ∀ Q : Int32 → SS → AA → Prop, ((T 10 = 0 → ((¬ T 4 = 0 → (wM_M_seeds_65 Q (va_up T 8 0) B)) ∧ (T 4 = 0 → (wM_M_seeds_65 Q (va_up (va_up (va_up T 8 0) 8 (((17 : Int32) + ((73 : Int32) * T 7)) - ((17 : Int32) + ((73 : Int32) * T 7)) / (256 : Int32) * (256 : Int32))) 7 (T 7 + 1)) B)))) ∧ (¬ T 10 = 0 → (Q 55 (va_up T 8 0) B))) → wM_M_workOn Q T B := by
      intro Q hQ
      unfold wM_M_workOn
      rw [cl_0, hs]
      refine ⟨vl_0 (by decide) (by decide), br_f (by decide) (br_f (by decide) (br_f (by decide) (br_t rfl (?_))))⟩
      unfold wM_M_seeds
      rw [cl_1, cl_2]
      exact ⟨vl_1 (by decide) (by decide), bn_t h1 hQ⟩
    unfold wX_T_giveSeed wX_Lk_takeOpenSeed
    refine ⟨fun d0 => ?_, fun d0 => ?_⟩
    · have d0 : T 10 = 0 := c16.symm.trans d0
      refine hX_sadd 1 e11 (by decide) ?_
      unfold wX_T_giveSeed_51 wX_Lk_nextSeed
      refine ⟨fun u0 => ?_, fun u0 => ?_⟩
      · have u0 : T 4 = 0 := c5.symm.trans u0
        have es : ((17 : Int32) + ((73 : Int32) * S 20)) &&& (255 : Int32) = nI ((17 + 73 * g) % 256) := by
          rw [c10, eg, show (73 : Int32) * nI g = nI (73 * g) from pk_mul 73 g, show (17 : Int32) + nI (73 * g) = nI (17 + 73 * g) from nI_add 17 _]
          exact pk_andN (by omega) 8 (by decide +kernel)
        have et : ((17 : Int32) + ((73 : Int32) * T 7)) - ((17 : Int32) + ((73 : Int32) * T 7)) / (256 : Int32) * (256 : Int32) = nI ((17 + 73 * g) % 256) := by
          rw [eg, show (73 : Int32) * nI g = nI (73 * g) from pk_mul 73 g, show (17 : Int32) + nI (73 * g) = nI (17 + 73 * g) from nI_add 17 _]
          exact pk_rem (d := 256) (by omega) (by decide) (by decide)
        rw [et] at ref
        refine hX_done 2 rfl (by decide) ?_
        refine hP.1 0 _ _ (va_up (va_up (va_up (va_up (va_up (va_up T 8 0) 8 (nI ((17 + 73 * g) % 256))) 7 (T 7 + 1)) 20 (nI 1)) 20 (nI 2)) 20 (nI 3)) (va_up (va_up (va_up B 2 (upd (B 2) 0 103)) 2 (upd (upd (B 2) 0 103) 1 1)) 2 (upd (upd (upd (B 2) 0 103) 1 1) 2 (nI ((17 + 73 * g) % 256)))) (fun Q hQ => ref Q ?_) ⟨hF, ⟨c1, c2, c3, c4, c5, c6, c7, c8, c9, ?_, ⟨g + 1, by omega, ?_⟩, es, ⟨(17 + 73 * g) % 256, Nat.mod_lt _ (by decide), rfl⟩, c14, c15, c16, c17⟩, ⟨i1, i2⟩, hD, ⟨q1, q2, q3⟩, a1, hR⟩ rfl (Or.inl ⟨rfl, 3, Or.inl (by decide), rfl, rfl, ?_⟩)
        · refine br_t d0 (bn_t u0 ?_)
          unfold wM_M_seeds_65
          refine hM_add 0 e20 (by decide) ?_
          refine hM_add 1 rfl (by decide) ?_
          refine hM_add 2 rfl (by decide) ?_
          exact hQ
        · show S 20 + 1 = T 7 + 1
          rw [c10]
        · show T 7 + 1 = nI (g + 1)
          rw [eg]
          exact pz_inc g
        · show ∀ i, i < 3 → upd (upd (A 3) 1 1) 2 (((17 : Int32) + ((73 : Int32) * S 20)) &&& (255 : Int32)) i = upd (upd (upd (B 2) 0 103) 1 1) 2 (nI ((17 + 73 * g) % 256)) i
          rw [es]
          exact wa_s (wa_s (wa_1 hA0) 1) _
      · have u0 : ¬ T 4 = 0 := fun q => u0 (c5.trans q)
        refine hX_done 2 rfl (by decide) ?_
        refine hP.1 0 _ _ (va_up (va_up (va_up (va_up T 8 0) 20 (nI 1)) 20 (nI 2)) 20 (nI 3)) (va_up (va_up (va_up B 2 (upd (B 2) 0 103)) 2 (upd (upd (B 2) 0 103) 1 1)) 2 (upd (upd (upd (B 2) 0 103) 1 1) 2 0)) (fun Q hQ => ref Q ?_) ⟨hF, ⟨c1, c2, c3, c4, c5, c6, c7, c8, c9, c10, c11, rfl, ⟨0, by decide, rfl⟩, c14, c15, c16, c17⟩, ⟨i1, i2⟩, hD, ⟨q1, q2, q3⟩, a1, hR⟩ rfl (Or.inl ⟨rfl, 3, Or.inl (by decide), rfl, rfl, wa_s (wa_s (wa_1 hA0) 1) 0⟩)
        refine br_t d0 (bn_f u0 ?_)
        unfold wM_M_seeds_65
        refine hM_add 0 e20 (by decide) ?_
        refine hM_add 1 rfl (by decide) ?_
        refine hM_add 2 rfl (by decide) ?_
        exact hQ
    · have d0 : ¬ T 10 = 0 := fun q => d0 (c16.trans q)
      exact hP.1 55 _ _ (va_up T 8 0) B (fun Q hQ => ref Q (br_f d0 hQ)) ⟨hF, ⟨c1, c2, c3, c4, c5, c6, c7, c8, c9, c10, c11, rfl, ⟨0, by decide, rfl⟩, c14, c15, c16, c17⟩, ⟨i1, i2⟩, hD, ⟨q1, q2, q3⟩, a1, hR⟩ rfl (Or.inr ⟨by show ¬ B 1 0 = 17; rw [hs]; decide, 55, by decide, by decide, rfl⟩)
  · refine bn_f (by rw [h2]; decide) ?_
    refine hX_atY 2 e7 hL (by rw [h3 h2]; decide) ?_
    rw [ex2]
    have ex : (((5 : Int32) * T 8) + (3 : Int32)) &&& (255 : Int32) = nI ((5 * b + 3) % 256) := by
      rw [eb, show (5 : Int32) * nI b = nI (5 * b) from pk_mul 5 b, show nI (5 * b) + (3 : Int32) = nI (5 * b + 3) from nI_add _ 3]
      exact pk_andN (by omega) 8 (by decide +kernel)
    have em : (((5 : Int32) * T 8) + (3 : Int32)) - (((5 : Int32) * T 8) + (3 : Int32)) / (256 : Int32) * (256 : Int32) = nI ((5 * b + 3) % 256) := by
      rw [eb, show (5 : Int32) * nI b = nI (5 * b) from pk_mul 5 b, show nI (5 * b) + (3 : Int32) = nI (5 * b + 3) from nI_add _ 3]
      exact pk_rem (d := 256) (by omega) (by decide) (by decide)
    have ref : ∀ Q : Int32 → SS → AA → Prop, ((¬ T 8 = 0 → (vp_in (2 : Int32) 34 ∧ ((¬ B 1 2 = nI ((5 * b + 3) % 256) → ((¬ ((1 : Int32) - T 9) = (1 : Int32) → (Q (54 : Int32) (va_up (va_up (va_up T 8 (0 : Int32)) 9 ((1 : Int32) - T 9)) 10 (8 : Int32)) B)) ∧ (((1 : Int32) - T 9) = (1 : Int32) → (Q (53 : Int32) (va_up (va_up T 8 (0 : Int32)) 9 ((1 : Int32) - T 9)) B)))) ∧ (B 1 2 = nI ((5 * b + 3) % 256) → (wM_M_add (fun S124 A124 => (wM_M_add (fun S129 A129 => (Q (0 : Int32) S129 A129)) S124 A124 (2 : Int32))) (va_up (va_up (va_up T 8 (0 : Int32)) 4 (1 : Int32)) 9 (0 : Int32)) B (103 : Int32)))))) ∧ (T 8 = 0 → (Q (36 : Int32) (va_up T 8 (0 : Int32)) B))) → wM_M_workOn Q T B := by
      intro Q hQ
      unfold wM_M_workOn
      rw [cl_0, hs]
      refine ⟨vl_0 (by decide) (by decide), br_f (by decide) (br_f (by decide) (br_f (by decide) (br_t rfl (?_))))⟩
      unfold wM_M_seeds
      rw [cl_1, cl_2, em]
      exact ⟨vl_1 (by decide) (by decide), bn_f (by rw [h2]; decide) hQ⟩
    unfold wX_T_tryKey wX_Lk_takeOpenSeed
    rw [c12]
    refine ⟨fun n8 => ⟨fun nk => ?_, fun yk => ?_⟩, fun y8 => ?_⟩
    · rw [ex] at nk
      unfold wX_Lk_countWrongKey
      have e21 : (va_up S 19 0) 21 = T 9 := c14
      rw [e21]
      rcases c15 with z | z
      · refine br_f (by rw [z]; decide) (br_t rfl ?_)
        exact hP.1 53 _ _ (va_up (va_up T 8 0) 9 ((1 : Int32) - T 9)) B (fun Q hQ => ref Q (bn_f n8 ⟨vl_2 (by decide) (by decide), bn_f nk (bn_t (by rw [z]; decide) hQ)⟩)) ⟨hF, ⟨c1, c2, c3, c4, c5, c6, c7, c8, c9, c10, c11, rfl, ⟨0, by decide, rfl⟩, (by show T 9 + 1 = (1 : Int32) - T 9; rw [z]; decide), (by show tl_z ((1 : Int32) - T 9); rw [z]; exact Or.inr (by decide)), c16, c17⟩, ⟨i1, i2⟩, hD, ⟨q1, q2, q3⟩, a1, hR⟩ rfl (Or.inr ⟨by show ¬ B 1 0 = 17; rw [hs]; decide, 53, by decide, by decide, rfl⟩)
      · refine br_t (by rw [z]; decide) (br_f (by decide) ?_)
        exact hP.1 54 _ _ (va_up (va_up (va_up T 8 0) 9 ((1 : Int32) - T 9)) 10 8) B (fun Q hQ => ref Q (bn_f n8 ⟨vl_2 (by decide) (by decide), bn_f nk (bn_f (by rw [z]; decide) hQ)⟩)) ⟨hF, ⟨c1, c2, c3, c4, c5, c6, c7, c8, c9, c10, c11, rfl, ⟨0, by decide, rfl⟩, (by show (0 : Int32) = (1 : Int32) - T 9; rw [z]; decide), (by show tl_z ((1 : Int32) - T 9); rw [z]; exact Or.inl (by decide)), rfl, ⟨8, by decide, rfl⟩⟩, ⟨i1, i2⟩, hD, ⟨q1, q2, q3⟩, a1, hR⟩ rfl (Or.inr ⟨by show ¬ B 1 0 = 17; rw [hs]; decide, 54, by decide, by decide, rfl⟩)
    · rw [ex] at yk
      unfold wX_Lk_open
      refine hX_done 1 e11 (by decide) ?_
      refine hP.1 0 _ _ (va_up (va_up (va_up (va_up (va_up T 8 0) 4 1) 9 0) 20 (nI 1)) 20 (nI 2)) (va_up (va_up B 2 (upd (B 2) 0 103)) 2 (upd (upd (B 2) 0 103) 1 2)) (fun Q hQ => ref Q (bn_f n8 ⟨vl_2 (by decide) (by decide), bn_t yk ?_⟩)) ⟨hF, ⟨c1, c2, c3, c4, rfl, Or.inr rfl, c7, c8, c9, c10, c11, rfl, ⟨0, by decide, rfl⟩, rfl, Or.inl rfl, c16, c17⟩, ⟨i1, i2⟩, hD, ⟨q1, q2, q3⟩, a1, hR⟩ rfl (Or.inl ⟨rfl, 2, Or.inl (by decide), rfl, rfl, wa_s (wa_1 hA0) 2⟩)
      refine hM_add 0 e20 (by decide) ?_
      refine hM_add 1 rfl (by decide) ?_
      exact hQ
    · exact hP.1 36 _ _ (va_up T 8 0) B (fun Q hQ => ref Q (bn_t y8 hQ)) ⟨hF, ⟨c1, c2, c3, c4, c5, c6, c7, c8, c9, c10, c11, rfl, ⟨0, by decide, rfl⟩, c14, c15, c16, c17⟩, ⟨i1, i2⟩, hD, ⟨q1, q2, q3⟩, a1, hR⟩ rfl (Or.inr ⟨by show ¬ B 1 0 = 17; rw [hs]; decide, 36, by decide, by decide, rfl⟩)
theorem sv_54 {n L : Nat} {S : SS} {A : AA} {T : SS} {B : AA} (hW : Wk n S A T B) (e7 : S 7 = nI L) (hL : L ≤ 34) (e11 : S 11 = nI 1) (e20 : T 20 = nI 0) (hs : B 1 0 = 54) (hA0 : A 3 0 = 118) (hn : n < 2 ^ 20) (e17 : T 17 = nI L) (hl : 3 ≤ L ∧ L ≤ 10) {P : Int32 → SS → AA → Prop} (hP : Dn n P (fun Q => wM_M_workOn Q T B) B) : wX_T_serve P S A 54 := by
  obtain ⟨hF, ⟨c1, c2, c3, c4, c5, c6, c7, c8, c9, c10, c11, c12, c13, c14, c15, c16, c17⟩, ⟨i1, i2⟩, hD, ⟨q1, q2, q3⟩, a1, hR⟩ := hW.step
  have hD0 := hW.2.2.2.1
  obtain ⟨f1, f2, f3, f4, f5⟩ := hF
  have ex1 : A 1 1 = B 1 1 := by rw [q1]
  have esz : S 7 - (2 : Int32) = nI (L - 2) := by rw [e7]; exact pk_sub (b := 2) (by omega)
  have etz : T 17 - (2 : Int32) = nI (L - 2) := by rw [e17]; exact pk_sub (b := 2) (by omega)
  -- the reference's road into the block
  have ref : ∀ Q : Int32 → SS → AA → Prop, wM_M_toCome (fun r15 S15 A15 => ((0 < r15 → (((S15 15) ≤ 0 → (wM_M_block_47 Q S15 A15 (B 1 1) (nI (L - 2)))) ∧ (¬ (S15 15) ≤ 0 → ((¬ B 1 1 = ((S15 15) - (S15 15) / (256 : Int32) * (256 : Int32)) → (wM_M_block_47 Q S15 A15 (B 1 1) (nI (L - 2)))) ∧ (B 1 1 = ((S15 15) - (S15 15) / (256 : Int32) * (256 : Int32)) → (wM_M_block_48 Q S15 A15 (B 1 1) (nI (L - 2)) (1 : Int32))))))) ∧ (¬ 0 < r15 → (Q (36 : Int32) S15 A15)))) T B → wM_M_workOn Q T B := by
    intro Q hQ
    unfold wM_M_workOn
    rw [cl_0, hs]
    refine ⟨vl_0 (by decide) (by decide), br_f (by decide) (br_f (by decide) (br_f (by decide) (br_f (by decide) (br_f (by decide) (br_f (by decide) (br_f (by decide) (br_t rfl (?_))))))))⟩
    unfold wM_M_block
    rw [cl_1, etz]
    exact ⟨vl_1 (by decide) (by decide), hQ⟩
  unfold wX_T_serve
  refine br_f (by decide) (br_f (by decide) (br_f (by decide) (br_f (by decide) (br_f (by decide) (br_f (by decide) (br_t rfl (?_)))))))
  refine hX_atY 1 e7 hL (by omega) ?_
  show wX_T_takeBlock (fun r224 S224 A224 => (P r224 S224 A224)) S A (A 1 1) (S 7 - (2 : Int32))
  rw [ex1, esz]
  unfold wX_T_takeBlock
  refine toc_X hD0 (fun d1 d2 => br_f (by decide) ?_) (fun sz ca bl sl d1 d2 d3 d4 d5 d6 d7 d8 d9 d10 g1 g2 g3 => ⟨fun z => ?_, fun z => ?_⟩)
  · exact hP.1 36 _ _ T B (fun Q hQ => ref Q (toc_M0 d2 (br_f (by decide) hQ))) hW.step rfl (Or.inr ⟨by show ¬ B 1 0 = 17; rw [hs]; decide, 36, by decide, by decide, rfl⟩)
  · have hz : 0 < sz - ca := (pz_lt (a := 0) (by decide) (by omega)).mp z
    have e255 : S 27 &&& (255 : Int32) = nI (bl % 256) := by rw [d9]; exact pk_andN (by omega) 8 (by decide +kernel)
    have m255 : T 15 - T 15 / (256 : Int32) * (256 : Int32) = nI (bl % 256) := by rw [d10]; exact pk_rem (d := 256) (by omega) (by decide) (by decide)
    have n255 : (S 27 + (1 : Int32)) &&& (255 : Int32) = nI ((bl + 1) % 256) := by rw [d9, pz_inc]; exact pk_andN (by omega) 8 (by decide +kernel)
    have k255 : (T 15 + (1 : Int32)) - (T 15 + (1 : Int32)) / (256 : Int32) * (256 : Int32) = nI ((bl + 1) % 256) := by rw [d10, pz_inc]; exact pk_rem (d := 256) (by omega) (by decide) (by decide)
    have refz : ∀ Q : Int32 → SS → AA → Prop, ((T 15 ≤ 0 → (wM_M_block_47 Q T B (B 1 1) (nI (L - 2)))) ∧ (¬ T 15 ≤ 0 → ((¬ B 1 1 = nI (bl % 256) → (wM_M_block_47 Q T B (B 1 1) (nI (L - 2)))) ∧ (B 1 1 = nI (bl % 256) → (wM_M_block_48 Q T B (B 1 1) (nI (L - 2)) (1 : Int32)))))) → wM_M_workOn Q T B := by
      intro Q hQ
      refine ref Q (toc_M1 d3 d4 d6 d8 g1 (br_t z ?_))
      rw [m255]
      exact hQ
    have hle : S 27 ≤ 0 ↔ T 15 ≤ 0 := by rw [d9, d10]
    -- the block that came latest, once more
    have again : B 1 1 = nI (bl % 256) → ¬ T 15 ≤ 0 → wX_T_doneWith (fun r26 S26 A26 => (P r26 S26 A26)) S A (B 1 1) := by
      intro he h0
      refine hX_done 1 e11 (by decide) ?_
      refine hP.1 0 _ _ (va_up (va_up T 20 (nI 1)) 20 (nI 2)) (va_up (va_up B 2 (upd (B 2) 0 118)) 2 (upd (upd (B 2) 0 118) 1 (B 1 1))) (fun Q hQ => refz Q (br_f h0 (bn_t he ?_))) ⟨⟨f1, f2, f3, f4, f5⟩, ⟨c1, c2, c3, c4, c5, c6, c7, c8, c9, c10, c11, c12, c13, c14, c15, c16, c17⟩, ⟨i1, i2⟩, hD, ⟨q1, q2, q3⟩, a1, hR⟩ rfl (Or.inl ⟨rfl, 2, Or.inl (by decide), rfl, rfl, wa_s (wa_1 hA0) (B 1 1)⟩)
      unfold wM_M_block_48 wM_M_block_210
      refine bn_f (by decide) ?_
      refine hM_add 0 e20 (by decide) ?_
      refine hM_add 1 rfl (by decide) ?_
      exact hQ
    -- any other block
    have other : (∀ Q : Int32 → SS → AA → Prop, wM_M_block_47 Q T B (B 1 1) (nI (L - 2)) → wM_M_workOn Q T B) → wX_Dl_isNext (fun r35 S35 A35 => ((¬ r35 = 0 → (wX_Dl_toCome (fun r49 S49 A49 => ((nI (L - 2) ≤ r49 → (wX_Mm_imageOf (fun r65 S65 A65 => (wX_Dl_addBlock (fun S82 A82 => (wX_Mm_write_4 (fun r99 S99 A99 => ((¬ r99 = 0 → (wX_Mm_holds_4 (fun r121 S121 A121 => ((r121 = 0 → (P (114 : Int32) S121 A121)) ∧ (¬ r121 = 0 → (wX_T_doneWith (fun r129 S129 A129 => (P r129 S129 A129)) S121 A121 (B 1 1))))) S99 A99 (r65 + (S65 26)) (2 : Int32) (nI (L - 2)))) ∧ (r99 = 0 → (P (-1 : Int32) S99 A99)))) S82 A82 (r65 + (S65 26)) (2 : Int32) (nI (L - 2)))) S65 A65 (nI (L - 2)))) S49 A49 (S49 24))) ∧ (¬ nI (L - 2) ≤ r49 → (P (49 : Int32) S49 A49)))) S35 A35)) ∧ (r35 = 0 → (P (115 : Int32) S35 A35)))) S A (B 1 1) := by
      intro r47
      unfold wX_Dl_isNext
      rw [n255]
      refine ⟨fun hne => bn_t rfl ?_, fun he => bn_f (by decide) ?_⟩
      · refine hP.1 115 _ _ T B (fun Q hQ => r47 Q ?_) hW.step rfl (Or.inr ⟨by show ¬ B 1 0 = 17; rw [hs]; decide, 115, by decide, by decide, rfl⟩)
        unfold wM_M_block_47 wM_M_block_48
        rw [k255]
        exact bn_t rfl (br_f hne hQ)
      · unfold wX_Dl_toCome
        have etc : S 25 - S 26 = nI (sz - ca) := by rw [d5, d7]; exact pk_sub g1
        rw [etc]
        refine br_f (by rw [d1]; decide) ⟨fun hsz => ?_, fun hsz => ?_⟩
        · have hsz : L - 2 ≤ sz - ca := (pz_le (by omega) (by omega)).mp hsz
          have eat : S 24 * (48 : Int32) + S 26 = nI (48 * sl + ca) := by
            rw [d2, d7, show nI sl * (48 : Int32) = nI (sl * 48) from pk_mul sl 48, Nat.mul_comm, nI_add]
          have mat : (48 : Int32) * T 12 + T 14 = nI (48 * sl + ca) := by
            rw [d3, d8, show (48 : Int32) * nI sl = nI (48 * sl) from pk_mul 48 sl, nI_add]
          unfold wX_Mm_imageOf wX_Dl_addBlock
          show wX_Mm_write_4 _ (va_up (va_up S 26 (S 26 + nI (L - 2))) 27 (S 27 + 1)) A (S 24 * (48 : Int32) + S 26) (2 : Int32) (nI (L - 2))
          rw [eat, d7, d9, nI_add, pz_inc]
          -- the reference's road to the writing
          have ref98 : ∀ Q : Int32 → SS → AA → Prop, wM_M_block_98 Q T B (B 1 1) (nI (L - 2)) (nI (48 * sl + ca)) 0 → wM_M_workOn Q T B := by
            intro Q hQ
            refine r47 Q ?_
            unfold wM_M_block_47 wM_M_block_48
            rw [k255]
            refine bn_t rfl (br_t he (toc_M1 d3 d4 d6 d8 g1 (br_t (nI_le hsz (by omega)) ?_)))
            rw [mat]
            exact hQ
          have ew : wr (S 5) (S 6) (A 0) (48 * sl + ca) (L - 2) (fun j => A 0 (48 * sl + ca + j) &&& A 1 (2 + j)) = wr (T 0) (T 1) (B 0) (48 * sl + ca) (L - 2) (fun j => B 0 (48 * sl + ca + j) &&& B 1 (2 + j)) := by rw [f3, f4, f1, q1]
          have hby : by8 (wr (T 0) (T 1) (B 0) (48 * sl + ca) (L - 2) (fun j => B 0 (48 * sl + ca + j) &&& B 1 (2 + j))) := by8_wr f2 (fun j => and_byte f2 q2 _ _)
          refine hX_write4 (at0 := 48 * sl + ca) (m := L - 2) (by omega) (by omega) (fun o0 => bn_f (by decide) ?_) (fun o1 => bn_t rfl ?_)
          · have o0 : S 5 = 0 := o0
            have t0 : T 0 = 0 := f3.symm.trans o0
            refine hX_holds (at0 := 48 * sl + ca) (m := L - 2) (by omega) (by omega) (fun hall => br_f (by decide) ?_) (fun hall => br_t rfl ?_)
            · refine hX_done 1 e11 (by decide) ?_
              refine hP.1 0 _ _ (va_up (va_up (va_up (va_up (va_up T 0 0) 14 (T 14 + nI (L - 2))) 15 (T 15 + 1)) 20 (nI 1)) 20 (nI 2)) (va_up (va_up (va_up B 0 (wr (T 0) (T 1) (B 0) (48 * sl + ca) (L - 2) (fun j => B 0 (48 * sl + ca + j) &&& B 1 (2 + j)))) 2 (upd (B 2) 0 118)) 2 (upd (upd (B 2) 0 118) 1 (B 1 1))) (fun Q hQ => ref98 Q ?_) ⟨⟨ew, hby, rfl, f4, Or.inl rfl⟩, ⟨c1, c2, c3, c4, c5, c6, c7, c8, c9, c10, c11, c12, c13, c14, c15, c16, c17⟩, ⟨i1, i2⟩, Or.inr ⟨d1, d2.trans d3.symm, ?_, d5.trans d6.symm, ?_, ?_, sz, ca + (L - 2), bl + 1, d6, ?_, ?_, by omega, g2, by omega⟩, ⟨q1, q2, q3⟩, a1, hR⟩ rfl (Or.inl ⟨rfl, 2, Or.inl (by decide), rfl, rfl, wa_s (wa_1 hA0) (B 1 1)⟩)
              · refine hM_write (by omega) (by omega) f2 q2 f5 (fun _ => ?_) (fun q => absurd t0 q)
                refine hM_cmp (by omega) (by omega) (fun _ => ?_) (fun q => absurd ?_ q)
                · unfold wM_M_block_210
                  refine hM_add 0 e20 (by decide) ?_
                  refine hM_add 1 rfl (by decide) ?_
                  exact hQ
                · intro j hj
                  have h := hall j hj
                  show wr (T 0) (T 1) (B 0) (48 * sl + ca) (L - 2) (fun j => B 0 (48 * sl + ca + j) &&& B 1 (2 + j)) (48 * sl + ca + j) = B 1 (2 + j)
                  rw [← ew, ← q1]
                  exact h
              · show T 12 = 0 ∨ T 12 = 1
                rw [d3]
                have : sl = 0 ∨ sl = 1 := by omega
                rcases this with q | q
                · exact Or.inl (by rw [q]; rfl)
                · exact Or.inr (by rw [q]; rfl)
              · show nI (ca + (L - 2)) = T 14 + nI (L - 2)
                rw [d8, nI_add]
              · show nI (bl + 1) = T 15 + 1
                rw [d10, pz_inc]
              · show T 14 + nI (L - 2) = nI (ca + (L - 2))
                rw [d8, nI_add]
              · show T 15 + 1 = nI (bl + 1)
                rw [d10, pz_inc]
            · refine hP.1 114 _ _ (va_up (va_up (va_up T 0 0) 14 (T 14 + nI (L - 2))) 15 (T 15 + 1)) (va_up B 0 (wr (T 0) (T 1) (B 0) (48 * sl + ca) (L - 2) (fun j => B 0 (48 * sl + ca + j) &&& B 1 (2 + j)))) (fun Q hQ => ref98 Q ?_) ⟨⟨ew, hby, rfl, f4, Or.inl rfl⟩, ⟨c1, c2, c3, c4, c5, c6, c7, c8, c9, c10, c11, c12, c13, c14, c15, c16, c17⟩, ⟨i1, i2⟩, Or.inr ⟨d1, d2.trans d3.symm, ?_, d5.trans d6.symm, ?_, ?_, sz, ca + (L - 2), bl + 1, d6, ?_, ?_, by omega, g2, by omega⟩, ⟨q1, q2, q3⟩, a1, hR⟩ rfl (Or.inr ⟨by show ¬ B 1 0 = 17; rw [hs]; decide, 114, by decide, by decide, rfl⟩)
              · refine hM_write (by omega) (by omega) f2 q2 f5 (fun _ => ?_) (fun q => absurd t0 q)
                refine hM_cmp (by omega) (by omega) (fun q => absurd ?_ hall) (fun _ => hQ)
                intro j hj
                have h : wr (T 0) (T 1) (B 0) (48 * sl + ca) (L - 2) (fun j => B 0 (48 * sl + ca + j) &&& B 1 (2 + j)) (48 * sl + ca + j) = B 1 (2 + j) := q j hj
                rw [← ew, ← q1] at h
                exact h
              · show T 12 = 0 ∨ T 12 = 1
                rw [d3]
                have : sl = 0 ∨ sl = 1 := by omega
                rcases this with q | q
                · exact Or.inl (by rw [q]; rfl)
                · exact Or.inr (by rw [q]; rfl)
              · show nI (ca + (L - 2)) = T 14 + nI (L - 2)
                rw [d8, nI_add]
              · show nI (bl + 1) = T 15 + 1
                rw [d10, pz_inc]
              · show T 14 + nI (L - 2) = nI (ca + (L - 2))
                rw [d8, nI_add]
              · show T 15 + 1 = nI (bl + 1)
                rw [d10, pz_inc]
          · have o1 : ¬ S 5 = 0 := o1
            refine hP.2 _ _ (va_up T 0 0) (va_up B 0 (wr (T 0) (T 1) (B 0) (48 * sl + ca) (L - 2) (fun j => B 0 (48 * sl + ca + j) &&& B 1 (2 + j)))) (fun Q hQ => ref98 Q ?_) ⟨⟨ew, hby, rfl, f4, Or.inl rfl⟩, ⟨c10, c11⟩, i2, ⟨q1, q2⟩, hR⟩
            exact hM_write (by omega) (by omega) f2 q2 f5 (fun q => absurd (f3.trans q) o1) (fun _ => hQ)
        · refine hP.1 49 _ _ T B (fun Q hQ => r47 Q ?_) hW.step rfl (Or.inr ⟨by show ¬ B 1 0 = 17; rw [hs]; decide, 49, by decide, by decide, rfl⟩)
          unfold wM_M_block_47 wM_M_block_48
          rw [k255]
          exact bn_t rfl (br_t he (toc_M1 d3 d4 d6 d8 g1 (br_f hsz hQ)))
    unfold wX_Dl_isLatest
    rw [e255]
    refine ⟨fun h0 => br_t rfl (other (fun Q hQ => refz Q (br_t (hle.mp h0) hQ))), fun h0 => ⟨fun hne => br_t rfl (other (fun Q hQ => refz Q (br_f (fun q => h0 (hle.mpr q)) (bn_f hne hQ)))), fun he => br_f (by decide) (again he (fun q => h0 (hle.mpr q)))⟩⟩
  · exact hP.1 36 _ _ T B (fun Q hQ => ref Q (toc_M1 d3 d4 d6 d8 g1 (br_f z hQ))) hW.step rfl (Or.inr ⟨by show ¬ B 1 0 = 17; rw [hs]; decide, 36, by decide, by decide, rfl⟩)
