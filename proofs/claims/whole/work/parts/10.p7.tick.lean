/-! word -/
theorem or_shl8 (x y : Int32) : (x ||| y) <<< ((8 : Int32) &&& 31) = (x <<< ((8 : Int32) &&& 31)) ||| (y <<< ((8 : Int32) &&& 31)) := by
  apply b_ext
  intro i hi
  rw [b_shl8 _ hi, b_or, b_or, b_shl8 _ hi, b_shl8 _ hi, Bool.and_or_distrib_left]
theorem shl_88 (x : Int32) : (x <<< ((8 : Int32) &&& 31)) <<< ((8 : Int32) &&& 31) = x <<< ((16 : Int32) &&& 31) := by
  apply b_ext
  intro i hi
  rw [b_shl8 _ hi, b_shl16 _ hi]
  by_cases h : 8 ≤ i
  · rw [b_shl8 _ (show i - 8 < 32 by omega), decide_eq_true h, Bool.true_and, Nat.sub_sub]
    by_cases h2 : 16 ≤ i
    · rw [decide_eq_true h2, decide_eq_true (show 8 ≤ i - 8 by omega)]
    · rw [decide_eq_false h2, decide_eq_false (show ¬ 8 ≤ i - 8 by omega), Bool.false_and]
  · rw [decide_eq_false h, decide_eq_false (show ¬ 16 ≤ i by omega), Bool.false_and, Bool.false_and]
theorem shl_168 (x : Int32) : (x <<< ((16 : Int32) &&& 31)) <<< ((8 : Int32) &&& 31) = x <<< ((24 : Int32) &&& 31) := by
  apply b_ext
  intro i hi
  rw [b_shl8 _ hi, b_shl24 _ hi]
  by_cases h : 8 ≤ i
  · rw [b_shl16 _ (show i - 8 < 32 by omega), decide_eq_true h, Bool.true_and, Nat.sub_sub]
    by_cases h2 : 24 ≤ i
    · rw [decide_eq_true h2, decide_eq_true (show 16 ≤ i - 8 by omega)]
    · rw [decide_eq_false h2, decide_eq_false (show ¬ 16 ≤ i - 8 by omega), Bool.false_and]
  · rw [decide_eq_false h, decide_eq_false (show ¬ 24 ≤ i by omega), Bool.false_and, Bool.false_and]
theorem shl_816 (x : Int32) : (x <<< ((8 : Int32) &&& 31)) <<< ((16 : Int32) &&& 31) = x <<< ((24 : Int32) &&& 31) := by
  apply b_ext
  intro i hi
  rw [b_shl16 _ hi, b_shl24 _ hi]
  by_cases h : 16 ≤ i
  · rw [b_shl8 _ (show i - 16 < 32 by omega), decide_eq_true h, Bool.true_and, Nat.sub_sub]
    by_cases h2 : 24 ≤ i
    · rw [decide_eq_true h2, decide_eq_true (show 8 ≤ i - 16 by omega)]
    · rw [decide_eq_false h2, decide_eq_false (show ¬ 8 ≤ i - 16 by omega), Bool.false_and]
  · rw [decide_eq_false h, decide_eq_false (show ¬ 24 ≤ i by omega), Bool.false_and, Bool.false_and]
theorem zero_or (x : Int32) : ((0 : Int32) <<< ((8 : Int32) &&& 31)) ||| x = x := by
  apply b_ext
  intro i hi
  rw [b_or, b_shl8 _ hi, b_0, Bool.and_false, Bool.false_or]
theorem ok_word {n : Nat} {S : SS} {A : AA} {T : SS} {B : AA} (h : Rel n S A T B) {x : Int32} {P : Int32 → SS → AA → Prop} (hP : ∀ (r : Int32) (S1 : SS) (A1 : AA), OkI n r S1 A1 (fun Q => wM_M_word Q T B x) → P r S1 A1) : wX_T_word P S A x := by
  have hs := h.step
  have e0 : A 0 = B 0 := h.1.1
  unfold wX_T_word wX_Mm_has
  have e92 : (96 : Int32) - (4 : Int32) = 92 := by decide
  rw [e92]
  refine ⟨fun h1 => ⟨fun q => absurd rfl q, fun _ => hP _ _ _ (fun Q hQ => ?_)⟩, fun h1 => ⟨fun h2 => ⟨fun q => absurd rfl q, fun _ => hP _ _ _ (fun Q hQ => ?_)⟩, fun h2 => ⟨fun _ => ?_, fun q => absurd q (by decide)⟩⟩⟩
  · unfold wM_M_word
    exact ⟨fun _ => hQ _ _ hs, fun q => absurd h1 q⟩
  · unfold wM_M_word
    exact ⟨fun q => absurd q h1, fun _ => ⟨fun q => absurd h2 (Int32.not_lt.mpr q), fun _ => hQ _ _ hs⟩⟩
  · have h3 : x ≤ 92 := Int32.not_lt.mp h2
    obtain ⟨j, hj, rfl⟩ := nI_of2 (M := 92) (n := 92) (by decide) h1 h3
    have i0 : vp_in (nI j) 96 := vp_in_nI (by omega) (by decide)
    have i1 : vp_in (nI (j + 1)) 96 := vp_in_nI (by omega) (by decide)
    have i2 : vp_in (nI (j + 2)) 96 := vp_in_nI (by omega) (by decide)
    have i3 : vp_in (nI (j + 3)) 96 := vp_in_nI (by omega) (by decide)
    have a0 : nI j + (0 : Int32) = nI j := nI_add j 0
    have a1 : nI j + (1 : Int32) = nI (j + 1) := nI_add j 1
    have a2 : nI j + (2 : Int32) = nI (j + 2) := nI_add j 2
    have a3 : nI j + (3 : Int32) = nI (j + 3) := nI_add j 3
    have c0 : (nI j).toNatClampNeg = j := nI_clamp (by omega)
    have c1 : (nI (j + 1)).toNatClampNeg = j + 1 := nI_clamp (by omega)
    have c2 : (nI (j + 2)).toNatClampNeg = j + 2 := nI_clamp (by omega)
    have c3 : (nI (j + 3)).toNatClampNeg = j + 3 := nI_clamp (by omega)
    have fin : P ((((A 0 j <<< ((24 : Int32) &&& 31)) ||| (A 0 (j + 1) <<< ((16 : Int32) &&& 31))) ||| (A 0 (j + 2) <<< ((8 : Int32) &&& 31))) ||| A 0 (j + 3)) S A := by
      refine hP _ _ _ (fun Q hQ => ?_)
      unfold wM_M_word
      rw [a1, a2, a3, c0, c1, c2, c3, ← e0]
      exact ⟨fun q => absurd q h1, fun _ => ⟨fun _ => ⟨i0, i1, i2, i3, hQ _ _ hs⟩, fun q => absurd h3 q⟩⟩
    unfold wX_T_word_18
    intro X18 hX18
    apply hX18
    unfold wX_T_word_18B
    rw [a0, c0, zero_or]
    refine ⟨fun q => absurd q (by decide), fun _ => ⟨i0, hX18 _ _ _ _ _ ?_⟩⟩
    unfold wX_T_word_18B
    rw [show (0 : Int32) + (1 : Int32) = 1 from rfl, a1, c1]
    refine ⟨fun q => absurd q (by decide), fun _ => ⟨i1, hX18 _ _ _ _ _ ?_⟩⟩
    unfold wX_T_word_18B
    rw [show (1 : Int32) + (1 : Int32) = 2 from rfl, a2, c2]
    refine ⟨fun q => absurd q (by decide), fun _ => ⟨i2, hX18 _ _ _ _ _ ?_⟩⟩
    unfold wX_T_word_18B
    rw [show (2 : Int32) + (1 : Int32) = 3 from rfl, a3, c3]
    refine ⟨fun q => absurd q (by decide), fun _ => ⟨i3, hX18 _ _ _ _ _ ?_⟩⟩
    unfold wX_T_word_18B
    refine ⟨fun _ => ?_, fun q => absurd (by decide) q⟩
    rw [or_shl8, or_shl8, or_shl8, shl_88, shl_88, shl_816]
    exact fin
/-! a tick, in its four parts -/
def csX (S : SS) (x : Int32) : SS := va_up (va_up (va_up (va_up S 1 x) 18 0) 19 0) 23 0
def csM (T : SS) (x : Int32) : SS := va_up (va_up (va_up (va_up T 3 x) 4 0) 8 0) 12 (-1)
def p1X (S : SS) : SS := if S 8 = 0 then S else if S 10 + 1 < 4 then va_up S 10 (S 10 + 1) else va_up (va_up (va_up S 10 (S 10 + 1)) 7 0) 8 0
def p2X (S : SS) : SS := if S 15 = 0 then S else if S 14 + 1 < 4 then va_up S 14 (S 14 + 1) else va_up (va_up S 14 (S 14 + 1)) 15 0
def p3X (S : SS) : SS := if S 1 = 2 ∧ ¬ S 4 + 1 < 10 ∧ S 8 = 0 ∧ S 15 = 0 then csX (va_up S 4 (S 4 + 1)) 1 else va_up S 4 (S 4 + 1)
def p4X (S : SS) : SS := if S 22 = 0 then S else va_up S 22 (S 22 - 1)
def p1M (T : SS) : SS := if T 16 ≤ T 17 then T else if T 19 + 1 = 4 then va_up (va_up (va_up T 19 (T 19 + 1)) 16 0) 17 0 else va_up T 19 (T 19 + 1)
def p2M (T : SS) : SS := if T 20 ≤ T 21 then T else if T 23 + 1 = 4 then va_up (va_up (va_up T 23 (T 23 + 1)) 20 0) 21 0 else va_up T 23 (T 23 + 1)
def p3M (T : SS) : SS := if T 3 = 2 ∧ ¬ T 11 + 1 < 10 ∧ T 17 = T 16 ∧ T 21 = T 20 then csM (va_up T 11 (T 11 + 1)) 1 else va_up T 11 (T 11 + 1)
def p4M (T : SS) : SS := va_up T 10 (if T 10 ≤ 0 then 0 else T 10 - 1)
theorem hX_tick {post : SS → AA → Prop} {S : SS} {A : AA} (hp : post (p4X (p3X (p2X (p1X S)))) A) : wX_T_tick post S A := by
  unfold wX_T_tick
  have age1 : ∀ {q : SS → AA → Prop}, q (p1X S) A → wX_Rc_age q S A := by
    intro q hq
    unfold wX_Rc_age wX_Rc_drop
    unfold p1X at hq
    refine ⟨fun h => ⟨fun g => ?_, fun g => ?_⟩, fun h => ?_⟩
    · rw [if_neg h, if_pos g] at hq; exact hq
    · rw [if_neg h, if_neg g] at hq; exact hq
    · rw [if_pos h] at hq; exact hq
  refine age1 ?_
  generalize p1X S = S1 at hp
  have age2 : ∀ {q : SS → AA → Prop}, q (p2X S1) A → wX_Sd_age q S1 A := by
    intro q hq
    unfold wX_Sd_age wX_Sd_drop
    unfold p2X at hq
    refine ⟨fun h => ⟨fun g => ?_, fun g => ?_⟩, fun h => ?_⟩
    · rw [if_neg h, if_pos g] at hq; exact hq
    · rw [if_neg h, if_neg g] at hq; exact hq
    · rw [if_pos h] at hq; exact hq
  refine age2 ?_
  generalize p2X S1 = S2 at hp
  have last : ∀ S3 : SS, post (p4X S3) A → wX_T_tick_66 post S3 A := by
    intro S3 hq
    unfold wX_T_tick_66 wX_Lk_shortenDelay
    unfold p4X at hq
    refine ⟨fun h => ?_, fun h => ?_⟩
    · rw [if_pos h] at hq; exact hq
    · rw [if_neg h] at hq; exact hq
  unfold p3X at hp
  refine ⟨fun h1 => last _ ?_, fun h1 => ⟨fun h2 => last _ ?_, fun h2 => ⟨fun h3 => last _ ?_, fun h3 => ⟨fun h4 => last _ ?_, fun h4 => last _ ?_⟩⟩⟩⟩
  · rw [if_neg (fun q => h1 q.1)] at hp; exact hp
  · rw [if_neg (fun q => q.2.1 h2)] at hp; exact hp
  · rw [if_neg (fun q => h3 q.2.2.1)] at hp; exact hp
  · rw [if_neg (fun q => h4 q.2.2.2)] at hp; exact hp
  · rw [if_pos ⟨h1, h2, h3, h4⟩] at hp; exact hp
theorem hM_tick {post : SS → AA → Prop} {T : SS} {B : AA} (hp : post (p4M (p3M (p2M (p1M T)))) B) : wM_M_tick post T B := by
  have last : ∀ T3 : SS, post (p4M T3) B → wM_M_tick_120 post T3 B := by
    intro T3 hq
    unfold wM_M_tick_120 wM_M_tick_138
    unfold p4M at hq
    refine ⟨fun h => ?_, fun h => ?_⟩
    · rw [if_pos h] at hq; exact hq
    · rw [if_neg h] at hq; exact hq
  have third : ∀ T2 : SS, post (p4M (p3M T2)) B → wM_M_tick_66 post T2 B := by
    intro T2 hq
    unfold wM_M_tick_66
    unfold p3M at hq
    refine ⟨fun h1 => last _ ?_, fun h1 => ⟨fun h2 => last _ ?_, fun h2 => ⟨fun h3 => last _ ?_, fun h3 => ⟨fun h4 => last _ ?_, fun h4 => last _ ?_⟩⟩⟩⟩
    · rw [if_neg (fun q => h1 q.1)] at hq; exact hq
    · rw [if_neg (fun q => q.2.1 h2)] at hq; exact hq
    · rw [if_neg (fun q => h3 q.2.2.1)] at hq; exact hq
    · rw [if_neg (fun q => h4 q.2.2.2)] at hq; exact hq
    · rw [if_pos ⟨h1, h2, h3, h4⟩] at hq; exact hq
  have second : ∀ T1 : SS, post (p4M (p3M (p2M T1))) B → wM_M_tick_33 post T1 B := by
    intro T1 hq
    unfold wM_M_tick_33
    unfold p2M at hq
    refine ⟨fun h1 => third _ ?_, fun h1 => ⟨fun h2 => third _ ?_, fun h2 => third _ ?_⟩⟩
    · rw [if_pos h1] at hq; exact hq
    · rw [if_neg h1, if_neg h2] at hq; exact hq
    · rw [if_neg h1, if_pos h2] at hq; exact hq
  unfold wM_M_tick
  unfold p1M at hp
  refine ⟨fun h1 => second _ ?_, fun h1 => ⟨fun h2 => second _ ?_, fun h2 => second _ ?_⟩⟩
  · rw [if_pos h1] at hp; exact hp
  · rw [if_neg h1, if_neg h2] at hp; exact hp
  · rw [if_neg h1, if_pos h2] at hp; exact hp
theorem Rel.p1 {n : Nat} {S : SS} {A : AA} {T : SS} {B : AA} (h : Rel n S A T B) : Rel n (p1X S) A (p1M T) B := by
  obtain ⟨hF, hC, hI, hD, ⟨q1, q2, L, G, q3, q4, q5, q6, q7, q8⟩, hA, hR⟩ := h
  unfold p1X p1M
  rcases Nat.lt_or_ge G L with hg | hg
  · obtain ⟨g1, g2, ⟨a, ha, ea⟩, lt, hlt, el, e9⟩ := q8 hg
    have n8 : ¬ S 8 = 0 := by rw [q7]; exact nI_ne0 (by omega) (by omega)
    have nle : ¬ T 16 ≤ T 17 := by rw [q3, q4]; exact nI_ge hg (by omega)
    have e1 : T 19 + 1 = nI (a + 1) := by rw [ea]; exact pz_inc a
    rw [if_neg n8, if_neg nle, g2, e1]
    by_cases h4 : a + 1 = 4
    · rw [if_neg (show ¬ nI (a + 1) < 4 by rw [h4]; decide), if_pos (show nI (a + 1) = 4 by rw [h4]; rfl)]
      exact ⟨hF, hC, hI, hD, ⟨q1, q2, 0, 0, rfl, rfl, Nat.le_refl _, by decide, rfl, fun q => absurd q (Nat.lt_irrefl 0)⟩, hA, hR⟩
    · rw [if_pos (show nI (a + 1) < 4 from (pz_lt (b := 4) (by omega) (by decide)).mpr (by omega)), if_neg (show ¬ nI (a + 1) = 4 from fun q => h4 ((nI_eq (b := 4) (by omega) (by decide)).mp q))]
      exact ⟨hF, hC, hI, hD, ⟨q1, q2, L, G, q3, q4, q5, q6, q7, fun _ => ⟨g1, rfl, ⟨a + 1, by omega, rfl⟩, lt, hlt, el, e9⟩⟩, hA, hR⟩
  · have hz : L - G = 0 := by omega
    have z8 : S 8 = 0 := by rw [q7, hz]; rfl
    have hle : T 16 ≤ T 17 := by rw [q3, q4]; exact nI_le hg (by omega)
    rw [if_pos z8, if_pos hle]
    exact ⟨hF, hC, hI, hD, ⟨q1, q2, L, G, q3, q4, q5, q6, q7, q8⟩, hA, hR⟩
theorem Rel.p2 {n : Nat} {S : SS} {A : AA} {T : SS} {B : AA} (h : Rel n S A T B) : Rel n (p2X S) A (p2M T) B := by
  obtain ⟨hF, hC, hI, hD, hQ, hA, hR⟩ := h
  unfold p2X p2M
  rcases hA with ⟨a1, a2, a3⟩ | ⟨a1, a2, a3, a4, a5, a6, a7, a8, ⟨w, hw, ew⟩, a9⟩
  · rw [if_pos a1, a2, a3, if_pos (Int32.le_refl _)]
    exact ⟨hF, hC, hI, hD, hQ, Or.inl ⟨a1, a2, a3⟩, hR⟩
  · have e1 : T 23 + 1 = nI (w + 1) := by rw [ew]; exact pz_inc w
    rw [a1, if_neg (by decide : ¬ (1 : Int32) = 0), a5, a6, if_neg (by decide : ¬ (10 : Int32) ≤ 6), a8, e1]
    by_cases h4 : w + 1 = 4
    · rw [if_neg (show ¬ nI (w + 1) < 4 by rw [h4]; decide), if_pos (show nI (w + 1) = 4 by rw [h4]; rfl)]
      exact ⟨hF, hC, hI, hD, hQ, Or.inl ⟨rfl, rfl, rfl⟩, hR⟩
    · rw [if_pos (show nI (w + 1) < 4 from (pz_lt (b := 4) (by omega) (by decide)).mpr (by omega)), if_neg (show ¬ nI (w + 1) = 4 from fun q => h4 ((nI_eq (b := 4) (by omega) (by decide)).mp q))]
      exact ⟨hF, hC, hI, hD, hQ, Or.inr ⟨a1, a2, a3, a4, a5, a6, a7, rfl, ⟨w + 1, by omega, rfl⟩, a9⟩, hR⟩
theorem Rel.session {n : Nat} {S : SS} {A : AA} {T : SS} {B : AA} {x : Int32} (hx : x = 1 ∨ x = 2) (hx2 : x = 2 → S 4 = T 11) (h : Rel n S A T B) : Rel n (csX S x) A (csM T x) B := by
  obtain ⟨hF, ⟨c1, c2, c3, c4, c5, c6, c7, c8, c9, c10, c11, c12, c13, c14⟩, ⟨i1, i2, i3⟩, hD, hQ, hA, hR⟩ := h
  exact ⟨hF, ⟨c1, c2, rfl, hx, rfl, Or.inl rfl, c7, c8, c9, c10, c11, rfl, ⟨0, by decide, rfl⟩, c14⟩, ⟨hx2, i2, i3⟩, Or.inl ⟨rfl, rfl⟩, hQ, hA, hR⟩
theorem Rel.p3 {n : Nat} {S : SS} {A : AA} {T : SS} {B : AA} (hn : n < 2 ^ 20) (h : Rel n S A T B) : Rel (n + 1) (p3X S) A (p3M T) B := by
  obtain ⟨hF, hC, ⟨i1, ⟨i, hi, ei⟩, ⟨i', hi', ei'⟩⟩, hD, hQ, hA, hR⟩ := h.step
  have hi : i ≤ n := by
    obtain ⟨-, -, ⟨-, ⟨i2, hi2, ei2⟩, -⟩, -⟩ := h
    have := (nI_eq (a := i) (b := i2) (by omega) (by omega)).mp (ei.symm.trans ei2)
    omega
  have hi' : i' ≤ n := by
    obtain ⟨-, -, ⟨-, -, ⟨i2, hi2, ei2⟩⟩, -⟩ := h
    have := (nI_eq (a := i') (b := i2) (by omega) (by omega)).mp (ei'.symm.trans ei2)
    omega
  have e1 : T 11 + 1 = nI (i + 1) := by rw [ei]; exact pz_inc i
  have e2 : S 4 + 1 = nI (i' + 1) := by rw [ei']; exact pz_inc i'
  -- the states with one tick more
  have hup : Rel (n + 1) (va_up S 4 (S 4 + 1)) A (va_up T 11 (T 11 + 1)) B := by
    refine ⟨hF, hC, ⟨fun q => ?_, ⟨i + 1, by omega, e1⟩, ⟨i' + 1, by omega, e2⟩⟩, hD, hQ, hA, hR⟩
    show S 4 + 1 = T 11 + 1
    rw [i1 q]
  have h16 : T 17 = T 16 ↔ S 8 = 0 := by
    obtain ⟨-, -, L, G, q3, q4, q5, q6, q7, -⟩ := hQ
    rw [q3, q4, q7, nI_eq (by omega) (by omega), show (nI (L - G) = 0 ↔ L - G = 0) from nI_eq (b := 0) (by omega) (by decide)]
    omega
  have h20 : T 21 = T 20 ↔ S 15 = 0 := by
    rcases hA with ⟨a1, a2, a3⟩ | ⟨a1, a2, a3, a4, a5, a6, -⟩
    · rw [a1, a2, a3]
    · rw [a1, a5, a6]; exact ⟨fun q => absurd q (by decide), fun q => absurd q (by decide)⟩
  unfold p3X p3M
  have h3 : S 1 = T 3 := hC.2.2.1
  by_cases hs : T 3 = 2
  · have h4 : S 4 = T 11 := i1 hs
    by_cases hc : S 1 = 2 ∧ ¬ S 4 + 1 < 10 ∧ S 8 = 0 ∧ S 15 = 0
    · rw [if_pos hc, if_pos ⟨hs, by rw [← h4]; exact hc.2.1, h16.mpr hc.2.2.1, h20.mpr hc.2.2.2⟩]
      exact hup.session (Or.inl rfl) (fun q => absurd q (by decide))
    · rw [if_neg hc, if_neg (fun q => hc ⟨h3.trans hs, by rw [h4]; exact q.2.1, h16.mp q.2.2.1, h20.mp q.2.2.2⟩)]
      exact hup
  · rw [if_neg (fun q => hs (h3.symm.trans q.1)), if_neg (fun q => hs q.1)]
    exact hup
theorem Rel.p4 {n : Nat} {S : SS} {A : AA} {T : SS} {B : AA} (h : Rel n S A T B) : Rel n (p4X S) A (p4M T) B := by
  obtain ⟨hF, ⟨c1, c2, c3, c4, c5, c6, c7, c8, c9, c10, c11, c12, c13, c14, c15, c16, d, hd, ed⟩, hI, hD, hQ, hA, hR⟩ := h
  unfold p4X p4M
  rcases (show d = 0 ∨ ∃ d1, d = d1 + 1 from by cases d with | zero => exact Or.inl rfl | succ d1 => exact Or.inr ⟨d1, rfl⟩) with rfl | ⟨d1, rfl⟩
  · have z : T 10 = 0 := ed
    rw [c16, z, if_pos rfl, if_pos (by decide)]
    have e : va_up T 10 (0 : Int32) = T := by rw [← z]; exact pz_up T 10
    rw [e]
    exact ⟨hF, ⟨c1, c2, c3, c4, c5, c6, c7, c8, c9, c10, c11, c12, c13, c14, c15, c16, 0, by decide, ed⟩, hI, hD, hQ, hA, hR⟩
  · have e : T 10 - 1 = nI d1 := by rw [ed]; exact nI_pred d1
    rw [c16, if_neg (show ¬ T 10 = 0 by rw [ed]; exact nI_ne0 (by omega) (by omega)), if_neg (show ¬ T 10 ≤ 0 by rw [ed]; exact nI_nle (by omega) (by omega)), e]
    exact ⟨hF, ⟨c1, c2, c3, c4, c5, c6, c7, c8, c9, c10, c11, c12, c13, c14, c15, rfl, d1, by omega, rfl⟩, hI, hD, hQ, hA, hR⟩
theorem ok_tick {n : Nat} (hn : n < 2 ^ 20) {S : SS} {A : AA} {T : SS} {B : AA} (h : Rel n S A T B) {P : SS → AA → Prop} (hP : ∀ (S1 : SS) (A1 : AA), OkV n S1 A1 (fun Q => wM_M_tick Q T B) → P S1 A1) : wX_T_tick P S A :=
  hX_tick (hP _ _ (fun Q hQ => hM_tick (hQ _ _ (((h.p1).p2).p3 hn).p4)))
