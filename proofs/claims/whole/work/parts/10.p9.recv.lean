/-! frames that come: their bytes, and the bytes of a request -/
def frb (f r : Int32) (j : Nat) : Int32 := ((if j < 4 then f else r).toUInt32 >>> ((nI (24 - 8 * (j % 4))).toUInt32 &&& Int32.toUInt32 31)).toInt32 &&& (255 : Int32)
theorem frb_byte (f r : Int32) (j : Nat) : ∃ b : Nat, b < 256 ∧ frb f r j = nI b := by
  obtain ⟨b, hb, e⟩ := pk_andE ((if j < 4 then f else r).toUInt32 >>> ((nI (24 - 8 * (j % 4))).toUInt32 &&& Int32.toUInt32 31)).toInt32 (m := 255) 8 (by decide +kernel)
  exact ⟨b, hb, e⟩
theorem frb_lo (f r : Int32) {k : Nat} (hk : k < 4) : (f.toUInt32 >>> (((24 : Int32) - ((8 : Int32) * nI k)).toUInt32 &&& Int32.toUInt32 31)).toInt32 &&& (255 : Int32) = frb f r k := by
  unfold frb
  rw [if_pos hk, Nat.mod_eq_of_lt hk, show (8 : Int32) * nI k = nI (8 * k) from pk_mul 8 k, show (24 : Int32) - nI (8 * k) = nI (24 - 8 * k) from pk_sub (a := 24) (by omega)]
theorem frb_hi (f r : Int32) {k : Nat} (hk : k < 4) : (r.toUInt32 >>> (((24 : Int32) - ((8 : Int32) * nI k)).toUInt32 &&& Int32.toUInt32 31)).toInt32 &&& (255 : Int32) = frb f r (4 + k) := by
  unfold frb
  rw [if_neg (by omega), show (4 + k) % 4 = k by omega, show (8 : Int32) * nI k = nI (8 * k) from pk_mul 8 k, show (24 : Int32) - nI (8 * k) = nI (24 - 8 * k) from pk_sub (a := 24) (by omega)]
theorem hX_byteOf {post : Int32 → SS → AA → Prop} {S : SS} {A : AA} {f r : Int32} {j : Nat} (hj : j < 8) (hp : post (frb f r j) S A) : wX_T_byteOf post S A f r (nI j) := by
  unfold wX_T_byteOf wX_T_byteOf_10
  have e : (24 : Int32) - ((8 : Int32) * (nI j &&& (3 : Int32))) = nI (24 - 8 * (j % 4)) := by
    rw [show nI j &&& (3 : Int32) = nI (j % 4) from pk_andN (by omega) 2 (by decide +kernel), show (8 : Int32) * nI (j % 4) = nI (8 * (j % 4)) from pk_mul 8 _]
    exact pk_sub (a := 24) (by omega)
  rw [e]
  unfold frb at hp
  refine ⟨fun h => ?_, fun h => ?_⟩
  · have h4 : 4 ≤ j := (pz_le (a := 4) (by decide) (by omega)).mp h
    rw [if_neg (by omega)] at hp
    exact hp
  · have h4 : j < 4 := Nat.lt_of_not_le (fun q => h ((pz_le (a := 4) (by decide) (by omega)).mpr q))
    rw [if_pos h4] at hp
    exact hp
theorem up_78 (S : SS) (a b c d : Int32) : va_up (va_up (va_up (va_up S 7 a) 8 b) 7 c) 8 d = va_up (va_up S 7 c) 8 d := by
  rw [pz_com (va_up S 7 a) (show (8 : Nat) ≠ 7 by decide) b c, pz_upup, pz_upup]
/-- the program takes the bytes of a frame from one on -/
theorem hX_add {post : SS → AA → Prop} {S : SS} {A : AA} {f r : Int32} {g w fr : Nat} (e7 : S 7 = nI g) (e8 : S 8 = nI w) (hgw : g + w ≤ 34) (hfr : fr ≤ 8) (hp : post (va_up (va_up (va_up S 10 0) 7 (nI (g + min (8 - fr) w))) 8 (nI (w - min (8 - fr) w))) (va_up A 1 (lay (A 1) g (min (8 - fr) w) (fun i => frb f r (fr + i))))) : wX_Rc_add post S A f r (nI fr) := by
  unfold wX_Rc_add wX_Rc_add_8
  intro X8 hX8
  have key : ∀ m k : Nat, k + m = min (8 - fr) w → X8 (va_up (va_up (va_up S 10 0) 7 (nI (g + k))) 8 (nI (w - k))) (va_up A 1 (lay (A 1) g k (fun i => frb f r (fr + i)))) f r (nI (fr + k)) := by
    intro m
    induction m with
    | zero =>
      intro k hk
      have hk : k = min (8 - fr) w := by omega
      rw [← hk] at hp
      apply hX8
      unfold wX_Rc_add_8B
      have e8' : (va_up (va_up (va_up S 10 0) 7 (nI (g + k))) 8 (nI (w - k))) 8 = nI (w - k) := rfl
      rw [e8']
      refine ⟨fun _ => hp, fun h1 => ⟨fun _ => hp, fun h2 => ?_⟩⟩
      exfalso
      have a1 : fr + k < 8 := Nat.lt_of_not_le (fun q => h1 ((pz_le (a := 8) (by decide) (by omega)).mpr q))
      have a2 : ¬ w - k = 0 := fun q => h2 (by rw [q]; exact Int32.le_refl _)
      omega
    | succ m ih =>
      intro k hk
      apply hX8
      unfold wX_Rc_add_8B
      have e8' : (va_up (va_up (va_up S 10 0) 7 (nI (g + k))) 8 (nI (w - k))) 8 = nI (w - k) := rfl
      have e7' : (va_up (va_up (va_up S 10 0) 7 (nI (g + k))) 8 (nI (w - k))) 7 = nI (g + k) := rfl
      rw [e8', e7']
      have a1 : fr + k < 8 := by omega
      refine ⟨fun q => absurd q (nI_ge (b := 8) a1 (by decide)), fun _ => ⟨fun q => absurd q (nI_nle (by omega) (by omega)), fun _ => ⟨fun q => absurd q (nI_ge (b := 34) (by omega) (by decide)), fun _ => ?_⟩⟩⟩
      refine hX_byteOf a1 ⟨vp_in_nI (by omega) (by decide), ?_⟩
      have h2 := ih (k + 1) (by omega)
      rw [nI_clamp (n := g + k) (by omega), e7', e8', pz_us, pz_upup, lay_s, up_78, pz_inc, pz_inc]
      rw [show w - k = (w - (k + 1)) + 1 by omega, nI_pred]
      exact h2
  have h0 := key (min (8 - fr) w) 0 (by omega)
  rw [lay_0, pz_up, Nat.add_zero, Nat.add_zero, Nat.sub_zero, show va_up (va_up (va_up S 10 0) 7 (nI g)) 8 (nI w) = va_up S 10 0 from by
    rw [← e7, ← e8]
    rw [show S 7 = (va_up S 10 0) 7 from rfl, pz_up, show S 8 = (va_up S 10 0) 8 from rfl, pz_up]] at h0
  exact h0
/-- the reference takes the bytes of a frame from one on -/
theorem hM_takeBytes {post : SS → AA → Prop} {T : SS} {B : AA} {g L fr : Nat} (e17 : T 17 = nI g) (e16 : T 16 = nI L) (hgL : g ≤ L) (hL : L ≤ 34) (hfr : fr ≤ 8) (hp : post (va_up (va_up T 17 (nI (g + min (8 - fr) (L - g)))) 19 0) (va_up B 1 (lay (B 1) g (min (8 - fr) (L - g)) (fun i => B 4 (fr + i))))) : wM_M_takeBytes post T B (nI fr) := by
  unfold wM_M_takeBytes wM_M_takeBytes_2
  intro X2 hX2
  have key : ∀ m k : Nat, k + m = min (8 - fr) (L - g) → X2 (va_up T 17 (nI (g + k))) (va_up B 1 (lay (B 1) g k (fun i => B 4 (fr + i)))) (nI (fr + k)) := by
    intro m
    induction m with
    | zero =>
      intro k hk
      have hk : k = min (8 - fr) (L - g) := by omega
      rw [← hk] at hp
      apply hX2
      unfold wM_M_takeBytes_2B wM_M_takeBytes_50
      have e16' : (va_up T 17 (nI (g + k))) 16 = nI L := e16
      have e17' : (va_up T 17 (nI (g + k))) 17 = nI (g + k) := rfl
      rw [e16', e17']
      refine ⟨fun _ => hp, fun h1 => ⟨fun _ => hp, fun h2 => ?_⟩⟩
      exfalso
      have a1 : fr + k < 8 := Nat.lt_of_not_le (fun q => h1 ((pz_le (a := 8) (by decide) (by omega)).mpr q))
      have a2 : ¬ L ≤ g + k := fun q => h2 (nI_le q (by omega))
      omega
    | succ m ih =>
      intro k hk
      apply hX2
      unfold wM_M_takeBytes_2B
      have e16' : (va_up T 17 (nI (g + k))) 16 = nI L := e16
      have e17' : (va_up T 17 (nI (g + k))) 17 = nI (g + k) := rfl
      have e4 : (va_up B 1 (lay (B 1) g k (fun i => B 4 (fr + i)))) 4 = B 4 := rfl
      rw [e16', e17', e4, nI_clamp (n := fr + k) (by omega), nI_clamp (n := g + k) (by omega), pz_us, pz_upup, pz_upup, pz_inc, pz_inc]
      have h2 := ih (k + 1) (by omega)
      rw [← lay_s] at h2
      exact ⟨fun q => absurd q (nI_ge (b := 8) (by omega) (by decide)), fun _ => ⟨fun q => absurd q (nI_ge (by omega) (by omega)), fun _ => ⟨vp_in_nI (by omega) (by decide), vp_in_nI (by omega) (by decide), h2⟩⟩⟩
  have h0 := key (min (8 - fr) (L - g)) 0 (by omega)
  rw [lay_0, pz_up, Nat.add_zero, Nat.add_zero, ← e17, pz_up] at h0
  exact h0
/-! the reference's frame is filled, then it is looked at -/
def fr8 (b : Nat → Int32) (f r : Int32) : Nat → Int32 := fun j => if j < 8 then frb f r j else b j
theorem fr8_in {b : Nat → Int32} {f r : Int32} {j : Nat} (h : j < 8) : fr8 b f r j = frb f r j := if_pos h
def dsp (post : Int32 → SS → AA → Prop) (T : SS) (B : AA) : Prop := ((T 20 ≤ T 21 → ((B 4 0 < (1 : Int32) → wM_M_frame_102 post T B (B 4 0)) ∧ (¬ B 4 0 < (1 : Int32) → (((7 : Int32) < B 4 0 → wM_M_frame_102 post T B (B 4 0)) ∧ (¬ (7 : Int32) < B 4 0 → wM_M_beginRequest (fun S92 A92 => (wM_M_complete (fun S96 A96 => (wM_M_frame_179 post S96 A96)) S92 A92)) T B (B 4 0) (1 : Int32)))))) ∧ (¬ T 20 ≤ T 21 → wM_M_answerFrame (fun S72 A72 => (wM_M_frame_179 post S72 A72)) T B))
theorem cl_0 : (0 : Int32).toNatClampNeg = 0 := by decide
theorem cl_1 : (1 : Int32).toNatClampNeg = 1 := by decide
theorem cl_2 : (2 : Int32).toNatClampNeg = 2 := by decide
theorem cl_3 : (3 : Int32).toNatClampNeg = 3 := by decide
theorem cl_4 : (4 : Int32).toNatClampNeg = 4 := by decide
theorem cl_5 : (5 : Int32).toNatClampNeg = 5 := by decide
theorem vl_0 {N : Nat} (h : 0 < N) (hN : N < 2 ^ 31) : vp_in (0 : Int32) N := vp_in_nI (n := 0) h hN
theorem vl_1 {N : Nat} (h : 1 < N) (hN : N < 2 ^ 31) : vp_in (1 : Int32) N := vp_in_nI (n := 1) h hN
theorem vl_2 {N : Nat} (h : 2 < N) (hN : N < 2 ^ 31) : vp_in (2 : Int32) N := vp_in_nI (n := 2) h hN
theorem vl_3 {N : Nat} (h : 3 < N) (hN : N < 2 ^ 31) : vp_in (3 : Int32) N := vp_in_nI (n := 3) h hN
theorem vl_4 {N : Nat} (h : 4 < N) (hN : N < 2 ^ 31) : vp_in (4 : Int32) N := vp_in_nI (n := 4) h hN
theorem vl_5 {N : Nat} (h : 5 < N) (hN : N < 2 ^ 31) : vp_in (5 : Int32) N := vp_in_nI (n := 5) h hN
theorem hM_fill {post : Int32 → SS → AA → Prop} {T : SS} {B : AA} {f r : Int32} (hp : dsp post T (va_up B 4 (fr8 (B 4) f r))) : wM_M_frame post T B f r := by
  unfold wM_M_frame wM_M_frame_2
  intro X2 hX2
  have key : ∀ m k : Nat, k + m = 4 → ∀ g : Nat → Int32, (∀ j, g j = if j < k ∨ (4 ≤ j ∧ j < 4 + k) then frb f r j else B 4 j) → X2 T (va_up B 4 g) f r (nI k) := by
    intro m
    induction m with
    | zero =>
      intro k hk g hg
      have hk : k = 4 := by omega
      subst hk
      have eg : g = fr8 (B 4) f r := by
        funext j
        rw [hg j]
        unfold fr8
        by_cases h : j < 8
        · rw [if_pos h, if_pos (by omega)]
        · rw [if_neg h, if_neg (by omega)]
      subst eg
      apply hX2
      unfold wM_M_frame_2B
      rw [cl_0]
      exact ⟨fun _ => ⟨vl_0 (by decide) (by decide), hp⟩, fun q => absurd (show (4 : Int32) ≤ nI 4 from Int32.le_refl _) q⟩
    | succ m ih =>
      intro k hk g hg
      have hk4 : k < 4 := by omega
      apply hX2
      unfold wM_M_frame_2B
      have e4 : (va_up B 4 g) 4 = g := rfl
      rw [e4, show (4 : Int32) + nI k = nI (4 + k) from nI_add 4 k, nI_clamp (n := k) (by omega), nI_clamp (n := 4 + k) (by omega), frb_lo f r hk4, frb_hi f r hk4, pz_upup, pz_upup, pz_inc]
      refine ⟨fun q => absurd q (nI_ge (b := 4) hk4 (by decide)), fun _ => ⟨vp_in_nI (by omega) (by decide), vp_in_nI (by omega) (by decide), ih (k + 1) (by omega) _ (fun j => ?_)⟩⟩
      unfold upd
      by_cases h1 : j = 4 + k
      · rw [if_pos h1, if_pos (by omega), h1]
      · rw [if_neg h1]
        by_cases h2 : j = k
        · rw [if_pos h2, if_pos (by omega), h2]
        · rw [if_neg h2, hg j]
          by_cases h3 : j < k ∨ (4 ≤ j ∧ j < 4 + k)
          · rw [if_pos h3, if_pos (by omega)]
          · rw [if_neg h3, if_neg (by omega)]
  have h0 := key 4 0 rfl (B 4) (fun j => by rw [if_neg (by omega)])
  rw [pz_up] at h0
  exact h0
/-! what a request's bytes leave behind -/
theorem bytes_eq {A B : AA} (q1 : A 1 = B 1) (q2 : by8 (B 1)) (f r : Int32) (b : Nat → Int32) {g t fr : Nat} (h : fr + t ≤ 8) : lay (A 1) g t (fun i => frb f r (fr + i)) = lay (B 1) g t (fun i => fr8 b f r (fr + i)) ∧ by8 (lay (B 1) g t (fun i => fr8 b f r (fr + i))) := by
  have e : lay (B 1) g t (fun i => frb f r (fr + i)) = lay (B 1) g t (fun i => fr8 b f r (fr + i)) := lay_congr (fun k hk => (fr8_in (by omega)).symm)
  refine ⟨by rw [q1]; exact e, fun i => ?_⟩
  rw [← e]
  unfold lay
  split
  · exact frb_byte f r _
  · exact q2 i
theorem Rel.bytes {n : Nat} {S : SS} {A : AA} {T : SS} {B : AA} (hF : RelF S A T B) (hC : RelC n S T) (hI : RelI n S T) (hD : RelD n S T) (hA : RelA S A T B) (hR : RelR S A T B) {g w t : Nat} (q1 : A 1 = B 1) (q2 : by8 (B 1)) (e16 : T 16 = nI (g + w)) (e17 : T 17 = nI (g + t)) (e8 : S 8 = nI (w - t)) (e7 : S 7 = nI (g + t)) (e10 : S 10 = 0) (e19 : T 19 = 0) (ht : t ≤ w) (hgw : g + w ≤ 34) (hg : t < w → ∃ lt : Nat, lt < 16 ∧ T 18 = nI lt ∧ S 9 = nI ((lt + 1) % 16)) : Rel n S A T B := by
  refine ⟨hF, hC, hI, hD, ⟨q1, q2, g + w, g + t, e16, e17, by omega, hgw, ?_, fun hlt => ⟨e7, by rw [e10, e19], ⟨0, by decide, e19⟩, hg (by omega)⟩⟩, hA, hR⟩
  rw [e8]
  congr 1
  omega
