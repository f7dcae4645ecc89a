/-! state -/
def stX (S : SS) (x : Int32) : Int32 := if x = 0 then S 0 else if x = 1 then S 1 else if x = 2 then (if S 18 = 0 then 0 else 1) else if x = 3 then (if S 23 = 0 then -1 else S 25 - S 26) else if x = 4 then (if S 5 = 0 then 0 else 1) else if x = 5 then S 2 else if x = 6 then S 8 else if x = 7 then (if S 15 = 0 then 0 else S 11 - S 12) else if x = 8 then S 22 else -1
def stM (T : SS) (x : Int32) : Int32 := if x = 0 then T 2 else if x = 1 then T 3 else if x = 2 then (if T 4 = 0 then 0 else 1) else if x = 3 then (if 0 ≤ T 12 then T 13 - T 14 else -1) else if x = 4 then (if T 0 = 0 then 0 else 1) else if x = 5 then T 5 else if x = 6 then T 16 - T 17 else if x = 7 then T 20 - T 21 else if x = 8 then T 10 else -1
theorem hX_state {post : Int32 → SS → AA → Prop} {S : SS} {A : AA} {x : Int32} (hp : post (stX S x) S A) : wX_T_state post S A x := by
  unfold wX_T_state wX_Dl_toCome wX_Sd_toSend
  unfold stX at hp
  refine ⟨fun h => ?_, fun h => ?_⟩
  · rw [if_pos h] at hp; exact hp
  · rw [if_neg h] at hp
    refine ⟨fun h => ?_, fun h => ?_⟩
    · rw [if_pos h] at hp; exact hp
    · rw [if_neg h] at hp
      refine ⟨fun h => ?_, fun h => ?_⟩
      · rw [if_pos h] at hp
        refine ⟨fun g => ?_, fun g => ?_⟩
        · rw [if_pos g] at hp; exact hp
        · rw [if_neg g] at hp; exact hp
      · rw [if_neg h] at hp
        refine ⟨fun h => ?_, fun h => ?_⟩
        · rw [if_pos h] at hp
          refine ⟨fun g => ?_, fun g => ?_⟩
          · rw [if_pos g] at hp; exact hp
          · rw [if_neg g] at hp; exact hp
        · rw [if_neg h] at hp
          refine ⟨fun h => ?_, fun h => ?_⟩
          · rw [if_pos h] at hp
            refine ⟨fun g => ?_, fun g => ?_⟩
            · rw [if_pos g] at hp; exact hp
            · rw [if_neg g] at hp; exact hp
          · rw [if_neg h] at hp
            refine ⟨fun h => ?_, fun h => ?_⟩
            · rw [if_pos h] at hp; exact hp
            · rw [if_neg h] at hp
              refine ⟨fun h => ?_, fun h => ?_⟩
              · rw [if_pos h] at hp; exact hp
              · rw [if_neg h] at hp
                refine ⟨fun h => ?_, fun h => ?_⟩
                · rw [if_pos h] at hp
                  refine ⟨fun g => ?_, fun g => ?_⟩
                  · rw [if_pos g] at hp; exact hp
                  · rw [if_neg g] at hp; exact hp
                · rw [if_neg h] at hp
                  refine ⟨fun h => ?_, fun h => ?_⟩
                  · rw [if_pos h] at hp; exact hp
                  · rw [if_neg h] at hp
                    exact hp
theorem hM_state {post : Int32 → SS → AA → Prop} {T : SS} {B : AA} {x : Int32} (hp : post (stM T x) T B) : wM_M_state post T B x := by
  unfold wM_M_state wM_M_toCome
  unfold stM at hp
  refine ⟨fun h => ?_, fun h => ?_⟩
  · rw [if_pos h] at hp; exact hp
  · rw [if_neg h] at hp
    refine ⟨fun h => ?_, fun h => ?_⟩
    · rw [if_pos h] at hp; exact hp
    · rw [if_neg h] at hp
      refine ⟨fun h => ?_, fun h => ?_⟩
      · rw [if_pos h] at hp
        refine ⟨fun g => ?_, fun g => ?_⟩
        · rw [if_pos g] at hp; exact hp
        · rw [if_neg g] at hp; exact hp
      · rw [if_neg h] at hp
        refine ⟨fun h => ?_, fun h => ?_⟩
        · rw [if_pos h] at hp
          refine ⟨fun g => ?_, fun g => ?_⟩
          · rw [if_pos g] at hp; exact hp
          · rw [if_neg g] at hp; exact hp
        · rw [if_neg h] at hp
          refine ⟨fun h => ?_, fun h => ?_⟩
          · rw [if_pos h] at hp
            refine ⟨fun g => ?_, fun g => ?_⟩
            · rw [if_pos g] at hp; exact hp
            · rw [if_neg g] at hp; exact hp
          · rw [if_neg h] at hp
            refine ⟨fun h => ?_, fun h => ?_⟩
            · rw [if_pos h] at hp; exact hp
            · rw [if_neg h] at hp
              refine ⟨fun h => ?_, fun h => ?_⟩
              · rw [if_pos h] at hp; exact hp
              · rw [if_neg h] at hp
                refine ⟨fun h => ?_, fun h => ?_⟩
                · rw [if_pos h] at hp; exact hp
                · rw [if_neg h] at hp
                  refine ⟨fun h => ?_, fun h => ?_⟩
                  · rw [if_pos h] at hp; exact hp
                  · rw [if_neg h] at hp
                    exact hp
theorem st_eq {n : Nat} {S : SS} {A : AA} {T : SS} {B : AA} (h : Rel n S A T B) (x : Int32) : stX S x = stM T x := by
  obtain ⟨⟨f1, f2, f3, f4, f5⟩, ⟨c1, c2, c3, c4, c5, c6, c7, c8, c9, c10, c11, c12, c13, c14, c15, c16, c17⟩, hI, hD, ⟨q1, q2, L, G, q3, q4, q5, q6, q7, q8⟩, hA, hR⟩ := h
  have e3 : (if S 23 = 0 then -1 else S 25 - S 26) = (if 0 ≤ T 12 then T 13 - T 14 else -1) := by
    rcases hD with ⟨d1, d2⟩ | ⟨d1, d2, d3, d4, d5, d6, _⟩
    · rw [if_pos d1, d2, if_neg (by decide)]
    · rw [d1, d4, d5, if_neg (by decide)]
      rcases d3 with d3 | d3 <;> rw [d3, if_pos (by decide)]
  have e7 : (if S 15 = 0 then 0 else S 11 - S 12) = T 20 - T 21 := by
    rcases hA with ⟨a1, a2, a3⟩ | ⟨a1, a2, a3, a4, a5, a6, a7, _⟩
    · rw [if_pos a1, a2, a3]; decide
    · rw [a1, a2, a3, a5, a6, if_neg (by decide)]
  have e6 : S 8 = T 16 - T 17 := by rw [q7, q3, q4, pk_sub q5]
  unfold stX stM
  rw [c1, c3, c5, e3, f3, c7, e6, e7, c16]
theorem ok_state {n : Nat} {S : SS} {A : AA} {T : SS} {B : AA} (h : Rel n S A T B) {x : Int32} {P : Int32 → SS → AA → Prop} (hP : ∀ (r : Int32) (S1 : SS) (A1 : AA), OkI n r S1 A1 (fun Q => wM_M_state Q T B x) → P r S1 A1) : wX_T_state P S A x :=
  hX_state (hP _ _ _ (fun Q hQ => hM_state (by rw [← st_eq h x]; exact hQ _ _ h.step)))
/-! peek, take -/
theorem ok_peek {n : Nat} {S : SS} {A : AA} {T : SS} {B : AA} (h : Rel n S A T B) {x : Int32} {P : Int32 → SS → AA → Prop} (hP : ∀ (r : Int32) (S1 : SS) (A1 : AA), OkI n r S1 A1 (fun Q => wM_M_peek Q T B x) → P r S1 A1) : wX_T_peek P S A x := by
  have hs := h.step
  obtain ⟨-, -, -, -, -, -, c, f, r1, r2, r3, r4, r5, r6⟩ := h
  unfold wX_T_peek wX_Rw_byteOfFirst
  have hc0 : T 24 ≤ 0 ↔ c = 0 := by
    rw [r2, show (nI c ≤ 0 ↔ c ≤ 0) from pz_le (b := 0) (by omega) (by decide)]
    omega
  have hs0 : S 17 = 0 ↔ c = 0 := by
    rw [r1]
    exact nI_eq (b := 0) (by omega) (by decide)
  refine ⟨fun h1 => hP _ _ _ (fun Q hQ => ?_), fun h1 => ⟨fun h2 => hP _ _ _ (fun Q hQ => ?_), fun h2 => ⟨fun h3 => ?_, fun h3 => hP _ _ _ (fun Q hQ => ?_)⟩⟩⟩
  · unfold wM_M_peek
    exact ⟨fun _ => hQ _ _ hs, fun _ => ⟨fun _ => hQ _ _ hs, fun q => absurd h1 q⟩⟩
  · unfold wM_M_peek
    exact ⟨fun _ => hQ _ _ hs, fun _ => ⟨fun q => absurd q h1, fun _ => ⟨fun _ => hQ _ _ hs, fun q => absurd h2 q⟩⟩⟩
  · have hc : ¬ c = 0 := fun q => h3 (hs0.mpr q)
    obtain ⟨j, hj, rfl⟩ := nI_of2 (x := x) (M := 7) (n := 7) (by decide) h1 (by
      have h4 : x < 8 := Int32.not_le.mp h2
      rw [Int32.lt_iff_toInt_lt] at h4
      rw [Int32.le_iff_toInt_le]
      have e8 : (8 : Int32).toInt = 8 := by decide
      have e7 : (7 : Int32).toInt = 7 := by decide
      omega)
    have e : S 16 * (8 : Int32) + nI j = nI (f * 8 + j) := by rw [r4, show nI f * (8 : Int32) = nI (f * 8) from pk_mul f 8, nI_add]
    rw [e, nI_clamp (n := f * 8 + j) (by omega)]
    refine ⟨vp_in_nI (by omega) (by decide), hP _ _ _ (fun Q hQ => ?_)⟩
    have h6 := r6 0 (by omega) j (by omega)
    rw [show ((f + 0) % 12) * 8 + j = f * 8 + j by omega, show 8 * 0 + j = j by omega] at h6
    unfold wM_M_peek
    refine ⟨fun q => absurd (hc0.mp q) hc, fun _ => ⟨fun q => absurd q h1, fun _ => ⟨fun q => absurd q h2, fun _ => ⟨vp_in_nI (by omega) (by decide), ?_⟩⟩⟩⟩
    rw [nI_clamp (by omega), ← h6]
    exact hQ _ _ hs
  · unfold wM_M_peek
    exact ⟨fun _ => hQ _ _ hs, fun q => absurd (hc0.mpr (hs0.mp h3)) q⟩
theorem hM_take {post : Int32 → SS → AA → Prop} {T : SS} {B : AA} {c : Nat} (hc : T 24 = nI c) (h12 : c ≤ 12) (h0 : c = 0 → post 0 T B) (h1 : ∀ c1 : Nat, c = c1 + 1 → post 1 (va_up T 24 (nI c1)) (va_up B 3 (fun i => if i < 8 * c1 then B 3 (i + 8) else B 3 i))) : wM_M_take post T B := by
  unfold wM_M_take
  refine ⟨fun h => ?_, fun h => h0 ?_⟩
  · have hc0 : ¬ c = 0 := fun q => h (by rw [hc, q]; rfl)
    obtain ⟨c1, rfl⟩ : ∃ c1, c = c1 + 1 := ⟨c - 1, by omega⟩
    have e : T 24 - (1 : Int32) = nI c1 := by rw [hc]; exact nI_pred c1
    rw [e]
    unfold wM_M_take_21
    intro X21 hX21
    have key : ∀ m k : Nat, k + m = 8 * c1 → X21 (va_up T 24 (nI c1)) (va_up B 3 (fun i => if i < k then B 3 (i + 8) else B 3 i)) (nI k) := by
      intro m
      induction m with
      | zero =>
        intro k hk
        have hk : k = 8 * c1 := by omega
        subst hk
        apply hX21
        unfold wM_M_take_21B
        rw [pz_us, show (8 : Int32) * nI c1 = nI (8 * c1) from pk_mul 8 c1]
        exact ⟨fun _ => h1 c1 rfl, fun q => absurd (Int32.le_refl _) q⟩
      | succ m ih =>
        intro k hk
        apply hX21
        unfold wM_M_take_21B
        rw [pz_us, show (8 : Int32) * nI c1 = nI (8 * c1) from pk_mul 8 c1, show nI k + (8 : Int32) = nI (k + 8) from nI_add k 8, nI_clamp (n := k + 8) (by omega), nI_clamp (n := k) (by omega), pz_us, pz_upup, pz_inc]
        refine ⟨fun q => absurd q (nI_ge (by omega) (by omega)), fun _ => ⟨vp_in_nI (by omega) (by decide), vp_in_nI (by omega) (by decide), ?_⟩⟩
        have h2 := ih (k + 1) (by omega)
        have e2 : upd (fun i => if i < k then B 3 (i + 8) else B 3 i) k (if k + 8 < k then B 3 (k + 8 + 8) else B 3 (k + 8)) = (fun i => if i < k + 1 then B 3 (i + 8) else B 3 i) := by
          funext i
          unfold upd
          by_cases hi : i = k
          · subst hi
            rw [if_pos rfl, if_neg (by omega), if_pos (by omega)]
          · rw [if_neg hi]
            show (if i < k then B 3 (i + 8) else B 3 i) = (if i < k + 1 then B 3 (i + 8) else B 3 i)
            by_cases h3 : i < k
            · rw [if_pos h3, if_pos (by omega)]
            · rw [if_neg h3, if_neg (by omega)]
        rw [← e2] at h2
        exact h2
    have h2 := key (8 * c1) 0 (by omega)
    have e3 : va_up B 3 (fun i => if i < 0 then B 3 (i + 8) else B 3 i) = B := by
      have : (fun i => if i < 0 then B 3 (i + 8) else B 3 i) = B 3 := by
        funext i
        exact if_neg (Nat.not_lt_zero i)
      rw [this, pz_up]
    rw [e3] at h2
    exact h2
  · rw [hc] at h
    exact (nI_eq (b := 0) (by omega) (by decide)).mp h
theorem ok_take {n : Nat} {S : SS} {A : AA} {T : SS} {B : AA} (h : Rel n S A T B) {P : Int32 → SS → AA → Prop} (hP : ∀ (r : Int32) (S1 : SS) (A1 : AA), OkI n r S1 A1 (fun Q => wM_M_take Q T B) → P r S1 A1) : wX_T_take P S A := by
  have hs := h.step
  obtain ⟨hF, hC, hI, hD, hQ, hA, c, f, r1, r2, r3, r4, r5, r6⟩ := h.step
  unfold wX_T_take wX_Rw_dropFirst
  have hs0 : S 17 = 0 ↔ c = 0 := by
    rw [r1]
    exact nI_eq (b := 0) (by omega) (by decide)
  refine ⟨fun h1 => hP _ _ _ (fun Q hQ1 => ?_), fun h1 => hP _ _ _ (fun Q hQ1 => ?_)⟩
  · refine hM_take r2 r3 (fun q => absurd (hs0.mpr q) h1) (fun c1 hc1 => hQ1 _ _ ?_)
    subst hc1
    have e1 : S 17 - (1 : Int32) = nI c1 := by rw [r1]; exact nI_pred c1
    have e2 : (S 16 + (1 : Int32)) - (S 16 + (1 : Int32)) / (12 : Int32) * (12 : Int32) = nI ((f + 1) % 12) := by
      rw [r4, pz_inc]
      exact pk_rem (d := 12) (by omega) (by decide) (by decide)
    rw [e1, e2]
    refine ⟨hF, hC, hI, hD, hQ, hA, c1, (f + 1) % 12, rfl, rfl, by omega, rfl, Nat.mod_lt _ (by decide), fun j hj k hk => ?_⟩
    have h6 := r6 (j + 1) (by omega) k hk
    show A 2 ((((f + 1) % 12 + j) % 12) * 8 + k) = (if 8 * j + k < 8 * c1 then B 3 (8 * j + k + 8) else B 3 (8 * j + k))
    rw [if_pos (by omega), show ((f + 1) % 12 + j) % 12 = (f + (j + 1)) % 12 by omega, h6]
    congr 1
    omega
  · exact hM_take r2 r3 (fun _ => hQ1 _ _ hs) (fun c1 hc1 => absurd (hs0.mp h1) (by omega))
