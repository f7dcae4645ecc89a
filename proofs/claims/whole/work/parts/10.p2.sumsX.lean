/-- the program's sum (X) -/
theorem hX_sumOf {post : Int32 → SS → AA → Prop} {S : SS} {A : AA} (hA : by8 (A 0)) {s0 : Nat} (hs : s0 ≤ 1) (hp : post (sumF (A 0) (48 * s0) 32) S A) : wX_Mm_sumOf post S A (nI s0) := by
  have main : ∀ base : Nat, base ≤ 48 → post (sumF (A 0) base 32) S A → wX_Mm_sumOf_11 post S A (nI base) := by
    intro base hb hp
    unfold wX_Mm_sumOf_11 wX_Mm_sumOf_18
    intro X18 hX18
    have e32 : nI base + (32 : Int32) = nI (base + 32) := nI_add _ 32
    have key : ∀ n k : Nat, k + n = 32 → X18 S A (nI base) (sumF (A 0) base k) (nI (base + k)) := by
      intro n
      induction n with
      | zero =>
        intro k hk
        have hk : k = 32 := by omega
        subst hk
        apply hX18
        unfold wX_Mm_sumOf_18B
        rw [e32]
        exact ⟨fun _ => hp, fun h => absurd (Int32.le_refl _) h⟩
      | succ n ih =>
        intro k hk
        apply hX18
        unfold wX_Mm_sumOf_18B
        rw [e32, nI_clamp (by omega)]
        refine ⟨fun h => absurd h (nI_ge (by omega) (by omega)), fun _ => ⟨vp_in_nI (by omega) (by decide), ?_⟩⟩
        unfold wX_Mm_sumOf_43
        intro X43 hX43
        obtain ⟨b, hb8, eb⟩ := hA (base + k)
        obtain ⟨v, hv, ev⟩ := sumF_in hA base k
        have h8 : A 0 (base + k) <<< ((8 : Int32) &&& 31) = A 0 (base + k) * 256 := by rw [eb]; exact shl8_X hb8
        rw [h8]
        have hy : sumF (A 0) base k ^^^ (A 0 (base + k) * 256) = nI (v ^^^ (b * 256)) := by rw [ev, eb, byte256]; exact nx_xor _ _
        have hyl : v ^^^ (b * 256) < 65536 := Nat.xor_lt_two_pow (n := 16) hv (by omega)
        have key2 : ∀ m j : Nat, j + m = 8 → X43 S A (nI base) (crc8 (sumF (A 0) base k ^^^ (A 0 (base + k) * 256)) j) (nI (base + k)) (nI j) := by
          intro m
          induction m with
          | zero =>
            intro j hj
            have hj : j = 8 := by omega
            subst hj
            apply hX43
            unfold wX_Mm_sumOf_43B
            refine ⟨fun _ => ?_, fun h => absurd (show (8 : Int32) ≤ nI 8 from Int32.le_refl _) h⟩
            have h2 := ih (k + 1) (by omega)
            rw [pz_inc]
            exact h2
          | succ m ihm =>
            intro j hj
            apply hX43
            unfold wX_Mm_sumOf_43B wX_Mm_sumOf_76
            have h2 := ihm (j + 1) (by omega)
            obtain ⟨u, hu, eu⟩ := crc8_in hyl j
            have e1 : crc8 (sumF (A 0) base k ^^^ (A 0 (base + k) * 256)) j = nI u := by rw [hy]; exact eu
            rw [show crc8 (sumF (A 0) base k ^^^ (A 0 (base + k) * 256)) (j + 1) = stp (crc8 (sumF (A 0) base k ^^^ (A 0 (base + k) * 256)) j) from rfl, e1] at h2
            rw [e1, pz_inc j]
            refine ⟨fun h => absurd h (nI_ge (b := 8) (by omega) (by decide)), fun _ => ⟨fun h => ?_, fun h => ?_⟩⟩
            · rw [(stp_X hu).1 h] at h2
              exact h2
            · rw [(stp_X hu).2 h] at h2
              exact h2
        exact key2 8 0 rfl
    exact key 32 0 rfl
  unfold wX_Mm_sumOf
  rcases (show s0 = 0 ∨ s0 = 1 by omega) with rfl | rfl
  · exact ⟨fun _ => main 0 (by decide) hp, fun h => absurd h (by decide)⟩
  · exact ⟨fun h => absurd rfl h, fun _ => main 48 (by decide) hp⟩
/-- the program's sum (N) -/
theorem hN_sumOf {post : Int32 → SS → AA → Prop} {S : SS} {A : AA} (hA : by8 (A 0)) {s0 : Nat} (hs : s0 ≤ 1) (hp : post (sumF (A 0) (48 * s0) 32) S A) : wN_Mm_sumOf post S A (nI s0) := by
  have main : ∀ base : Nat, base ≤ 48 → post (sumF (A 0) base 32) S A → wN_Mm_sumOf_11 post S A (nI base) := by
    intro base hb hp
    unfold wN_Mm_sumOf_11 wN_Mm_sumOf_18
    intro X18 hX18
    have e32 : nI base + (32 : Int32) = nI (base + 32) := nI_add _ 32
    have key : ∀ n k : Nat, k + n = 32 → X18 S A (nI base) (sumF (A 0) base k) (nI (base + k)) := by
      intro n
      induction n with
      | zero =>
        intro k hk
        have hk : k = 32 := by omega
        subst hk
        apply hX18
        unfold wN_Mm_sumOf_18B
        rw [e32]
        exact ⟨fun _ => hp, fun h => absurd (Int32.le_refl _) h⟩
      | succ n ih =>
        intro k hk
        apply hX18
        unfold wN_Mm_sumOf_18B
        rw [e32, nI_clamp (by omega)]
        refine ⟨fun h => absurd h (nI_ge (by omega) (by omega)), fun _ => ⟨vp_in_nI (by omega) (by decide), ?_⟩⟩
        unfold wN_Mm_sumOf_43
        intro X43 hX43
        obtain ⟨b, hb8, eb⟩ := hA (base + k)
        obtain ⟨v, hv, ev⟩ := sumF_in hA base k
        have h8 : A 0 (base + k) <<< ((8 : Int32) &&& 31) = A 0 (base + k) * 256 := by rw [eb]; exact shl8_X hb8
        rw [h8]
        have hy : sumF (A 0) base k ^^^ (A 0 (base + k) * 256) = nI (v ^^^ (b * 256)) := by rw [ev, eb, byte256]; exact nx_xor _ _
        have hyl : v ^^^ (b * 256) < 65536 := Nat.xor_lt_two_pow (n := 16) hv (by omega)
        have key2 : ∀ m j : Nat, j + m = 8 → X43 S A (nI base) (crc8 (sumF (A 0) base k ^^^ (A 0 (base + k) * 256)) j) (nI (base + k)) (nI j) := by
          intro m
          induction m with
          | zero =>
            intro j hj
            have hj : j = 8 := by omega
            subst hj
            apply hX43
            unfold wN_Mm_sumOf_43B
            refine ⟨fun _ => ?_, fun h => absurd (show (8 : Int32) ≤ nI 8 from Int32.le_refl _) h⟩
            have h2 := ih (k + 1) (by omega)
            rw [pz_inc]
            exact h2
          | succ m ihm =>
            intro j hj
            apply hX43
            unfold wN_Mm_sumOf_43B wN_Mm_sumOf_76
            have h2 := ihm (j + 1) (by omega)
            obtain ⟨u, hu, eu⟩ := crc8_in hyl j
            have e1 : crc8 (sumF (A 0) base k ^^^ (A 0 (base + k) * 256)) j = nI u := by rw [hy]; exact eu
            rw [show crc8 (sumF (A 0) base k ^^^ (A 0 (base + k) * 256)) (j + 1) = stp (crc8 (sumF (A 0) base k ^^^ (A 0 (base + k) * 256)) j) from rfl, e1] at h2
            rw [e1, pz_inc j]
            refine ⟨fun h => absurd h (nI_ge (b := 8) (by omega) (by decide)), fun _ => ⟨fun h => ?_, fun h => ?_⟩⟩
            · rw [(stp_X hu).1 h] at h2
              exact h2
            · rw [(stp_X hu).2 h] at h2
              exact h2
        exact key2 8 0 rfl
    exact key 32 0 rfl
  unfold wN_Mm_sumOf
  rcases (show s0 = 0 ∨ s0 = 1 by omega) with rfl | rfl
  · exact ⟨fun _ => main 0 (by decide) hp, fun h => absurd h (by decide)⟩
  · exact ⟨fun h => absurd rfl h, fun _ => main 48 (by decide) hp⟩
