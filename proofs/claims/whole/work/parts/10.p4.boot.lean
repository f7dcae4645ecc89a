/-! good slots, the best one, booting -/
theorem nx_or (a b : Nat) : nI a ||| nI b = nI (a ||| b) := by
  apply Int32.toBitVec_inj.1
  show BitVec.ofNat 32 a ||| BitVec.ofNat 32 b = BitVec.ofNat 32 (a ||| b)
  apply BitVec.eq_of_getLsbD_eq
  intro i hi
  simp [hi]
theorem hilo {a b : Nat} (ha : a < 256) (hb : b < 256) : (nI a <<< ((8 : Int32) &&& 31)) ||| nI b = nI a * (256 : Int32) + nI b := by
  rw [shl8_X ha, byte256, nx_or, nI_add]
  congr 1
  rw [show a * 256 = 2 ^ 8 * a by omega]
  exact (Nat.two_pow_add_eq_or_of_lt (by omega) a).symm
def gd (f : Nat → Int32) (s : Nat) : Prop := f (48 * s + 32) = 0 ∧ f (48 * s + 34) * 256 + f (48 * s + 35) = sumF f (48 * s) 32
theorem gd_em (f : Nat → Int32) (s : Nat) : gd f s ∨ ¬ gd f s := Classical.em _
noncomputable def gs (f : Nat → Int32) (s : Nat) : Int32 := @ite Int32 (gd f s) (Classical.propDecidable _) (f (48 * s + 33)) (-1)
theorem gs_y {f : Nat → Int32} {s : Nat} (h : gd f s) : gs f s = f (48 * s + 33) := if_pos h
theorem gs_n {f : Nat → Int32} {s : Nat} (h : ¬ gd f s) : gs f s = -1 := if_neg h
noncomputable def best (f : Nat → Int32) : Int32 := if gs f 1 ≤ gs f 0 then (if gs f 0 = -1 then -1 else 0) else 1
theorem best_in (f : Nat → Int32) : best f = -1 ∨ best f = 0 ∨ best f = 1 := by
  unfold best
  split
  · split
    · exact Or.inl rfl
    · exact Or.inr (Or.inl rfl)
  · exact Or.inr (Or.inr rfl)
theorem byte_neg {f : Nat → Int32} (h : by8 f) (i : Nat) : ¬ f i = -1 ∧ (-1 : Int32) ≤ f i ∧ ¬ f i ≤ -1 := by
  obtain ⟨b, hb, e⟩ := h i
  rw [e]
  have h0 : (nI b).toInt = (b : Int) := nI_toInt (by omega)
  have h1 : (-1 : Int32).toInt = -1 := by decide
  refine ⟨fun q => ?_, ?_, fun q => ?_⟩
  · rw [q, h1] at h0; omega
  · rw [Int32.le_iff_toInt_le, h0, h1]; omega
  · rw [Int32.le_iff_toInt_le, h0, h1] at q; omega
theorem hX_byteAt {post : Int32 → SS → AA → Prop} {S : SS} {A : AA} {n : Nat} (hn : n < 96) (hp : post (A 0 n) S A) : wX_Mm_byteAt post S A (nI n) := by
  unfold wX_Mm_byteAt
  rw [nI_clamp (by omega)]
  exact ⟨fun h => absurd h (nI_pos (by omega)), fun _ => ⟨fun h => absurd h (nI_ge (b := 96) hn (by decide)), fun _ => ⟨vp_in_nI hn (by decide), hp⟩⟩⟩
theorem hX_goodSerial {post : Int32 → SS → AA → Prop} {S : SS} {A : AA} (hA : by8 (A 0)) {s0 : Nat} (hs : s0 ≤ 1) (hp : post (gs (A 0) s0) S A) : wX_Mm_goodSerial post S A (nI s0) := by
  unfold wX_Mm_goodSerial wX_Mm_headerOf
  have e0 : nI s0 * (48 : Int32) + (32 : Int32) = nI (48 * s0 + 32) := by
    rw [show nI s0 * (48 : Int32) = nI (s0 * 48) from pk_mul s0 48, Nat.mul_comm]
    exact nI_add _ 32
  rw [e0]
  show wX_Mm_byteAt _ S A (nI (48 * s0 + 32) + (2 : Int32))
  rw [show nI (48 * s0 + 32) + (2 : Int32) = nI (48 * s0 + 34) from nI_add _ 2, show nI (48 * s0 + 32) + (3 : Int32) = nI (48 * s0 + 35) from nI_add _ 3, show nI (48 * s0 + 32) + (1 : Int32) = nI (48 * s0 + 33) from nI_add _ 1]
  refine hX_byteAt (by omega) (hX_byteAt (by omega) (hX_byteAt (by omega) ?_))
  obtain ⟨a, ha, ea⟩ := hA (48 * s0 + 34)
  obtain ⟨b, hb, eb⟩ := hA (48 * s0 + 35)
  have e : (A 0 (48 * s0 + 34) <<< ((8 : Int32) &&& 31)) ||| A 0 (48 * s0 + 35) = A 0 (48 * s0 + 34) * 256 + A 0 (48 * s0 + 35) := by rw [ea, eb]; exact hilo ha hb
  refine ⟨fun h => ?_, fun h => hX_sumOf hA hs ?_⟩
  · rw [gs_n (fun q => h q.1)] at hp
    exact hp
  · rw [e]
    refine ⟨fun h2 => ?_, fun h2 => hX_byteAt (by omega) ?_⟩
    · rw [gs_n (fun q => h2 q.2)] at hp
      exact hp
    · rw [gs_y ⟨h, h2⟩] at hp
      exact hp
theorem hX_bestSlot {post : Int32 → SS → AA → Prop} {S : SS} {A : AA} (hA : by8 (A 0)) (hp : post (best (A 0)) S A) : wX_Mm_bestSlot post S A := by
  unfold wX_Mm_bestSlot
  refine hX_goodSerial (s0 := 0) hA (by decide) (hX_goodSerial (s0 := 1) hA (by decide) ?_)
  unfold best at hp
  refine ⟨fun h => ⟨fun h2 => ?_, fun h2 => ?_⟩, fun h => ?_⟩
  · rw [if_pos h, if_neg h2] at hp; exact hp
  · rw [if_pos h, if_pos h2] at hp; exact hp
  · rw [if_neg h] at hp; exact hp
theorem hM_isGood {post : Int32 → SS → AA → Prop} {T : SS} {B : AA} {s0 : Nat} (hs : s0 ≤ 1) (hy : gd (B 0) s0 → post 1 T B) (hn : ¬ gd (B 0) s0 → post 0 T B) : wM_M_isGood post T B (nI s0) := by
  unfold wM_M_isGood
  have e0 : (48 : Int32) * nI s0 + (32 : Int32) = nI (48 * s0 + 32) := by
    rw [show (48 : Int32) * nI s0 = nI (48 * s0) from pk_mul 48 s0]
    exact nI_add _ 32
  rw [e0, show nI (48 * s0 + 32) + (2 : Int32) = nI (48 * s0 + 34) from nI_add _ 2, show nI (48 * s0 + 32) + (3 : Int32) = nI (48 * s0 + 35) from nI_add _ 3, nI_clamp (n := 48 * s0 + 32) (by omega), nI_clamp (n := 48 * s0 + 34) (by omega), nI_clamp (n := 48 * s0 + 35) (by omega)]
  refine ⟨vp_in_nI (by omega) (by decide), fun h => hn (fun q => h q.1), fun h => ⟨vp_in_nI (by omega) (by decide), vp_in_nI (by omega) (by decide), hM_sumOf hs ⟨fun h2 => hn (fun q => h2 q.2), fun h2 => hy ⟨h, h2⟩⟩⟩⟩
theorem hM_bestSlot {post : Int32 → SS → AA → Prop} {T : SS} {B : AA} (hB : by8 (B 0)) (hp : post (best (B 0)) T B) : wM_M_bestSlot post T B := by
  have b33 := byte_neg hB 33
  have b81 := byte_neg hB 81
  have i33 : vp_in (33 : Int32) 96 := vp_in_nI (n := 33) (by decide) (by decide)
  have i81 : vp_in (81 : Int32) 96 := vp_in_nI (n := 81) (by decide) (by decide)
  have c33 : (33 : Int32).toNatClampNeg = 33 := by decide
  have c81 : (81 : Int32).toNatClampNeg = 81 := by decide
  unfold best at hp
  unfold wM_M_bestSlot
  refine hM_isGood (s0 := 0) (by decide) (fun g0 => ?_) (fun g0 => ?_)
  · have e0 : gs (B 0) 0 = B 0 33 := gs_y g0
    refine hM_isGood (s0 := 1) (by decide) (fun g1 => ?_) (fun g1 => ?_)
    · have e1 : gs (B 0) 1 = B 0 81 := gs_y g1
      rw [e0, e1] at hp
      refine ⟨fun _ => ?_, fun h => absurd h (by decide)⟩
      unfold wM_M_bestSlot_22 wM_M_bestSlot_47
      rw [c33, c81]
      refine ⟨fun h => absurd h (by decide), fun _ => ⟨fun h => absurd h (by decide), fun _ => ⟨i81, i33, fun h => ?_, fun h => ?_⟩⟩⟩
      · rw [if_pos h, if_neg b33.1] at hp; exact hp
      · rw [if_neg h] at hp; exact hp
    · rw [e0, gs_n g1, if_pos b33.2.1, if_neg b33.1] at hp
      refine ⟨fun _ => ?_, fun h => absurd h (by decide)⟩
      unfold wM_M_bestSlot_22
      exact ⟨fun h => absurd h (by decide), fun _ => ⟨fun _ => hp, fun h => absurd rfl h⟩⟩
  · have e0 : gs (B 0) 0 = -1 := gs_n g0
    refine hM_isGood (s0 := 1) (by decide) (fun g1 => ?_) (fun g1 => ?_)
    · have e1 : gs (B 0) 1 = B 0 81 := gs_y g1
      rw [e0, e1, if_neg b81.2.2] at hp
      refine ⟨fun h => absurd rfl h, fun _ => ⟨fun _ => ?_, fun h => absurd h (by decide)⟩⟩
      unfold wM_M_bestSlot_22 wM_M_bestSlot_47
      exact ⟨fun _ => hp, fun h => absurd rfl h⟩
    · rw [e0, gs_n g1, if_pos (Int32.le_refl _), if_pos rfl] at hp
      exact ⟨fun h => absurd rfl h, fun _ => ⟨fun h => absurd rfl h, fun _ => hp⟩⟩
def btX (S : SS) (r : Int32) : SS := va_up (va_up (va_up (va_up (va_up (va_up (va_up (va_up (va_up (va_up (va_up (va_up (va_up S 0 r) 1 1) 2 (-1)) 3 0) 4 0) 18 0) 19 0) 21 0) 22 0) 23 0) 7 0) 8 0) 15 0
def btM (T : SS) (r : Int32) : SS := va_up (va_up (va_up (va_up (va_up (va_up (va_up (va_up (va_up (va_up (va_up (va_up (va_up T 2 r) 3 1) 4 0) 8 0) 12 (-1)) 16 0) 17 0) 20 0) 21 0) 5 (-1)) 9 0) 10 0) 6 0
theorem hX_boot {post : SS → AA → Prop} {S : SS} {A : AA} (hA : by8 (A 0)) (hp : post (btX S (best (A 0))) A) : wX_T_boot post S A := by
  unfold wX_T_boot
  exact hX_bestSlot hA hp
theorem hM_boot {post : SS → AA → Prop} {T : SS} {B : AA} (hB : by8 (B 0)) (hp : post (btM T (best (B 0))) B) : wM_M_boot post T B := by
  unfold wM_M_boot
  exact hM_bestSlot hB hp
