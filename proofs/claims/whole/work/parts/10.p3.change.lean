/-! a byte that is changed, bit by bit, under an ordered cut or not -/
/-- which bits may change: of the k-th byte of a writing -/
def mk8 (o num : Int32) (k : Nat) : Int32 := if o = 0 then 255 else (num.toUInt32 >>> ((nI (8 * (k % 4))).toUInt32 &&& Int32.toUInt32 31)).toInt32
def chg (o num : Int32) (k : Nat) (c a : Int32) : Int32 := c ^^^ ((c ^^^ a) &&& mk8 o num k)
theorem bt_nI {b : Nat} (hb : b < 256) {i : Nat} (hi : 8 ≤ i) : bt (nI b) i = false := by
  unfold bt
  show (BitVec.ofNat 32 b).getLsbD i = false
  rw [BitVec.getLsbD_ofNat]
  have : b.testBit i = false := Nat.testBit_lt_two_pow (Nat.lt_of_lt_of_le hb (by
    have := Nat.pow_le_pow_right (n := 2) (by decide) hi
    omega))
  rw [this, Bool.and_false]
theorem bt_1 : ∀ i, i < 32 → bt 1 i = decide (i = 0) := by decide +kernel
/-- a number whose bits from 8 on are none is a byte -/
theorem byte_of {x : Int32} (h : ∀ i, 8 ≤ i → i < 32 → bt x i = false) : ∃ b : Nat, b < 256 ∧ x = nI b := by
  refine ⟨x.toBitVec.toNat % 256, Nat.mod_lt _ (by decide), ?_⟩
  have e : x &&& 255 = nI (x.toBitVec.toNat % 2 ^ 8) := pk_and x 8 (by decide +kernel)
  have e2 : x &&& 255 = x := by
    apply b_ext
    intro i hi
    rw [b_and, b_255]
    rcases Nat.lt_or_ge i 8 with h8 | h8
    · simp [h8]
    · rw [h i h8 hi, Bool.false_and]
  exact e2.symm.trans e
theorem chg_byte {o num : Int32} {k c a : Nat} (hc : c < 256) (ha : a < 256) : ∃ b : Nat, b < 256 ∧ chg o num k (nI c) (nI a) = nI b := by
  apply byte_of
  intro i h8 hi
  unfold chg
  rw [b_xor, b_and, b_xor, bt_nI hc h8, bt_nI ha h8]
  rfl
/-- one bit of a number, as the reference takes it -/
theorem bit_s (x : Int32) {b : Nat} (hb : b < 32) : (x >>> (nI b &&& 31)) &&& (1 : Int32) = if bt x b then 1 else 0 := by
  apply b_ext
  intro i hi
  rw [b_and, b_sshr b hb x hi, bt_1 i hi]
  by_cases h0 : i = 0
  · subst h0
    have : b + 0 < 32 := by omega
    rw [if_pos this, Nat.add_zero]
    cases bt x b <;> rfl
  · rw [decide_eq_false h0, Bool.and_false]
    split
    · rw [bt_1 i hi, decide_eq_false h0]
    · exact (b_0 i).symm
theorem bit_u (x : Int32) {n : Nat} (hn : n < 32) : (x.toUInt32 >>> ((nI n).toUInt32 &&& Int32.toUInt32 31)).toInt32 &&& (1 : Int32) = if bt x n then 1 else 0 := by
  apply b_ext
  intro i hi
  rw [b_and, b_ushr n hn x i, bt_1 i hi]
  by_cases h0 : i = 0
  · subst h0
    rw [Nat.add_zero]
    cases bt x n <;> rfl
  · rw [decide_eq_false h0, Bool.and_false]
    split
    · rw [bt_1 i hi, decide_eq_false h0]
    · exact (b_0 i).symm
theorem bt_mk8 (o num : Int32) (k : Nat) {i : Nat} (hi : i < 8) : bt (mk8 o num k) i = if o = 0 then true else bt num (8 * (k % 4) + i) := by
  unfold mk8
  split
  · rw [b_255]; exact decide_eq_true hi
  · exact b_ushr _ (by omega) num i
/-- the program's change -/
theorem hX_change {post : SS → AA → Prop} {S : SS} {A : AA} {at0 k0 : Nat} {v : Int32} (hat : at0 < 96) (hk : k0 < 2 ^ 20) (hp : post S (va_up A 0 (upd (A 0) at0 (chg (S 5) (S 6) k0 (A 0 at0) v)))) : wX_Mm_change post S A (nI at0) (nI k0) v := by
  unfold wX_Mm_change wX_Mm_change_24
  have hi : vp_in (nI at0) 96 := vp_in_nI hat (by decide)
  have hs : (8 : Int32) * (nI k0 &&& (3 : Int32)) = nI (8 * (k0 % 4)) := by
    rw [show nI k0 &&& (3 : Int32) = nI (k0 % 2 ^ 2) from pk_andN (by omega) 2 (by decide +kernel)]
    exact pk_mul 8 _
  rw [nI_clamp (by omega), hs]
  refine ⟨fun h => ⟨hi, hi, hi, ?_⟩, fun h => ⟨hi, hi, hi, ?_⟩⟩
  · rw [chg, mk8, if_pos h] at hp
    exact hp
  · rw [chg, mk8, if_neg h] at hp
    exact hp
/-- the reference's change, bit by bit -/
theorem hM_change {post : SS → AA → Prop} {T : SS} {B : AA} {at0 k0 v0 : Nat} (hat : at0 < 96) (hk : k0 < 2 ^ 20) (hv : v0 < 256) (hB : by8 (B 0)) (hp : post T (va_up B 0 (upd (B 0) at0 (chg (T 0) (T 1) k0 (B 0 at0) (nI v0))))) : wM_M_change post T B (nI at0) (nI k0) (nI v0) := by
  unfold wM_M_change wM_M_change_3
  intro X3 hX3
  obtain ⟨c0, hc0, ec⟩ := hB at0
  have hi : vp_in (nI at0) 96 := vp_in_nI hat (by decide)
  have key : ∀ n b : Nat, b + n = 8 → ∀ x : Int32, (∀ i, i < 32 → bt x i = if i < b then (if bt (mk8 (T 0) (T 1) k0) i then bt (nI v0) i else bt (nI c0) i) else bt (nI c0) i) → X3 T (va_up B 0 (upd (B 0) at0 x)) (nI at0) (nI k0) (nI v0) (nI b) := by
    intro n
    induction n with
    | zero =>
      intro b hb x hx
      have hb : b = 8 := by omega
      subst hb
      apply hX3
      unfold wM_M_change_3B
      refine ⟨fun _ => ?_, fun h => absurd (show (8 : Int32) ≤ nI 8 from Int32.le_refl _) h⟩
      have e : x = chg (T 0) (T 1) k0 (B 0 at0) (nI v0) := by
        apply b_ext
        intro i hi
        rw [hx i hi, chg, ec, b_xor, b_and, b_xor]
        split
        · cases bt (mk8 (T 0) (T 1) k0) i <;> cases bt (nI v0) i <;> cases bt (nI c0) i <;> rfl
        · next h8 =>
          rw [bt_nI hc0 (by omega), bt_nI hv (by omega)]
          rfl
      rw [e]
      exact hp
    | succ n ih =>
      intro b hb x hx
      have hb8 : b < 8 := by omega
      apply hX3
      unfold wM_M_change_3B wM_M_change_35 wM_M_change_65 wM_M_change_70 wM_M_change_99
      have ea : (va_up B 0 (upd (B 0) at0 x)) 0 (nI at0).toNatClampNeg = x := by
        rw [nI_clamp (by omega), pz_us]
        exact if_pos rfl
      have e0 : (va_up B 0 (upd (B 0) at0 x)) 0 = upd (B 0) at0 x := pz_us _ _ _
      have er : ((8 : Int32) * nI k0 + nI b) - ((8 : Int32) * nI k0 + nI b) / (32 : Int32) * (32 : Int32) = nI ((8 * k0 + b) % 32) := by
        rw [show (8 : Int32) * nI k0 = nI (8 * k0) from pk_mul 8 k0, nI_add]
        exact pk_rem (d := 32) (by omega) (by decide) (by decide)
      have hmod : (8 * k0 + b) % 32 = 8 * (k0 % 4) + b := by omega
      have hmay := bt_mk8 (T 0) (T 1) k0 hb8
      rw [ea, er, hmod, bit_u _ (by omega), bit_s _ (by omega), bit_s _ (by omega), pz_inc, e0, nI_clamp (by omega), pz_upup, pz_updd]
      have hxb : bt x b = bt (nI c0) b := by rw [hx b (by omega), if_neg (by omega)]
      -- the value that the next round begins with
      have same : (bt (mk8 (T 0) (T 1) k0) b = false ∨ bt x b = bt (nI v0) b) → X3 T (va_up B 0 (upd (B 0) at0 x)) (nI at0) (nI k0) (nI v0) (nI (b + 1)) := by
        intro hd
        refine ih (b + 1) (by omega) x (fun i hi => ?_)
        rw [hx i hi]
        by_cases h1 : i < b
        · rw [if_pos h1, if_pos (show i < b + 1 by omega)]
        · by_cases h2 : i = b
          · subst h2
            rw [if_neg h1, if_pos (show i < i + 1 by omega)]
            rcases hd with hd | hd
            · rw [hd]; rfl
            · rw [← hxb, hd]; split <;> rfl
          · rw [if_neg h1, if_neg (by omega)]
      have flip : bt (mk8 (T 0) (T 1) k0) b = true → ¬ bt x b = bt (nI v0) b → X3 T (va_up B 0 (upd (B 0) at0 (x ^^^ ((1 : Int32) <<< (nI b &&& 31))))) (nI at0) (nI k0) (nI v0) (nI (b + 1)) := by
        intro hm hd
        refine ih (b + 1) (by omega) _ (fun i hi => ?_)
        rw [b_xor, b_shl b (by omega) 1 hi, hx i hi]
        by_cases h1 : i < b
        · rw [if_pos h1, if_pos (show i < b + 1 by omega), decide_eq_false (by omega), Bool.false_and, Bool.xor_false]
        · by_cases h2 : i = b
          · subst h2
            rw [if_neg h1, if_pos (by omega), hm, if_pos rfl, ← hxb, Nat.sub_self, bt_1 0 (by decide), decide_eq_true (Nat.le_refl i)]
            cases h3 : bt x i <;> cases h4 : bt (nI v0) i <;> first | rfl | (exfalso; exact hd (h3.trans h4.symm))
          · rw [if_neg h1, if_neg (by omega), bt_1 (i - b) (by omega), decide_eq_false (show ¬ i - b = 0 by omega), Bool.and_false, Bool.xor_false]
      refine ⟨fun h => absurd h (nI_ge (b := 8) (by omega) (by decide)), fun _ => ⟨hi, ?_, ?_⟩⟩
      · intro hd
        have hd : bt x b = bt (nI v0) b := by
          cases h3 : bt x b <;> cases h4 : bt (nI v0) b <;> rw [h3, h4] at hd <;> first | rfl | exact absurd hd (by decide)
        have go := same (Or.inr hd)
        exact ⟨fun _ => ⟨fun _ => go, fun h => absurd rfl h⟩, fun _ => ⟨fun _ => ⟨fun _ => go, fun h => absurd rfl h⟩, fun _ => ⟨fun _ => go, fun h => absurd rfl h⟩⟩⟩
      · intro hd
        have hd : ¬ bt x b = bt (nI v0) b := by
          intro q
          rw [q] at hd
          exact hd rfl
        refine ⟨fun ho => ⟨fun h => absurd h (by decide), fun _ => ⟨fun h => absurd h (by decide), fun _ => ⟨hi, hi, flip (by rw [hmay, if_pos ho]) hd⟩⟩⟩, fun ho => ⟨fun hm => ⟨fun h => absurd h (by decide), fun _ => ⟨fun _ => same (Or.inl ?_), fun h => absurd rfl h⟩⟩, fun hm => ⟨fun h => absurd h (by decide), fun _ => ⟨fun h => absurd h (by decide), fun _ => ⟨hi, hi, flip ?_ hd⟩⟩⟩⟩⟩
        · rw [hmay, if_neg ho]
          cases h3 : bt (T 1) (8 * (k0 % 4) + b)
          · rfl
          · rw [h3] at hm; exact absurd rfl hm
        · rw [hmay, if_neg ho]
          cases h3 : bt (T 1) (8 * (k0 % 4) + b)
          · rw [h3] at hm; exact absurd hm (by decide)
          · rfl
  have h0 := key 8 0 rfl (B 0 at0) (fun i _ => by rw [if_neg (by omega), ec])
  rw [pz_upd, pz_up] at h0
  exact h0
