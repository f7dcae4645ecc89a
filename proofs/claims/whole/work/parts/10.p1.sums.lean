/-! numbers: literals are nI of their numerals -/
theorem pz_add (a b : Nat) : nI a + nI b = nI (a + b) := nI_add a b
theorem pz_inc (a : Nat) : nI a + (1 : Int32) = nI (a + 1) := nI_add a 1
theorem pz_le {a b : Nat} (ha : a < 2 ^ 31) (hb : b < 2 ^ 31) : nI a ≤ nI b ↔ a ≤ b := nI_leI ha hb
theorem pz_lt {a b : Nat} (ha : a < 2 ^ 31) (hb : b < 2 ^ 31) : nI a < nI b ↔ a < b := nI_ltI ha hb
theorem pz_up {α : Type} (f : Nat → α) (k : Nat) : va_up f k (f k) = f := by
  funext j
  unfold va_up
  split
  · next h => rw [h]
  · rfl
theorem pz_upd (f : Nat → Int32) (k : Nat) : upd f k (f k) = f := by
  funext j
  unfold upd
  split
  · next h => rw [h]
  · rfl
theorem pz_updd (f : Nat → Int32) (k : Nat) (x y : Int32) : upd (upd f k x) k y = upd f k y := by
  funext j
  unfold upd
  split <;> rfl
theorem pz_upup {α : Type} (f : Nat → α) (k : Nat) (x y : α) : va_up (va_up f k x) k y = va_up f k y := by
  funext j
  unfold va_up
  split <;> rfl
theorem pz_us {α : Type} (f : Nat → α) (k : Nat) (x : α) : va_up f k x k = x := va_up_self f k x
theorem pz_un {α : Type} (f : Nat → α) {k j : Nat} (x : α) (h : j ≠ k) : va_up f k x j = f j := va_up_ne f x h
/-- all of it are bytes -/
def by8 (f : Nat → Int32) : Prop := ∀ i : Nat, ∃ b : Nat, b < 256 ∧ f i = nI b
theorem by8_upd {f : Nat → Int32} (h : by8 f) {k b : Nat} {x : Int32} (hb : b < 256) (hx : x = nI b) : by8 (upd f k x) := by
  intro i
  unfold upd
  split
  · exact ⟨b, hb, hx⟩
  · exact h i
/-! the sum -/
def stp (x : Int32) : Int32 := if x < 32768 then x * 2 else (x * 2 - 65536) ^^^ 4129
def crc8 (x : Int32) : Nat → Int32
  | 0 => x
  | n + 1 => stp (crc8 x n)
def sumF (f : Nat → Int32) (base : Nat) : Nat → Int32
  | 0 => 65535
  | n + 1 => crc8 (sumF f base n ^^^ (f (base + n) * 256)) 8
theorem stp_lo {x : Int32} (h : x < 32768) : stp x = x * 2 := if_pos h
theorem stp_hi {x : Int32} (h : ¬ x < 32768) : stp x = (x * 2 - 65536) ^^^ 4129 := if_neg h
/-- one step keeps 16 bits -/
theorem stp_in {n : Nat} (h : n < 65536) : ∃ k : Nat, k < 65536 ∧ stp (nI n) = nI k := by
  rcases Nat.lt_or_ge n 32768 with hn | hn
  · refine ⟨2 * n, by omega, ?_⟩
    rw [stp_lo (show nI n < (32768 : Int32) from (pz_lt (b := 32768) (by omega) (by decide)).mpr hn)]
    rw [show nI n * (2 : Int32) = nI (n * 2) from pk_mul n 2, Nat.mul_comm]
  · refine ⟨(2 * n - 65536) ^^^ 4129, ?_, ?_⟩
    · exact Nat.xor_lt_two_pow (n := 16) (by omega) (by decide)
    · rw [stp_hi (fun q => absurd ((pz_lt (b := 32768) (by omega) (by decide)).mp q) (by omega))]
      rw [show nI n * (2 : Int32) = nI (n * 2) from pk_mul n 2, Nat.mul_comm]
      rw [show nI (2 * n) - (65536 : Int32) = nI (2 * n - 65536) from pk_sub (b := 65536) (by omega)]
      exact nx_xor _ 4129
theorem crc8_in {n : Nat} (h : n < 65536) : ∀ j : Nat, ∃ k : Nat, k < 65536 ∧ crc8 (nI n) j = nI k := by
  intro j
  induction j with
  | zero => exact ⟨n, h, rfl⟩
  | succ j ih =>
    obtain ⟨k, hk, e⟩ := ih
    obtain ⟨k2, hk2, e2⟩ := stp_in hk
    exact ⟨k2, hk2, by show stp (crc8 (nI n) j) = _; rw [e, e2]⟩
theorem byte256 {b : Nat} : nI b * (256 : Int32) = nI (b * 256) := pk_mul b 256
theorem sumF_in {f : Nat → Int32} (hf : by8 f) (base : Nat) : ∀ k : Nat, ∃ n : Nat, n < 65536 ∧ sumF f base k = nI n := by
  intro k
  induction k with
  | zero => exact ⟨65535, by decide, rfl⟩
  | succ k ih =>
    obtain ⟨n, hn, e⟩ := ih
    obtain ⟨b, hb, eb⟩ := hf (base + k)
    have h1 : sumF f base k ^^^ (f (base + k) * 256) = nI (n ^^^ (b * 256)) := by rw [e, eb, byte256]; exact nx_xor _ _
    have h2 : n ^^^ (b * 256) < 65536 := Nat.xor_lt_two_pow (n := 16) hn (by omega)
    obtain ⟨m, hm, em⟩ := crc8_in h2 8
    exact ⟨m, hm, by show crc8 _ 8 = _; rw [h1, em]⟩
/-- the program's step is the reference's -/
theorem stp_X {n : Nat} (h : n < 65536) : ((nI n &&& (32768 : Int32)) = 0 → stp (nI n) = (nI n <<< ((1 : Int32) &&& 31)) &&& (65535 : Int32)) ∧ (¬ (nI n &&& (32768 : Int32)) = 0 → stp (nI n) = ((nI n <<< ((1 : Int32) &&& 31)) &&& (65535 : Int32)) ^^^ (4129 : Int32)) := by
  have hs : nI n <<< ((1 : Int32) &&& 31) = nI (n * 2) := pk_shlN (n := n) ((1 : Int32) &&& 31) 1 (by decide +kernel) (by omega)
  have hm : nI (n * 2) &&& (65535 : Int32) = nI (n * 2 % 65536) := nx_mod (n * 2)
  have ha : nI n &&& (32768 : Int32) = nI (n &&& 32768) := nx_and n 32768
  have hb : n &&& 32768 = if n < 32768 then 0 else 32768 := by
    apply Nat.eq_of_testBit_eq
    intro i
    rw [Nat.testBit_and]
    by_cases hi : i = 15
    · subst hi
      split
      · next hn => rw [Nat.testBit_lt_two_pow (x := n) (i := 15) hn]; rfl
      · next hn =>
        have : n.testBit 15 = true := by
          rw [Nat.testBit_eq_decide_div_mod_eq]
          simp only [decide_eq_true_eq]
          omega
        rw [this]; rfl
    · have h1 : (32768 : Nat).testBit i = false := by
        rw [show (32768 : Nat) = 2 ^ 15 from rfl, Nat.testBit_two_pow]
        exact decide_eq_false (fun q => hi q.symm)
      rw [h1, Bool.and_false]
      split
      · exact (Nat.zero_testBit i).symm
      · exact h1.symm
  rw [hs, hm, ha, hb]
  constructor
  · intro hz
    by_cases hn : n < 32768
    · rw [stp_lo (show nI n < (32768 : Int32) from (pz_lt (b := 32768) (by omega) (by decide)).mpr hn), show nI n * (2 : Int32) = nI (n * 2) from pk_mul n 2, Nat.mod_eq_of_lt (by omega)]
    · rw [if_neg hn] at hz
      exact absurd hz (by decide +kernel)
  · intro hz
    by_cases hn : n < 32768
    · rw [if_pos hn] at hz
      exact absurd rfl hz
    · rw [stp_hi (fun q => absurd ((pz_lt (b := 32768) (by omega) (by decide)).mp q) (by omega)), show nI n * (2 : Int32) = nI (n * 2) from pk_mul n 2, show nI (n * 2) - (65536 : Int32) = nI (n * 2 - 65536) from pk_sub (b := 65536) (by omega), show n * 2 % 65536 = n * 2 - 65536 by omega]
theorem shl8_X {b : Nat} (h : b < 256) : nI b <<< ((8 : Int32) &&& 31) = nI b * (256 : Int32) := by
  rw [byte256]
  exact pk_shlN (n := b) ((8 : Int32) &&& 31) 8 (by decide +kernel) (by omega)
/-- the reference's sum -/
theorem hM_sumOf {post : Int32 → SS → AA → Prop} {T : SS} {B : AA} {s0 : Nat} (hs : s0 ≤ 1) (hp : post (sumF (B 0) (48 * s0) 32) T B) : wM_M_sumOf post T B (nI s0) := by
  unfold wM_M_sumOf wM_M_sumOf_8
  intro X8 hX8
  have e48 : (48 : Int32) * nI s0 = nI (48 * s0) := pk_mul 48 s0
  have e32 : nI (48 * s0) + (32 : Int32) = nI (48 * s0 + 32) := nI_add _ 32
  have key : ∀ n k : Nat, k + n = 32 → X8 T B (nI s0) (sumF (B 0) (48 * s0) k) (nI (48 * s0 + k)) := by
    intro n
    induction n with
    | zero =>
      intro k hk
      have hk : k = 32 := by omega
      subst hk
      apply hX8
      unfold wM_M_sumOf_8B
      rw [e48, e32]
      exact ⟨fun _ => hp, fun h => absurd (Int32.le_refl _) h⟩
    | succ n ih =>
      intro k hk
      apply hX8
      unfold wM_M_sumOf_8B
      rw [e48, e32, nI_clamp (by omega)]
      refine ⟨fun h => absurd h (nI_ge (by omega) (by omega)), fun _ => ⟨vp_in_nI (by omega) (by decide), ?_⟩⟩
      unfold wM_M_sumOf_35
      intro X35 hX35
      have key2 : ∀ m j : Nat, j + m = 8 → X35 T B (nI s0) (crc8 (sumF (B 0) (48 * s0) k ^^^ (B 0 (48 * s0 + k) * 256)) j) (nI (48 * s0 + k)) (nI j) := by
        intro m
        induction m with
        | zero =>
          intro j hj
          have hj : j = 8 := by omega
          subst hj
          apply hX35
          unfold wM_M_sumOf_35B
          refine ⟨fun _ => ?_, fun h => absurd (show (8 : Int32) ≤ nI 8 from Int32.le_refl _) h⟩
          have h2 := ih (k + 1) (by omega)
          rw [pz_inc]
          exact h2
        | succ m ihm =>
          intro j hj
          apply hX35
          unfold wM_M_sumOf_35B wM_M_sumOf_64
          have h2 := ihm (j + 1) (by omega)
          rw [pz_inc j]
          refine ⟨fun h => absurd h (nI_ge (b := 8) (by omega) (by decide)), fun _ => ⟨fun h => ?_, fun h => ?_⟩⟩
          · rw [show crc8 (sumF (B 0) (48 * s0) k ^^^ (B 0 (48 * s0 + k) * 256)) (j + 1) = stp (crc8 (sumF (B 0) (48 * s0) k ^^^ (B 0 (48 * s0 + k) * 256)) j) from rfl, stp_lo h] at h2
            exact h2
          · rw [show crc8 (sumF (B 0) (48 * s0) k ^^^ (B 0 (48 * s0 + k) * 256)) (j + 1) = stp (crc8 (sumF (B 0) (48 * s0) k ^^^ (B 0 (48 * s0 + k) * 256)) j) from rfl, stp_hi h] at h2
            exact h2
      exact key2 8 0 rfl
  have h0 := key 32 0 rfl
  rw [e48]
  exact h0
