/-! writing and erasing -/
theorem by8_lay {f h : Nat → Int32} {st k : Nat} (hf : by8 f) (hh : ∀ j, ∃ b : Nat, b < 256 ∧ h j = nI b) : by8 (lay f st k h) := by
  intro i
  unfold lay
  split
  · exact hh _
  · exact hf i
theorem and_byte {f q : Nat → Int32} (hf : by8 f) (hq : by8 q) (i j : Nat) : ∃ b : Nat, b < 256 ∧ f i &&& q j = nI b := by
  obtain ⟨a, ha, ea⟩ := hf i
  obtain ⟨b, hb, eb⟩ := hq j
  refine ⟨a &&& b, Nat.lt_of_le_of_lt Nat.and_le_left ha, ?_⟩
  rw [ea, eb]
  exact nx_and a b
theorem chg_by {f : Nat → Int32} (hf : by8 f) {o num a : Int32} (i j : Nat) (ha : ∃ b : Nat, b < 256 ∧ a = nI b) : ∃ b : Nat, b < 256 ∧ chg o num j (f i) a = nI b := by
  obtain ⟨c, hc, ec⟩ := hf i
  obtain ⟨b, hb, eb⟩ := ha
  rw [ec, eb]
  exact chg_byte hc hb
/-- a stretch of the flash changed: byte j of it towards v j -/
def wr (o num : Int32) (f : Nat → Int32) (st k : Nat) (v : Nat → Int32) : Nat → Int32 := lay f st k (fun j => chg o num j (f (st + j)) (v j))
theorem wr_0 (o num : Int32) (f : Nat → Int32) (st : Nat) (v : Nat → Int32) : wr o num f st 0 v = f := lay_0 _ _ _
theorem wr_s (o num : Int32) (f : Nat → Int32) (st k : Nat) (v : Nat → Int32) : upd (wr o num f st k v) (st + k) (chg o num k (wr o num f st k v (st + k)) (v k)) = wr o num f st (k + 1) v := by
  unfold wr
  rw [lay_out (i := st + k) (by omega)]
  exact lay_s f st k (fun j => chg o num j (f (st + j)) (v j))
theorem wr_at (o num : Int32) (f : Nat → Int32) (st k : Nat) (v : Nat → Int32) : wr o num f st k v (st + k) = f (st + k) := lay_out (by omega)
theorem by8_wr {o num : Int32} {f v : Nat → Int32} {st k : Nat} (hf : by8 f) (hv : ∀ j, ∃ b : Nat, b < 256 ∧ v j = nI b) : by8 (wr o num f st k v) := by8_lay hf (fun j => chg_by hf _ j (hv j))
/-- a sector erased -/
def er (o num : Int32) (f : Nat → Int32) (s : Nat) : Nat → Int32 := wr o num f (16 * s) 16 (fun _ => 255)
theorem by8_er {o num : Int32} {f : Nat → Int32} {s : Nat} (hf : by8 f) : by8 (er o num f s) := by8_wr hf (fun _ => ⟨255, by decide, rfl⟩)
theorem wr_congr {o num : Int32} {f v1 v2 : Nat → Int32} {st k : Nat} (h : ∀ j, j < k → v1 j = v2 j) : wr o num f st k v1 = wr o num f st k v2 := lay_congr (fun j hj => by rw [h j hj])
theorem hX_end {post : Int32 → SS → AA → Prop} {S : SS} {A : AA} (h1 : S 5 = 0 → post 1 (va_up S 5 0) A) (h0 : ¬ S 5 = 0 → post 0 (va_up S 5 0) A) : wX_Mm_endChange (fun r S1 A1 => (tl_z r ∧ post r S1 A1)) S A := by
  unfold wX_Mm_endChange wX_Mm_endChange_12
  exact ⟨fun q => ⟨Or.inl rfl, Or.inl rfl, h0 q⟩, fun q => ⟨Or.inr rfl, Or.inr rfl, h1 q⟩⟩
theorem hX_erase {post : Int32 → SS → AA → Prop} {S : SS} {A : AA} {sec : Nat} (hs : sec < 6) (h1 : S 5 = 0 → post 1 (va_up S 5 0) (va_up A 0 (er (S 5) (S 6) (A 0) sec))) (h0 : ¬ S 5 = 0 → post 0 (va_up S 5 0) (va_up A 0 (er (S 5) (S 6) (A 0) sec))) : wX_Mm_erase post S A (nI sec) := by
  unfold wX_Mm_erase wX_Mm_has
  unfold er at h1 h0
  have e16 : nI sec * (16 : Int32) = nI (16 * sec) := by rw [show nI sec * (16 : Int32) = nI (sec * 16) from pk_mul sec 16, Nat.mul_comm]
  rw [e16, show (96 : Int32) - 16 = nI 80 by decide]
  refine br_f (nI_pos (by omega)) (br_f (nI_nlt (by omega) (by omega)) (bn_f (by decide) ?_))
  unfold wX_Mm_erase_19
  intro X19 hX19
  have key : ∀ m k : Nat, k + m = 16 → X19 S (va_up A 0 (wr (S 5) (S 6) (A 0) (16 * sec) k (fun _ => 255))) (nI (16 * sec)) (nI k) := by
    intro m
    induction m with
    | zero =>
      intro k hk
      have hk : k = 16 := by omega
      subst hk
      apply hX19
      unfold wX_Mm_erase_19B
      exact ⟨fun _ => hX_end h1 h0, fun q => absurd (show (16 : Int32) ≤ nI 16 from Int32.le_refl _) q⟩
    | succ m ih =>
      intro k hk
      apply hX19
      unfold wX_Mm_erase_19B
      refine ⟨fun q => absurd q (nI_ge (b := 16) (by omega) (by decide)), fun _ => ?_⟩
      rw [nI_add]
      refine hX_change (at0 := 16 * sec + k) (k0 := k) (by omega) (by omega) ?_
      have h2 := ih (k + 1) (by omega)
      rw [← wr_s] at h2
      rw [pz_inc, pz_upup]
      exact h2
  have h2 := key 16 0 rfl
  rw [wr_0, pz_up] at h2
  exact h2
theorem hM_erase {post : Int32 → SS → AA → Prop} {T : SS} {B : AA} {sec : Nat} (hs : sec < 6) (hB : by8 (B 0)) (hz : tl_z (T 0)) (hp : post (T 0) (va_up T 0 0) (va_up B 0 (er (T 0) (T 1) (B 0) sec))) : wM_M_erase post T B (nI sec) := by
  unfold wM_M_erase wM_M_erase_2
  unfold er at hp
  intro X2 hX2
  have key : ∀ m k : Nat, k + m = 16 → X2 T (va_up B 0 (wr (T 0) (T 1) (B 0) (16 * sec) k (fun _ => 255))) (nI sec) (nI k) := by
    intro m
    induction m with
    | zero =>
      intro k hk
      have hk : k = 16 := by omega
      subst hk
      apply hX2
      unfold wM_M_erase_2B wM_M_torn
      exact ⟨fun _ => ⟨hz, hz, hp⟩, fun q => absurd (show (16 : Int32) ≤ nI 16 from Int32.le_refl _) q⟩
    | succ m ih =>
      intro k hk
      apply hX2
      unfold wM_M_erase_2B
      refine ⟨fun q => absurd q (nI_ge (b := 16) (by omega) (by decide)), fun _ => ?_⟩
      rw [show (16 : Int32) * nI sec = nI (16 * sec) from pk_mul 16 sec, nI_add]
      refine hM_change (at0 := 16 * sec + k) (k0 := k) (v0 := 255) (by omega) (by omega) (by decide) (by rw [pz_us]; exact by8_wr hB (fun _ => ⟨255, by decide, rfl⟩)) ?_
      have h2 := ih (k + 1) (by omega)
      rw [← wr_s] at h2
      rw [pz_inc, pz_upup, pz_us]
      exact h2
  have h2 := key 16 0 rfl
  rw [wr_0, pz_up] at h2
  exact h2
/-! a block is written and compared -/
theorem hX_write4 {post : Int32 → SS → AA → Prop} {S : SS} {A : AA} {at0 m : Nat} (hat : at0 + m ≤ 96) (hm : m ≤ 32) (h1 : S 5 = 0 → post 1 (va_up S 5 0) (va_up A 0 (wr (S 5) (S 6) (A 0) at0 m (fun j => A 0 (at0 + j) &&& A 1 (2 + j))))) (h0 : ¬ S 5 = 0 → post 0 (va_up S 5 0) (va_up A 0 (wr (S 5) (S 6) (A 0) at0 m (fun j => A 0 (at0 + j) &&& A 1 (2 + j))))) : wX_Mm_write_4 post S A (nI at0) 2 (nI m) := by
  unfold wX_Mm_write_4 wX_Mm_has
  rw [show (96 : Int32) - nI m = nI (96 - m) from pk_sub (a := 96) (by omega), show (34 : Int32) - nI m = nI (34 - m) from pk_sub (a := 34) (by omega)]
  refine br_f (nI_pos (by omega)) (br_f (nI_nlt (by omega) (by omega)) (br_f (by decide) (br_t (nI_le (a := 2) (by omega) (by omega)) ?_)))
  unfold wX_Mm_write_4_24
  intro X24 hX24
  have key : ∀ d k : Nat, k + d = m → X24 S (va_up A 0 (wr (S 5) (S 6) (A 0) at0 k (fun j => A 0 (at0 + j) &&& A 1 (2 + j)))) (nI at0) 2 (nI m) (nI k) := by
    intro d
    induction d with
    | zero =>
      intro k hk
      have hk : k = m := by omega
      subst hk
      apply hX24
      unfold wX_Mm_write_4_24B
      exact ⟨fun _ => hX_end h1 h0, fun q => absurd (Int32.le_refl _) q⟩
    | succ d ih =>
      intro k hk
      apply hX24
      unfold wX_Mm_write_4_24B
      have e0 : (va_up A 0 (wr (S 5) (S 6) (A 0) at0 k (fun j => A 0 (at0 + j) &&& A 1 (2 + j)))) 0 = wr (S 5) (S 6) (A 0) at0 k (fun j => A 0 (at0 + j) &&& A 1 (2 + j)) := rfl
      have e1 : (va_up A 0 (wr (S 5) (S 6) (A 0) at0 k (fun j => A 0 (at0 + j) &&& A 1 (2 + j)))) 1 = A 1 := rfl
      rw [e0, e1, nI_add, show (2 : Int32) + nI k = nI (2 + k) from nI_add 2 k, nI_clamp (n := at0 + k) (by omega), nI_clamp (n := 2 + k) (by omega), wr_at]
      refine ⟨fun q => absurd q (nI_ge (by omega) (by omega)), fun _ => ⟨vp_in_nI (by omega) (by decide), vp_in_nI (by omega) (by decide), ?_⟩⟩
      refine hX_change (at0 := at0 + k) (k0 := k) (by omega) (by omega) ?_
      have h2 := ih (k + 1) (by omega)
      rw [← wr_s] at h2
      rw [pz_inc, pz_upup]
      exact h2
  have h2 := key m 0 (by omega)
  rw [wr_0, pz_up] at h2
  exact h2
theorem hM_write {post : Int32 → SS → AA → Prop} {T : SS} {B : AA} {at0 m : Nat} {x1 : Int32} (hat : at0 + m ≤ 96) (hm : m ≤ 32) (hB : by8 (B 0)) (hq : by8 (B 1)) (hz : tl_z (T 0))
    (h0 : T 0 = 0 → wM_M_block_173 post (va_up (va_up (va_up T 0 0) 14 (T 14 + nI m)) 15 (T 15 + 1)) (va_up B 0 (wr (T 0) (T 1) (B 0) at0 m (fun j => B 0 (at0 + j) &&& B 1 (2 + j)))) x1 (nI m) (nI at0) 0)
    (h1 : ¬ T 0 = 0 → post (-1) (va_up T 0 0) (va_up B 0 (wr (T 0) (T 1) (B 0) at0 m (fun j => B 0 (at0 + j) &&& B 1 (2 + j))))) : wM_M_block_98 post T B x1 (nI m) (nI at0) 0 := by
  unfold wM_M_block_98
  intro X98 hX98
  have key : ∀ d k : Nat, k + d = m → X98 T (va_up B 0 (wr (T 0) (T 1) (B 0) at0 k (fun j => B 0 (at0 + j) &&& B 1 (2 + j)))) x1 (nI m) (nI at0) (nI k) := by
    intro d
    induction d with
    | zero =>
      intro k hk
      have hk : k = m := by omega
      subst hk
      apply hX98
      unfold wM_M_block_98B wM_M_torn
      exact ⟨fun _ => ⟨hz, h0, h1⟩, fun q => absurd (Int32.le_refl _) q⟩
    | succ d ih =>
      intro k hk
      apply hX98
      unfold wM_M_block_98B
      have e0 : (va_up B 0 (wr (T 0) (T 1) (B 0) at0 k (fun j => B 0 (at0 + j) &&& B 1 (2 + j)))) 0 = wr (T 0) (T 1) (B 0) at0 k (fun j => B 0 (at0 + j) &&& B 1 (2 + j)) := rfl
      have e1 : (va_up B 0 (wr (T 0) (T 1) (B 0) at0 k (fun j => B 0 (at0 + j) &&& B 1 (2 + j)))) 1 = B 1 := rfl
      rw [e0, e1, nI_add, show (2 : Int32) + nI k = nI (2 + k) from nI_add 2 k, nI_clamp (n := at0 + k) (by omega), nI_clamp (n := 2 + k) (by omega), wr_at]
      refine ⟨fun q => absurd q (nI_ge (by omega) (by omega)), fun _ => ⟨vp_in_nI (by omega) (by decide), vp_in_nI (by omega) (by decide), ?_⟩⟩
      obtain ⟨v, hv, ev⟩ := and_byte hB hq (at0 + k) (2 + k)
      have h2 := ih (k + 1) (by omega)
      rw [← wr_s] at h2
      rw [ev, pz_inc]
      refine hM_change (at0 := at0 + k) (k0 := k) (v0 := v) (by omega) (by omega) hv (by rw [pz_us]; exact by8_wr hB (fun j => and_byte hB hq _ _)) ?_
      rw [pz_upup, pz_us, ← ev]
      exact h2
  have h2 := key m 0 (by omega)
  rw [wr_0, pz_up] at h2
  exact h2
theorem hX_holds {post : Int32 → SS → AA → Prop} {S : SS} {A : AA} {at0 m : Nat} (hat : at0 + m ≤ 96) (hm : m ≤ 32) (h1 : (∀ j, j < m → A 0 (at0 + j) = A 1 (2 + j)) → post 1 S A) (h0 : ¬ (∀ j, j < m → A 0 (at0 + j) = A 1 (2 + j)) → post 0 S A) : wX_Mm_holds_4 post S A (nI at0) 2 (nI m) := by
  unfold wX_Mm_holds_4 wX_Mm_has
  rw [show (96 : Int32) - nI m = nI (96 - m) from pk_sub (a := 96) (by omega), show (34 : Int32) - nI m = nI (34 - m) from pk_sub (a := 34) (by omega)]
  refine br_f (nI_pos (by omega)) (br_f (nI_nlt (by omega) (by omega)) (br_f (by decide) (br_t (nI_le (a := 2) (by omega) (by omega)) ?_)))
  unfold wX_Mm_holds_4_24
  intro X24 hX24
  have key : ∀ d k : Nat, k + d = m → (∀ j, j < k → A 0 (at0 + j) = A 1 (2 + j)) → X24 S A (nI at0) 2 (nI m) (nI k) := by
    intro d
    induction d with
    | zero =>
      intro k hk ha
      have hk : k = m := by omega
      subst hk
      apply hX24
      unfold wX_Mm_holds_4_24B
      exact ⟨fun _ => h1 ha, fun q => absurd (Int32.le_refl _) q⟩
    | succ d ih =>
      intro k hk ha
      apply hX24
      unfold wX_Mm_holds_4_24B
      rw [nI_add, show (2 : Int32) + nI k = nI (2 + k) from nI_add 2 k, nI_clamp (n := at0 + k) (by omega), nI_clamp (n := 2 + k) (by omega), pz_inc]
      exact ⟨fun q => absurd q (nI_ge (by omega) (by omega)), fun _ => ⟨vp_in_nI (by omega) (by decide), vp_in_nI (by omega) (by decide), fun e => ih (k + 1) (by omega) (lt_s ha e), fun e => h0 (fun q => e (q k (by omega)))⟩⟩
  exact key m 0 (by omega) lt_0
theorem hM_cmp {post : Int32 → SS → AA → Prop} {T : SS} {B : AA} {at0 m : Nat} {x1 : Int32} (hat : at0 + m ≤ 96) (hm : m ≤ 32) (h1 : (∀ j, j < m → B 0 (at0 + j) = B 1 (2 + j)) → wM_M_block_210 post T B x1) (h0 : ¬ (∀ j, j < m → B 0 (at0 + j) = B 1 (2 + j)) → post 114 T B) : wM_M_block_173 post T B x1 (nI m) (nI at0) 0 := by
  unfold wM_M_block_173
  intro X173 hX173
  have key : ∀ d k : Nat, k + d = m → (∀ j, j < k → B 0 (at0 + j) = B 1 (2 + j)) → X173 T B x1 (nI m) (nI at0) (nI k) := by
    intro d
    induction d with
    | zero =>
      intro k hk ha
      have hk : k = m := by omega
      subst hk
      apply hX173
      unfold wM_M_block_173B
      exact ⟨fun _ => h1 ha, fun q => absurd (Int32.le_refl _) q⟩
    | succ d ih =>
      intro k hk ha
      apply hX173
      unfold wM_M_block_173B
      rw [nI_add, show (2 : Int32) + nI k = nI (2 + k) from nI_add 2 k, nI_clamp (n := at0 + k) (by omega), nI_clamp (n := 2 + k) (by omega), pz_inc]
      exact ⟨fun q => absurd q (nI_ge (by omega) (by omega)), fun _ => ⟨vp_in_nI (by omega) (by decide), vp_in_nI (by omega) (by decide), fun e => ih (k + 1) (by omega) (lt_s ha e), fun e => h0 (fun q => e (q k (by omega)))⟩⟩
  exact key m 0 (by omega) lt_0
/-! a header is written: three bytes, then the mark -/
theorem hX_write12 {post : Int32 → SS → AA → Prop} {S : SS} {A : AA} {at0 m : Nat} (hat : at0 + m ≤ 96) (hm : m ≤ 3) (h1 : S 5 = 0 → post 1 (va_up S 5 0) (va_up A 0 (wr (S 5) (S 6) (A 0) at0 m (fun j => A 0 (at0 + j) &&& A 5 j)))) (h0 : ¬ S 5 = 0 → post 0 (va_up S 5 0) (va_up A 0 (wr (S 5) (S 6) (A 0) at0 m (fun j => A 0 (at0 + j) &&& A 5 j)))) : wX_Mm_write_12 post S A (nI at0) 0 (nI m) := by
  unfold wX_Mm_write_12 wX_Mm_has
  rw [show (96 : Int32) - nI m = nI (96 - m) from pk_sub (a := 96) (by omega), show (3 : Int32) - nI m = nI (3 - m) from pk_sub (a := 3) (by omega)]
  refine br_f (nI_pos (by omega)) (br_f (nI_nlt (by omega) (by omega)) (br_f (by decide) (br_t (nI_pos' (by omega)) ?_)))
  unfold wX_Mm_write_12_24
  intro X24 hX24
  have key : ∀ d k : Nat, k + d = m → X24 S (va_up A 0 (wr (S 5) (S 6) (A 0) at0 k (fun j => A 0 (at0 + j) &&& A 5 j))) (nI at0) 0 (nI m) (nI k) := by
    intro d
    induction d with
    | zero =>
      intro k hk
      have hk : k = m := by omega
      subst hk
      apply hX24
      unfold wX_Mm_write_12_24B
      exact ⟨fun _ => hX_end h1 h0, fun q => absurd (Int32.le_refl _) q⟩
    | succ d ih =>
      intro k hk
      apply hX24
      unfold wX_Mm_write_12_24B
      have e0 : (va_up A 0 (wr (S 5) (S 6) (A 0) at0 k (fun j => A 0 (at0 + j) &&& A 5 j))) 0 = wr (S 5) (S 6) (A 0) at0 k (fun j => A 0 (at0 + j) &&& A 5 j) := rfl
      have e1 : (va_up A 0 (wr (S 5) (S 6) (A 0) at0 k (fun j => A 0 (at0 + j) &&& A 5 j))) 5 = A 5 := rfl
      rw [e0, e1, nI_add, show (0 : Int32) + nI k = nI k by rw [show (0 : Int32) + nI k = nI (0 + k) from nI_add 0 k, Nat.zero_add], nI_clamp (n := at0 + k) (by omega), nI_clamp (n := k) (by omega), wr_at]
      refine ⟨fun q => absurd q (nI_ge (by omega) (by omega)), fun _ => ⟨vp_in_nI (by omega) (by decide), vp_in_nI (by omega) (by decide), ?_⟩⟩
      refine hX_change (at0 := at0 + k) (k0 := k) (by omega) (by omega) ?_
      have h2 := ih (k + 1) (by omega)
      rw [← wr_s] at h2
      rw [pz_inc, pz_upup]
      exact h2
  have h2 := key m 0 (by omega)
  rw [wr_0, pz_up] at h2
  exact h2
theorem hX_write12g {post : Int32 → SS → AA → Prop} {S : SS} {A : AA} {at0 m : Nat} (hat : at0 + m ≤ 96) (hm : m ≤ 3) (h : ∀ g : Nat → Int32, g = wr (S 5) (S 6) (A 0) at0 m (fun j => A 0 (at0 + j) &&& A 5 j) → (S 5 = 0 → post 1 (va_up S 5 0) (va_up A 0 g)) ∧ (¬ S 5 = 0 → post 0 (va_up S 5 0) (va_up A 0 g))) : wX_Mm_write_12 post S A (nI at0) 0 (nI m) := hX_write12 hat hm (h _ rfl).1 (h _ rfl).2
