/-! the relation between the program's state (S, A) and the reference's (T, B) after n calls -/
def RelF (S : SS) (A : AA) (T : SS) (B : AA) : Prop := A 0 = B 0 ∧ by8 (B 0) ∧ S 5 = T 0 ∧ S 6 = T 1 ∧ tl_z (T 0)
def RelC (n : Nat) (S T : SS) : Prop := S 0 = T 2 ∧ (T 2 = -1 ∨ T 2 = 0 ∨ T 2 = 1) ∧ S 1 = T 3 ∧ (T 3 = 1 ∨ T 3 = 2) ∧ S 18 = T 4 ∧ tl_z (T 4) ∧ S 2 = T 5 ∧ (T 5 = -1 ∨ T 5 = 0 ∨ T 5 = 1) ∧ S 3 = T 6 ∧ S 20 = T 7 ∧ (∃ g : Nat, g ≤ n ∧ T 7 = nI g) ∧ S 19 = T 8 ∧ (∃ b : Nat, b < 256 ∧ T 8 = nI b) ∧ S 21 = T 9 ∧ tl_z (T 9) ∧ S 22 = T 10 ∧ (∃ d : Nat, d ≤ 8 ∧ T 10 = nI d)
def RelI (n : Nat) (S T : SS) : Prop := (T 3 = 2 → S 4 = T 11) ∧ (∃ i : Nat, i ≤ n ∧ T 11 = nI i) ∧ (∃ i : Nat, i ≤ n ∧ S 4 = nI i)
def RelD (n : Nat) (S T : SS) : Prop := (S 23 = 0 ∧ T 12 = -1) ∨ (S 23 = 1 ∧ S 24 = T 12 ∧ (T 12 = 0 ∨ T 12 = 1) ∧ S 25 = T 13 ∧ S 26 = T 14 ∧ S 27 = T 15 ∧ ∃ sz ca bl : Nat, T 13 = nI sz ∧ T 14 = nI ca ∧ T 15 = nI bl ∧ ca ≤ sz ∧ sz ≤ 32 ∧ bl ≤ n)
def RelQ (S : SS) (A : AA) (T : SS) (B : AA) : Prop := A 1 = B 1 ∧ by8 (B 1) ∧ ∃ L G : Nat, T 16 = nI L ∧ T 17 = nI G ∧ G ≤ L ∧ L ≤ 34 ∧ S 8 = nI (L - G) ∧ (G < L → S 7 = nI G ∧ S 10 = T 19 ∧ (∃ a : Nat, a < 4 ∧ T 19 = nI a) ∧ ∃ lt : Nat, lt < 16 ∧ T 18 = nI lt ∧ S 9 = nI ((lt + 1) % 16))
def RelA (S : SS) (A : AA) (T : SS) (B : AA) : Prop := (S 15 = 0 ∧ T 20 = 0 ∧ T 21 = 0) ∨ (S 15 = 1 ∧ S 11 = 10 ∧ S 12 = 6 ∧ S 13 = 1 ∧ T 20 = 10 ∧ T 21 = 6 ∧ T 22 = 0 ∧ S 14 = T 23 ∧ (∃ w : Nat, w < 4 ∧ T 23 = nI w) ∧ ∀ i, i < 10 → A 3 i = B 2 i)
def RelR (S : SS) (A : AA) (T : SS) (B : AA) : Prop := ∃ c f : Nat, S 17 = nI c ∧ T 24 = nI c ∧ c ≤ 12 ∧ S 16 = nI f ∧ f < 12 ∧ ∀ j, j < c → ∀ k, k < 8 → A 2 (((f + j) % 12) * 8 + k) = B 3 (8 * j + k)
def Rel (n : Nat) (S : SS) (A : AA) (T : SS) (B : AA) : Prop := RelF S A T B ∧ RelC n S T ∧ RelI n S T ∧ RelD n S T ∧ RelQ S A T B ∧ RelA S A T B ∧ RelR S A T B
theorem Rel.step {n : Nat} {S : SS} {A : AA} {T : SS} {B : AA} (h : Rel n S A T B) : Rel (n + 1) S A T B := by
  obtain ⟨hF, hC, hI, hD, hQ, hA, hR⟩ := h
  obtain ⟨c1, c2, c3, c4, c5, c6, c7, c8, c9, c10, ⟨g, hg, eg⟩, cr⟩ := hC
  obtain ⟨i1, ⟨i, hi, ei⟩, ⟨i', hi', ei'⟩⟩ := hI
  refine ⟨hF, ⟨c1, c2, c3, c4, c5, c6, c7, c8, c9, c10, ⟨g, by omega, eg⟩, cr⟩, ⟨i1, ⟨i, by omega, ei⟩, ⟨i', by omega, ei'⟩⟩, ?_, hQ, hA, hR⟩
  rcases hD with hD | ⟨d1, d2, d3, d4, d5, d6, sz, ca, bl, e1, e2, e3, h1, h2, h3⟩
  · exact Or.inl hD
  · exact Or.inr ⟨d1, d2, d3, d4, d5, d6, sz, ca, bl, e1, e2, e3, h1, h2, by omega⟩
/-! what each call says: P holds behind the program's call at every outcome at which the reference, called alike, answers the same and stays related -/
def OkI (n : Nat) (r : Int32) (S : SS) (A : AA) (w : (Int32 → SS → AA → Prop) → Prop) : Prop := ∀ Q : Int32 → SS → AA → Prop, (∀ (T1 : SS) (B1 : AA), Rel (n + 1) S A T1 B1 → Q r T1 B1) → w Q
def OkV (n : Nat) (S : SS) (A : AA) (w : (SS → AA → Prop) → Prop) : Prop := ∀ Q : SS → AA → Prop, (∀ (T1 : SS) (B1 : AA), Rel (n + 1) S A T1 B1 → Q T1 B1) → w Q
theorem ok_cut {n : Nat} {S : SS} {A : AA} {T : SS} {B : AA} (h : Rel n S A T B) {x : Int32} {P : SS → AA → Prop} (hP : ∀ (S1 : SS) (A1 : AA), OkV n S1 A1 (fun Q => wM_M_cut Q T B x) → P S1 A1) : wX_T_cut P S A x := by
  obtain ⟨⟨f1, f2, f3, f4, f5⟩, hC, hI, hD, hQ, hA, hR⟩ := h.step
  refine hP (va_up (va_up S 5 1) 6 x) A (fun Q hQ1 => ?_)
  refine hQ1 (va_up (va_up T 0 1) 1 x) B ?_
  exact ⟨⟨f1, f2, rfl, rfl, Or.inr rfl⟩, hC, hI, hD, hQ, hA, hR⟩
theorem ok_flash {n : Nat} {S : SS} {A : AA} {T : SS} {B : AA} (h : Rel n S A T B) {x : Int32} {P : Int32 → SS → AA → Prop} (hP : ∀ (r : Int32) (S1 : SS) (A1 : AA), OkI n r S1 A1 (fun Q => wM_M_flash Q T B x) → P r S1 A1) : wX_T_flash P S A x := by
  have hs := h.step
  have e0 : A 0 = B 0 := h.1.1
  unfold wX_T_flash wX_Mm_has
  have e95 : (96 : Int32) - (1 : Int32) = 95 := by decide
  rw [e95]
  refine ⟨fun h1 => ⟨fun _ => hP _ _ _ (fun Q hQ => ?_), fun q => absurd rfl q⟩, fun h1 => ⟨fun h2 => ⟨fun _ => hP _ _ _ (fun Q hQ => ?_), fun q => absurd rfl q⟩, fun h2 => ⟨fun q => absurd q (by decide), fun _ => ?_⟩⟩⟩
  · unfold wM_M_flash wM_M_flash_10
    exact ⟨fun _ => hQ _ _ hs, fun q => absurd h1 q⟩
  · unfold wM_M_flash wM_M_flash_10
    exact ⟨fun q => absurd q h1, fun _ => ⟨fun q => absurd h2 (Int32.not_lt.mpr q), fun _ => hQ _ _ hs⟩⟩
  · have h3 : x ≤ 95 := Int32.not_lt.mp h2
    obtain ⟨j, hj, rfl⟩ := nI_of2 (M := 95) (n := 95) (by decide) h1 h3
    have hin : vp_in (nI j) 96 := vp_in_nI (by omega) (by decide)
    refine ⟨hin, hP _ _ _ (fun Q hQ => ?_)⟩
    unfold wM_M_flash wM_M_flash_10
    refine ⟨fun q => absurd q h1, fun _ => ⟨fun _ => ⟨hin, ?_⟩, fun q => absurd h3 q⟩⟩
    rw [← e0]
    exact hQ _ _ hs
theorem Rel.boot {n : Nat} {S : SS} {A : AA} {T : SS} {B : AA} (hF : RelF S A T B) (hg : S 20 = T 7 ∧ ∃ g : Nat, g ≤ n ∧ T 7 = nI g) (hI : ∃ i : Nat, i ≤ n ∧ T 11 = nI i) (hq : A 1 = B 1 ∧ by8 (B 1)) (hR : RelR S A T B) : Rel n (btX S (best (A 0))) A (btM T (best (B 0))) B := by
  obtain ⟨f1, f2, f3, f4, f5⟩ := hF
  rw [f1]
  refine ⟨⟨f1, f2, f3, f4, f5⟩, ⟨rfl, best_in _, rfl, Or.inl rfl, rfl, Or.inl rfl, rfl, Or.inl rfl, rfl, hg.1, hg.2, rfl, ⟨0, by decide, rfl⟩, rfl, Or.inl rfl, rfl, ⟨0, by decide, rfl⟩⟩, ⟨fun q => absurd q (by decide : ¬ (1 : Int32) = 2), hI, ⟨0, by omega, rfl⟩⟩, Or.inl ⟨rfl, rfl⟩, ⟨hq.1, hq.2, 0, 0, rfl, rfl, Nat.le_refl _, by decide, rfl, fun q => absurd q (Nat.lt_irrefl 0)⟩, Or.inl ⟨rfl, rfl, rfl⟩, hR⟩
theorem Rel.clear {n : Nat} {S : SS} {A : AA} {T : SS} {B : AA} (h : Rel n S A T B) : Rel n (va_up S 17 0) A (va_up T 24 0) B := by
  obtain ⟨hF, hC, hI, hD, hQ, hA, c, f, r1, r2, r3, r4, r5, r6⟩ := h
  exact ⟨hF, hC, hI, hD, hQ, hA, 0, f, rfl, rfl, by decide, r4, r5, fun j hj => absurd hj (Nat.not_lt_zero j)⟩
theorem ok_restart {n : Nat} {S : SS} {A : AA} {T : SS} {B : AA} (h : Rel n S A T B) {P : SS → AA → Prop} (hP : ∀ (S1 : SS) (A1 : AA), OkV n S1 A1 (fun Q => wM_M_restart Q T B) → P S1 A1) : wX_T_restart P S A := by
  obtain ⟨hF, ⟨c1, c2, c3, c4, c5, c6, c7, c8, c9, c10, c11, c12⟩, hI, hD, ⟨q1, q2, q3⟩, hA, hR⟩ := h.step
  unfold wX_T_restart wX_T_bootAfresh
  refine hX_boot (by rw [hF.1]; exact hF.2.1) ?_
  refine hP (va_up (btX S (best (A 0))) 17 0) A (fun Q hQ => ?_)
  show wM_M_restart Q T B
  unfold wM_M_restart
  exact hM_boot hF.2.1 (hQ _ _ (Rel.boot hF ⟨c10, c11⟩ hI.2.1 ⟨q1, q2⟩ hR).clear)
