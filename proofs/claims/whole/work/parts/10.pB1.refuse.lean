theorem long_46 {q : Nat → Int32} {L : Nat} {s : Int32} (h : longF q L s) (hs : s = 46) : L = 3 := by
  subst hs
  unfold longF at h
  rw [if_neg (by decide), if_pos rfl] at h
  exact h
theorem long_49 {q : Nat → Int32} {L : Nat} {s : Int32} (h : longF q L s) (hs : s = 49) : 4 ≤ L ∧ (q 2 = 2 → L = 6) := by
  subst hs
  unfold longF at h
  rw [if_neg (by decide), if_neg (by decide), if_pos rfl] at h
  by_cases c : 2 < L ∧ q 2 = 2
  · rw [if_pos c] at h
    exact ⟨by omega, fun _ => h⟩
  · rw [if_neg c] at h
    exact ⟨by omega, fun e => absurd ⟨by omega, e⟩ c⟩
theorem long_52 {q : Nat → Int32} {L : Nat} {s : Int32} (h : longF q L s) (hs : s = 52) : L = 3 := by
  subst hs
  unfold longF at h
  rw [if_neg (by decide), if_neg (by decide), if_neg (by decide), if_pos rfl] at h
  exact h
theorem long_54 {q : Nat → Int32} {L : Nat} {s : Int32} (h : longF q L s) (hs : s = 54) : 3 ≤ L ∧ L ≤ 10 := by
  subst hs
  unfold longF at h
  rw [if_neg (by decide), if_neg (by decide), if_neg (by decide), if_neg (by decide), if_pos rfl] at h
  exact h
theorem long_39 {q : Nat → Int32} {L : Nat} {s : Int32} (h : longF q L s) (hs : s = 39) : 2 ≤ L ∧ (q 1 = 2 → L = 3) := by
  subst hs
  unfold longF at h
  rw [if_pos rfl] at h
  by_cases c : 1 < L ∧ q 1 = 2
  · rw [if_pos c] at h
    exact ⟨by omega, fun _ => h⟩
  · rw [if_neg c] at h
    exact ⟨by omega, fun e => absurd ⟨by omega, e⟩ c⟩
theorem hX_range {post : Int32 → SS → AA → Prop} {S : SS} {A : AA} {L : Nat} {s : Int32} (e7 : S 7 = nI L) (hL : L ≤ 34) (hl : longF (A 1) L s) (h1 : rngF (A 1) s → post 1 S A) (h0 : ¬ rngF (A 1) s → post 0 S A) : wX_T_isInRange post S A s := by
  unfold wX_T_isInRange
  unfold rngF at h1 h0
  refine hX_at (k := 1) e7 hL (by decide) (fun k1 => hX_at (k := 2) e7 hL (by decide) (fun k2 => ?_) (fun k2 => ?_)) (fun k1 => hX_at (k := 2) e7 hL (by decide) (fun k2 => absurd k2 (by omega)) (fun k2 => ?_))
  · refine ⟨fun h => ?_, fun h => ?_⟩
    · rw [if_pos h] at h1 h0
      exact ⟨fun a => h0 (fun q => q a), fun a => h1 a⟩
    · rw [if_neg h] at h1 h0
      refine ⟨fun h => ?_, fun h => ?_⟩
      · rw [if_pos h] at h1 h0
        exact ⟨h0, h1⟩
      · rw [if_neg h] at h1 h0
        refine ⟨fun h => ?_, fun h => ?_⟩
        · have h4 := (long_49 hl h).1
          rw [if_pos h] at h1 h0
          exact ⟨fun a => h0 (fun q => q.1 a), fun a => ⟨fun b => h0 (fun q => q.2.1 b), fun b => hX_atY 3 e7 hL (by omega) ⟨fun c => h0 (fun q => q.2.2 c), fun c => h1 ⟨a, b, c⟩⟩⟩⟩
        · rw [if_neg h] at h1 h0
          refine ⟨fun h => ?_, fun h => ?_⟩
          · rw [if_pos h] at h1 h0
            exact ⟨fun a => h0 (fun q => q.1 a), fun a => ⟨fun b => h0 (fun q => q.2.1 b), fun b => ⟨fun c => h0 (fun q => q.2.2 c), fun c => h1 ⟨a, b, c⟩⟩⟩⟩
          · rw [if_neg h] at h1
            exact h1 trivial
  · refine ⟨fun h => ?_, fun h => ?_⟩
    · rw [if_pos h] at h1 h0
      exact ⟨fun a => h0 (fun q => q a), fun a => h1 a⟩
    · rw [if_neg h] at h1 h0
      refine br_f (fun q => absurd (long_46 hl q) (by omega)) (br_f (fun q => absurd (long_49 hl q).1 (by omega)) (br_f (fun q => absurd (long_52 hl q) (by omega)) ?_))
      rw [if_neg (fun q => absurd (long_46 hl q) (by omega)), if_neg (fun q => absurd (long_49 hl q).1 (by omega)), if_neg (fun q => absurd (long_52 hl q) (by omega))] at h1
      exact h1 trivial
  · have h5 : s = 55 := Classical.byContradiction (fun q => absurd (long_2 hl q) (by omega))
    subst h5
    rw [if_neg (by decide), if_neg (by decide), if_neg (by decide), if_neg (by decide)] at h1
    exact br_f (by decide) (br_f (by decide) (br_f (by decide) (br_f (by decide) (h1 trivial))))
/-- the common code that is due; 0: none -/
noncomputable def agF (q : Nat → Int32) (L : Nat) (s ses unl : Int32) : Nat := @ite Nat (known s) (Classical.propDecidable _) (@ite Nat (longF q L s) (Classical.propDecidable _) (@ite Nat (partF q s) (Classical.propDecidable _) (@ite Nat (ses = 1 ∧ (late s ∨ s = 39)) (Classical.propDecidable _) 127 (@ite Nat (unl = 0 ∧ late s) (Classical.propDecidable _) 51 0)) 18) 19) 17
theorem agF_lt (q : Nat → Int32) (L : Nat) (s ses unl : Int32) : agF q L s ses unl < 256 := by
  unfold agF
  by_cases a : known s
  · rw [if_pos a]
    by_cases b : longF q L s
    · rw [if_pos b]
      by_cases c : partF q s
      · rw [if_pos c]
        by_cases d : ses = 1 ∧ (late s ∨ s = 39)
        · rw [if_pos d]; decide
        · rw [if_neg d]
          by_cases e : unl = 0 ∧ late s
          · rw [if_pos e]; decide
          · rw [if_neg e]; decide
      · rw [if_neg c]; decide
    · rw [if_neg b]; decide
  · rw [if_neg a]; decide
theorem agF_ok {q : Nat → Int32} {L : Nat} {s ses unl : Int32} (h : okF q L s ses unl) : agF q L s ses unl = 0 := by
  obtain ⟨a, b, c, d, e⟩ := h
  unfold agF
  rw [if_pos a, if_pos b, if_pos c, if_neg d, if_neg e]
theorem hX_refusal {post : Int32 → SS → AA → Prop} {S : SS} {A : AA} {L : Nat} {s : Int32} (e7 : S 7 = nI L) (hL : L ≤ 34) (hne : ∀ k : Nat, 0 < k → agF (A 1) L s (S 1) (S 18) = k → post (nI k) S A) (h0 : okF (A 1) L s (S 1) (S 18) → wX_T_refusal_75 post S A s) : wX_T_refusal post S A s := by
  unfold wX_T_refusal
  unfold agF at hne
  refine hX_known (fun k => bn_f (by decide) ?_) (fun k => bn_t rfl (hne 17 (by decide) (if_neg k)))
  rw [if_pos k] at hne
  refine hX_long e7 hL (fun l => bn_f (by decide) ?_) (fun l => bn_t rfl (hne 19 (by decide) (if_neg l)))
  rw [if_pos l] at hne
  refine hX_part e7 hL (fun q => long_2 l q) (fun p => bn_f (by decide) ?_) (fun p => bn_t rfl (hne 18 (by decide) (if_neg p)))
  rw [if_pos p] at hne
  have r58 : ∀ x : Int32, (late s → ¬ x = 0) → (¬ late s → x = 0) → ¬ (S 1 = 1 ∧ (late s ∨ s = 39)) → wX_T_refusal_58 post S A s x := by
    intro x x1 x0 ns
    rw [if_neg ns] at hne
    unfold wX_T_refusal_58
    by_cases hl : late s
    · exact br_f (x1 hl) ⟨fun u => h0 ⟨k, l, p, ns, fun q => u q.1⟩, fun u => hne 51 (by decide) (if_pos ⟨u, hl⟩)⟩
    · exact br_t (x0 hl) (h0 ⟨k, l, p, ns, fun q => hl q.2⟩)
  refine hX_late (fun hl => ⟨fun s1 => r58 1 (fun _ => by decide) (fun q => absurd hl q) (fun q => s1 q.1), fun s1 => bn_f (by decide) (hne 127 (by decide) (if_pos ⟨s1, Or.inl hl⟩))⟩) (fun hl => ⟨fun s1 => r58 0 (fun q => absurd q hl) (fun _ => rfl) (fun q => s1 q.1), fun s1 => bn_t rfl ⟨fun n39 => r58 0 (fun q => absurd q hl) (fun _ => rfl) (fun q => q.2.elim hl n39), fun y39 => hne 127 (by decide) (if_pos ⟨s1, Or.inr y39⟩)⟩⟩)
theorem hM_against {post : Int32 → SS → AA → Prop} {T : SS} {B : AA} {L : Nat} (e17 : T 17 = nI L) (hL : L ≤ 34) (hp : post (nI (agF (B 1) L (B 1 0) (T 3) (T 4))) T B) : wM_M_against post T B := by
  unfold wM_M_against wM_M_against_70
  rw [cl_0]
  unfold agF at hp
  refine ⟨vl_0 (by decide) (by decide), ?_⟩
  refine hM_known (fun k => bn_f (by decide) ?_) (fun k => bn_t rfl (by rw [if_neg k] at hp; exact hp))
  rw [if_pos k] at hp
  refine hM_long e17 hL (fun l => bn_f (by decide) ?_) (fun l => bn_t rfl (by rw [if_neg l] at hp; exact hp))
  rw [if_pos l] at hp
  refine hM_part (fun p => bn_f (by decide) ?_) (fun p => bn_t rfl (by rw [if_neg p] at hp; exact hp))
  rw [if_pos p] at hp
  have r75 : ∀ x : Int32, (late (B 1 0) → ¬ x = 0) → (¬ late (B 1 0) → x = 0) → wM_M_against_75 post T B (B 1 0) x := by
    intro x x1 x0
    unfold wM_M_against_75
    have r97 : ¬ (T 3 = 1 ∧ (late (B 1 0) ∨ B 1 0 = 39)) → wM_M_against_97 post T B x := by
      intro ns
      rw [if_neg ns] at hp
      unfold wM_M_against_97
      by_cases hl : late (B 1 0)
      · refine ⟨fun u => ?_, fun u => br_f (x1 hl) ?_⟩
        · rw [if_neg (fun q => u q.1)] at hp; exact hp
        · rw [if_pos ⟨u, hl⟩] at hp; exact hp
      · rw [if_neg (fun q => hl q.2)] at hp
        exact ⟨fun _ => hp, fun _ => br_t (x0 hl) hp⟩
    refine ⟨fun s1 => r97 (fun q => s1 q.1), fun s1 => ⟨fun hx => ?_, fun hx => ⟨fun n39 => r97 (fun q => q.2.elim (fun hl => x1 hl hx) n39), fun y39 => ?_⟩⟩⟩
    · have hl : late (B 1 0) := Classical.byContradiction (fun q => hx (x0 q))
      rw [if_pos ⟨s1, Or.inl hl⟩] at hp; exact hp
    · rw [if_pos ⟨s1, Or.inr y39⟩] at hp; exact hp
  have y1 : late (B 1 0) → wM_M_against_75 post T B (B 1 0) 1 := fun hl => r75 1 (fun _ => by decide) (fun q => absurd hl q)
  unfold late at y1
  refine ⟨fun a => y1 (Or.inl a), fun a => ⟨fun b => y1 (Or.inr (Or.inl b)), fun b => ⟨fun c => y1 (Or.inr (Or.inr (Or.inl c))), fun c => ⟨fun d => y1 (Or.inr (Or.inr (Or.inr (Or.inl d)))), fun d => ⟨fun e => r75 0 (fun q => ?_) (fun _ => rfl), fun e => y1 (Or.inr (Or.inr (Or.inr (Or.inr e))))⟩⟩⟩⟩⟩
  exfalso
  unfold late at q
  rcases q with q | q | q | q | q
  · exact a q
  · exact b q
  · exact c q
  · exact d q
  · exact e q
