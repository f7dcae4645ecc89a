/-! what goes out: a request for more, an answer, the rest of an answer -/
theorem fill_eq {h1 h2 s1 s2 : Nat → Int32} {bg s n1 n2 k : Nat} (hk : k < 8) (hh : ∀ i, i < bg → h1 i = h2 i) (hn : ∀ i, bg + i < 8 → (i < n1 ↔ i < n2)) (hs : ∀ i, i < n1 → bg + i < 8 → s1 (s + i) = s2 (s + i)) : fill h1 bg s1 s n1 k = fill h2 bg s2 s n2 k := by
  unfold fill
  by_cases h : k < bg
  · rw [if_pos h, if_pos h]; exact hh k h
  · rw [if_neg h, if_neg h]
    by_cases h2 : k - bg < n1
    · rw [if_pos h2, if_pos ((hn _ (by omega)).mp h2)]; exact hs _ h2 (by omega)
    · rw [if_neg h2, if_neg (fun q => h2 ((hn _ (by omega)).mpr q))]
theorem ok_ask {n : Nat} {S : SS} {A : AA} {T : SS} {B : AA} (h : Rel n S A T B) (e15 : S 15 = 0) {P : SS → AA → Prop} (hP : ∀ (S1 : SS) (A1 : AA), OkV n S1 A1 (fun Q => wM_M_askMore Q T B) → P S1 A1) : wX_Sd_askForMore P S A := by
  obtain ⟨hF, hC, hI, hD, hQ, hA, c, fi, r1, r2, r3, r4, r5, r6⟩ := h.step
  unfold wX_Sd_askForMore
  rw [cl_0, cl_1, pz_upup]
  refine ⟨vl_0 (by decide) (by decide), vl_1 (by decide) (by decide), ?_⟩
  refine hX_putFrom (cnt := 0) (s := 0) (bg := 2) rfl (by decide) rfl (by decide) (by decide) (fun g hg => ?_)
  refine hX_put (c := c) (f := fi) r1 r3 r4 r5 (fun hc => ?_) (fun hc => ?_)
  · refine hP _ _ (fun Q hQ1 => ?_)
    show wM_M_askMore Q T B
    unfold wM_M_askMore wM_M_dropAnswer
    refine hM_emit (a := 0) (s := 0) (most := 0) (c := c) (off := 2) rfl (by decide) rfl (by decide) r2 r3 (Or.inr ⟨by decide, rfl⟩) (by decide) (by decide) (fun _ => ?_) (fun q => absurd hc (by omega))
    exact hQ1 _ _ ⟨hF, hC, hI, hD, hQ, Or.inl ⟨e15, rfl, rfl⟩, c, fi, r1, r2, r3, r4, r5, r6⟩
  · refine hP _ _ (fun Q hQ1 => ?_)
    show wM_M_askMore Q T B
    unfold wM_M_askMore wM_M_dropAnswer
    refine hM_emit (a := 0) (s := 0) (most := 0) (c := c) (off := 2) rfl (by decide) rfl (by decide) r2 r3 (Or.inr ⟨by decide, rfl⟩) (by decide) (by decide) (fun q => absurd q (by omega)) (fun _ g2 hg2 => ?_)
    refine hQ1 _ _ ⟨hF, hC, hI, hD, hQ, Or.inl ⟨e15, rfl, rfl⟩, c + 1, fi, rfl, rfl, by omega, r4, r5, ?_⟩
    refine RelR.push hc r5 r6 (fun k hk => (hg k hk).trans (Eq.trans (fill_eq hk (fun i hi => ?_) (fun i hi => by omega) (fun i hi => absurd hi (by omega))) (hg2 k hk).symm))
    have hi2 : i = 0 ∨ i = 1 := by omega
    rcases hi2 with rfl | rfl <;> rfl
/-- an answer is sent: of at most 7 bytes, or of 10 -/
theorem sim_send {n : Nat} {S : SS} {A : AA} {T : SS} {B : AA} {cnt : Nat} (hF : RelF S A T B) (hC : RelC n S T) (hI : RelI n S T) (hD : RelD n S T) (hQ : RelQ S A T B) (hR : RelR S A T B) (e11 : S 11 = nI cnt) (e20 : T 20 = nI cnt) (hcnt : cnt ≤ 7 ∨ cnt = 10) (e15 : S 15 = 0) (hb : ∀ i, i < cnt → A 3 i = B 2 i) {P : SS → AA → Prop} (hP : ∀ (S1 : SS) (A1 : AA), by8 (A1 0) → (∀ Q : SS → AA → Prop, (∀ (T1 : SS) (B1 : AA), Rel n S1 A1 T1 B1 → Q T1 B1) → wM_M_sendAnswer Q T B) → P S1 A1) : wX_Sd_send P S A := by
  obtain ⟨c, fi, r1, r2, r3, r4, r5, r6⟩ := hR
  have hby : by8 (A 0) := by rw [hF.1]; exact hF.2.1
  unfold wX_Sd_send
  rw [cl_0, cl_1, pz_upup]
  rcases hcnt with h7 | h10
  · refine ⟨fun q => absurd q (by rw [e11]; exact nI_nlt (a := 7) h7 (by decide)), fun _ => ⟨vl_0 (by decide) (by decide), ?_⟩⟩
    have hw : ¬ (7 : Int32) < T 20 := by rw [e20]; exact nI_nlt (a := 7) h7 (by decide)
    have e7 : nI (0 + min (cnt - 0) 7) = nI cnt := by congr 1; omega
    refine hX_putFrom (cnt := cnt) (s := 0) (bg := 1) e11 (by omega) rfl (by omega) (by decide) (fun g hg => ?_)
    refine hX_put (c := c) (f := fi) r1 r3 r4 r5 (fun hc => ?_) (fun hc => ?_)
    · refine hP _ _ hby (fun Q hQ1 => ?_)
      unfold wM_M_sendAnswer wM_M_sendAnswer_50 wM_M_dropAnswer
      refine ⟨fun q => absurd q hw, fun _ => ?_⟩
      refine hM_emit (a := cnt) (s := 0) (most := 7) (c := c) (off := 1) e20 (by omega) rfl (by omega) r2 r3 (Or.inl ⟨by decide, rfl⟩) (by omega) (by decide) (fun _ => ?_) (fun q => absurd hc (by omega))
      rw [e7, pz_us, ← e20]
      exact ⟨fun q => absurd rfl q, fun _ => hQ1 _ _ ⟨hF, hC, hI, hD, hQ, Or.inl ⟨e15, rfl, rfl⟩, c, fi, r1, r2, r3, r4, r5, r6⟩⟩
    · refine hP _ _ hby (fun Q hQ1 => ?_)
      unfold wM_M_sendAnswer wM_M_sendAnswer_50 wM_M_dropAnswer
      refine ⟨fun q => absurd q hw, fun _ => ?_⟩
      refine hM_emit (a := cnt) (s := 0) (most := 7) (c := c) (off := 1) e20 (by omega) rfl (by omega) r2 r3 (Or.inl ⟨by decide, rfl⟩) (by omega) (by decide) (fun q => absurd q (by omega)) (fun _ g2 hg2 => ?_)
      rw [e7, pz_us, ← e20]
      refine ⟨fun q => absurd rfl q, fun _ => hQ1 _ _ ⟨hF, hC, hI, hD, hQ, Or.inl ⟨e15, rfl, rfl⟩, c + 1, fi, rfl, rfl, by omega, r4, r5, ?_⟩⟩
      refine RelR.push hc r5 r6 (fun k hk => (hg k hk).trans (Eq.trans (fill_eq hk (fun i hi => ?_) (fun i hi => by omega) (fun i hi _ => ?_)) (hg2 k hk).symm))
      · have hi0 : i = 0 := by omega
        subst hi0
        show S 11 = T 20
        rw [e11, e20]
      · exact hb _ (by omega)
  · subst h10
    refine ⟨fun _ => ⟨vl_0 (by decide) (by decide), vl_1 (by decide) (by decide), ?_⟩, fun q => absurd (by rw [e11]; decide) q⟩
    have hw : (7 : Int32) < T 20 := by rw [e20]; decide
    have hne : ¬ nI (0 + min (10 - 0) 6) = nI 10 := by decide
    refine hX_putFrom (cnt := 10) (s := 0) (bg := 2) e11 (by omega) rfl (by omega) (by decide) (fun g hg => ?_)
    refine hX_put (c := c) (f := fi) r1 r3 r4 r5 (fun hc => ?_) (fun hc => ?_)
    · refine hP _ _ hby (fun Q hQ1 => ?_)
      unfold wM_M_sendAnswer wM_M_sendAnswer_50 wM_M_dropAnswer
      refine ⟨fun _ => ?_, fun q => absurd hw q⟩
      refine hM_emit (a := 10) (s := 0) (most := 6) (c := c) (off := 2) e20 (by omega) rfl (by omega) r2 r3 (Or.inr ⟨by rw [e20]; decide, rfl⟩) (by omega) (by decide) (fun _ => ?_) (fun q => absurd hc (by omega))
      refine ⟨fun _ => hQ1 _ _ ⟨hF, hC, hI, hD, hQ, Or.inr ⟨rfl, e11, rfl, rfl, e20, rfl, rfl, rfl, ⟨0, by decide, rfl⟩, hb⟩, c, fi, r1, r2, r3, r4, r5, r6⟩, fun q => ?_⟩
      exact absurd (Eq.trans (show nI (0 + min (10 - 0) 6) = T 20 from q) e20) hne
    · refine hP _ _ hby (fun Q hQ1 => ?_)
      unfold wM_M_sendAnswer wM_M_sendAnswer_50 wM_M_dropAnswer
      refine ⟨fun _ => ?_, fun q => absurd hw q⟩
      refine hM_emit (a := 10) (s := 0) (most := 6) (c := c) (off := 2) e20 (by omega) rfl (by omega) r2 r3 (Or.inr ⟨by rw [e20]; decide, rfl⟩) (by omega) (by decide) (fun q => absurd q (by omega)) (fun _ g2 hg2 => ?_)
      refine ⟨fun _ => hQ1 _ _ ⟨hF, hC, hI, hD, hQ, Or.inr ⟨rfl, e11, rfl, rfl, e20, rfl, rfl, rfl, ⟨0, by decide, rfl⟩, hb⟩, c + 1, fi, rfl, rfl, by omega, r4, r5, ?_⟩, fun q => ?_⟩
      · refine RelR.push hc r5 r6 (fun k hk => (hg k hk).trans (Eq.trans (fill_eq hk (fun i hi => ?_) (fun i hi => by omega) (fun i hi _ => ?_)) (hg2 k hk).symm))
        · have hi2 : i = 0 ∨ i = 1 := by omega
          rcases hi2 with rfl | rfl
          · rfl
          · show S 11 = T 20
            rw [e11, e20]
        · exact hb _ (by omega)
      · exact absurd (Eq.trans (show nI (0 + min (10 - 0) 6) = T 20 from q) e20) hne
/-- the rest of an answer is sent: four bytes, one frame -/
theorem ok_goOn {n : Nat} {S : SS} {A : AA} {T : SS} {B : AA} (h : Rel n S A T B) (e15 : ¬ S 15 = 0) {b : Nat} (hb : b < 256) {P : SS → AA → Prop} (hP : ∀ (S1 : SS) (A1 : AA), OkV n S1 A1 (fun Q => wM_M_sendMore Q T B (nI b)) → P S1 A1) : wX_Sd_goOn P S A (nI b) := by
  obtain ⟨hF, hC, hI, hD, hQ, hA, c, fi, r1, r2, r3, r4, r5, r6⟩ := h.step
  rcases hA with ⟨a1, _⟩ | ⟨a1, a2, a3, a4, a5, a6, a7, a8, a9, a10⟩
  · exact absurd a1 e15
  have main : ∀ y : Int32, ¬ y ≤ 0 → wX_Sd_goOn_10 P S A y := by
    intro y hy
    unfold wX_Sd_goOn_10 wX_Sd_goOn_13
    intro X13 hX13
    apply hX13
    unfold wX_Sd_goOn_13B
    rw [cl_0]
    refine ⟨fun q => absurd q hy, fun _ => ⟨fun q => absurd q (by rw [a2, a3]; decide), fun _ => ⟨vl_0 (by decide) (by decide), ?_⟩⟩⟩
    refine hX_putFrom (cnt := 10) (s := 6) (bg := 1) a2 (by decide) a3 (by decide) (by decide) (fun g hg => ?_)
    have fin : ∀ (S1 : SS) (A1 : AA), S1 11 = 10 → S1 12 = 10 → P (va_up (va_up S1 15 0) 14 0) A1 → X13 S1 A1 y (0 + 1) := by
      intro S1 A1 f1 f2 f3
      apply hX13
      unfold wX_Sd_goOn_13B wX_Sd_goOn_66 wX_Sd_goOn_83
      have hle : S1 11 ≤ S1 12 := by rw [f1, f2]; decide
      have hz : (S1 11 ≤ S1 12 → tl_z 0 ∧ P (va_up (va_up S1 15 0) 14 0) A1) ∧ (¬ S1 11 ≤ S1 12 → tl_z 1 ∧ P (va_up (va_up S1 15 1) 14 0) A1) := ⟨fun _ => ⟨Or.inl rfl, f3⟩, fun q => absurd hle q⟩
      exact ⟨fun _ => hz, fun _ => ⟨fun _ => hz, fun q => absurd hle q⟩⟩
    -- the reference's round
    have ref : ∀ (Q : SS → AA → Prop), (c = 12 → Q (va_up (va_up (va_up (va_up (va_up T 22 1) 21 10) 23 0) 20 0) 21 0) B) → (c < 12 → ∀ g2 : Nat → Int32, (∀ k, k < 8 → g2 k = fill (fun i => if i = 0 then (33 : Int32) else -1) 1 (B 2) 6 (min (10 - 6) 7) k) → Q (va_up (va_up (va_up (va_up (va_up (va_up T 22 1) 24 (nI (c + 1))) 21 10) 23 0) 20 0) 21 0) (va_up B 3 (lay (B 3) (8 * c) 8 g2))) → wM_M_sendMore Q T B (nI b) := by
      intro Q q0 q1
      unfold wM_M_sendMore wM_M_sendMore_2
      intro X2 hX2
      have go : wM_M_sendMore_22 Q X2 T B (nI b) 0 := by
        unfold wM_M_sendMore_22
        have e22 : (T 22 + 1) - (T 22 + 1) / 16 * 16 = (1 : Int32) := by rw [a7]; decide
        rw [e22, show (32 : Int32) + 1 = 33 by decide]
        have nx : ∀ (T1 : SS) (B1 : AA), T1 20 = 10 → T1 21 = 10 → Q (va_up (va_up (va_up T1 23 0) 20 0) 21 0) B1 → X2 T1 B1 (nI b) (0 + 1) := by
          intro T1 B1 f1 f2 f3
          apply hX2
          unfold wM_M_sendMore_2B wM_M_sendMore_55 wM_M_dropAnswer
          exact ⟨fun _ => ⟨fun q => absurd (f2.trans f1.symm) q, fun _ => f3⟩, fun q => absurd (by rw [f1, f2]; decide) q⟩
        refine hM_emit (a := 10) (s := 6) (most := 7) (c := c) (off := 1) a5 (by decide) a6 (by decide) r2 r3 (Or.inl ⟨by decide, rfl⟩) (by decide) (by decide) (fun hc => ?_) (fun hc g2 hg2 => ?_)
        · exact nx _ _ a5 rfl (q0 hc)
        · exact nx _ _ a5 rfl (q1 hc g2 hg2)
      apply hX2
      unfold wM_M_sendMore_2B
      refine ⟨fun q => absurd q (by rw [a5, a6]; decide), fun _ => ⟨fun _ => go, fun h0 => ⟨fun q => ?_, fun _ => go⟩⟩⟩
      have hb0 : b = 0 := by
        have := (pz_le (a := b) (b := 0) (by omega) (by decide)).mp q
        omega
      exact absurd (by rw [hb0]; rfl) h0
    refine hX_put (c := c) (f := fi) r1 r3 r4 r5 (fun hc => ?_) (fun hc => ?_)
    · refine fin _ _ a2 rfl (hP _ _ (fun Q hQ1 => ref Q (fun _ => ?_) (fun q => absurd hc (by omega))))
      exact hQ1 _ _ ⟨hF, hC, hI, hD, hQ, Or.inl ⟨rfl, rfl, rfl⟩, c, fi, r1, r2, r3, r4, r5, r6⟩
    · refine fin _ _ a2 rfl (hP _ _ (fun Q hQ1 => ref Q (fun q => absurd q (by omega)) (fun _ g2 hg2 => ?_)))
      refine hQ1 _ _ ⟨hF, hC, hI, hD, hQ, Or.inl ⟨rfl, rfl, rfl⟩, c + 1, fi, rfl, rfl, by omega, r4, r5, ?_⟩
      refine RelR.push hc r5 r6 (fun k hk => (hg k hk).trans (Eq.trans (fill_eq hk (fun i hi => ?_) (fun i hi => by omega) (fun i hi _ => ?_)) (hg2 k hk).symm))
      · have hi0 : i = 0 := by omega
        subst hi0
        show (32 : Int32) + S 13 = 33
        rw [a4]
        decide
      · exact a10 _ (by omega)
  unfold wX_Sd_goOn
  refine ⟨fun h0 => main _ (fun q => h0 ?_), fun _ => main 10 (by decide)⟩
  have hb0 : b = 0 := by
    have := (pz_le (a := b) (b := 0) (by omega) (by decide)).mp q
    omega
  rw [hb0]
  rfl
