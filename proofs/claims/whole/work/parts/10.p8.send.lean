/-! frames that are put into the row -/
theorem pz_com {α : Type} (f : Nat → α) {i j : Nat} (h : i ≠ j) (x y : α) : va_up (va_up f i x) j y = va_up (va_up f j y) i x := by
  funext k
  unfold va_up
  by_cases h1 : k = j
  · subst h1
    rw [if_pos rfl, if_neg (fun q => h q.symm), if_pos rfl]
  · rw [if_neg h1]
    by_cases h2 : k = i
    · rw [if_pos h2, if_pos h2]
    · rw [if_neg h2, if_neg h2, if_neg h1]
/-- a stretch of a row laid anew -/
def lay (g : Nat → Int32) (st n : Nat) (h : Nat → Int32) : Nat → Int32 := fun i => if st ≤ i ∧ i < st + n then h (i - st) else g i
theorem lay_0 (g : Nat → Int32) (st : Nat) (h : Nat → Int32) : lay g st 0 h = g := by
  funext i
  exact if_neg (by omega)
theorem lay_s (g : Nat → Int32) (st n : Nat) (h : Nat → Int32) : upd (lay g st n h) (st + n) (h n) = lay g st (n + 1) h := by
  funext i
  unfold upd lay
  by_cases h1 : i = st + n
  · subst h1
    rw [if_pos rfl, if_pos (by omega), Nat.add_sub_cancel_left]
  · rw [if_neg h1]
    by_cases h2 : st ≤ i ∧ i < st + n
    · rw [if_pos h2, if_pos (by omega)]
    · rw [if_neg h2, if_neg (by omega)]
theorem lay_in {g : Nat → Int32} {st n : Nat} {h : Nat → Int32} {k : Nat} (hk : k < n) : lay g st n h (st + k) = h k := by
  unfold lay
  rw [if_pos (by omega), Nat.add_sub_cancel_left]
theorem lay_out {g : Nat → Int32} {st n : Nat} {h : Nat → Int32} {i : Nat} (hi : i < st ∨ st + n ≤ i) : lay g st n h i = g i := if_neg (by omega)
theorem lay_lay (g : Nat → Int32) (st n : Nat) (h1 h2 : Nat → Int32) : lay (lay g st n h1) st n h2 = lay g st n h2 := by
  funext i
  unfold lay
  by_cases h : st ≤ i ∧ i < st + n
  · rw [if_pos h, if_pos h]
  · rw [if_neg h, if_neg h, if_neg h]
theorem lay_congr {g : Nat → Int32} {st n : Nat} {h1 h2 : Nat → Int32} (h : ∀ k, k < n → h1 k = h2 k) : lay g st n h1 = lay g st n h2 := by
  funext i
  unfold lay
  by_cases hi : st ≤ i ∧ i < st + n
  · rw [if_pos hi, if_pos hi, h _ (by omega)]
  · rw [if_neg hi, if_neg hi]
theorem hX_put {post : SS → AA → Prop} {S : SS} {A : AA} {c f : Nat} (e17 : S 17 = nI c) (hc : c ≤ 12) (e16 : S 16 = nI f) (hf : f < 12) (h0 : c = 12 → post S A) (h1 : c < 12 → post (va_up S 17 (nI (c + 1))) (va_up A 2 (lay (A 2) (((f + c) % 12) * 8) 8 (A 4)))) : wX_Rw_put_9 post S A := by
  unfold wX_Rw_put_9
  refine ⟨fun h => h0 ?_, fun h => ?_⟩
  · rw [e17] at h
    exact (nI_eq (b := 12) (by omega) (by decide)).mp h
  · have hc : c < 12 := by
      have : ¬ c = 12 := fun q => h (by rw [e17, q]; rfl)
      omega
    have hp := h1 hc
    have est : (((S 16 + S 17) - (S 16 + S 17) / (12 : Int32) * (12 : Int32)) * (8 : Int32)) = nI (((f + c) % 12) * 8) := by
      rw [e16, e17, nI_add, show nI (f + c) - nI (f + c) / (12 : Int32) * (12 : Int32) = nI ((f + c) % 12) from pk_rem (d := 12) (by omega) (by decide) (by decide)]
      exact pk_mul _ 8
    rw [est]
    have hst : (f + c) % 12 < 12 := Nat.mod_lt _ (by decide)
    generalize hse : (f + c) % 12 * 8 = st at hp
    have hst : st + 8 ≤ 96 := by omega
    unfold wX_Rw_put_9_35
    intro X35 hX35
    have key : ∀ m k : Nat, k + m = 8 → X35 S (va_up A 2 (lay (A 2) st k (A 4))) (nI st) (nI k) := by
      intro m
      induction m with
      | zero =>
        intro k hk
        have hk : k = 8 := by omega
        subst hk
        apply hX35
        unfold wX_Rw_put_9_35B
        refine ⟨fun _ => ?_, fun q => absurd (show (8 : Int32) ≤ nI 8 from Int32.le_refl _) q⟩
        rw [e17, pz_inc]
        exact hp
      | succ m ih =>
        intro k hk
        apply hX35
        unfold wX_Rw_put_9_35B
        rw [nI_add, nI_clamp (n := st + k) (by omega), nI_clamp (n := k) (by omega), pz_us, pz_upup, pz_un A _ (show (4 : Nat) ≠ 2 by decide), lay_s, pz_inc]
        exact ⟨fun q => absurd q (nI_ge (b := 8) (by omega) (by decide)), fun _ => ⟨vp_in_nI (by omega) (by decide), vp_in_nI (by omega) (by decide), ih (k + 1) (by omega)⟩⟩
    have h2 := key 8 0 rfl
    rw [lay_0, pz_up] at h2
    exact h2
/-- a frame's bytes behind what stands in front: as many as are there, then zeros -/
def fill (h : Nat → Int32) (bg : Nat) (src : Nat → Int32) (s n : Nat) : Nat → Int32 := fun i => if i < bg then h i else if i - bg < n then src (s + (i - bg)) else 0
theorem hX_putFrom {post : SS → AA → Prop} {S : SS} {A : AA} {cnt s bg : Nat} (e11 : S 11 = nI cnt) (hcnt : cnt ≤ 10) (e12 : S 12 = nI s) (hs : s ≤ cnt) (hbg : bg ≤ 8) (hp : ∀ g : Nat → Int32, (∀ i, i < 8 → g i = fill (A 4) bg (A 3) s (cnt - s) i) → wX_Rw_put_9 post (va_up S 12 (nI (s + min (8 - bg) (cnt - s)))) (va_up A 4 g)) : wX_Sd_putFrom post S A (nI bg) := by
  unfold wX_Sd_putFrom wX_Sd_putFrom_2
  intro X2 hX2
  have key : ∀ m k : Nat, k + m = 8 → bg ≤ k → ∀ g : Nat → Int32, (∀ i, i < k → g i = fill (A 4) bg (A 3) s (cnt - s) i) → (∀ i, k ≤ i → g i = A 4 i) → X2 (va_up S 12 (nI (s + min (k - bg) (cnt - s)))) (va_up A 4 g) (nI k) := by
    intro m
    induction m with
    | zero =>
      intro k hk hb g hg _
      have hk : k = 8 := by omega
      subst hk
      apply hX2
      unfold wX_Sd_putFrom_2B
      exact ⟨fun _ => hp g hg, fun q => absurd (show (8 : Int32) ≤ nI 8 from Int32.le_refl _) q⟩
    | succ m ih =>
      intro k hk hb g hg hg2
      apply hX2
      unfold wX_Sd_putFrom_2B wX_Sd_putFrom_32 wX_Sd_putFrom_33 wX_Sd_putFrom_56 wX_Sd_putFrom_71
      have e11' : (va_up S 12 (nI (s + min (k - bg) (cnt - s)))) 11 = nI cnt := e11
      have e12' : (va_up S 12 (nI (s + min (k - bg) (cnt - s)))) 12 = nI (s + min (k - bg) (cnt - s)) := rfl
      have e3' : (va_up A 4 g) 3 = A 3 := rfl
      have e4' : (va_up A 4 g) 4 = g := rfl
      have hik : vp_in (nI k) 8 := vp_in_nI (by omega) (by decide)
      rw [e11', e12', e3', e4', nI_clamp (n := k) (by omega), nI_clamp (n := s + min (k - bg) (cnt - s)) (by omega), pz_inc, pz_upup, pz_upup, pz_upup]
      have nxt : ∀ v : Int32, v = fill (A 4) bg (A 3) s (cnt - s) k → X2 (va_up S 12 (nI (s + min (k + 1 - bg) (cnt - s)))) (va_up A 4 (upd g k v)) (nI (k + 1)) := by
        intro v hv
        refine ih (k + 1) (by omega) (by omega) _ (fun i hi => ?_) (fun i hi => ?_)
        · unfold upd
          by_cases h1 : i = k
          · rw [if_pos h1, hv, h1]
          · rw [if_neg h1]; exact hg i (by omega)
        · unfold upd
          rw [if_neg (by omega)]
          exact hg2 i (by omega)
      have fk : fill (A 4) bg (A 3) s (cnt - s) k = if k - bg < cnt - s then A 3 (s + (k - bg)) else 0 := by
        unfold fill
        rw [if_neg (by omega)]
      refine ⟨fun q => absurd q (nI_ge (b := 8) (by omega) (by decide)), fun _ => ?_⟩
      by_cases hm : k - bg < cnt - s
      · have h1 : ¬ nI cnt ≤ nI (s + min (k - bg) (cnt - s)) := nI_ge (by omega) (by omega)
        have h2 : ¬ (10 : Int32) ≤ nI (s + min (k - bg) (cnt - s)) := nI_ge (b := 10) (by omega) (by decide)
        have n1 := nxt (A 3 (s + (k - bg))) (by rw [fk, if_pos hm])
        have e : s + min (k - bg) (cnt - s) = s + (k - bg) := by omega
        have e2 : nI (s + min (k - bg) (cnt - s)) + (1 : Int32) = nI (s + min (k + 1 - bg) (cnt - s)) := by rw [pz_inc]; congr 1; omega
        refine ⟨fun q => absurd q h1, fun _ => ⟨fun q => absurd q h2, fun _ => ⟨fun q => absurd q (by decide), fun _ => ⟨vp_in_nI (by omega) (by decide), hik, fun q => absurd q (by decide), fun _ => ?_⟩⟩⟩⟩
        rw [e2, e, pz_upup]
        exact n1
      · have h1 : nI cnt ≤ nI (s + min (k - bg) (cnt - s)) := nI_le (by omega) (by omega)
        have n1 := nxt 0 (by rw [fk, if_neg hm])
        have e2 : nI (s + min (k - bg) (cnt - s)) + (0 : Int32) = nI (s + min (k + 1 - bg) (cnt - s)) := by
          rw [show nI (s + min (k - bg) (cnt - s)) + (0 : Int32) = nI (s + min (k - bg) (cnt - s) + 0) from nI_add _ 0]
          congr 1
          omega
        have go : vp_in (nI k) 8 ∧ (((0 : Int32) = 0 → X2 (va_up S 12 (nI (s + min (k - bg) (cnt - s)) + 0)) (va_up A 4 (upd g k 0)) (nI (k + 1))) ∧ (¬ (0 : Int32) = 0 → X2 (va_up S 12 (nI (s + min (k - bg) (cnt - s)) + 1)) (va_up A 4 (upd g k 0)) (nI (k + 1)))) := ⟨hik, fun _ => by rw [e2]; exact n1, fun q => absurd rfl q⟩
        exact ⟨fun _ => ⟨fun _ => go, fun q => absurd rfl q⟩, fun q => absurd h1 q⟩
  have h0 := key (8 - bg) bg (by omega) (Nat.le_refl _) (A 4) (fun i hi => by unfold fill; rw [if_pos hi]) (fun _ _ => rfl)
  rw [show s + min (bg - bg) (cnt - s) = s by omega, ← e12, pz_up, pz_up] at h0
  exact h0
/-- the reference's frame: what stands in front (one byte, or two), then the answer's bytes, then zeros -/
theorem hM_emit {post : SS → AA → Prop} {T : SS} {B : AA} {a s most c off : Nat} {one two : Int32} (e20 : T 20 = nI a) (ha : a ≤ 20) (e21 : T 21 = nI s) (hs : s ≤ a) (e24 : T 24 = nI c) (hc : c ≤ 12) (hoff : (two < 0 ∧ off = 1) ∨ (¬ two < 0 ∧ off = 2)) (hm : off + min (a - s) most ≤ 8) (hmost : most < 2 ^ 20)
    (h0 : c = 12 → post (va_up T 21 (nI (s + min (a - s) most))) B)
    (h1 : c < 12 → ∀ g : Nat → Int32, (∀ k, k < 8 → g k = fill (fun i => if i = 0 then one else two) off (B 2) s (min (a - s) most) k) → post (va_up (va_up T 24 (nI (c + 1))) 21 (nI (s + min (a - s) most))) (va_up B 3 (lay (B 3) (8 * c) 8 g))) : wM_M_emit post T B one two (nI most) := by
  have main : ∀ n : Nat, n = min (a - s) most → wM_M_emit_26 post T B one two (nI n) := by
    intro n hn
    subst hn
    unfold wM_M_emit_26
    generalize hne : min (a - s) most = n at hm h0 h1
    have e21' : T 21 + nI n = nI (s + n) := by rw [e21, nI_add]
    refine ⟨fun h => ?_, fun h => ?_⟩
    · have hc12 : c = 12 := by
        rw [e24] at h
        have := (pz_le (a := 12) (b := c) (by decide) (by omega)).mp h
        omega
      unfold wM_M_emit_152
      rw [e21']
      exact h0 hc12
    · have hc12 : c < 12 := by
        rw [e24] at h
        have : ¬ 12 ≤ c := fun q => h ((pz_le (a := 12) (b := c) (by decide) (by omega)).mpr q)
        omega
      have e8 : (8 : Int32) * T 24 = nI (8 * c) := by rw [e24]; exact pk_mul 8 c
      -- the copying of the answer's bytes, from a row on
      have copy : ∀ (R : Nat → Int32), (∀ i, i < off → R (8 * c + i) = (if i = 0 then one else two)) → (∀ i, off ≤ i → i < 8 → R (8 * c + i) = 0) → (∀ i, i < 8 * c ∨ 8 * c + 8 ≤ i → R i = B 3 i) → wM_M_emit_104 post T (va_up B 3 R) (nI n) (nI (8 * c + off)) := by
        intro R r1 r2 r3
        unfold wM_M_emit_104 wM_M_emit_107
        intro X107 hX107
        have key : ∀ m k : Nat, k + m = n → ∀ R' : Nat → Int32, (∀ i, i < off → R' (8 * c + i) = (if i = 0 then one else two)) → (∀ i, i < k → R' (8 * c + off + i) = B 2 (s + i)) → (∀ i, off + k ≤ i → i < 8 → R' (8 * c + i) = 0) → (∀ i, i < 8 * c ∨ 8 * c + 8 ≤ i → R' i = B 3 i) → X107 T (va_up B 3 R') (nI n) (nI (8 * c + off)) (nI k) := by
          intro m
          induction m with
          | zero =>
            intro k hk R' q1 q2 q3 q4
            have hk : k = n := by omega
            subst hk
            apply hX107
            unfold wM_M_emit_107B
            refine ⟨fun _ => ?_, fun q => absurd (Int32.le_refl _) q⟩
            unfold wM_M_emit_152
            have e : (va_up T 24 (T 24 + 1)) 21 = T 21 := rfl
            rw [e, e21', e24, pz_inc]
            have hg := h1 hc12 (fun i => R' (8 * c + i)) (fun i hi => by
              show R' (8 * c + i) = _
              unfold fill
              by_cases h1 : i < off
              · rw [if_pos h1]; exact q1 i h1
              · rw [if_neg h1]
                by_cases h2 : i - off < k
                · rw [if_pos h2]
                  have := q2 (i - off) h2
                  rw [show 8 * c + off + (i - off) = 8 * c + i by omega] at this
                  exact this
                · rw [if_neg h2]; exact q3 i (by omega) hi)
            have el : lay (B 3) (8 * c) 8 (fun i => R' (8 * c + i)) = R' := by
              funext i
              unfold lay
              by_cases h : 8 * c ≤ i ∧ i < 8 * c + 8
              · rw [if_pos h]
                show R' (8 * c + (i - 8 * c)) = R' i
                congr 1
                omega
              · rw [if_neg h]
                exact (q4 i (by omega)).symm
            rw [el] at hg
            exact hg
          | succ m ih =>
            intro k hk R' q1 q2 q3 q4
            apply hX107
            unfold wM_M_emit_107B
            have e2 : (va_up B 3 R') 2 = B 2 := rfl
            have e3 : (va_up B 3 R') 3 = R' := rfl
            rw [e2, e3, e21, nI_add, nI_add, nI_clamp (n := s + k) (by omega), nI_clamp (n := 8 * c + off + k) (by omega), pz_upup, pz_inc]
            refine ⟨fun q => absurd q (nI_ge (by omega) (by omega)), fun _ => ⟨vp_in_nI (by omega) (by decide), vp_in_nI (by omega) (by decide), ?_⟩⟩
            refine ih (k + 1) (by omega) _ (fun i hi => ?_) (fun i hi => ?_) (fun i hi hi8 => ?_) (fun i hi => ?_)
            · unfold upd; rw [if_neg (by omega)]; exact q1 i hi
            · unfold upd
              by_cases h1 : i = k
              · rw [h1, if_pos rfl]
              · rw [if_neg (by omega)]; exact q2 i (by omega)
            · unfold upd; rw [if_neg (by omega)]; exact q3 i (by omega) hi8
            · unfold upd; rw [if_neg (by omega)]; exact q4 i hi
        exact key n 0 (by omega) R r1 (fun i hi => absurd hi (Nat.not_lt_zero i)) (fun i hi hi8 => r2 i (by omega) hi8) r3
      unfold wM_M_emit_40
      intro X40 hX40
      have key : ∀ m k : Nat, k + m = 8 → X40 T (va_up B 3 (lay (B 3) (8 * c) k (fun _ => 0))) one two (nI n) (nI k) := by
        intro m
        induction m with
        | zero =>
          intro k hk
          have hk : k = 8 := by omega
          subst hk
          apply hX40
          unfold wM_M_emit_40B
          have e3 : (va_up B 3 (lay (B 3) (8 * c) 8 (fun _ => 0))) 3 = lay (B 3) (8 * c) 8 (fun _ => 0) := rfl
          rw [e8, e3, show nI (8 * c) + (1 : Int32) = nI (8 * c + 1) from nI_add _ 1, show nI (8 * c + 1) + (1 : Int32) = nI (8 * c + 2) from nI_add _ 1, nI_clamp (n := 8 * c) (by omega), nI_clamp (n := 8 * c + 1) (by omega), pz_upup, pz_upup]
          refine ⟨fun _ => ⟨vp_in_nI (by omega) (by decide), fun h => ?_, fun h => ⟨vp_in_nI (by omega) (by decide), ?_⟩⟩, fun q => absurd (show (8 : Int32) ≤ nI 8 from Int32.le_refl _) q⟩
          · have ho : off = 1 := by rcases hoff with ⟨_, h2⟩ | ⟨h2, _⟩; exact h2; exact absurd h h2
            subst ho
            refine copy _ (fun i hi => ?_) (fun i hi hi8 => ?_) (fun i hi => ?_)
            · have : i = 0 := by omega
              subst this
              unfold upd
              exact if_pos (by omega)
            · unfold upd
              rw [if_neg (by omega)]
              exact lay_in hi8
            · unfold upd
              rw [if_neg (by omega)]
              exact lay_out hi
          · have ho : off = 2 := by rcases hoff with ⟨h2, _⟩ | ⟨_, h2⟩; exact absurd h2 h; exact h2
            subst ho
            refine copy _ (fun i hi => ?_) (fun i hi hi8 => ?_) (fun i hi => ?_)
            · unfold upd
              by_cases h0 : i = 0
              · subst h0
                rw [if_neg (by omega)]
                exact if_pos (by omega)
              · have : i = 1 := by omega
                subst this
                rw [if_pos rfl, if_neg (by decide)]
            · unfold upd
              rw [if_neg (by omega), if_neg (by omega)]
              exact lay_in hi8
            · unfold upd
              rw [if_neg (by omega), if_neg (by omega)]
              exact lay_out hi
        | succ m ih =>
          intro k hk
          apply hX40
          unfold wM_M_emit_40B
          have e3 : (va_up B 3 (lay (B 3) (8 * c) k (fun _ => 0))) 3 = lay (B 3) (8 * c) k (fun _ => 0) := rfl
          rw [e8, e3, nI_add, nI_clamp (n := 8 * c + k) (by omega)]
          refine ⟨fun q => absurd q (nI_ge (b := 8) (by omega) (by decide)), fun _ => ⟨vp_in_nI (by omega) (by decide), ?_⟩⟩
          have h2 := ih (k + 1) (by omega)
          rw [← lay_s] at h2
          rw [pz_upup, pz_inc]
          exact h2
      have h2 := key 8 0 rfl
      rw [lay_0, pz_up] at h2
      exact h2
  unfold wM_M_emit
  have ed : T 20 - T 21 = nI (a - s) := by rw [e20, e21]; exact pk_sub hs
  rw [ed]
  refine ⟨fun h => main most ?_, fun h => main (a - s) ?_⟩
  · have := (pz_le (by omega) (by omega)).mp h
    omega
  · have : ¬ most ≤ a - s := fun q => h ((pz_le (by omega) (by omega)).mpr q)
    omega
/-- both rows get the same frame -/
theorem RelR.push {A B : AA} {c f : Nat} {g h : Nat → Int32} (hc : c < 12) (hf : f < 12) (hr : ∀ j, j < c → ∀ k, k < 8 → A 2 (((f + j) % 12) * 8 + k) = B 3 (8 * j + k)) (e : ∀ k, k < 8 → g k = h k) : ∀ j, j < c + 1 → ∀ k, k < 8 → lay (A 2) (((f + c) % 12) * 8) 8 g (((f + j) % 12) * 8 + k) = lay (B 3) (8 * c) 8 h (8 * j + k) := by
  intro j hj k hk
  by_cases h1 : j = c
  · subst h1
    rw [lay_in hk, lay_in hk]
    exact e k hk
  · rw [lay_out (by omega), lay_out (by omega)]
    exact hr j (by omega) k hk
