/-! the serial that a slot gets when it is made to run -/
theorem ser_eq {f : Nat → Int32} (hf : by8 f) : (tl_mx (gs f 0) (gs f 1) = -1 ∧ best f = -1) ∨ ∃ b r0 : Nat, r0 ≤ 1 ∧ b < 256 ∧ best f = nI r0 ∧ f (48 * r0 + 33) = nI b ∧ tl_mx (gs f 0) (gs f 1) = nI b := by
  have low : ∀ s, (-1 : Int32) ≤ gs f s := by
    intro s
    rcases gd_em f s with h | h
    · rw [gs_y h]; exact (byte_neg hf _).2.1
    · rw [gs_n h]; exact Int32.le_refl _
  unfold tl_mx best
  by_cases h : gs f 1 ≤ gs f 0
  · rw [if_pos h, if_neg (Int32.not_lt.mpr h)]
    by_cases h0 : gs f 0 = -1
    · rw [if_pos h0]
      exact Or.inl ⟨h0, rfl⟩
    · rw [if_neg h0]
      rcases gd_em f 0 with g | g
      · obtain ⟨b, hb, eb⟩ := hf (48 * 0 + 33)
        exact Or.inr ⟨b, 0, by decide, hb, rfl, eb, (gs_y g).trans eb⟩
      · exact absurd (gs_n g) h0
  · rw [if_neg h, if_pos (Int32.not_le.mp h)]
    rcases gd_em f 1 with g | g
    · obtain ⟨b, hb, eb⟩ := hf (48 * 1 + 33)
      exact Or.inr ⟨b, 1, by decide, hb, rfl, eb, (gs_y g).trans eb⟩
    · exact absurd (by rw [gs_n g]; exact low 0) h
/-- a header written: three bytes from st on, towards a, b, c -/
def hdW (o num : Int32) (f : Nat → Int32) (st : Nat) (a b c : Int32) : Nat → Int32 := upd (upd (upd f st (chg o num 0 (f st) (f st &&& a))) (st + 1) (chg o num 1 (f (st + 1)) (f (st + 1) &&& b))) (st + 2) (chg o num 2 (f (st + 2)) (f (st + 2) &&& c))
/-- a mark written -/
def hdM (num : Int32) (f : Nat → Int32) (st : Nat) : Nat → Int32 := upd f st (chg 0 num 0 (f st) 0)
theorem wr3 {o num a b c : Int32} {f v : Nat → Int32} {st : Nat} (h0 : v 0 = f st &&& a) (h1 : v 1 = f (st + 1) &&& b) (h2 : v 2 = f (st + 2) &&& c) : wr o num f st 3 v = hdW o num f st a b c := by
  rw [show wr o num f st 3 v = _ from (wr_s o num f st 2 v).symm, wr_at, show wr o num f st 2 v = _ from (wr_s o num f st 1 v).symm, wr_at, show wr o num f st 1 v = _ from (wr_s o num f st 0 v).symm, wr_0, h0, h1, h2, Nat.add_zero]
  rfl
theorem wr1 {num : Int32} {f v : Nat → Int32} {st : Nat} (h0 : v 0 = 0) : wr 0 num f st 1 v = hdM num f st := by
  rw [show wr 0 num f st 1 v = _ from (wr_s 0 num f st 0 v).symm, wr_0, h0, Nat.add_zero]
  rfl
theorem by8_hdW {o num a b c : Int32} {f : Nat → Int32} {st : Nat} (hf : by8 f) (ha : ∃ k : Nat, k < 256 ∧ f st &&& a = nI k) (hb : ∃ k : Nat, k < 256 ∧ f (st + 1) &&& b = nI k) (hc : ∃ k : Nat, k < 256 ∧ f (st + 2) &&& c = nI k) : by8 (hdW o num f st a b c) := by
  obtain ⟨u, hu, eu⟩ := chg_by (o := o) (num := num) hf st 0 ha
  obtain ⟨v, hv, ev⟩ := chg_by (o := o) (num := num) hf (st + 1) 1 hb
  obtain ⟨w, hw, ew⟩ := chg_by (o := o) (num := num) hf (st + 2) 2 hc
  exact by8_upd (by8_upd (by8_upd hf hu eu) hv ev) hw ew
theorem by8_hdM {num : Int32} {f : Nat → Int32} {st : Nat} (hf : by8 f) : by8 (hdM num f st) := by
  obtain ⟨u, hu, eu⟩ := chg_by (o := 0) (num := num) hf st 0 ⟨0, by decide, (rfl : (0 : Int32) = nI 0)⟩
  exact by8_upd hf hu eu
theorem and_by {f : Nat → Int32} (hf : by8 f) (i : Nat) {b : Nat} (hb : b < 256) : ∃ k : Nat, k < 256 ∧ f i &&& nI b = nI k := by
  obtain ⟨a, ha, ea⟩ := hf i
  refine ⟨a &&& b, Nat.lt_of_le_of_lt Nat.and_le_left ha, ?_⟩
  rw [ea]
  exact nx_and a b
/-- the reference changes one byte -/
theorem hM_ch0 {X : SS → AA → Prop} {T : SS} {B : AA} {a k : Nat} {x : Int32} (ha : a < 96) (hk : k < 2 ^ 20) (hf : by8 (B 0)) (hx : ∃ b : Nat, b < 256 ∧ x = nI b) (hX : ∀ g : Nat → Int32, g = upd (B 0) a (chg (T 0) (T 1) k (B 0 a) x) → by8 g → X T (va_up B 0 g)) : wM_M_change X T B (nI a) (nI k) x := by
  obtain ⟨u, hu, eu⟩ := chg_by (o := T 0) (num := T 1) hf a k hx
  have hg := hX _ rfl (by8_upd hf hu eu)
  obtain ⟨b, hb, eb⟩ := hx
  rw [eb] at hg ⊢
  exact hM_change ha hk hb hf hg
theorem hM_ch {X : SS → AA → Prop} {T : SS} {B : AA} {f : Nat → Int32} {a k : Nat} {x y : Int32} (ha : a < 96) (hk : k < 2 ^ 20) (hf : by8 f) (hx : ∃ b : Nat, b < 256 ∧ x = nI b) (hy : f a = y) (hX : ∀ g : Nat → Int32, g = upd f a (chg (T 0) (T 1) k y x) → by8 g → X T (va_up B 0 g)) : wM_M_change X T (va_up B 0 f) (nI a) (nI k) x := by
  refine hM_ch0 ha hk (by rw [pz_us]; exact hf) hx (fun g hg hb => ?_)
  rw [pz_us, hy] at hg
  rw [pz_upup]
  exact hX g hg hb
/-- the reference writes a header: three bytes, then the mark -/
theorem hM_head {post : Int32 → SS → AA → Prop} {T : SS} {B : AA} {sl m sr : Nat} (hsl : sl ≤ 1) (hB : by8 (B 0)) (hz : tl_z (T 0)) (hm : m < 65536) (hsr : sr < 256) (em : sumF (B 0) (48 * sl) 32 = nI m)
    (h1 : ¬ T 0 = 0 → post (-1) (va_up T 0 0) (va_up B 0 (hdW (T 0) (T 1) (B 0) (48 * sl + 33) (nI sr) (nI (m / 256)) (nI (m % 256)))))
    (h0 : T 0 = 0 → post 0 (va_up (va_up T 0 0) 0 0) (va_up B 0 (hdM (T 1) (hdW (T 0) (T 1) (B 0) (48 * sl + 33) (nI sr) (nI (m / 256)) (nI (m % 256))) (48 * sl + 32)))) : wM_M_activate_50 post T B (nI sl) (nI sr) := by
  have e48 : (48 : Int32) * nI sl + (32 : Int32) = nI (48 * sl + 32) := by rw [show (48 : Int32) * nI sl = nI (48 * sl) from pk_mul 48 sl]; exact nI_add _ 32
  have ed : nI m / (256 : Int32) = nI (m / 256) := pk_div (d := 256) (by omega) (by decide) (by decide)
  have er : nI m - nI m / (256 : Int32) * (256 : Int32) = nI (m % 256) := pk_rem (d := 256) (by omega) (by decide) (by decide)
  have e1 : nI (48 * sl + 32) + (1 : Int32) = nI (48 * sl + 33) := nI_add _ 1
  have e2 : nI (48 * sl + 32) + (2 : Int32) = nI (48 * sl + 34) := nI_add _ 2
  have e3 : nI (48 * sl + 32) + (3 : Int32) = nI (48 * sl + 35) := nI_add _ 3
  unfold wM_M_activate_50
  refine hM_sumOf hsl ?_
  rw [em, e48, er, ed, e1, e2, e3, nI_clamp (n := 48 * sl + 33) (by omega), nI_clamp (n := 48 * sl + 34) (by omega), nI_clamp (n := 48 * sl + 35) (by omega)]
  refine ⟨vp_in_nI (by omega) (by decide), ?_⟩
  refine hM_ch0 (a := 48 * sl + 33) (k := 0) (by omega) (by decide) hB (and_by hB _ hsr) (fun g1 hg1 b1 => ⟨vp_in_nI (by omega) (by decide), ?_⟩)
  have y1 : g1 (48 * sl + 34) = B 0 (48 * sl + 34) := by rw [hg1]; exact pk_un (by omega)
  rw [pz_us, y1]
  refine hM_ch (a := 48 * sl + 34) (k := 1) (by omega) (by decide) b1 (and_by hB _ (by omega)) y1 (fun g2 hg2 b2 => ⟨vp_in_nI (by omega) (by decide), ?_⟩)
  have y2 : g2 (48 * sl + 35) = B 0 (48 * sl + 35) := by rw [hg2, pk_un (by omega), hg1]; exact pk_un (by omega)
  rw [pz_us, y2]
  refine hM_ch (a := 48 * sl + 35) (k := 2) (by omega) (by decide) b2 (and_by hB _ (by omega)) y2 (fun g3 hg3 b3 => ?_)
  have eg : g3 = hdW (T 0) (T 1) (B 0) (48 * sl + 33) (nI sr) (nI (m / 256)) (nI (m % 256)) := by rw [hg3, hg2, hg1]; rfl
  unfold wM_M_torn
  refine ⟨hz, fun t0 => ?_, fun t0 => ?_⟩
  · refine hM_ch (a := 48 * sl + 32) (k := 0) (by omega) (by decide) b3 ⟨0, by decide, rfl⟩ rfl (fun g4 hg4 _ => ⟨Or.inl rfl, br_t rfl ?_⟩)
    have e4 : g4 = hdM (T 1) g3 (48 * sl + 32) := hg4
    rw [e4, eg]
    exact h0 t0
  · rw [eg]
    exact h1 t0
theorem sv_49 {n L : Nat} {S : SS} {A : AA} {T : SS} {B : AA} (hW : Wk n S A T B) (e7 : S 7 = nI L) (hL : L ≤ 34) (e11 : S 11 = nI 1) (e20 : T 20 = nI 0) (hs : B 1 0 = 49) (hA0 : A 3 0 = 113) (hl : 4 ≤ L) (h6 : B 1 2 = 2 → L = 6) (r1 : ¬ B 1 2 < (1 : Int32)) (r2 : ¬ (3 : Int32) < B 1 2) (r3 : ¬ (1 : Int32) < B 1 3) {P : Int32 → SS → AA → Prop} (hP : Dn n P (fun Q => wM_M_workOn Q T B) B) : wX_T_serve P S A 49 := by
  obtain ⟨hF, ⟨c1, c2, c3, c4, c5, c6, c7, c8, c9, c10, c11, c12, c13, c14, c15, c16, c17⟩, ⟨i1, i2⟩, hD, ⟨q1, q2, q3⟩, a1, hR⟩ := hW.step
  obtain ⟨f1, f2, f3, f4, f5⟩ := hF
  obtain ⟨u, hu, eu⟩ := q2 2
  obtain ⟨sl, hsl0, esl⟩ := q2 3
  have hsl : sl ≤ 1 := Nat.le_of_not_lt (fun q => r3 (by rw [esl]; exact nI_lt (a := 1) q (by omega)))
  have hu1 : 1 ≤ u := Nat.le_of_not_lt (fun q => r1 (by rw [eu]; exact nI_lt (b := 1) q (by decide)))
  have hu3 : u ≤ 3 := Nat.le_of_not_lt (fun q => r2 (by rw [eu]; exact nI_lt (a := 3) q (by omega)))
  have ex2 : A 1 2 = B 1 2 := by rw [q1]
  have ex3 : A 1 3 = B 1 3 := by rw [q1]
  have hA0' : by8 (A 0) := by rw [f1]; exact f2
  have ref : ∀ Q : Int32 → SS → AA → Prop, ((¬ B 1 2 = (1 : Int32) → ((¬ B 1 2 = (3 : Int32) → (wM_M_routine_59 Q T B (B 1 2) (nI sl) (0 : Int32))) ∧ (B 1 2 = (3 : Int32) → (wM_M_activate (fun r52 S52 A52 => (wM_M_routine_59 Q S52 A52 (B 1 2) (nI sl) r52)) T B (nI sl))))) ∧ (B 1 2 = (1 : Int32) → (wM_M_eraseSlot (fun r39 S39 A39 => (wM_M_routine_59 Q S39 A39 (B 1 2) (nI sl) r39)) T B (nI sl)))) → wM_M_workOn Q T B := by
    intro Q hQ
    unfold wM_M_workOn
    rw [cl_0, hs]
    refine ⟨vl_0 (by decide) (by decide), br_f (by decide) (br_f (by decide) (br_f (by decide) (br_f (by decide) (br_f (by decide) (br_t rfl (?_))))))⟩
    unfold wM_M_routine
    rw [cl_2, cl_3, esl]
    rw [esl] at r3
    exact ⟨vl_2 (by decide) (by decide), vl_3 (by decide) (by decide), br_f r1 (br_f r2 (br_t (Int32.not_lt.mp r3) hQ))⟩
  have sW : Wk (n + 1) (va_up (va_up S 11 (nI (1 + 1))) 11 (nI (2 + 1))) (va_up (va_up A 3 (upd (A 3) 1 1)) 3 (upd ((va_up A 3 (upd (A 3) 1 1)) 3) 2 (B 1 2))) T B := ⟨⟨f1, f2, f3, f4, f5⟩, ⟨c1, c2, c3, c4, c5, c6, c7, c8, c9, c10, c11, c12, c13, c14, c15, c16, c17⟩, ⟨i1, i2⟩, hD, ⟨q1, q2, q3⟩, a1, hR⟩
  unfold wX_T_serve
  refine br_f (by decide) (br_f (by decide) (br_f (by decide) (br_f (by decide) (br_t rfl (?_)))))
  refine hX_atY 2 e7 hL (by omega) ?_
  refine hX_atY 3 e7 hL (by omega) ?_
  rw [ex2, ex3, esl]
  unfold wX_T_runRoutine
  refine hX_sadd 1 e11 (by decide) ?_
  refine hX_sadd 2 rfl (by decide) ?_
  have e3 : u = 1 ∨ u = 2 ∨ u = 3 := by omega
  rcases e3 with q | q | q
  · -- a slot is erased
    have ed : B 1 2 = 1 := by rw [eu, q]; rfl
    refine bn_t ed ?_
    unfold wX_T_eraseSlot wX_T_eraseSlot_61 wX_T_eraseSlot_62
    have e0 : (va_up (va_up S 11 (nI (1 + 1))) 11 (nI (2 + 1))) 0 = T 2 := c1
    rw [e0]
    refine ⟨fun hne => ?_, fun he => ?_⟩
    · have x2 : (3 : Int32) * nI sl + (2 : Int32) = nI (3 * sl + 2) := by rw [show (3 : Int32) * nI sl = nI (3 * sl) from pk_mul 3 sl]; exact nI_add _ 2
      have x1 : (3 : Int32) * nI sl + (1 : Int32) = nI (3 * sl + 1) := by rw [show (3 : Int32) * nI sl = nI (3 * sl) from pk_mul 3 sl]; exact nI_add _ 1
      have x0 : (3 : Int32) * nI sl = nI (3 * sl) := pk_mul 3 sl
      rw [x2, x1, x0]
      have er1 : er (S 5) (S 6) (A 0) (3 * sl + 2) = er (T 0) (T 1) (B 0) (3 * sl + 2) := by rw [f3, f4, f1]
      have er3 : er 0 (S 6) (er 0 (S 6) (er (S 5) (S 6) (A 0) (3 * sl + 2)) (3 * sl)) (3 * sl + 1) = er 0 (T 1) (er 0 (T 1) (er (T 0) (T 1) (B 0) (3 * sl + 2)) (3 * sl)) (3 * sl + 1) := by rw [f3, f4, f1]
      refine hX_erase (sec := 3 * sl + 2) (by omega) (fun o0 => br_f (by decide) ?_) (fun o1 => br_t rfl (br_t rfl ?_))
      · have t0 : T 0 = 0 := f3.symm.trans o0
        refine hX_erase (sec := 3 * sl) (by omega) (fun _ => br_f (by decide) ?_) (fun q => absurd rfl q)
        refine hX_erase (sec := 3 * sl + 1) (by omega) (fun _ => br_f (by decide) (br_f (by decide) ?_)) (fun q => absurd rfl q)
        refine hP.1 0 _ _ (va_up (va_up (va_up (va_up (va_up (va_up (va_up T 5 (-1)) 0 0) 0 0) 0 0) 20 (nI 1)) 20 (nI 2)) 20 (nI 3)) (va_up (va_up (va_up (va_up (va_up (va_up B 0 (er (T 0) (T 1) (B 0) (3 * sl + 2))) 0 (er 0 (T 1) (er (T 0) (T 1) (B 0) (3 * sl + 2)) (3 * sl))) 0 (er 0 (T 1) (er 0 (T 1) (er (T 0) (T 1) (B 0) (3 * sl + 2)) (3 * sl)) (3 * sl + 1))) 2 (upd (B 2) 0 113)) 2 (upd (upd (B 2) 0 113) 1 1)) 2 (upd (upd (upd (B 2) 0 113) 1 1) 2 (B 1 2))) (fun Q hQ => ref Q (bn_t ed ?_)) ⟨⟨er3, by8_er (by8_er (by8_er f2)), rfl, f4, Or.inl rfl⟩, ⟨c1, c2, c3, c4, c5, c6, rfl, Or.inl rfl, c9, c10, c11, c12, c13, c14, c15, c16, c17⟩, ⟨i1, i2⟩, hD, ⟨q1, q2, q3⟩, a1, hR⟩ rfl (Or.inl ⟨rfl, 3, Or.inl (by decide), rfl, rfl, wa_s (wa_s (wa_1 hA0) 1) (B 1 2)⟩)
        unfold wM_M_eraseSlot
        rw [x2, x1, x0]
        refine bn_f hne ?_
        refine hM_erase (sec := 3 * sl + 2) (by omega) f2 f5 (br_t t0 ?_)
        refine hM_erase (sec := 3 * sl) (by omega) (by8_er f2) (Or.inl rfl) (br_t rfl ?_)
        refine hM_erase (sec := 3 * sl + 1) (by omega) (by8_er (by8_er f2)) (Or.inl rfl) (br_t rfl ?_)
        unfold wM_M_routine_59
        refine br_t rfl ?_
        refine hM_add 0 e20 (by decide) ?_
        refine hM_add 1 rfl (by decide) ?_
        refine hM_add 2 rfl (by decide) ?_
        exact bn_f (by rw [ed]; decide) hQ
      · refine hP.2 _ _ (va_up (va_up T 5 (-1)) 0 0) (va_up B 0 (er (T 0) (T 1) (B 0) (3 * sl + 2))) (fun Q hQ => ref Q (bn_t ed ?_)) ⟨⟨er1, by8_er f2, rfl, f4, Or.inl rfl⟩, ⟨c10, c11⟩, i2, ⟨q1, q2⟩, hR⟩
        unfold wM_M_eraseSlot
        rw [x2, x1, x0]
        refine bn_f hne ?_
        refine hM_erase (sec := 3 * sl + 2) (by omega) f2 f5 (br_f (fun q => o1 (f3.trans q)) ?_)
        unfold wM_M_routine_59
        exact br_f (by decide) hQ
    · refine hP.1 34 _ _ T B (fun Q hQ => ref Q (bn_t ed ?_)) sW rfl (Or.inr ⟨by show ¬ B 1 0 = 17; rw [hs]; decide, 34, by decide, by decide, rfl⟩)
      unfold wM_M_eraseSlot wM_M_routine_59
      exact bn_t he (br_f (by decide) hQ)
  · -- a slot is checked
    have ed : B 1 2 = 2 := by rw [eu, q]; rfl
    have hL6 := h6 ed
    refine bn_f (by rw [ed]; decide) (bn_t ed ?_)
    unfold wX_T_checkSlot wX_T_checkSlot_37 wX_T_checkSlot_63 wX_T_checkSlot_73
    refine hX_sumOf ?_ hsl ?_
    · exact hA0'
    refine hX_atY 4 e7 hL (by omega) ?_
    refine hX_atY 5 e7 hL (by omega) ?_
    have ex4 : (va_up (va_up A 3 (upd (A 3) 1 1)) 3 (upd ((va_up A 3 (upd (A 3) 1 1)) 3) 2 (B 1 2))) 1 4 = B 1 4 := by show A 1 4 = B 1 4; rw [q1]
    have ex5 : (va_up (va_up A 3 (upd (A 3) 1 1)) 3 (upd ((va_up A 3 (upd (A 3) 1 1)) 3) 2 (B 1 2))) 1 5 = B 1 5 := by show A 1 5 = B 1 5; rw [q1]
    have exs : sumF ((va_up (va_up A 3 (upd (A 3) 1 1)) 3 (upd ((va_up A 3 (upd (A 3) 1 1)) 3) 2 (B 1 2))) 0) (48 * sl) 32 = sumF (B 0) (48 * sl) 32 := by show sumF (A 0) (48 * sl) 32 = _; rw [f1]
    rw [ex4, ex5, exs]
    -- the reference's road
    have rr : ∀ Q : Int32 → SS → AA → Prop, ((¬ sumF (B 0) (48 * sl) 32 = (((256 : Int32) * B 1 4) + B 1 5) → (wM_M_routine_117 Q (va_up (va_up (va_up T 20 (nI 1)) 20 (nI 2)) 20 (nI 3)) (va_up (va_up (va_up B 2 (upd (B 2) 0 113)) 2 (upd (upd (B 2) 0 113) 1 1)) 2 (upd (upd (upd (B 2) 0 113) 1 1) 2 (B 1 2))) (nI sl) (0 : Int32))) ∧ (sumF (B 0) (48 * sl) 32 = (((256 : Int32) * B 1 4) + B 1 5) → (wM_M_routine_117 Q (va_up (va_up (va_up T 20 (nI 1)) 20 (nI 2)) 20 (nI 3)) (va_up (va_up (va_up B 2 (upd (B 2) 0 113)) 2 (upd (upd (B 2) 0 113) 1 1)) 2 (upd (upd (upd (B 2) 0 113) 1 1) 2 (B 1 2))) (nI sl) (1 : Int32)))) → wM_M_workOn Q T B := by
      intro Q hQ
      refine ref Q (bn_f (by rw [ed]; decide) (bn_f (by rw [ed]; decide) ?_))
      unfold wM_M_routine_59
      refine br_t rfl ?_
      refine hM_add 0 e20 (by decide) ?_
      refine hM_add 1 rfl (by decide) ?_
      refine hM_add 2 rfl (by decide) ?_
      refine bn_t ed ?_
      refine hM_sumOf hsl ⟨vl_4 (by decide) (by decide), vl_5 (by decide) (by decide), ?_⟩
      rw [cl_4, cl_5]
      exact hQ
    have c2' : (va_up (va_up S 11 (nI (1 + 1))) 11 (nI (2 + 1))) 2 = T 5 := c7
    rw [c2']
    refine ⟨fun hne => br_t rfl ⟨fun h5 => br_t rfl ?_, fun h5 => br_t rfl ?_⟩, fun he => br_f (by decide) (br_f (by decide) ?_)⟩
    · refine hX_done 3 rfl (by decide) ?_
      refine hP.1 0 _ _ (va_up (va_up (va_up (va_up (va_up T 20 (nI 1)) 20 (nI 2)) 20 (nI 3)) 5 (T 5)) 20 (nI 4)) (va_up (va_up (va_up (va_up B 2 (upd (B 2) 0 113)) 2 (upd (upd (B 2) 0 113) 1 1)) 2 (upd (upd (upd (B 2) 0 113) 1 1) 2 (B 1 2))) 2 (upd (upd (upd (upd (B 2) 0 113) 1 1) 2 (B 1 2)) 3 0)) (fun Q hQ => rr Q (bn_f hne ?_)) ⟨⟨f1, f2, f3, f4, f5⟩, ⟨c1, c2, c3, c4, c5, c6, c7, c8, c9, c10, c11, c12, c13, c14, c15, c16, c17⟩, ⟨i1, i2⟩, hD, ⟨q1, q2, q3⟩, a1, hR⟩ rfl (Or.inl ⟨rfl, 4, Or.inl (by decide), rfl, rfl, wa_s (wa_s (wa_s (wa_1 hA0) 1) (B 1 2)) 0⟩)
      unfold wM_M_routine_117 wM_M_routine_145 wM_M_routine_159
      refine br_t rfl (bn_f h5 (br_t rfl ?_))
      refine hM_add 3 rfl (by decide) ?_
      exact hQ
    · refine hX_done 3 rfl (by decide) ?_
      refine hP.1 0 _ _ (va_up (va_up (va_up (va_up (va_up T 20 (nI 1)) 20 (nI 2)) 20 (nI 3)) 5 (-1)) 20 (nI 4)) (va_up (va_up (va_up (va_up B 2 (upd (B 2) 0 113)) 2 (upd (upd (B 2) 0 113) 1 1)) 2 (upd (upd (upd (B 2) 0 113) 1 1) 2 (B 1 2))) 2 (upd (upd (upd (upd (B 2) 0 113) 1 1) 2 (B 1 2)) 3 0)) (fun Q hQ => rr Q (bn_f hne ?_)) ⟨⟨f1, f2, f3, f4, f5⟩, ⟨c1, c2, c3, c4, c5, c6, rfl, Or.inl rfl, c9, c10, c11, c12, c13, c14, c15, c16, c17⟩, ⟨i1, i2⟩, hD, ⟨q1, q2, q3⟩, a1, hR⟩ rfl (Or.inl ⟨rfl, 4, Or.inl (by decide), rfl, rfl, wa_s (wa_s (wa_s (wa_1 hA0) 1) (B 1 2)) 0⟩)
      unfold wM_M_routine_117 wM_M_routine_145 wM_M_routine_159
      refine br_t rfl (bn_t h5 (br_t rfl ?_))
      refine hM_add 3 rfl (by decide) ?_
      exact hQ
    · refine hX_done 3 rfl (by decide) ?_
      have hs01 : nI sl = -1 ∨ nI sl = 0 ∨ nI sl = 1 := by
        have : sl = 0 ∨ sl = 1 := by omega
        rcases this with q | q
        · exact Or.inr (Or.inl (by rw [q]; rfl))
        · exact Or.inr (Or.inr (by rw [q]; rfl))
      refine hP.1 0 _ _ (va_up (va_up (va_up (va_up (va_up T 20 (nI 1)) 20 (nI 2)) 20 (nI 3)) 5 (nI sl)) 20 (nI 4)) (va_up (va_up (va_up (va_up B 2 (upd (B 2) 0 113)) 2 (upd (upd (B 2) 0 113) 1 1)) 2 (upd (upd (upd (B 2) 0 113) 1 1) 2 (B 1 2))) 2 (upd (upd (upd (upd (B 2) 0 113) 1 1) 2 (B 1 2)) 3 1)) (fun Q hQ => rr Q (bn_t he ?_)) ⟨⟨f1, f2, f3, f4, f5⟩, ⟨c1, c2, c3, c4, c5, c6, rfl, hs01, c9, c10, c11, c12, c13, c14, c15, c16, c17⟩, ⟨i1, i2⟩, hD, ⟨q1, q2, q3⟩, a1, hR⟩ rfl (Or.inl ⟨rfl, 4, Or.inl (by decide), rfl, rfl, wa_s (wa_s (wa_s (wa_1 hA0) 1) (B 1 2)) 1⟩)
      unfold wM_M_routine_117 wM_M_routine_145 wM_M_routine_159
      refine br_f (by decide) (br_f (by decide) ?_)
      refine hM_add 3 rfl (by decide) ?_
      exact hQ
  · -- a slot is made to run
    have ed : B 1 2 = 3 := by rw [eu, q]; rfl
    refine bn_f (by rw [ed]; decide) (bn_f (by rw [ed]; decide) ?_)
    unfold wX_T_releaseSlot
    have e0 : (va_up (va_up S 11 (nI (1 + 1))) 11 (nI (2 + 1))) 0 = T 2 := c1
    have c2' : (va_up (va_up S 11 (nI (1 + 1))) 11 (nI (2 + 1))) 2 = T 5 := c7
    rw [e0, c2']
    have no : (nI sl = T 2 ∨ ¬ nI sl = T 5) → P 34 (va_up (va_up S 11 (nI (1 + 1))) 11 (nI (2 + 1))) (va_up (va_up A 3 (upd (A 3) 1 1)) 3 (upd ((va_up A 3 (upd (A 3) 1 1)) 3) 2 (B 1 2))) := by
      intro hno
      refine hP.1 34 _ _ T B (fun Q hQ => ref Q (bn_f (by rw [ed]; decide) (bn_t ed ?_))) sW rfl (Or.inr ⟨by show ¬ B 1 0 = 17; rw [hs]; decide, 34, by decide, by decide, rfl⟩)
      unfold wM_M_activate wM_M_routine_59
      refine ⟨fun _ => br_f (by decide) hQ, fun h1 => ⟨fun h2 => ?_, fun _ => br_f (by decide) hQ⟩⟩
      rcases hno with hno | hno
      · exact absurd hno h1
      · exact absurd h2 hno
    refine ⟨fun he => no (Or.inl he), fun hne => ⟨fun hc => ?_, fun hc => no (Or.inr hc)⟩⟩
    obtain ⟨m, hm, em⟩ := sumF_in f2 (48 * sl) 32
    refine hX_goodSerial (s0 := 0) ?_ (by decide) ?_
    · exact hA0'
    refine hX_goodSerial (s0 := 1) ?_ (by decide) ?_
    · exact hA0'
    refine hX_sumOf ?_ hsl ?_
    · exact hA0'
    unfold wX_Mm_headerOf
    have eA : (va_up (va_up A 3 (upd (A 3) 1 1)) 3 (upd ((va_up A 3 (upd (A 3) 1 1)) 3) 2 (B 1 2))) 0 = B 0 := f1
    have eh : nI sl * (48 : Int32) + (32 : Int32) = nI (48 * sl + 32) := by
      rw [show nI sl * (48 : Int32) = nI (sl * 48) from pk_mul sl 48, Nat.mul_comm]
      exact nI_add _ 32
    rw [eA, em, eh]
    -- both know the serial
    have main : ∀ sr : Nat, sr < 256 → (∀ Q : Int32 → SS → AA → Prop, wM_M_activate_50 Q T B (nI sl) (nI sr) → wM_M_activate Q T B (nI sl)) → wX_T_releaseSlot_75 (fun r42 S42 A42 => (P r42 S42 A42)) (va_up (va_up S 11 (nI (1 + 1))) 11 (nI (2 + 1))) (va_up (va_up A 3 (upd (A 3) 1 1)) 3 (upd ((va_up A 3 (upd (A 3) 1 1)) 3) 2 (B 1 2))) (nI m) (nI (48 * sl + 32)) (nI sr) 0 := by
      intro sr hsr hact
      unfold wX_T_releaseSlot_75
      have h8 : ((nI m).toUInt32 >>> ((8 : Int32).toUInt32 &&& Int32.toUInt32 31)).toInt32 = nI (m / 256) := pk_ushrN (by omega) 8 8 (by decide +kernel)
      have h25 : nI m &&& (255 : Int32) = nI (m % 256) := pk_andN (by omega) 8 (by decide +kernel)
      rw [cl_0, cl_1, cl_2, h8, h25, pz_upup, pz_upup, show nI (48 * sl + 32) + (1 : Int32) = nI (48 * sl + 33) from nI_add _ 1]
      refine ⟨vl_0 (by decide) (by decide), vl_1 (by decide) (by decide), vl_2 (by decide) (by decide), ?_⟩
      have ew : wr (S 5) (S 6) (A 0) (48 * sl + 33) 3 (fun j => A 0 (48 * sl + 33 + j) &&& (upd (upd (upd (A 5) 0 (nI sr)) 1 (nI (m / 256))) 2 (nI (m % 256))) j) = (hdW (T 0) (T 1) (B 0) (48 * sl + 33) (nI sr) (nI (m / 256)) (nI (m % 256))) := by
        rw [f3, f4, f1]
        exact wr3 rfl rfl rfl
      have hby : by8 (hdW (T 0) (T 1) (B 0) (48 * sl + 33) (nI sr) (nI (m / 256)) (nI (m % 256))) := by8_hdW f2 (and_by f2 _ hsr) (and_by f2 _ (by omega)) (and_by f2 _ (by omega))
      refine hX_write12g (at0 := 48 * sl + 33) (m := 3) (by omega) (by decide) (fun g hg => ⟨fun o0 => bn_f (by decide) ⟨vl_0 (by decide) (by decide), ?_⟩, fun o1 => bn_t rfl ?_⟩)
      · have o0 : S 5 = 0 := o0
        have t0 : T 0 = 0 := f3.symm.trans o0
        have eg : g = (hdW (T 0) (T 1) (B 0) (48 * sl + 33) (nI sr) (nI (m / 256)) (nI (m % 256))) := hg.trans ew
        refine hX_write12g (at0 := 48 * sl + 32) (m := 1) (by omega) (by decide) (fun g2 hg2 => ⟨fun _ => br_f (by decide) ?_, fun q => absurd rfl q⟩)
        have eg2 : g2 = (hdM (T 1) (hdW (T 0) (T 1) (B 0) (48 * sl + 33) (nI sr) (nI (m / 256)) (nI (m % 256))) (48 * sl + 32)) := by
          rw [hg2]
          show wr 0 (S 6) g (48 * sl + 32) 1 (fun j => g (48 * sl + 32 + j) &&& upd (upd (upd (upd (A 5) 0 (nI sr)) 1 (nI (m / 256))) 2 (nI (m % 256))) 0 0 j) = _
          rw [f4, eg]
          refine wr1 ?_
          show _ &&& (0 : Int32) = 0
          exact Int32.and_zero
        refine hP.1 0 _ _ (va_up (va_up (va_up (va_up (va_up T 0 0) 0 0) 20 (nI 1)) 20 (nI 2)) 20 (nI 3)) (va_up (va_up (va_up (va_up B 0 (hdM (T 1) (hdW (T 0) (T 1) (B 0) (48 * sl + 33) (nI sr) (nI (m / 256)) (nI (m % 256))) (48 * sl + 32))) 2 (upd (B 2) 0 113)) 2 (upd (upd (B 2) 0 113) 1 1)) 2 (upd (upd (upd (B 2) 0 113) 1 1) 2 (B 1 2))) (fun Q hQ => ref Q (bn_f (by rw [ed]; decide) (bn_t ed (hact _ (hM_head hsl f2 f5 hm hsr em (fun q => absurd t0 q) (fun _ => ?_)))))) ⟨⟨eg2, by8_hdM hby, rfl, f4, Or.inl rfl⟩, ⟨c1, c2, c3, c4, c5, c6, c7, c8, c9, c10, c11, c12, c13, c14, c15, c16, c17⟩, ⟨i1, i2⟩, hD, ⟨q1, q2, q3⟩, a1, hR⟩ rfl (Or.inl ⟨rfl, 3, Or.inl (by decide), rfl, rfl, wa_s (wa_s (wa_1 hA0) 1) (B 1 2)⟩)
        unfold wM_M_routine_59
        refine br_t rfl ?_
        refine hM_add 0 e20 (by decide) ?_
        refine hM_add 1 rfl (by decide) ?_
        refine hM_add 2 rfl (by decide) ?_
        exact bn_f (by rw [ed]; decide) hQ
      · have o1 : ¬ S 5 = 0 := o1
        have eg : g = (hdW (T 0) (T 1) (B 0) (48 * sl + 33) (nI sr) (nI (m / 256)) (nI (m % 256))) := hg.trans ew
        refine hP.2 _ _ (va_up T 0 0) (va_up B 0 (hdW (T 0) (T 1) (B 0) (48 * sl + 33) (nI sr) (nI (m / 256)) (nI (m % 256)))) (fun Q hQ => ref Q (bn_f (by rw [ed]; decide) (bn_t ed (hact _ (hM_head hsl f2 f5 hm hsr em (fun _ => ?_) (fun q => absurd (f3.trans q) o1)))))) ⟨⟨eg, hby, rfl, f4, Or.inl rfl⟩, ⟨c10, c11⟩, i2, ⟨q1, q2⟩, hR⟩
        unfold wM_M_routine_59
        exact br_f (by decide) hQ
    rcases ser_eq f2 with ⟨g1, g2⟩ | ⟨b, r0, hr0, hb, g1, g2, g3⟩
    · refine bn_t g1 (main 1 (by decide) (fun Q hQ => ?_))
      unfold wM_M_activate
      refine br_f hne (br_t hc (hM_bestSlot f2 ?_))
      rw [g2]
      exact br_f (by decide) hQ
    · have hnm : ¬ nI b = (-1 : Int32) := fun q => (byte_neg f2 (48 * r0 + 33)).1 (g2.trans q)
      rw [g3]
      refine bn_f hnm ?_
      have es : (nI b + (1 : Int32)) &&& (255 : Int32) = nI ((b + 1) % 256) := by rw [pz_inc]; exact pk_andN (by omega) 8 (by decide +kernel)
      rw [es]
      refine main ((b + 1) % 256) (Nat.mod_lt _ (by decide)) (fun Q hQ => ?_)
      unfold wM_M_activate
      refine br_f hne (br_t hc (hM_bestSlot f2 ?_))
      have e33 : (48 : Int32) * nI r0 + (33 : Int32) = nI (48 * r0 + 33) := by rw [show (48 : Int32) * nI r0 = nI (48 * r0) from pk_mul 48 r0]; exact nI_add _ 33
      rw [g1, e33, nI_clamp (n := 48 * r0 + 33) (by omega), g2, pz_inc, show nI (b + 1) - nI (b + 1) / (256 : Int32) * (256 : Int32) = nI ((b + 1) % 256) from pk_rem (d := 256) (by omega) (by decide) (by decide)]
      exact br_t (nI_pos' (by omega)) ⟨vp_in_nI (by omega) (by decide), hQ⟩
