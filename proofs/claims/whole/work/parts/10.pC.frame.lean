/-! a frame comes -/
theorem hX_accept {post : Int32 → SS → AA → Prop} {S : SS} {A : AA} {f r : Int32} {kd sd w g nr : Nat} (hkd : kd < 256) (hsd : sd < 256) (ek : frb f r 0 = nI kd) (es : frb f r 1 = nI sd) (e8 : S 8 = nI w) (hw : w ≤ 34) (hg : 0 < w → S 7 = nI g ∧ g + w ≤ 34 ∧ S 9 = nI nr ∧ nr < 16)
    (c1 : 1 ≤ kd → kd ≤ 7 → post 2 (va_up (va_up (va_up (va_up (va_up (va_up S 7 0) 8 (nI kd)) 9 1) 10 0) 7 (nI (0 + min (8 - 1) kd))) 8 (nI (kd - min (8 - 1) kd))) (va_up A 1 (lay (A 1) 0 (min (8 - 1) kd) (fun i => frb f r (1 + i)))))
    (c2 : kd = 16 → 8 ≤ sd → sd ≤ 34 → post 1 (va_up (va_up (va_up (va_up (va_up (va_up S 7 0) 8 (nI sd)) 9 1) 10 0) 7 (nI (0 + min (8 - 2) sd))) 8 (nI (sd - min (8 - 2) sd))) (va_up A 1 (lay (A 1) 0 (min (8 - 2) sd) (fun i => frb f r (2 + i)))))
    (c3 : 32 ≤ kd → kd ≤ 47 → 0 < w → ¬ kd - 32 = nr → post 0 (va_up (va_up S 7 0) 8 0) A)
    (c4 : 32 ≤ kd → kd ≤ 47 → 0 < w → kd - 32 = nr → (w ≤ 7 → post 2 (va_up (va_up (va_up (va_up S 9 (nI ((nr + 1) % 16))) 10 0) 7 (nI (g + min (8 - 1) w))) 8 (nI (w - min (8 - 1) w))) (va_up A 1 (lay (A 1) g (min (8 - 1) w) (fun i => frb f r (1 + i))))) ∧
      (7 < w → nr % 2 = 0 → post 1 (va_up (va_up (va_up (va_up S 9 (nI ((nr + 1) % 16))) 10 0) 7 (nI (g + min (8 - 1) w))) 8 (nI (w - min (8 - 1) w))) (va_up A 1 (lay (A 1) g (min (8 - 1) w) (fun i => frb f r (1 + i))))) ∧
      (7 < w → ¬ nr % 2 = 0 → post 0 (va_up (va_up (va_up (va_up S 9 (nI ((nr + 1) % 16))) 10 0) 7 (nI (g + min (8 - 1) w))) 8 (nI (w - min (8 - 1) w))) (va_up A 1 (lay (A 1) g (min (8 - 1) w) (fun i => frb f r (1 + i))))))
    (c5 : (kd < 1 ∨ 7 < kd) → (¬ kd = 16 ∨ sd < 8 ∨ 34 < sd) → (kd < 32 ∨ 47 < kd ∨ w = 0) → post 0 S A) : wX_Rc_accept post S A f r := by
  have a75 : (kd < 1 ∨ 7 < kd) → (¬ kd = 16 ∨ sd < 8 ∨ 34 < sd) → wX_Rc_accept_75 post S A f r (nI kd) := by
    intro k1 k2
    unfold wX_Rc_accept_75
    refine ⟨fun h => c5 k1 k2 (Or.inl ((pz_lt (b := 32) (by omega) (by decide)).mp h)), fun h32 => ⟨fun h => c5 k1 k2 (Or.inr (Or.inl ?_)), fun h48 => ⟨fun h => c5 k1 k2 (Or.inr (Or.inr ?_)), fun h0 => ?_⟩⟩⟩
    · have := (pz_le (a := 48) (by decide) (by omega)).mp h
      omega
    · rw [e8] at h
      have := (pz_le (a := w) (b := 0) (by omega) (by decide)).mp h
      omega
    · have k3 : 32 ≤ kd := Nat.le_of_not_lt (fun q => h32 ((pz_lt (b := 32) (by omega) (by decide)).mpr q))
      have k4 : kd ≤ 47 := by
        have : ¬ 48 ≤ kd := fun q => h48 ((pz_le (a := 48) (by decide) (by omega)).mpr q)
        omega
      have k5 : 0 < w := by
        have : ¬ w = 0 := fun q => h0 (by rw [e8, q]; exact Int32.le_refl _)
        omega
      obtain ⟨e7, hgw, e9, hnr⟩ := hg k5
      unfold wX_Rc_acceptNext
      have em : ((nI kd - (32 : Int32)) = S 9) ↔ kd - 32 = nr := by
        rw [e9, show nI kd - (32 : Int32) = nI (kd - 32) from pk_sub (b := 32) k3]
        exact nI_eq (by omega) (by omega)
      refine hX_byteOf (j := 0) (by decide) ⟨fun h1 => ?_, fun h1 => ?_⟩
      · rw [ek] at h1
        have k6 := em.mp h1
        obtain ⟨d1, d2, d3⟩ := c4 k3 k4 k5 k6
        have er : (S 9 - S 9 / (2 : Int32) * (2 : Int32)) = nI (nr % 2) := by rw [e9]; exact pk_rem (d := 2) (by omega) (by decide) (by decide)
        have er16 : ((S 9 + (1 : Int32)) - (S 9 + (1 : Int32)) / (16 : Int32) * (16 : Int32)) = nI ((nr + 1) % 16) := by
          rw [e9, pz_inc]; exact pk_rem (d := 16) (by omega) (by decide) (by decide)
        have a36 : ∀ y : Int32, (nr % 2 = 0 → y = 1) → (¬ nr % 2 = 0 → y = 0) → wX_Rc_acceptNext_36 post S A f r y := by
          intro y y1 y0
          unfold wX_Rc_acceptNext_36
          rw [er16]
          refine hX_add (g := g) (w := w) (fr := 1) e7 e8 hgw (by decide) ⟨fun n0 => ?_, fun z0 => d1 ?_⟩
          · have k7 : 7 < w := by
              have : ¬ w - min (8 - 1) w = 0 := fun q => n0 (show nI (w - min (8 - 1) w) = 0 by rw [q]; rfl)
              omega
            refine ⟨fun hy => d3 k7 (fun q => ?_), fun hy => d2 k7 ?_⟩
            · rw [y1 q] at hy; exact absurd hy (by decide)
            · rcases Nat.mod_two_eq_zero_or_one nr with q | q
              · exact q
              · exact absurd (y0 (by omega)) hy
          · have z1 : nI (w - min (8 - 1) w) = nI 0 := z0
            have := (nI_eq (b := 0) (by omega) (by decide)).mp z1
            omega
        refine ⟨fun hn => a36 0 (fun q => ?_) (fun _ => rfl), fun hz => a36 1 (fun _ => rfl) (fun q => ?_)⟩
        · rw [er, q] at hn; exact absurd rfl hn
        · rw [er] at hz
          exact absurd ((nI_eq (b := 0) (by omega) (by decide)).mp hz) q
      · rw [ek] at h1
        unfold wX_Rc_drop
        exact c3 k3 k4 k5 (fun q => h1 (em.mpr q))
  have a32 : (kd < 1 ∨ 7 < kd) → wX_Rc_accept_32 post S A f r (nI kd) := by
    intro k1
    unfold wX_Rc_accept_32
    refine hX_byteOf (j := 1) (by decide) ⟨fun h => a75 k1 (Or.inl (fun q => h (by rw [q]; rfl))), fun h => ⟨fun h2 => a75 k1 (Or.inr (Or.inl ?_)), fun h2 => ⟨fun h3 => a75 k1 (Or.inr (Or.inr ?_)), fun h3 => ?_⟩⟩⟩
    · rw [es] at h2; exact (pz_lt (b := 8) (by omega) (by decide)).mp h2
    · rw [es] at h3; exact (pz_lt (a := 34) (by decide) (by omega)).mp h3
    · rw [es] at h2 h3
      rw [es]
      have k2 : kd = 16 := (nI_eq (b := 16) (by omega) (by decide)).mp h
      have k3 : 8 ≤ sd := Nat.le_of_not_lt (fun q => h2 ((pz_lt (b := 8) (by omega) (by decide)).mpr q))
      have k4 : sd ≤ 34 := Nat.le_of_not_lt (fun q => h3 ((pz_lt (a := 34) (by decide) (by omega)).mpr q))
      unfold wX_Rc_begin
      exact hX_add (g := 0) (w := sd) (fr := 2) rfl rfl (by omega) (by decide) (c2 k2 k3 k4)
  unfold wX_Rc_accept
  refine hX_byteOf (j := 0) (by decide) ⟨fun h => ?_, fun h => ⟨fun h2 => ?_, fun h2 => ?_⟩⟩
  · rw [ek] at h; rw [ek]
    exact a32 (Or.inl ((pz_lt (b := 1) (by omega) (by decide)).mp h))
  · rw [ek] at h2; rw [ek]
    exact a32 (Or.inr ((pz_lt (a := 7) (by decide) (by omega)).mp h2))
  · rw [ek] at h h2; rw [ek]
    have k1 : 1 ≤ kd := Nat.le_of_not_lt (fun q => h ((pz_lt (b := 1) (by omega) (by decide)).mpr q))
    have k2 : kd ≤ 7 := Nat.le_of_not_lt (fun q => h2 ((pz_lt (a := 7) (by decide) (by omega)).mpr q))
    unfold wX_Rc_begin
    exact hX_add (g := 0) (w := kd) (fr := 1) rfl rfl (by omega) (by decide) (c1 k1 k2)
/-! the reference's looking at a frame -/
theorem dsp_148 {Q : Int32 → SS → AA → Prop} {T : SS} {B : AA} {kd : Nat} (hkd : kd < 256) (h3 : kd < 32 ∨ 47 < kd ∨ T 16 ≤ T 17) (q : wM_M_frame_179 Q T B) : wM_M_frame_148 Q T B (nI kd) := by
  unfold wM_M_frame_148
  refine ⟨fun _ => q, fun a => ⟨fun _ => q, fun b => ⟨fun _ => q, fun c => ?_⟩⟩⟩
  exfalso
  rcases h3 with h3 | h3 | h3
  · exact a ((pz_lt (b := 32) (by omega) (by decide)).mpr h3)
  · exact b ((pz_lt (a := 47) (by decide) (by omega)).mpr h3)
  · exact c h3
theorem dsp_148g {Q : Int32 → SS → AA → Prop} {T : SS} {B : AA} {kd : Nat} (k1 : 32 ≤ kd) (k2 : kd ≤ 47) (h3 : ¬ T 16 ≤ T 17) (q : wM_M_furtherFrame (fun S176 A176 => (wM_M_frame_179 Q S176 A176)) T B (nI (kd - 32))) : wM_M_frame_148 Q T B (nI kd) := by
  unfold wM_M_frame_148
  refine ⟨fun a => absurd ((pz_lt (b := 32) (by omega) (by decide)).mp a) (by omega), fun _ => ⟨fun a => absurd ((pz_lt (a := 47) (by decide) (by omega)).mp a) (by omega), fun _ => ⟨fun a => absurd a h3, fun _ => ?_⟩⟩⟩
  rw [show nI kd - (32 : Int32) = nI (kd - 32) from pk_sub (b := 32) k1]
  exact q
theorem dsp_102 {Q : Int32 → SS → AA → Prop} {T : SS} {B : AA} {kd sd : Nat} (hkd : kd < 256) (hsd : sd < 256) (e41 : B 4 1 = nI sd) (h2 : ¬ kd = 16 ∨ sd < 8 ∨ 34 < sd) (q : wM_M_frame_148 Q T B (nI kd)) : wM_M_frame_102 Q T B (nI kd) := by
  unfold wM_M_frame_102
  rw [cl_1, e41]
  refine ⟨fun _ => q, fun a => ⟨vl_1 (by decide) (by decide), fun _ => q, fun b => ⟨vl_1 (by decide) (by decide), fun _ => q, fun c => ?_⟩⟩⟩
  exfalso
  have k := (nI_eq (a := kd) (b := 16) (by omega) (by decide)).mp a
  rcases h2 with h2 | h2 | h2
  · exact h2 k
  · exact b ((pz_lt (b := 8) (by omega) (by decide)).mpr h2)
  · exact c ((pz_lt (a := 34) (by decide) (by omega)).mpr h2)
theorem dsp_go {Q : Int32 → SS → AA → Prop} {T : SS} {B : AA} {kd : Nat} (hkd : kd < 256) (hle : T 20 ≤ T 21) (e40 : B 4 0 = nI kd) (h1 : kd < 1 ∨ 7 < kd) (q : wM_M_frame_102 Q T B (nI kd)) : dsp Q T B := by
  unfold dsp
  rw [e40]
  refine ⟨fun _ => ⟨fun _ => q, fun a => ⟨fun _ => q, fun b => ?_⟩⟩, fun a => absurd hle a⟩
  exfalso
  rcases h1 with h1 | h1
  · exact a ((pz_lt (b := 1) (by omega) (by decide)).mpr h1)
  · exact b ((pz_lt (a := 7) (by decide) (by omega)).mpr h1)
theorem dsp_idle {Q : Int32 → SS → AA → Prop} {T : SS} {B : AA} {kd sd : Nat} (hkd : kd < 256) (hsd : sd < 256) (hle : T 20 ≤ T 21) (e40 : B 4 0 = nI kd) (e41 : B 4 1 = nI sd) (h1 : kd < 1 ∨ 7 < kd) (h2 : ¬ kd = 16 ∨ sd < 8 ∨ 34 < sd) (h3 : kd < 32 ∨ 47 < kd ∨ T 16 ≤ T 17) (q : wM_M_frame_179 Q T B) : dsp Q T B := dsp_go hkd hle e40 h1 (dsp_102 hkd hsd e41 h2 (dsp_148 hkd h3 q))
theorem dsp_ans {Q : Int32 → SS → AA → Prop} {T : SS} {B : AA} {kd sd : Nat} (hkd : kd < 256) (hle : ¬ T 20 ≤ T 21) (e40 : B 4 0 = nI kd) (e41 : B 4 1 = nI sd) (h48 : kd = 48 → wM_M_sendMore (fun S18 A18 => (wM_M_frame_179 Q S18 A18)) T B (nI sd)) (h49 : kd = 49 → wM_M_frame_179 Q (va_up T 23 0) B) (h50 : kd = 50 → wM_M_frame_179 Q (va_up (va_up T 20 0) 21 0) B) (h0 : ¬ (48 ≤ kd ∧ kd ≤ 50) → wM_M_frame_179 Q T B) : dsp Q T B := by
  unfold dsp
  refine ⟨fun a => absurd a hle, fun _ => ?_⟩
  unfold wM_M_answerFrame wM_M_dropAnswer
  rw [cl_0, cl_1, e40, e41]
  have e : ∀ m : Nat, m < 256 → (nI kd = nI m ↔ kd = m) := fun m hm => nI_eq (by omega) (by omega)
  refine ⟨vl_0 (by decide) (by decide), fun a => ⟨vl_0 (by decide) (by decide), fun b => ⟨vl_0 (by decide) (by decide), fun c => h0 ?_, fun c => h50 ((e 50 (by decide)).mp c)⟩, fun b => h49 ((e 49 (by decide)).mp b)⟩, fun a => ⟨vl_1 (by decide) (by decide), h48 ((e 48 (by decide)).mp a)⟩⟩
  intro k
  have n1 : ¬ kd = 48 := fun q => a ((e 48 (by decide)).mpr q)
  have n2 : ¬ kd = 49 := fun q => b ((e 49 (by decide)).mpr q)
  have n3 : ¬ kd = 50 := fun q => c ((e 50 (by decide)).mpr q)
  omega
theorem ok_frame {n : Nat} (hn : n < 2 ^ 20) {S : SS} {A : AA} {T : SS} {B : AA} (h : Rel n S A T B) {f r : Int32} {P : Int32 → SS → AA → Prop} (hP : ∀ (r1 : Int32) (S1 : SS) (A1 : AA), OkI n r1 S1 A1 (fun Q => wM_M_frame Q T B f r) → P r1 S1 A1) : wX_T_frame P S A f r := by
  obtain ⟨kd, hkd, ek⟩ := frb_byte f r 0
  obtain ⟨sd, hsd, es⟩ := frb_byte f r 1
  have e40 : (va_up B 4 (fr8 (B 4) f r)) 4 0 = nI kd := (fr8_in (b := B 4) (f := f) (r := r) (j := 0) (by decide)).trans ek
  have e41 : (va_up B 4 (fr8 (B 4) f r)) 4 1 = nI sd := (fr8_in (b := B 4) (f := f) (r := r) (j := 1) (by decide)).trans es
  have leaf : ∀ (S1 : SS) (A1 : AA), (∀ Q : Int32 → SS → AA → Prop, (∀ (T1 : SS) (B1 : AA), Rel (n + 1) S1 A1 T1 B1 → wM_M_frame_179 Q T1 B1) → dsp Q T (va_up B 4 (fr8 (B 4) f r))) → wX_T_frame_80 P S1 A1 := by
    intro S1 A1 hd
    unfold wX_T_frame_80
    refine hP _ _ _ (fun Q hQ => hM_fill (hd Q (fun T1 B1 hr => ?_)))
    unfold wM_M_frame_179
    have e : T1 24 = S1 17 := by
      obtain ⟨_, _, _, _, _, _, c, fi, r1, r2, _⟩ := hr
      rw [r1, r2]
    rw [e]
    exact hQ _ _ hr
  have hs := h.step
  have hB : Rel n S A T (va_up B 4 (fr8 (B 4) f r)) := h
  have hsB : Rel (n + 1) S A T (va_up B 4 (fr8 (B 4) f r)) := hs
  have p33 : (kd < 48 ∨ 50 < kd) → wX_T_frame_33 P S A f r := by
    intro hk
    unfold wX_T_frame_33
    refine ⟨fun n15 => ?_, fun e15 => ?_⟩
    · refine leaf S A (fun Q hQ => dsp_ans hkd ?_ e40 e41 (fun q => absurd q (by omega)) (fun q => absurd q (by omega)) (fun q => absurd q (by omega)) (fun _ => hQ _ _ hsB))
      obtain ⟨_, _, _, _, _, hA, _⟩ := h
      rcases hA with ⟨a1, _⟩ | ⟨a1, a2, a3, a4, a5, a6, _⟩
      · exact absurd a1 n15
      · rw [a5, a6]; decide
    · obtain ⟨hF, hC, hI, hD, ⟨q1, q2, L, G, q3, q4, q5, q6, q7, q8⟩, hA, hR⟩ := h
      have hle : T 20 ≤ T 21 := by
        rcases hA with ⟨_, a2, a3⟩ | ⟨a1, _⟩
        · rw [a2, a3]; exact Int32.le_refl _
        · rw [a1] at e15; exact absurd e15 (by decide)
      have hA0 : T 20 = 0 ∧ T 21 = 0 := by
        rcases hA with ⟨_, a2, a3⟩ | ⟨a1, _⟩
        · exact ⟨a2, a3⟩
        · rw [a1] at e15; exact absurd e15 (by decide)
      have hw : T 16 ≤ T 17 ↔ L - G = 0 := by
        rw [q3, q4, pz_le (by omega) (by omega)]
        omega
      obtain ⟨nr, hnr⟩ : ∃ nr : Nat, 0 < L - G → S 9 = nI nr ∧ nr < 16 ∧ ∃ lt : Nat, lt < 16 ∧ T 18 = nI lt ∧ nr = (lt + 1) % 16 := by
        by_cases h0 : 0 < L - G
        · obtain ⟨_, _, _, lt, hlt, elt, e9⟩ := q8 (by omega)
          exact ⟨(lt + 1) % 16, fun _ => ⟨e9, Nat.mod_lt _ (by decide), lt, hlt, elt, rfl⟩⟩
        · exact ⟨0, fun q => absurd q h0⟩
      refine hX_accept (kd := kd) (sd := sd) (w := L - G) (g := G) (nr := nr) hkd hsd ek es q7 (by omega) (fun h0 => ⟨(q8 (by omega)).1, by omega, (hnr h0).1, (hnr h0).2.1⟩) (fun k1 k2 => ?_) (fun k1 k2 k3 => ?_) (fun k1 k2 k3 k4 => ?_) (fun k1 k2 k3 k4 => ?_) (fun k1 k2 k3 => ?_)
      · refine ⟨fun _ => ⟨fun q => absurd rfl q, fun _ => ?_⟩, fun q => absurd q (by decide)⟩
        have he := bytes_eq q1 q2 f r (B 4) (g := 0) (t := min (8 - 1) kd) (fr := 1) (by omega)
        refine ok_work hn (n := n) (L := kd) (T := va_up (va_up (va_up (va_up (va_up T 16 (nI kd)) 17 0) 18 0) 17 (nI (0 + min (8 - 1) (kd - 0)))) 19 0) (B := va_up (va_up B 4 (fr8 (B 4) f r)) 1 (lay (B 1) 0 (min (8 - 1) (kd - 0)) (fun i => fr8 (B 4) f r (1 + i))))
          ?_ ?_ ?_ rfl ⟨k1, by omega⟩ (by exact e15) (fun S2 A2 hok => leaf S2 A2 (fun Q hQ => ?_))
        · refine Rel.bytes (g := 0) (w := kd) (t := min (8 - 1) kd) ?_ ?_ ?_ ?_ ?_ ?_ he.1 he.2 (by show nI kd = nI (0 + kd); rw [Nat.zero_add]) rfl rfl rfl rfl rfl (by omega) (by omega) (fun q => absurd q (by omega))
          · exact hF
          · exact hC
          · exact hI
          · exact hD
          · exact hA
          · exact hR
        · show nI (0 + min (8 - 1) kd) = nI kd
          congr 1
          omega
        · show nI (0 + min (8 - 1) (kd - 0)) = nI kd
          congr 1
          omega
        · unfold dsp
          rw [e40]
          refine ⟨fun _ => ⟨fun q => absurd ((pz_lt (b := 1) (by omega) (by decide)).mp q) (by omega), fun _ => ⟨fun q => absurd ((pz_lt (a := 7) (by decide) (by omega)).mp q) (by omega), fun _ => ?_⟩⟩, fun q => absurd hle q⟩
          unfold wM_M_beginRequest
          exact hM_takeBytes (g := 0) (L := kd) (fr := 1) rfl rfl (by omega) (by omega) (by decide) (hok (fun S96 A96 => wM_M_frame_179 Q S96 A96) hQ)
      · refine ⟨fun q => absurd rfl q, fun _ => ?_⟩
        have he := bytes_eq q1 q2 f r (B 4) (g := 0) (t := min (8 - 2) sd) (fr := 2) (by omega)
        refine ok_ask (n := n) (T := va_up (va_up (va_up (va_up (va_up T 16 (nI sd)) 17 0) 18 0) 17 (nI (0 + min (8 - 2) (sd - 0)))) 19 0) (B := va_up (va_up B 4 (fr8 (B 4) f r)) 1 (lay (B 1) 0 (min (8 - 2) (sd - 0)) (fun i => fr8 (B 4) f r (2 + i))))
          ?_ (by exact e15) (fun S2 A2 hok => leaf S2 A2 (fun Q hQ => ?_))
        · refine Rel.bytes (g := 0) (w := sd) (t := min (8 - 2) sd) ?_ ?_ ?_ ?_ ?_ ?_ he.1 he.2 (by show nI sd = nI (0 + sd); rw [Nat.zero_add]) rfl rfl rfl rfl rfl (by omega) (by omega) (fun _ => ⟨0, by decide, rfl, rfl⟩)
          · exact hF
          · exact hC
          · exact hI
          · exact hD
          · exact hA
          · exact hR
        refine dsp_go hkd hle e40 (by omega) ?_
        unfold wM_M_frame_102
        rw [cl_1, e41]
        refine ⟨fun q => absurd (show nI kd = 16 by rw [k1]; rfl) q, fun _ => ⟨vl_1 (by decide) (by decide), fun q => absurd ((pz_lt (b := 8) (by omega) (by decide)).mp q) (by omega), fun _ => ⟨vl_1 (by decide) (by decide), fun q => absurd ((pz_lt (a := 34) (by decide) (by omega)).mp q) (by omega), fun _ => ⟨vl_1 (by decide) (by decide), ?_⟩⟩⟩⟩
        unfold wM_M_beginRequest
        exact hM_takeBytes (g := 0) (L := sd) (fr := 2) rfl rfl (by omega) (by omega) (by decide) (hok (fun S142 A142 => wM_M_frame_179 Q S142 A142) hQ)
      · refine ⟨fun _ => ⟨fun _ => ?_, fun q => absurd q (by decide)⟩, fun q => absurd q (by decide)⟩
        obtain ⟨_, _, lt, hlt, elt, enr⟩ := hnr k3
        refine leaf _ _ (fun Q hQ => dsp_go hkd hle e40 (by omega) (dsp_102 hkd hsd e41 (Or.inl (by omega)) (dsp_148g k1 k2 (fun q => absurd (hw.mp q) (by omega)) ?_)))
        unfold wM_M_furtherFrame wM_M_dropRequest
        have e18 : ((T 18 + (1 : Int32)) - (T 18 + (1 : Int32)) / (16 : Int32) * (16 : Int32)) = nI nr := by
          rw [elt, pz_inc, enr]
          exact pk_rem (d := 16) (by omega) (by decide) (by decide)
        rw [e18]
        refine ⟨fun q => absurd ((nI_eq (by omega) (by omega)).mp q) k4, fun _ => hQ _ _ ?_⟩
        obtain ⟨hF', hC', hI', hD', _, hA', hR'⟩ := hs
        exact ⟨hF', hC', hI', hD', ⟨q1, q2, 0, 0, rfl, rfl, Nat.le_refl _, by decide, rfl, fun q => absurd q (Nat.lt_irrefl 0)⟩, hA', hR'⟩
      · obtain ⟨e9, hnr16, lt, hlt, elt, enr⟩ := hnr k3
        have e18 : ((T 18 + (1 : Int32)) - (T 18 + (1 : Int32)) / (16 : Int32) * (16 : Int32)) = nI nr := by
          rw [elt, pz_inc, enr]
          exact pk_rem (d := 16) (by omega) (by decide) (by decide)
        have he := bytes_eq q1 q2 f r (B 4) (g := G) (t := min (8 - 1) (L - G)) (fr := 1) (by omega)
        have hrel : ∀ m : Nat, Rel m S A T B → Rel m (va_up (va_up (va_up (va_up S 9 (nI ((nr + 1) % 16))) 10 0) 7 (nI (G + min (8 - 1) (L - G)))) 8 (nI (L - G - min (8 - 1) (L - G)))) (va_up A 1 (lay (A 1) G (min (8 - 1) (L - G)) (fun i => frb f r (1 + i)))) (va_up (va_up (va_up T 18 (nI nr)) 17 (nI (G + min (8 - 1) (L - G)))) 19 0) (va_up (va_up B 4 (fr8 (B 4) f r)) 1 (lay (B 1) G (min (8 - 1) (L - G)) (fun i => fr8 (B 4) f r (1 + i)))) := by
          intro m hm
          obtain ⟨hF', hC', hI', hD', _, hA', hR'⟩ := hm
          exact Rel.bytes (g := G) (w := L - G) (t := min (8 - 1) (L - G)) hF' hC' hI' hD' hA' hR' he.1 he.2 (by show T 16 = _; rw [q3]; congr 1; omega) rfl rfl rfl rfl rfl (by omega) (by omega) (fun _ => ⟨nr, hnr16, rfl, rfl⟩)
        have hAA : Rel n S A T B := ⟨hF, hC, hI, hD, ⟨q1, q2, L, G, q3, q4, q5, q6, q7, q8⟩, hA, hR⟩
        -- what the reference does with it
        have ref : ∀ (Q : Int32 → SS → AA → Prop), wM_M_takeBytes (fun S28 A28 => ((¬ (S28 17) = (S28 16) → ((¬ ((S28 18) - (S28 18) / (2 : Int32) * (2 : Int32)) = 0 → (wM_M_frame_179 Q S28 A28)) ∧ (((S28 18) - (S28 18) / (2 : Int32) * (2 : Int32)) = 0 → (wM_M_askMore (fun S59 A59 => (wM_M_frame_179 Q S59 A59)) S28 A28)))) ∧ ((S28 17) = (S28 16) → (wM_M_complete (fun S43 A43 => (wM_M_frame_179 Q S43 A43)) S28 A28)))) (va_up T 18 (nI nr)) (va_up B 4 (fr8 (B 4) f r)) (1 : Int32) → dsp Q T (va_up B 4 (fr8 (B 4) f r)) := by
          intro Q ht
          refine dsp_go hkd hle e40 (by omega) (dsp_102 hkd hsd e41 (Or.inl (by omega)) (dsp_148g k1 k2 (fun q => absurd (hw.mp q) (by omega)) ?_))
          unfold wM_M_furtherFrame
          rw [e18]
          exact ⟨fun _ => ht, fun q => absurd (by rw [k4]) q⟩
        have e18r : (nI nr - nI nr / (2 : Int32) * (2 : Int32)) = nI (nr % 2) := pk_rem (d := 2) (by omega) (by decide) (by decide)
        have e17 : (nI (G + min (8 - 1) (L - G)) = T 16) ↔ L - G ≤ 7 := by
          rw [q3, nI_eq (by omega) (by omega)]
          omega
        refine ⟨fun k7 => ⟨fun _ => ⟨fun q => absurd rfl q, fun _ => ?_⟩, fun q => absurd q (by decide)⟩, fun k7 ke => ⟨fun q => absurd rfl q, fun _ => ?_⟩, fun k7 ke => ⟨fun _ => ⟨fun _ => ?_, fun q => absurd q (by decide)⟩, fun q => absurd q (by decide)⟩⟩
        · refine ok_work hn (n := n) (L := L) (hrel n hAA) ?_ ?_ q3 ⟨by omega, q6⟩ e15 (fun S2 A2 hok => leaf S2 A2 (fun Q hQ => ref Q ?_))
          · show nI (G + min (8 - 1) (L - G)) = nI L
            congr 1
            omega
          · show nI (G + min (8 - 1) (L - G)) = nI L
            congr 1
            omega
          · refine hM_takeBytes (g := G) (L := L) (fr := 1) q4 q3 q5 q6 (by decide) ⟨fun q => absurd (e17.mpr k7) q, fun _ => hok (fun S43 A43 => wM_M_frame_179 Q S43 A43) hQ⟩
        · refine ok_ask (n := n) (hrel n hAA) e15 (fun S2 A2 hok => leaf S2 A2 (fun Q hQ => ref Q ?_))
          refine hM_takeBytes (g := G) (L := L) (fr := 1) q4 q3 q5 q6 (by decide) ⟨fun _ => ⟨fun q => absurd (show (nI nr - nI nr / (2 : Int32) * (2 : Int32)) = 0 by rw [e18r, ke]; rfl) q, fun _ => hok (fun S59 A59 => wM_M_frame_179 Q S59 A59) hQ⟩, fun q => absurd (e17.mp q) (by omega)⟩
        · refine leaf _ _ (fun Q hQ => ref Q ?_)
          refine hM_takeBytes (g := G) (L := L) (fr := 1) q4 q3 q5 q6 (by decide) ⟨fun _ => ⟨fun _ => hQ _ _ (hrel (n + 1) hs), fun q => ?_⟩, fun q => absurd (e17.mp q) (by omega)⟩
          have q' : (nI nr - nI nr / (2 : Int32) * (2 : Int32)) = 0 := q
          rw [e18r] at q'
          exact absurd ((nI_eq (b := 0) (by omega) (by decide)).mp q') ke
      · refine ⟨fun _ => ⟨fun _ => ?_, fun q => absurd q (by decide)⟩, fun q => absurd q (by decide)⟩
        refine leaf S A (fun Q hQ => dsp_idle hkd hsd hle e40 e41 k1 k2 ?_ (hQ _ _ hsB))
        rcases k3 with k3 | k3 | k3
        · exact Or.inl k3
        · exact Or.inr (Or.inl k3)
        · exact Or.inr (Or.inr (hw.mpr k3))
  have p48 : 48 ≤ kd → kd ≤ 50 → wX_T_steerAnswer (fun S27 A27 => (wX_T_frame_80 P S27 A27)) S A (nI kd) (nI sd) := by
    intro k1 k2
    unfold wX_T_steerAnswer
    refine ⟨fun n15 => ?_, fun e15 => ?_⟩
    · have hA := h.2.2.2.2.2.1
      rcases hA with ⟨a1, _⟩ | ⟨a1, a2, a3, a4, a5, a6, a7, a8, a9, a10⟩
      · exact absurd a1 n15
      have hle : ¬ T 20 ≤ T 21 := by rw [a5, a6]; decide
      obtain ⟨hF', hC', hI', hD', hQ', hA', hR'⟩ := hs
      refine ⟨fun h48 => ⟨fun h49 => ?_, fun h49 => ?_⟩, fun h48 => ?_⟩
      · have n1 : ¬ kd = 48 := fun q => h48 (by rw [q]; rfl)
        have n2 : ¬ kd = 49 := fun q => h49 (by rw [q]; rfl)
        unfold wX_Sd_drop
        exact leaf _ _ (fun Q hQ => dsp_ans hkd hle e40 e41 (fun q => absurd q n1) (fun q => absurd q n2) (fun _ => hQ _ _ ⟨hF', hC', hI', hD', hQ', Or.inl ⟨rfl, rfl, rfl⟩, hR'⟩) (fun q => absurd ⟨k1, k2⟩ q))
      · have n1 : kd = 49 := (nI_eq (b := 49) (by omega) (by decide)).mp h49
        unfold wX_Sd_waitAnew
        exact leaf _ _ (fun Q hQ => dsp_ans hkd hle e40 e41 (fun q => absurd q (by omega)) (fun _ => hQ _ _ ⟨hF', hC', hI', hD', hQ', Or.inr ⟨a1, a2, a3, a4, a5, a6, a7, rfl, ⟨0, by decide, rfl⟩, a10⟩, hR'⟩) (fun q => absurd q (by omega)) (fun q => absurd ⟨k1, k2⟩ q))
      · have n1 : kd = 48 := (nI_eq (b := 48) (by omega) (by decide)).mp h48
        refine ok_goOn (n := n) hB n15 hsd (fun S2 A2 hok => leaf S2 A2 (fun Q hQ => dsp_ans hkd hle e40 e41 (fun _ => hok (fun S18 A18 => wM_M_frame_179 Q S18 A18) hQ) (fun q => absurd q (by omega)) (fun q => absurd q (by omega)) (fun q => absurd ⟨k1, k2⟩ q)))
    · refine leaf S A (fun Q hQ => dsp_idle hkd hsd ?_ e40 e41 (by omega) (Or.inl (by omega)) (by omega) (hQ _ _ hsB))
      have hA := h.2.2.2.2.2.1
      rcases hA with ⟨_, a2, a3⟩ | ⟨a1, _⟩
      · rw [a2, a3]; exact Int32.le_refl _
      · rw [a1] at e15; exact absurd e15 (by decide)
  unfold wX_T_frame
  refine hX_byteOf (j := 0) (by decide) ⟨fun h1 => p33 (Or.inl ?_), fun h1 => ⟨fun h2 => p33 (Or.inr ?_), fun h2 => hX_byteOf (j := 1) (by decide) ?_⟩⟩
  · rw [ek] at h1; exact (pz_lt (b := 48) (by omega) (by decide)).mp h1
  · rw [ek] at h2; exact (pz_lt (a := 50) (by decide) (by omega)).mp h2
  · rw [ek] at h1 h2
    show wX_T_steerAnswer (fun S27 A27 => (wX_T_frame_80 P S27 A27)) S A (frb f r 0) (frb f r 1)
    rw [ek, es]
    exact p48 (Nat.le_of_not_lt (fun q => h1 ((pz_lt (b := 48) (by omega) (by decide)).mpr q))) (Nat.le_of_not_lt (fun q => h2 ((pz_lt (a := 50) (by decide) (by omega)).mpr q)))
