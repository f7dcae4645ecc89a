/-! a request is worked on: what holds meanwhile -/
def Wk (n : Nat) (S : SS) (A : AA) (T : SS) (B : AA) : Prop := RelF S A T B ∧ RelC n S T ∧ (S 4 = 0 ∧ T 11 = 0) ∧ RelD n S T ∧ (A 1 = B 1 ∧ by8 (B 1) ∧ S 8 = 0) ∧ S 15 = 0 ∧ RelR S A T B
def Tn (n : Nat) (S : SS) (A : AA) (T : SS) (B : AA) : Prop := RelF S A T B ∧ (S 20 = T 7 ∧ ∃ g : Nat, g ≤ n ∧ T 7 = nI g) ∧ T 11 = 0 ∧ (A 1 = B 1 ∧ by8 (B 1)) ∧ RelR S A T B
def Wa (cnt : Nat) (S : SS) (A : AA) (T : SS) (B : AA) : Prop := S 11 = nI cnt ∧ T 20 = nI cnt ∧ ∀ i, i < cnt → A 3 i = B 2 i
def Cd (c : Int32) (S : SS) (A : AA) (T : SS) (B : AA) : Prop := (c = 0 ∧ ∃ cnt : Nat, (cnt ≤ 7 ∨ cnt = 10) ∧ Wa cnt S A T B) ∨ (¬ B 1 0 = 17 ∧ ∃ k : Nat, 0 < k ∧ k < 256 ∧ c = nI k)
/-- P holds at every outcome of a service at which the reference's run is alike -/
def Dn (n : Nat) (P : Int32 → SS → AA → Prop) (w : (Int32 → SS → AA → Prop) → Prop) (B : AA) : Prop :=
  (∀ (c : Int32) (S1 : SS) (A1 : AA) (T1 : SS) (B1 : AA), (∀ Q : Int32 → SS → AA → Prop, Q c T1 B1 → w Q) → Wk (n + 1) S1 A1 T1 B1 → B1 1 = B 1 → Cd c S1 A1 T1 B1 → P c S1 A1) ∧
  (∀ (S1 : SS) (A1 : AA) (T1 : SS) (B1 : AA), (∀ Q : Int32 → SS → AA → Prop, Q (-1) T1 B1 → w Q) → Tn (n + 1) S1 A1 T1 B1 → P (-1) S1 A1)
theorem Wk.step {n : Nat} {S : SS} {A : AA} {T : SS} {B : AA} (h : Wk n S A T B) : Wk (n + 1) S A T B := by
  obtain ⟨hF, ⟨c1, c2, c3, c4, c5, c6, c7, c8, c9, c10, ⟨g, hg, eg⟩, cr⟩, hI, hD, hq, ha, hR⟩ := h
  refine ⟨hF, ⟨c1, c2, c3, c4, c5, c6, c7, c8, c9, c10, ⟨g, by omega, eg⟩, cr⟩, hI, ?_, hq, ha, hR⟩
  rcases hD with hD | ⟨d1, d2, d3, d4, d5, d6, sz, ca, bl, e1, e2, e3, h1, h2, h3⟩
  · exact Or.inl hD
  · exact Or.inr ⟨d1, d2, d3, d4, d5, d6, sz, ca, bl, e1, e2, e3, h1, h2, by omega⟩
theorem Wk.tn {n : Nat} {S : SS} {A : AA} {T : SS} {B : AA} (h : Wk n S A T B) : Tn n S A T B := by
  obtain ⟨hF, ⟨c1, c2, c3, c4, c5, c6, c7, c8, c9, c10, c11, cr⟩, hI, hD, hq, ha, hR⟩ := h
  exact ⟨hF, ⟨c10, c11⟩, hI.2, ⟨hq.1, hq.2.1⟩, hR⟩
theorem bn_t {c X Y : Prop} (h : c) (y : Y) : (¬ c → X) ∧ (c → Y) := ⟨fun q => absurd h q, fun _ => y⟩
theorem bn_f {c X Y : Prop} (h : ¬ c) (x : X) : (¬ c → X) ∧ (c → Y) := ⟨fun _ => x, fun q => absurd q h⟩
theorem hX_at {post : Int32 → SS → AA → Prop} {S : SS} {A : AA} {L k : Nat} (e7 : S 7 = nI L) (hL : L ≤ 34) (hk : k < 34) (h1 : k < L → post (A 1 k) S A) (h0 : ¬ k < L → post 0 S A) : wX_Rc_at post S A (nI k) := by
  unfold wX_Rc_at
  rw [e7, nI_clamp (n := k) (by omega)]
  refine ⟨fun q => absurd q (nI_pos (by omega)), fun _ => ⟨fun q => h0 ?_, fun q1 => ⟨fun q => absurd q (nI_ge (b := 34) hk (by decide)), fun _ => ⟨vp_in_nI hk (by decide), h1 ?_⟩⟩⟩⟩
  · have := (pz_le (by omega) (by omega)).mp q
    omega
  · exact Nat.lt_of_not_le (fun q => q1 (nI_le q (by omega)))
theorem hX_atY {post : Int32 → SS → AA → Prop} {S : SS} {A : AA} {L : Nat} (k : Nat) (e7 : S 7 = nI L) (hL : L ≤ 34) (hk : k < L) (hp : post (A 1 k) S A) : wX_Rc_at post S A (nI k) := hX_at e7 hL (by omega) (fun _ => hp) (fun q => absurd hk q)
theorem hX_sadd {post : SS → AA → Prop} {S : SS} {A : AA} {x : Int32} (k : Nat) (e : S 11 = nI k) (hk : k < 10) (hp : post (va_up S 11 (nI (k + 1))) (va_up A 3 (upd (A 3) k x))) : wX_Sd_add post S A x := by
  unfold wX_Sd_add
  rw [e, nI_clamp (n := k) (by omega), pz_inc]
  exact ⟨fun q => absurd q (nI_ge (b := 10) hk (by decide)), fun _ => ⟨vp_in_nI hk (by decide), hp⟩⟩
theorem hX_done {post : Int32 → SS → AA → Prop} {S : SS} {A : AA} {x : Int32} (k : Nat) (e : S 11 = nI k) (hk : k < 10) (hp : post 0 (va_up S 11 (nI (k + 1))) (va_up A 3 (upd (A 3) k x))) : wX_T_doneWith post S A x := by
  unfold wX_T_doneWith
  exact hX_sadd k e hk hp
theorem hM_add {post : SS → AA → Prop} {T : SS} {B : AA} {x : Int32} (k : Nat) (e : T 20 = nI k) (hk : k < 20) (hp : post (va_up T 20 (nI (k + 1))) (va_up B 2 (upd (B 2) k x))) : wM_M_add post T B x := by
  unfold wM_M_add
  rw [e, nI_clamp (n := k) (by omega), pz_inc]
  exact ⟨vp_in_nI hk (by decide), hp⟩
theorem wa_1 {f g : Nat → Int32} {x : Int32} (h : f 0 = x) : ∀ i, i < 1 → f i = upd g 0 x i := by
  intro i hi
  have : i = 0 := by omega
  subst this
  rw [h]
  exact (if_pos rfl).symm
theorem wa_s {f g : Nat → Int32} {k : Nat} (h : ∀ i, i < k → f i = g i) (x : Int32) : ∀ i, i < k + 1 → upd f k x i = upd g k x i := by
  intro i hi
  unfold upd
  by_cases h1 : i = k
  · rw [if_pos h1, if_pos h1]
  · rw [if_neg h1, if_neg h1]
    exact h i (by omega)
/-! how a request's work ends: an answer, a refusal, a power cut -/
theorem sim_answer {n : Nat} {S : SS} {A : AA} {T : SS} {B : AA} {cnt : Nat} {x1 x2 y : Int32} (hW : Wk n S A T B) (ha : Wa cnt S A T B) (hcnt : cnt ≤ 7 ∨ cnt = 10) (hy : (x1 = 17 ∧ x2 = 0 ∧ ¬ y = 0) ∨ (¬ (x1 = 17 ∧ x2 = 0) ∧ y = 0)) {P : SS → AA → Prop} (hP : ∀ (S1 : SS) (A1 : AA), (∀ Q : SS → AA → Prop, (∀ (T1 : SS) (B1 : AA), Rel n S1 A1 T1 B1 → Q T1 B1) → wM_M_complete_83 Q T B y) → P S1 A1) : wX_T_workOnRequest_80 P S A x1 x2 := by
  obtain ⟨hF, hC, ⟨i1, i2⟩, hD, ⟨q1, q2, q3⟩, e15, hR⟩ := hW
  obtain ⟨a1, a2, a3⟩ := ha
  unfold wX_T_workOnRequest_80
  refine sim_send (n := n) (T := va_up (va_up T 16 0) 17 0) (B := B) (cnt := cnt) hF hC ⟨fun _ => i1.trans i2.symm, ⟨0, by omega, i2⟩, ⟨0, by omega, i1⟩⟩ hD ⟨q1, q2, 0, 0, rfl, rfl, Nat.le_refl _, by decide, q3, fun q => absurd q (Nat.lt_irrefl 0)⟩ hR a1 a2 hcnt e15 a3 (fun S1 A1 hby hok => ?_)
  rcases hy with ⟨y1, y2, y3⟩ | ⟨y1, y2⟩
  · refine bn_t y1 (bn_t y2 ?_)
    refine hX_boot hby (hP _ _ (fun Q hQ => ?_))
    unfold wM_M_complete_83 wM_M_dropRequest
    refine hok _ (fun T1 B1 hr => br_f y3 ?_)
    obtain ⟨hF', ⟨c1, c2, c3, c4, c5, c6, c7, c8, c9, c10, c11, c12⟩, hI', hD', ⟨q1', q2', _⟩, hA', hR'⟩ := hr
    exact hM_boot hF'.2.1 (hQ _ _ (Rel.boot hF' ⟨c10, c11⟩ hI'.2.1 ⟨q1', q2'⟩ hR'))
  · have go : P S1 A1 := by
      refine hP _ _ (fun Q hQ => ?_)
      unfold wM_M_complete_83 wM_M_dropRequest
      exact hok _ (fun T1 B1 hr => br_t y2 (hQ _ _ hr))
    by_cases h17 : x1 = 17
    · exact bn_t h17 (bn_f (fun q => y1 ⟨h17, q⟩) go)
    · exact bn_f h17 go
theorem sim_neg {n : Nat} {S : SS} {A : AA} {T : SS} {B : AA} {k : Nat} (hW : Wk n S A T B) (hk : 0 < k) (hk2 : k < 256) {P : SS → AA → Prop} (hP : ∀ (S1 : SS) (A1 : AA), (∀ Q : SS → AA → Prop, (∀ (T1 : SS) (B1 : AA), Rel n S1 A1 T1 B1 → Q T1 B1) → wM_M_complete_44 Q T B (nI k) 0) → P S1 A1) : wX_T_workOnRequest_41 P S A (B 1 0) (nI k) := by
  unfold wX_T_workOnRequest_41
  have hm1 : ¬ nI k = (-1 : Int32) := fun q => by
    have h0 : (nI k).toInt = (k : Int) := nI_toInt (by omega)
    rw [q] at h0
    have h1 : (-1 : Int32).toInt = -1 := by decide
    omega
  refine bn_f hm1 (br_f (nI_ne0 hk (by omega)) ?_)
  unfold wX_Sd_begin
  refine hX_sadd 0 rfl (by decide) ?_
  refine hX_sadd 1 rfl (by decide) ?_
  refine hX_sadd 2 rfl (by decide) ?_
  refine sim_answer (n := n) (cnt := 3) (y := 0) (T := va_up (va_up (va_up (va_up T 20 0) 20 (nI 1)) 20 (nI 2)) 20 (nI 3)) (B := va_up (va_up (va_up B 2 (upd (B 2) 0 127)) 2 (upd (upd (B 2) 0 127) 1 (B 1 0))) 2 (upd (upd (upd (B 2) 0 127) 1 (B 1 0)) 2 (nI k))) ?_ ?_ (Or.inl (by decide)) (Or.inr ⟨fun q => nI_ne0 hk (by omega) q.2, rfl⟩) (fun S1 A1 hok => hP S1 A1 (fun Q hQ => ?_))
  · exact hW
  · exact ⟨rfl, rfl, wa_s (wa_s (wa_s (fun i hi => absurd hi (Nat.not_lt_zero i)) 127) (B 1 0)) (nI k)⟩
  unfold wM_M_complete_44
  refine br_t (nI_pos' (by omega)) (br_f (nI_nle hk (by omega)) ?_)
  refine hM_add 0 rfl (by decide) ⟨vl_0 (by decide) (by decide), ?_⟩
  rw [cl_0]
  refine hM_add 1 rfl (by decide) ?_
  refine hM_add 2 rfl (by decide) ?_
  exact hok Q hQ
theorem sim_torn {n : Nat} {S : SS} {A : AA} {T : SS} {B : AA} {x1 y : Int32} (hT : Tn n S A T B) {P : SS → AA → Prop} (hP : ∀ (S1 : SS) (A1 : AA), (∀ Q : SS → AA → Prop, (∀ (T1 : SS) (B1 : AA), Rel n S1 A1 T1 B1 → Q T1 B1) → wM_M_complete_44 Q T B (-1) y) → P S1 A1) : wX_T_workOnRequest_41 P S A x1 (-1) := by
  obtain ⟨hF, hg, i2, hq, hR⟩ := hT
  unfold wX_T_workOnRequest_41 wX_T_bootAfresh wX_Rw_clear
  refine bn_t rfl ?_
  refine hX_boot (by rw [hF.1]; exact hF.2.1) ?_
  refine hP _ _ (fun Q hQ => ?_)
  unfold wM_M_complete_44 wM_M_restart
  refine br_f (by decide) ?_
  exact hM_boot hF.2.1 (hQ _ _ (Rel.boot hF hg ⟨0, by omega, i2⟩ hq hR).clear)
/-! the common refusals -/
def known (s : Int32) : Prop := s = 16 ∨ s = 17 ∨ s = 34 ∨ s = 39 ∨ s = 62 ∨ s = 46 ∨ s = 49 ∨ s = 52 ∨ s = 54 ∨ s = 55
def late (s : Int32) : Prop := s = 46 ∨ s = 49 ∨ s = 52 ∨ s = 54 ∨ s = 55
def longF (q : Nat → Int32) (L : Nat) (s : Int32) : Prop := if s = 39 then L = (if 1 < L ∧ q 1 = 2 then 3 else 2) else if s = 46 then L = 3 else if s = 49 then L = (if 2 < L ∧ q 2 = 2 then 6 else 4) else if s = 52 then L = 3 else if s = 54 then 3 ≤ L ∧ L ≤ 10 else if s = 55 then L = 1 else L = 2
def partF (q : Nat → Int32) (s : Int32) : Prop := if s = 16 then q 1 = 1 ∨ q 1 = 2 else if s = 17 then q 1 = 1 else if s = 39 then q 1 = 1 ∨ q 1 = 2 else if s = 49 then q 1 = 1 else if s = 62 then q 1 = 0 else True
def rngF (q : Nat → Int32) (s : Int32) : Prop := if s = 34 then ¬ (2 : Int32) < q 1 else if s = 46 then q 1 = 1 else if s = 49 then ¬ q 2 < (1 : Int32) ∧ ¬ (3 : Int32) < q 2 ∧ ¬ (1 : Int32) < q 3 else if s = 52 then ¬ (1 : Int32) < q 1 ∧ ¬ q 2 < (1 : Int32) ∧ ¬ (32 : Int32) < q 2 else True
def okF (q : Nat → Int32) (L : Nat) (s ses unl : Int32) : Prop := known s ∧ longF q L s ∧ partF q s ∧ ¬ (ses = 1 ∧ (late s ∨ s = 39)) ∧ ¬ (unl = 0 ∧ late s)
theorem hX_late {post : Int32 → SS → AA → Prop} {S : SS} {A : AA} {s : Int32} (h1 : late s → post 1 S A) (h0 : ¬ late s → post 0 S A) : wX_T_needsUnlocking post S A s := by
  unfold wX_T_needsUnlocking wX_T_needsUnlocking_30
  unfold late at h1 h0
  refine ⟨fun a => h1 (Or.inl a), fun a => ⟨fun b => h1 (Or.inr (Or.inl b)), fun b => ⟨fun c => h1 (Or.inr (Or.inr (Or.inl c))), fun c => ⟨fun d => h1 (Or.inr (Or.inr (Or.inr (Or.inl d)))), fun d => ⟨fun e => h0 ?_, fun e => h1 (Or.inr (Or.inr (Or.inr (Or.inr e))))⟩⟩⟩⟩⟩
  rintro (q | q | q | q | q)
  · exact a q
  · exact b q
  · exact c q
  · exact d q
  · exact e q
theorem hX_known {post : Int32 → SS → AA → Prop} {S : SS} {A : AA} {s : Int32} (h1 : known s → post 1 S A) (h0 : ¬ known s → post 0 S A) : wX_T_isKnown post S A s := by
  unfold wX_T_isKnown wX_T_isKnown_37
  unfold known at h1 h0
  refine ⟨fun a => h1 (Or.inl a), fun a => ⟨fun b => h1 (Or.inr (Or.inl b)), fun b => ⟨fun c => h1 (Or.inr (Or.inr (Or.inl c))), fun c => ⟨fun d => h1 (Or.inr (Or.inr (Or.inr (Or.inl d)))), fun d => ⟨fun e => h1 (Or.inr (Or.inr (Or.inr (Or.inr (Or.inl e))))), fun e => hX_late (fun l => br_f (by decide) (h1 (Or.inr (Or.inr (Or.inr (Or.inr (Or.inr l))))))) (fun l => br_t rfl (h0 ?_))⟩⟩⟩⟩⟩
  rintro (q | q | q | q | q | q)
  · exact a q
  · exact b q
  · exact c q
  · exact d q
  · exact e q
  · exact l q
theorem hM_known {post : Int32 → SS → AA → Prop} {T : SS} {B : AA} {s : Int32} (h1 : known s → post 1 T B) (h0 : ¬ known s → post 0 T B) : wM_M_isService post T B s := by
  unfold wM_M_isService wM_M_isService_60
  by_cases hk : known s
  · have k := h1 hk
    refine ⟨fun _ => k, fun n1 => ⟨fun _ => k, fun n2 => ⟨fun _ => k, fun n3 => ⟨fun _ => k, fun n4 => ⟨fun _ => k, fun n5 => ⟨fun _ => k, fun n6 => ⟨fun _ => k, fun n7 => ⟨fun _ => k, fun n8 => ⟨fun _ => k, fun n9 => ⟨fun n10 => ?_, fun _ => k⟩⟩⟩⟩⟩⟩⟩⟩⟩⟩
    exfalso
    unfold known at hk
    rcases hk with q | q | q | q | q | q | q | q | q | q
    · exact n1 q
    · exact n3 q
    · exact n5 q
    · exact n4 q
    · exact n2 q
    · exact n6 q
    · exact n7 q
    · exact n8 q
    · exact n9 q
    · exact n10 q
  · have z := h0 hk
    unfold known at hk
    exact ⟨fun q => absurd (Or.inl q) hk, fun _ => ⟨fun q => absurd (Or.inr (Or.inr (Or.inr (Or.inr (Or.inl q))))) hk, fun _ => ⟨fun q => absurd (Or.inr (Or.inl q)) hk, fun _ => ⟨fun q => absurd (Or.inr (Or.inr (Or.inr (Or.inl q)))) hk, fun _ => ⟨fun q => absurd (Or.inr (Or.inr (Or.inl q))) hk, fun _ => ⟨fun q => absurd (Or.inr (Or.inr (Or.inr (Or.inr (Or.inr (Or.inl q)))))) hk, fun _ => ⟨fun q => absurd (Or.inr (Or.inr (Or.inr (Or.inr (Or.inr (Or.inr (Or.inl q))))))) hk, fun _ => ⟨fun q => absurd (Or.inr (Or.inr (Or.inr (Or.inr (Or.inr (Or.inr (Or.inr (Or.inl q)))))))) hk, fun _ => ⟨fun q => absurd (Or.inr (Or.inr (Or.inr (Or.inr (Or.inr (Or.inr (Or.inr (Or.inr (Or.inl q))))))))) hk, fun _ => ⟨fun _ => z, fun q => absurd (Or.inr (Or.inr (Or.inr (Or.inr (Or.inr (Or.inr (Or.inr (Or.inr (Or.inr q))))))))) hk⟩⟩⟩⟩⟩⟩⟩⟩⟩⟩
theorem len_eq {post : Int32 → SS → AA → Prop} {S : SS} {A : AA} {L m : Nat} (hL : L ≤ 34) (hm : m ≤ 34) (h1 : L = m → post 1 S A) (h0 : ¬ L = m → post 0 S A) : (¬ nI L = nI m → post 0 S A) ∧ (nI L = nI m → post 1 S A) :=
  ⟨fun q => h0 (fun e => q (by rw [e])), fun q => h1 ((nI_eq (by omega) (by omega)).mp q)⟩
theorem len_54 {post : Int32 → SS → AA → Prop} {S : SS} {A : AA} {L : Nat} (hL : L ≤ 34) (h1 : 3 ≤ L ∧ L ≤ 10 → post 1 S A) (h0 : ¬ (3 ≤ L ∧ L ≤ 10) → post 0 S A) : (nI L < (3 : Int32) → post 0 S A) ∧ (¬ nI L < (3 : Int32) → (((10 : Int32) < nI L → post 0 S A) ∧ (¬ (10 : Int32) < nI L → post 1 S A))) := by
  refine ⟨fun q => h0 (fun e => ?_), fun q => ⟨fun q2 => h0 (fun e => ?_), fun q2 => h1 ⟨Nat.le_of_not_lt (fun e => q (nI_lt (b := 3) e (by decide))), Nat.le_of_not_lt (fun e => q2 (nI_lt (a := 10) e (by omega)))⟩⟩⟩
  · have := (pz_lt (b := 3) (by omega) (by decide)).mp q
    omega
  · have := (pz_lt (a := 10) (by decide) (by omega)).mp q2
    omega
theorem hX_long {post : Int32 → SS → AA → Prop} {S : SS} {A : AA} {L : Nat} {s : Int32} (e7 : S 7 = nI L) (hL : L ≤ 34) (h1 : longF (A 1) L s → post 1 S A) (h0 : ¬ longF (A 1) L s → post 0 S A) : wX_T_hasRightLength post S A s := by
  unfold wX_T_hasRightLength wX_T_hasRightLength_110 wX_T_hasRightLength_119 wX_T_hasRightLength_149
  unfold longF at h1 h0
  rw [e7]
  refine ⟨fun h => ?_, fun h => ?_⟩
  · rw [if_pos h] at h1 h0
    refine hX_at (k := 1) e7 hL (by decide) (fun hk => ⟨fun a => ?_, fun a => ?_⟩) (fun hk => ⟨fun a => ?_, fun a => absurd a (by decide)⟩)
    · rw [if_neg (fun q => a q.2)] at h1 h0; exact len_eq (m := 2) hL (by decide) h1 h0
    · rw [if_pos ⟨hk, a⟩] at h1 h0; exact len_eq (m := 3) hL (by decide) h1 h0
    · rw [if_neg (fun q => hk q.1)] at h1 h0; exact len_eq (m := 2) hL (by decide) h1 h0
  · rw [if_neg h] at h1 h0
    refine ⟨fun h => ?_, fun h => ?_⟩
    · rw [if_pos h] at h1 h0
      exact len_eq (m := 3) hL (by decide) h1 h0
    · rw [if_neg h] at h1 h0
      refine ⟨fun h => ?_, fun h => ?_⟩
      · rw [if_pos h] at h1 h0
        refine hX_at (k := 2) e7 hL (by decide) (fun hk => ⟨fun a => ?_, fun a => ?_⟩) (fun hk => ⟨fun a => ?_, fun a => absurd a (by decide)⟩)
        · rw [if_neg (fun q => a q.2)] at h1 h0; exact len_eq (m := 4) hL (by decide) h1 h0
        · rw [if_pos ⟨hk, a⟩] at h1 h0; exact len_eq (m := 6) hL (by decide) h1 h0
        · rw [if_neg (fun q => hk q.1)] at h1 h0; exact len_eq (m := 4) hL (by decide) h1 h0
      · rw [if_neg h] at h1 h0
        refine ⟨fun h => ?_, fun h => ?_⟩
        · rw [if_pos h] at h1 h0
          exact len_eq (m := 3) hL (by decide) h1 h0
        · rw [if_neg h] at h1 h0
          refine ⟨fun h => ?_, fun h => ?_⟩
          · rw [if_pos h] at h1 h0
            exact len_54 hL h1 h0
          · rw [if_neg h] at h1 h0
            refine ⟨fun h => ?_, fun h => ?_⟩
            · rw [if_pos h] at h1 h0
              exact len_eq (m := 1) hL (by decide) h1 h0
            · rw [if_neg h] at h1 h0
              exact len_eq (m := 2) hL (by decide) h1 h0
theorem hM_long {post : Int32 → SS → AA → Prop} {T : SS} {B : AA} {L : Nat} {s : Int32} (e17 : T 17 = nI L) (hL : L ≤ 34) (h1 : longF (B 1) L s → post 1 T B) (h0 : ¬ longF (B 1) L s → post 0 T B) : wM_M_isLong post T B s := by
  unfold wM_M_isLong wM_M_isLong_110 wM_M_isLong_111 wM_M_isLong_120 wM_M_isLong_161 wM_M_isLong_162
  unfold longF at h1 h0
  rw [e17, cl_1, cl_2]
  refine ⟨fun h => ?_, fun h => ?_⟩
  · rw [if_pos h] at h1 h0
    refine ⟨fun hk => ?_, fun hk => ⟨vl_1 (by decide) (by decide), fun a => ?_, fun a => ?_⟩⟩
    · have hk := (pz_le (b := 1) (by omega) (by decide)).mp hk
      rw [if_neg (fun q => absurd q.1 (by omega))] at h1 h0; exact len_eq (m := 2) hL (by decide) h1 h0
    · rw [if_neg (fun q => a q.2)] at h1 h0; exact len_eq (m := 2) hL (by decide) h1 h0
    · have hk : 1 < L := Nat.lt_of_not_le (fun q => hk (nI_le (b := 1) q (by decide)))
      rw [if_pos ⟨hk, a⟩] at h1 h0; exact len_eq (m := 3) hL (by decide) h1 h0
  · rw [if_neg h] at h1 h0
    refine ⟨fun h => ?_, fun h => ?_⟩
    · rw [if_pos h] at h1 h0
      exact len_eq (m := 3) hL (by decide) h1 h0
    · rw [if_neg h] at h1 h0
      refine ⟨fun h => ?_, fun h => ?_⟩
      · rw [if_pos h] at h1 h0
        refine ⟨fun hk => ?_, fun hk => ⟨vl_2 (by decide) (by decide), fun a => ?_, fun a => ?_⟩⟩
        · have hk := (pz_le (b := 2) (by omega) (by decide)).mp hk
          rw [if_neg (fun q => absurd q.1 (by omega))] at h1 h0; exact len_eq (m := 4) hL (by decide) h1 h0
        · rw [if_neg (fun q => a q.2)] at h1 h0; exact len_eq (m := 4) hL (by decide) h1 h0
        · have hk : 2 < L := Nat.lt_of_not_le (fun q => hk (nI_le (b := 2) q (by decide)))
          rw [if_pos ⟨hk, a⟩] at h1 h0; exact len_eq (m := 6) hL (by decide) h1 h0
      · rw [if_neg h] at h1 h0
        refine ⟨fun h => ?_, fun h => ?_⟩
        · rw [if_pos h] at h1 h0
          exact len_eq (m := 3) hL (by decide) h1 h0
        · rw [if_neg h] at h1 h0
          refine ⟨fun h => ?_, fun h => ?_⟩
          · rw [if_pos h] at h1 h0
            exact len_54 hL h1 h0
          · rw [if_neg h] at h1 h0
            refine ⟨fun h => ?_, fun h => ?_⟩
            · rw [if_pos h] at h1 h0
              exact len_eq (m := 1) hL (by decide) h1 h0
            · rw [if_neg h] at h1 h0
              exact len_eq (m := 2) hL (by decide) h1 h0
/-- a request that is long enough has the bytes that are looked at -/
theorem long_2 {q : Nat → Int32} {L : Nat} {s : Int32} (h : longF q L s) (h55 : ¬ s = 55) : 2 ≤ L := by
  unfold longF at h
  split at h
  · split at h <;> omega
  · split at h
    · omega
    · split at h
      · split at h <;> omega
      · split at h
        · omega
        · split at h
          · omega
          · omega
theorem hX_part {post : Int32 → SS → AA → Prop} {S : SS} {A : AA} {L : Nat} {s : Int32} (e7 : S 7 = nI L) (hL : L ≤ 34) (hl : ¬ s = 55 → 2 ≤ L) (h1 : partF (A 1) s → post 1 S A) (h0 : ¬ partF (A 1) s → post 0 S A) : wX_T_hasKnownKind post S A s := by
  unfold wX_T_hasKnownKind wX_T_hasKnownKind_60 wX_T_hasKnownKind_70 wX_T_hasKnownKind_76
  unfold partF at h1 h0
  have or2 : ∀ x : Int32, (x = 1 ∨ x = 2 → post 1 S A) → (¬ (x = 1 ∨ x = 2) → post 0 S A) → (x = 1 → post 1 S A) ∧ (¬ x = 1 → ((¬ x = 2 → post 0 S A) ∧ (x = 2 → post 1 S A))) := fun x y1 y0 => ⟨fun a => y1 (Or.inl a), fun a => ⟨fun b => y0 (fun q => q.elim a b), fun b => y1 (Or.inr b)⟩⟩
  refine hX_at (k := 1) e7 hL (by decide) (fun hk => ?_) (fun hk => ?_)
  · refine ⟨fun h => ?_, fun h => ?_⟩
    · rw [if_pos h] at h1 h0; exact or2 _ h1 h0
    · rw [if_neg h] at h1 h0
      refine ⟨fun h => ?_, fun h => ?_⟩
      · rw [if_pos h] at h1 h0; exact ⟨h0, h1⟩
      · rw [if_neg h] at h1 h0
        refine ⟨fun h => ?_, fun h => ?_⟩
        · rw [if_pos h] at h1 h0; exact or2 _ h1 h0
        · rw [if_neg h] at h1 h0
          refine ⟨fun h => ?_, fun h => ?_⟩
          · rw [if_pos h] at h1 h0; exact ⟨h0, h1⟩
          · rw [if_neg h] at h1 h0
            refine ⟨fun h => ?_, fun h => ?_⟩
            · rw [if_pos h] at h1 h0; exact ⟨h0, h1⟩
            · rw [if_neg h] at h1; exact h1 trivial
  · have h5 : s = 55 := Classical.byContradiction (fun q => hk (hl q))
    subst h5
    rw [if_neg (by decide), if_neg (by decide), if_neg (by decide), if_neg (by decide), if_neg (by decide)] at h1
    exact br_f (by decide) (br_f (by decide) (br_f (by decide) (br_f (by decide) (br_f (by decide) (h1 trivial)))))
theorem hM_part {post : Int32 → SS → AA → Prop} {T : SS} {B : AA} {s : Int32} (h1 : partF (B 1) s → post 1 T B) (h0 : ¬ partF (B 1) s → post 0 T B) : wM_M_hasPart post T B s := by
  unfold wM_M_hasPart wM_M_hasPart_19 wM_M_hasPart_29 wM_M_hasPart_63 wM_M_hasPart_68
  unfold partF at h1 h0
  have or2 : ∀ x : Int32, (x = 1 ∨ x = 2 → post 1 T B) → (¬ (x = 1 ∨ x = 2) → post 0 T B) → (x = 1 → post 1 T B) ∧ (¬ x = 1 → ((¬ x = 2 → post 0 T B) ∧ (x = 2 → post 1 T B))) := fun x y1 y0 => ⟨fun a => y1 (Or.inl a), fun a => ⟨fun b => y0 (fun q => q.elim a b), fun b => y1 (Or.inr b)⟩⟩
  rw [cl_1]
  refine ⟨vl_1 (by decide) (by decide), fun h => ?_, fun h => ?_⟩
  · rw [if_pos h] at h1 h0; exact or2 _ h1 h0
  · rw [if_neg h] at h1 h0
    by_cases g17 : s = 17
    · subst g17
      rw [if_pos rfl] at h1 h0
      exact bn_f (by decide) (bn_f (by decide) (br_t rfl ⟨h0, h1⟩))
    · rw [if_neg g17] at h1 h0
      refine ⟨fun h => ?_, fun h => ?_⟩
      · rw [if_neg h] at h1 h0
        by_cases g49 : s = 49
        · subst g49
          rw [if_pos rfl] at h1 h0
          exact bn_f (by decide) (br_f (by decide) (bn_t rfl ⟨h0, h1⟩))
        · rw [if_neg g49] at h1 h0
          refine ⟨fun h => ?_, fun h => ?_⟩
          · rw [if_neg h] at h1
            exact br_f g17 (bn_f g49 (h1 trivial))
          · rw [if_pos h] at h1 h0; exact ⟨h0, h1⟩
      · rw [if_pos h] at h1 h0; exact or2 _ h1 h0
