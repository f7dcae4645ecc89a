/-! the start, and the law's loop -/
def f0 (k : Nat) : Nat → Int32 := fun i => if i < k then (if i < 32 then nI i else 255) else 0
theorem f0_0 : f0 0 = fun _ => (0 : Int32) := by
  funext i
  exact if_neg (Nat.not_lt_zero i)
theorem f0_s {k : Nat} {v : Int32} (hv : v = if k < 32 then nI k else 255) : upd (f0 k) k v = f0 (k + 1) := by
  funext i
  unfold upd f0
  by_cases h : i = k
  · subst h
    rw [if_pos rfl, if_pos (by omega), hv]
  · rw [if_neg h]
    by_cases h2 : i < k
    · rw [if_pos h2, if_pos (show i < k + 1 by omega)]
    · rw [if_neg h2, if_neg (by omega)]
theorem by8_f0 (k : Nat) : by8 (f0 k) := by
  intro i
  unfold f0
  split
  · split
    · exact ⟨i, by omega, rfl⟩
    · exact ⟨255, by decide, rfl⟩
  · exact ⟨0, by decide, rfl⟩
def f1 (m : Nat) : Nat → Int32 := upd (upd (upd (upd (f0 96) 32 0) 33 1) 34 (nI (m / 256))) 35 (nI (m % 256))
theorem by8_f1 {m : Nat} (hm : m < 65536) : by8 (f1 m) := by8_upd (by8_upd (by8_upd (by8_upd (by8_f0 96) (b := 0) (by decide) rfl) (b := 1) (by decide) rfl) (b := m / 256) (by omega) rfl) (b := m % 256) (by omega) rfl
theorem cl_32 : (32 : Int32).toNatClampNeg = 32 := by decide
theorem cl_33 : (33 : Int32).toNatClampNeg = 33 := by decide
theorem cl_34 : (34 : Int32).toNatClampNeg = 34 := by decide
theorem cl_35 : (35 : Int32).toNatClampNeg = 35 := by decide
theorem hN_init {post : SS → AA → Prop} (hp : ∀ m : Nat, m < 65536 → sumF (f0 96) 0 32 = nI m → post (fun _ => 0) (va_up (fun _ _ => 0) 0 (f1 m))) : wN_Mm_init post (fun _ => 0) (fun _ _ => 0) := by
  unfold wN_Mm_init wN_Mm_init_14
  intro X hX
  have key : ∀ d k : Nat, k + d = 96 → X (fun _ => 0) (va_up (fun _ _ => 0) 0 (f0 k)) (nI k) := by
    intro d
    induction d with
    | zero =>
      intro k hk
      have hk : k = 96 := by omega
      subst hk
      apply hX
      unfold wN_Mm_init_14B
      refine ⟨fun _ => ?_, fun q => absurd (show (96 : Int32) ≤ nI 96 from Int32.le_refl _) q⟩
      refine hN_sumOf (s0 := 0) (by8_f0 96) (by decide) ?_
      obtain ⟨m, hm, em⟩ := sumF_in (by8_f0 96) 0 32
      have em' : sumF ((va_up (fun _ _ => (0 : Int32)) 0 (f0 96)) 0) (48 * 0) 32 = nI m := em
      rw [em']
      unfold wN_Mm_headerOf
      show vp_in ((0 : Int32) * (48 : Int32) + (32 : Int32)) 96 ∧ _
      have h8 : ((nI m).toUInt32 >>> ((8 : Int32).toUInt32 &&& Int32.toUInt32 31)).toInt32 = nI (m / 256) := pk_ushrN (by omega) 8 8 (by decide +kernel)
      have h25 : nI m &&& (255 : Int32) = nI (m % 256) := pk_andN (by omega) 8 (by decide +kernel)
      rw [show ((0 : Int32) * (48 : Int32)) + (32 : Int32) = 32 by decide, show (32 : Int32) + 1 = 33 by decide, show (32 : Int32) + 2 = 34 by decide, show (32 : Int32) + 3 = 35 by decide, cl_32, cl_33, cl_34, cl_35, h8, h25, pz_upup, pz_upup, pz_upup, pz_upup]
      exact ⟨vp_in_nI (n := 32) (by decide) (by decide), vp_in_nI (n := 33) (by decide) (by decide), vp_in_nI (n := 34) (by decide) (by decide), vp_in_nI (n := 35) (by decide) (by decide), hp m hm em⟩
    | succ d ih =>
      intro k hk
      apply hX
      unfold wN_Mm_init_14B wN_Mm_init_38
      have e0 : (va_up (fun _ _ => (0 : Int32)) 0 (f0 k)) 0 = f0 k := rfl
      have h2 := ih (k + 1) (by omega)
      rw [e0, nI_clamp (n := k) (by omega), pz_upup, pz_upup, pz_inc]
      refine ⟨fun q => absurd q (nI_ge (b := 96) (by omega) (by decide)), fun _ => ⟨fun h => ⟨vp_in_nI (by omega) (by decide), ?_⟩, fun h => ⟨vp_in_nI (by omega) (by decide), ?_⟩⟩⟩
      · have h32 : 32 ≤ k := (pz_le (a := 32) (by decide) (by omega)).mp h
        rw [f0_s (by rw [if_neg (by omega)])]
        exact h2
      · have h32 : k < 32 := Nat.lt_of_not_le (fun q => h (nI_le (a := 32) q (by omega)))
        rw [f0_s (by rw [if_pos h32])]
        exact h2
  have h2 := key 96 0 rfl
  rw [f0_0, show va_up (fun _ _ => (0 : Int32)) 0 (fun _ => (0 : Int32)) = (fun _ _ => (0 : Int32)) from pz_up (fun _ _ => (0 : Int32)) 0] at h2
  exact h2
theorem hM_init {post : SS → AA → Prop} {T : SS} (hp : ∀ m : Nat, m < 65536 → sumF (f0 96) 0 32 = nI m → post (va_up (btM T (best (f1 m))) 24 0) (va_up (fun _ _ => 0) 0 (f1 m))) : wM_M_init post T (fun _ _ => 0) := by
  unfold wM_M_init wM_M_init_51
  intro X hX
  have key : ∀ d k : Nat, k + d = 96 → X T (va_up (fun _ _ => 0) 0 (f0 k)) (nI k) := by
    intro d
    induction d with
    | zero =>
      intro k hk
      have hk : k = 96 := by omega
      subst hk
      apply hX
      unfold wM_M_init_51B
      refine ⟨fun _ => ?_, fun q => absurd (show (96 : Int32) ≤ nI 96 from Int32.le_refl _) q⟩
      refine hM_sumOf (s0 := 0) (by decide) ?_
      obtain ⟨m, hm, em⟩ := sumF_in (by8_f0 96) 0 32
      have em' : sumF ((va_up (fun _ _ => (0 : Int32)) 0 (f0 96)) 0) (48 * 0) 32 = nI m := em
      rw [em']
      have ed : nI m / (256 : Int32) = nI (m / 256) := pk_div (d := 256) (by omega) (by decide) (by decide)
      have er : nI m - nI m / (256 : Int32) * (256 : Int32) = nI (m % 256) := pk_rem (d := 256) (by omega) (by decide) (by decide)
      rw [er, ed, cl_32, cl_33, cl_34, cl_35, pz_upup, pz_upup, pz_upup, pz_upup]
      refine ⟨vp_in_nI (n := 32) (by decide) (by decide), vp_in_nI (n := 33) (by decide) (by decide), vp_in_nI (n := 34) (by decide) (by decide), vp_in_nI (n := 35) (by decide) (by decide), ?_⟩
      exact hM_boot (by8_f1 hm) (hp m hm em)
    | succ d ih =>
      intro k hk
      apply hX
      unfold wM_M_init_51B wM_M_init_75
      have e0 : (va_up (fun _ _ => (0 : Int32)) 0 (f0 k)) 0 = f0 k := rfl
      have h2 := ih (k + 1) (by omega)
      rw [e0, nI_clamp (n := k) (by omega), pz_upup, pz_upup, pz_inc]
      refine ⟨fun q => absurd q (nI_ge (b := 96) (by omega) (by decide)), fun _ => ⟨fun h => ⟨vp_in_nI (by omega) (by decide), ?_⟩, fun h => ⟨vp_in_nI (by omega) (by decide), ?_⟩⟩⟩
      · have h32 : 32 ≤ k := (pz_le (a := 32) (by decide) (by omega)).mp h
        rw [f0_s (by rw [if_neg (by omega)])]
        exact h2
      · have h32 : k < 32 := Nat.lt_of_not_le (fun q => h (nI_le (a := 32) q (by omega)))
        rw [f0_s (by rw [if_pos h32])]
        exact h2
  have h2 := key 96 0 rfl
  rw [f0_0, show va_up (fun _ _ => (0 : Int32)) 0 (fun _ => (0 : Int32)) = (fun _ _ => (0 : Int32)) from pz_up (fun _ _ => (0 : Int32)) 0] at h2
  exact h2
theorem law_ok {L : Nat} {xs : Nat → Int32} (hL : L ≤ 1536) {S : SS} {A : AA} {T : SS} {B : AA} (h : Rel 0 S A T B) : wL_law L xs S A T B := by
  unfold wL_law wL_law_18
  intro X hX
  have key : ∀ d j : Nat, j + d = L / 3 → ∀ (S : SS) (A : AA) (T : SS) (B : AA), Rel j S A T B → X S A T B (nI (3 * j)) := by
    intro d
    induction d with
    | zero =>
      intro j hj S A T B _
      apply hX
      unfold wL_law_18B
      refine ⟨fun _ => rfl, fun q => absurd ?_ q⟩
      rw [Int32.lt_iff_toInt_lt, show (Int32.ofNat L - 3).toInt = (L : Int) - (3 : Nat) from pk_sub_toInt (a := L) (b := 3) (by omega) (by decide), nI_toInt (by omega)]
      omega
    | succ d ih =>
      intro j hj S A T B h
      have hn : j < 2 ^ 20 := by omega
      apply hX
      unfold wL_law_18B
      have e1 : nI (3 * j) + (1 : Int32) = nI (3 * j + 1) := nI_add _ 1
      have e2 : nI (3 * j) + (2 : Int32) = nI (3 * j + 2) := nI_add _ 2
      rw [e1, e2]
      have nxt : ∀ (S : SS) (A : AA) (T : SS) (B : AA), Rel (j + 1) S A T B → wL_law_265 L xs X S A T B (nI (3 * j)) := by
        intro S A T B hr
        unfold wL_law_265
        rw [show nI (3 * j) + (3 : Int32) = nI (3 * (j + 1)) from nI_add (3 * j) 3]
        exact ih (j + 1) (by omega) S A T B hr
      have i0 : vp_in (nI (3 * j)) L := vp_in_nI (by omega) (by omega)
      have i1 : vp_in (nI (3 * j + 1)) L := vp_in_nI (by omega) (by omega)
      have i2 : vp_in (nI (3 * j + 2)) L := vp_in_nI (by omega) (by omega)
      refine ⟨fun _ => rfl, fun _ => ⟨i0, fun _ => ⟨i1, i2, ?_⟩, fun _ => ⟨fun _ => ⟨i1, ?_⟩, fun _ => ⟨fun _ => ?_, fun _ => ⟨fun _ => ?_, fun _ => ⟨fun _ => ⟨i1, ?_⟩, fun _ => ⟨fun _ => ?_, fun _ => ⟨fun _ => ⟨i1, ?_⟩, fun _ => ⟨fun _ => ⟨i1, ?_⟩, fun _ => ⟨fun _ => ⟨i1, ?_⟩, fun _ => nxt S A T B h.step⟩⟩⟩⟩⟩⟩⟩⟩⟩⟩
      · exact ok_frame hn h (fun r1 S1 A1 hok => ⟨i1, i2, hok _ (fun T1 B1 hr => br_t rfl (nxt S1 A1 T1 B1 hr))⟩)
      · exact ok_peek h (fun r1 S1 A1 hok => ⟨i1, hok _ (fun T1 B1 hr => br_t rfl (nxt S1 A1 T1 B1 hr))⟩)
      · exact ok_take h (fun r1 S1 A1 hok => hok _ (fun T1 B1 hr => br_t rfl (nxt S1 A1 T1 B1 hr)))
      · exact ok_tick hn h (fun S1 A1 hok => hok _ (fun T1 B1 hr => nxt S1 A1 T1 B1 hr))
      · exact ok_cut h (fun S1 A1 hok => ⟨i1, hok _ (fun T1 B1 hr => nxt S1 A1 T1 B1 hr)⟩)
      · exact ok_restart h (fun S1 A1 hok => hok _ (fun T1 B1 hr => nxt S1 A1 T1 B1 hr))
      · exact ok_flash h (fun r1 S1 A1 hok => ⟨i1, hok _ (fun T1 B1 hr => br_t rfl (nxt S1 A1 T1 B1 hr))⟩)
      · exact ok_word h (fun r1 S1 A1 hok => ⟨i1, hok _ (fun T1 B1 hr => br_t rfl (nxt S1 A1 T1 B1 hr))⟩)
      · exact ok_state h (fun r1 S1 A1 hok => ⟨i1, hok _ (fun T1 B1 hr => br_t rfl (nxt S1 A1 T1 B1 hr))⟩)
  exact key (L / 3) 0 (by omega) S A T B h
theorem tl_pure (L : Nat) (xs : Nat → Int32) (hL : L ≤ 1536) : wN_Mm_init (fun S A => wX_T_init (fun S1 A1 => wM_M_init (fun T B => wL_law L xs S1 A1 T B) (fun i => if i = 12 then (-1 : Int32) else 0) (fun _ _ => 0)) (tl_S0 S) (tl_A0 A)) (fun _ => 0) (fun _ _ => 0) := by
  refine hN_init (fun m hm em => ?_)
  unfold wX_T_init
  refine hX_boot (by8_f1 hm) ?_
  refine hM_init (fun m2 hm2 em2 => ?_)
  have e : m2 = m := (nI_eq (by omega) (by omega)).mp (em2.symm.trans em)
  subst e
  refine law_ok hL ?_
  have hb := Rel.boot (n := 0) (S := tl_S0 (fun _ => 0)) (A := tl_A0 (va_up (fun _ _ => 0) 0 (f1 m2))) (T := fun i => if i = 12 then (-1 : Int32) else 0) (B := va_up (fun _ _ => 0) 0 (f1 m2)) ⟨rfl, by8_f1 hm, rfl, rfl, Or.inl rfl⟩ ⟨rfl, 0, Nat.le_refl _, rfl⟩ ⟨0, Nat.le_refl _, rfl⟩ ⟨rfl, fun _ => ⟨0, by decide, rfl⟩⟩ ⟨0, 0, rfl, rfl, by decide, rfl, by decide, fun j hj => absurd hj (Nat.not_lt_zero j)⟩
  obtain ⟨hF, hC, hI, hD, hQ, hA, hR⟩ := hb
  exact ⟨hF, hC, hI, hD, hQ, hA, 0, 0, rfl, rfl, by decide, rfl, by decide, fun j hj => absurd hj (Nat.not_lt_zero j)⟩
