theorem hM_range {T : SS} {B : AA} (h : ¬ rngF (B 1) (B 1 0)) {Q : Int32 → SS → AA → Prop} (hQ : Q 49 T B) : wM_M_workOn Q T B := by
  unfold rngF at h
  by_cases a : B 1 0 = 34
  · rw [if_pos a] at h
    unfold wM_M_workOn
    rw [cl_0, a]
    refine ⟨vl_0 (by decide) (by decide), br_f (by decide) (br_f (by decide) (br_t rfl (?_)))⟩
    unfold wM_M_readData
    rw [cl_1]
    exact ⟨vl_1 (by decide) (by decide), br_f (fun q => h (Int32.not_lt.mpr q)) hQ⟩
  rw [if_neg a] at h
  clear a
  by_cases a : B 1 0 = 46
  · rw [if_pos a] at h
    unfold wM_M_workOn
    rw [cl_0, a]
    refine ⟨vl_0 (by decide) (by decide), br_f (by decide) (br_f (by decide) (br_f (by decide) (br_f (by decide) (br_t rfl (?_)))))⟩
    unfold wM_M_writeData
    rw [cl_1, cl_2]
    exact ⟨vl_1 (by decide) (by decide), br_f h hQ⟩
  rw [if_neg a] at h
  clear a
  by_cases a : B 1 0 = 49
  · rw [if_pos a] at h
    unfold wM_M_workOn
    rw [cl_0, a]
    refine ⟨vl_0 (by decide) (by decide), br_f (by decide) (br_f (by decide) (br_f (by decide) (br_f (by decide) (br_f (by decide) (br_t rfl (?_))))))⟩
    unfold wM_M_routine
    rw [cl_2, cl_3]
    exact ⟨vl_2 (by decide) (by decide), vl_3 (by decide) (by decide), fun _ => hQ, fun x => ⟨fun _ => hQ, fun y => ⟨fun z => absurd ⟨x, y, Int32.not_lt.mpr z⟩ h, fun _ => hQ⟩⟩⟩
  rw [if_neg a] at h
  clear a
  by_cases a : B 1 0 = 52
  · rw [if_pos a] at h
    unfold wM_M_workOn
    rw [cl_0, a]
    refine ⟨vl_0 (by decide) (by decide), br_f (by decide) (br_f (by decide) (br_f (by decide) (br_f (by decide) (br_f (by decide) (br_f (by decide) (br_t rfl (?_)))))))⟩
    unfold wM_M_download
    rw [cl_1, cl_2]
    exact ⟨vl_1 (by decide) (by decide), vl_2 (by decide) (by decide), fun _ => hQ, fun x => ⟨fun _ => hQ, fun y => ⟨fun z => absurd ⟨x, y, Int32.not_lt.mpr z⟩ h, fun _ => hQ⟩⟩⟩
  rw [if_neg a] at h
  exact absurd trivial h
theorem ok_work {n L : Nat} (hn : n < 2 ^ 20) {S : SS} {A : AA} {T : SS} {B : AA} (h : Rel n S A T B) (e7 : S 7 = nI L) (e17 : T 17 = nI L) (e16 : T 16 = nI L) (hL : 1 ≤ L ∧ L ≤ 34) (e15 : S 15 = 0) {P : SS → AA → Prop} (hP : ∀ (S1 : SS) (A1 : AA), OkV n S1 A1 (fun Q => wM_M_complete Q T B) → P S1 A1) : wX_T_workOnRequest P S A := by
  obtain ⟨hF, hC, hI, hD, ⟨q1, q2, L', G', q3, q4, q5, q6, q7, q8⟩, hA, hR⟩ := h
  have e8 : S 8 = 0 := by
    have a : L' = L := (nI_eq (by omega) (by omega)).mp (q3.symm.trans e16)
    have b : G' = L := (nI_eq (by omega) (by omega)).mp (q4.symm.trans e17)
    rw [q7, a, b, Nat.sub_self]
    rfl
  have ex0 : A 1 0 = B 1 0 := by rw [q1]
  unfold wX_T_workOnRequest
  refine hX_atY 0 e7 hL.2 (by omega) ?_
  unfold wX_Sd_begin
  rw [ex0]
  refine hX_sadd 0 rfl (by decide) ?_
  have hW : Wk n (va_up (va_up (va_up S 4 0) 11 0) 11 (nI (0 + 1))) (va_up A 3 (upd (A 3) 0 (B 1 0 + 64))) (va_up (va_up (va_up T 11 0) 20 0) 21 0) B := ⟨hF, hC, ⟨rfl, rfl⟩, hD, ⟨q1, q2, e8⟩, e15, hR⟩
  have ag : agF ((va_up A 3 (upd (A 3) 0 (B 1 0 + 64))) 1) L (B 1 0) ((va_up (va_up (va_up S 4 0) 11 0) 11 (nI (0 + 1))) 1) ((va_up (va_up (va_up S 4 0) 11 0) 11 (nI (0 + 1))) 18) = agF (B 1) L (B 1 0) ((va_up (va_up (va_up T 11 0) 20 0) 21 0) 3) ((va_up (va_up (va_up T 11 0) 20 0) 21 0) 4) := by
    show agF (A 1) L (B 1 0) (S 1) (S 18) = agF (B 1) L (B 1 0) (T 3) (T 4)
    rw [q1, hC.2.2.1, hC.2.2.2.2.1]
  refine hX_refusal (L := L) e7 hL.2 (fun k hk0 hk => ?_) (fun hok => ?_)
  · have hk2 : k < 256 := by rw [← hk]; exact agF_lt _ _ _ _ _
    refine bn_f (nI_ne0 hk0 (by omega)) ?_
    refine sim_neg (n := n + 1) (k := k) hW.step hk0 hk2 (fun S2 A2 hr => hP S2 A2 (fun Q hQ => ?_))
    show wM_M_complete Q T B
    unfold wM_M_complete wM_M_dropAnswer
    refine hM_against (L := L) e17 hL.2 ?_
    rw [← ag, hk]
    refine bn_f (nI_ne0 hk0 (by omega)) ?_
    unfold wM_M_complete_33 wM_M_complete_34
    exact bn_f (nI_ne0 hk0 (by omega)) (hr Q hQ)
  · have ho : okF (B 1) L (B 1 0) (S 1) (S 18) := by
      have t : okF (A 1) L (B 1 0) (S 1) (S 18) := hok
      rw [q1] at t
      exact t
    have rok : ∀ Q : SS → AA → Prop, (B 1 0 = 17 → wM_M_workOn (fun r40 S40 A40 => (wM_M_complete_44 Q S40 A40 r40 1)) (va_up (va_up (va_up T 11 0) 20 0) 21 0) B) → (¬ B 1 0 = 17 → wM_M_workOn (fun r40 S40 A40 => (wM_M_complete_44 Q S40 A40 r40 0)) (va_up (va_up (va_up T 11 0) 20 0) 21 0) B) → wM_M_complete Q T B := by
      intro Q g1 g0
      unfold wM_M_complete wM_M_dropAnswer
      refine hM_against (L := L) e17 hL.2 ?_
      rw [← ag, agF_ok hok]
      rw [cl_0]
      refine bn_t rfl ⟨vl_0 (by decide) (by decide), fun n17 => ?_, fun y17 => ?_⟩
      · unfold wM_M_complete_33 wM_M_complete_34
        exact bn_t rfl (g0 n17)
      · unfold wM_M_complete_34
        exact bn_t rfl (g1 y17)
    unfold wX_T_refusal_75
    refine hX_range (L := L) e7 hL.2 hok.2.1 (fun hrg => br_f (by decide) (bn_t rfl ?_)) (fun hrg => br_t rfl (bn_f (by decide) ?_))
    · have hr : rngF (B 1) (B 1 0) := by
        have t : rngF (A 1) (B 1 0) := hrg
        rw [q1] at t
        exact t
      have serve : ∀ Pp : Int32 → SS → AA → Prop, Dn n Pp (fun Q => wM_M_workOn Q (va_up (va_up (va_up T 11 0) 20 0) 21 0) B) B → wX_T_serve Pp (va_up (va_up (va_up S 4 0) 11 0) 11 (nI (0 + 1))) (va_up A 3 (upd (A 3) 0 (B 1 0 + 64))) (B 1 0) := by
        intro Pp hDn
        suffices hh : ∀ s : Int32, s = B 1 0 → wX_T_serve Pp (va_up (va_up (va_up S 4 0) 11 0) 11 (nI (0 + 1))) (va_up A 3 (upd (A 3) 0 (B 1 0 + 64))) s from hh _ rfl
        intro s es
        have hk := ho.1
        rw [← es] at hk
        unfold known at hk
        rcases hk with hs | hs | hs | hs | hs | hs | hs | hs | hs | hs
        · subst hs
          have hs := es.symm
          rw [hs] at ho hr
          exact sv_16 hW e7 hL.2 rfl rfl hs (by show B 1 0 + 64 = (80 : Int32); rw [hs]; decide) (long_2 ho.2.1 (by decide)) (by have p := ho.2.2.1; unfold partF at p; rw [if_pos rfl] at p; exact p) hDn
        · subst hs
          have hs := es.symm
          rw [hs] at ho hr
          exact sv_17 hW e7 hL.2 rfl rfl hs (by show B 1 0 + 64 = (81 : Int32); rw [hs]; decide) (long_2 ho.2.1 (by decide)) (by have p := ho.2.2.1; unfold partF at p; rw [if_neg (by decide), if_pos rfl] at p; exact p) hDn
        · subst hs
          have hs := es.symm
          rw [hs] at ho hr
          exact sv_34 hW e7 hL.2 rfl rfl hs (by show B 1 0 + 64 = (98 : Int32); rw [hs]; decide) (long_2 ho.2.1 (by decide)) (by have p := hr; unfold rngF at p; rw [if_pos rfl] at p; exact p) hDn
        · subst hs
          have hs := es.symm
          rw [hs] at ho hr
          exact sv_39 hW e7 hL.2 rfl rfl hs (by show B 1 0 + 64 = (103 : Int32); rw [hs]; decide) hn (long_39 ho.2.1 rfl).1 (by have p := ho.2.2.1; unfold partF at p; rw [if_neg (by decide), if_neg (by decide), if_pos rfl] at p; exact p) (long_39 ho.2.1 rfl).2 hDn
        · subst hs
          have hs := es.symm
          rw [hs] at ho hr
          exact sv_62 hW e7 hL.2 rfl rfl hs (by show B 1 0 + 64 = (126 : Int32); rw [hs]; decide) (long_2 ho.2.1 (by decide)) (by have p := ho.2.2.1; unfold partF at p; rw [if_neg (by decide), if_neg (by decide), if_neg (by decide), if_neg (by decide), if_pos rfl] at p; exact p) hDn
        · subst hs
          have hs := es.symm
          rw [hs] at ho hr
          exact sv_46 hW e7 hL.2 rfl rfl hs (by show B 1 0 + 64 = (110 : Int32); rw [hs]; decide) (by rw [long_46 ho.2.1 rfl]; decide) (by have p := hr; unfold rngF at p; rw [if_neg (by decide), if_pos rfl] at p; exact p) hDn
        · subst hs
          have hs := es.symm
          rw [hs] at ho hr
          exact sv_49 hW e7 hL.2 rfl rfl hs (by show B 1 0 + 64 = (113 : Int32); rw [hs]; decide) (long_49 ho.2.1 rfl).1 (long_49 ho.2.1 rfl).2 (by have p := hr; unfold rngF at p; rw [if_neg (by decide), if_neg (by decide), if_pos rfl] at p; exact p.1) (by have p := hr; unfold rngF at p; rw [if_neg (by decide), if_neg (by decide), if_pos rfl] at p; exact p.2.1) (by have p := hr; unfold rngF at p; rw [if_neg (by decide), if_neg (by decide), if_pos rfl] at p; exact p.2.2) hDn
        · subst hs
          have hs := es.symm
          rw [hs] at ho hr
          exact sv_52 hW e7 hL.2 rfl rfl hs (by show B 1 0 + 64 = (116 : Int32); rw [hs]; decide) (by rw [long_52 ho.2.1 rfl]; decide) (by have p := hr; unfold rngF at p; rw [if_neg (by decide), if_neg (by decide), if_neg (by decide), if_pos rfl] at p; exact p.1) (by have p := hr; unfold rngF at p; rw [if_neg (by decide), if_neg (by decide), if_neg (by decide), if_pos rfl] at p; exact p.2.1) (by have p := hr; unfold rngF at p; rw [if_neg (by decide), if_neg (by decide), if_neg (by decide), if_pos rfl] at p; exact p.2.2) hDn
        · subst hs
          have hs := es.symm
          rw [hs] at ho hr
          exact sv_54 hW e7 hL.2 rfl rfl hs (by show B 1 0 + 64 = (118 : Int32); rw [hs]; decide) hn e17 (long_54 ho.2.1 rfl) hDn
        · subst hs
          have hs := es.symm
          rw [hs] at ho hr
          exact sv_55 hW e7 hL.2 rfl rfl hs (by show B 1 0 + 64 = (119 : Int32); rw [hs]; decide)  hDn
      refine serve _ ⟨fun c S2 A2 T2 B2 hrun hW2 hB2 hc => ?_, fun S2 A2 T2 B2 hrun hT2 => ?_⟩
      · rcases hc with ⟨rfl, cnt, hcnt, ha⟩ | ⟨n17, k, hk0, hk2, rfl⟩
        · unfold wX_T_workOnRequest_41
          refine bn_f (by decide) (br_t rfl ?_)
          by_cases h17 : B 1 0 = 17
          · refine sim_answer (n := n + 1) (y := 1) hW2 ha hcnt (Or.inl ⟨h17, rfl, by decide⟩) (fun S3 A3 hr3 => hP S3 A3 (fun Q hQ => rok Q (fun _ => hrun _ ?_) (fun q => absurd h17 q)))
            unfold wM_M_complete_44
            exact br_t (Int32.le_refl _) (br_t (Int32.le_refl _) (hr3 Q hQ))
          · refine sim_answer (n := n + 1) (y := 0) hW2 ha hcnt (Or.inr ⟨fun q => h17 q.1, rfl⟩) (fun S3 A3 hr3 => hP S3 A3 (fun Q hQ => rok Q (fun q => absurd q h17) (fun _ => hrun _ ?_)))
            unfold wM_M_complete_44
            exact br_t (Int32.le_refl _) (br_t (Int32.le_refl _) (hr3 Q hQ))
        · have eb : B 1 0 = B2 1 0 := by rw [hB2]
          have n17' : ¬ B 1 0 = 17 := by rw [eb]; exact n17
          show wX_T_workOnRequest_41 P S2 A2 (B 1 0) (nI k)
          rw [eb]
          exact sim_neg (n := n + 1) (k := k) hW2 hk0 hk2 (fun S3 A3 hr3 => hP S3 A3 (fun Q hQ => rok Q (fun q => absurd q n17') (fun _ => hrun _ (hr3 Q hQ))))
      · by_cases h17 : B 1 0 = 17
        · exact sim_torn (n := n + 1) (y := 1) hT2 (fun S3 A3 hr3 => hP S3 A3 (fun Q hQ => rok Q (fun _ => hrun _ (hr3 Q hQ)) (fun q => absurd h17 q)))
        · exact sim_torn (n := n + 1) (y := 0) hT2 (fun S3 A3 hr3 => hP S3 A3 (fun Q hQ => rok Q (fun q => absurd q h17) (fun _ => hrun _ (hr3 Q hQ))))
    · have hr : ¬ rngF (B 1) (B 1 0) := by
        have t : ¬ rngF (A 1) (B 1 0) := hrg
        rw [q1] at t
        exact t
      have n17 : ¬ B 1 0 = 17 := by
        intro q
        refine hr ?_
        rw [q]
        unfold rngF
        rw [if_neg (by decide), if_neg (by decide), if_neg (by decide), if_neg (by decide)]
        exact trivial
      exact sim_neg (n := n + 1) (k := 49) hW.step (by decide) (by decide) (fun S2 A2 hr2 => hP S2 A2 (fun Q hQ => rok Q (fun q => absurd q n17) (fun _ => hM_range hr (hr2 Q hQ))))
