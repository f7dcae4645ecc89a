theorem kX_T_hasRightLength {l : Launch} {R : Room} {nc ns : Nat} {Q : tl_Z → State → Prop} {D : va_G} {q : Nat → Nat} {k : Nat → ClassId} {nL : Nat} {z : tl_Z} {cc : ByteArray} {ret : Option FieldType} {pc : Nat} {lv : List (Nat × Value)} {rest : List Value} {S : SS} {A : AA} {own : String} {idx : Nat} {x1 : Int32} {post : Int32 → SS → AA → Prop} (C : tl_Cx cc nL own ret D (tX k) z) (hw : wX_T_hasRightLength post S A x1) (hl : Cond.methodLink own idx y_T_hasRightLength ∈ wsAll) (hdg : decode cc pc = .ok (.invokevirtual idx, 3)) (hf : tl_fit R (tl_R 1) nc ns 3 rest = true) (kk : ∀ (r : Int32) (S1 : SS) (A1 : AA), post r S1 A1 → tl_At l R nc ns Q D (wX q k) nL z (pc + 3) lv (.int r :: rest) (S1, A1)) : tl_At l R nc ns Q D (wX q k) nL z pc lv (.int x1 :: .ref (q 0) :: rest) (S, A) :=
  tl_callVi (n := 1) (As := [.int x1]) (b := q 0) (q0 := 0) (ci := 6) C (fun sz => cX_T_hasRightLength l D q k sz S A x1 hw) in_320 in_1 in_319 ip_8 (by decide +kernel) rfl ⟨rfl, rfl⟩ rfl rfl hl hf hdg kk
theorem swX_T_isInRange_19_34 {σ : Type} {l : Launch} {R : Room} {nc ns : Nat} {Q : tl_Z → State → Prop} {D : va_G} {w : σ → va_W} {nL : Nat} {z : tl_Z} {own : String} {ret : Option FieldType} {tys : List (ClassId × FieldType)} {lv : List (Nat × Value)} {rest : List Value} {u : σ} {x : Int32} (C : tl_Cx b_T_isInRange nL own ret D tys z) (hc : x = (34 : Int32)) (kk : tl_At l R nc ns Q D w nL z 60 lv rest u) : tl_At l R nc ns Q D w nL z 19 lv (.int x :: rest) u := by
  subst hc
  obtain ⟨p, e, s, m, args, below, meth, c, F⟩ := z
  obtain ⟨hx, hb, hml, hown, hts, hN, hK, hA, hlk, hr⟩ := C
  exact fun ls H locs hl hP hD hS => lv_lookup (off := 41) hx hb d_T_isInRange_19 (by decide +kernel) (by decide +kernel) rfl (kk ls H locs hl hP hD hS)
theorem swX_T_isInRange_19_46 {σ : Type} {l : Launch} {R : Room} {nc ns : Nat} {Q : tl_Z → State → Prop} {D : va_G} {w : σ → va_W} {nL : Nat} {z : tl_Z} {own : String} {ret : Option FieldType} {tys : List (ClassId × FieldType)} {lv : List (Nat × Value)} {rest : List Value} {u : σ} {x : Int32} (C : tl_Cx b_T_isInRange nL own ret D tys z) (hc : x = (46 : Int32)) (kk : tl_At l R nc ns Q D w nL z 71 lv rest u) : tl_At l R nc ns Q D w nL z 19 lv (.int x :: rest) u := by
  subst hc
  obtain ⟨p, e, s, m, args, below, meth, c, F⟩ := z
  obtain ⟨hx, hb, hml, hown, hts, hN, hK, hA, hlk, hr⟩ := C
  exact fun ls H locs hl hP hD hS => lv_lookup (off := 52) hx hb d_T_isInRange_19 (by decide +kernel) (by decide +kernel) rfl (kk ls H locs hl hP hD hS)
theorem swX_T_isInRange_19_49 {σ : Type} {l : Launch} {R : Room} {nc ns : Nat} {Q : tl_Z → State → Prop} {D : va_G} {w : σ → va_W} {nL : Nat} {z : tl_Z} {own : String} {ret : Option FieldType} {tys : List (ClassId × FieldType)} {lv : List (Nat × Value)} {rest : List Value} {u : σ} {x : Int32} (C : tl_Cx b_T_isInRange nL own ret D tys z) (hc : x = (49 : Int32)) (kk : tl_At l R nc ns Q D w nL z 82 lv rest u) : tl_At l R nc ns Q D w nL z 19 lv (.int x :: rest) u := by
  subst hc
  obtain ⟨p, e, s, m, args, below, meth, c, F⟩ := z
  obtain ⟨hx, hb, hml, hown, hts, hN, hK, hA, hlk, hr⟩ := C
  exact fun ls H locs hl hP hD hS => lv_lookup (off := 63) hx hb d_T_isInRange_19 (by decide +kernel) (by decide +kernel) rfl (kk ls H locs hl hP hD hS)
theorem swX_T_isInRange_19_52 {σ : Type} {l : Launch} {R : Room} {nc ns : Nat} {Q : tl_Z → State → Prop} {D : va_G} {w : σ → va_W} {nL : Nat} {z : tl_Z} {own : String} {ret : Option FieldType} {tys : List (ClassId × FieldType)} {lv : List (Nat × Value)} {rest : List Value} {u : σ} {x : Int32} (C : tl_Cx b_T_isInRange nL own ret D tys z) (hc : x = (52 : Int32)) (kk : tl_At l R nc ns Q D w nL z 110 lv rest u) : tl_At l R nc ns Q D w nL z 19 lv (.int x :: rest) u := by
  subst hc
  obtain ⟨p, e, s, m, args, below, meth, c, F⟩ := z
  obtain ⟨hx, hb, hml, hown, hts, hN, hK, hA, hlk, hr⟩ := C
  exact fun ls H locs hl hP hD hS => lv_lookup (off := 91) hx hb d_T_isInRange_19 (by decide +kernel) (by decide +kernel) rfl (kk ls H locs hl hP hD hS)
theorem swX_T_isInRange_19_d {σ : Type} {l : Launch} {R : Room} {nc ns : Nat} {Q : tl_Z → State → Prop} {D : va_G} {w : σ → va_W} {nL : Nat} {z : tl_Z} {own : String} {ret : Option FieldType} {tys : List (ClassId × FieldType)} {lv : List (Nat × Value)} {rest : List Value} {u : σ} {x : Int32} (C : tl_Cx b_T_isInRange nL own ret D tys z) (h0 : ¬ x = (34 : Int32)) (h1 : ¬ x = (46 : Int32)) (h2 : ¬ x = (49 : Int32)) (h3 : ¬ x = (52 : Int32)) (kk : tl_At l R nc ns Q D w nL z 132 lv rest u) : tl_At l R nc ns Q D w nL z 19 lv (.int x :: rest) u := by
  obtain ⟨p, e, s, m, args, below, meth, c, F⟩ := z
  obtain ⟨hx, hb, hml, hown, hts, hN, hK, hA, hlk, hr⟩ := C
  exact fun ls H locs hl hP hD hS => lv_lookup (off := 113) hx hb d_T_isInRange_19 (by decide +kernel) ((lv_osw h0 (by decide)).trans ((lv_osw h1 (by decide)).trans ((lv_osw h2 (by decide)).trans ((lv_osw h3 (by decide)).trans rfl)))) rfl (kk ls H locs hl hP hD hS)
set_option maxHeartbeats 4000000 in
set_option maxRecDepth 100000 in
theorem cX_T_isInRange (l : Launch) (D : va_G) (q : Nat → Nat) (k : Nat → ClassId) (sz : Nat) (S : SS) (A : AA) (x1 : Int32) {post : Int32 → SS → AA → Prop} (hw : wX_T_isInRange post S A x1) : tl_Met l y_T_isInRange b_T_isInRange 4 (some .boolean) (tl_R 1) D (wX q k) (tX k) sz [.ref (q 0), .int x1] (S, A) (tl_Qi D (wX q k) (tX k) post) := by
  refine tl_met (own := R_T) (lv := [(0, .ref (q 0)), (1, .int x1)]) (by decide) rfl rfl (Nat.le_of_ble_eq_true rfl) (fun z C => ?_)
  refine tl_aload_n (pc := 0) C d_T_isInRange_0 rfl 0 rfl ?_
  refine gX_T_19 (pc := 1) C d_T_isInRange_1 ?_
  refine tl_iconst (pc := 4) (v := 1) C d_T_isInRange_4 (by decide) ?_
  refine kX_Rc_at (pc := 5) C hw ml_T_174 d_T_isInRange_5 rfl (fun r5 S5 A5 hw => ?_)
  refine tl_istore_n (pc := 8) (lv' := [(2, .int r5), (0, .ref (q 0)), (1, .int x1)]) C d_T_isInRange_8 rfl (by decide) rfl ?_
  refine tl_aload_n (pc := 9) C d_T_isInRange_9 rfl 1 rfl ?_
  refine gX_T_19 (pc := 10) C d_T_isInRange_10 ?_
  refine tl_iconst (pc := 13) (v := 2) C d_T_isInRange_13 (by decide) ?_
  refine kX_Rc_at (pc := 14) C hw ml_T_174 d_T_isInRange_14 rfl (fun r14 S14 A14 hw => ?_)
  refine tl_istore_n (pc := 17) (lv' := [(3, .int r14), (2, .int r5), (0, .ref (q 0)), (1, .int x1)]) C d_T_isInRange_17 rfl (by decide) rfl ?_
  refine tl_iload_n (pc := 18) C d_T_isInRange_18 rfl 3 rfl ?_
  by_cases hc : x1 = (34 : Int32)
  · have hw := hw.1 hc
    refine swX_T_isInRange_19_34 C hc ?_
    refine tl_iload_n (pc := 60) C d_T_isInRange_60 rfl 1 rfl ?_
    refine tl_iconst (pc := 61) (v := 2) C d_T_isInRange_61 (by decide) ?_
    refine tl_icmp_gt (pc := 62) (tgt := 69) C d_T_isInRange_62 rfl (fun hc => ?_) (fun hc => ?_)
    · have hw := hw.1 hc
      refine tl_iconst (pc := 69) (v := 0) C d_T_isInRange_69 (by decide) ?_
      exact tl_zret (pc := 70) C (by decide) d_T_isInRange_70 hw
    · have hw := hw.2 hc
      refine tl_iconst (pc := 65) (v := 1) C d_T_isInRange_65 (by decide) ?_
      refine tl_goto (pc := 66) (tgt := 70) C d_T_isInRange_66 rfl ?_
      exact tl_zret (pc := 70) C (by decide) d_T_isInRange_70 hw
  · have hw := hw.2 hc
    have hc0 := hc
    by_cases hc : x1 = (46 : Int32)
    · have hw := hw.1 hc
      refine swX_T_isInRange_19_46 C hc ?_
      refine tl_iload_n (pc := 71) C d_T_isInRange_71 rfl 1 rfl ?_
      refine tl_iconst (pc := 72) (v := 1) C d_T_isInRange_72 (by decide) ?_
      refine tl_icmp_ne (pc := 73) (tgt := 80) C d_T_isInRange_73 rfl (fun hc => ?_) (fun hc => ?_)
      · have hw := hw.1 hc
        refine tl_iconst (pc := 80) (v := 0) C d_T_isInRange_80 (by decide) ?_
        exact tl_zret (pc := 81) C (by decide) d_T_isInRange_81 hw
      · have hw := hw.2 hc
        refine tl_iconst (pc := 76) (v := 1) C d_T_isInRange_76 (by decide) ?_
        refine tl_goto (pc := 77) (tgt := 81) C d_T_isInRange_77 rfl ?_
        exact tl_zret (pc := 81) C (by decide) d_T_isInRange_81 hw
    · have hw := hw.2 hc
      have hc1 := hc
      by_cases hc : x1 = (49 : Int32)
      · have hw := hw.1 hc
        refine swX_T_isInRange_19_49 C hc ?_
        refine tl_iload_n (pc := 82) C d_T_isInRange_82 rfl 0 rfl ?_
        refine tl_iconst (pc := 83) (v := 1) C d_T_isInRange_83 (by decide) ?_
        refine tl_icmp_lt (pc := 84) (tgt := 108) C d_T_isInRange_84 rfl (fun hc => ?_) (fun hc => ?_)
        · have hw := hw.1 hc
          refine tl_iconst (pc := 108) (v := 0) C d_T_isInRange_108 (by decide) ?_
          exact tl_zret (pc := 109) C (by decide) d_T_isInRange_109 hw
        · have hw := hw.2 hc
          refine tl_iload_n (pc := 87) C d_T_isInRange_87 rfl 0 rfl ?_
          refine tl_iconst (pc := 88) (v := 3) C d_T_isInRange_88 (by decide) ?_
          refine tl_icmp_gt (pc := 89) (tgt := 108) C d_T_isInRange_89 rfl (fun hc => ?_) (fun hc => ?_)
          · have hw := hw.1 hc
            refine tl_iconst (pc := 108) (v := 0) C d_T_isInRange_108 (by decide) ?_
            exact tl_zret (pc := 109) C (by decide) d_T_isInRange_109 hw
          · have hw := hw.2 hc
            refine tl_aload_n (pc := 92) C d_T_isInRange_92 rfl 2 rfl ?_
            refine gX_T_19 (pc := 93) C d_T_isInRange_93 ?_
            refine tl_iconst (pc := 96) (v := 3) C d_T_isInRange_96 (by decide) ?_
            refine kX_Rc_at (pc := 97) C hw ml_T_174 d_T_isInRange_97 rfl (fun r97 S97 A97 hw => ?_)
            refine tl_iconst (pc := 100) (v := 1) C d_T_isInRange_100 (by decide) ?_
            refine tl_icmp_gt (pc := 101) (tgt := 108) C d_T_isInRange_101 rfl (fun hc => ?_) (fun hc => ?_)
            · have hw := hw.1 hc
              refine tl_iconst (pc := 108) (v := 0) C d_T_isInRange_108 (by decide) ?_
              exact tl_zret (pc := 109) C (by decide) d_T_isInRange_109 hw
            · have hw := hw.2 hc
              refine tl_iconst (pc := 104) (v := 1) C d_T_isInRange_104 (by decide) ?_
              refine tl_goto (pc := 105) (tgt := 109) C d_T_isInRange_105 rfl ?_
              exact tl_zret (pc := 109) C (by decide) d_T_isInRange_109 hw
      · have hw := hw.2 hc
        have hc2 := hc
        by_cases hc : x1 = (52 : Int32)
        · have hw := hw.1 hc
          refine swX_T_isInRange_19_52 C hc ?_
          refine tl_iload_n (pc := 110) C d_T_isInRange_110 rfl 1 rfl ?_
          refine tl_iconst (pc := 111) (v := 1) C d_T_isInRange_111 (by decide) ?_
          refine tl_icmp_gt (pc := 112) (tgt := 130) C d_T_isInRange_112 rfl (fun hc => ?_) (fun hc => ?_)
          · have hw := hw.1 hc
            refine tl_iconst (pc := 130) (v := 0) C d_T_isInRange_130 (by decide) ?_
            exact tl_zret (pc := 131) C (by decide) d_T_isInRange_131 hw
          · have hw := hw.2 hc
            refine tl_iload_n (pc := 115) C d_T_isInRange_115 rfl 0 rfl ?_
            refine tl_iconst (pc := 116) (v := 1) C d_T_isInRange_116 (by decide) ?_
            refine tl_icmp_lt (pc := 117) (tgt := 130) C d_T_isInRange_117 rfl (fun hc => ?_) (fun hc => ?_)
            · have hw := hw.1 hc
              refine tl_iconst (pc := 130) (v := 0) C d_T_isInRange_130 (by decide) ?_
              exact tl_zret (pc := 131) C (by decide) d_T_isInRange_131 hw
            · have hw := hw.2 hc
              refine tl_iload_n (pc := 120) C d_T_isInRange_120 rfl 0 rfl ?_
              refine tl_bipush (pc := 121) (v := 32) C d_T_isInRange_121 (by decide) ?_
              refine tl_icmp_gt (pc := 123) (tgt := 130) C d_T_isInRange_123 rfl (fun hc => ?_) (fun hc => ?_)
              · have hw := hw.1 hc
                refine tl_iconst (pc := 130) (v := 0) C d_T_isInRange_130 (by decide) ?_
                exact tl_zret (pc := 131) C (by decide) d_T_isInRange_131 hw
              · have hw := hw.2 hc
                refine tl_iconst (pc := 126) (v := 1) C d_T_isInRange_126 (by decide) ?_
                refine tl_goto (pc := 127) (tgt := 131) C d_T_isInRange_127 rfl ?_
                exact tl_zret (pc := 131) C (by decide) d_T_isInRange_131 hw
        · have hw := hw.2 hc
          have hc3 := hc
          refine swX_T_isInRange_19_d C hc0 hc1 hc2 hc3 ?_
          refine tl_iconst (pc := 132) (v := 1) C d_T_isInRange_132 (by decide) ?_
          exact tl_zret (pc := 133) C (by decide) d_T_isInRange_133 hw
theorem kX_T_isInRange {l : Launch} {R : Room} {nc ns : Nat} {Q : tl_Z → State → Prop} {D : va_G} {q : Nat → Nat} {k : Nat → ClassId} {nL : Nat} {z : tl_Z} {cc : ByteArray} {ret : Option FieldType} {pc : Nat} {lv : List (Nat × Value)} {rest : List Value} {S : SS} {A : AA} {own : String} {idx : Nat} {x1 : Int32} {post : Int32 → SS → AA → Prop} (C : tl_Cx cc nL own ret D (tX k) z) (hw : wX_T_isInRange post S A x1) (hl : Cond.methodLink own idx y_T_isInRange ∈ wsAll) (hdg : decode cc pc = .ok (.invokevirtual idx, 3)) (hf : tl_fit R (tl_R 1) nc ns 4 rest = true) (kk : ∀ (r : Int32) (S1 : SS) (A1 : AA), post r S1 A1 → tl_At l R nc ns Q D (wX q k) nL z (pc + 3) lv (.int r :: rest) (S1, A1)) : tl_At l R nc ns Q D (wX q k) nL z pc lv (.int x1 :: .ref (q 0) :: rest) (S, A) :=
  tl_callVi (n := 1) (As := [.int x1]) (b := q 0) (q0 := 0) (ci := 6) C (fun sz => cX_T_isInRange l D q k sz S A x1 hw) in_328 in_1 in_327 ip_10 (by decide +kernel) rfl ⟨rfl, rfl⟩ rfl rfl hl hf hdg kk
set_option maxHeartbeats 4000000 in
set_option maxRecDepth 100000 in
theorem cX_T_needsUnlocking (l : Launch) (D : va_G) (q : Nat → Nat) (k : Nat → ClassId) (sz : Nat) (S : SS) (A : AA) (x0 : Int32) {post : Int32 → SS → AA → Prop} (hw : wX_T_needsUnlocking post S A x0) : tl_Met l y_T_needsUnlocking b_T_needsUnlocking 1 (some .boolean) (tl_R 0) D (wX q k) (tX k) sz [.int x0] (S, A) (tl_Qi D (wX q k) (tX k) post) := by
  refine tl_met (own := R_T) (lv := [(0, .int x0)]) (by decide) rfl rfl (Nat.le_of_ble_eq_true rfl) (fun z C => ?_)
  have B30 : ∀ (S : SS) (A : AA), wX_T_needsUnlocking_30 post S A → tl_At l (tl_R 0) 0 0 (tl_M 0 0 (tl_Qi D (wX q k) (tX k) post)) D (wX q k) 1 z 30 [] [] (S, A) := by
    intro S A hw
    refine tl_iconst (pc := 30) (v := 1) C d_T_needsUnlocking_30 (by decide) ?_
    refine tl_goto (pc := 31) (tgt := 35) C d_T_needsUnlocking_31 rfl ?_
    exact tl_zret (pc := 35) C (by decide) d_T_needsUnlocking_35 hw
  refine tl_iload_n (pc := 0) C d_T_needsUnlocking_0 rfl 0 rfl ?_
  refine tl_bipush (pc := 1) (v := 46) C d_T_needsUnlocking_1 (by decide) ?_
  refine tl_icmp_eq (pc := 3) (tgt := 30) C d_T_needsUnlocking_3 rfl (fun hc => ?_) (fun hc => ?_)
  · have hw := hw.1 hc
    exact tl_sub [] rfl (B30 _ _ hw)
  · have hw := hw.2 hc
    refine tl_iload_n (pc := 6) C d_T_needsUnlocking_6 rfl 0 rfl ?_
    refine tl_bipush (pc := 7) (v := 49) C d_T_needsUnlocking_7 (by decide) ?_
    refine tl_icmp_eq (pc := 9) (tgt := 30) C d_T_needsUnlocking_9 rfl (fun hc => ?_) (fun hc => ?_)
    · have hw := hw.1 hc
      exact tl_sub [] rfl (B30 _ _ hw)
    · have hw := hw.2 hc
      refine tl_iload_n (pc := 12) C d_T_needsUnlocking_12 rfl 0 rfl ?_
      refine tl_bipush (pc := 13) (v := 52) C d_T_needsUnlocking_13 (by decide) ?_
      refine tl_icmp_eq (pc := 15) (tgt := 30) C d_T_needsUnlocking_15 rfl (fun hc => ?_) (fun hc => ?_)
      · have hw := hw.1 hc
        exact tl_sub [] rfl (B30 _ _ hw)
      · have hw := hw.2 hc
        refine tl_iload_n (pc := 18) C d_T_needsUnlocking_18 rfl 0 rfl ?_
        refine tl_bipush (pc := 19) (v := 54) C d_T_needsUnlocking_19 (by decide) ?_
        refine tl_icmp_eq (pc := 21) (tgt := 30) C d_T_needsUnlocking_21 rfl (fun hc => ?_) (fun hc => ?_)
        · have hw := hw.1 hc
          exact tl_sub [] rfl (B30 _ _ hw)
        · have hw := hw.2 hc
          refine tl_iload_n (pc := 24) C d_T_needsUnlocking_24 rfl 0 rfl ?_
          refine tl_bipush (pc := 25) (v := 55) C d_T_needsUnlocking_25 (by decide) ?_
          refine tl_icmp_ne (pc := 27) (tgt := 34) C d_T_needsUnlocking_27 rfl (fun hc => ?_) (fun hc => ?_)
          · have hw := hw.1 hc
            refine tl_iconst (pc := 34) (v := 0) C d_T_needsUnlocking_34 (by decide) ?_
            exact tl_zret (pc := 35) C (by decide) d_T_needsUnlocking_35 hw
          · have hw := hw.2 hc
            exact tl_sub [] rfl (B30 _ _ hw)
theorem kX_T_needsUnlocking {l : Launch} {R : Room} {nc ns : Nat} {Q : tl_Z → State → Prop} {D : va_G} {q : Nat → Nat} {k : Nat → ClassId} {nL : Nat} {z : tl_Z} {cc : ByteArray} {ret : Option FieldType} {pc : Nat} {lv : List (Nat × Value)} {rest : List Value} {S : SS} {A : AA} {own : String} {idx : Nat} {x0 : Int32} {post : Int32 → SS → AA → Prop} (C : tl_Cx cc nL own ret D (tX k) z) (hw : wX_T_needsUnlocking post S A x0) (hl : Cond.methodLink own idx y_T_needsUnlocking ∈ wsAll) (hdg : decode cc pc = .ok (.invokestatic idx, 3)) (hf : tl_fit R (tl_R 0) nc ns 1 rest = true) (kk : ∀ (r : Int32) (S1 : SS) (A1 : AA), post r S1 A1 → tl_At l R nc ns Q D (wX q k) nL z (pc + 3) lv (.int r :: rest) (S1, A1)) : tl_At l R nc ns Q D (wX q k) nL z pc lv (.int x0 :: rest) (S, A) :=
  tl_callSi (n := 1) (As := [.int x0]) C (fun sz => cX_T_needsUnlocking l D q k sz S A x0 hw) in_316 in_1 in_315 (by decide +kernel) rfl ⟨rfl, rfl⟩ hl hf hdg kk
set_option maxHeartbeats 4000000 in
set_option maxRecDepth 100000 in
theorem cX_T_isKnown (l : Launch) (D : va_G) (q : Nat → Nat) (k : Nat → ClassId) (sz : Nat) (S : SS) (A : AA) (x0 : Int32) {post : Int32 → SS → AA → Prop} (hw : wX_T_isKnown post S A x0) : tl_Met l y_T_isKnown b_T_isKnown 1 (some .boolean) (tl_R 1) D (wX q k) (tX k) sz [.int x0] (S, A) (tl_Qi D (wX q k) (tX k) post) := by
  refine tl_met (own := R_T) (lv := [(0, .int x0)]) (by decide) rfl rfl (Nat.le_of_ble_eq_true rfl) (fun z C => ?_)
  have B37 : ∀ (S : SS) (A : AA), wX_T_isKnown_37 post S A → tl_At l (tl_R 1) 0 0 (tl_M 0 0 (tl_Qi D (wX q k) (tX k) post)) D (wX q k) 1 z 37 [] [] (S, A) := by
    intro S A hw
    refine tl_iconst (pc := 37) (v := 1) C d_T_isKnown_37 (by decide) ?_
    refine tl_goto (pc := 38) (tgt := 42) C d_T_isKnown_38 rfl ?_
    exact tl_zret (pc := 42) C (by decide) d_T_isKnown_42 hw
  refine tl_iload_n (pc := 0) C d_T_isKnown_0 rfl 0 rfl ?_
  refine tl_bipush (pc := 1) (v := 16) C d_T_isKnown_1 (by decide) ?_
  refine tl_icmp_eq (pc := 3) (tgt := 37) C d_T_isKnown_3 rfl (fun hc => ?_) (fun hc => ?_)
  · have hw := hw.1 hc
    exact tl_sub [] rfl (B37 _ _ hw)
  · have hw := hw.2 hc
    refine tl_iload_n (pc := 6) C d_T_isKnown_6 rfl 0 rfl ?_
    refine tl_bipush (pc := 7) (v := 17) C d_T_isKnown_7 (by decide) ?_
    refine tl_icmp_eq (pc := 9) (tgt := 37) C d_T_isKnown_9 rfl (fun hc => ?_) (fun hc => ?_)
    · have hw := hw.1 hc
      exact tl_sub [] rfl (B37 _ _ hw)
    · have hw := hw.2 hc
      refine tl_iload_n (pc := 12) C d_T_isKnown_12 rfl 0 rfl ?_
      refine tl_bipush (pc := 13) (v := 34) C d_T_isKnown_13 (by decide) ?_
      refine tl_icmp_eq (pc := 15) (tgt := 37) C d_T_isKnown_15 rfl (fun hc => ?_) (fun hc => ?_)
      · have hw := hw.1 hc
        exact tl_sub [] rfl (B37 _ _ hw)
      · have hw := hw.2 hc
        refine tl_iload_n (pc := 18) C d_T_isKnown_18 rfl 0 rfl ?_
        refine tl_bipush (pc := 19) (v := 39) C d_T_isKnown_19 (by decide) ?_
        refine tl_icmp_eq (pc := 21) (tgt := 37) C d_T_isKnown_21 rfl (fun hc => ?_) (fun hc => ?_)
        · have hw := hw.1 hc
          exact tl_sub [] rfl (B37 _ _ hw)
        · have hw := hw.2 hc
          refine tl_iload_n (pc := 24) C d_T_isKnown_24 rfl 0 rfl ?_
          refine tl_bipush (pc := 25) (v := 62) C d_T_isKnown_25 (by decide) ?_
          refine tl_icmp_eq (pc := 27) (tgt := 37) C d_T_isKnown_27 rfl (fun hc => ?_) (fun hc => ?_)
          · have hw := hw.1 hc
            exact tl_sub [] rfl (B37 _ _ hw)
          · have hw := hw.2 hc
            refine tl_iload_n (pc := 30) C d_T_isKnown_30 rfl 0 rfl ?_
            refine kX_T_needsUnlocking (pc := 31) C hw ml_T_202 d_T_isKnown_31 rfl (fun r31 S31 A31 hw => ?_)
            refine tl_if_eq (pc := 34) (tgt := 41) C d_T_isKnown_34 rfl (fun hc => ?_) (fun hc => ?_)
            · have hw := hw.1 hc
              refine tl_iconst (pc := 41) (v := 0) C d_T_isKnown_41 (by decide) ?_
              exact tl_zret (pc := 42) C (by decide) d_T_isKnown_42 hw
            · have hw := hw.2 hc
              exact tl_sub [] rfl (B37 _ _ hw)
theorem kX_T_isKnown {l : Launch} {R : Room} {nc ns : Nat} {Q : tl_Z → State → Prop} {D : va_G} {q : Nat → Nat} {k : Nat → ClassId} {nL : Nat} {z : tl_Z} {cc : ByteArray} {ret : Option FieldType} {pc : Nat} {lv : List (Nat × Value)} {rest : List Value} {S : SS} {A : AA} {own : String} {idx : Nat} {x0 : Int32} {post : Int32 → SS → AA → Prop} (C : tl_Cx cc nL own ret D (tX k) z) (hw : wX_T_isKnown post S A x0) (hl : Cond.methodLink own idx y_T_isKnown ∈ wsAll) (hdg : decode cc pc = .ok (.invokestatic idx, 3)) (hf : tl_fit R (tl_R 1) nc ns 1 rest = true) (kk : ∀ (r : Int32) (S1 : SS) (A1 : AA), post r S1 A1 → tl_At l R nc ns Q D (wX q k) nL z (pc + 3) lv (.int r :: rest) (S1, A1)) : tl_At l R nc ns Q D (wX q k) nL z pc lv (.int x0 :: rest) (S, A) :=
  tl_callSi (n := 1) (As := [.int x0]) C (fun sz => cX_T_isKnown l D q k sz S A x0 hw) in_313 in_1 in_312 (by decide +kernel) rfl ⟨rfl, rfl⟩ hl hf hdg kk
set_option maxHeartbeats 4000000 in
set_option maxRecDepth 100000 in
theorem cX_T_refusal (l : Launch) (D : va_G) (q : Nat → Nat) (k : Nat → ClassId) (sz : Nat) (S : SS) (A : AA) (x1 : Int32) {post : Int32 → SS → AA → Prop} (hw : wX_T_refusal post S A x1) : tl_Met l y_T_refusal b_T_refusal 3 (some .int) (tl_R 2) D (wX q k) (tX k) sz [.ref (q 0), .int x1] (S, A) (tl_Qi D (wX q k) (tX k) post) := by
  refine tl_met (own := R_T) (lv := [(0, .ref (q 0)), (1, .int x1)]) (by decide) rfl rfl (Nat.le_of_ble_eq_true rfl) (fun z C => ?_)
  have B75 : ∀ (S : SS) (A : AA) (x1 : Int32), wX_T_refusal_75 post S A x1 → tl_At l (tl_R 2) 0 0 (tl_M 0 0 (tl_Qi D (wX q k) (tX k) post)) D (wX q k) 3 z 75 [(0, .ref (q 0)), (1, .int x1)] [] (S, A) := by
    intro S A x1 hw
    refine tl_aload_n (pc := 75) C d_T_refusal_75 rfl 0 rfl ?_
    refine tl_iload_n (pc := 76) C d_T_refusal_76 rfl 1 rfl ?_
    refine kX_T_isInRange (pc := 77) C hw ml_T_205 d_T_refusal_77 rfl (fun r77 S77 A77 hw => ?_)
    refine tl_if_eq (pc := 80) (tgt := 87) C d_T_refusal_80 rfl (fun hc => ?_) (fun hc => ?_)
    · have hw := hw.1 hc
      refine tl_bipush (pc := 87) (v := 49) C d_T_refusal_87 (by decide) ?_
      exact tl_iret (pc := 89) C d_T_refusal_89 hw
    · have hw := hw.2 hc
      refine tl_iconst (pc := 83) (v := 0) C d_T_refusal_83 (by decide) ?_
      refine tl_goto (pc := 84) (tgt := 89) C d_T_refusal_84 rfl ?_
      exact tl_iret (pc := 89) C d_T_refusal_89 hw
  have B58 : ∀ (S : SS) (A : AA) (x1 x2 : Int32), wX_T_refusal_58 post S A x1 x2 → tl_At l (tl_R 2) 0 0 (tl_M 0 0 (tl_Qi D (wX q k) (tX k) post)) D (wX q k) 3 z 58 [(0, .ref (q 0)), (1, .int x1), (2, .int x2)] [] (S, A) := by
    intro S A x1 x2 hw
    refine tl_iload_n (pc := 58) C d_T_refusal_58 rfl 2 rfl ?_
    refine tl_if_eq (pc := 59) (tgt := 75) C d_T_refusal_59 rfl (fun hc => ?_) (fun hc => ?_)
    · have hw := hw.1 hc
      exact tl_sub [0, 1] rfl (B75 _ _ _ hw)
    · have hw := hw.2 hc
      refine tl_aload_n (pc := 62) C d_T_refusal_62 rfl 0 rfl ?_
      refine gX_T_38 (pc := 63) C d_T_refusal_63 ?_
      refine gX_T_127 (pc := 66) (v := (S 18)) C rfl d_T_refusal_66 ?_
      refine tl_if_ne (pc := 69) (tgt := 75) C d_T_refusal_69 rfl (fun hc => ?_) (fun hc => ?_)
      · have hw := hw.1 hc
        exact tl_sub [0, 1] rfl (B75 _ _ _ hw)
      · have hw := hw.2 hc
        refine tl_bipush (pc := 72) (v := 51) C d_T_refusal_72 (by decide) ?_
        exact tl_iret (pc := 74) C d_T_refusal_74 hw
  refine tl_iload_n (pc := 0) C d_T_refusal_0 rfl 1 rfl ?_
  refine kX_T_isKnown (pc := 1) C hw ml_T_192 d_T_refusal_1 rfl (fun r1 S1 A1 hw => ?_)
  refine tl_if_ne (pc := 4) (tgt := 10) C d_T_refusal_4 rfl (fun hc => ?_) (fun hc => ?_)
  · have hw := hw.1 hc
    refine tl_aload_n (pc := 10) C d_T_refusal_10 rfl 0 rfl ?_
    refine tl_iload_n (pc := 11) C d_T_refusal_11 rfl 1 rfl ?_
    refine kX_T_hasRightLength (pc := 12) C hw ml_T_196 d_T_refusal_12 rfl (fun r12 S12 A12 hw => ?_)
    refine tl_if_ne (pc := 15) (tgt := 21) C d_T_refusal_15 rfl (fun hc => ?_) (fun hc => ?_)
    · have hw := hw.1 hc
      refine tl_aload_n (pc := 21) C d_T_refusal_21 rfl 0 rfl ?_
      refine tl_iload_n (pc := 22) C d_T_refusal_22 rfl 1 rfl ?_
      refine kX_T_hasKnownKind (pc := 23) C hw ml_T_199 d_T_refusal_23 rfl (fun r23 S23 A23 hw => ?_)
      refine tl_if_ne (pc := 26) (tgt := 32) C d_T_refusal_26 rfl (fun hc => ?_) (fun hc => ?_)
      · have hw := hw.1 hc
        refine tl_iload_n (pc := 32) C d_T_refusal_32 rfl 1 rfl ?_
        refine kX_T_needsUnlocking (pc := 33) C hw ml_T_202 d_T_refusal_33 rfl (fun r33 S33 A33 hw => ?_)
        refine tl_istore_n (pc := 36) (lv' := [(2, .int r33), (0, .ref (q 0)), (1, .int x1)]) C d_T_refusal_36 rfl (by decide) rfl ?_
        refine tl_aload_n (pc := 37) C d_T_refusal_37 rfl 1 rfl ?_
        refine gX_T_98 (pc := 38) (v := (S33 1)) C rfl d_T_refusal_38 ?_
        refine tl_iconst (pc := 41) (v := 1) C d_T_refusal_41 (by decide) ?_
        refine tl_icmp_ne (pc := 42) (tgt := 58) C d_T_refusal_42 rfl (fun hc => ?_) (fun hc => ?_)
        · have hw := hw.1 hc
          exact tl_sub [1, 2, 0] rfl (B58 _ _ _ _ hw)
        · have hw := hw.2 hc
          refine tl_iload_n (pc := 45) C d_T_refusal_45 rfl 0 rfl ?_
          refine tl_if_ne (pc := 46) (tgt := 55) C d_T_refusal_46 rfl (fun hc => ?_) (fun hc => ?_)
          · have hw := hw.1 hc
            refine tl_bipush (pc := 55) (v := 127) C d_T_refusal_55 (by decide) ?_
            exact tl_iret (pc := 57) C d_T_refusal_57 hw
          · have hw := hw.2 hc
            refine tl_iload_n (pc := 49) C d_T_refusal_49 rfl 2 rfl ?_
            refine tl_bipush (pc := 50) (v := 39) C d_T_refusal_50 (by decide) ?_
            refine tl_icmp_ne (pc := 52) (tgt := 58) C d_T_refusal_52 rfl (fun hc => ?_) (fun hc => ?_)
            · have hw := hw.1 hc
              exact tl_sub [1, 2, 0] rfl (B58 _ _ _ _ hw)
            · have hw := hw.2 hc
              refine tl_bipush (pc := 55) (v := 127) C d_T_refusal_55 (by decide) ?_
              exact tl_iret (pc := 57) C d_T_refusal_57 hw
      · have hw := hw.2 hc
        refine tl_bipush (pc := 29) (v := 18) C d_T_refusal_29 (by decide) ?_
        exact tl_iret (pc := 31) C d_T_refusal_31 hw
    · have hw := hw.2 hc
      refine tl_bipush (pc := 18) (v := 19) C d_T_refusal_18 (by decide) ?_
      exact tl_iret (pc := 20) C d_T_refusal_20 hw
  · have hw := hw.2 hc
    refine tl_bipush (pc := 7) (v := 17) C d_T_refusal_7 (by decide) ?_
    exact tl_iret (pc := 9) C d_T_refusal_9 hw
theorem kX_T_refusal {l : Launch} {R : Room} {nc ns : Nat} {Q : tl_Z → State → Prop} {D : va_G} {q : Nat → Nat} {k : Nat → ClassId} {nL : Nat} {z : tl_Z} {cc : ByteArray} {ret : Option FieldType} {pc : Nat} {lv : List (Nat × Value)} {rest : List Value} {S : SS} {A : AA} {own : String} {idx : Nat} {x1 : Int32} {post : Int32 → SS → AA → Prop} (C : tl_Cx cc nL own ret D (tX k) z) (hw : wX_T_refusal post S A x1) (hl : Cond.methodLink own idx y_T_refusal ∈ wsAll) (hdg : decode cc pc = .ok (.invokevirtual idx, 3)) (hf : tl_fit R (tl_R 2) nc ns 3 rest = true) (kk : ∀ (r : Int32) (S1 : SS) (A1 : AA), post r S1 A1 → tl_At l R nc ns Q D (wX q k) nL z (pc + 3) lv (.int r :: rest) (S1, A1)) : tl_At l R nc ns Q D (wX q k) nL z pc lv (.int x1 :: .ref (q 0) :: rest) (S, A) :=
  tl_callVi (n := 1) (As := [.int x1]) (b := q 0) (q0 := 0) (ci := 6) C (fun sz => cX_T_refusal l D q k sz S A x1 hw) in_310 in_1 in_309 ip_7 (by decide +kernel) rfl ⟨rfl, rfl⟩ rfl rfl hl hf hdg kk
set_option maxHeartbeats 4000000 in
set_option maxRecDepth 100000 in
theorem cX_Dl_begin (l : Launch) (D : va_G) (q : Nat → Nat) (k : Nat → ClassId) (sz : Nat) (S : SS) (A : AA) (x1 x2 : Int32) {post : SS → AA → Prop} (hw : wX_Dl_begin post S A x1 x2) : tl_Met l y_Dl_begin b_Dl_begin 3 none (tl_R 0) D (wX q k) (tX k) sz [.ref (q 11), .int x1, .int x2] (S, A) (tl_Qv D (wX q k) (tX k) post) := by
  refine tl_met (own := R_Dl) (lv := [(0, .ref (q 11)), (1, .int x1), (2, .int x2)]) (by decide) rfl rfl (Nat.le_of_ble_eq_true rfl) (fun z C => ?_)
  refine tl_aload_n (pc := 0) C d_Dl_begin_0 rfl 0 rfl ?_
  refine tl_iconst (pc := 1) (v := 1) C d_Dl_begin_1 (by decide) ?_
  refine pX_Dl_9 (pc := 2) C (by decide) d_Dl_begin_2 ?_
  refine tl_aload_n (pc := 5) C d_Dl_begin_5 rfl 0 rfl ?_
  refine tl_iload_n (pc := 6) C d_Dl_begin_6 rfl 1 rfl ?_
  refine pX_Dl_15 (pc := 7) C d_Dl_begin_7 ?_
  refine tl_aload_n (pc := 10) C d_Dl_begin_10 rfl 0 rfl ?_
  refine tl_iload_n (pc := 11) C d_Dl_begin_11 rfl 2 rfl ?_
  refine pX_Dl_19 (pc := 12) C d_Dl_begin_12 ?_
  refine tl_aload_n (pc := 15) C d_Dl_begin_15 rfl 0 rfl ?_
  refine tl_iconst (pc := 16) (v := 0) C d_Dl_begin_16 (by decide) ?_
  refine pX_Dl_22 (pc := 17) C d_Dl_begin_17 ?_
  refine tl_aload_n (pc := 20) C d_Dl_begin_20 rfl 0 rfl ?_
  refine tl_iconst (pc := 21) (v := 0) C d_Dl_begin_21 (by decide) ?_
  refine pX_Dl_25 (pc := 22) C d_Dl_begin_22 ?_
  exact tl_vret (pc := 25) C d_Dl_begin_25 hw
theorem kX_Dl_begin {l : Launch} {R : Room} {nc ns : Nat} {Q : tl_Z → State → Prop} {D : va_G} {q : Nat → Nat} {k : Nat → ClassId} {nL : Nat} {z : tl_Z} {cc : ByteArray} {ret : Option FieldType} {pc : Nat} {lv : List (Nat × Value)} {rest : List Value} {S : SS} {A : AA} {own : String} {idx : Nat} {x1 x2 : Int32} {post : SS → AA → Prop} (C : tl_Cx cc nL own ret D (tX k) z) (hw : wX_Dl_begin post S A x1 x2) (hl : Cond.methodLink own idx y_Dl_begin ∈ wsAll) (hdg : decode cc pc = .ok (.invokevirtual idx, 3)) (hf : tl_fit R (tl_R 0) nc ns 3 rest = true) (kk : ∀ (S1 : SS) (A1 : AA), post S1 A1 → tl_At l R nc ns Q D (wX q k) nL z (pc + 3) lv (rest) (S1, A1)) : tl_At l R nc ns Q D (wX q k) nL z pc lv (.int x2 :: .int x1 :: .ref (q 11) :: rest) (S, A) :=
  tl_callVv (n := 2) (As := [.int x1, .int x2]) (b := q 11) (q0 := 11) (ci := 0) C (fun sz => cX_Dl_begin l D q k sz S A x1 x2 hw) in_424 in_7 in_422 in_423 (by decide +kernel) rfl ⟨rfl, rfl⟩ rfl rfl hl hf hdg kk
set_option maxHeartbeats 4000000 in
set_option maxRecDepth 100000 in
theorem cX_T_doneWith (l : Launch) (D : va_G) (q : Nat → Nat) (k : Nat → ClassId) (sz : Nat) (S : SS) (A : AA) (x1 : Int32) {post : Int32 → SS → AA → Prop} (hw : wX_T_doneWith post S A x1) : tl_Met l y_T_doneWith b_T_doneWith 2 (some .int) (tl_R 1) D (wX q k) (tX k) sz [.ref (q 0), .int x1] (S, A) (tl_Qi D (wX q k) (tX k) post) := by
  refine tl_met (own := R_T) (lv := [(0, .ref (q 0)), (1, .int x1)]) (by decide) rfl rfl (Nat.le_of_ble_eq_true rfl) (fun z C => ?_)
  refine tl_aload_n (pc := 0) C d_T_doneWith_0 rfl 0 rfl ?_
  refine gX_T_26 (pc := 1) C d_T_doneWith_1 ?_
  refine tl_iload_n (pc := 4) C d_T_doneWith_4 rfl 1 rfl ?_
  refine kX_Sd_add (pc := 5) C hw ml_T_186 d_T_doneWith_5 rfl (fun S5 A5 hw => ?_)
  refine tl_iconst (pc := 8) (v := 0) C d_T_doneWith_8 (by decide) ?_
  exact tl_iret (pc := 9) C d_T_doneWith_9 hw
theorem kX_T_doneWith {l : Launch} {R : Room} {nc ns : Nat} {Q : tl_Z → State → Prop} {D : va_G} {q : Nat → Nat} {k : Nat → ClassId} {nL : Nat} {z : tl_Z} {cc : ByteArray} {ret : Option FieldType} {pc : Nat} {lv : List (Nat × Value)} {rest : List Value} {S : SS} {A : AA} {own : String} {idx : Nat} {x1 : Int32} {post : Int32 → SS → AA → Prop} (C : tl_Cx cc nL own ret D (tX k) z) (hw : wX_T_doneWith post S A x1) (hl : Cond.methodLink own idx y_T_doneWith ∈ wsAll) (hdg : decode cc pc = .ok (.invokevirtual idx, 3)) (hf : tl_fit R (tl_R 1) nc ns 2 rest = true) (kk : ∀ (r : Int32) (S1 : SS) (A1 : AA), post r S1 A1 → tl_At l R nc ns Q D (wX q k) nL z (pc + 3) lv (.int r :: rest) (S1, A1)) : tl_At l R nc ns Q D (wX q k) nL z pc lv (.int x1 :: .ref (q 0) :: rest) (S, A) :=
  tl_callVi (n := 1) (As := [.int x1]) (b := q 0) (q0 := 0) (ci := 6) C (fun sz => cX_T_doneWith l D q k sz S A x1 hw) in_341 in_1 in_340 ip_13 (by decide +kernel) rfl ⟨rfl, rfl⟩ rfl rfl hl hf hdg kk
set_option maxHeartbeats 4000000 in
set_option maxRecDepth 100000 in
theorem cX_T_beginDownload (l : Launch) (D : va_G) (q : Nat → Nat) (k : Nat → ClassId) (sz : Nat) (S : SS) (A : AA) (x1 x2 : Int32) {post : Int32 → SS → AA → Prop} (hw : wX_T_beginDownload post S A x1 x2) : tl_Met l y_T_beginDownload b_T_beginDownload 3 (some .int) (tl_R 2) D (wX q k) (tX k) sz [.ref (q 0), .int x1, .int x2] (S, A) (tl_Qi D (wX q k) (tX k) post) := by
  refine tl_met (own := R_T) (lv := [(0, .ref (q 0)), (1, .int x1), (2, .int x2)]) (by decide) rfl rfl (Nat.le_of_ble_eq_true rfl) (fun z C => ?_)
  refine tl_iload_n (pc := 0) C d_T_beginDownload_0 rfl 1 rfl ?_
  refine tl_aload_n (pc := 1) C d_T_beginDownload_1 rfl 0 rfl ?_
  refine gX_T_124 (pc := 2) (v := (S 0)) C rfl d_T_beginDownload_2 ?_
  refine tl_icmp_ne (pc := 5) (tgt := 11) C d_T_beginDownload_5 rfl (fun hc => ?_) (fun hc => ?_)
  · have hw := hw.1 hc
    refine tl_aload_n (pc := 11) C d_T_beginDownload_11 rfl 0 rfl ?_
    refine gX_T_45 (pc := 12) C d_T_beginDownload_12 ?_
    refine tl_iload_n (pc := 15) C d_T_beginDownload_15 rfl 1 rfl ?_
    refine tl_iload_n (pc := 16) C d_T_beginDownload_16 rfl 2 rfl ?_
    refine kX_Dl_begin (pc := 17) C hw ml_T_284 d_T_beginDownload_17 rfl (fun S17 A17 hw => ?_)
    refine tl_aload_n (pc := 20) C d_T_beginDownload_20 rfl 0 rfl ?_
    refine tl_iconst (pc := 21) (v := -1) C d_T_beginDownload_21 (by decide) ?_
    refine pX_T_137 (pc := 22) C d_T_beginDownload_22 ?_
    refine tl_aload_n (pc := 25) C d_T_beginDownload_25 rfl 0 rfl ?_
    refine tl_bipush (pc := 26) (v := 8) C d_T_beginDownload_26 (by decide) ?_
    refine kX_T_doneWith (pc := 28) C hw ml_T_211 d_T_beginDownload_28 rfl (fun r28 S28 A28 hw => ?_)
    exact tl_iret (pc := 31) C d_T_beginDownload_31 hw
  · have hw := hw.2 hc
    refine tl_bipush (pc := 8) (v := 34) C d_T_beginDownload_8 (by decide) ?_
    exact tl_iret (pc := 10) C d_T_beginDownload_10 hw
theorem kX_T_beginDownload {l : Launch} {R : Room} {nc ns : Nat} {Q : tl_Z → State → Prop} {D : va_G} {q : Nat → Nat} {k : Nat → ClassId} {nL : Nat} {z : tl_Z} {cc : ByteArray} {ret : Option FieldType} {pc : Nat} {lv : List (Nat × Value)} {rest : List Value} {S : SS} {A : AA} {own : String} {idx : Nat} {x1 x2 : Int32} {post : Int32 → SS → AA → Prop} (C : tl_Cx cc nL own ret D (tX k) z) (hw : wX_T_beginDownload post S A x1 x2) (hl : Cond.methodLink own idx y_T_beginDownload ∈ wsAll) (hdg : decode cc pc = .ok (.invokevirtual idx, 3)) (hf : tl_fit R (tl_R 2) nc ns 3 rest = true) (kk : ∀ (r : Int32) (S1 : SS) (A1 : AA), post r S1 A1 → tl_At l R nc ns Q D (wX q k) nL z (pc + 3) lv (.int r :: rest) (S1, A1)) : tl_At l R nc ns Q D (wX q k) nL z pc lv (.int x2 :: .int x1 :: .ref (q 0) :: rest) (S, A) :=
  tl_callVi (n := 2) (As := [.int x1, .int x2]) (b := q 0) (q0 := 0) (ci := 6) C (fun sz => cX_T_beginDownload l D q k sz S A x1 x2 hw) in_420 in_1 in_419 ip_23 (by decide +kernel) rfl ⟨rfl, rfl⟩ rfl rfl hl hf hdg kk
set_option maxHeartbeats 4000000 in
set_option maxRecDepth 100000 in
theorem cX_T_changeSession (l : Launch) (D : va_G) (q : Nat → Nat) (k : Nat → ClassId) (sz : Nat) (S : SS) (A : AA) (x1 : Int32) {post : SS → AA → Prop} (hw : wX_T_changeSession post S A x1) : tl_Met l y_T_changeSession b_T_changeSession 2 none (tl_R 1) D (wX q k) (tX k) sz [.ref (q 0), .int x1] (S, A) (tl_Qv D (wX q k) (tX k) post) := by
  refine tl_met (own := R_T) (lv := [(0, .ref (q 0)), (1, .int x1)]) (by decide) rfl rfl (Nat.le_of_ble_eq_true rfl) (fun z C => ?_)
  refine tl_aload_n (pc := 0) C d_T_changeSession_0 rfl 0 rfl ?_
  refine tl_iload_n (pc := 1) C d_T_changeSession_1 rfl 1 rfl ?_
  refine pX_T_98 (pc := 2) C d_T_changeSession_2 ?_
  refine tl_aload_n (pc := 5) C d_T_changeSession_5 rfl 0 rfl ?_
  refine gX_T_38 (pc := 6) C d_T_changeSession_6 ?_
  refine kX_Lk_close (pc := 9) C hw ml_T_165 d_T_changeSession_9 rfl (fun S9 A9 hw => ?_)
  refine tl_aload_n (pc := 12) C d_T_changeSession_12 rfl 0 rfl ?_
  refine gX_T_45 (pc := 13) C d_T_changeSession_13 ?_
  refine kX_Dl_end (pc := 16) C hw ml_T_155 d_T_changeSession_16 rfl (fun S16 A16 hw => ?_)
  exact tl_vret (pc := 19) C d_T_changeSession_19 hw
theorem kX_T_changeSession {l : Launch} {R : Room} {nc ns : Nat} {Q : tl_Z → State → Prop} {D : va_G} {q : Nat → Nat} {k : Nat → ClassId} {nL : Nat} {z : tl_Z} {cc : ByteArray} {ret : Option FieldType} {pc : Nat} {lv : List (Nat × Value)} {rest : List Value} {S : SS} {A : AA} {own : String} {idx : Nat} {x1 : Int32} {post : SS → AA → Prop} (C : tl_Cx cc nL own ret D (tX k) z) (hw : wX_T_changeSession post S A x1) (hl : Cond.methodLink own idx y_T_changeSession ∈ wsAll) (hdg : decode cc pc = .ok (.invokevirtual idx, 3)) (hf : tl_fit R (tl_R 1) nc ns 2 rest = true) (kk : ∀ (S1 : SS) (A1 : AA), post S1 A1 → tl_At l R nc ns Q D (wX q k) nL z (pc + 3) lv (rest) (S1, A1)) : tl_At l R nc ns Q D (wX q k) nL z pc lv (.int x1 :: .ref (q 0) :: rest) (S, A) :=
  tl_callVv (n := 1) (As := [.int x1]) (b := q 0) (q0 := 0) (ci := 6) C (fun sz => cX_T_changeSession l D q k sz S A x1 hw) in_336 in_1 in_335 ip_12 (by decide +kernel) rfl ⟨rfl, rfl⟩ rfl rfl hl hf hdg kk
set_option maxHeartbeats 4000000 in
set_option maxRecDepth 100000 in
theorem cX_Dl_toCome (l : Launch) (D : va_G) (q : Nat → Nat) (k : Nat → ClassId) (sz : Nat) (S : SS) (A : AA) {post : Int32 → SS → AA → Prop} (hw : wX_Dl_toCome post S A) : tl_Met l y_Dl_toCome b_Dl_toCome 1 (some .int) (tl_R 0) D (wX q k) (tX k) sz [.ref (q 11)] (S, A) (tl_Qi D (wX q k) (tX k) post) := by
  refine tl_met (own := R_Dl) (lv := [(0, .ref (q 11))]) (by decide) rfl rfl (Nat.le_of_ble_eq_true rfl) (fun z C => ?_)
  refine tl_aload_n (pc := 0) C d_Dl_toCome_0 rfl 0 rfl ?_
  refine gX_Dl_9 (pc := 1) (v := (S 23)) C rfl d_Dl_toCome_1 ?_
  refine tl_if_eq (pc := 4) (tgt := 19) C d_Dl_toCome_4 rfl (fun hc => ?_) (fun hc => ?_)
  · have hw := hw.1 hc
    refine tl_iconst (pc := 19) (v := -1) C d_Dl_toCome_19 (by decide) ?_
    exact tl_iret (pc := 20) C d_Dl_toCome_20 hw
  · have hw := hw.2 hc
    refine tl_aload_n (pc := 7) C d_Dl_toCome_7 rfl 0 rfl ?_
    refine gX_Dl_19 (pc := 8) (v := (S 25)) C rfl d_Dl_toCome_8 ?_
    refine tl_aload_n (pc := 11) C d_Dl_toCome_11 rfl 0 rfl ?_
    refine gX_Dl_22 (pc := 12) (v := (S 26)) C rfl d_Dl_toCome_12 ?_
    refine tl_isub (pc := 15) C d_Dl_toCome_15 ?_
    refine tl_goto (pc := 16) (tgt := 20) C d_Dl_toCome_16 rfl ?_
    exact tl_iret (pc := 20) C d_Dl_toCome_20 hw
theorem kX_Dl_toCome {l : Launch} {R : Room} {nc ns : Nat} {Q : tl_Z → State → Prop} {D : va_G} {q : Nat → Nat} {k : Nat → ClassId} {nL : Nat} {z : tl_Z} {cc : ByteArray} {ret : Option FieldType} {pc : Nat} {lv : List (Nat × Value)} {rest : List Value} {S : SS} {A : AA} {own : String} {idx : Nat} {post : Int32 → SS → AA → Prop} (C : tl_Cx cc nL own ret D (tX k) z) (hw : wX_Dl_toCome post S A) (hl : Cond.methodLink own idx y_Dl_toCome ∈ wsAll) (hdg : decode cc pc = .ok (.invokevirtual idx, 3)) (hf : tl_fit R (tl_R 0) nc ns 1 rest = true) (kk : ∀ (r : Int32) (S1 : SS) (A1 : AA), post r S1 A1 → tl_At l R nc ns Q D (wX q k) nL z (pc + 3) lv (.int r :: rest) (S1, A1)) : tl_At l R nc ns Q D (wX q k) nL z pc lv (.ref (q 11) :: rest) (S, A) :=
  tl_callVi (n := 0) (As := []) (b := q 11) (q0 := 11) (ci := 0) C (fun sz => cX_Dl_toCome l D q k sz S A hw) in_432 in_7 in_430 in_431 (by decide +kernel) rfl ⟨rfl, rfl⟩ rfl rfl hl hf hdg kk
set_option maxHeartbeats 4000000 in
set_option maxRecDepth 100000 in
theorem cX_T_endDownload (l : Launch) (D : va_G) (q : Nat → Nat) (k : Nat → ClassId) (sz : Nat) (S : SS) (A : AA) {post : Int32 → SS → AA → Prop} (hw : wX_T_endDownload post S A) : tl_Met l y_T_endDownload b_T_endDownload 1 (some .int) (tl_R 1) D (wX q k) (tX k) sz [.ref (q 0)] (S, A) (tl_Qi D (wX q k) (tX k) post) := by
  refine tl_met (own := R_T) (lv := [(0, .ref (q 0))]) (by decide) rfl rfl (Nat.le_of_ble_eq_true rfl) (fun z C => ?_)
  refine tl_aload_n (pc := 0) C d_T_endDownload_0 rfl 0 rfl ?_
  refine gX_T_45 (pc := 1) C d_T_endDownload_1 ?_
  refine kX_Dl_toCome (pc := 4) C hw ml_T_130 d_T_endDownload_4 rfl (fun r4 S4 A4 hw => ?_)
  refine tl_if_eq (pc := 7) (tgt := 13) C d_T_endDownload_7 rfl (fun hc => ?_) (fun hc => ?_)
  · have hw := hw.1 hc
    refine tl_aload_n (pc := 13) C d_T_endDownload_13 rfl 0 rfl ?_
    refine gX_T_45 (pc := 14) C d_T_endDownload_14 ?_
    refine kX_Dl_end (pc := 17) C hw ml_T_155 d_T_endDownload_17 rfl (fun S17 A17 hw => ?_)
    refine tl_iconst (pc := 20) (v := 0) C d_T_endDownload_20 (by decide) ?_
    exact tl_iret (pc := 21) C d_T_endDownload_21 hw
  · have hw := hw.2 hc
    refine tl_bipush (pc := 10) (v := 36) C d_T_endDownload_10 (by decide) ?_
    exact tl_iret (pc := 12) C d_T_endDownload_12 hw
theorem kX_T_endDownload {l : Launch} {R : Room} {nc ns : Nat} {Q : tl_Z → State → Prop} {D : va_G} {q : Nat → Nat} {k : Nat → ClassId} {nL : Nat} {z : tl_Z} {cc : ByteArray} {ret : Option FieldType} {pc : Nat} {lv : List (Nat × Value)} {rest : List Value} {S : SS} {A : AA} {own : String} {idx : Nat} {post : Int32 → SS → AA → Prop} (C : tl_Cx cc nL own ret D (tX k) z) (hw : wX_T_endDownload post S A) (hl : Cond.methodLink own idx y_T_endDownload ∈ wsAll) (hdg : decode cc pc = .ok (.invokevirtual idx, 3)) (hf : tl_fit R (tl_R 1) nc ns 1 rest = true) (kk : ∀ (r : Int32) (S1 : SS) (A1 : AA), post r S1 A1 → tl_At l R nc ns Q D (wX q k) nL z (pc + 3) lv (.int r :: rest) (S1, A1)) : tl_At l R nc ns Q D (wX q k) nL z pc lv (.ref (q 0) :: rest) (S, A) :=
  tl_callVi (n := 0) (As := []) (b := q 0) (q0 := 0) (ci := 6) C (fun sz => cX_T_endDownload l D q k sz S A hw) in_452 in_1 in_451 ip_25 (by decide +kernel) rfl ⟨rfl, rfl⟩ rfl rfl hl hf hdg kk
set_option maxHeartbeats 4000000 in
set_option maxRecDepth 100000 in
theorem cX_Lk_nextSeed (l : Launch) (D : va_G) (q : Nat → Nat) (k : Nat → ClassId) (sz : Nat) (S : SS) (A : AA) {post : Int32 → SS → AA → Prop} (hw : wX_Lk_nextSeed post S A) : tl_Met l y_Lk_nextSeed b_Lk_nextSeed 1 (some .int) (tl_R 0) D (wX q k) (tX k) sz [.ref (q 10)] (S, A) (tl_Qi D (wX q k) (tX k) post) := by
  refine tl_met (own := R_Lk) (lv := [(0, .ref (q 10))]) (by decide) rfl rfl (Nat.le_of_ble_eq_true rfl) (fun z C => ?_)
  refine tl_aload_n (pc := 0) C d_Lk_nextSeed_0 rfl 0 rfl ?_
  refine tl_bipush (pc := 1) (v := 17) C d_Lk_nextSeed_1 (by decide) ?_
  refine tl_bipush (pc := 3) (v := 73) C d_Lk_nextSeed_3 (by decide) ?_
  refine tl_aload_n (pc := 5) C d_Lk_nextSeed_5 rfl 0 rfl ?_
  refine gX_Lk_26 (pc := 6) (v := (S 20)) C rfl d_Lk_nextSeed_6 ?_
  refine tl_imul (pc := 9) C d_Lk_nextSeed_9 ?_
  refine tl_iadd (pc := 10) C d_Lk_nextSeed_10 ?_
  refine tl_sipush (pc := 11) (v := 255) C d_Lk_nextSeed_11 (by decide) ?_
  refine tl_iand (pc := 14) C d_Lk_nextSeed_14 ?_
  refine pX_Lk_23 (pc := 15) C d_Lk_nextSeed_15 ?_
  refine tl_aload_n (pc := 18) C d_Lk_nextSeed_18 rfl 0 rfl ?_
  refine tl_dup (pc := 19) C d_Lk_nextSeed_19 rfl ?_
  refine gX_Lk_26 (pc := 20) (v := (S 20)) C rfl d_Lk_nextSeed_20 ?_
  refine tl_iconst (pc := 23) (v := 1) C d_Lk_nextSeed_23 (by decide) ?_
  refine tl_iadd (pc := 24) C d_Lk_nextSeed_24 ?_
  refine pX_Lk_26 (pc := 25) C d_Lk_nextSeed_25 ?_
  refine tl_aload_n (pc := 28) C d_Lk_nextSeed_28 rfl 0 rfl ?_
  refine gX_Lk_23 (pc := 29) (v := (((17 : Int32) + ((73 : Int32) * (S 20))) &&& (255 : Int32))) C rfl d_Lk_nextSeed_29 ?_
  exact tl_iret (pc := 32) C d_Lk_nextSeed_32 hw
theorem kX_Lk_nextSeed {l : Launch} {R : Room} {nc ns : Nat} {Q : tl_Z → State → Prop} {D : va_G} {q : Nat → Nat} {k : Nat → ClassId} {nL : Nat} {z : tl_Z} {cc : ByteArray} {ret : Option FieldType} {pc : Nat} {lv : List (Nat × Value)} {rest : List Value} {S : SS} {A : AA} {own : String} {idx : Nat} {post : Int32 → SS → AA → Prop} (C : tl_Cx cc nL own ret D (tX k) z) (hw : wX_Lk_nextSeed post S A) (hl : Cond.methodLink own idx y_Lk_nextSeed ∈ wsAll) (hdg : decode cc pc = .ok (.invokevirtual idx, 3)) (hf : tl_fit R (tl_R 0) nc ns 1 rest = true) (kk : ∀ (r : Int32) (S1 : SS) (A1 : AA), post r S1 A1 → tl_At l R nc ns Q D (wX q k) nL z (pc + 3) lv (.int r :: rest) (S1, A1)) : tl_At l R nc ns Q D (wX q k) nL z pc lv (.ref (q 10) :: rest) (S, A) :=
  tl_callVi (n := 0) (As := []) (b := q 10) (q0 := 10) (ci := 1) C (fun sz => cX_Lk_nextSeed l D q k sz S A hw) in_354 in_6 in_352 in_353 (by decide +kernel) rfl ⟨rfl, rfl⟩ rfl rfl hl hf hdg kk
set_option maxHeartbeats 4000000 in
set_option maxRecDepth 100000 in
theorem cX_Lk_takeOpenSeed (l : Launch) (D : va_G) (q : Nat → Nat) (k : Nat → ClassId) (sz : Nat) (S : SS) (A : AA) {post : Int32 → SS → AA → Prop} (hw : wX_Lk_takeOpenSeed post S A) : tl_Met l y_Lk_takeOpenSeed b_Lk_takeOpenSeed 2 (some .int) (tl_R 0) D (wX q k) (tX k) sz [.ref (q 10)] (S, A) (tl_Qi D (wX q k) (tX k) post) := by
  refine tl_met (own := R_Lk) (lv := [(0, .ref (q 10))]) (by decide) rfl rfl (Nat.le_of_ble_eq_true rfl) (fun z C => ?_)
  refine tl_aload_n (pc := 0) C d_Lk_takeOpenSeed_0 rfl 0 rfl ?_
  refine gX_Lk_23 (pc := 1) (v := (S 19)) C rfl d_Lk_takeOpenSeed_1 ?_
  refine tl_istore_n (pc := 4) (lv' := [(1, .int (S 19)), (0, .ref (q 10))]) C d_Lk_takeOpenSeed_4 rfl (by decide) rfl ?_
  refine tl_aload_n (pc := 5) C d_Lk_takeOpenSeed_5 rfl 1 rfl ?_
  refine tl_iconst (pc := 6) (v := 0) C d_Lk_takeOpenSeed_6 (by decide) ?_
  refine pX_Lk_23 (pc := 7) C d_Lk_takeOpenSeed_7 ?_
  refine tl_iload_n (pc := 10) C d_Lk_takeOpenSeed_10 rfl 0 rfl ?_
  exact tl_iret (pc := 11) C d_Lk_takeOpenSeed_11 hw
theorem kX_Lk_takeOpenSeed {l : Launch} {R : Room} {nc ns : Nat} {Q : tl_Z → State → Prop} {D : va_G} {q : Nat → Nat} {k : Nat → ClassId} {nL : Nat} {z : tl_Z} {cc : ByteArray} {ret : Option FieldType} {pc : Nat} {lv : List (Nat × Value)} {rest : List Value} {S : SS} {A : AA} {own : String} {idx : Nat} {post : Int32 → SS → AA → Prop} (C : tl_Cx cc nL own ret D (tX k) z) (hw : wX_Lk_takeOpenSeed post S A) (hl : Cond.methodLink own idx y_Lk_takeOpenSeed ∈ wsAll) (hdg : decode cc pc = .ok (.invokevirtual idx, 3)) (hf : tl_fit R (tl_R 0) nc ns 2 rest = true) (kk : ∀ (r : Int32) (S1 : SS) (A1 : AA), post r S1 A1 → tl_At l R nc ns Q D (wX q k) nL z (pc + 3) lv (.int r :: rest) (S1, A1)) : tl_At l R nc ns Q D (wX q k) nL z pc lv (.ref (q 10) :: rest) (S, A) :=
  tl_callVi (n := 0) (As := []) (b := q 10) (q0 := 10) (ci := 1) C (fun sz => cX_Lk_takeOpenSeed l D q k sz S A hw) in_350 in_6 in_348 in_349 (by decide +kernel) rfl ⟨rfl, rfl⟩ rfl rfl hl hf hdg kk
set_option maxHeartbeats 4000000 in
set_option maxRecDepth 100000 in
theorem cX_T_giveSeed (l : Launch) (D : va_G) (q : Nat → Nat) (k : Nat → ClassId) (sz : Nat) (S : SS) (A : AA) {post : Int32 → SS → AA → Prop} (hw : wX_T_giveSeed post S A) : tl_Met l y_T_giveSeed b_T_giveSeed 1 (some .int) (tl_R 2) D (wX q k) (tX k) sz [.ref (q 0)] (S, A) (tl_Qi D (wX q k) (tX k) post) := by
  refine tl_met (own := R_T) (lv := [(0, .ref (q 0))]) (by decide) rfl rfl (Nat.le_of_ble_eq_true rfl) (fun z C => ?_)
  have B51 : ∀ (S : SS) (A : AA) (y0 : Int32), wX_T_giveSeed_51 post S A y0 → tl_At l (tl_R 2) 0 0 (tl_M 0 0 (tl_Qi D (wX q k) (tX k) post)) D (wX q k) 1 z 51 [] [.int y0, .ref (q 0)] (S, A) := by
    intro S A y0 hw
    refine kX_T_doneWith (pc := 51) C hw ml_T_211 d_T_giveSeed_51 rfl (fun r51 S51 A51 hw => ?_)
    exact tl_iret (pc := 54) C d_T_giveSeed_54 hw
  refine tl_aload_n (pc := 0) C d_T_giveSeed_0 rfl 0 rfl ?_
  refine gX_T_38 (pc := 1) C d_T_giveSeed_1 ?_
  refine kX_Lk_takeOpenSeed (pc := 4) C hw ml_T_235 d_T_giveSeed_4 rfl (fun r4 S4 A4 hw => ?_)
  refine tl_pop (pc := 7) C d_T_giveSeed_7 rfl ?_
  refine tl_aload_n (pc := 8) C d_T_giveSeed_8 rfl 0 rfl ?_
  refine gX_T_38 (pc := 9) C d_T_giveSeed_9 ?_
  refine gX_T_143 (pc := 12) (v := (S4 22)) C rfl d_T_giveSeed_12 ?_
  refine tl_if_eq (pc := 15) (tgt := 21) C d_T_giveSeed_15 rfl (fun hc => ?_) (fun hc => ?_)
  · have hw := hw.1 hc
    refine tl_aload_n (pc := 21) C d_T_giveSeed_21 rfl 0 rfl ?_
    refine gX_T_26 (pc := 22) C d_T_giveSeed_22 ?_
    refine tl_iconst (pc := 25) (v := 1) C d_T_giveSeed_25 (by decide) ?_
    refine kX_Sd_add (pc := 26) C hw ml_T_186 d_T_giveSeed_26 rfl (fun S26 A26 hw => ?_)
    refine tl_aload_n (pc := 29) C d_T_giveSeed_29 rfl 0 rfl ?_
    refine tl_aload_n (pc := 30) C d_T_giveSeed_30 rfl 0 rfl ?_
    refine gX_T_38 (pc := 31) C d_T_giveSeed_31 ?_
    refine gX_T_127 (pc := 34) (v := (S26 18)) C rfl d_T_giveSeed_34 ?_
    refine tl_if_eq (pc := 37) (tgt := 44) C d_T_giveSeed_37 rfl (fun hc => ?_) (fun hc => ?_)
    · have hw := hw.1 hc
      refine tl_aload_n (pc := 44) C d_T_giveSeed_44 rfl 0 rfl ?_
      refine gX_T_38 (pc := 45) C d_T_giveSeed_45 ?_
      refine kX_Lk_nextSeed (pc := 48) C hw ml_T_238 d_T_giveSeed_48 rfl (fun r48 S48 A48 hw => ?_)
      exact tl_sub [] rfl (B51 _ _ _ hw)
    · have hw := hw.2 hc
      refine tl_iconst (pc := 40) (v := 0) C d_T_giveSeed_40 (by decide) ?_
      refine tl_goto (pc := 41) (tgt := 51) C d_T_giveSeed_41 rfl ?_
      exact tl_sub [] rfl (B51 _ _ _ hw)
  · have hw := hw.2 hc
    refine tl_bipush (pc := 18) (v := 55) C d_T_giveSeed_18 (by decide) ?_
    exact tl_iret (pc := 20) C d_T_giveSeed_20 hw
theorem kX_T_giveSeed {l : Launch} {R : Room} {nc ns : Nat} {Q : tl_Z → State → Prop} {D : va_G} {q : Nat → Nat} {k : Nat → ClassId} {nL : Nat} {z : tl_Z} {cc : ByteArray} {ret : Option FieldType} {pc : Nat} {lv : List (Nat × Value)} {rest : List Value} {S : SS} {A : AA} {own : String} {idx : Nat} {post : Int32 → SS → AA → Prop} (C : tl_Cx cc nL own ret D (tX k) z) (hw : wX_T_giveSeed post S A) (hl : Cond.methodLink own idx y_T_giveSeed ∈ wsAll) (hdg : decode cc pc = .ok (.invokevirtual idx, 3)) (hf : tl_fit R (tl_R 2) nc ns 1 rest = true) (kk : ∀ (r : Int32) (S1 : SS) (A1 : AA), post r S1 A1 → tl_At l R nc ns Q D (wX q k) nL z (pc + 3) lv (.int r :: rest) (S1, A1)) : tl_At l R nc ns Q D (wX q k) nL z pc lv (.ref (q 0) :: rest) (S, A) :=
  tl_callVi (n := 0) (As := []) (b := q 0) (q0 := 0) (ci := 6) C (fun sz => cX_T_giveSeed l D q k sz S A hw) in_346 in_1 in_345 ip_14 (by decide +kernel) rfl ⟨rfl, rfl⟩ rfl rfl hl hf hdg kk
set_option maxHeartbeats 4000000 in
set_option maxRecDepth 100000 in
theorem cX_Mm_imageOf (l : Launch) (D : va_G) (q : Nat → Nat) (k : Nat → ClassId) (sz : Nat) (S : SS) (A : AA) (x0 : Int32) {post : Int32 → SS → AA → Prop} (hw : wX_Mm_imageOf post S A x0) : tl_Met l y_Mm_imageOf b_Mm_imageOf 1 (some .int) (tl_R 0) D (wX q k) (tX k) sz [.int x0] (S, A) (tl_Qi D (wX q k) (tX k) post) := by
  refine tl_met (own := R_Mm) (lv := [(0, .int x0)]) (by decide) rfl rfl (Nat.le_of_ble_eq_true rfl) (fun z C => ?_)
  refine tl_iload_n (pc := 0) C d_Mm_imageOf_0 rfl 0 rfl ?_
  refine tl_bipush (pc := 1) (v := 48) C d_Mm_imageOf_1 (by decide) ?_
  refine tl_imul (pc := 3) C d_Mm_imageOf_3 ?_
  exact tl_iret (pc := 4) C d_Mm_imageOf_4 hw
theorem kX_Mm_imageOf {l : Launch} {R : Room} {nc ns : Nat} {Q : tl_Z → State → Prop} {D : va_G} {q : Nat → Nat} {k : Nat → ClassId} {nL : Nat} {z : tl_Z} {cc : ByteArray} {ret : Option FieldType} {pc : Nat} {lv : List (Nat × Value)} {rest : List Value} {S : SS} {A : AA} {own : String} {idx : Nat} {x0 : Int32} {post : Int32 → SS → AA → Prop} (C : tl_Cx cc nL own ret D (tX k) z) (hw : wX_Mm_imageOf post S A x0) (hl : Cond.methodLink own idx y_Mm_imageOf ∈ wsAll) (hdg : decode cc pc = .ok (.invokestatic idx, 3)) (hf : tl_fit R (tl_R 0) nc ns 1 rest = true) (kk : ∀ (r : Int32) (S1 : SS) (A1 : AA), post r S1 A1 → tl_At l R nc ns Q D (wX q k) nL z (pc + 3) lv (.int r :: rest) (S1, A1)) : tl_At l R nc ns Q D (wX q k) nL z pc lv (.int x0 :: rest) (S, A) :=
  tl_callSi (n := 1) (As := [.int x0]) C (fun sz => cX_Mm_imageOf l D q k sz S A x0 hw) in_373 in_2 in_372 (by decide +kernel) rfl ⟨rfl, rfl⟩ hl hf hdg kk
set_option maxHeartbeats 4000000 in
set_option maxRecDepth 100000 in
theorem cX_T_read (l : Launch) (D : va_G) (q : Nat → Nat) (k : Nat → ClassId) (sz : Nat) (S : SS) (A : AA) (x1 : Int32) {post : Int32 → SS → AA → Prop} (hw : wX_T_read post S A x1) : tl_Met l y_T_read b_T_read 4 (some .int) (tl_R 2) D (wX q k) (tX k) sz [.ref (q 0), .int x1] (S, A) (tl_Qi D (wX q k) (tX k) post) := by
  refine tl_met (own := R_T) (lv := [(0, .ref (q 0)), (1, .int x1)]) (by decide) rfl rfl (Nat.le_of_ble_eq_true rfl) (fun z C => ?_)
  have B61 : ∀ (S : SS) (A : AA) (x2 x3 : Int32), wX_T_read_61 post S A x2 x3 → tl_At l (tl_R 2) 0 0 (tl_M 0 0 (tl_Qi D (wX q k) (tX k) post)) D (wX q k) 4 z 61 [(0, .ref (q 0)), (2, .int x2), (3, .int x3)] [] (S, A) := by
    intro S A x2 x3 hw
    have key : ∀ X61 : SS → AA → Int32 → Int32 → Prop, (∀ (S : SS) (A : AA) (x2 x3 : Int32), X61 S A x2 x3 → tl_At l (tl_R 2) 0 0 (tl_M 0 0 (tl_Qi D (wX q k) (tX k) post)) D (wX q k) 4 z 61 [(0, .ref (q 0)), (2, .int x2), (3, .int x3)] [] (S, A)) → ∀ (S : SS) (A : AA) (x2 x3 : Int32), wX_T_read_61B post X61 S A x2 x3 → tl_At l (tl_R 2) 0 0 (tl_M 0 0 (tl_Qi D (wX q k) (tX k) post)) D (wX q k) 4 z 61 [(0, .ref (q 0)), (2, .int x2), (3, .int x3)] [] (S, A) := by
      intro X61 hX61 S A x2 x3 hw
      refine tl_iload_n (pc := 61) C d_T_read_61 rfl 2 rfl ?_
      refine tl_bipush (pc := 62) (v := 8) C d_T_read_62 (by decide) ?_
      refine tl_icmp_ge (pc := 64) (tgt := 90) C d_T_read_64 rfl (fun hc => ?_) (fun hc => ?_)
      · have hw := hw.1 hc
        refine tl_iconst (pc := 90) (v := 0) C d_T_read_90 (by decide) ?_
        exact tl_iret (pc := 91) C d_T_read_91 hw
      · have hw := hw.2 hc
        refine tl_aload_n (pc := 67) C d_T_read_67 rfl 0 rfl ?_
        refine gX_T_26 (pc := 68) C d_T_read_68 ?_
        refine tl_aload_n (pc := 71) C d_T_read_71 rfl 0 rfl ?_
        refine gX_T_10 (pc := 72) C d_T_read_72 ?_
        refine tl_iload_n (pc := 75) C d_T_read_75 rfl 1 rfl ?_
        refine tl_iload_n (pc := 76) C d_T_read_76 rfl 2 rfl ?_
        refine tl_iadd (pc := 77) C d_T_read_77 ?_
        refine kX_Mm_byteAt (pc := 78) C hw ml_T_251 d_T_read_78 rfl (fun r78 S78 A78 hw => ?_)
        refine kX_Sd_add (pc := 81) C hw ml_T_186 d_T_read_81 rfl (fun S81 A81 hw => ?_)
        refine tl_iinc (pc := 84) (lv' := [(3, .int (x3 + (1 : Int32))), (0, .ref (q 0)), (2, .int x2)]) C d_T_read_84 (by decide) 2 rfl rfl (by decide) rfl ?_
        refine tl_goto (pc := 87) (tgt := 61) C d_T_read_87 rfl ?_
        exact tl_sub [1, 2, 0] rfl (hX61 _ _ _ _ hw)
    exact hw _ (fun S A x2 x3 hb => key _ (fun _ _ _ _ h => h) S A x2 x3 hb)
  have B16 : ∀ (S : SS) (A : AA) (x1 : Int32), wX_T_read_16 post S A x1 → tl_At l (tl_R 2) 0 0 (tl_M 0 0 (tl_Qi D (wX q k) (tX k) post)) D (wX q k) 4 z 16 [(0, .ref (q 0)), (1, .int x1)] [] (S, A) := by
    intro S A x1 hw
    refine tl_aload_n (pc := 16) C d_T_read_16 rfl 0 rfl ?_
    refine gX_T_26 (pc := 17) C d_T_read_17 ?_
    refine tl_iload_n (pc := 20) C d_T_read_20 rfl 1 rfl ?_
    refine kX_Sd_add (pc := 21) C hw ml_T_186 d_T_read_21 rfl (fun S21 A21 hw => ?_)
    refine tl_iload_n (pc := 24) C d_T_read_24 rfl 1 rfl ?_
    refine tl_if_ne (pc := 25) (tgt := 37) C d_T_read_25 rfl (fun hc => ?_) (fun hc => ?_)
    · have hw := hw.1 hc
      refine tl_iload_n (pc := 37) C d_T_read_37 rfl 1 rfl ?_
      refine tl_iconst (pc := 38) (v := 1) C d_T_read_38 (by decide) ?_
      refine tl_icmp_ne (pc := 39) (tgt := 51) C d_T_read_39 rfl (fun hc => ?_) (fun hc => ?_)
      · have hw := hw.1 hc
        refine tl_aload_n (pc := 51) C d_T_read_51 rfl 0 rfl ?_
        refine gX_T_124 (pc := 52) (v := (S21 0)) C rfl d_T_read_52 ?_
        refine kX_Mm_imageOf (pc := 55) C hw ml_T_248 d_T_read_55 rfl (fun r55 S55 A55 hw => ?_)
        refine tl_istore_n (pc := 58) (lv' := [(2, .int r55), (0, .ref (q 0)), (1, .int x1)]) C d_T_read_58 rfl (by decide) rfl ?_
        refine tl_iconst (pc := 59) (v := 0) C d_T_read_59 (by decide) ?_
        refine tl_istore_n (pc := 60) (lv' := [(3, .int (0 : Int32)), (2, .int r55), (0, .ref (q 0)), (1, .int x1)]) C d_T_read_60 rfl (by decide) rfl ?_
        exact tl_sub [2, 1, 0] rfl (B61 _ _ _ _ hw)
      · have hw := hw.2 hc
        refine tl_aload_n (pc := 42) C d_T_read_42 rfl 0 rfl ?_
        refine tl_aload_n (pc := 43) C d_T_read_43 rfl 0 rfl ?_
        refine gX_T_149 (pc := 44) (v := (S21 3)) C rfl d_T_read_44 ?_
        refine kX_T_doneWith (pc := 47) C hw ml_T_211 d_T_read_47 rfl (fun r47 S47 A47 hw => ?_)
        exact tl_iret (pc := 50) C d_T_read_50 hw
    · have hw := hw.2 hc
      refine tl_aload_n (pc := 28) C d_T_read_28 rfl 0 rfl ?_
      refine tl_aload_n (pc := 29) C d_T_read_29 rfl 0 rfl ?_
      refine gX_T_124 (pc := 30) (v := (S21 0)) C rfl d_T_read_30 ?_
      refine kX_T_doneWith (pc := 33) C hw ml_T_211 d_T_read_33 rfl (fun r33 S33 A33 hw => ?_)
      exact tl_iret (pc := 36) C d_T_read_36 hw
  refine tl_iload_n (pc := 0) C d_T_read_0 rfl 1 rfl ?_
  refine tl_iconst (pc := 1) (v := 1) C d_T_read_1 (by decide) ?_
  refine tl_icmp_eq (pc := 2) (tgt := 16) C d_T_read_2 rfl (fun hc => ?_) (fun hc => ?_)
  · have hw := hw.1 hc
    exact tl_sub [0, 1] rfl (B16 _ _ _ hw)
  · have hw := hw.2 hc
    refine tl_aload_n (pc := 5) C d_T_read_5 rfl 0 rfl ?_
    refine gX_T_124 (pc := 6) (v := (S 0)) C rfl d_T_read_6 ?_
    refine tl_iconst (pc := 9) (v := -1) C d_T_read_9 (by decide) ?_
    refine tl_icmp_ne (pc := 10) (tgt := 16) C d_T_read_10 rfl (fun hc => ?_) (fun hc => ?_)
    · have hw := hw.1 hc
      exact tl_sub [0, 1] rfl (B16 _ _ _ hw)
    · have hw := hw.2 hc
      refine tl_bipush (pc := 13) (v := 34) C d_T_read_13 (by decide) ?_
      exact tl_iret (pc := 15) C d_T_read_15 hw
theorem kX_T_read {l : Launch} {R : Room} {nc ns : Nat} {Q : tl_Z → State → Prop} {D : va_G} {q : Nat → Nat} {k : Nat → ClassId} {nL : Nat} {z : tl_Z} {cc : ByteArray} {ret : Option FieldType} {pc : Nat} {lv : List (Nat × Value)} {rest : List Value} {S : SS} {A : AA} {own : String} {idx : Nat} {x1 : Int32} {post : Int32 → SS → AA → Prop} (C : tl_Cx cc nL own ret D (tX k) z) (hw : wX_T_read post S A x1) (hl : Cond.methodLink own idx y_T_read ∈ wsAll) (hdg : decode cc pc = .ok (.invokevirtual idx, 3)) (hf : tl_fit R (tl_R 2) nc ns 4 rest = true) (kk : ∀ (r : Int32) (S1 : SS) (A1 : AA), post r S1 A1 → tl_At l R nc ns Q D (wX q k) nL z (pc + 3) lv (.int r :: rest) (S1, A1)) : tl_At l R nc ns Q D (wX q k) nL z pc lv (.int x1 :: .ref (q 0) :: rest) (S, A) :=
  tl_callVi (n := 1) (As := [.int x1]) (b := q 0) (q0 := 0) (ci := 6) C (fun sz => cX_T_read l D q k sz S A x1 hw) in_370 in_1 in_369 ip_16 (by decide +kernel) rfl ⟨rfl, rfl⟩ rfl rfl hl hf hdg kk
set_option maxHeartbeats 4000000 in
set_option maxRecDepth 100000 in
theorem cX_T_checkSlot (l : Launch) (D : va_G) (q : Nat → Nat) (k : Nat → ClassId) (sz : Nat) (S : SS) (A : AA) (x1 : Int32) {post : Int32 → SS → AA → Prop} (hw : wX_T_checkSlot post S A x1) : tl_Met l y_T_checkSlot b_T_checkSlot 3 (some .int) (tl_R 2) D (wX q k) (tX k) sz [.ref (q 0), .int x1] (S, A) (tl_Qi D (wX q k) (tX k) post) := by
  refine tl_met (own := R_T) (lv := [(0, .ref (q 0)), (1, .int x1)]) (by decide) rfl rfl (Nat.le_of_ble_eq_true rfl) (fun z C => ?_)
  have B73 : ∀ (S : SS) (A : AA) (y0 : Int32), wX_T_checkSlot_73 post S A y0 → tl_At l (tl_R 2) 0 0 (tl_M 0 0 (tl_Qi D (wX q k) (tX k) post)) D (wX q k) 3 z 73 [] [.int y0, .ref (q 0)] (S, A) := by
    intro S A y0 hw
    refine kX_T_doneWith (pc := 73) C hw ml_T_211 d_T_checkSlot_73 rfl (fun r73 S73 A73 hw => ?_)
    exact tl_iret (pc := 76) C d_T_checkSlot_76 hw
  have B63 : ∀ (S : SS) (A : AA) (x2 : Int32), wX_T_checkSlot_63 post S A x2 → tl_At l (tl_R 2) 0 0 (tl_M 0 0 (tl_Qi D (wX q k) (tX k) post)) D (wX q k) 3 z 63 [(0, .ref (q 0)), (2, .int x2)] [] (S, A) := by
    intro S A x2 hw
    refine tl_aload_n (pc := 63) C d_T_checkSlot_63 rfl 0 rfl ?_
    refine tl_iload_n (pc := 64) C d_T_checkSlot_64 rfl 1 rfl ?_
    refine tl_if_eq (pc := 65) (tgt := 72) C d_T_checkSlot_65 rfl (fun hc => ?_) (fun hc => ?_)
    · have hw := hw.1 hc
      refine tl_iconst (pc := 72) (v := 0) C d_T_checkSlot_72 (by decide) ?_
      exact tl_sub [] rfl (B73 _ _ _ hw)
    · have hw := hw.2 hc
      refine tl_iconst (pc := 68) (v := 1) C d_T_checkSlot_68 (by decide) ?_
      refine tl_goto (pc := 69) (tgt := 73) C d_T_checkSlot_69 rfl ?_
      exact tl_sub [] rfl (B73 _ _ _ hw)
  have B37 : ∀ (S : SS) (A : AA) (x1 y0 : Int32), wX_T_checkSlot_37 post S A x1 y0 → tl_At l (tl_R 2) 0 0 (tl_M 0 0 (tl_Qi D (wX q k) (tX k) post)) D (wX q k) 3 z 37 [(0, .ref (q 0)), (1, .int x1)] [.int y0] (S, A) := by
    intro S A x1 y0 hw
    refine tl_istore_n (pc := 37) (lv' := [(2, .int y0), (0, .ref (q 0)), (1, .int x1)]) C d_T_checkSlot_37 rfl (by decide) rfl ?_
    refine tl_iload_n (pc := 38) C d_T_checkSlot_38 rfl 0 rfl ?_
    refine tl_if_eq (pc := 39) (tgt := 50) C d_T_checkSlot_39 rfl (fun hc => ?_) (fun hc => ?_)
    · have hw := hw.1 hc
      refine tl_aload_n (pc := 50) C d_T_checkSlot_50 rfl 1 rfl ?_
      refine gX_T_137 (pc := 51) (v := (S 2)) C rfl d_T_checkSlot_51 ?_
      refine tl_iload_n (pc := 54) C d_T_checkSlot_54 rfl 2 rfl ?_
      refine tl_icmp_ne (pc := 55) (tgt := 63) C d_T_checkSlot_55 rfl (fun hc => ?_) (fun hc => ?_)
      · have hw := hw.1 hc
        exact tl_sub [1, 0] rfl (B63 _ _ _ hw)
      · have hw := hw.2 hc
        refine tl_aload_n (pc := 58) C d_T_checkSlot_58 rfl 1 rfl ?_
        refine tl_iconst (pc := 59) (v := -1) C d_T_checkSlot_59 (by decide) ?_
        refine pX_T_137 (pc := 60) C d_T_checkSlot_60 ?_
        exact tl_sub [1, 0] rfl (B63 _ _ _ hw)
    · have hw := hw.2 hc
      refine tl_aload_n (pc := 42) C d_T_checkSlot_42 rfl 1 rfl ?_
      refine tl_iload_n (pc := 43) C d_T_checkSlot_43 rfl 2 rfl ?_
      refine pX_T_137 (pc := 44) C d_T_checkSlot_44 ?_
      refine tl_goto (pc := 47) (tgt := 63) C d_T_checkSlot_47 rfl ?_
      exact tl_sub [1, 0] rfl (B63 _ _ _ hw)
  refine tl_aload_n (pc := 0) C d_T_checkSlot_0 rfl 0 rfl ?_
  refine gX_T_10 (pc := 1) C d_T_checkSlot_1 ?_
  refine tl_iload_n (pc := 4) C d_T_checkSlot_4 rfl 1 rfl ?_
  refine kX_Mm_sumOf (pc := 5) C hw ml_T_266 d_T_checkSlot_5 rfl (fun r5 S5 A5 hw => ?_)
  refine tl_sipush (pc := 8) (v := 256) C d_T_checkSlot_8 (by decide) ?_
  refine tl_aload_n (pc := 11) C d_T_checkSlot_11 rfl 0 rfl ?_
  refine gX_T_19 (pc := 12) C d_T_checkSlot_12 ?_
  refine tl_iconst (pc := 15) (v := 4) C d_T_checkSlot_15 (by decide) ?_
  refine kX_Rc_at (pc := 16) C hw ml_T_174 d_T_checkSlot_16 rfl (fun r16 S16 A16 hw => ?_)
  refine tl_imul (pc := 19) C d_T_checkSlot_19 ?_
  refine tl_aload_n (pc := 20) C d_T_checkSlot_20 rfl 0 rfl ?_
  refine gX_T_19 (pc := 21) C d_T_checkSlot_21 ?_
  refine tl_iconst (pc := 24) (v := 5) C d_T_checkSlot_24 (by decide) ?_
  refine kX_Rc_at (pc := 25) C hw ml_T_174 d_T_checkSlot_25 rfl (fun r25 S25 A25 hw => ?_)
  refine tl_iadd (pc := 28) C d_T_checkSlot_28 ?_
  refine tl_icmp_ne (pc := 29) (tgt := 36) C d_T_checkSlot_29 rfl (fun hc => ?_) (fun hc => ?_)
  · have hw := hw.1 hc
    refine tl_iconst (pc := 36) (v := 0) C d_T_checkSlot_36 (by decide) ?_
    exact tl_sub [0, 1] rfl (B37 _ _ _ _ hw)
  · have hw := hw.2 hc
    refine tl_iconst (pc := 32) (v := 1) C d_T_checkSlot_32 (by decide) ?_
    refine tl_goto (pc := 33) (tgt := 37) C d_T_checkSlot_33 rfl ?_
    exact tl_sub [0, 1] rfl (B37 _ _ _ _ hw)
theorem kX_T_checkSlot {l : Launch} {R : Room} {nc ns : Nat} {Q : tl_Z → State → Prop} {D : va_G} {q : Nat → Nat} {k : Nat → ClassId} {nL : Nat} {z : tl_Z} {cc : ByteArray} {ret : Option FieldType} {pc : Nat} {lv : List (Nat × Value)} {rest : List Value} {S : SS} {A : AA} {own : String} {idx : Nat} {x1 : Int32} {post : Int32 → SS → AA → Prop} (C : tl_Cx cc nL own ret D (tX k) z) (hw : wX_T_checkSlot post S A x1) (hl : Cond.methodLink own idx y_T_checkSlot ∈ wsAll) (hdg : decode cc pc = .ok (.invokevirtual idx, 3)) (hf : tl_fit R (tl_R 2) nc ns 3 rest = true) (kk : ∀ (r : Int32) (S1 : SS) (A1 : AA), post r S1 A1 → tl_At l R nc ns Q D (wX q k) nL z (pc + 3) lv (.int r :: rest) (S1, A1)) : tl_At l R nc ns Q D (wX q k) nL z pc lv (.int x1 :: .ref (q 0) :: rest) (S, A) :=
  tl_callVi (n := 1) (As := [.int x1]) (b := q 0) (q0 := 0) (ci := 6) C (fun sz => cX_T_checkSlot l D q k sz S A x1 hw) in_402 in_1 in_401 ip_21 (by decide +kernel) rfl ⟨rfl, rfl⟩ rfl rfl hl hf hdg kk
set_option maxHeartbeats 4000000 in
set_option maxRecDepth 100000 in
theorem cX_Mm_change (l : Launch) (D : va_G) (q : Nat → Nat) (k : Nat → ClassId) (sz : Nat) (S : SS) (A : AA) (x1 x2 x3 : Int32) {post : SS → AA → Prop} (hw : wX_Mm_change post S A x1 x2 x3) : tl_Met l y_Mm_change b_Mm_change 5 none (tl_R 0) D (wX q k) (tX k) sz [.ref (q 1), .int x1, .int x2, .int x3] (S, A) (tl_Qv D (wX q k) (tX k) post) := by
  refine tl_met (own := R_Mm) (lv := [(0, .ref (q 1)), (1, .int x1), (2, .int x2), (3, .int x3)]) (by decide) rfl rfl (Nat.le_of_ble_eq_true rfl) (fun z C => ?_)
  have B24 : ∀ (S : SS) (A : AA) (x1 x3 y0 : Int32), wX_Mm_change_24 post S A x1 x3 y0 → tl_At l (tl_R 0) 0 0 (tl_M 0 0 (tl_Qv D (wX q k) (tX k) post)) D (wX q k) 5 z 24 [(0, .ref (q 1)), (1, .int x1), (3, .int x3)] [.int y0] (S, A) := by
    intro S A x1 x3 y0 hw
    refine tl_istore (pc := 24) (lv' := [(4, .int y0), (0, .ref (q 1)), (1, .int x1), (3, .int x3)]) C d_Mm_change_24 (by decide) rfl ?_
    refine tl_aload_n (pc := 26) C d_Mm_change_26 rfl 1 rfl ?_
    refine gX_Mm_11 (pc := 27) C d_Mm_change_27 ?_
    refine tl_iload_n (pc := 30) C d_Mm_change_30 rfl 2 rfl ?_
    refine tl_dup2 (pc := 31) C d_Mm_change_31 rfl rfl ?_
    obtain ⟨hi, hw⟩ := hw
    refine rX_ald0 (pc := 32) (f := (A 0)) C rfl hi d_Mm_change_32 ?_
    refine tl_aload_n (pc := 33) C d_Mm_change_33 rfl 1 rfl ?_
    refine gX_Mm_11 (pc := 34) C d_Mm_change_34 ?_
    refine tl_iload_n (pc := 37) C d_Mm_change_37 rfl 2 rfl ?_
    obtain ⟨hi, hw⟩ := hw
    refine rX_ald0 (pc := 38) (f := (A 0)) C rfl hi d_Mm_change_38 ?_
    refine tl_iload_n (pc := 39) C d_Mm_change_39 rfl 3 rfl ?_
    refine tl_ixor (pc := 40) C d_Mm_change_40 ?_
    refine tl_iload (pc := 41) C d_Mm_change_41 0 rfl ?_
    refine tl_iand (pc := 43) C d_Mm_change_43 ?_
    refine tl_ixor (pc := 44) C d_Mm_change_44 ?_
    obtain ⟨hi, hw⟩ := hw
    refine rX_ast0 (pc := 45) (f := (A 0)) C rfl hi d_Mm_change_45 ?_
    exact tl_vret (pc := 46) C d_Mm_change_46 hw
  refine tl_aload_n (pc := 0) C d_Mm_change_0 rfl 0 rfl ?_
  refine gX_Mm_22 (pc := 1) (v := (S 5)) C rfl d_Mm_change_1 ?_
  refine tl_if_eq (pc := 4) (tgt := 21) C d_Mm_change_4 rfl (fun hc => ?_) (fun hc => ?_)
  · have hw := hw.1 hc
    refine tl_sipush (pc := 21) (v := 255) C d_Mm_change_21 (by decide) ?_
    exact tl_sub [0, 1, 3] rfl (B24 _ _ _ _ _ hw)
  · have hw := hw.2 hc
    refine tl_aload_n (pc := 7) C d_Mm_change_7 rfl 0 rfl ?_
    refine gX_Mm_26 (pc := 8) (v := (S 6)) C rfl d_Mm_change_8 ?_
    refine tl_bipush (pc := 11) (v := 8) C d_Mm_change_11 (by decide) ?_
    refine tl_iload_n (pc := 13) C d_Mm_change_13 rfl 2 rfl ?_
    refine tl_iconst (pc := 14) (v := 3) C d_Mm_change_14 (by decide) ?_
    refine tl_iand (pc := 15) C d_Mm_change_15 ?_
    refine tl_imul (pc := 16) C d_Mm_change_16 ?_
    refine tl_iushr (pc := 17) C d_Mm_change_17 ?_
    refine tl_goto (pc := 18) (tgt := 24) C d_Mm_change_18 rfl ?_
    exact tl_sub [0, 1, 3] rfl (B24 _ _ _ _ _ hw)
theorem kX_Mm_change {l : Launch} {R : Room} {nc ns : Nat} {Q : tl_Z → State → Prop} {D : va_G} {q : Nat → Nat} {k : Nat → ClassId} {nL : Nat} {z : tl_Z} {cc : ByteArray} {ret : Option FieldType} {pc : Nat} {lv : List (Nat × Value)} {rest : List Value} {S : SS} {A : AA} {own : String} {idx : Nat} {x1 x2 x3 : Int32} {post : SS → AA → Prop} (C : tl_Cx cc nL own ret D (tX k) z) (hw : wX_Mm_change post S A x1 x2 x3) (hl : Cond.methodLink own idx y_Mm_change ∈ wsAll) (hdg : decode cc pc = .ok (.invokevirtual idx, 3)) (hf : tl_fit R (tl_R 0) nc ns 5 rest = true) (kk : ∀ (S1 : SS) (A1 : AA), post S1 A1 → tl_At l R nc ns Q D (wX q k) nL z (pc + 3) lv (rest) (S1, A1)) : tl_At l R nc ns Q D (wX q k) nL z pc lv (.int x3 :: .int x2 :: .int x1 :: .ref (q 1) :: rest) (S, A) :=
  tl_callVv (n := 3) (As := [.int x1, .int x2, .int x3]) (b := q 1) (q0 := 1) (ci := 2) C (fun sz => cX_Mm_change l D q k sz S A x1 x2 x3 hw) in_394 in_2 in_393 ip_19 (by decide +kernel) rfl ⟨rfl, rfl⟩ rfl rfl hl hf hdg kk
set_option maxHeartbeats 4000000 in
set_option maxRecDepth 100000 in
theorem cX_Mm_endChange (l : Launch) (D : va_G) (q : Nat → Nat) (k : Nat → ClassId) (sz : Nat) (S : SS) (A : AA) {post : Int32 → SS → AA → Prop} (hw : wX_Mm_endChange post S A) : tl_Met l y_Mm_endChange b_Mm_endChange 2 (some .boolean) (tl_R 0) D (wX q k) (tX k) sz [.ref (q 1)] (S, A) (tl_Qi D (wX q k) (tX k) post) := by
  refine tl_met (own := R_Mm) (lv := [(0, .ref (q 1))]) (by decide) rfl rfl (Nat.le_of_ble_eq_true rfl) (fun z C => ?_)
  have B12 : ∀ (S : SS) (A : AA) (y0 : Int32), wX_Mm_endChange_12 post S A y0 → tl_At l (tl_R 0) 0 0 (tl_M 0 0 (tl_Qi D (wX q k) (tX k) post)) D (wX q k) 2 z 12 [(0, .ref (q 1))] [.int y0] (S, A) := by
    intro S A y0 hw
    refine tl_istore_n (pc := 12) (lv' := [(1, .int y0), (0, .ref (q 1))]) C d_Mm_endChange_12 rfl (by decide) rfl ?_
    refine tl_aload_n (pc := 13) C d_Mm_endChange_13 rfl 1 rfl ?_
    refine tl_iconst (pc := 14) (v := 0) C d_Mm_endChange_14 (by decide) ?_
    refine pX_Mm_22 (pc := 15) C (by decide) d_Mm_endChange_15 ?_
    refine tl_iload_n (pc := 18) C d_Mm_endChange_18 rfl 0 rfl ?_
    obtain ⟨hz, hw⟩ := hw
    exact tl_zret (pc := 19) C hz d_Mm_endChange_19 hw
  refine tl_aload_n (pc := 0) C d_Mm_endChange_0 rfl 0 rfl ?_
  refine gX_Mm_22 (pc := 1) (v := (S 5)) C rfl d_Mm_endChange_1 ?_
  refine tl_if_ne (pc := 4) (tgt := 11) C d_Mm_endChange_4 rfl (fun hc => ?_) (fun hc => ?_)
  · have hw := hw.1 hc
    refine tl_iconst (pc := 11) (v := 0) C d_Mm_endChange_11 (by decide) ?_
    exact tl_sub [0] rfl (B12 _ _ _ hw)
  · have hw := hw.2 hc
    refine tl_iconst (pc := 7) (v := 1) C d_Mm_endChange_7 (by decide) ?_
    refine tl_goto (pc := 8) (tgt := 12) C d_Mm_endChange_8 rfl ?_
    exact tl_sub [0] rfl (B12 _ _ _ hw)
theorem kX_Mm_endChange {l : Launch} {R : Room} {nc ns : Nat} {Q : tl_Z → State → Prop} {D : va_G} {q : Nat → Nat} {k : Nat → ClassId} {nL : Nat} {z : tl_Z} {cc : ByteArray} {ret : Option FieldType} {pc : Nat} {lv : List (Nat × Value)} {rest : List Value} {S : SS} {A : AA} {own : String} {idx : Nat} {post : Int32 → SS → AA → Prop} (C : tl_Cx cc nL own ret D (tX k) z) (hw : wX_Mm_endChange post S A) (hl : Cond.methodLink own idx y_Mm_endChange ∈ wsAll) (hdg : decode cc pc = .ok (.invokevirtual idx, 3)) (hf : tl_fit R (tl_R 0) nc ns 2 rest = true) (kk : ∀ (r : Int32) (S1 : SS) (A1 : AA), post r S1 A1 → tl_At l R nc ns Q D (wX q k) nL z (pc + 3) lv (.int r :: rest) (S1, A1)) : tl_At l R nc ns Q D (wX q k) nL z pc lv (.ref (q 1) :: rest) (S, A) :=
  tl_callVi (n := 0) (As := []) (b := q 1) (q0 := 1) (ci := 2) C (fun sz => cX_Mm_endChange l D q k sz S A hw) in_398 in_2 in_397 ip_20 (by decide +kernel) rfl ⟨rfl, rfl⟩ rfl rfl hl hf hdg kk
set_option maxHeartbeats 4000000 in
set_option maxRecDepth 100000 in
theorem cX_Mm_has (l : Launch) (D : va_G) (q : Nat → Nat) (k : Nat → ClassId) (sz : Nat) (S : SS) (A : AA) (x1 x2 : Int32) {post : Int32 → SS → AA → Prop} (hw : wX_Mm_has post S A x1 x2) : tl_Met l y_Mm_has b_Mm_has 3 (some .boolean) (tl_R 0) D (wX q k) (tX k) sz [.ref (q 1), .int x1, .int x2] (S, A) (tl_Qi D (wX q k) (tX k) post) := by
  refine tl_met (own := R_Mm) (lv := [(0, .ref (q 1)), (1, .int x1), (2, .int x2)]) (by decide) rfl rfl (Nat.le_of_ble_eq_true rfl) (fun z C => ?_)
  refine tl_iload_n (pc := 0) C d_Mm_has_0 rfl 1 rfl ?_
  refine tl_if_lt (pc := 1) (tgt := 16) C d_Mm_has_1 rfl (fun hc => ?_) (fun hc => ?_)
  · have hw := hw.1 hc
    refine tl_iconst (pc := 16) (v := 0) C d_Mm_has_16 (by decide) ?_
    exact tl_zret (pc := 17) C (by decide) d_Mm_has_17 hw
  · have hw := hw.2 hc
    refine tl_iload_n (pc := 4) C d_Mm_has_4 rfl 1 rfl ?_
    refine tl_bipush (pc := 5) (v := 96) C d_Mm_has_5 (by decide) ?_
    refine tl_iload_n (pc := 7) C d_Mm_has_7 rfl 2 rfl ?_
    refine tl_isub (pc := 8) C d_Mm_has_8 ?_
    refine tl_icmp_gt (pc := 9) (tgt := 16) C d_Mm_has_9 rfl (fun hc => ?_) (fun hc => ?_)
    · have hw := hw.1 hc
      refine tl_iconst (pc := 16) (v := 0) C d_Mm_has_16 (by decide) ?_
      exact tl_zret (pc := 17) C (by decide) d_Mm_has_17 hw
    · have hw := hw.2 hc
      refine tl_iconst (pc := 12) (v := 1) C d_Mm_has_12 (by decide) ?_
      refine tl_goto (pc := 13) (tgt := 17) C d_Mm_has_13 rfl ?_
      exact tl_zret (pc := 17) C (by decide) d_Mm_has_17 hw
theorem kX_Mm_has {l : Launch} {R : Room} {nc ns : Nat} {Q : tl_Z → State → Prop} {D : va_G} {q : Nat → Nat} {k : Nat → ClassId} {nL : Nat} {z : tl_Z} {cc : ByteArray} {ret : Option FieldType} {pc : Nat} {lv : List (Nat × Value)} {rest : List Value} {S : SS} {A : AA} {own : String} {idx : Nat} {x1 x2 : Int32} {post : Int32 → SS → AA → Prop} (C : tl_Cx cc nL own ret D (tX k) z) (hw : wX_Mm_has post S A x1 x2) (hl : Cond.methodLink own idx y_Mm_has ∈ wsAll) (hdg : decode cc pc = .ok (.invokevirtual idx, 3)) (hf : tl_fit R (tl_R 0) nc ns 3 rest = true) (kk : ∀ (r : Int32) (S1 : SS) (A1 : AA), post r S1 A1 → tl_At l R nc ns Q D (wX q k) nL z (pc + 3) lv (.int r :: rest) (S1, A1)) : tl_At l R nc ns Q D (wX q k) nL z pc lv (.int x2 :: .int x1 :: .ref (q 1) :: rest) (S, A) :=
  tl_callVi (n := 2) (As := [.int x1, .int x2]) (b := q 1) (q0 := 1) (ci := 2) C (fun sz => cX_Mm_has l D q k sz S A x1 x2 hw) in_390 in_2 in_388 in_389 (by decide +kernel) rfl ⟨rfl, rfl⟩ rfl rfl hl hf hdg kk
set_option maxHeartbeats 4000000 in
set_option maxRecDepth 100000 in
theorem cX_Mm_erase (l : Launch) (D : va_G) (q : Nat → Nat) (k : Nat → ClassId) (sz : Nat) (S : SS) (A : AA) (x1 : Int32) {post : Int32 → SS → AA → Prop} (hw : wX_Mm_erase post S A x1) : tl_Met l y_Mm_erase b_Mm_erase 4 (some .boolean) (tl_R 1) D (wX q k) (tX k) sz [.ref (q 1), .int x1] (S, A) (tl_Qi D (wX q k) (tX k) post) := by
  refine tl_met (own := R_Mm) (lv := [(0, .ref (q 1)), (1, .int x1)]) (by decide) rfl rfl (Nat.le_of_ble_eq_true rfl) (fun z C => ?_)
  have B19 : ∀ (S : SS) (A : AA) (x2 x3 : Int32), wX_Mm_erase_19 post S A x2 x3 → tl_At l (tl_R 1) 0 0 (tl_M 0 0 (tl_Qi D (wX q k) (tX k) post)) D (wX q k) 4 z 19 [(0, .ref (q 1)), (2, .int x2), (3, .int x3)] [] (S, A) := by
    intro S A x2 x3 hw
    have key : ∀ X19 : SS → AA → Int32 → Int32 → Prop, (∀ (S : SS) (A : AA) (x2 x3 : Int32), X19 S A x2 x3 → tl_At l (tl_R 1) 0 0 (tl_M 0 0 (tl_Qi D (wX q k) (tX k) post)) D (wX q k) 4 z 19 [(0, .ref (q 1)), (2, .int x2), (3, .int x3)] [] (S, A)) → ∀ (S : SS) (A : AA) (x2 x3 : Int32), wX_Mm_erase_19B post X19 S A x2 x3 → tl_At l (tl_R 1) 0 0 (tl_M 0 0 (tl_Qi D (wX q k) (tX k) post)) D (wX q k) 4 z 19 [(0, .ref (q 1)), (2, .int x2), (3, .int x3)] [] (S, A) := by
      intro X19 hX19 S A x2 x3 hw
      refine tl_iload_n (pc := 19) C d_Mm_erase_19 rfl 2 rfl ?_
      refine tl_bipush (pc := 20) (v := 16) C d_Mm_erase_20 (by decide) ?_
      refine tl_icmp_ge (pc := 22) (tgt := 42) C d_Mm_erase_22 rfl (fun hc => ?_) (fun hc => ?_)
      · have hw := hw.1 hc
        refine tl_aload_n (pc := 42) C d_Mm_erase_42 rfl 0 rfl ?_
        refine kX_Mm_endChange (pc := 43) C hw ml_Mm_38 d_Mm_erase_43 rfl (fun r43 S43 A43 hw => ?_)
        obtain ⟨hz, hw⟩ := hw
        exact tl_zret (pc := 46) C hz d_Mm_erase_46 hw
      · have hw := hw.2 hc
        refine tl_aload_n (pc := 25) C d_Mm_erase_25 rfl 0 rfl ?_
        refine tl_iload_n (pc := 26) C d_Mm_erase_26 rfl 1 rfl ?_
        refine tl_iload_n (pc := 27) C d_Mm_erase_27 rfl 2 rfl ?_
        refine tl_iadd (pc := 28) C d_Mm_erase_28 ?_
        refine tl_iload_n (pc := 29) C d_Mm_erase_29 rfl 2 rfl ?_
        refine tl_sipush (pc := 30) (v := 255) C d_Mm_erase_30 (by decide) ?_
        refine kX_Mm_change (pc := 33) C hw ml_Mm_34 d_Mm_erase_33 rfl (fun S33 A33 hw => ?_)
        refine tl_iinc (pc := 36) (lv' := [(3, .int (x3 + (1 : Int32))), (0, .ref (q 1)), (2, .int x2)]) C d_Mm_erase_36 (by decide) 2 rfl rfl (by decide) rfl ?_
        refine tl_goto (pc := 39) (tgt := 19) C d_Mm_erase_39 rfl ?_
        exact tl_sub [1, 2, 0] rfl (hX19 _ _ _ _ hw)
    exact hw _ (fun S A x2 x3 hb => key _ (fun _ _ _ _ h => h) S A x2 x3 hb)
  refine tl_iload_n (pc := 0) C d_Mm_erase_0 rfl 1 rfl ?_
  refine tl_bipush (pc := 1) (v := 16) C d_Mm_erase_1 (by decide) ?_
  refine tl_imul (pc := 3) C d_Mm_erase_3 ?_
  refine tl_istore_n (pc := 4) (lv' := [(2, .int (x1 * (16 : Int32))), (0, .ref (q 1)), (1, .int x1)]) C d_Mm_erase_4 rfl (by decide) rfl ?_
  refine tl_aload_n (pc := 5) C d_Mm_erase_5 rfl 1 rfl ?_
  refine tl_iload_n (pc := 6) C d_Mm_erase_6 rfl 0 rfl ?_
  refine tl_bipush (pc := 7) (v := 16) C d_Mm_erase_7 (by decide) ?_
  refine kX_Mm_has (pc := 9) C hw ml_Mm_30 d_Mm_erase_9 rfl (fun r9 S9 A9 hw => ?_)
  refine tl_if_ne (pc := 12) (tgt := 17) C d_Mm_erase_12 rfl (fun hc => ?_) (fun hc => ?_)
  · have hw := hw.1 hc
    refine tl_iconst (pc := 17) (v := 0) C d_Mm_erase_17 (by decide) ?_
    refine tl_istore_n (pc := 18) (lv' := [(3, .int (0 : Int32)), (2, .int (x1 * (16 : Int32))), (0, .ref (q 1)), (1, .int x1)]) C d_Mm_erase_18 rfl (by decide) rfl ?_
    exact tl_sub [2, 1, 0] rfl (B19 _ _ _ _ hw)
  · have hw := hw.2 hc
    refine tl_iconst (pc := 15) (v := 1) C d_Mm_erase_15 (by decide) ?_
    exact tl_zret (pc := 16) C (by decide) d_Mm_erase_16 hw
theorem kX_Mm_erase {l : Launch} {R : Room} {nc ns : Nat} {Q : tl_Z → State → Prop} {D : va_G} {q : Nat → Nat} {k : Nat → ClassId} {nL : Nat} {z : tl_Z} {cc : ByteArray} {ret : Option FieldType} {pc : Nat} {lv : List (Nat × Value)} {rest : List Value} {S : SS} {A : AA} {own : String} {idx : Nat} {x1 : Int32} {post : Int32 → SS → AA → Prop} (C : tl_Cx cc nL own ret D (tX k) z) (hw : wX_Mm_erase post S A x1) (hl : Cond.methodLink own idx y_Mm_erase ∈ wsAll) (hdg : decode cc pc = .ok (.invokevirtual idx, 3)) (hf : tl_fit R (tl_R 1) nc ns 4 rest = true) (kk : ∀ (r : Int32) (S1 : SS) (A1 : AA), post r S1 A1 → tl_At l R nc ns Q D (wX q k) nL z (pc + 3) lv (.int r :: rest) (S1, A1)) : tl_At l R nc ns Q D (wX q k) nL z pc lv (.int x1 :: .ref (q 1) :: rest) (S, A) :=
  tl_callVi (n := 1) (As := [.int x1]) (b := q 1) (q0 := 1) (ci := 2) C (fun sz => cX_Mm_erase l D q k sz S A x1 hw) in_386 in_2 in_384 in_385 (by decide +kernel) rfl ⟨rfl, rfl⟩ rfl rfl hl hf hdg kk
set_option maxHeartbeats 4000000 in
set_option maxRecDepth 100000 in
theorem cX_T_eraseSlot (l : Launch) (D : va_G) (q : Nat → Nat) (k : Nat → ClassId) (sz : Nat) (S : SS) (A : AA) (x1 : Int32) {post : Int32 → SS → AA → Prop} (hw : wX_T_eraseSlot post S A x1) : tl_Met l y_T_eraseSlot b_T_eraseSlot 4 (some .int) (tl_R 2) D (wX q k) (tX k) sz [.ref (q 0), .int x1] (S, A) (tl_Qi D (wX q k) (tX k) post) := by
  refine tl_met (own := R_T) (lv := [(0, .ref (q 0)), (1, .int x1)]) (by decide) rfl rfl (Nat.le_of_ble_eq_true rfl) (fun z C => ?_)
  have B62 : ∀ (S : SS) (A : AA) (y0 : Int32), wX_T_eraseSlot_62 post S A y0 → tl_At l (tl_R 2) 0 0 (tl_M 0 0 (tl_Qi D (wX q k) (tX k) post)) D (wX q k) 4 z 62 [] [.int y0] (S, A) := by
    intro S A y0 hw
    refine tl_istore_n (pc := 62) (lv' := [(3, .int y0)]) C d_T_eraseSlot_62 rfl (by decide) rfl ?_
    refine tl_iload_n (pc := 63) C d_T_eraseSlot_63 rfl 0 rfl ?_
    refine tl_if_eq (pc := 64) (tgt := 71) C d_T_eraseSlot_64 rfl (fun hc => ?_) (fun hc => ?_)
    · have hw := hw.1 hc
      refine tl_iconst (pc := 71) (v := -1) C d_T_eraseSlot_71 (by decide) ?_
      exact tl_iret (pc := 72) C d_T_eraseSlot_72 hw
    · have hw := hw.2 hc
      refine tl_iconst (pc := 67) (v := 0) C d_T_eraseSlot_67 (by decide) ?_
      refine tl_goto (pc := 68) (tgt := 72) C d_T_eraseSlot_68 rfl ?_
      exact tl_iret (pc := 72) C d_T_eraseSlot_72 hw
  have B61 : ∀ (S : SS) (A : AA), wX_T_eraseSlot_61 post S A → tl_At l (tl_R 2) 0 0 (tl_M 0 0 (tl_Qi D (wX q k) (tX k) post)) D (wX q k) 4 z 61 [] [] (S, A) := by
    intro S A hw
    refine tl_iconst (pc := 61) (v := 0) C d_T_eraseSlot_61 (by decide) ?_
    exact tl_sub [] rfl (B62 _ _ _ hw)
  refine tl_iload_n (pc := 0) C d_T_eraseSlot_0 rfl 1 rfl ?_
  refine tl_aload_n (pc := 1) C d_T_eraseSlot_1 rfl 0 rfl ?_
  refine gX_T_124 (pc := 2) (v := (S 0)) C rfl d_T_eraseSlot_2 ?_
  refine tl_icmp_ne (pc := 5) (tgt := 11) C d_T_eraseSlot_5 rfl (fun hc => ?_) (fun hc => ?_)
  · have hw := hw.1 hc
    refine tl_aload_n (pc := 11) C d_T_eraseSlot_11 rfl 0 rfl ?_
    refine tl_iconst (pc := 12) (v := -1) C d_T_eraseSlot_12 (by decide) ?_
    refine pX_T_137 (pc := 13) C d_T_eraseSlot_13 ?_
    refine tl_iconst (pc := 16) (v := 3) C d_T_eraseSlot_16 (by decide) ?_
    refine tl_iload_n (pc := 17) C d_T_eraseSlot_17 rfl 1 rfl ?_
    refine tl_imul (pc := 18) C d_T_eraseSlot_18 ?_
    refine tl_istore_n (pc := 19) (lv' := [(2, .int ((3 : Int32) * x1)), (0, .ref (q 0)), (1, .int x1)]) C d_T_eraseSlot_19 rfl (by decide) rfl ?_
    refine tl_aload_n (pc := 20) C d_T_eraseSlot_20 rfl 1 rfl ?_
    refine gX_T_10 (pc := 21) C d_T_eraseSlot_21 ?_
    refine tl_iload_n (pc := 24) C d_T_eraseSlot_24 rfl 0 rfl ?_
    refine tl_iconst (pc := 25) (v := 2) C d_T_eraseSlot_25 (by decide) ?_
    refine tl_iadd (pc := 26) C d_T_eraseSlot_26 ?_
    refine kX_Mm_erase (pc := 27) C hw ml_T_263 d_T_eraseSlot_27 rfl (fun r27 S27 A27 hw => ?_)
    refine tl_if_eq (pc := 30) (tgt := 61) C d_T_eraseSlot_30 rfl (fun hc => ?_) (fun hc => ?_)
    · have hw := hw.1 hc
      exact tl_sub [] rfl (B61 _ _ hw)
    · have hw := hw.2 hc
      refine tl_aload_n (pc := 33) C d_T_eraseSlot_33 rfl 1 rfl ?_
      refine gX_T_10 (pc := 34) C d_T_eraseSlot_34 ?_
      refine tl_iload_n (pc := 37) C d_T_eraseSlot_37 rfl 0 rfl ?_
      refine kX_Mm_erase (pc := 38) C hw ml_T_263 d_T_eraseSlot_38 rfl (fun r38 S38 A38 hw => ?_)
      refine tl_if_eq (pc := 41) (tgt := 61) C d_T_eraseSlot_41 rfl (fun hc => ?_) (fun hc => ?_)
      · have hw := hw.1 hc
        exact tl_sub [] rfl (B61 _ _ hw)
      · have hw := hw.2 hc
        refine tl_aload_n (pc := 44) C d_T_eraseSlot_44 rfl 1 rfl ?_
        refine gX_T_10 (pc := 45) C d_T_eraseSlot_45 ?_
        refine tl_iload_n (pc := 48) C d_T_eraseSlot_48 rfl 0 rfl ?_
        refine tl_iconst (pc := 49) (v := 1) C d_T_eraseSlot_49 (by decide) ?_
        refine tl_iadd (pc := 50) C d_T_eraseSlot_50 ?_
        refine kX_Mm_erase (pc := 51) C hw ml_T_263 d_T_eraseSlot_51 rfl (fun r51 S51 A51 hw => ?_)
        refine tl_if_eq (pc := 54) (tgt := 61) C d_T_eraseSlot_54 rfl (fun hc => ?_) (fun hc => ?_)
        · have hw := hw.1 hc
          exact tl_sub [] rfl (B61 _ _ hw)
        · have hw := hw.2 hc
          refine tl_iconst (pc := 57) (v := 1) C d_T_eraseSlot_57 (by decide) ?_
          refine tl_goto (pc := 58) (tgt := 62) C d_T_eraseSlot_58 rfl ?_
          exact tl_sub [] rfl (B62 _ _ _ hw)
  · have hw := hw.2 hc
    refine tl_bipush (pc := 8) (v := 34) C d_T_eraseSlot_8 (by decide) ?_
    exact tl_iret (pc := 10) C d_T_eraseSlot_10 hw
theorem kX_T_eraseSlot {l : Launch} {R : Room} {nc ns : Nat} {Q : tl_Z → State → Prop} {D : va_G} {q : Nat → Nat} {k : Nat → ClassId} {nL : Nat} {z : tl_Z} {cc : ByteArray} {ret : Option FieldType} {pc : Nat} {lv : List (Nat × Value)} {rest : List Value} {S : SS} {A : AA} {own : String} {idx : Nat} {x1 : Int32} {post : Int32 → SS → AA → Prop} (C : tl_Cx cc nL own ret D (tX k) z) (hw : wX_T_eraseSlot post S A x1) (hl : Cond.methodLink own idx y_T_eraseSlot ∈ wsAll) (hdg : decode cc pc = .ok (.invokevirtual idx, 3)) (hf : tl_fit R (tl_R 2) nc ns 4 rest = true) (kk : ∀ (r : Int32) (S1 : SS) (A1 : AA), post r S1 A1 → tl_At l R nc ns Q D (wX q k) nL z (pc + 3) lv (.int r :: rest) (S1, A1)) : tl_At l R nc ns Q D (wX q k) nL z pc lv (.int x1 :: .ref (q 0) :: rest) (S, A) :=
  tl_callVi (n := 1) (As := [.int x1]) (b := q 0) (q0 := 0) (ci := 6) C (fun sz => cX_T_eraseSlot l D q k sz S A x1 hw) in_382 in_1 in_381 ip_18 (by decide +kernel) rfl ⟨rfl, rfl⟩ rfl rfl hl hf hdg kk
set_option maxHeartbeats 4000000 in
set_option maxRecDepth 100000 in
theorem cX_Mm_write_12 (l : Launch) (D : va_G) (q : Nat → Nat) (k : Nat → ClassId) (sz : Nat) (S : SS) (A : AA) (x1 x3 x4 : Int32) {post : Int32 → SS → AA → Prop} (hw : wX_Mm_write_12 post S A x1 x3 x4) : tl_Met l y_Mm_write b_Mm_write 6 (some .boolean) (tl_R 1) D (wX q k) (tX k) sz [.ref (q 1), .int x1, .ref (q 12), .int x3, .int x4] (S, A) (tl_Qi D (wX q k) (tX k) post) := by
  refine tl_met (own := R_Mm) (lv := [(0, .ref (q 1)), (1, .int x1), (2, .ref (q 12)), (3, .int x3), (4, .int x4)]) (by decide) rfl rfl (Nat.le_of_ble_eq_true rfl) (fun z C => ?_)
  have B24 : ∀ (S : SS) (A : AA) (x1 x3 x4 x5 : Int32), wX_Mm_write_12_24 post S A x1 x3 x4 x5 → tl_At l (tl_R 1) 0 0 (tl_M 0 0 (tl_Qi D (wX q k) (tX k) post)) D (wX q k) 6 z 24 [(0, .ref (q 1)), (1, .int x1), (2, .ref (q 12)), (3, .int x3), (4, .int x4), (5, .int x5)] [] (S, A) := by
    intro S A x1 x3 x4 x5 hw
    have key : ∀ X24 : SS → AA → Int32 → Int32 → Int32 → Int32 → Prop, (∀ (S : SS) (A : AA) (x1 x3 x4 x5 : Int32), X24 S A x1 x3 x4 x5 → tl_At l (tl_R 1) 0 0 (tl_M 0 0 (tl_Qi D (wX q k) (tX k) post)) D (wX q k) 6 z 24 [(0, .ref (q 1)), (1, .int x1), (2, .ref (q 12)), (3, .int x3), (4, .int x4), (5, .int x5)] [] (S, A)) → ∀ (S : SS) (A : AA) (x1 x3 x4 x5 : Int32), wX_Mm_write_12_24B post X24 S A x1 x3 x4 x5 → tl_At l (tl_R 1) 0 0 (tl_M 0 0 (tl_Qi D (wX q k) (tX k) post)) D (wX q k) 6 z 24 [(0, .ref (q 1)), (1, .int x1), (2, .ref (q 12)), (3, .int x3), (4, .int x4), (5, .int x5)] [] (S, A) := by
      intro X24 hX24 S A x1 x3 x4 x5 hw
      refine tl_iload (pc := 24) C d_Mm_write_24 5 rfl ?_
      refine tl_iload (pc := 26) C d_Mm_write_26 4 rfl ?_
      refine tl_icmp_ge (pc := 28) (tgt := 63) C d_Mm_write_28 rfl (fun hc => ?_) (fun hc => ?_)
      · have hw := hw.1 hc
        refine tl_aload_n (pc := 63) C d_Mm_write_63 rfl 0 rfl ?_
        refine kX_Mm_endChange (pc := 64) C hw ml_Mm_38 d_Mm_write_64 rfl (fun r64 S64 A64 hw => ?_)
        obtain ⟨hz, hw⟩ := hw
        exact tl_zret (pc := 67) C hz d_Mm_write_67 hw
      · have hw := hw.2 hc
        refine tl_aload_n (pc := 31) C d_Mm_write_31 rfl 0 rfl ?_
        refine tl_iload_n (pc := 32) C d_Mm_write_32 rfl 1 rfl ?_
        refine tl_iload (pc := 33) C d_Mm_write_33 5 rfl ?_
        refine tl_iadd (pc := 35) C d_Mm_write_35 ?_
        refine tl_iload (pc := 36) C d_Mm_write_36 5 rfl ?_
        refine tl_aload_n (pc := 38) C d_Mm_write_38 rfl 0 rfl ?_
        refine gX_Mm_11 (pc := 39) C d_Mm_write_39 ?_
        refine tl_iload_n (pc := 42) C d_Mm_write_42 rfl 1 rfl ?_
        refine tl_iload (pc := 43) C d_Mm_write_43 5 rfl ?_
        refine tl_iadd (pc := 45) C d_Mm_write_45 ?_
        obtain ⟨hi, hw⟩ := hw
        refine rX_ald0 (pc := 46) (f := (A 0)) C rfl hi d_Mm_write_46 ?_
        refine tl_aload_n (pc := 47) C d_Mm_write_47 rfl 2 rfl ?_
        refine tl_iload_n (pc := 48) C d_Mm_write_48 rfl 3 rfl ?_
        refine tl_iload (pc := 49) C d_Mm_write_49 5 rfl ?_
        refine tl_iadd (pc := 51) C d_Mm_write_51 ?_
        obtain ⟨hi, hw⟩ := hw
        refine rX_ald5 (pc := 52) (f := (A 5)) C rfl hi d_Mm_write_52 ?_
        refine tl_iand (pc := 53) C d_Mm_write_53 ?_
        refine kX_Mm_change (pc := 54) C hw ml_Mm_34 d_Mm_write_54 rfl (fun S54 A54 hw => ?_)
        refine tl_iinc (pc := 57) (lv' := [(5, .int (x5 + (1 : Int32))), (0, .ref (q 1)), (1, .int x1), (2, .ref (q 12)), (3, .int x3), (4, .int x4)]) C d_Mm_write_57 (by decide) 5 rfl rfl (by decide) rfl ?_
        refine tl_goto (pc := 60) (tgt := 24) C d_Mm_write_60 rfl ?_
        exact tl_sub [1, 2, 3, 4, 5, 0] rfl (hX24 _ _ _ _ _ _ hw)
    exact hw _ (fun S A x1 x3 x4 x5 hb => key _ (fun _ _ _ _ _ _ h => h) S A x1 x3 x4 x5 hb)
  refine tl_aload_n (pc := 0) C d_Mm_write_0 rfl 0 rfl ?_
  refine tl_iload_n (pc := 1) C d_Mm_write_1 rfl 1 rfl ?_
  refine tl_iload (pc := 2) C d_Mm_write_2 4 rfl ?_
  refine kX_Mm_has (pc := 4) C hw ml_Mm_30 d_Mm_write_4 rfl (fun r4 S4 A4 hw => ?_)
  refine tl_if_eq (pc := 7) (tgt := 19) C d_Mm_write_7 rfl (fun hc => ?_) (fun hc => ?_)
  · have hw := hw.1 hc
    refine tl_iconst (pc := 19) (v := 1) C d_Mm_write_19 (by decide) ?_
    exact tl_zret (pc := 20) C (by decide) d_Mm_write_20 hw
  · have hw := hw.2 hc
    refine tl_iload_n (pc := 10) C d_Mm_write_10 rfl 3 rfl ?_
    refine tl_aload_n (pc := 11) C d_Mm_write_11 rfl 2 rfl ?_
    refine rX_len5 (pc := 12) C d_Mm_write_12 ?_
    refine tl_iload (pc := 13) C d_Mm_write_13 4 rfl ?_
    refine tl_isub (pc := 15) C d_Mm_write_15 ?_
    refine tl_icmp_le (pc := 16) (tgt := 21) C d_Mm_write_16 rfl (fun hc => ?_) (fun hc => ?_)
    · have hw := hw.1 hc
      refine tl_iconst (pc := 21) (v := 0) C d_Mm_write_21 (by decide) ?_
      refine tl_istore (pc := 22) (lv' := [(5, .int (0 : Int32)), (0, .ref (q 1)), (1, .int x1), (2, .ref (q 12)), (3, .int x3), (4, .int x4)]) C d_Mm_write_22 (by decide) rfl ?_
      exact tl_sub [1, 2, 3, 4, 5, 0] rfl (B24 _ _ _ _ _ _ hw)
    · have hw := hw.2 hc
      refine tl_iconst (pc := 19) (v := 1) C d_Mm_write_19 (by decide) ?_
      exact tl_zret (pc := 20) C (by decide) d_Mm_write_20 hw
theorem kX_Mm_write_12 {l : Launch} {R : Room} {nc ns : Nat} {Q : tl_Z → State → Prop} {D : va_G} {q : Nat → Nat} {k : Nat → ClassId} {nL : Nat} {z : tl_Z} {cc : ByteArray} {ret : Option FieldType} {pc : Nat} {lv : List (Nat × Value)} {rest : List Value} {S : SS} {A : AA} {own : String} {idx : Nat} {x1 x3 x4 : Int32} {post : Int32 → SS → AA → Prop} (C : tl_Cx cc nL own ret D (tX k) z) (hw : wX_Mm_write_12 post S A x1 x3 x4) (hl : Cond.methodLink own idx y_Mm_write ∈ wsAll) (hdg : decode cc pc = .ok (.invokevirtual idx, 3)) (hf : tl_fit R (tl_R 1) nc ns 6 rest = true) (kk : ∀ (r : Int32) (S1 : SS) (A1 : AA), post r S1 A1 → tl_At l R nc ns Q D (wX q k) nL z (pc + 3) lv (.int r :: rest) (S1, A1)) : tl_At l R nc ns Q D (wX q k) nL z pc lv (.int x4 :: .int x3 :: .ref (q 12) :: .int x1 :: .ref (q 1) :: rest) (S, A) :=
  tl_callVi (n := 4) (As := [.int x1, .ref (q 12), .int x3, .int x4]) (b := q 1) (q0 := 1) (ci := 2) C (fun sz => cX_Mm_write_12 l D q k sz S A x1 x3 x4 hw) in_416 in_2 in_414 in_415 (by decide +kernel) rfl ⟨rfl, rfl⟩ rfl rfl hl hf hdg kk
set_option maxHeartbeats 4000000 in
set_option maxRecDepth 100000 in
theorem cX_T_releaseSlot (l : Launch) (D : va_G) (q : Nat → Nat) (k : Nat → ClassId) (sz : Nat) (S : SS) (A : AA) (x1 : Int32) {post : Int32 → SS → AA → Prop} (hw : wX_T_releaseSlot post S A x1) : tl_Met l y_T_releaseSlot b_T_releaseSlot 5 (some .int) (tl_R 2) D (wX q k) (tX k) sz [.ref (q 0), .int x1] (S, A) (tl_Qi D (wX q k) (tX k) post) := by
  refine tl_met (own := R_T) (lv := [(0, .ref (q 0)), (1, .int x1)]) (by decide) rfl rfl (Nat.le_of_ble_eq_true rfl) (fun z C => ?_)
  have B75 : ∀ (S : SS) (A : AA) (x3 x4 y0 y1 : Int32), wX_T_releaseSlot_75 post S A x3 x4 y0 y1 → tl_At l (tl_R 2) 0 0 (tl_M 0 0 (tl_Qi D (wX q k) (tX k) post)) D (wX q k) 5 z 75 [(0, .ref (q 0)), (3, .int x3), (4, .int x4)] [.int y0, .int y1, .ref (q 12)] (S, A) := by
    intro S A x3 x4 y0 y1 hw
    obtain ⟨hi, hw⟩ := hw
    refine rX_ast5 (pc := 75) (f := (A 5)) C rfl hi d_T_releaseSlot_75 ?_
    refine tl_aload_n (pc := 76) C d_T_releaseSlot_76 rfl 0 rfl ?_
    refine gX_T_49 (pc := 77) C d_T_releaseSlot_77 ?_
    refine tl_iconst (pc := 80) (v := 1) C d_T_releaseSlot_80 (by decide) ?_
    refine tl_iload_n (pc := 81) C d_T_releaseSlot_81 rfl 1 rfl ?_
    refine tl_bipush (pc := 82) (v := 8) C d_T_releaseSlot_82 (by decide) ?_
    refine tl_iushr (pc := 84) C d_T_releaseSlot_84 ?_
    obtain ⟨hi, hw⟩ := hw
    refine rX_ast5 (pc := 85) (f := (upd (A 5) y1.toNatClampNeg y0)) C rfl hi d_T_releaseSlot_85 ?_
    refine tl_aload_n (pc := 86) C d_T_releaseSlot_86 rfl 0 rfl ?_
    refine gX_T_49 (pc := 87) C d_T_releaseSlot_87 ?_
    refine tl_iconst (pc := 90) (v := 2) C d_T_releaseSlot_90 (by decide) ?_
    refine tl_iload_n (pc := 91) C d_T_releaseSlot_91 rfl 1 rfl ?_
    refine tl_sipush (pc := 92) (v := 255) C d_T_releaseSlot_92 (by decide) ?_
    refine tl_iand (pc := 95) C d_T_releaseSlot_95 ?_
    obtain ⟨hi, hw⟩ := hw
    refine rX_ast5 (pc := 96) (f := (upd (upd (A 5) y1.toNatClampNeg y0) (1 : Int32).toNatClampNeg (x3.toUInt32 >>> ((8 : Int32).toUInt32 &&& Int32.toUInt32 31)).toInt32)) C rfl hi d_T_releaseSlot_96 ?_
    refine tl_aload_n (pc := 97) C d_T_releaseSlot_97 rfl 0 rfl ?_
    refine gX_T_10 (pc := 98) C d_T_releaseSlot_98 ?_
    refine tl_iload (pc := 101) C d_T_releaseSlot_101 2 rfl ?_
    refine tl_iconst (pc := 103) (v := 1) C d_T_releaseSlot_103 (by decide) ?_
    refine tl_iadd (pc := 104) C d_T_releaseSlot_104 ?_
    refine tl_aload_n (pc := 105) C d_T_releaseSlot_105 rfl 0 rfl ?_
    refine gX_T_49 (pc := 106) C d_T_releaseSlot_106 ?_
    refine tl_iconst (pc := 109) (v := 0) C d_T_releaseSlot_109 (by decide) ?_
    refine tl_iconst (pc := 110) (v := 3) C d_T_releaseSlot_110 (by decide) ?_
    refine kX_Mm_write_12 (pc := 111) C hw ml_T_280 d_T_releaseSlot_111 rfl (fun r111 S111 A111 hw => ?_)
    refine tl_if_ne (pc := 114) (tgt := 119) C d_T_releaseSlot_114 rfl (fun hc => ?_) (fun hc => ?_)
    · have hw := hw.1 hc
      refine tl_aload_n (pc := 119) C d_T_releaseSlot_119 rfl 0 rfl ?_
      refine gX_T_49 (pc := 120) C d_T_releaseSlot_120 ?_
      refine tl_iconst (pc := 123) (v := 0) C d_T_releaseSlot_123 (by decide) ?_
      refine tl_iconst (pc := 124) (v := 0) C d_T_releaseSlot_124 (by decide) ?_
      obtain ⟨hi, hw⟩ := hw
      refine rX_ast5 (pc := 125) (f := (A111 5)) C rfl hi d_T_releaseSlot_125 ?_
      refine tl_aload_n (pc := 126) C d_T_releaseSlot_126 rfl 0 rfl ?_
      refine gX_T_10 (pc := 127) C d_T_releaseSlot_127 ?_
      refine tl_iload (pc := 130) C d_T_releaseSlot_130 2 rfl ?_
      refine tl_aload_n (pc := 132) C d_T_releaseSlot_132 rfl 0 rfl ?_
      refine gX_T_49 (pc := 133) C d_T_releaseSlot_133 ?_
      refine tl_iconst (pc := 136) (v := 0) C d_T_releaseSlot_136 (by decide) ?_
      refine tl_iconst (pc := 137) (v := 1) C d_T_releaseSlot_137 (by decide) ?_
      refine kX_Mm_write_12 (pc := 138) C hw ml_T_280 d_T_releaseSlot_138 rfl (fun r138 S138 A138 hw => ?_)
      refine tl_if_eq (pc := 141) (tgt := 148) C d_T_releaseSlot_141 rfl (fun hc => ?_) (fun hc => ?_)
      · have hw := hw.1 hc
        refine tl_iconst (pc := 148) (v := -1) C d_T_releaseSlot_148 (by decide) ?_
        exact tl_iret (pc := 149) C d_T_releaseSlot_149 hw
      · have hw := hw.2 hc
        refine tl_iconst (pc := 144) (v := 0) C d_T_releaseSlot_144 (by decide) ?_
        refine tl_goto (pc := 145) (tgt := 149) C d_T_releaseSlot_145 rfl ?_
        exact tl_iret (pc := 149) C d_T_releaseSlot_149 hw
    · have hw := hw.2 hc
      refine tl_iconst (pc := 117) (v := -1) C d_T_releaseSlot_117 (by decide) ?_
      exact tl_iret (pc := 118) C d_T_releaseSlot_118 hw
  refine tl_iload_n (pc := 0) C d_T_releaseSlot_0 rfl 1 rfl ?_
  refine tl_aload_n (pc := 1) C d_T_releaseSlot_1 rfl 0 rfl ?_
  refine gX_T_124 (pc := 2) (v := (S 0)) C rfl d_T_releaseSlot_2 ?_
  refine tl_icmp_eq (pc := 5) (tgt := 16) C d_T_releaseSlot_5 rfl (fun hc => ?_) (fun hc => ?_)
  · have hw := hw.1 hc
    refine tl_bipush (pc := 16) (v := 34) C d_T_releaseSlot_16 (by decide) ?_
    exact tl_iret (pc := 18) C d_T_releaseSlot_18 hw
  · have hw := hw.2 hc
    refine tl_iload_n (pc := 8) C d_T_releaseSlot_8 rfl 1 rfl ?_
    refine tl_aload_n (pc := 9) C d_T_releaseSlot_9 rfl 0 rfl ?_
    refine gX_T_137 (pc := 10) (v := (S 2)) C rfl d_T_releaseSlot_10 ?_
    refine tl_icmp_eq (pc := 13) (tgt := 19) C d_T_releaseSlot_13 rfl (fun hc => ?_) (fun hc => ?_)
    · have hw := hw.1 hc
      refine tl_aload_n (pc := 19) C d_T_releaseSlot_19 rfl 0 rfl ?_
      refine gX_T_10 (pc := 20) C d_T_releaseSlot_20 ?_
      refine tl_iconst (pc := 23) (v := 0) C d_T_releaseSlot_23 (by decide) ?_
      refine kX_Mm_goodSerial (pc := 24) C hw ml_T_269 d_T_releaseSlot_24 rfl (fun r24 S24 A24 hw => ?_)
      refine tl_aload_n (pc := 27) C d_T_releaseSlot_27 rfl 0 rfl ?_
      refine gX_T_10 (pc := 28) C d_T_releaseSlot_28 ?_
      refine tl_iconst (pc := 31) (v := 1) C d_T_releaseSlot_31 (by decide) ?_
      refine kX_Mm_goodSerial (pc := 32) C hw ml_T_269 d_T_releaseSlot_32 rfl (fun r32 S32 A32 hw => ?_)
      refine tl_max (pc := 35) C ml_T_272 d_T_releaseSlot_35 rfl ?_
      refine tl_istore_n (pc := 38) (lv' := [(2, .int (tl_mx r24 r32)), (0, .ref (q 0)), (1, .int x1)]) C d_T_releaseSlot_38 rfl (by decide) rfl ?_
      refine tl_aload_n (pc := 39) C d_T_releaseSlot_39 rfl 1 rfl ?_
      refine gX_T_10 (pc := 40) C d_T_releaseSlot_40 ?_
      refine tl_iload_n (pc := 43) C d_T_releaseSlot_43 rfl 2 rfl ?_
      refine kX_Mm_sumOf (pc := 44) C hw ml_T_266 d_T_releaseSlot_44 rfl (fun r44 S44 A44 hw => ?_)
      refine tl_istore_n (pc := 47) (lv' := [(3, .int r44), (2, .int (tl_mx r24 r32)), (0, .ref (q 0)), (1, .int x1)]) C d_T_releaseSlot_47 rfl (by decide) rfl ?_
      refine tl_iload_n (pc := 48) C d_T_releaseSlot_48 rfl 3 rfl ?_
      refine kX_Mm_headerOf (pc := 49) C hw ml_T_277 d_T_releaseSlot_49 rfl (fun r49 S49 A49 hw => ?_)
      refine tl_istore (pc := 52) (lv' := [(4, .int r49), (3, .int r44), (2, .int (tl_mx r24 r32)), (0, .ref (q 0)), (1, .int x1)]) C d_T_releaseSlot_52 (by decide) rfl ?_
      refine tl_aload_n (pc := 54) C d_T_releaseSlot_54 rfl 3 rfl ?_
      refine gX_T_49 (pc := 55) C d_T_releaseSlot_55 ?_
      refine tl_iconst (pc := 58) (v := 0) C d_T_releaseSlot_58 (by decide) ?_
      refine tl_iload_n (pc := 59) C d_T_releaseSlot_59 rfl 2 rfl ?_
      refine tl_iconst (pc := 60) (v := -1) C d_T_releaseSlot_60 (by decide) ?_
      refine tl_icmp_ne (pc := 61) (tgt := 68) C d_T_releaseSlot_61 rfl (fun hc => ?_) (fun hc => ?_)
      · have hw := hw.1 hc
        refine tl_iload_n (pc := 68) C d_T_releaseSlot_68 rfl 2 rfl ?_
        refine tl_iconst (pc := 69) (v := 1) C d_T_releaseSlot_69 (by decide) ?_
        refine tl_iadd (pc := 70) C d_T_releaseSlot_70 ?_
        refine tl_sipush (pc := 71) (v := 255) C d_T_releaseSlot_71 (by decide) ?_
        refine tl_iand (pc := 74) C d_T_releaseSlot_74 ?_
        exact tl_sub [3, 1, 0] rfl (B75 _ _ _ _ _ _ hw)
      · have hw := hw.2 hc
        refine tl_iconst (pc := 64) (v := 1) C d_T_releaseSlot_64 (by decide) ?_
        refine tl_goto (pc := 65) (tgt := 75) C d_T_releaseSlot_65 rfl ?_
        exact tl_sub [3, 1, 0] rfl (B75 _ _ _ _ _ _ hw)
    · have hw := hw.2 hc
      refine tl_bipush (pc := 16) (v := 34) C d_T_releaseSlot_16 (by decide) ?_
      exact tl_iret (pc := 18) C d_T_releaseSlot_18 hw
theorem kX_T_releaseSlot {l : Launch} {R : Room} {nc ns : Nat} {Q : tl_Z → State → Prop} {D : va_G} {q : Nat → Nat} {k : Nat → ClassId} {nL : Nat} {z : tl_Z} {cc : ByteArray} {ret : Option FieldType} {pc : Nat} {lv : List (Nat × Value)} {rest : List Value} {S : SS} {A : AA} {own : String} {idx : Nat} {x1 : Int32} {post : Int32 → SS → AA → Prop} (C : tl_Cx cc nL own ret D (tX k) z) (hw : wX_T_releaseSlot post S A x1) (hl : Cond.methodLink own idx y_T_releaseSlot ∈ wsAll) (hdg : decode cc pc = .ok (.invokevirtual idx, 3)) (hf : tl_fit R (tl_R 2) nc ns 5 rest = true) (kk : ∀ (r : Int32) (S1 : SS) (A1 : AA), post r S1 A1 → tl_At l R nc ns Q D (wX q k) nL z (pc + 3) lv (.int r :: rest) (S1, A1)) : tl_At l R nc ns Q D (wX q k) nL z pc lv (.int x1 :: .ref (q 0) :: rest) (S, A) :=
  tl_callVi (n := 1) (As := [.int x1]) (b := q 0) (q0 := 0) (ci := 6) C (fun sz => cX_T_releaseSlot l D q k sz S A x1 hw) in_407 in_1 in_406 ip_22 (by decide +kernel) rfl ⟨rfl, rfl⟩ rfl rfl hl hf hdg kk
set_option maxHeartbeats 4000000 in
set_option maxRecDepth 100000 in
theorem cX_T_runRoutine (l : Launch) (D : va_G) (q : Nat → Nat) (k : Nat → ClassId) (sz : Nat) (S : SS) (A : AA) (x1 x2 : Int32) {post : Int32 → SS → AA → Prop} (hw : wX_T_runRoutine post S A x1 x2) : tl_Met l y_T_runRoutine b_T_runRoutine 3 (some .int) (tl_R 3) D (wX q k) (tX k) sz [.ref (q 0), .int x1, .int x2] (S, A) (tl_Qi D (wX q k) (tX k) post) := by
  refine tl_met (own := R_T) (lv := [(0, .ref (q 0)), (1, .int x1), (2, .int x2)]) (by decide) rfl rfl (Nat.le_of_ble_eq_true rfl) (fun z C => ?_)
  refine tl_aload_n (pc := 0) C d_T_runRoutine_0 rfl 0 rfl ?_
  refine gX_T_26 (pc := 1) C d_T_runRoutine_1 ?_
  refine tl_iconst (pc := 4) (v := 1) C d_T_runRoutine_4 (by decide) ?_
  refine kX_Sd_add (pc := 5) C hw ml_T_186 d_T_runRoutine_5 rfl (fun S5 A5 hw => ?_)
  refine tl_aload_n (pc := 8) C d_T_runRoutine_8 rfl 0 rfl ?_
  refine gX_T_26 (pc := 9) C d_T_runRoutine_9 ?_
  refine tl_iload_n (pc := 12) C d_T_runRoutine_12 rfl 1 rfl ?_
  refine kX_Sd_add (pc := 13) C hw ml_T_186 d_T_runRoutine_13 rfl (fun S13 A13 hw => ?_)
  refine tl_iload_n (pc := 16) C d_T_runRoutine_16 rfl 1 rfl ?_
  refine tl_iconst (pc := 17) (v := 1) C d_T_runRoutine_17 (by decide) ?_
  refine tl_icmp_ne (pc := 18) (tgt := 27) C d_T_runRoutine_18 rfl (fun hc => ?_) (fun hc => ?_)
  · have hw := hw.1 hc
    refine tl_iload_n (pc := 27) C d_T_runRoutine_27 rfl 1 rfl ?_
    refine tl_iconst (pc := 28) (v := 2) C d_T_runRoutine_28 (by decide) ?_
    refine tl_icmp_ne (pc := 29) (tgt := 40) C d_T_runRoutine_29 rfl (fun hc => ?_) (fun hc => ?_)
    · have hw := hw.1 hc
      refine tl_aload_n (pc := 40) C d_T_runRoutine_40 rfl 0 rfl ?_
      refine tl_iload_n (pc := 41) C d_T_runRoutine_41 rfl 2 rfl ?_
      refine kX_T_releaseSlot (pc := 42) C hw ml_T_260 d_T_runRoutine_42 rfl (fun r42 S42 A42 hw => ?_)
      exact tl_iret (pc := 45) C d_T_runRoutine_45 hw
    · have hw := hw.2 hc
      refine tl_aload_n (pc := 32) C d_T_runRoutine_32 rfl 0 rfl ?_
      refine tl_iload_n (pc := 33) C d_T_runRoutine_33 rfl 2 rfl ?_
      refine kX_T_checkSlot (pc := 34) C hw ml_T_257 d_T_runRoutine_34 rfl (fun r34 S34 A34 hw => ?_)
      refine tl_goto (pc := 37) (tgt := 45) C d_T_runRoutine_37 rfl ?_
      exact tl_iret (pc := 45) C d_T_runRoutine_45 hw
  · have hw := hw.2 hc
    refine tl_aload_n (pc := 21) C d_T_runRoutine_21 rfl 0 rfl ?_
    refine tl_iload_n (pc := 22) C d_T_runRoutine_22 rfl 2 rfl ?_
    refine kX_T_eraseSlot (pc := 23) C hw ml_T_254 d_T_runRoutine_23 rfl (fun r23 S23 A23 hw => ?_)
    exact tl_iret (pc := 26) C d_T_runRoutine_26 hw
theorem kX_T_runRoutine {l : Launch} {R : Room} {nc ns : Nat} {Q : tl_Z → State → Prop} {D : va_G} {q : Nat → Nat} {k : Nat → ClassId} {nL : Nat} {z : tl_Z} {cc : ByteArray} {ret : Option FieldType} {pc : Nat} {lv : List (Nat × Value)} {rest : List Value} {S : SS} {A : AA} {own : String} {idx : Nat} {x1 x2 : Int32} {post : Int32 → SS → AA → Prop} (C : tl_Cx cc nL own ret D (tX k) z) (hw : wX_T_runRoutine post S A x1 x2) (hl : Cond.methodLink own idx y_T_runRoutine ∈ wsAll) (hdg : decode cc pc = .ok (.invokevirtual idx, 3)) (hf : tl_fit R (tl_R 3) nc ns 3 rest = true) (kk : ∀ (r : Int32) (S1 : SS) (A1 : AA), post r S1 A1 → tl_At l R nc ns Q D (wX q k) nL z (pc + 3) lv (.int r :: rest) (S1, A1)) : tl_At l R nc ns Q D (wX q k) nL z pc lv (.int x2 :: .int x1 :: .ref (q 0) :: rest) (S, A) :=
  tl_callVi (n := 2) (As := [.int x1, .int x2]) (b := q 0) (q0 := 0) (ci := 6) C (fun sz => cX_T_runRoutine l D q k sz S A x1 x2 hw) in_378 in_1 in_377 ip_17 (by decide +kernel) rfl ⟨rfl, rfl⟩ rfl rfl hl hf hdg kk
set_option maxHeartbeats 4000000 in
set_option maxRecDepth 100000 in
theorem cX_Dl_addBlock (l : Launch) (D : va_G) (q : Nat → Nat) (k : Nat → ClassId) (sz : Nat) (S : SS) (A : AA) (x1 : Int32) {post : SS → AA → Prop} (hw : wX_Dl_addBlock post S A x1) : tl_Met l y_Dl_addBlock b_Dl_addBlock 2 none (tl_R 0) D (wX q k) (tX k) sz [.ref (q 11), .int x1] (S, A) (tl_Qv D (wX q k) (tX k) post) := by
  refine tl_met (own := R_Dl) (lv := [(0, .ref (q 11)), (1, .int x1)]) (by decide) rfl rfl (Nat.le_of_ble_eq_true rfl) (fun z C => ?_)
  refine tl_aload_n (pc := 0) C d_Dl_addBlock_0 rfl 0 rfl ?_
  refine tl_dup (pc := 1) C d_Dl_addBlock_1 rfl ?_
  refine gX_Dl_22 (pc := 2) (v := (S 26)) C rfl d_Dl_addBlock_2 ?_
  refine tl_iload_n (pc := 5) C d_Dl_addBlock_5 rfl 1 rfl ?_
  refine tl_iadd (pc := 6) C d_Dl_addBlock_6 ?_
  refine pX_Dl_22 (pc := 7) C d_Dl_addBlock_7 ?_
  refine tl_aload_n (pc := 10) C d_Dl_addBlock_10 rfl 0 rfl ?_
  refine tl_dup (pc := 11) C d_Dl_addBlock_11 rfl ?_
  refine gX_Dl_25 (pc := 12) (v := (S 27)) C rfl d_Dl_addBlock_12 ?_
  refine tl_iconst (pc := 15) (v := 1) C d_Dl_addBlock_15 (by decide) ?_
  refine tl_iadd (pc := 16) C d_Dl_addBlock_16 ?_
  refine pX_Dl_25 (pc := 17) C d_Dl_addBlock_17 ?_
  exact tl_vret (pc := 20) C d_Dl_addBlock_20 hw
theorem kX_Dl_addBlock {l : Launch} {R : Room} {nc ns : Nat} {Q : tl_Z → State → Prop} {D : va_G} {q : Nat → Nat} {k : Nat → ClassId} {nL : Nat} {z : tl_Z} {cc : ByteArray} {ret : Option FieldType} {pc : Nat} {lv : List (Nat × Value)} {rest : List Value} {S : SS} {A : AA} {own : String} {idx : Nat} {x1 : Int32} {post : SS → AA → Prop} (C : tl_Cx cc nL own ret D (tX k) z) (hw : wX_Dl_addBlock post S A x1) (hl : Cond.methodLink own idx y_Dl_addBlock ∈ wsAll) (hdg : decode cc pc = .ok (.invokevirtual idx, 3)) (hf : tl_fit R (tl_R 0) nc ns 2 rest = true) (kk : ∀ (S1 : SS) (A1 : AA), post S1 A1 → tl_At l R nc ns Q D (wX q k) nL z (pc + 3) lv (rest) (S1, A1)) : tl_At l R nc ns Q D (wX q k) nL z pc lv (.int x1 :: .ref (q 11) :: rest) (S, A) :=
  tl_callVv (n := 1) (As := [.int x1]) (b := q 11) (q0 := 11) (ci := 0) C (fun sz => cX_Dl_addBlock l D q k sz S A x1 hw) in_444 in_7 in_442 in_443 (by decide +kernel) rfl ⟨rfl, rfl⟩ rfl rfl hl hf hdg kk
set_option maxHeartbeats 4000000 in
set_option maxRecDepth 100000 in
theorem cX_Dl_isLatest (l : Launch) (D : va_G) (q : Nat → Nat) (k : Nat → ClassId) (sz : Nat) (S : SS) (A : AA) (x1 : Int32) {post : Int32 → SS → AA → Prop} (hw : wX_Dl_isLatest post S A x1) : tl_Met l y_Dl_isLatest b_Dl_isLatest 2 (some .boolean) (tl_R 0) D (wX q k) (tX k) sz [.ref (q 11), .int x1] (S, A) (tl_Qi D (wX q k) (tX k) post) := by
  refine tl_met (own := R_Dl) (lv := [(0, .ref (q 11)), (1, .int x1)]) (by decide) rfl rfl (Nat.le_of_ble_eq_true rfl) (fun z C => ?_)
  refine tl_aload_n (pc := 0) C d_Dl_isLatest_0 rfl 0 rfl ?_
  refine gX_Dl_25 (pc := 1) (v := (S 27)) C rfl d_Dl_isLatest_1 ?_
  refine tl_if_le (pc := 4) (tgt := 23) C d_Dl_isLatest_4 rfl (fun hc => ?_) (fun hc => ?_)
  · have hw := hw.1 hc
    refine tl_iconst (pc := 23) (v := 0) C d_Dl_isLatest_23 (by decide) ?_
    exact tl_zret (pc := 24) C (by decide) d_Dl_isLatest_24 hw
  · have hw := hw.2 hc
    refine tl_iload_n (pc := 7) C d_Dl_isLatest_7 rfl 1 rfl ?_
    refine tl_aload_n (pc := 8) C d_Dl_isLatest_8 rfl 0 rfl ?_
    refine gX_Dl_25 (pc := 9) (v := (S 27)) C rfl d_Dl_isLatest_9 ?_
    refine tl_sipush (pc := 12) (v := 255) C d_Dl_isLatest_12 (by decide) ?_
    refine tl_iand (pc := 15) C d_Dl_isLatest_15 ?_
    refine tl_icmp_ne (pc := 16) (tgt := 23) C d_Dl_isLatest_16 rfl (fun hc => ?_) (fun hc => ?_)
    · have hw := hw.1 hc
      refine tl_iconst (pc := 23) (v := 0) C d_Dl_isLatest_23 (by decide) ?_
      exact tl_zret (pc := 24) C (by decide) d_Dl_isLatest_24 hw
    · have hw := hw.2 hc
      refine tl_iconst (pc := 19) (v := 1) C d_Dl_isLatest_19 (by decide) ?_
      refine tl_goto (pc := 20) (tgt := 24) C d_Dl_isLatest_20 rfl ?_
      exact tl_zret (pc := 24) C (by decide) d_Dl_isLatest_24 hw
theorem kX_Dl_isLatest {l : Launch} {R : Room} {nc ns : Nat} {Q : tl_Z → State → Prop} {D : va_G} {q : Nat → Nat} {k : Nat → ClassId} {nL : Nat} {z : tl_Z} {cc : ByteArray} {ret : Option FieldType} {pc : Nat} {lv : List (Nat × Value)} {rest : List Value} {S : SS} {A : AA} {own : String} {idx : Nat} {x1 : Int32} {post : Int32 → SS → AA → Prop} (C : tl_Cx cc nL own ret D (tX k) z) (hw : wX_Dl_isLatest post S A x1) (hl : Cond.methodLink own idx y_Dl_isLatest ∈ wsAll) (hdg : decode cc pc = .ok (.invokevirtual idx, 3)) (hf : tl_fit R (tl_R 0) nc ns 2 rest = true) (kk : ∀ (r : Int32) (S1 : SS) (A1 : AA), post r S1 A1 → tl_At l R nc ns Q D (wX q k) nL z (pc + 3) lv (.int r :: rest) (S1, A1)) : tl_At l R nc ns Q D (wX q k) nL z pc lv (.int x1 :: .ref (q 11) :: rest) (S, A) :=
  tl_callVi (n := 1) (As := [.int x1]) (b := q 11) (q0 := 11) (ci := 0) C (fun sz => cX_Dl_isLatest l D q k sz S A x1 hw) in_436 in_7 in_434 in_435 (by decide +kernel) rfl ⟨rfl, rfl⟩ rfl rfl hl hf hdg kk
set_option maxHeartbeats 4000000 in
set_option maxRecDepth 100000 in
theorem cX_Dl_isNext (l : Launch) (D : va_G) (q : Nat → Nat) (k : Nat → ClassId) (sz : Nat) (S : SS) (A : AA) (x1 : Int32) {post : Int32 → SS → AA → Prop} (hw : wX_Dl_isNext post S A x1) : tl_Met l y_Dl_isNext b_Dl_isNext 2 (some .boolean) (tl_R 0) D (wX q k) (tX k) sz [.ref (q 11), .int x1] (S, A) (tl_Qi D (wX q k) (tX k) post) := by
  refine tl_met (own := R_Dl) (lv := [(0, .ref (q 11)), (1, .int x1)]) (by decide) rfl rfl (Nat.le_of_ble_eq_true rfl) (fun z C => ?_)
  refine tl_iload_n (pc := 0) C d_Dl_isNext_0 rfl 1 rfl ?_
  refine tl_aload_n (pc := 1) C d_Dl_isNext_1 rfl 0 rfl ?_
  refine gX_Dl_25 (pc := 2) (v := (S 27)) C rfl d_Dl_isNext_2 ?_
  refine tl_iconst (pc := 5) (v := 1) C d_Dl_isNext_5 (by decide) ?_
  refine tl_iadd (pc := 6) C d_Dl_isNext_6 ?_
  refine tl_sipush (pc := 7) (v := 255) C d_Dl_isNext_7 (by decide) ?_
  refine tl_iand (pc := 10) C d_Dl_isNext_10 ?_
  refine tl_icmp_ne (pc := 11) (tgt := 18) C d_Dl_isNext_11 rfl (fun hc => ?_) (fun hc => ?_)
  · have hw := hw.1 hc
    refine tl_iconst (pc := 18) (v := 0) C d_Dl_isNext_18 (by decide) ?_
    exact tl_zret (pc := 19) C (by decide) d_Dl_isNext_19 hw
  · have hw := hw.2 hc
    refine tl_iconst (pc := 14) (v := 1) C d_Dl_isNext_14 (by decide) ?_
    refine tl_goto (pc := 15) (tgt := 19) C d_Dl_isNext_15 rfl ?_
    exact tl_zret (pc := 19) C (by decide) d_Dl_isNext_19 hw
theorem kX_Dl_isNext {l : Launch} {R : Room} {nc ns : Nat} {Q : tl_Z → State → Prop} {D : va_G} {q : Nat → Nat} {k : Nat → ClassId} {nL : Nat} {z : tl_Z} {cc : ByteArray} {ret : Option FieldType} {pc : Nat} {lv : List (Nat × Value)} {rest : List Value} {S : SS} {A : AA} {own : String} {idx : Nat} {x1 : Int32} {post : Int32 → SS → AA → Prop} (C : tl_Cx cc nL own ret D (tX k) z) (hw : wX_Dl_isNext post S A x1) (hl : Cond.methodLink own idx y_Dl_isNext ∈ wsAll) (hdg : decode cc pc = .ok (.invokevirtual idx, 3)) (hf : tl_fit R (tl_R 0) nc ns 2 rest = true) (kk : ∀ (r : Int32) (S1 : SS) (A1 : AA), post r S1 A1 → tl_At l R nc ns Q D (wX q k) nL z (pc + 3) lv (.int r :: rest) (S1, A1)) : tl_At l R nc ns Q D (wX q k) nL z pc lv (.int x1 :: .ref (q 11) :: rest) (S, A) :=
  tl_callVi (n := 1) (As := [.int x1]) (b := q 11) (q0 := 11) (ci := 0) C (fun sz => cX_Dl_isNext l D q k sz S A x1 hw) in_440 in_7 in_438 in_439 (by decide +kernel) rfl ⟨rfl, rfl⟩ rfl rfl hl hf hdg kk
set_option maxHeartbeats 4000000 in
set_option maxRecDepth 100000 in
theorem cX_Mm_holds_4 (l : Launch) (D : va_G) (q : Nat → Nat) (k : Nat → ClassId) (sz : Nat) (S : SS) (A : AA) (x1 x3 x4 : Int32) {post : Int32 → SS → AA → Prop} (hw : wX_Mm_holds_4 post S A x1 x3 x4) : tl_Met l y_Mm_holds b_Mm_holds 6 (some .boolean) (tl_R 1) D (wX q k) (tX k) sz [.ref (q 1), .int x1, .ref (q 4), .int x3, .int x4] (S, A) (tl_Qi D (wX q k) (tX k) post) := by
  refine tl_met (own := R_Mm) (lv := [(0, .ref (q 1)), (1, .int x1), (2, .ref (q 4)), (3, .int x3), (4, .int x4)]) (by decide) rfl rfl (Nat.le_of_ble_eq_true rfl) (fun z C => ?_)
  have B24 : ∀ (S : SS) (A : AA) (x1 x3 x4 x5 : Int32), wX_Mm_holds_4_24 post S A x1 x3 x4 x5 → tl_At l (tl_R 1) 0 0 (tl_M 0 0 (tl_Qi D (wX q k) (tX k) post)) D (wX q k) 6 z 24 [(0, .ref (q 1)), (1, .int x1), (2, .ref (q 4)), (3, .int x3), (4, .int x4), (5, .int x5)] [] (S, A) := by
    intro S A x1 x3 x4 x5 hw
    have key : ∀ X24 : SS → AA → Int32 → Int32 → Int32 → Int32 → Prop, (∀ (S : SS) (A : AA) (x1 x3 x4 x5 : Int32), X24 S A x1 x3 x4 x5 → tl_At l (tl_R 1) 0 0 (tl_M 0 0 (tl_Qi D (wX q k) (tX k) post)) D (wX q k) 6 z 24 [(0, .ref (q 1)), (1, .int x1), (2, .ref (q 4)), (3, .int x3), (4, .int x4), (5, .int x5)] [] (S, A)) → ∀ (S : SS) (A : AA) (x1 x3 x4 x5 : Int32), wX_Mm_holds_4_24B post X24 S A x1 x3 x4 x5 → tl_At l (tl_R 1) 0 0 (tl_M 0 0 (tl_Qi D (wX q k) (tX k) post)) D (wX q k) 6 z 24 [(0, .ref (q 1)), (1, .int x1), (2, .ref (q 4)), (3, .int x3), (4, .int x4), (5, .int x5)] [] (S, A) := by
      intro X24 hX24 S A x1 x3 x4 x5 hw
      refine tl_iload (pc := 24) C d_Mm_holds_24 5 rfl ?_
      refine tl_iload (pc := 26) C d_Mm_holds_26 4 rfl ?_
      refine tl_icmp_ge (pc := 28) (tgt := 57) C d_Mm_holds_28 rfl (fun hc => ?_) (fun hc => ?_)
      · have hw := hw.1 hc
        refine tl_iconst (pc := 57) (v := 1) C d_Mm_holds_57 (by decide) ?_
        exact tl_zret (pc := 58) C (by decide) d_Mm_holds_58 hw
      · have hw := hw.2 hc
        refine tl_aload_n (pc := 31) C d_Mm_holds_31 rfl 0 rfl ?_
        refine gX_Mm_11 (pc := 32) C d_Mm_holds_32 ?_
        refine tl_iload_n (pc := 35) C d_Mm_holds_35 rfl 1 rfl ?_
        refine tl_iload (pc := 36) C d_Mm_holds_36 5 rfl ?_
        refine tl_iadd (pc := 38) C d_Mm_holds_38 ?_
        obtain ⟨hi, hw⟩ := hw
        refine rX_ald0 (pc := 39) (f := (A 0)) C rfl hi d_Mm_holds_39 ?_
        refine tl_aload_n (pc := 40) C d_Mm_holds_40 rfl 2 rfl ?_
        refine tl_iload_n (pc := 41) C d_Mm_holds_41 rfl 3 rfl ?_
        refine tl_iload (pc := 42) C d_Mm_holds_42 5 rfl ?_
        refine tl_iadd (pc := 44) C d_Mm_holds_44 ?_
        obtain ⟨hi, hw⟩ := hw
        refine rX_ald1 (pc := 45) (f := (A 1)) C rfl hi d_Mm_holds_45 ?_
        refine tl_icmp_eq (pc := 46) (tgt := 51) C d_Mm_holds_46 rfl (fun hc => ?_) (fun hc => ?_)
        · have hw := hw.1 hc
          refine tl_iinc (pc := 51) (lv' := [(5, .int (x5 + (1 : Int32))), (0, .ref (q 1)), (1, .int x1), (2, .ref (q 4)), (3, .int x3), (4, .int x4)]) C d_Mm_holds_51 (by decide) 5 rfl rfl (by decide) rfl ?_
          refine tl_goto (pc := 54) (tgt := 24) C d_Mm_holds_54 rfl ?_
          exact tl_sub [1, 2, 3, 4, 5, 0] rfl (hX24 _ _ _ _ _ _ hw)
        · have hw := hw.2 hc
          refine tl_iconst (pc := 49) (v := 0) C d_Mm_holds_49 (by decide) ?_
          exact tl_zret (pc := 50) C (by decide) d_Mm_holds_50 hw
    exact hw _ (fun S A x1 x3 x4 x5 hb => key _ (fun _ _ _ _ _ _ h => h) S A x1 x3 x4 x5 hb)
  refine tl_aload_n (pc := 0) C d_Mm_holds_0 rfl 0 rfl ?_
  refine tl_iload_n (pc := 1) C d_Mm_holds_1 rfl 1 rfl ?_
  refine tl_iload (pc := 2) C d_Mm_holds_2 4 rfl ?_
  refine kX_Mm_has (pc := 4) C hw ml_Mm_30 d_Mm_holds_4 rfl (fun r4 S4 A4 hw => ?_)
  refine tl_if_eq (pc := 7) (tgt := 19) C d_Mm_holds_7 rfl (fun hc => ?_) (fun hc => ?_)
  · have hw := hw.1 hc
    refine tl_iconst (pc := 19) (v := 0) C d_Mm_holds_19 (by decide) ?_
    exact tl_zret (pc := 20) C (by decide) d_Mm_holds_20 hw
  · have hw := hw.2 hc
    refine tl_iload_n (pc := 10) C d_Mm_holds_10 rfl 3 rfl ?_
    refine tl_aload_n (pc := 11) C d_Mm_holds_11 rfl 2 rfl ?_
    refine rX_len1 (pc := 12) C d_Mm_holds_12 ?_
    refine tl_iload (pc := 13) C d_Mm_holds_13 4 rfl ?_
    refine tl_isub (pc := 15) C d_Mm_holds_15 ?_
    refine tl_icmp_le (pc := 16) (tgt := 21) C d_Mm_holds_16 rfl (fun hc => ?_) (fun hc => ?_)
    · have hw := hw.1 hc
      refine tl_iconst (pc := 21) (v := 0) C d_Mm_holds_21 (by decide) ?_
      refine tl_istore (pc := 22) (lv' := [(5, .int (0 : Int32)), (0, .ref (q 1)), (1, .int x1), (2, .ref (q 4)), (3, .int x3), (4, .int x4)]) C d_Mm_holds_22 (by decide) rfl ?_
      exact tl_sub [1, 2, 3, 4, 5, 0] rfl (B24 _ _ _ _ _ _ hw)
    · have hw := hw.2 hc
      refine tl_iconst (pc := 19) (v := 0) C d_Mm_holds_19 (by decide) ?_
      exact tl_zret (pc := 20) C (by decide) d_Mm_holds_20 hw
