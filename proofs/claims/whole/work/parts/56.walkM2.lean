theorem kM_M_furtherFrame {l : Launch} {R : Room} {nc ns : Nat} {Q : tl_Z → State → Prop} {D : va_G} {q : Nat → Nat} {k : Nat → ClassId} {nL : Nat} {z : tl_Z} {cc : ByteArray} {ret : Option FieldType} {pc : Nat} {lv : List (Nat × Value)} {rest : List Value} {S : SS} {A : AA} {own : String} {idx : Nat} {x1 : Int32} {post : SS → AA → Prop} (C : tl_Cx cc nL own ret D (tM k) z) (hw : wM_M_furtherFrame post S A x1) (hl : Cond.methodLink own idx y_M_furtherFrame ∈ wsAll) (hdg : decode cc pc = .ok (.invokevirtual idx, 3)) (hf : tl_fit R (tl_R 7) nc ns 2 rest = true) (kk : ∀ (S1 : SS) (A1 : AA), post S1 A1 → tl_At l R nc ns Q D (wM q k) nL z (pc + 3) lv (rest) (S1, A1)) : tl_At l R nc ns Q D (wM q k) nL z pc lv (.int x1 :: .ref (q 0) :: rest) (S, A) :=
  tl_callVv (n := 1) (As := [.int x1]) (b := q 0) (q0 := 0) (ci := 7) C (fun sz => cM_M_furtherFrame l D q k sz S A x1 hw) in_779 in_8 in_778 ip_61 (by decide +kernel) rfl ⟨rfl, rfl⟩ rfl rfl hl hf hdg kk
set_option maxHeartbeats 4000000 in
set_option maxRecDepth 100000 in
theorem cM_M_frame (l : Launch) (D : va_G) (q : Nat → Nat) (k : Nat → ClassId) (sz : Nat) (S : SS) (A : AA) (x1 x2 : Int32) {post : Int32 → SS → AA → Prop} (hw : wM_M_frame post S A x1 x2) : tl_Met l y_M_frame b_M_frame 4 (some .int) (tl_R 8) D (wM q k) (tM k) sz [.ref (q 0), .int x1, .int x2] (S, A) (tl_Qi D (wM q k) (tM k) post) := by
  refine tl_met (own := R_M) (lv := [(0, .ref (q 0)), (1, .int x1), (2, .int x2)]) (by decide) rfl rfl (Nat.le_of_ble_eq_true rfl) (fun z C => ?_)
  have B179 : ∀ (S : SS) (A : AA), wM_M_frame_179 post S A → tl_At l (tl_R 8) 0 0 (tl_M 0 0 (tl_Qi D (wM q k) (tM k) post)) D (wM q k) 4 z 179 [(0, .ref (q 0))] [] (S, A) := by
    intro S A hw
    refine tl_aload_n (pc := 179) C d_M_frame_179 rfl 0 rfl ?_
    refine gM_M_36 (pc := 180) (v := (S 24)) C rfl d_M_frame_180 ?_
    exact tl_iret (pc := 183) C d_M_frame_183 hw
  have B148 : ∀ (S : SS) (A : AA) (x3 : Int32), wM_M_frame_148 post S A x3 → tl_At l (tl_R 8) 0 0 (tl_M 0 0 (tl_Qi D (wM q k) (tM k) post)) D (wM q k) 4 z 148 [(0, .ref (q 0)), (3, .int x3)] [] (S, A) := by
    intro S A x3 hw
    refine tl_iload_n (pc := 148) C d_M_frame_148 rfl 1 rfl ?_
    refine tl_bipush (pc := 149) (v := 32) C d_M_frame_149 (by decide) ?_
    refine tl_icmp_lt (pc := 151) (tgt := 179) C d_M_frame_151 rfl (fun hc => ?_) (fun hc => ?_)
    · have hw := hw.1 hc
      exact tl_sub [0] rfl (B179 _ _ hw)
    · have hw := hw.2 hc
      refine tl_iload_n (pc := 154) C d_M_frame_154 rfl 1 rfl ?_
      refine tl_bipush (pc := 155) (v := 47) C d_M_frame_155 (by decide) ?_
      refine tl_icmp_gt (pc := 157) (tgt := 179) C d_M_frame_157 rfl (fun hc => ?_) (fun hc => ?_)
      · have hw := hw.1 hc
        exact tl_sub [0] rfl (B179 _ _ hw)
      · have hw := hw.2 hc
        refine tl_aload_n (pc := 160) C d_M_frame_160 rfl 0 rfl ?_
        refine gM_M_102 (pc := 161) (v := (S 17)) C rfl d_M_frame_161 ?_
        refine tl_aload_n (pc := 164) C d_M_frame_164 rfl 0 rfl ?_
        refine gM_M_99 (pc := 165) (v := (S 16)) C rfl d_M_frame_165 ?_
        refine tl_icmp_ge (pc := 168) (tgt := 179) C d_M_frame_168 rfl (fun hc => ?_) (fun hc => ?_)
        · have hw := hw.1 hc
          exact tl_sub [0] rfl (B179 _ _ hw)
        · have hw := hw.2 hc
          refine tl_aload_n (pc := 171) C d_M_frame_171 rfl 0 rfl ?_
          refine tl_iload_n (pc := 172) C d_M_frame_172 rfl 1 rfl ?_
          refine tl_bipush (pc := 173) (v := 32) C d_M_frame_173 (by decide) ?_
          refine tl_isub (pc := 175) C d_M_frame_175 ?_
          refine kM_M_furtherFrame (pc := 176) C hw ml_M_217 d_M_frame_176 rfl (fun S176 A176 hw => ?_)
          exact tl_sub [0] rfl (B179 _ _ hw)
  have B102 : ∀ (S : SS) (A : AA) (x3 : Int32), wM_M_frame_102 post S A x3 → tl_At l (tl_R 8) 0 0 (tl_M 0 0 (tl_Qi D (wM q k) (tM k) post)) D (wM q k) 4 z 102 [(0, .ref (q 0)), (3, .int x3)] [] (S, A) := by
    intro S A x3 hw
    refine tl_iload_n (pc := 102) C d_M_frame_102 rfl 1 rfl ?_
    refine tl_bipush (pc := 103) (v := 16) C d_M_frame_103 (by decide) ?_
    refine tl_icmp_ne (pc := 105) (tgt := 148) C d_M_frame_105 rfl (fun hc => ?_) (fun hc => ?_)
    · have hw := hw.1 hc
      exact tl_sub [0, 1] rfl (B148 _ _ _ hw)
    · have hw := hw.2 hc
      refine tl_aload_n (pc := 108) C d_M_frame_108 rfl 0 rfl ?_
      refine gM_M_26 (pc := 109) C d_M_frame_109 ?_
      refine tl_iconst (pc := 112) (v := 1) C d_M_frame_112 (by decide) ?_
      obtain ⟨hi, hw⟩ := hw
      refine rM_ald4 (pc := 113) (f := (A 4)) C rfl hi d_M_frame_113 ?_
      refine tl_bipush (pc := 114) (v := 8) C d_M_frame_114 (by decide) ?_
      refine tl_icmp_lt (pc := 116) (tgt := 148) C d_M_frame_116 rfl (fun hc => ?_) (fun hc => ?_)
      · have hw := hw.1 hc
        exact tl_sub [0, 1] rfl (B148 _ _ _ hw)
      · have hw := hw.2 hc
        refine tl_aload_n (pc := 119) C d_M_frame_119 rfl 0 rfl ?_
        refine gM_M_26 (pc := 120) C d_M_frame_120 ?_
        refine tl_iconst (pc := 123) (v := 1) C d_M_frame_123 (by decide) ?_
        obtain ⟨hi, hw⟩ := hw
        refine rM_ald4 (pc := 124) (f := (A 4)) C rfl hi d_M_frame_124 ?_
        refine tl_bipush (pc := 125) (v := 34) C d_M_frame_125 (by decide) ?_
        refine tl_icmp_gt (pc := 127) (tgt := 148) C d_M_frame_127 rfl (fun hc => ?_) (fun hc => ?_)
        · have hw := hw.1 hc
          exact tl_sub [0, 1] rfl (B148 _ _ _ hw)
        · have hw := hw.2 hc
          refine tl_aload_n (pc := 130) C d_M_frame_130 rfl 0 rfl ?_
          refine tl_aload_n (pc := 131) C d_M_frame_131 rfl 0 rfl ?_
          refine gM_M_26 (pc := 132) C d_M_frame_132 ?_
          refine tl_iconst (pc := 135) (v := 1) C d_M_frame_135 (by decide) ?_
          obtain ⟨hi, hw⟩ := hw
          refine rM_ald4 (pc := 136) (f := (A 4)) C rfl hi d_M_frame_136 ?_
          refine tl_iconst (pc := 137) (v := 2) C d_M_frame_137 (by decide) ?_
          refine kM_M_beginRequest (pc := 138) C hw ml_M_213 d_M_frame_138 rfl (fun S138 A138 hw => ?_)
          refine tl_aload_n (pc := 141) C d_M_frame_141 rfl 0 rfl ?_
          refine kM_M_askMore (pc := 142) C hw ml_M_204 d_M_frame_142 rfl (fun S142 A142 hw => ?_)
          refine tl_goto (pc := 145) (tgt := 179) C d_M_frame_145 rfl ?_
          exact tl_sub [0] rfl (B179 _ _ hw)
  have B2 : ∀ (S : SS) (A : AA) (x1 x2 x3 : Int32), wM_M_frame_2 post S A x1 x2 x3 → tl_At l (tl_R 8) 0 0 (tl_M 0 0 (tl_Qi D (wM q k) (tM k) post)) D (wM q k) 4 z 2 [(0, .ref (q 0)), (1, .int x1), (2, .int x2), (3, .int x3)] [] (S, A) := by
    intro S A x1 x2 x3 hw
    have key : ∀ X2 : SS → AA → Int32 → Int32 → Int32 → Prop, (∀ (S : SS) (A : AA) (x1 x2 x3 : Int32), X2 S A x1 x2 x3 → tl_At l (tl_R 8) 0 0 (tl_M 0 0 (tl_Qi D (wM q k) (tM k) post)) D (wM q k) 4 z 2 [(0, .ref (q 0)), (1, .int x1), (2, .int x2), (3, .int x3)] [] (S, A)) → ∀ (S : SS) (A : AA) (x1 x2 x3 : Int32), wM_M_frame_2B post X2 S A x1 x2 x3 → tl_At l (tl_R 8) 0 0 (tl_M 0 0 (tl_Qi D (wM q k) (tM k) post)) D (wM q k) 4 z 2 [(0, .ref (q 0)), (1, .int x1), (2, .int x2), (3, .int x3)] [] (S, A) := by
      intro X2 hX2 S A x1 x2 x3 hw
      refine tl_iload_n (pc := 2) C d_M_frame_2 rfl 3 rfl ?_
      refine tl_iconst (pc := 3) (v := 4) C d_M_frame_3 (by decide) ?_
      refine tl_icmp_ge (pc := 4) (tgt := 53) C d_M_frame_4 rfl (fun hc => ?_) (fun hc => ?_)
      · have hw := hw.1 hc
        refine tl_aload_n (pc := 53) C d_M_frame_53 rfl 0 rfl ?_
        refine gM_M_26 (pc := 54) C d_M_frame_54 ?_
        refine tl_iconst (pc := 57) (v := 0) C d_M_frame_57 (by decide) ?_
        obtain ⟨hi, hw⟩ := hw
        refine rM_ald4 (pc := 58) (f := (A 4)) C rfl hi d_M_frame_58 ?_
        refine tl_istore_n (pc := 59) (lv' := [(3, .int ((A 4) (0 : Int32).toNatClampNeg)), (0, .ref (q 0)), (1, .int x1), (2, .int x2)]) C d_M_frame_59 rfl (by decide) rfl ?_
        refine tl_aload_n (pc := 60) C d_M_frame_60 rfl 1 rfl ?_
        refine gM_M_108 (pc := 61) (v := (S 21)) C rfl d_M_frame_61 ?_
        refine tl_aload_n (pc := 64) C d_M_frame_64 rfl 1 rfl ?_
        refine gM_M_105 (pc := 65) (v := (S 20)) C rfl d_M_frame_65 ?_
        refine tl_icmp_ge (pc := 68) (tgt := 78) C d_M_frame_68 rfl (fun hc => ?_) (fun hc => ?_)
        · have hw := hw.1 hc
          refine tl_iload_n (pc := 78) C d_M_frame_78 rfl 0 rfl ?_
          refine tl_iconst (pc := 79) (v := 1) C d_M_frame_79 (by decide) ?_
          refine tl_icmp_lt (pc := 80) (tgt := 102) C d_M_frame_80 rfl (fun hc => ?_) (fun hc => ?_)
          · have hw := hw.1 hc
            exact tl_sub [1, 0] rfl (B102 _ _ _ hw)
          · have hw := hw.2 hc
            refine tl_iload_n (pc := 83) C d_M_frame_83 rfl 0 rfl ?_
            refine tl_bipush (pc := 84) (v := 7) C d_M_frame_84 (by decide) ?_
            refine tl_icmp_gt (pc := 86) (tgt := 102) C d_M_frame_86 rfl (fun hc => ?_) (fun hc => ?_)
            · have hw := hw.1 hc
              exact tl_sub [1, 0] rfl (B102 _ _ _ hw)
            · have hw := hw.2 hc
              refine tl_aload_n (pc := 89) C d_M_frame_89 rfl 1 rfl ?_
              refine tl_iload_n (pc := 90) C d_M_frame_90 rfl 0 rfl ?_
              refine tl_iconst (pc := 91) (v := 1) C d_M_frame_91 (by decide) ?_
              refine kM_M_beginRequest (pc := 92) C hw ml_M_213 d_M_frame_92 rfl (fun S92 A92 hw => ?_)
              refine tl_aload_n (pc := 95) C d_M_frame_95 rfl 1 rfl ?_
              refine kM_M_complete (pc := 96) C hw ml_M_201 d_M_frame_96 rfl (fun S96 A96 hw => ?_)
              refine tl_goto (pc := 99) (tgt := 179) C d_M_frame_99 rfl ?_
              exact tl_sub [1] rfl (B179 _ _ hw)
        · have hw := hw.2 hc
          refine tl_aload_n (pc := 71) C d_M_frame_71 rfl 1 rfl ?_
          refine kM_M_answerFrame (pc := 72) C hw ml_M_210 d_M_frame_72 rfl (fun S72 A72 hw => ?_)
          refine tl_goto (pc := 75) (tgt := 179) C d_M_frame_75 rfl ?_
          exact tl_sub [1] rfl (B179 _ _ hw)
      · have hw := hw.2 hc
        refine tl_aload_n (pc := 7) C d_M_frame_7 rfl 0 rfl ?_
        refine gM_M_26 (pc := 8) C d_M_frame_8 ?_
        refine tl_iload_n (pc := 11) C d_M_frame_11 rfl 3 rfl ?_
        refine tl_iload_n (pc := 12) C d_M_frame_12 rfl 1 rfl ?_
        refine tl_bipush (pc := 13) (v := 24) C d_M_frame_13 (by decide) ?_
        refine tl_bipush (pc := 15) (v := 8) C d_M_frame_15 (by decide) ?_
        refine tl_iload_n (pc := 17) C d_M_frame_17 rfl 3 rfl ?_
        refine tl_imul (pc := 18) C d_M_frame_18 ?_
        refine tl_isub (pc := 19) C d_M_frame_19 ?_
        refine tl_iushr (pc := 20) C d_M_frame_20 ?_
        refine tl_sipush (pc := 21) (v := 255) C d_M_frame_21 (by decide) ?_
        refine tl_iand (pc := 24) C d_M_frame_24 ?_
        obtain ⟨hi, hw⟩ := hw
        refine rM_ast4 (pc := 25) (f := (A 4)) C rfl hi d_M_frame_25 ?_
        refine tl_aload_n (pc := 26) C d_M_frame_26 rfl 0 rfl ?_
        refine gM_M_26 (pc := 27) C d_M_frame_27 ?_
        refine tl_iconst (pc := 30) (v := 4) C d_M_frame_30 (by decide) ?_
        refine tl_iload_n (pc := 31) C d_M_frame_31 rfl 3 rfl ?_
        refine tl_iadd (pc := 32) C d_M_frame_32 ?_
        refine tl_iload_n (pc := 33) C d_M_frame_33 rfl 2 rfl ?_
        refine tl_bipush (pc := 34) (v := 24) C d_M_frame_34 (by decide) ?_
        refine tl_bipush (pc := 36) (v := 8) C d_M_frame_36 (by decide) ?_
        refine tl_iload_n (pc := 38) C d_M_frame_38 rfl 3 rfl ?_
        refine tl_imul (pc := 39) C d_M_frame_39 ?_
        refine tl_isub (pc := 40) C d_M_frame_40 ?_
        refine tl_iushr (pc := 41) C d_M_frame_41 ?_
        refine tl_sipush (pc := 42) (v := 255) C d_M_frame_42 (by decide) ?_
        refine tl_iand (pc := 45) C d_M_frame_45 ?_
        obtain ⟨hi, hw⟩ := hw
        refine rM_ast4 (pc := 46) (f := (upd (A 4) x3.toNatClampNeg ((x1.toUInt32 >>> (((24 : Int32) - ((8 : Int32) * x3)).toUInt32 &&& Int32.toUInt32 31)).toInt32 &&& (255 : Int32)))) C rfl hi d_M_frame_46 ?_
        refine tl_iinc (pc := 47) (lv' := [(3, .int (x3 + (1 : Int32))), (0, .ref (q 0)), (1, .int x1), (2, .int x2)]) C d_M_frame_47 (by decide) 3 rfl rfl (by decide) rfl ?_
        refine tl_goto (pc := 50) (tgt := 2) C d_M_frame_50 rfl ?_
        exact tl_sub [1, 2, 3, 0] rfl (hX2 _ _ _ _ _ hw)
    exact hw _ (fun S A x1 x2 x3 hb => key _ (fun _ _ _ _ _ h => h) S A x1 x2 x3 hb)
  refine tl_iconst (pc := 0) (v := 0) C d_M_frame_0 (by decide) ?_
  refine tl_istore_n (pc := 1) (lv' := [(3, .int (0 : Int32)), (0, .ref (q 0)), (1, .int x1), (2, .int x2)]) C d_M_frame_1 rfl (by decide) rfl ?_
  exact tl_sub [1, 2, 3, 0] rfl (B2 _ _ _ _ _ hw)
set_option maxHeartbeats 4000000 in
set_option maxRecDepth 100000 in
theorem cM_M_peek (l : Launch) (D : va_G) (q : Nat → Nat) (k : Nat → ClassId) (sz : Nat) (S : SS) (A : AA) (x1 : Int32) {post : Int32 → SS → AA → Prop} (hw : wM_M_peek post S A x1) : tl_Met l y_M_peek b_M_peek 2 (some .int) (tl_R 0) D (wM q k) (tM k) sz [.ref (q 0), .int x1] (S, A) (tl_Qi D (wM q k) (tM k) post) := by
  refine tl_met (own := R_M) (lv := [(0, .ref (q 0)), (1, .int x1)]) (by decide) rfl rfl (Nat.le_of_ble_eq_true rfl) (fun z C => ?_)
  refine tl_aload_n (pc := 0) C d_M_peek_0 rfl 0 rfl ?_
  refine gM_M_36 (pc := 1) (v := (S 24)) C rfl d_M_peek_1 ?_
  refine tl_if_le (pc := 4) (tgt := 26) C d_M_peek_4 rfl (fun hc => ?_) (fun hc => ?_)
  · have hw := hw.1 hc
    refine tl_iconst (pc := 26) (v := -1) C d_M_peek_26 (by decide) ?_
    exact tl_iret (pc := 27) C d_M_peek_27 hw
  · have hw := hw.2 hc
    refine tl_iload_n (pc := 7) C d_M_peek_7 rfl 1 rfl ?_
    refine tl_if_lt (pc := 8) (tgt := 26) C d_M_peek_8 rfl (fun hc => ?_) (fun hc => ?_)
    · have hw := hw.1 hc
      refine tl_iconst (pc := 26) (v := -1) C d_M_peek_26 (by decide) ?_
      exact tl_iret (pc := 27) C d_M_peek_27 hw
    · have hw := hw.2 hc
      refine tl_iload_n (pc := 11) C d_M_peek_11 rfl 1 rfl ?_
      refine tl_bipush (pc := 12) (v := 8) C d_M_peek_12 (by decide) ?_
      refine tl_icmp_ge (pc := 14) (tgt := 26) C d_M_peek_14 rfl (fun hc => ?_) (fun hc => ?_)
      · have hw := hw.1 hc
        refine tl_iconst (pc := 26) (v := -1) C d_M_peek_26 (by decide) ?_
        exact tl_iret (pc := 27) C d_M_peek_27 hw
      · have hw := hw.2 hc
        refine tl_aload_n (pc := 17) C d_M_peek_17 rfl 0 rfl ?_
        refine gM_M_23 (pc := 18) C d_M_peek_18 ?_
        refine tl_iload_n (pc := 21) C d_M_peek_21 rfl 1 rfl ?_
        obtain ⟨hi, hw⟩ := hw
        refine rM_ald3 (pc := 22) (f := (A 3)) C rfl hi d_M_peek_22 ?_
        refine tl_goto (pc := 23) (tgt := 27) C d_M_peek_23 rfl ?_
        exact tl_iret (pc := 27) C d_M_peek_27 hw
set_option maxHeartbeats 4000000 in
set_option maxRecDepth 100000 in
theorem cM_M_take (l : Launch) (D : va_G) (q : Nat → Nat) (k : Nat → ClassId) (sz : Nat) (S : SS) (A : AA) {post : Int32 → SS → AA → Prop} (hw : wM_M_take post S A) : tl_Met l y_M_take b_M_take 2 (some .boolean) (tl_R 0) D (wM q k) (tM k) sz [.ref (q 0)] (S, A) (tl_Qi D (wM q k) (tM k) post) := by
  refine tl_met (own := R_M) (lv := [(0, .ref (q 0))]) (by decide) rfl rfl (Nat.le_of_ble_eq_true rfl) (fun z C => ?_)
  have B21 : ∀ (S : SS) (A : AA) (x1 : Int32), wM_M_take_21 post S A x1 → tl_At l (tl_R 0) 0 0 (tl_M 0 0 (tl_Qi D (wM q k) (tM k) post)) D (wM q k) 2 z 21 [(0, .ref (q 0)), (1, .int x1)] [] (S, A) := by
    intro S A x1 hw
    have key : ∀ X21 : SS → AA → Int32 → Prop, (∀ (S : SS) (A : AA) (x1 : Int32), X21 S A x1 → tl_At l (tl_R 0) 0 0 (tl_M 0 0 (tl_Qi D (wM q k) (tM k) post)) D (wM q k) 2 z 21 [(0, .ref (q 0)), (1, .int x1)] [] (S, A)) → ∀ (S : SS) (A : AA) (x1 : Int32), wM_M_take_21B post X21 S A x1 → tl_At l (tl_R 0) 0 0 (tl_M 0 0 (tl_Qi D (wM q k) (tM k) post)) D (wM q k) 2 z 21 [(0, .ref (q 0)), (1, .int x1)] [] (S, A) := by
      intro X21 hX21 S A x1 hw
      refine tl_iload_n (pc := 21) C d_M_take_21 rfl 1 rfl ?_
      refine tl_bipush (pc := 22) (v := 8) C d_M_take_22 (by decide) ?_
      refine tl_aload_n (pc := 24) C d_M_take_24 rfl 0 rfl ?_
      refine gM_M_36 (pc := 25) (v := (S 24)) C rfl d_M_take_25 ?_
      refine tl_imul (pc := 28) C d_M_take_28 ?_
      refine tl_icmp_ge (pc := 29) (tgt := 53) C d_M_take_29 rfl (fun hc => ?_) (fun hc => ?_)
      · have hw := hw.1 hc
        refine tl_iconst (pc := 53) (v := 1) C d_M_take_53 (by decide) ?_
        exact tl_zret (pc := 54) C (by decide) d_M_take_54 hw
      · have hw := hw.2 hc
        refine tl_aload_n (pc := 32) C d_M_take_32 rfl 0 rfl ?_
        refine gM_M_23 (pc := 33) C d_M_take_33 ?_
        refine tl_iload_n (pc := 36) C d_M_take_36 rfl 1 rfl ?_
        refine tl_aload_n (pc := 37) C d_M_take_37 rfl 0 rfl ?_
        refine gM_M_23 (pc := 38) C d_M_take_38 ?_
        refine tl_iload_n (pc := 41) C d_M_take_41 rfl 1 rfl ?_
        refine tl_bipush (pc := 42) (v := 8) C d_M_take_42 (by decide) ?_
        refine tl_iadd (pc := 44) C d_M_take_44 ?_
        obtain ⟨hi, hw⟩ := hw
        refine rM_ald3 (pc := 45) (f := (A 3)) C rfl hi d_M_take_45 ?_
        obtain ⟨hi, hw⟩ := hw
        refine rM_ast3 (pc := 46) (f := (A 3)) C rfl hi d_M_take_46 ?_
        refine tl_iinc (pc := 47) (lv' := [(1, .int (x1 + (1 : Int32))), (0, .ref (q 0))]) C d_M_take_47 (by decide) 1 rfl rfl (by decide) rfl ?_
        refine tl_goto (pc := 50) (tgt := 21) C d_M_take_50 rfl ?_
        exact tl_sub [1, 0] rfl (hX21 _ _ _ hw)
    exact hw _ (fun S A x1 hb => key _ (fun _ _ _ h => h) S A x1 hb)
  refine tl_aload_n (pc := 0) C d_M_take_0 rfl 0 rfl ?_
  refine gM_M_36 (pc := 1) (v := (S 24)) C rfl d_M_take_1 ?_
  refine tl_if_ne (pc := 4) (tgt := 9) C d_M_take_4 rfl (fun hc => ?_) (fun hc => ?_)
  · have hw := hw.1 hc
    refine tl_aload_n (pc := 9) C d_M_take_9 rfl 0 rfl ?_
    refine tl_dup (pc := 10) C d_M_take_10 rfl ?_
    refine gM_M_36 (pc := 11) (v := (S 24)) C rfl d_M_take_11 ?_
    refine tl_iconst (pc := 14) (v := 1) C d_M_take_14 (by decide) ?_
    refine tl_isub (pc := 15) C d_M_take_15 ?_
    refine pM_M_36 (pc := 16) C d_M_take_16 ?_
    refine tl_iconst (pc := 19) (v := 0) C d_M_take_19 (by decide) ?_
    refine tl_istore_n (pc := 20) (lv' := [(1, .int (0 : Int32)), (0, .ref (q 0))]) C d_M_take_20 rfl (by decide) rfl ?_
    exact tl_sub [1, 0] rfl (B21 _ _ _ hw)
  · have hw := hw.2 hc
    refine tl_iconst (pc := 7) (v := 0) C d_M_take_7 (by decide) ?_
    exact tl_zret (pc := 8) C (by decide) d_M_take_8 hw
set_option maxHeartbeats 4000000 in
set_option maxRecDepth 100000 in
theorem cM_M_tick (l : Launch) (D : va_G) (q : Nat → Nat) (k : Nat → ClassId) (sz : Nat) (S : SS) (A : AA) {post : SS → AA → Prop} (hw : wM_M_tick post S A) : tl_Met l y_M_tick b_M_tick 1 none (tl_R 1) D (wM q k) (tM k) sz [.ref (q 0)] (S, A) (tl_Qv D (wM q k) (tM k) post) := by
  refine tl_met (own := R_M) (lv := [(0, .ref (q 0))]) (by decide) rfl rfl (Nat.le_of_ble_eq_true rfl) (fun z C => ?_)
  have B138 : ∀ (S : SS) (A : AA) (y0 : Int32), wM_M_tick_138 post S A y0 → tl_At l (tl_R 1) 0 0 (tl_M 0 0 (tl_Qv D (wM q k) (tM k) post)) D (wM q k) 1 z 138 [] [.int y0, .ref (q 0)] (S, A) := by
    intro S A y0 hw
    refine pM_M_84 (pc := 138) C d_M_tick_138 ?_
    exact tl_vret (pc := 141) C d_M_tick_141 hw
  have B120 : ∀ (S : SS) (A : AA), wM_M_tick_120 post S A → tl_At l (tl_R 1) 0 0 (tl_M 0 0 (tl_Qv D (wM q k) (tM k) post)) D (wM q k) 1 z 120 [(0, .ref (q 0))] [] (S, A) := by
    intro S A hw
    refine tl_aload_n (pc := 120) C d_M_tick_120 rfl 0 rfl ?_
    refine tl_aload_n (pc := 121) C d_M_tick_121 rfl 0 rfl ?_
    refine gM_M_84 (pc := 122) (v := (S 10)) C rfl d_M_tick_122 ?_
    refine tl_if_le (pc := 125) (tgt := 137) C d_M_tick_125 rfl (fun hc => ?_) (fun hc => ?_)
    · have hw := hw.1 hc
      refine tl_iconst (pc := 137) (v := 0) C d_M_tick_137 (by decide) ?_
      exact tl_sub [] rfl (B138 _ _ _ hw)
    · have hw := hw.2 hc
      refine tl_aload_n (pc := 128) C d_M_tick_128 rfl 0 rfl ?_
      refine gM_M_84 (pc := 129) (v := (S 10)) C rfl d_M_tick_129 ?_
      refine tl_iconst (pc := 132) (v := 1) C d_M_tick_132 (by decide) ?_
      refine tl_isub (pc := 133) C d_M_tick_133 ?_
      refine tl_goto (pc := 134) (tgt := 138) C d_M_tick_134 rfl ?_
      exact tl_sub [] rfl (B138 _ _ _ hw)
  have B66 : ∀ (S : SS) (A : AA), wM_M_tick_66 post S A → tl_At l (tl_R 1) 0 0 (tl_M 0 0 (tl_Qv D (wM q k) (tM k) post)) D (wM q k) 1 z 66 [(0, .ref (q 0))] [] (S, A) := by
    intro S A hw
    refine tl_aload_n (pc := 66) C d_M_tick_66 rfl 0 rfl ?_
    refine tl_dup (pc := 67) C d_M_tick_67 rfl ?_
    refine gM_M_177 (pc := 68) (v := (S 11)) C rfl d_M_tick_68 ?_
    refine tl_iconst (pc := 71) (v := 1) C d_M_tick_71 (by decide) ?_
    refine tl_iadd (pc := 72) C d_M_tick_72 ?_
    refine pM_M_177 (pc := 73) C d_M_tick_73 ?_
    refine tl_aload_n (pc := 76) C d_M_tick_76 rfl 0 rfl ?_
    refine gM_M_90 (pc := 77) (v := (S 3)) C rfl d_M_tick_77 ?_
    refine tl_iconst (pc := 80) (v := 2) C d_M_tick_80 (by decide) ?_
    refine tl_icmp_ne (pc := 81) (tgt := 120) C d_M_tick_81 rfl (fun hc => ?_) (fun hc => ?_)
    · have hw := hw.1 hc
      exact tl_sub [0] rfl (B120 _ _ hw)
    · have hw := hw.2 hc
      refine tl_aload_n (pc := 84) C d_M_tick_84 rfl 0 rfl ?_
      refine gM_M_177 (pc := 85) (v := ((S 11) + (1 : Int32))) C rfl d_M_tick_85 ?_
      refine tl_bipush (pc := 88) (v := 10) C d_M_tick_88 (by decide) ?_
      refine tl_icmp_lt (pc := 90) (tgt := 120) C d_M_tick_90 rfl (fun hc => ?_) (fun hc => ?_)
      · have hw := hw.1 hc
        exact tl_sub [0] rfl (B120 _ _ hw)
      · have hw := hw.2 hc
        refine tl_aload_n (pc := 93) C d_M_tick_93 rfl 0 rfl ?_
        refine gM_M_102 (pc := 94) (v := (S 17)) C rfl d_M_tick_94 ?_
        refine tl_aload_n (pc := 97) C d_M_tick_97 rfl 0 rfl ?_
        refine gM_M_99 (pc := 98) (v := (S 16)) C rfl d_M_tick_98 ?_
        refine tl_icmp_ne (pc := 101) (tgt := 120) C d_M_tick_101 rfl (fun hc => ?_) (fun hc => ?_)
        · have hw := hw.1 hc
          exact tl_sub [0] rfl (B120 _ _ hw)
        · have hw := hw.2 hc
          refine tl_aload_n (pc := 104) C d_M_tick_104 rfl 0 rfl ?_
          refine gM_M_108 (pc := 105) (v := (S 21)) C rfl d_M_tick_105 ?_
          refine tl_aload_n (pc := 108) C d_M_tick_108 rfl 0 rfl ?_
          refine gM_M_105 (pc := 109) (v := (S 20)) C rfl d_M_tick_109 ?_
          refine tl_icmp_ne (pc := 112) (tgt := 120) C d_M_tick_112 rfl (fun hc => ?_) (fun hc => ?_)
          · have hw := hw.1 hc
            exact tl_sub [0] rfl (B120 _ _ hw)
          · have hw := hw.2 hc
            refine tl_aload_n (pc := 115) C d_M_tick_115 rfl 0 rfl ?_
            refine tl_iconst (pc := 116) (v := 1) C d_M_tick_116 (by decide) ?_
            refine kM_M_changeSession (pc := 117) C hw ml_M_68 d_M_tick_117 rfl (fun S117 A117 hw => ?_)
            exact tl_sub [0] rfl (B120 _ _ hw)
  have B33 : ∀ (S : SS) (A : AA), wM_M_tick_33 post S A → tl_At l (tl_R 1) 0 0 (tl_M 0 0 (tl_Qv D (wM q k) (tM k) post)) D (wM q k) 1 z 33 [(0, .ref (q 0))] [] (S, A) := by
    intro S A hw
    refine tl_aload_n (pc := 33) C d_M_tick_33 rfl 0 rfl ?_
    refine gM_M_108 (pc := 34) (v := (S 21)) C rfl d_M_tick_34 ?_
    refine tl_aload_n (pc := 37) C d_M_tick_37 rfl 0 rfl ?_
    refine gM_M_105 (pc := 38) (v := (S 20)) C rfl d_M_tick_38 ?_
    refine tl_icmp_ge (pc := 41) (tgt := 66) C d_M_tick_41 rfl (fun hc => ?_) (fun hc => ?_)
    · have hw := hw.1 hc
      exact tl_sub [0] rfl (B66 _ _ hw)
    · have hw := hw.2 hc
      refine tl_aload_n (pc := 44) C d_M_tick_44 rfl 0 rfl ?_
      refine tl_dup (pc := 45) C d_M_tick_45 rfl ?_
      refine gM_M_123 (pc := 46) (v := (S 23)) C rfl d_M_tick_46 ?_
      refine tl_iconst (pc := 49) (v := 1) C d_M_tick_49 (by decide) ?_
      refine tl_iadd (pc := 50) C d_M_tick_50 ?_
      refine pM_M_123 (pc := 51) C d_M_tick_51 ?_
      refine tl_aload_n (pc := 54) C d_M_tick_54 rfl 0 rfl ?_
      refine gM_M_123 (pc := 55) (v := ((S 23) + (1 : Int32))) C rfl d_M_tick_55 ?_
      refine tl_iconst (pc := 58) (v := 4) C d_M_tick_58 (by decide) ?_
      refine tl_icmp_ne (pc := 59) (tgt := 66) C d_M_tick_59 rfl (fun hc => ?_) (fun hc => ?_)
      · have hw := hw.1 hc
        exact tl_sub [0] rfl (B66 _ _ hw)
      · have hw := hw.2 hc
        refine tl_aload_n (pc := 62) C d_M_tick_62 rfl 0 rfl ?_
        refine kM_M_dropAnswer (pc := 63) C hw ml_M_75 d_M_tick_63 rfl (fun S63 A63 hw => ?_)
        exact tl_sub [0] rfl (B66 _ _ hw)
  refine tl_aload_n (pc := 0) C d_M_tick_0 rfl 0 rfl ?_
  refine gM_M_102 (pc := 1) (v := (S 17)) C rfl d_M_tick_1 ?_
  refine tl_aload_n (pc := 4) C d_M_tick_4 rfl 0 rfl ?_
  refine gM_M_99 (pc := 5) (v := (S 16)) C rfl d_M_tick_5 ?_
  refine tl_icmp_ge (pc := 8) (tgt := 33) C d_M_tick_8 rfl (fun hc => ?_) (fun hc => ?_)
  · have hw := hw.1 hc
    exact tl_sub [0] rfl (B33 _ _ hw)
  · have hw := hw.2 hc
    refine tl_aload_n (pc := 11) C d_M_tick_11 rfl 0 rfl ?_
    refine tl_dup (pc := 12) C d_M_tick_12 rfl ?_
    refine gM_M_192 (pc := 13) (v := (S 19)) C rfl d_M_tick_13 ?_
    refine tl_iconst (pc := 16) (v := 1) C d_M_tick_16 (by decide) ?_
    refine tl_iadd (pc := 17) C d_M_tick_17 ?_
    refine pM_M_192 (pc := 18) C d_M_tick_18 ?_
    refine tl_aload_n (pc := 21) C d_M_tick_21 rfl 0 rfl ?_
    refine gM_M_192 (pc := 22) (v := ((S 19) + (1 : Int32))) C rfl d_M_tick_22 ?_
    refine tl_iconst (pc := 25) (v := 4) C d_M_tick_25 (by decide) ?_
    refine tl_icmp_ne (pc := 26) (tgt := 33) C d_M_tick_26 rfl (fun hc => ?_) (fun hc => ?_)
    · have hw := hw.1 hc
      exact tl_sub [0] rfl (B33 _ _ hw)
    · have hw := hw.2 hc
      refine tl_aload_n (pc := 29) C d_M_tick_29 rfl 0 rfl ?_
      refine kM_M_dropRequest (pc := 30) C hw ml_M_72 d_M_tick_30 rfl (fun S30 A30 hw => ?_)
      exact tl_sub [0] rfl (B33 _ _ hw)
set_option maxHeartbeats 4000000 in
set_option maxRecDepth 100000 in
theorem cM_M_cut (l : Launch) (D : va_G) (q : Nat → Nat) (k : Nat → ClassId) (sz : Nat) (S : SS) (A : AA) (x1 : Int32) {post : SS → AA → Prop} (hw : wM_M_cut post S A x1) : tl_Met l y_M_cut b_M_cut 2 none (tl_R 0) D (wM q k) (tM k) sz [.ref (q 0), .int x1] (S, A) (tl_Qv D (wM q k) (tM k) post) := by
  refine tl_met (own := R_M) (lv := [(0, .ref (q 0)), (1, .int x1)]) (by decide) rfl rfl (Nat.le_of_ble_eq_true rfl) (fun z C => ?_)
  refine tl_aload_n (pc := 0) C d_M_cut_0 rfl 0 rfl ?_
  refine tl_iconst (pc := 1) (v := 1) C d_M_cut_1 (by decide) ?_
  refine pM_M_46 (pc := 2) C (by decide) d_M_cut_2 ?_
  refine tl_aload_n (pc := 5) C d_M_cut_5 rfl 0 rfl ?_
  refine tl_iload_n (pc := 6) C d_M_cut_6 rfl 1 rfl ?_
  refine pM_M_50 (pc := 7) C d_M_cut_7 ?_
  exact tl_vret (pc := 10) C d_M_cut_10 hw
set_option maxHeartbeats 4000000 in
set_option maxRecDepth 100000 in
theorem cM_M_flash (l : Launch) (D : va_G) (q : Nat → Nat) (k : Nat → ClassId) (sz : Nat) (S : SS) (A : AA) (x1 : Int32) {post : Int32 → SS → AA → Prop} (hw : wM_M_flash post S A x1) : tl_Met l y_M_flash b_M_flash 2 (some .int) (tl_R 0) D (wM q k) (tM k) sz [.ref (q 0), .int x1] (S, A) (tl_Qi D (wM q k) (tM k) post) := by
  refine tl_met (own := R_M) (lv := [(0, .ref (q 0)), (1, .int x1)]) (by decide) rfl rfl (Nat.le_of_ble_eq_true rfl) (fun z C => ?_)
  have B10 : ∀ (S : SS) (A : AA), wM_M_flash_10 post S A → tl_At l (tl_R 0) 0 0 (tl_M 0 0 (tl_Qi D (wM q k) (tM k) post)) D (wM q k) 2 z 10 [] [] (S, A) := by
    intro S A hw
    refine tl_iconst (pc := 10) (v := -1) C d_M_flash_10 (by decide) ?_
    refine tl_goto (pc := 11) (tgt := 20) C d_M_flash_11 rfl ?_
    exact tl_iret (pc := 20) C d_M_flash_20 hw
  refine tl_iload_n (pc := 0) C d_M_flash_0 rfl 1 rfl ?_
  refine tl_if_lt (pc := 1) (tgt := 10) C d_M_flash_1 rfl (fun hc => ?_) (fun hc => ?_)
  · have hw := hw.1 hc
    exact tl_sub [] rfl (B10 _ _ hw)
  · have hw := hw.2 hc
    refine tl_iload_n (pc := 4) C d_M_flash_4 rfl 1 rfl ?_
    refine tl_bipush (pc := 5) (v := 95) C d_M_flash_5 (by decide) ?_
    refine tl_icmp_le (pc := 7) (tgt := 14) C d_M_flash_7 rfl (fun hc => ?_) (fun hc => ?_)
    · have hw := hw.1 hc
      refine tl_aload_n (pc := 14) C d_M_flash_14 rfl 0 rfl ?_
      refine gM_M_7 (pc := 15) C d_M_flash_15 ?_
      refine tl_iload_n (pc := 18) C d_M_flash_18 rfl 1 rfl ?_
      obtain ⟨hi, hw⟩ := hw
      refine rM_ald0 (pc := 19) (f := (A 0)) C rfl hi d_M_flash_19 ?_
      exact tl_iret (pc := 20) C d_M_flash_20 hw
    · have hw := hw.2 hc
      exact tl_sub [] rfl (B10 _ _ hw)
set_option maxHeartbeats 4000000 in
set_option maxRecDepth 100000 in
theorem cM_M_word (l : Launch) (D : va_G) (q : Nat → Nat) (k : Nat → ClassId) (sz : Nat) (S : SS) (A : AA) (x1 : Int32) {post : Int32 → SS → AA → Prop} (hw : wM_M_word post S A x1) : tl_Met l y_M_word b_M_word 2 (some .int) (tl_R 0) D (wM q k) (tM k) sz [.ref (q 0), .int x1] (S, A) (tl_Qi D (wM q k) (tM k) post) := by
  refine tl_met (own := R_M) (lv := [(0, .ref (q 0)), (1, .int x1)]) (by decide) rfl rfl (Nat.le_of_ble_eq_true rfl) (fun z C => ?_)
  refine tl_iload_n (pc := 0) C d_M_word_0 rfl 1 rfl ?_
  refine tl_if_lt (pc := 1) (tgt := 10) C d_M_word_1 rfl (fun hc => ?_) (fun hc => ?_)
  · have hw := hw.1 hc
    refine tl_iconst (pc := 10) (v := 0) C d_M_word_10 (by decide) ?_
    exact tl_iret (pc := 11) C d_M_word_11 hw
  · have hw := hw.2 hc
    refine tl_iload_n (pc := 4) C d_M_word_4 rfl 1 rfl ?_
    refine tl_bipush (pc := 5) (v := 92) C d_M_word_5 (by decide) ?_
    refine tl_icmp_le (pc := 7) (tgt := 12) C d_M_word_7 rfl (fun hc => ?_) (fun hc => ?_)
    · have hw := hw.1 hc
      refine tl_aload_n (pc := 12) C d_M_word_12 rfl 0 rfl ?_
      refine gM_M_7 (pc := 13) C d_M_word_13 ?_
      refine tl_iload_n (pc := 16) C d_M_word_16 rfl 1 rfl ?_
      obtain ⟨hi, hw⟩ := hw
      refine rM_ald0 (pc := 17) (f := (A 0)) C rfl hi d_M_word_17 ?_
      refine tl_bipush (pc := 18) (v := 24) C d_M_word_18 (by decide) ?_
      refine tl_ishl (pc := 20) C d_M_word_20 ?_
      refine tl_aload_n (pc := 21) C d_M_word_21 rfl 0 rfl ?_
      refine gM_M_7 (pc := 22) C d_M_word_22 ?_
      refine tl_iload_n (pc := 25) C d_M_word_25 rfl 1 rfl ?_
      refine tl_iconst (pc := 26) (v := 1) C d_M_word_26 (by decide) ?_
      refine tl_iadd (pc := 27) C d_M_word_27 ?_
      obtain ⟨hi, hw⟩ := hw
      refine rM_ald0 (pc := 28) (f := (A 0)) C rfl hi d_M_word_28 ?_
      refine tl_bipush (pc := 29) (v := 16) C d_M_word_29 (by decide) ?_
      refine tl_ishl (pc := 31) C d_M_word_31 ?_
      refine tl_ior (pc := 32) C d_M_word_32 ?_
      refine tl_aload_n (pc := 33) C d_M_word_33 rfl 0 rfl ?_
      refine gM_M_7 (pc := 34) C d_M_word_34 ?_
      refine tl_iload_n (pc := 37) C d_M_word_37 rfl 1 rfl ?_
      refine tl_iconst (pc := 38) (v := 2) C d_M_word_38 (by decide) ?_
      refine tl_iadd (pc := 39) C d_M_word_39 ?_
      obtain ⟨hi, hw⟩ := hw
      refine rM_ald0 (pc := 40) (f := (A 0)) C rfl hi d_M_word_40 ?_
      refine tl_bipush (pc := 41) (v := 8) C d_M_word_41 (by decide) ?_
      refine tl_ishl (pc := 43) C d_M_word_43 ?_
      refine tl_ior (pc := 44) C d_M_word_44 ?_
      refine tl_aload_n (pc := 45) C d_M_word_45 rfl 0 rfl ?_
      refine gM_M_7 (pc := 46) C d_M_word_46 ?_
      refine tl_iload_n (pc := 49) C d_M_word_49 rfl 1 rfl ?_
      refine tl_iconst (pc := 50) (v := 3) C d_M_word_50 (by decide) ?_
      refine tl_iadd (pc := 51) C d_M_word_51 ?_
      obtain ⟨hi, hw⟩ := hw
      refine rM_ald0 (pc := 52) (f := (A 0)) C rfl hi d_M_word_52 ?_
      refine tl_ior (pc := 53) C d_M_word_53 ?_
      exact tl_iret (pc := 54) C d_M_word_54 hw
    · have hw := hw.2 hc
      refine tl_iconst (pc := 10) (v := 0) C d_M_word_10 (by decide) ?_
      exact tl_iret (pc := 11) C d_M_word_11 hw
theorem swM_M_state_1_0 {σ : Type} {l : Launch} {R : Room} {nc ns : Nat} {Q : tl_Z → State → Prop} {D : va_G} {w : σ → va_W} {nL : Nat} {z : tl_Z} {own : String} {ret : Option FieldType} {tys : List (ClassId × FieldType)} {lv : List (Nat × Value)} {rest : List Value} {u : σ} {x : Int32} (C : tl_Cx b_M_state nL own ret D tys z) (hc : x = (0 : Int32)) (kk : tl_At l R nc ns Q D w nL z 52 lv rest u) : tl_At l R nc ns Q D w nL z 1 lv (.int x :: rest) u := by
  subst hc
  obtain ⟨p, e, s, m, args, below, meth, c, F⟩ := z
  obtain ⟨hx, hb, hml, hown, hts, hN, hK, hA, hlk, hr⟩ := C
  exact fun ls H locs hl hP hD hS => lv_tableIn hx hb d_M_state_1 (by decide) (by decide) (by decide +kernel : _ = some (51 : Int)) rfl (kk ls H locs hl hP hD hS)
theorem swM_M_state_1_1 {σ : Type} {l : Launch} {R : Room} {nc ns : Nat} {Q : tl_Z → State → Prop} {D : va_G} {w : σ → va_W} {nL : Nat} {z : tl_Z} {own : String} {ret : Option FieldType} {tys : List (ClassId × FieldType)} {lv : List (Nat × Value)} {rest : List Value} {u : σ} {x : Int32} (C : tl_Cx b_M_state nL own ret D tys z) (hc : x = (1 : Int32)) (kk : tl_At l R nc ns Q D w nL z 57 lv rest u) : tl_At l R nc ns Q D w nL z 1 lv (.int x :: rest) u := by
  subst hc
  obtain ⟨p, e, s, m, args, below, meth, c, F⟩ := z
  obtain ⟨hx, hb, hml, hown, hts, hN, hK, hA, hlk, hr⟩ := C
  exact fun ls H locs hl hP hD hS => lv_tableIn hx hb d_M_state_1 (by decide) (by decide) (by decide +kernel : _ = some (56 : Int)) rfl (kk ls H locs hl hP hD hS)
theorem swM_M_state_1_2 {σ : Type} {l : Launch} {R : Room} {nc ns : Nat} {Q : tl_Z → State → Prop} {D : va_G} {w : σ → va_W} {nL : Nat} {z : tl_Z} {own : String} {ret : Option FieldType} {tys : List (ClassId × FieldType)} {lv : List (Nat × Value)} {rest : List Value} {u : σ} {x : Int32} (C : tl_Cx b_M_state nL own ret D tys z) (hc : x = (2 : Int32)) (kk : tl_At l R nc ns Q D w nL z 62 lv rest u) : tl_At l R nc ns Q D w nL z 1 lv (.int x :: rest) u := by
  subst hc
  obtain ⟨p, e, s, m, args, below, meth, c, F⟩ := z
  obtain ⟨hx, hb, hml, hown, hts, hN, hK, hA, hlk, hr⟩ := C
  exact fun ls H locs hl hP hD hS => lv_tableIn hx hb d_M_state_1 (by decide) (by decide) (by decide +kernel : _ = some (61 : Int)) rfl (kk ls H locs hl hP hD hS)
theorem swM_M_state_1_3 {σ : Type} {l : Launch} {R : Room} {nc ns : Nat} {Q : tl_Z → State → Prop} {D : va_G} {w : σ → va_W} {nL : Nat} {z : tl_Z} {own : String} {ret : Option FieldType} {tys : List (ClassId × FieldType)} {lv : List (Nat × Value)} {rest : List Value} {u : σ} {x : Int32} (C : tl_Cx b_M_state nL own ret D tys z) (hc : x = (3 : Int32)) (kk : tl_At l R nc ns Q D w nL z 75 lv rest u) : tl_At l R nc ns Q D w nL z 1 lv (.int x :: rest) u := by
  subst hc
  obtain ⟨p, e, s, m, args, below, meth, c, F⟩ := z
  obtain ⟨hx, hb, hml, hown, hts, hN, hK, hA, hlk, hr⟩ := C
  exact fun ls H locs hl hP hD hS => lv_tableIn hx hb d_M_state_1 (by decide) (by decide) (by decide +kernel : _ = some (74 : Int)) rfl (kk ls H locs hl hP hD hS)
theorem swM_M_state_1_4 {σ : Type} {l : Launch} {R : Room} {nc ns : Nat} {Q : tl_Z → State → Prop} {D : va_G} {w : σ → va_W} {nL : Nat} {z : tl_Z} {own : String} {ret : Option FieldType} {tys : List (ClassId × FieldType)} {lv : List (Nat × Value)} {rest : List Value} {u : σ} {x : Int32} (C : tl_Cx b_M_state nL own ret D tys z) (hc : x = (4 : Int32)) (kk : tl_At l R nc ns Q D w nL z 80 lv rest u) : tl_At l R nc ns Q D w nL z 1 lv (.int x :: rest) u := by
  subst hc
  obtain ⟨p, e, s, m, args, below, meth, c, F⟩ := z
  obtain ⟨hx, hb, hml, hown, hts, hN, hK, hA, hlk, hr⟩ := C
  exact fun ls H locs hl hP hD hS => lv_tableIn hx hb d_M_state_1 (by decide) (by decide) (by decide +kernel : _ = some (79 : Int)) rfl (kk ls H locs hl hP hD hS)
theorem swM_M_state_1_5 {σ : Type} {l : Launch} {R : Room} {nc ns : Nat} {Q : tl_Z → State → Prop} {D : va_G} {w : σ → va_W} {nL : Nat} {z : tl_Z} {own : String} {ret : Option FieldType} {tys : List (ClassId × FieldType)} {lv : List (Nat × Value)} {rest : List Value} {u : σ} {x : Int32} (C : tl_Cx b_M_state nL own ret D tys z) (hc : x = (5 : Int32)) (kk : tl_At l R nc ns Q D w nL z 93 lv rest u) : tl_At l R nc ns Q D w nL z 1 lv (.int x :: rest) u := by
  subst hc
  obtain ⟨p, e, s, m, args, below, meth, c, F⟩ := z
  obtain ⟨hx, hb, hml, hown, hts, hN, hK, hA, hlk, hr⟩ := C
  exact fun ls H locs hl hP hD hS => lv_tableIn hx hb d_M_state_1 (by decide) (by decide) (by decide +kernel : _ = some (92 : Int)) rfl (kk ls H locs hl hP hD hS)
theorem swM_M_state_1_6 {σ : Type} {l : Launch} {R : Room} {nc ns : Nat} {Q : tl_Z → State → Prop} {D : va_G} {w : σ → va_W} {nL : Nat} {z : tl_Z} {own : String} {ret : Option FieldType} {tys : List (ClassId × FieldType)} {lv : List (Nat × Value)} {rest : List Value} {u : σ} {x : Int32} (C : tl_Cx b_M_state nL own ret D tys z) (hc : x = (6 : Int32)) (kk : tl_At l R nc ns Q D w nL z 98 lv rest u) : tl_At l R nc ns Q D w nL z 1 lv (.int x :: rest) u := by
  subst hc
  obtain ⟨p, e, s, m, args, below, meth, c, F⟩ := z
  obtain ⟨hx, hb, hml, hown, hts, hN, hK, hA, hlk, hr⟩ := C
  exact fun ls H locs hl hP hD hS => lv_tableIn hx hb d_M_state_1 (by decide) (by decide) (by decide +kernel : _ = some (97 : Int)) rfl (kk ls H locs hl hP hD hS)
theorem swM_M_state_1_7 {σ : Type} {l : Launch} {R : Room} {nc ns : Nat} {Q : tl_Z → State → Prop} {D : va_G} {w : σ → va_W} {nL : Nat} {z : tl_Z} {own : String} {ret : Option FieldType} {tys : List (ClassId × FieldType)} {lv : List (Nat × Value)} {rest : List Value} {u : σ} {x : Int32} (C : tl_Cx b_M_state nL own ret D tys z) (hc : x = (7 : Int32)) (kk : tl_At l R nc ns Q D w nL z 108 lv rest u) : tl_At l R nc ns Q D w nL z 1 lv (.int x :: rest) u := by
  subst hc
  obtain ⟨p, e, s, m, args, below, meth, c, F⟩ := z
  obtain ⟨hx, hb, hml, hown, hts, hN, hK, hA, hlk, hr⟩ := C
  exact fun ls H locs hl hP hD hS => lv_tableIn hx hb d_M_state_1 (by decide) (by decide) (by decide +kernel : _ = some (107 : Int)) rfl (kk ls H locs hl hP hD hS)
theorem swM_M_state_1_8 {σ : Type} {l : Launch} {R : Room} {nc ns : Nat} {Q : tl_Z → State → Prop} {D : va_G} {w : σ → va_W} {nL : Nat} {z : tl_Z} {own : String} {ret : Option FieldType} {tys : List (ClassId × FieldType)} {lv : List (Nat × Value)} {rest : List Value} {u : σ} {x : Int32} (C : tl_Cx b_M_state nL own ret D tys z) (hc : x = (8 : Int32)) (kk : tl_At l R nc ns Q D w nL z 118 lv rest u) : tl_At l R nc ns Q D w nL z 1 lv (.int x :: rest) u := by
  subst hc
  obtain ⟨p, e, s, m, args, below, meth, c, F⟩ := z
  obtain ⟨hx, hb, hml, hown, hts, hN, hK, hA, hlk, hr⟩ := C
  exact fun ls H locs hl hP hD hS => lv_tableIn hx hb d_M_state_1 (by decide) (by decide) (by decide +kernel : _ = some (117 : Int)) rfl (kk ls H locs hl hP hD hS)
theorem swM_M_state_1_d {σ : Type} {l : Launch} {R : Room} {nc ns : Nat} {Q : tl_Z → State → Prop} {D : va_G} {w : σ → va_W} {nL : Nat} {z : tl_Z} {own : String} {ret : Option FieldType} {tys : List (ClassId × FieldType)} {lv : List (Nat × Value)} {rest : List Value} {u : σ} {x : Int32} (C : tl_Cx b_M_state nL own ret D tys z) (h0 : ¬ x = (0 : Int32)) (h1 : ¬ x = (1 : Int32)) (h2 : ¬ x = (2 : Int32)) (h3 : ¬ x = (3 : Int32)) (h4 : ¬ x = (4 : Int32)) (h5 : ¬ x = (5 : Int32)) (h6 : ¬ x = (6 : Int32)) (h7 : ¬ x = (7 : Int32)) (h8 : ¬ x = (8 : Int32)) (kk : tl_At l R nc ns Q D w nL z 123 lv rest u) : tl_At l R nc ns Q D w nL z 1 lv (.int x :: rest) u := by
  obtain ⟨p, e, s, m, args, below, meth, c, F⟩ := z
  obtain ⟨hx, hb, hml, hown, hts, hN, hK, hA, hlk, hr⟩ := C
  intro ls H locs hl hP hD hS
  have n0 := lv_neT h0 (show (0 : Int32).toInt = 0 by decide)
  have n1 := lv_neT h1 (show (1 : Int32).toInt = 1 by decide)
  have n2 := lv_neT h2 (show (2 : Int32).toInt = 2 by decide)
  have n3 := lv_neT h3 (show (3 : Int32).toInt = 3 by decide)
  have n4 := lv_neT h4 (show (4 : Int32).toInt = 4 by decide)
  have n5 := lv_neT h5 (show (5 : Int32).toInt = 5 by decide)
  have n6 := lv_neT h6 (show (6 : Int32).toInt = 6 by decide)
  have n7 := lv_neT h7 (show (7 : Int32).toInt = 7 by decide)
  have n8 := lv_neT h8 (show (8 : Int32).toInt = 8 by decide)
  by_cases ha : x.toInt < 0
  · exact lv_tableOut hx hb d_M_state_1 (Or.inl ha) rfl (kk ls H locs hl hP hD hS)
  by_cases hz : 8 < x.toInt
  · exact lv_tableOut hx hb d_M_state_1 (Or.inr hz) rfl (kk ls H locs hl hP hD hS)
  exact absurd hz (by omega)
set_option maxHeartbeats 4000000 in
set_option maxRecDepth 100000 in
theorem cM_M_state (l : Launch) (D : va_G) (q : Nat → Nat) (k : Nat → ClassId) (sz : Nat) (S : SS) (A : AA) (x1 : Int32) {post : Int32 → SS → AA → Prop} (hw : wM_M_state post S A x1) : tl_Met l y_M_state b_M_state 2 (some .int) (tl_R 1) D (wM q k) (tM k) sz [.ref (q 0), .int x1] (S, A) (tl_Qi D (wM q k) (tM k) post) := by
  refine tl_met (own := R_M) (lv := [(0, .ref (q 0)), (1, .int x1)]) (by decide) rfl rfl (Nat.le_of_ble_eq_true rfl) (fun z C => ?_)
  refine tl_iload_n (pc := 0) C d_M_state_0 rfl 1 rfl ?_
  by_cases hc : x1 = (0 : Int32)
  · have hw := hw.1 hc
    refine swM_M_state_1_0 C hc ?_
    refine tl_aload_n (pc := 52) C d_M_state_52 rfl 0 rfl ?_
    refine gM_M_65 (pc := 53) (v := (S 2)) C rfl d_M_state_53 ?_
    exact tl_iret (pc := 56) C d_M_state_56 hw
  · have hw := hw.2 hc
    have hc0 := hc
    by_cases hc : x1 = (1 : Int32)
    · have hw := hw.1 hc
      refine swM_M_state_1_1 C hc ?_
      refine tl_aload_n (pc := 57) C d_M_state_57 rfl 0 rfl ?_
      refine gM_M_90 (pc := 58) (v := (S 3)) C rfl d_M_state_58 ?_
      exact tl_iret (pc := 61) C d_M_state_61 hw
    · have hw := hw.2 hc
      have hc1 := hc
      by_cases hc : x1 = (2 : Int32)
      · have hw := hw.1 hc
        refine swM_M_state_1_2 C hc ?_
        refine tl_aload_n (pc := 62) C d_M_state_62 rfl 0 rfl ?_
        refine gM_M_93 (pc := 63) (v := (S 4)) C rfl d_M_state_63 ?_
        refine tl_if_eq (pc := 66) (tgt := 73) C d_M_state_66 rfl (fun hc => ?_) (fun hc => ?_)
        · have hw := hw.1 hc
          refine tl_iconst (pc := 73) (v := 0) C d_M_state_73 (by decide) ?_
          exact tl_iret (pc := 74) C d_M_state_74 hw
        · have hw := hw.2 hc
          refine tl_iconst (pc := 69) (v := 1) C d_M_state_69 (by decide) ?_
          refine tl_goto (pc := 70) (tgt := 74) C d_M_state_70 rfl ?_
          exact tl_iret (pc := 74) C d_M_state_74 hw
      · have hw := hw.2 hc
        have hc2 := hc
        by_cases hc : x1 = (3 : Int32)
        · have hw := hw.1 hc
          refine swM_M_state_1_3 C hc ?_
          refine tl_aload_n (pc := 75) C d_M_state_75 rfl 0 rfl ?_
          refine kM_M_toCome (pc := 76) C hw ml_M_153 d_M_state_76 rfl (fun r76 S76 A76 hw => ?_)
          exact tl_iret (pc := 79) C d_M_state_79 hw
        · have hw := hw.2 hc
          have hc3 := hc
          by_cases hc : x1 = (4 : Int32)
          · have hw := hw.1 hc
            refine swM_M_state_1_4 C hc ?_
            refine tl_aload_n (pc := 80) C d_M_state_80 rfl 0 rfl ?_
            refine gM_M_46 (pc := 81) (v := (S 0)) C rfl d_M_state_81 ?_
            refine tl_if_eq (pc := 84) (tgt := 91) C d_M_state_84 rfl (fun hc => ?_) (fun hc => ?_)
            · have hw := hw.1 hc
              refine tl_iconst (pc := 91) (v := 0) C d_M_state_91 (by decide) ?_
              exact tl_iret (pc := 92) C d_M_state_92 hw
            · have hw := hw.2 hc
              refine tl_iconst (pc := 87) (v := 1) C d_M_state_87 (by decide) ?_
              refine tl_goto (pc := 88) (tgt := 92) C d_M_state_88 rfl ?_
              exact tl_iret (pc := 92) C d_M_state_92 hw
          · have hw := hw.2 hc
            have hc4 := hc
            by_cases hc : x1 = (5 : Int32)
            · have hw := hw.1 hc
              refine swM_M_state_1_5 C hc ?_
              refine tl_aload_n (pc := 93) C d_M_state_93 rfl 0 rfl ?_
              refine gM_M_78 (pc := 94) (v := (S 5)) C rfl d_M_state_94 ?_
              exact tl_iret (pc := 97) C d_M_state_97 hw
            · have hw := hw.2 hc
              have hc5 := hc
              by_cases hc : x1 = (6 : Int32)
              · have hw := hw.1 hc
                refine swM_M_state_1_6 C hc ?_
                refine tl_aload_n (pc := 98) C d_M_state_98 rfl 0 rfl ?_
                refine gM_M_99 (pc := 99) (v := (S 16)) C rfl d_M_state_99 ?_
                refine tl_aload_n (pc := 102) C d_M_state_102 rfl 0 rfl ?_
                refine gM_M_102 (pc := 103) (v := (S 17)) C rfl d_M_state_103 ?_
                refine tl_isub (pc := 106) C d_M_state_106 ?_
                exact tl_iret (pc := 107) C d_M_state_107 hw
              · have hw := hw.2 hc
                have hc6 := hc
                by_cases hc : x1 = (7 : Int32)
                · have hw := hw.1 hc
                  refine swM_M_state_1_7 C hc ?_
                  refine tl_aload_n (pc := 108) C d_M_state_108 rfl 0 rfl ?_
                  refine gM_M_105 (pc := 109) (v := (S 20)) C rfl d_M_state_109 ?_
                  refine tl_aload_n (pc := 112) C d_M_state_112 rfl 0 rfl ?_
                  refine gM_M_108 (pc := 113) (v := (S 21)) C rfl d_M_state_113 ?_
                  refine tl_isub (pc := 116) C d_M_state_116 ?_
                  exact tl_iret (pc := 117) C d_M_state_117 hw
                · have hw := hw.2 hc
                  have hc7 := hc
                  by_cases hc : x1 = (8 : Int32)
                  · have hw := hw.1 hc
                    refine swM_M_state_1_8 C hc ?_
                    refine tl_aload_n (pc := 118) C d_M_state_118 rfl 0 rfl ?_
                    refine gM_M_84 (pc := 119) (v := (S 10)) C rfl d_M_state_119 ?_
                    exact tl_iret (pc := 122) C d_M_state_122 hw
                  · have hw := hw.2 hc
                    have hc8 := hc
                    refine swM_M_state_1_d C hc0 hc1 hc2 hc3 hc4 hc5 hc6 hc7 hc8 ?_
                    refine tl_iconst (pc := 123) (v := -1) C d_M_state_123 (by decide) ?_
                    exact tl_iret (pc := 124) C d_M_state_124 hw
set_option maxHeartbeats 4000000 in
set_option maxRecDepth 100000 in
theorem aM_M_init (l : Launch) (D : va_G) (q : Nat → Nat) (k : Nat → ClassId) (S : SS) (A : AA) {post : SS → AA → Prop} {z : tl_Z} (C : tl_Cx b_M_init 2 R_M none D (tM k) z) (hw : wM_M_init post S A) : tl_At l (tl_Rc 4 5 254) 5 254 (tl_M 5 254 (tl_Qv D (wM q k) (tM k) post)) D (wM q k) 2 z 49 [(0, .ref (q 0))] [] (S, A) := by
  have B51 : ∀ (S : SS) (A : AA) (x1 : Int32), wM_M_init_51 post S A x1 → tl_At l (tl_Rc 4 5 254) 5 254 (tl_M 5 254 (tl_Qv D (wM q k) (tM k) post)) D (wM q k) 2 z 51 [(0, .ref (q 0)), (1, .int x1)] [] (S, A) := by
    intro S A x1 hw
    have key : ∀ X51 : SS → AA → Int32 → Prop, (∀ (S : SS) (A : AA) (x1 : Int32), X51 S A x1 → tl_At l (tl_Rc 4 5 254) 5 254 (tl_M 5 254 (tl_Qv D (wM q k) (tM k) post)) D (wM q k) 2 z 51 [(0, .ref (q 0)), (1, .int x1)] [] (S, A)) → ∀ (S : SS) (A : AA) (x1 : Int32), wM_M_init_51B post X51 S A x1 → tl_At l (tl_Rc 4 5 254) 5 254 (tl_M 5 254 (tl_Qv D (wM q k) (tM k) post)) D (wM q k) 2 z 51 [(0, .ref (q 0)), (1, .int x1)] [] (S, A) := by
      intro X51 hX51 S A x1 hw
      have B75 : ∀ (S : SS) (A : AA) (x1 y0 y1 : Int32), wM_M_init_75 post X51 S A x1 y0 y1 → tl_At l (tl_Rc 4 5 254) 5 254 (tl_M 5 254 (tl_Qv D (wM q k) (tM k) post)) D (wM q k) 2 z 75 [(0, .ref (q 0)), (1, .int x1)] [.int y0, .int y1, .ref (q 1)] (S, A) := by
        intro S A x1 y0 y1 hw
        obtain ⟨hi, hw⟩ := hw
        refine rM_ast0 (pc := 75) (f := (A 0)) C rfl hi d_M_init_75 ?_
        refine tl_iinc (pc := 76) (lv' := [(1, .int (x1 + (1 : Int32))), (0, .ref (q 0))]) C d_M_init_76 (by decide) 1 rfl rfl (by decide) rfl ?_
        refine tl_goto (pc := 79) (tgt := 51) C d_M_init_79 rfl ?_
        exact tl_sub [1, 0] rfl (hX51 _ _ _ hw)
      refine tl_iload_n (pc := 51) C d_M_init_51 rfl 1 rfl ?_
      refine tl_bipush (pc := 52) (v := 96) C d_M_init_52 (by decide) ?_
      refine tl_icmp_ge (pc := 54) (tgt := 82) C d_M_init_54 rfl (fun hc => ?_) (fun hc => ?_)
      · have hw := hw.1 hc
        refine tl_aload_n (pc := 82) C d_M_init_82 rfl 0 rfl ?_
        refine tl_iconst (pc := 83) (v := 0) C d_M_init_83 (by decide) ?_
        refine kM_M_sumOf (pc := 84) C hw ml_M_29 d_M_init_84 rfl (fun r84 S84 A84 hw => ?_)
        refine tl_istore_n (pc := 87) (lv' := [(1, .int r84), (0, .ref (q 0))]) C d_M_init_87 rfl (by decide) rfl ?_
        refine tl_aload_n (pc := 88) C d_M_init_88 rfl 1 rfl ?_
        refine gM_M_7 (pc := 89) C d_M_init_89 ?_
        refine tl_bipush (pc := 92) (v := 32) C d_M_init_92 (by decide) ?_
        refine tl_iconst (pc := 94) (v := 0) C d_M_init_94 (by decide) ?_
        obtain ⟨hi, hw⟩ := hw
        refine rM_ast0 (pc := 95) (f := (A84 0)) C rfl hi d_M_init_95 ?_
        refine tl_aload_n (pc := 96) C d_M_init_96 rfl 1 rfl ?_
        refine gM_M_7 (pc := 97) C d_M_init_97 ?_
        refine tl_bipush (pc := 100) (v := 33) C d_M_init_100 (by decide) ?_
        refine tl_iconst (pc := 102) (v := 1) C d_M_init_102 (by decide) ?_
        obtain ⟨hi, hw⟩ := hw
        refine rM_ast0 (pc := 103) (f := (upd (A84 0) (32 : Int32).toNatClampNeg (0 : Int32))) C rfl hi d_M_init_103 ?_
        refine tl_aload_n (pc := 104) C d_M_init_104 rfl 1 rfl ?_
        refine gM_M_7 (pc := 105) C d_M_init_105 ?_
        refine tl_bipush (pc := 108) (v := 34) C d_M_init_108 (by decide) ?_
        refine tl_iload_n (pc := 110) C d_M_init_110 rfl 0 rfl ?_
        refine tl_sipush (pc := 111) (v := 256) C d_M_init_111 (by decide) ?_
        refine tl_idiv (pc := 114) C d_M_init_114 (by decide) ?_
        obtain ⟨hi, hw⟩ := hw
        refine rM_ast0 (pc := 115) (f := (upd (upd (A84 0) (32 : Int32).toNatClampNeg (0 : Int32)) (33 : Int32).toNatClampNeg (1 : Int32))) C rfl hi d_M_init_115 ?_
        refine tl_aload_n (pc := 116) C d_M_init_116 rfl 1 rfl ?_
        refine gM_M_7 (pc := 117) C d_M_init_117 ?_
        refine tl_bipush (pc := 120) (v := 35) C d_M_init_120 (by decide) ?_
        refine tl_iload_n (pc := 122) C d_M_init_122 rfl 0 rfl ?_
        refine tl_sipush (pc := 123) (v := 256) C d_M_init_123 (by decide) ?_
        refine tl_irem (pc := 126) C d_M_init_126 (by decide) ?_
        obtain ⟨hi, hw⟩ := hw
        refine rM_ast0 (pc := 127) (f := (upd (upd (upd (A84 0) (32 : Int32).toNatClampNeg (0 : Int32)) (33 : Int32).toNatClampNeg (1 : Int32)) (34 : Int32).toNatClampNeg (r84 / (256 : Int32)))) C rfl hi d_M_init_127 ?_
        refine tl_aload_n (pc := 128) C d_M_init_128 rfl 1 rfl ?_
        refine kM_M_boot (pc := 129) C hw ml_M_33 d_M_init_129 rfl (fun S129 A129 hw => ?_)
        refine tl_aload_n (pc := 132) C d_M_init_132 rfl 1 rfl ?_
        refine tl_iconst (pc := 133) (v := 0) C d_M_init_133 (by decide) ?_
        refine pM_M_36 (pc := 134) C d_M_init_134 ?_
        exact tl_vret (pc := 137) C d_M_init_137 hw
      · have hw := hw.2 hc
        refine tl_aload_n (pc := 57) C d_M_init_57 rfl 0 rfl ?_
        refine gM_M_7 (pc := 58) C d_M_init_58 ?_
        refine tl_iload_n (pc := 61) C d_M_init_61 rfl 1 rfl ?_
        refine tl_iload_n (pc := 62) C d_M_init_62 rfl 1 rfl ?_
        refine tl_bipush (pc := 63) (v := 32) C d_M_init_63 (by decide) ?_
        refine tl_icmp_ge (pc := 65) (tgt := 72) C d_M_init_65 rfl (fun hc => ?_) (fun hc => ?_)
        · have hw := hw.1 hc
          refine tl_sipush (pc := 72) (v := 255) C d_M_init_72 (by decide) ?_
          exact tl_sub [0, 1] rfl (B75 _ _ _ _ _ hw)
        · have hw := hw.2 hc
          refine tl_iload_n (pc := 68) C d_M_init_68 rfl 1 rfl ?_
          refine tl_goto (pc := 69) (tgt := 75) C d_M_init_69 rfl ?_
          exact tl_sub [0, 1] rfl (B75 _ _ _ _ _ hw)
    exact hw _ (fun S A x1 hb => key _ (fun _ _ _ h => h) S A x1 hb)
  refine tl_iconst (pc := 49) (v := 0) C d_M_init_49 (by decide) ?_
  refine tl_istore_n (pc := 50) (lv' := [(1, .int (0 : Int32)), (0, .ref (q 0))]) C d_M_init_50 rfl (by decide) rfl ?_
  exact tl_sub [1, 0] rfl (B51 _ _ _ hw)
