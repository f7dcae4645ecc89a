set_option maxHeartbeats 4000000 in
set_option maxRecDepth 100000 in
theorem cM_M_dropAnswer (l : Launch) (D : va_G) (q : Nat → Nat) (k : Nat → ClassId) (sz : Nat) (S : SS) (A : AA) {post : SS → AA → Prop} (hw : wM_M_dropAnswer post S A) : tl_Met l y_M_dropAnswer b_M_dropAnswer 1 none (tl_R 0) D (wM q k) (tM k) sz [.ref (q 0)] (S, A) (tl_Qv D (wM q k) (tM k) post) := by
  refine tl_met (own := R_M) (lv := [(0, .ref (q 0))]) (by decide) rfl rfl (Nat.le_of_ble_eq_true rfl) (fun z C => ?_)
  refine tl_aload_n (pc := 0) C d_M_dropAnswer_0 rfl 0 rfl ?_
  refine tl_iconst (pc := 1) (v := 0) C d_M_dropAnswer_1 (by decide) ?_
  refine pM_M_105 (pc := 2) C d_M_dropAnswer_2 ?_
  refine tl_aload_n (pc := 5) C d_M_dropAnswer_5 rfl 0 rfl ?_
  refine tl_iconst (pc := 6) (v := 0) C d_M_dropAnswer_6 (by decide) ?_
  refine pM_M_108 (pc := 7) C d_M_dropAnswer_7 ?_
  exact tl_vret (pc := 10) C d_M_dropAnswer_10 hw
theorem kM_M_dropAnswer {l : Launch} {R : Room} {nc ns : Nat} {Q : tl_Z → State → Prop} {D : va_G} {q : Nat → Nat} {k : Nat → ClassId} {nL : Nat} {z : tl_Z} {cc : ByteArray} {ret : Option FieldType} {pc : Nat} {lv : List (Nat × Value)} {rest : List Value} {S : SS} {A : AA} {own : String} {idx : Nat} {post : SS → AA → Prop} (C : tl_Cx cc nL own ret D (tM k) z) (hw : wM_M_dropAnswer post S A) (hl : Cond.methodLink own idx y_M_dropAnswer ∈ wsAll) (hdg : decode cc pc = .ok (.invokevirtual idx, 3)) (hf : tl_fit R (tl_R 0) nc ns 1 rest = true) (kk : ∀ (S1 : SS) (A1 : AA), post S1 A1 → tl_At l R nc ns Q D (wM q k) nL z (pc + 3) lv (rest) (S1, A1)) : tl_At l R nc ns Q D (wM q k) nL z pc lv (.ref (q 0) :: rest) (S, A) :=
  tl_callVv (n := 0) (As := []) (b := q 0) (q0 := 0) (ci := 7) C (fun sz => cM_M_dropAnswer l D q k sz S A hw) in_563 in_8 in_562 ip_33 (by decide +kernel) rfl ⟨rfl, rfl⟩ rfl rfl hl hf hdg kk
set_option maxHeartbeats 4000000 in
set_option maxRecDepth 100000 in
theorem cM_M_emit (l : Launch) (D : va_G) (q : Nat → Nat) (k : Nat → ClassId) (sz : Nat) (S : SS) (A : AA) (x1 x2 x3 : Int32) {post : SS → AA → Prop} (hw : wM_M_emit post S A x1 x2 x3) : tl_Met l y_M_emit b_M_emit 7 none (tl_R 0) D (wM q k) (tM k) sz [.ref (q 0), .int x1, .int x2, .int x3] (S, A) (tl_Qv D (wM q k) (tM k) post) := by
  refine tl_met (own := R_M) (lv := [(0, .ref (q 0)), (1, .int x1), (2, .int x2), (3, .int x3)]) (by decide) rfl rfl (Nat.le_of_ble_eq_true rfl) (fun z C => ?_)
  have B152 : ∀ (S : SS) (A : AA) (x4 : Int32), wM_M_emit_152 post S A x4 → tl_At l (tl_R 0) 0 0 (tl_M 0 0 (tl_Qv D (wM q k) (tM k) post)) D (wM q k) 7 z 152 [(0, .ref (q 0)), (4, .int x4)] [] (S, A) := by
    intro S A x4 hw
    refine tl_aload_n (pc := 152) C d_M_emit_152 rfl 0 rfl ?_
    refine tl_dup (pc := 153) C d_M_emit_153 rfl ?_
    refine gM_M_108 (pc := 154) (v := (S 21)) C rfl d_M_emit_154 ?_
    refine tl_iload (pc := 157) C d_M_emit_157 1 rfl ?_
    refine tl_iadd (pc := 159) C d_M_emit_159 ?_
    refine pM_M_108 (pc := 160) C d_M_emit_160 ?_
    exact tl_vret (pc := 163) C d_M_emit_163 hw
  have B107 : ∀ (S : SS) (A : AA) (x4 x5 x6 : Int32), wM_M_emit_107 post S A x4 x5 x6 → tl_At l (tl_R 0) 0 0 (tl_M 0 0 (tl_Qv D (wM q k) (tM k) post)) D (wM q k) 7 z 107 [(0, .ref (q 0)), (4, .int x4), (5, .int x5), (6, .int x6)] [] (S, A) := by
    intro S A x4 x5 x6 hw
    have key : ∀ X107 : SS → AA → Int32 → Int32 → Int32 → Prop, (∀ (S : SS) (A : AA) (x4 x5 x6 : Int32), X107 S A x4 x5 x6 → tl_At l (tl_R 0) 0 0 (tl_M 0 0 (tl_Qv D (wM q k) (tM k) post)) D (wM q k) 7 z 107 [(0, .ref (q 0)), (4, .int x4), (5, .int x5), (6, .int x6)] [] (S, A)) → ∀ (S : SS) (A : AA) (x4 x5 x6 : Int32), wM_M_emit_107B post X107 S A x4 x5 x6 → tl_At l (tl_R 0) 0 0 (tl_M 0 0 (tl_Qv D (wM q k) (tM k) post)) D (wM q k) 7 z 107 [(0, .ref (q 0)), (4, .int x4), (5, .int x5), (6, .int x6)] [] (S, A) := by
      intro X107 hX107 S A x4 x5 x6 hw
      refine tl_iload (pc := 107) C d_M_emit_107 3 rfl ?_
      refine tl_iload (pc := 109) C d_M_emit_109 1 rfl ?_
      refine tl_icmp_ge (pc := 111) (tgt := 142) C d_M_emit_111 rfl (fun hc => ?_) (fun hc => ?_)
      · have hw := hw.1 hc
        refine tl_aload_n (pc := 142) C d_M_emit_142 rfl 0 rfl ?_
        refine tl_dup (pc := 143) C d_M_emit_143 rfl ?_
        refine gM_M_36 (pc := 144) (v := (S 24)) C rfl d_M_emit_144 ?_
        refine tl_iconst (pc := 147) (v := 1) C d_M_emit_147 (by decide) ?_
        refine tl_iadd (pc := 148) C d_M_emit_148 ?_
        refine pM_M_36 (pc := 149) C d_M_emit_149 ?_
        exact tl_sub [0, 1] rfl (B152 _ _ _ hw)
      · have hw := hw.2 hc
        refine tl_aload_n (pc := 114) C d_M_emit_114 rfl 0 rfl ?_
        refine gM_M_23 (pc := 115) C d_M_emit_115 ?_
        refine tl_iload (pc := 118) C d_M_emit_118 2 rfl ?_
        refine tl_iload (pc := 120) C d_M_emit_120 3 rfl ?_
        refine tl_iadd (pc := 122) C d_M_emit_122 ?_
        refine tl_aload_n (pc := 123) C d_M_emit_123 rfl 0 rfl ?_
        refine gM_M_20 (pc := 124) C d_M_emit_124 ?_
        refine tl_aload_n (pc := 127) C d_M_emit_127 rfl 0 rfl ?_
        refine gM_M_108 (pc := 128) (v := (S 21)) C rfl d_M_emit_128 ?_
        refine tl_iload (pc := 131) C d_M_emit_131 3 rfl ?_
        refine tl_iadd (pc := 133) C d_M_emit_133 ?_
        obtain ⟨hi, hw⟩ := hw
        refine rM_ald2 (pc := 134) (f := (A 2)) C rfl hi d_M_emit_134 ?_
        obtain ⟨hi, hw⟩ := hw
        refine rM_ast3 (pc := 135) (f := (A 3)) C rfl hi d_M_emit_135 ?_
        refine tl_iinc (pc := 136) (lv' := [(6, .int (x6 + (1 : Int32))), (0, .ref (q 0)), (4, .int x4), (5, .int x5)]) C d_M_emit_136 (by decide) 3 rfl rfl (by decide) rfl ?_
        refine tl_goto (pc := 139) (tgt := 107) C d_M_emit_139 rfl ?_
        exact tl_sub [1, 2, 3, 0] rfl (hX107 _ _ _ _ _ hw)
    exact hw _ (fun S A x4 x5 x6 hb => key _ (fun _ _ _ _ _ h => h) S A x4 x5 x6 hb)
  have B104 : ∀ (S : SS) (A : AA) (x4 x5 : Int32), wM_M_emit_104 post S A x4 x5 → tl_At l (tl_R 0) 0 0 (tl_M 0 0 (tl_Qv D (wM q k) (tM k) post)) D (wM q k) 7 z 104 [(0, .ref (q 0)), (4, .int x4), (5, .int x5)] [] (S, A) := by
    intro S A x4 x5 hw
    refine tl_iconst (pc := 104) (v := 0) C d_M_emit_104 (by decide) ?_
    refine tl_istore (pc := 105) (lv' := [(6, .int (0 : Int32)), (0, .ref (q 0)), (4, .int x4), (5, .int x5)]) C d_M_emit_105 (by decide) rfl ?_
    exact tl_sub [1, 2, 3, 0] rfl (B107 _ _ _ _ _ hw)
  have B40 : ∀ (S : SS) (A : AA) (x1 x2 x4 x5 : Int32), wM_M_emit_40 post S A x1 x2 x4 x5 → tl_At l (tl_R 0) 0 0 (tl_M 0 0 (tl_Qv D (wM q k) (tM k) post)) D (wM q k) 7 z 40 [(0, .ref (q 0)), (1, .int x1), (2, .int x2), (4, .int x4), (5, .int x5)] [] (S, A) := by
    intro S A x1 x2 x4 x5 hw
    have key : ∀ X40 : SS → AA → Int32 → Int32 → Int32 → Int32 → Prop, (∀ (S : SS) (A : AA) (x1 x2 x4 x5 : Int32), X40 S A x1 x2 x4 x5 → tl_At l (tl_R 0) 0 0 (tl_M 0 0 (tl_Qv D (wM q k) (tM k) post)) D (wM q k) 7 z 40 [(0, .ref (q 0)), (1, .int x1), (2, .int x2), (4, .int x4), (5, .int x5)] [] (S, A)) → ∀ (S : SS) (A : AA) (x1 x2 x4 x5 : Int32), wM_M_emit_40B post X40 S A x1 x2 x4 x5 → tl_At l (tl_R 0) 0 0 (tl_M 0 0 (tl_Qv D (wM q k) (tM k) post)) D (wM q k) 7 z 40 [(0, .ref (q 0)), (1, .int x1), (2, .int x2), (4, .int x4), (5, .int x5)] [] (S, A) := by
      intro X40 hX40 S A x1 x2 x4 x5 hw
      refine tl_iload (pc := 40) C d_M_emit_40 4 rfl ?_
      refine tl_bipush (pc := 42) (v := 8) C d_M_emit_42 (by decide) ?_
      refine tl_icmp_ge (pc := 44) (tgt := 69) C d_M_emit_44 rfl (fun hc => ?_) (fun hc => ?_)
      · have hw := hw.1 hc
        refine tl_bipush (pc := 69) (v := 8) C d_M_emit_69 (by decide) ?_
        refine tl_aload_n (pc := 71) C d_M_emit_71 rfl 0 rfl ?_
        refine gM_M_36 (pc := 72) (v := (S 24)) C rfl d_M_emit_72 ?_
        refine tl_imul (pc := 75) C d_M_emit_75 ?_
        refine tl_istore (pc := 76) (lv' := [(5, .int ((8 : Int32) * (S 24))), (0, .ref (q 0)), (1, .int x1), (2, .int x2), (4, .int x4)]) C d_M_emit_76 (by decide) rfl ?_
        refine tl_aload_n (pc := 78) C d_M_emit_78 rfl 1 rfl ?_
        refine gM_M_23 (pc := 79) C d_M_emit_79 ?_
        refine tl_iload (pc := 82) C d_M_emit_82 0 rfl ?_
        refine tl_iload_n (pc := 84) C d_M_emit_84 rfl 2 rfl ?_
        obtain ⟨hi, hw⟩ := hw
        refine rM_ast3 (pc := 85) (f := (A 3)) C rfl hi d_M_emit_85 ?_
        refine tl_iinc (pc := 86) (lv' := [(5, .int (((8 : Int32) * (S 24)) + (1 : Int32))), (0, .ref (q 0)), (1, .int x1), (2, .int x2), (4, .int x4)]) C d_M_emit_86 (by decide) 0 rfl rfl (by decide) rfl ?_
        refine tl_iload_n (pc := 89) C d_M_emit_89 rfl 3 rfl ?_
        refine tl_if_lt (pc := 90) (tgt := 104) C d_M_emit_90 rfl (fun hc => ?_) (fun hc => ?_)
        · have hw := hw.1 hc
          exact tl_sub [1, 4, 0] rfl (B104 _ _ _ _ hw)
        · have hw := hw.2 hc
          refine tl_aload_n (pc := 93) C d_M_emit_93 rfl 1 rfl ?_
          refine gM_M_23 (pc := 94) C d_M_emit_94 ?_
          refine tl_iload (pc := 97) C d_M_emit_97 0 rfl ?_
          refine tl_iload_n (pc := 99) C d_M_emit_99 rfl 3 rfl ?_
          obtain ⟨hi, hw⟩ := hw
          refine rM_ast3 (pc := 100) (f := (upd (A 3) ((8 : Int32) * (S 24)).toNatClampNeg x1)) C rfl hi d_M_emit_100 ?_
          refine tl_iinc (pc := 101) (lv' := [(5, .int ((((8 : Int32) * (S 24)) + (1 : Int32)) + (1 : Int32))), (0, .ref (q 0)), (1, .int x1), (2, .int x2), (4, .int x4)]) C d_M_emit_101 (by decide) 0 rfl rfl (by decide) rfl ?_
          exact tl_sub [1, 4, 0] rfl (B104 _ _ _ _ hw)
      · have hw := hw.2 hc
        refine tl_aload_n (pc := 47) C d_M_emit_47 rfl 0 rfl ?_
        refine gM_M_23 (pc := 48) C d_M_emit_48 ?_
        refine tl_bipush (pc := 51) (v := 8) C d_M_emit_51 (by decide) ?_
        refine tl_aload_n (pc := 53) C d_M_emit_53 rfl 0 rfl ?_
        refine gM_M_36 (pc := 54) (v := (S 24)) C rfl d_M_emit_54 ?_
        refine tl_imul (pc := 57) C d_M_emit_57 ?_
        refine tl_iload (pc := 58) C d_M_emit_58 4 rfl ?_
        refine tl_iadd (pc := 60) C d_M_emit_60 ?_
        refine tl_iconst (pc := 61) (v := 0) C d_M_emit_61 (by decide) ?_
        obtain ⟨hi, hw⟩ := hw
        refine rM_ast3 (pc := 62) (f := (A 3)) C rfl hi d_M_emit_62 ?_
        refine tl_iinc (pc := 63) (lv' := [(5, .int (x5 + (1 : Int32))), (0, .ref (q 0)), (1, .int x1), (2, .int x2), (4, .int x4)]) C d_M_emit_63 (by decide) 4 rfl rfl (by decide) rfl ?_
        refine tl_goto (pc := 66) (tgt := 40) C d_M_emit_66 rfl ?_
        exact tl_sub [1, 2, 3, 4, 0] rfl (hX40 _ _ _ _ _ _ hw)
    exact hw _ (fun S A x1 x2 x4 x5 hb => key _ (fun _ _ _ _ _ _ h => h) S A x1 x2 x4 x5 hb)
  have B26 : ∀ (S : SS) (A : AA) (x1 x2 y0 : Int32), wM_M_emit_26 post S A x1 x2 y0 → tl_At l (tl_R 0) 0 0 (tl_M 0 0 (tl_Qv D (wM q k) (tM k) post)) D (wM q k) 7 z 26 [(0, .ref (q 0)), (1, .int x1), (2, .int x2)] [.int y0] (S, A) := by
    intro S A x1 x2 y0 hw
    refine tl_istore (pc := 26) (lv' := [(4, .int y0), (0, .ref (q 0)), (1, .int x1), (2, .int x2)]) C d_M_emit_26 (by decide) rfl ?_
    refine tl_aload_n (pc := 28) C d_M_emit_28 rfl 1 rfl ?_
    refine gM_M_36 (pc := 29) (v := (S 24)) C rfl d_M_emit_29 ?_
    refine tl_bipush (pc := 32) (v := 12) C d_M_emit_32 (by decide) ?_
    refine tl_icmp_ge (pc := 34) (tgt := 152) C d_M_emit_34 rfl (fun hc => ?_) (fun hc => ?_)
    · have hw := hw.1 hc
      exact tl_sub [1, 0] rfl (B152 _ _ _ hw)
    · have hw := hw.2 hc
      refine tl_iconst (pc := 37) (v := 0) C d_M_emit_37 (by decide) ?_
      refine tl_istore (pc := 38) (lv' := [(5, .int (0 : Int32)), (4, .int y0), (0, .ref (q 0)), (1, .int x1), (2, .int x2)]) C d_M_emit_38 (by decide) rfl ?_
      exact tl_sub [2, 3, 4, 1, 0] rfl (B40 _ _ _ _ _ _ hw)
  refine tl_aload_n (pc := 0) C d_M_emit_0 rfl 0 rfl ?_
  refine gM_M_105 (pc := 1) (v := (S 20)) C rfl d_M_emit_1 ?_
  refine tl_aload_n (pc := 4) C d_M_emit_4 rfl 0 rfl ?_
  refine gM_M_108 (pc := 5) (v := (S 21)) C rfl d_M_emit_5 ?_
  refine tl_isub (pc := 8) C d_M_emit_8 ?_
  refine tl_iload_n (pc := 9) C d_M_emit_9 rfl 3 rfl ?_
  refine tl_icmp_ge (pc := 10) (tgt := 25) C d_M_emit_10 rfl (fun hc => ?_) (fun hc => ?_)
  · have hw := hw.1 hc
    refine tl_iload_n (pc := 25) C d_M_emit_25 rfl 3 rfl ?_
    exact tl_sub [0, 1, 2] rfl (B26 _ _ _ _ _ hw)
  · have hw := hw.2 hc
    refine tl_aload_n (pc := 13) C d_M_emit_13 rfl 0 rfl ?_
    refine gM_M_105 (pc := 14) (v := (S 20)) C rfl d_M_emit_14 ?_
    refine tl_aload_n (pc := 17) C d_M_emit_17 rfl 0 rfl ?_
    refine gM_M_108 (pc := 18) (v := (S 21)) C rfl d_M_emit_18 ?_
    refine tl_isub (pc := 21) C d_M_emit_21 ?_
    refine tl_goto (pc := 22) (tgt := 26) C d_M_emit_22 rfl ?_
    exact tl_sub [0, 1, 2] rfl (B26 _ _ _ _ _ hw)
theorem kM_M_emit {l : Launch} {R : Room} {nc ns : Nat} {Q : tl_Z → State → Prop} {D : va_G} {q : Nat → Nat} {k : Nat → ClassId} {nL : Nat} {z : tl_Z} {cc : ByteArray} {ret : Option FieldType} {pc : Nat} {lv : List (Nat × Value)} {rest : List Value} {S : SS} {A : AA} {own : String} {idx : Nat} {x1 x2 x3 : Int32} {post : SS → AA → Prop} (C : tl_Cx cc nL own ret D (tM k) z) (hw : wM_M_emit post S A x1 x2 x3) (hl : Cond.methodLink own idx y_M_emit ∈ wsAll) (hdg : decode cc pc = .ok (.invokevirtual idx, 3)) (hf : tl_fit R (tl_R 0) nc ns 7 rest = true) (kk : ∀ (S1 : SS) (A1 : AA), post S1 A1 → tl_At l R nc ns Q D (wM q k) nL z (pc + 3) lv (rest) (S1, A1)) : tl_At l R nc ns Q D (wM q k) nL z pc lv (.int x3 :: .int x2 :: .int x1 :: .ref (q 0) :: rest) (S, A) :=
  tl_callVv (n := 3) (As := [.int x1, .int x2, .int x3]) (b := q 0) (q0 := 0) (ci := 7) C (fun sz => cM_M_emit l D q k sz S A x1 x2 x3 hw) in_678 in_8 in_677 ip_36 (by decide +kernel) rfl ⟨rfl, rfl⟩ rfl rfl hl hf hdg kk
set_option maxHeartbeats 4000000 in
set_option maxRecDepth 100000 in
theorem cM_M_sendMore (l : Launch) (D : va_G) (q : Nat → Nat) (k : Nat → ClassId) (sz : Nat) (S : SS) (A : AA) (x1 : Int32) {post : SS → AA → Prop} (hw : wM_M_sendMore post S A x1) : tl_Met l y_M_sendMore b_M_sendMore 3 none (tl_R 1) D (wM q k) (tM k) sz [.ref (q 0), .int x1] (S, A) (tl_Qv D (wM q k) (tM k) post) := by
  refine tl_met (own := R_M) (lv := [(0, .ref (q 0)), (1, .int x1)]) (by decide) rfl rfl (Nat.le_of_ble_eq_true rfl) (fun z C => ?_)
  have B55 : ∀ (S : SS) (A : AA), wM_M_sendMore_55 post S A → tl_At l (tl_R 1) 0 0 (tl_M 0 0 (tl_Qv D (wM q k) (tM k) post)) D (wM q k) 3 z 55 [(0, .ref (q 0))] [] (S, A) := by
    intro S A hw
    refine tl_aload_n (pc := 55) C d_M_sendMore_55 rfl 0 rfl ?_
    refine tl_iconst (pc := 56) (v := 0) C d_M_sendMore_56 (by decide) ?_
    refine pM_M_123 (pc := 57) C d_M_sendMore_57 ?_
    refine tl_aload_n (pc := 60) C d_M_sendMore_60 rfl 0 rfl ?_
    refine gM_M_108 (pc := 61) (v := (S 21)) C rfl d_M_sendMore_61 ?_
    refine tl_aload_n (pc := 64) C d_M_sendMore_64 rfl 0 rfl ?_
    refine gM_M_105 (pc := 65) (v := (S 20)) C rfl d_M_sendMore_65 ?_
    refine tl_icmp_ne (pc := 68) (tgt := 75) C d_M_sendMore_68 rfl (fun hc => ?_) (fun hc => ?_)
    · have hw := hw.1 hc
      exact tl_vret (pc := 75) C d_M_sendMore_75 hw
    · have hw := hw.2 hc
      refine tl_aload_n (pc := 71) C d_M_sendMore_71 rfl 0 rfl ?_
      refine kM_M_dropAnswer (pc := 72) C hw ml_M_75 d_M_sendMore_72 rfl (fun S72 A72 hw => ?_)
      exact tl_vret (pc := 75) C d_M_sendMore_75 hw
  have B2 : ∀ (S : SS) (A : AA) (x1 x2 : Int32), wM_M_sendMore_2 post S A x1 x2 → tl_At l (tl_R 1) 0 0 (tl_M 0 0 (tl_Qv D (wM q k) (tM k) post)) D (wM q k) 3 z 2 [(0, .ref (q 0)), (1, .int x1), (2, .int x2)] [] (S, A) := by
    intro S A x1 x2 hw
    have key : ∀ X2 : SS → AA → Int32 → Int32 → Prop, (∀ (S : SS) (A : AA) (x1 x2 : Int32), X2 S A x1 x2 → tl_At l (tl_R 1) 0 0 (tl_M 0 0 (tl_Qv D (wM q k) (tM k) post)) D (wM q k) 3 z 2 [(0, .ref (q 0)), (1, .int x1), (2, .int x2)] [] (S, A)) → ∀ (S : SS) (A : AA) (x1 x2 : Int32), wM_M_sendMore_2B post X2 S A x1 x2 → tl_At l (tl_R 1) 0 0 (tl_M 0 0 (tl_Qv D (wM q k) (tM k) post)) D (wM q k) 3 z 2 [(0, .ref (q 0)), (1, .int x1), (2, .int x2)] [] (S, A) := by
      intro X2 hX2 S A x1 x2 hw
      have B22 : ∀ (S : SS) (A : AA) (x1 x2 : Int32), wM_M_sendMore_22 post X2 S A x1 x2 → tl_At l (tl_R 1) 0 0 (tl_M 0 0 (tl_Qv D (wM q k) (tM k) post)) D (wM q k) 3 z 22 [(0, .ref (q 0)), (1, .int x1), (2, .int x2)] [] (S, A) := by
        intro S A x1 x2 hw
        refine tl_aload_n (pc := 22) C d_M_sendMore_22 rfl 0 rfl ?_
        refine tl_aload_n (pc := 23) C d_M_sendMore_23 rfl 0 rfl ?_
        refine gM_M_120 (pc := 24) (v := (S 22)) C rfl d_M_sendMore_24 ?_
        refine tl_iconst (pc := 27) (v := 1) C d_M_sendMore_27 (by decide) ?_
        refine tl_iadd (pc := 28) C d_M_sendMore_28 ?_
        refine tl_bipush (pc := 29) (v := 16) C d_M_sendMore_29 (by decide) ?_
        refine tl_irem (pc := 31) C d_M_sendMore_31 (by decide) ?_
        refine pM_M_120 (pc := 32) C d_M_sendMore_32 ?_
        refine tl_aload_n (pc := 35) C d_M_sendMore_35 rfl 0 rfl ?_
        refine tl_bipush (pc := 36) (v := 32) C d_M_sendMore_36 (by decide) ?_
        refine tl_aload_n (pc := 38) C d_M_sendMore_38 rfl 0 rfl ?_
        refine gM_M_120 (pc := 39) (v := (((S 22) + (1 : Int32)) - ((S 22) + (1 : Int32)) / (16 : Int32) * (16 : Int32))) C rfl d_M_sendMore_39 ?_
        refine tl_iadd (pc := 42) C d_M_sendMore_42 ?_
        refine tl_iconst (pc := 43) (v := -1) C d_M_sendMore_43 (by decide) ?_
        refine tl_bipush (pc := 44) (v := 7) C d_M_sendMore_44 (by decide) ?_
        refine kM_M_emit (pc := 46) C hw ml_M_117 d_M_sendMore_46 rfl (fun S46 A46 hw => ?_)
        refine tl_iinc (pc := 49) (lv' := [(2, .int (x2 + (1 : Int32))), (0, .ref (q 0)), (1, .int x1)]) C d_M_sendMore_49 (by decide) 2 rfl rfl (by decide) rfl ?_
        refine tl_goto (pc := 52) (tgt := 2) C d_M_sendMore_52 rfl ?_
        exact tl_sub [1, 2, 0] rfl (hX2 _ _ _ _ hw)
      refine tl_aload_n (pc := 2) C d_M_sendMore_2 rfl 0 rfl ?_
      refine gM_M_108 (pc := 3) (v := (S 21)) C rfl d_M_sendMore_3 ?_
      refine tl_aload_n (pc := 6) C d_M_sendMore_6 rfl 0 rfl ?_
      refine gM_M_105 (pc := 7) (v := (S 20)) C rfl d_M_sendMore_7 ?_
      refine tl_icmp_ge (pc := 10) (tgt := 55) C d_M_sendMore_10 rfl (fun hc => ?_) (fun hc => ?_)
      · have hw := hw.1 hc
        exact tl_sub [0] rfl (B55 _ _ hw)
      · have hw := hw.2 hc
        refine tl_iload_n (pc := 13) C d_M_sendMore_13 rfl 1 rfl ?_
        refine tl_if_eq (pc := 14) (tgt := 22) C d_M_sendMore_14 rfl (fun hc => ?_) (fun hc => ?_)
        · have hw := hw.1 hc
          exact tl_sub [0, 1, 2] rfl (B22 _ _ _ _ hw)
        · have hw := hw.2 hc
          refine tl_iload_n (pc := 17) C d_M_sendMore_17 rfl 2 rfl ?_
          refine tl_iload_n (pc := 18) C d_M_sendMore_18 rfl 1 rfl ?_
          refine tl_icmp_ge (pc := 19) (tgt := 55) C d_M_sendMore_19 rfl (fun hc => ?_) (fun hc => ?_)
          · have hw := hw.1 hc
            exact tl_sub [0] rfl (B55 _ _ hw)
          · have hw := hw.2 hc
            exact tl_sub [0, 1, 2] rfl (B22 _ _ _ _ hw)
    exact hw _ (fun S A x1 x2 hb => key _ (fun _ _ _ _ h => h) S A x1 x2 hb)
  refine tl_iconst (pc := 0) (v := 0) C d_M_sendMore_0 (by decide) ?_
  refine tl_istore_n (pc := 1) (lv' := [(2, .int (0 : Int32)), (0, .ref (q 0)), (1, .int x1)]) C d_M_sendMore_1 rfl (by decide) rfl ?_
  exact tl_sub [1, 2, 0] rfl (B2 _ _ _ _ hw)
theorem kM_M_sendMore {l : Launch} {R : Room} {nc ns : Nat} {Q : tl_Z → State → Prop} {D : va_G} {q : Nat → Nat} {k : Nat → ClassId} {nL : Nat} {z : tl_Z} {cc : ByteArray} {ret : Option FieldType} {pc : Nat} {lv : List (Nat × Value)} {rest : List Value} {S : SS} {A : AA} {own : String} {idx : Nat} {x1 : Int32} {post : SS → AA → Prop} (C : tl_Cx cc nL own ret D (tM k) z) (hw : wM_M_sendMore post S A x1) (hl : Cond.methodLink own idx y_M_sendMore ∈ wsAll) (hdg : decode cc pc = .ok (.invokevirtual idx, 3)) (hf : tl_fit R (tl_R 1) nc ns 3 rest = true) (kk : ∀ (S1 : SS) (A1 : AA), post S1 A1 → tl_At l R nc ns Q D (wM q k) nL z (pc + 3) lv (rest) (S1, A1)) : tl_At l R nc ns Q D (wM q k) nL z pc lv (.int x1 :: .ref (q 0) :: rest) (S, A) :=
  tl_callVv (n := 1) (As := [.int x1]) (b := q 0) (q0 := 0) (ci := 7) C (fun sz => cM_M_sendMore l D q k sz S A x1 hw) in_674 in_8 in_673 ip_35 (by decide +kernel) rfl ⟨rfl, rfl⟩ rfl rfl hl hf hdg kk
set_option maxHeartbeats 4000000 in
set_option maxRecDepth 100000 in
theorem cM_M_answerFrame (l : Launch) (D : va_G) (q : Nat → Nat) (k : Nat → ClassId) (sz : Nat) (S : SS) (A : AA) {post : SS → AA → Prop} (hw : wM_M_answerFrame post S A) : tl_Met l y_M_answerFrame b_M_answerFrame 1 none (tl_R 2) D (wM q k) (tM k) sz [.ref (q 0)] (S, A) (tl_Qv D (wM q k) (tM k) post) := by
  refine tl_met (own := R_M) (lv := [(0, .ref (q 0))]) (by decide) rfl rfl (Nat.le_of_ble_eq_true rfl) (fun z C => ?_)
  refine tl_aload_n (pc := 0) C d_M_answerFrame_0 rfl 0 rfl ?_
  refine gM_M_26 (pc := 1) C d_M_answerFrame_1 ?_
  refine tl_iconst (pc := 4) (v := 0) C d_M_answerFrame_4 (by decide) ?_
  obtain ⟨hi, hw⟩ := hw
  refine rM_ald4 (pc := 5) (f := (A 4)) C rfl hi d_M_answerFrame_5 ?_
  refine tl_bipush (pc := 6) (v := 48) C d_M_answerFrame_6 (by decide) ?_
  refine tl_icmp_ne (pc := 8) (tgt := 24) C d_M_answerFrame_8 rfl (fun hc => ?_) (fun hc => ?_)
  · have hw := hw.1 hc
    refine tl_aload_n (pc := 24) C d_M_answerFrame_24 rfl 0 rfl ?_
    refine gM_M_26 (pc := 25) C d_M_answerFrame_25 ?_
    refine tl_iconst (pc := 28) (v := 0) C d_M_answerFrame_28 (by decide) ?_
    obtain ⟨hi, hw⟩ := hw
    refine rM_ald4 (pc := 29) (f := (A 4)) C rfl hi d_M_answerFrame_29 ?_
    refine tl_bipush (pc := 30) (v := 49) C d_M_answerFrame_30 (by decide) ?_
    refine tl_icmp_ne (pc := 32) (tgt := 43) C d_M_answerFrame_32 rfl (fun hc => ?_) (fun hc => ?_)
    · have hw := hw.1 hc
      refine tl_aload_n (pc := 43) C d_M_answerFrame_43 rfl 0 rfl ?_
      refine gM_M_26 (pc := 44) C d_M_answerFrame_44 ?_
      refine tl_iconst (pc := 47) (v := 0) C d_M_answerFrame_47 (by decide) ?_
      obtain ⟨hi, hw⟩ := hw
      refine rM_ald4 (pc := 48) (f := (A 4)) C rfl hi d_M_answerFrame_48 ?_
      refine tl_bipush (pc := 49) (v := 50) C d_M_answerFrame_49 (by decide) ?_
      refine tl_icmp_ne (pc := 51) (tgt := 58) C d_M_answerFrame_51 rfl (fun hc => ?_) (fun hc => ?_)
      · have hw := hw.1 hc
        exact tl_vret (pc := 58) C d_M_answerFrame_58 hw
      · have hw := hw.2 hc
        refine tl_aload_n (pc := 54) C d_M_answerFrame_54 rfl 0 rfl ?_
        refine kM_M_dropAnswer (pc := 55) C hw ml_M_75 d_M_answerFrame_55 rfl (fun S55 A55 hw => ?_)
        exact tl_vret (pc := 58) C d_M_answerFrame_58 hw
    · have hw := hw.2 hc
      refine tl_aload_n (pc := 35) C d_M_answerFrame_35 rfl 0 rfl ?_
      refine tl_iconst (pc := 36) (v := 0) C d_M_answerFrame_36 (by decide) ?_
      refine pM_M_123 (pc := 37) C d_M_answerFrame_37 ?_
      refine tl_goto (pc := 40) (tgt := 58) C d_M_answerFrame_40 rfl ?_
      exact tl_vret (pc := 58) C d_M_answerFrame_58 hw
  · have hw := hw.2 hc
    refine tl_aload_n (pc := 11) C d_M_answerFrame_11 rfl 0 rfl ?_
    refine tl_aload_n (pc := 12) C d_M_answerFrame_12 rfl 0 rfl ?_
    refine gM_M_26 (pc := 13) C d_M_answerFrame_13 ?_
    refine tl_iconst (pc := 16) (v := 1) C d_M_answerFrame_16 (by decide) ?_
    obtain ⟨hi, hw⟩ := hw
    refine rM_ald4 (pc := 17) (f := (A 4)) C rfl hi d_M_answerFrame_17 ?_
    refine kM_M_sendMore (pc := 18) C hw ml_M_207 d_M_answerFrame_18 rfl (fun S18 A18 hw => ?_)
    refine tl_goto (pc := 21) (tgt := 58) C d_M_answerFrame_21 rfl ?_
    exact tl_vret (pc := 58) C d_M_answerFrame_58 hw
theorem kM_M_answerFrame {l : Launch} {R : Room} {nc ns : Nat} {Q : tl_Z → State → Prop} {D : va_G} {q : Nat → Nat} {k : Nat → ClassId} {nL : Nat} {z : tl_Z} {cc : ByteArray} {ret : Option FieldType} {pc : Nat} {lv : List (Nat × Value)} {rest : List Value} {S : SS} {A : AA} {own : String} {idx : Nat} {post : SS → AA → Prop} (C : tl_Cx cc nL own ret D (tM k) z) (hw : wM_M_answerFrame post S A) (hl : Cond.methodLink own idx y_M_answerFrame ∈ wsAll) (hdg : decode cc pc = .ok (.invokevirtual idx, 3)) (hf : tl_fit R (tl_R 2) nc ns 1 rest = true) (kk : ∀ (S1 : SS) (A1 : AA), post S1 A1 → tl_At l R nc ns Q D (wM q k) nL z (pc + 3) lv (rest) (S1, A1)) : tl_At l R nc ns Q D (wM q k) nL z pc lv (.ref (q 0) :: rest) (S, A) :=
  tl_callVv (n := 0) (As := []) (b := q 0) (q0 := 0) (ci := 7) C (fun sz => cM_M_answerFrame l D q k sz S A hw) in_670 in_8 in_669 ip_34 (by decide +kernel) rfl ⟨rfl, rfl⟩ rfl rfl hl hf hdg kk
set_option maxHeartbeats 4000000 in
set_option maxRecDepth 100000 in
theorem cM_M_askMore (l : Launch) (D : va_G) (q : Nat → Nat) (k : Nat → ClassId) (sz : Nat) (S : SS) (A : AA) {post : SS → AA → Prop} (hw : wM_M_askMore post S A) : tl_Met l y_M_askMore b_M_askMore 1 none (tl_R 1) D (wM q k) (tM k) sz [.ref (q 0)] (S, A) (tl_Qv D (wM q k) (tM k) post) := by
  refine tl_met (own := R_M) (lv := [(0, .ref (q 0))]) (by decide) rfl rfl (Nat.le_of_ble_eq_true rfl) (fun z C => ?_)
  refine tl_aload_n (pc := 0) C d_M_askMore_0 rfl 0 rfl ?_
  refine kM_M_dropAnswer (pc := 1) C hw ml_M_75 d_M_askMore_1 rfl (fun S1 A1 hw => ?_)
  refine tl_aload_n (pc := 4) C d_M_askMore_4 rfl 0 rfl ?_
  refine tl_bipush (pc := 5) (v := 48) C d_M_askMore_5 (by decide) ?_
  refine tl_iconst (pc := 7) (v := 2) C d_M_askMore_7 (by decide) ?_
  refine tl_iconst (pc := 8) (v := 0) C d_M_askMore_8 (by decide) ?_
  refine kM_M_emit (pc := 9) C hw ml_M_117 d_M_askMore_9 rfl (fun S9 A9 hw => ?_)
  exact tl_vret (pc := 12) C d_M_askMore_12 hw
theorem kM_M_askMore {l : Launch} {R : Room} {nc ns : Nat} {Q : tl_Z → State → Prop} {D : va_G} {q : Nat → Nat} {k : Nat → ClassId} {nL : Nat} {z : tl_Z} {cc : ByteArray} {ret : Option FieldType} {pc : Nat} {lv : List (Nat × Value)} {rest : List Value} {S : SS} {A : AA} {own : String} {idx : Nat} {post : SS → AA → Prop} (C : tl_Cx cc nL own ret D (tM k) z) (hw : wM_M_askMore post S A) (hl : Cond.methodLink own idx y_M_askMore ∈ wsAll) (hdg : decode cc pc = .ok (.invokevirtual idx, 3)) (hf : tl_fit R (tl_R 1) nc ns 1 rest = true) (kk : ∀ (S1 : SS) (A1 : AA), post S1 A1 → tl_At l R nc ns Q D (wM q k) nL z (pc + 3) lv (rest) (S1, A1)) : tl_At l R nc ns Q D (wM q k) nL z pc lv (.ref (q 0) :: rest) (S, A) :=
  tl_callVv (n := 0) (As := []) (b := q 0) (q0 := 0) (ci := 7) C (fun sz => cM_M_askMore l D q k sz S A hw) in_775 in_8 in_774 ip_60 (by decide +kernel) rfl ⟨rfl, rfl⟩ rfl rfl hl hf hdg kk
set_option maxHeartbeats 4000000 in
set_option maxRecDepth 100000 in
theorem cM_M_takeBytes (l : Launch) (D : va_G) (q : Nat → Nat) (k : Nat → ClassId) (sz : Nat) (S : SS) (A : AA) (x1 : Int32) {post : SS → AA → Prop} (hw : wM_M_takeBytes post S A x1) : tl_Met l y_M_takeBytes b_M_takeBytes 3 none (tl_R 0) D (wM q k) (tM k) sz [.ref (q 0), .int x1] (S, A) (tl_Qv D (wM q k) (tM k) post) := by
  refine tl_met (own := R_M) (lv := [(0, .ref (q 0)), (1, .int x1)]) (by decide) rfl rfl (Nat.le_of_ble_eq_true rfl) (fun z C => ?_)
  have B50 : ∀ (S : SS) (A : AA), wM_M_takeBytes_50 post S A → tl_At l (tl_R 0) 0 0 (tl_M 0 0 (tl_Qv D (wM q k) (tM k) post)) D (wM q k) 3 z 50 [(0, .ref (q 0))] [] (S, A) := by
    intro S A hw
    refine tl_aload_n (pc := 50) C d_M_takeBytes_50 rfl 0 rfl ?_
    refine tl_iconst (pc := 51) (v := 0) C d_M_takeBytes_51 (by decide) ?_
    refine pM_M_192 (pc := 52) C d_M_takeBytes_52 ?_
    exact tl_vret (pc := 55) C d_M_takeBytes_55 hw
  have B2 : ∀ (S : SS) (A : AA) (x2 : Int32), wM_M_takeBytes_2 post S A x2 → tl_At l (tl_R 0) 0 0 (tl_M 0 0 (tl_Qv D (wM q k) (tM k) post)) D (wM q k) 3 z 2 [(0, .ref (q 0)), (2, .int x2)] [] (S, A) := by
    intro S A x2 hw
    have key : ∀ X2 : SS → AA → Int32 → Prop, (∀ (S : SS) (A : AA) (x2 : Int32), X2 S A x2 → tl_At l (tl_R 0) 0 0 (tl_M 0 0 (tl_Qv D (wM q k) (tM k) post)) D (wM q k) 3 z 2 [(0, .ref (q 0)), (2, .int x2)] [] (S, A)) → ∀ (S : SS) (A : AA) (x2 : Int32), wM_M_takeBytes_2B post X2 S A x2 → tl_At l (tl_R 0) 0 0 (tl_M 0 0 (tl_Qv D (wM q k) (tM k) post)) D (wM q k) 3 z 2 [(0, .ref (q 0)), (2, .int x2)] [] (S, A) := by
      intro X2 hX2 S A x2 hw
      refine tl_iload_n (pc := 2) C d_M_takeBytes_2 rfl 1 rfl ?_
      refine tl_bipush (pc := 3) (v := 8) C d_M_takeBytes_3 (by decide) ?_
      refine tl_icmp_ge (pc := 5) (tgt := 50) C d_M_takeBytes_5 rfl (fun hc => ?_) (fun hc => ?_)
      · have hw := hw.1 hc
        exact tl_sub [0] rfl (B50 _ _ hw)
      · have hw := hw.2 hc
        refine tl_aload_n (pc := 8) C d_M_takeBytes_8 rfl 0 rfl ?_
        refine gM_M_102 (pc := 9) (v := (S 17)) C rfl d_M_takeBytes_9 ?_
        refine tl_aload_n (pc := 12) C d_M_takeBytes_12 rfl 0 rfl ?_
        refine gM_M_99 (pc := 13) (v := (S 16)) C rfl d_M_takeBytes_13 ?_
        refine tl_icmp_ge (pc := 16) (tgt := 50) C d_M_takeBytes_16 rfl (fun hc => ?_) (fun hc => ?_)
        · have hw := hw.1 hc
          exact tl_sub [0] rfl (B50 _ _ hw)
        · have hw := hw.2 hc
          refine tl_aload_n (pc := 19) C d_M_takeBytes_19 rfl 0 rfl ?_
          refine gM_M_17 (pc := 20) C d_M_takeBytes_20 ?_
          refine tl_aload_n (pc := 23) C d_M_takeBytes_23 rfl 0 rfl ?_
          refine gM_M_102 (pc := 24) (v := (S 17)) C rfl d_M_takeBytes_24 ?_
          refine tl_aload_n (pc := 27) C d_M_takeBytes_27 rfl 0 rfl ?_
          refine gM_M_26 (pc := 28) C d_M_takeBytes_28 ?_
          refine tl_iload_n (pc := 31) C d_M_takeBytes_31 rfl 1 rfl ?_
          obtain ⟨hi, hw⟩ := hw
          refine rM_ald4 (pc := 32) (f := (A 4)) C rfl hi d_M_takeBytes_32 ?_
          obtain ⟨hi, hw⟩ := hw
          refine rM_ast1 (pc := 33) (f := (A 1)) C rfl hi d_M_takeBytes_33 ?_
          refine tl_aload_n (pc := 34) C d_M_takeBytes_34 rfl 0 rfl ?_
          refine tl_dup (pc := 35) C d_M_takeBytes_35 rfl ?_
          refine gM_M_102 (pc := 36) (v := (S 17)) C rfl d_M_takeBytes_36 ?_
          refine tl_iconst (pc := 39) (v := 1) C d_M_takeBytes_39 (by decide) ?_
          refine tl_iadd (pc := 40) C d_M_takeBytes_40 ?_
          refine pM_M_102 (pc := 41) C d_M_takeBytes_41 ?_
          refine tl_iinc (pc := 44) (lv' := [(2, .int (x2 + (1 : Int32))), (0, .ref (q 0))]) C d_M_takeBytes_44 (by decide) 1 rfl rfl (by decide) rfl ?_
          refine tl_goto (pc := 47) (tgt := 2) C d_M_takeBytes_47 rfl ?_
          exact tl_sub [1, 0] rfl (hX2 _ _ _ hw)
    exact hw _ (fun S A x2 hb => key _ (fun _ _ _ h => h) S A x2 hb)
  refine tl_iload_n (pc := 0) C d_M_takeBytes_0 rfl 1 rfl ?_
  refine tl_istore_n (pc := 1) (lv' := [(2, .int x1), (0, .ref (q 0)), (1, .int x1)]) C d_M_takeBytes_1 rfl (by decide) rfl ?_
  exact tl_sub [1, 0] rfl (B2 _ _ _ hw)
theorem kM_M_takeBytes {l : Launch} {R : Room} {nc ns : Nat} {Q : tl_Z → State → Prop} {D : va_G} {q : Nat → Nat} {k : Nat → ClassId} {nL : Nat} {z : tl_Z} {cc : ByteArray} {ret : Option FieldType} {pc : Nat} {lv : List (Nat × Value)} {rest : List Value} {S : SS} {A : AA} {own : String} {idx : Nat} {x1 : Int32} {post : SS → AA → Prop} (C : tl_Cx cc nL own ret D (tM k) z) (hw : wM_M_takeBytes post S A x1) (hl : Cond.methodLink own idx y_M_takeBytes ∈ wsAll) (hdg : decode cc pc = .ok (.invokevirtual idx, 3)) (hf : tl_fit R (tl_R 0) nc ns 3 rest = true) (kk : ∀ (S1 : SS) (A1 : AA), post S1 A1 → tl_At l R nc ns Q D (wM q k) nL z (pc + 3) lv (rest) (S1, A1)) : tl_At l R nc ns Q D (wM q k) nL z pc lv (.int x1 :: .ref (q 0) :: rest) (S, A) :=
  tl_callVv (n := 1) (As := [.int x1]) (b := q 0) (q0 := 0) (ci := 7) C (fun sz => cM_M_takeBytes l D q k sz S A x1 hw) in_686 in_8 in_685 ip_38 (by decide +kernel) rfl ⟨rfl, rfl⟩ rfl rfl hl hf hdg kk
set_option maxHeartbeats 4000000 in
set_option maxRecDepth 100000 in
theorem cM_M_beginRequest (l : Launch) (D : va_G) (q : Nat → Nat) (k : Nat → ClassId) (sz : Nat) (S : SS) (A : AA) (x1 x2 : Int32) {post : SS → AA → Prop} (hw : wM_M_beginRequest post S A x1 x2) : tl_Met l y_M_beginRequest b_M_beginRequest 3 none (tl_R 1) D (wM q k) (tM k) sz [.ref (q 0), .int x1, .int x2] (S, A) (tl_Qv D (wM q k) (tM k) post) := by
  refine tl_met (own := R_M) (lv := [(0, .ref (q 0)), (1, .int x1), (2, .int x2)]) (by decide) rfl rfl (Nat.le_of_ble_eq_true rfl) (fun z C => ?_)
  refine tl_aload_n (pc := 0) C d_M_beginRequest_0 rfl 0 rfl ?_
  refine tl_iload_n (pc := 1) C d_M_beginRequest_1 rfl 1 rfl ?_
  refine pM_M_99 (pc := 2) C d_M_beginRequest_2 ?_
  refine tl_aload_n (pc := 5) C d_M_beginRequest_5 rfl 0 rfl ?_
  refine tl_iconst (pc := 6) (v := 0) C d_M_beginRequest_6 (by decide) ?_
  refine pM_M_102 (pc := 7) C d_M_beginRequest_7 ?_
  refine tl_aload_n (pc := 10) C d_M_beginRequest_10 rfl 0 rfl ?_
  refine tl_iconst (pc := 11) (v := 0) C d_M_beginRequest_11 (by decide) ?_
  refine pM_M_195 (pc := 12) C d_M_beginRequest_12 ?_
  refine tl_aload_n (pc := 15) C d_M_beginRequest_15 rfl 0 rfl ?_
  refine tl_iload_n (pc := 16) C d_M_beginRequest_16 rfl 2 rfl ?_
  refine kM_M_takeBytes (pc := 17) C hw ml_M_198 d_M_beginRequest_17 rfl (fun S17 A17 hw => ?_)
  exact tl_vret (pc := 20) C d_M_beginRequest_20 hw
theorem kM_M_beginRequest {l : Launch} {R : Room} {nc ns : Nat} {Q : tl_Z → State → Prop} {D : va_G} {q : Nat → Nat} {k : Nat → ClassId} {nL : Nat} {z : tl_Z} {cc : ByteArray} {ret : Option FieldType} {pc : Nat} {lv : List (Nat × Value)} {rest : List Value} {S : SS} {A : AA} {own : String} {idx : Nat} {x1 x2 : Int32} {post : SS → AA → Prop} (C : tl_Cx cc nL own ret D (tM k) z) (hw : wM_M_beginRequest post S A x1 x2) (hl : Cond.methodLink own idx y_M_beginRequest ∈ wsAll) (hdg : decode cc pc = .ok (.invokevirtual idx, 3)) (hf : tl_fit R (tl_R 1) nc ns 3 rest = true) (kk : ∀ (S1 : SS) (A1 : AA), post S1 A1 → tl_At l R nc ns Q D (wM q k) nL z (pc + 3) lv (rest) (S1, A1)) : tl_At l R nc ns Q D (wM q k) nL z pc lv (.int x2 :: .int x1 :: .ref (q 0) :: rest) (S, A) :=
  tl_callVv (n := 2) (As := [.int x1, .int x2]) (b := q 0) (q0 := 0) (ci := 7) C (fun sz => cM_M_beginRequest l D q k sz S A x1 x2 hw) in_682 in_8 in_681 ip_37 (by decide +kernel) rfl ⟨rfl, rfl⟩ rfl rfl hl hf hdg kk
set_option maxHeartbeats 4000000 in
set_option maxRecDepth 100000 in
theorem cM_M_add (l : Launch) (D : va_G) (q : Nat → Nat) (k : Nat → ClassId) (sz : Nat) (S : SS) (A : AA) (x1 : Int32) {post : SS → AA → Prop} (hw : wM_M_add post S A x1) : tl_Met l y_M_add b_M_add 2 none (tl_R 0) D (wM q k) (tM k) sz [.ref (q 0), .int x1] (S, A) (tl_Qv D (wM q k) (tM k) post) := by
  refine tl_met (own := R_M) (lv := [(0, .ref (q 0)), (1, .int x1)]) (by decide) rfl rfl (Nat.le_of_ble_eq_true rfl) (fun z C => ?_)
  refine tl_aload_n (pc := 0) C d_M_add_0 rfl 0 rfl ?_
  refine gM_M_20 (pc := 1) C d_M_add_1 ?_
  refine tl_aload_n (pc := 4) C d_M_add_4 rfl 0 rfl ?_
  refine gM_M_105 (pc := 5) (v := (S 20)) C rfl d_M_add_5 ?_
  refine tl_iload_n (pc := 8) C d_M_add_8 rfl 1 rfl ?_
  obtain ⟨hi, hw⟩ := hw
  refine rM_ast2 (pc := 9) (f := (A 2)) C rfl hi d_M_add_9 ?_
  refine tl_aload_n (pc := 10) C d_M_add_10 rfl 0 rfl ?_
  refine tl_dup (pc := 11) C d_M_add_11 rfl ?_
  refine gM_M_105 (pc := 12) (v := (S 20)) C rfl d_M_add_12 ?_
  refine tl_iconst (pc := 15) (v := 1) C d_M_add_15 (by decide) ?_
  refine tl_iadd (pc := 16) C d_M_add_16 ?_
  refine pM_M_105 (pc := 17) C d_M_add_17 ?_
  exact tl_vret (pc := 20) C d_M_add_20 hw
theorem kM_M_add {l : Launch} {R : Room} {nc ns : Nat} {Q : tl_Z → State → Prop} {D : va_G} {q : Nat → Nat} {k : Nat → ClassId} {nL : Nat} {z : tl_Z} {cc : ByteArray} {ret : Option FieldType} {pc : Nat} {lv : List (Nat × Value)} {rest : List Value} {S : SS} {A : AA} {own : String} {idx : Nat} {x1 : Int32} {post : SS → AA → Prop} (C : tl_Cx cc nL own ret D (tM k) z) (hw : wM_M_add post S A x1) (hl : Cond.methodLink own idx y_M_add ∈ wsAll) (hdg : decode cc pc = .ok (.invokevirtual idx, 3)) (hf : tl_fit R (tl_R 0) nc ns 2 rest = true) (kk : ∀ (S1 : SS) (A1 : AA), post S1 A1 → tl_At l R nc ns Q D (wM q k) nL z (pc + 3) lv (rest) (S1, A1)) : tl_At l R nc ns Q D (wM q k) nL z pc lv (.int x1 :: .ref (q 0) :: rest) (S, A) :=
  tl_callVv (n := 1) (As := [.int x1]) (b := q 0) (q0 := 0) (ci := 7) C (fun sz => cM_M_add l D q k sz S A x1 hw) in_714 in_8 in_713 ip_45 (by decide +kernel) rfl ⟨rfl, rfl⟩ rfl rfl hl hf hdg kk
set_option maxHeartbeats 4000000 in
set_option maxRecDepth 100000 in
theorem cM_M_hasPart (l : Launch) (D : va_G) (q : Nat → Nat) (k : Nat → ClassId) (sz : Nat) (S : SS) (A : AA) (x1 : Int32) {post : Int32 → SS → AA → Prop} (hw : wM_M_hasPart post S A x1) : tl_Met l y_M_hasPart b_M_hasPart 3 (some .boolean) (tl_R 0) D (wM q k) (tM k) sz [.ref (q 0), .int x1] (S, A) (tl_Qi D (wM q k) (tM k) post) := by
  refine tl_met (own := R_M) (lv := [(0, .ref (q 0)), (1, .int x1)]) (by decide) rfl rfl (Nat.le_of_ble_eq_true rfl) (fun z C => ?_)
  have B68 : ∀ (S : SS) (A : AA), wM_M_hasPart_68 post S A → tl_At l (tl_R 0) 0 0 (tl_M 0 0 (tl_Qi D (wM q k) (tM k) post)) D (wM q k) 3 z 68 [] [] (S, A) := by
    intro S A hw
    refine tl_iconst (pc := 68) (v := 1) C d_M_hasPart_68 (by decide) ?_
    refine tl_goto (pc := 69) (tgt := 73) C d_M_hasPart_69 rfl ?_
    exact tl_zret (pc := 73) C (by decide) d_M_hasPart_73 hw
  have B63 : ∀ (S : SS) (A : AA) (x2 : Int32), wM_M_hasPart_63 post S A x2 → tl_At l (tl_R 0) 0 0 (tl_M 0 0 (tl_Qi D (wM q k) (tM k) post)) D (wM q k) 3 z 63 [(2, .int x2)] [] (S, A) := by
    intro S A x2 hw
    refine tl_iload_n (pc := 63) C d_M_hasPart_63 rfl 0 rfl ?_
    refine tl_iconst (pc := 64) (v := 1) C d_M_hasPart_64 (by decide) ?_
    refine tl_icmp_ne (pc := 65) (tgt := 72) C d_M_hasPart_65 rfl (fun hc => ?_) (fun hc => ?_)
    · have hw := hw.1 hc
      refine tl_iconst (pc := 72) (v := 0) C d_M_hasPart_72 (by decide) ?_
      exact tl_zret (pc := 73) C (by decide) d_M_hasPart_73 hw
    · have hw := hw.2 hc
      exact tl_sub [] rfl (B68 _ _ hw)
  have B29 : ∀ (S : SS) (A : AA), wM_M_hasPart_29 post S A → tl_At l (tl_R 0) 0 0 (tl_M 0 0 (tl_Qi D (wM q k) (tM k) post)) D (wM q k) 3 z 29 [] [] (S, A) := by
    intro S A hw
    refine tl_iconst (pc := 29) (v := 1) C d_M_hasPart_29 (by decide) ?_
    refine tl_goto (pc := 30) (tgt := 34) C d_M_hasPart_30 rfl ?_
    exact tl_zret (pc := 34) C (by decide) d_M_hasPart_34 hw
  have B19 : ∀ (S : SS) (A : AA) (x2 : Int32), wM_M_hasPart_19 post S A x2 → tl_At l (tl_R 0) 0 0 (tl_M 0 0 (tl_Qi D (wM q k) (tM k) post)) D (wM q k) 3 z 19 [(2, .int x2)] [] (S, A) := by
    intro S A x2 hw
    refine tl_iload_n (pc := 19) C d_M_hasPart_19 rfl 0 rfl ?_
    refine tl_iconst (pc := 20) (v := 1) C d_M_hasPart_20 (by decide) ?_
    refine tl_icmp_eq (pc := 21) (tgt := 29) C d_M_hasPart_21 rfl (fun hc => ?_) (fun hc => ?_)
    · have hw := hw.1 hc
      exact tl_sub [] rfl (B29 _ _ hw)
    · have hw := hw.2 hc
      refine tl_iload_n (pc := 24) C d_M_hasPart_24 rfl 0 rfl ?_
      refine tl_iconst (pc := 25) (v := 2) C d_M_hasPart_25 (by decide) ?_
      refine tl_icmp_ne (pc := 26) (tgt := 33) C d_M_hasPart_26 rfl (fun hc => ?_) (fun hc => ?_)
      · have hw := hw.1 hc
        refine tl_iconst (pc := 33) (v := 0) C d_M_hasPart_33 (by decide) ?_
        exact tl_zret (pc := 34) C (by decide) d_M_hasPart_34 hw
      · have hw := hw.2 hc
        exact tl_sub [] rfl (B29 _ _ hw)
  refine tl_aload_n (pc := 0) C d_M_hasPart_0 rfl 0 rfl ?_
  refine gM_M_17 (pc := 1) C d_M_hasPart_1 ?_
  refine tl_iconst (pc := 4) (v := 1) C d_M_hasPart_4 (by decide) ?_
  obtain ⟨hi, hw⟩ := hw
  refine rM_ald1 (pc := 5) (f := (A 1)) C rfl hi d_M_hasPart_5 ?_
  refine tl_istore_n (pc := 6) (lv' := [(2, .int ((A 1) (1 : Int32).toNatClampNeg)), (0, .ref (q 0)), (1, .int x1)]) C d_M_hasPart_6 rfl (by decide) rfl ?_
  refine tl_iload_n (pc := 7) C d_M_hasPart_7 rfl 2 rfl ?_
  refine tl_bipush (pc := 8) (v := 16) C d_M_hasPart_8 (by decide) ?_
  refine tl_icmp_eq (pc := 10) (tgt := 19) C d_M_hasPart_10 rfl (fun hc => ?_) (fun hc => ?_)
  · have hw := hw.1 hc
    exact tl_sub [0] rfl (B19 _ _ _ hw)
  · have hw := hw.2 hc
    refine tl_iload_n (pc := 13) C d_M_hasPart_13 rfl 2 rfl ?_
    refine tl_bipush (pc := 14) (v := 39) C d_M_hasPart_14 (by decide) ?_
    refine tl_icmp_ne (pc := 16) (tgt := 35) C d_M_hasPart_16 rfl (fun hc => ?_) (fun hc => ?_)
    · have hw := hw.1 hc
      refine tl_iload_n (pc := 35) C d_M_hasPart_35 rfl 2 rfl ?_
      refine tl_bipush (pc := 36) (v := 62) C d_M_hasPart_36 (by decide) ?_
      refine tl_icmp_ne (pc := 38) (tgt := 51) C d_M_hasPart_38 rfl (fun hc => ?_) (fun hc => ?_)
      · have hw := hw.1 hc
        refine tl_iload_n (pc := 51) C d_M_hasPart_51 rfl 2 rfl ?_
        refine tl_bipush (pc := 52) (v := 17) C d_M_hasPart_52 (by decide) ?_
        refine tl_icmp_eq (pc := 54) (tgt := 63) C d_M_hasPart_54 rfl (fun hc => ?_) (fun hc => ?_)
        · have hw := hw.1 hc
          exact tl_sub [0] rfl (B63 _ _ _ hw)
        · have hw := hw.2 hc
          refine tl_iload_n (pc := 57) C d_M_hasPart_57 rfl 2 rfl ?_
          refine tl_bipush (pc := 58) (v := 49) C d_M_hasPart_58 (by decide) ?_
          refine tl_icmp_ne (pc := 60) (tgt := 68) C d_M_hasPart_60 rfl (fun hc => ?_) (fun hc => ?_)
          · have hw := hw.1 hc
            exact tl_sub [] rfl (B68 _ _ hw)
          · have hw := hw.2 hc
            exact tl_sub [0] rfl (B63 _ _ _ hw)
      · have hw := hw.2 hc
        refine tl_iload_n (pc := 41) C d_M_hasPart_41 rfl 0 rfl ?_
        refine tl_if_ne (pc := 42) (tgt := 49) C d_M_hasPart_42 rfl (fun hc => ?_) (fun hc => ?_)
        · have hw := hw.1 hc
          refine tl_iconst (pc := 49) (v := 0) C d_M_hasPart_49 (by decide) ?_
          exact tl_zret (pc := 50) C (by decide) d_M_hasPart_50 hw
        · have hw := hw.2 hc
          refine tl_iconst (pc := 45) (v := 1) C d_M_hasPart_45 (by decide) ?_
          refine tl_goto (pc := 46) (tgt := 50) C d_M_hasPart_46 rfl ?_
          exact tl_zret (pc := 50) C (by decide) d_M_hasPart_50 hw
    · have hw := hw.2 hc
      exact tl_sub [0] rfl (B19 _ _ _ hw)
theorem kM_M_hasPart {l : Launch} {R : Room} {nc ns : Nat} {Q : tl_Z → State → Prop} {D : va_G} {q : Nat → Nat} {k : Nat → ClassId} {nL : Nat} {z : tl_Z} {cc : ByteArray} {ret : Option FieldType} {pc : Nat} {lv : List (Nat × Value)} {rest : List Value} {S : SS} {A : AA} {own : String} {idx : Nat} {x1 : Int32} {post : Int32 → SS → AA → Prop} (C : tl_Cx cc nL own ret D (tM k) z) (hw : wM_M_hasPart post S A x1) (hl : Cond.methodLink own idx y_M_hasPart ∈ wsAll) (hdg : decode cc pc = .ok (.invokevirtual idx, 3)) (hf : tl_fit R (tl_R 0) nc ns 3 rest = true) (kk : ∀ (r : Int32) (S1 : SS) (A1 : AA), post r S1 A1 → tl_At l R nc ns Q D (wM q k) nL z (pc + 3) lv (.int r :: rest) (S1, A1)) : tl_At l R nc ns Q D (wM q k) nL z pc lv (.int x1 :: .ref (q 0) :: rest) (S, A) :=
  tl_callVi (n := 1) (As := [.int x1]) (b := q 0) (q0 := 0) (ci := 7) C (fun sz => cM_M_hasPart l D q k sz S A x1 hw) in_706 in_8 in_705 ip_43 (by decide +kernel) rfl ⟨rfl, rfl⟩ rfl rfl hl hf hdg kk
theorem swM_M_isLong_1_39 {σ : Type} {l : Launch} {R : Room} {nc ns : Nat} {Q : tl_Z → State → Prop} {D : va_G} {w : σ → va_W} {nL : Nat} {z : tl_Z} {own : String} {ret : Option FieldType} {tys : List (ClassId × FieldType)} {lv : List (Nat × Value)} {rest : List Value} {u : σ} {x : Int32} (C : tl_Cx b_M_isLong nL own ret D tys z) (hc : x = (39 : Int32)) (kk : tl_At l R nc ns Q D w nL z 84 lv rest u) : tl_At l R nc ns Q D w nL z 1 lv (.int x :: rest) u := by
  subst hc
  obtain ⟨p, e, s, m, args, below, meth, c, F⟩ := z
  obtain ⟨hx, hb, hml, hown, hts, hN, hK, hA, hlk, hr⟩ := C
  exact fun ls H locs hl hP hD hS => lv_tableIn hx hb d_M_isLong_1 (by decide) (by decide) (by decide +kernel : _ = some (83 : Int)) rfl (kk ls H locs hl hP hD hS)
theorem swM_M_isLong_1_46 {σ : Type} {l : Launch} {R : Room} {nc ns : Nat} {Q : tl_Z → State → Prop} {D : va_G} {w : σ → va_W} {nL : Nat} {z : tl_Z} {own : String} {ret : Option FieldType} {tys : List (ClassId × FieldType)} {lv : List (Nat × Value)} {rest : List Value} {u : σ} {x : Int32} (C : tl_Cx b_M_isLong nL own ret D tys z) (hc : x = (46 : Int32)) (kk : tl_At l R nc ns Q D w nL z 120 lv rest u) : tl_At l R nc ns Q D w nL z 1 lv (.int x :: rest) u := by
  subst hc
  obtain ⟨p, e, s, m, args, below, meth, c, F⟩ := z
  obtain ⟨hx, hb, hml, hown, hts, hN, hK, hA, hlk, hr⟩ := C
  exact fun ls H locs hl hP hD hS => lv_tableIn hx hb d_M_isLong_1 (by decide) (by decide) (by decide +kernel : _ = some (119 : Int)) rfl (kk ls H locs hl hP hD hS)
theorem swM_M_isLong_1_49 {σ : Type} {l : Launch} {R : Room} {nc ns : Nat} {Q : tl_Z → State → Prop} {D : va_G} {w : σ → va_W} {nL : Nat} {z : tl_Z} {own : String} {ret : Option FieldType} {tys : List (ClassId × FieldType)} {lv : List (Nat × Value)} {rest : List Value} {u : σ} {x : Int32} (C : tl_Cx b_M_isLong nL own ret D tys z) (hc : x = (49 : Int32)) (kk : tl_At l R nc ns Q D w nL z 134 lv rest u) : tl_At l R nc ns Q D w nL z 1 lv (.int x :: rest) u := by
  subst hc
  obtain ⟨p, e, s, m, args, below, meth, c, F⟩ := z
  obtain ⟨hx, hb, hml, hown, hts, hN, hK, hA, hlk, hr⟩ := C
  exact fun ls H locs hl hP hD hS => lv_tableIn hx hb d_M_isLong_1 (by decide) (by decide) (by decide +kernel : _ = some (133 : Int)) rfl (kk ls H locs hl hP hD hS)
theorem swM_M_isLong_1_52 {σ : Type} {l : Launch} {R : Room} {nc ns : Nat} {Q : tl_Z → State → Prop} {D : va_G} {w : σ → va_W} {nL : Nat} {z : tl_Z} {own : String} {ret : Option FieldType} {tys : List (ClassId × FieldType)} {lv : List (Nat × Value)} {rest : List Value} {u : σ} {x : Int32} (C : tl_Cx b_M_isLong nL own ret D tys z) (hc : x = (52 : Int32)) (kk : tl_At l R nc ns Q D w nL z 120 lv rest u) : tl_At l R nc ns Q D w nL z 1 lv (.int x :: rest) u := by
  subst hc
  obtain ⟨p, e, s, m, args, below, meth, c, F⟩ := z
  obtain ⟨hx, hb, hml, hown, hts, hN, hK, hA, hlk, hr⟩ := C
  exact fun ls H locs hl hP hD hS => lv_tableIn hx hb d_M_isLong_1 (by decide) (by decide) (by decide +kernel : _ = some (119 : Int)) rfl (kk ls H locs hl hP hD hS)
theorem swM_M_isLong_1_54 {σ : Type} {l : Launch} {R : Room} {nc ns : Nat} {Q : tl_Z → State → Prop} {D : va_G} {w : σ → va_W} {nL : Nat} {z : tl_Z} {own : String} {ret : Option FieldType} {tys : List (ClassId × FieldType)} {lv : List (Nat × Value)} {rest : List Value} {u : σ} {x : Int32} (C : tl_Cx b_M_isLong nL own ret D tys z) (hc : x = (54 : Int32)) (kk : tl_At l R nc ns Q D w nL z 171 lv rest u) : tl_At l R nc ns Q D w nL z 1 lv (.int x :: rest) u := by
  subst hc
  obtain ⟨p, e, s, m, args, below, meth, c, F⟩ := z
  obtain ⟨hx, hb, hml, hown, hts, hN, hK, hA, hlk, hr⟩ := C
  exact fun ls H locs hl hP hD hS => lv_tableIn hx hb d_M_isLong_1 (by decide) (by decide) (by decide +kernel : _ = some (170 : Int)) rfl (kk ls H locs hl hP hD hS)
theorem swM_M_isLong_1_55 {σ : Type} {l : Launch} {R : Room} {nc ns : Nat} {Q : tl_Z → State → Prop} {D : va_G} {w : σ → va_W} {nL : Nat} {z : tl_Z} {own : String} {ret : Option FieldType} {tys : List (ClassId × FieldType)} {lv : List (Nat × Value)} {rest : List Value} {u : σ} {x : Int32} (C : tl_Cx b_M_isLong nL own ret D tys z) (hc : x = (55 : Int32)) (kk : tl_At l R nc ns Q D w nL z 194 lv rest u) : tl_At l R nc ns Q D w nL z 1 lv (.int x :: rest) u := by
  subst hc
  obtain ⟨p, e, s, m, args, below, meth, c, F⟩ := z
  obtain ⟨hx, hb, hml, hown, hts, hN, hK, hA, hlk, hr⟩ := C
  exact fun ls H locs hl hP hD hS => lv_tableIn hx hb d_M_isLong_1 (by decide) (by decide) (by decide +kernel : _ = some (193 : Int)) rfl (kk ls H locs hl hP hD hS)
theorem swM_M_isLong_1_d {σ : Type} {l : Launch} {R : Room} {nc ns : Nat} {Q : tl_Z → State → Prop} {D : va_G} {w : σ → va_W} {nL : Nat} {z : tl_Z} {own : String} {ret : Option FieldType} {tys : List (ClassId × FieldType)} {lv : List (Nat × Value)} {rest : List Value} {u : σ} {x : Int32} (C : tl_Cx b_M_isLong nL own ret D tys z) (h0 : ¬ x = (39 : Int32)) (h1 : ¬ x = (46 : Int32)) (h2 : ¬ x = (49 : Int32)) (h3 : ¬ x = (52 : Int32)) (h4 : ¬ x = (54 : Int32)) (h5 : ¬ x = (55 : Int32)) (kk : tl_At l R nc ns Q D w nL z 208 lv rest u) : tl_At l R nc ns Q D w nL z 1 lv (.int x :: rest) u := by
  obtain ⟨p, e, s, m, args, below, meth, c, F⟩ := z
  obtain ⟨hx, hb, hml, hown, hts, hN, hK, hA, hlk, hr⟩ := C
  intro ls H locs hl hP hD hS
  have n0 := lv_neT h0 (show (39 : Int32).toInt = 39 by decide)
  have n1 := lv_neT h1 (show (46 : Int32).toInt = 46 by decide)
  have n2 := lv_neT h2 (show (49 : Int32).toInt = 49 by decide)
  have n3 := lv_neT h3 (show (52 : Int32).toInt = 52 by decide)
  have n4 := lv_neT h4 (show (54 : Int32).toInt = 54 by decide)
  have n5 := lv_neT h5 (show (55 : Int32).toInt = 55 by decide)
  by_cases ha : x.toInt < 39
  · exact lv_tableOut hx hb d_M_isLong_1 (Or.inl ha) rfl (kk ls H locs hl hP hD hS)
  by_cases hz : 55 < x.toInt
  · exact lv_tableOut hx hb d_M_isLong_1 (Or.inr hz) rfl (kk ls H locs hl hP hD hS)
  rcases (show x.toInt = 40 ∨ x.toInt = 41 ∨ x.toInt = 42 ∨ x.toInt = 43 ∨ x.toInt = 44 ∨ x.toInt = 45 ∨ x.toInt = 47 ∨ x.toInt = 48 ∨ x.toInt = 50 ∨ x.toInt = 51 ∨ x.toInt = 53 by omega) with hq | hq | hq | hq | hq | hq | hq | hq | hq | hq | hq <;> exact lv_tableIn (off := 207) hx hb d_M_isLong_1 ha hz (by rw [hq]; decide +kernel) rfl (kk ls H locs hl hP hD hS)
set_option maxHeartbeats 4000000 in
set_option maxRecDepth 100000 in
theorem cM_M_isLong (l : Launch) (D : va_G) (q : Nat → Nat) (k : Nat → ClassId) (sz : Nat) (S : SS) (A : AA) (x1 : Int32) {post : Int32 → SS → AA → Prop} (hw : wM_M_isLong post S A x1) : tl_Met l y_M_isLong b_M_isLong 2 (some .boolean) (tl_R 0) D (wM q k) (tM k) sz [.ref (q 0), .int x1] (S, A) (tl_Qi D (wM q k) (tM k) post) := by
  refine tl_met (own := R_M) (lv := [(0, .ref (q 0)), (1, .int x1)]) (by decide) rfl rfl (Nat.le_of_ble_eq_true rfl) (fun z C => ?_)
  have B162 : ∀ (S : SS) (A : AA) (y0 y1 : Int32), wM_M_isLong_162 post S A y0 y1 → tl_At l (tl_R 0) 0 0 (tl_M 0 0 (tl_Qi D (wM q k) (tM k) post)) D (wM q k) 2 z 162 [] [.int y0, .int y1] (S, A) := by
    intro S A y0 y1 hw
    refine tl_icmp_ne (pc := 162) (tgt := 169) C d_M_isLong_162 rfl (fun hc => ?_) (fun hc => ?_)
    · have hw := hw.1 hc
      refine tl_iconst (pc := 169) (v := 0) C d_M_isLong_169 (by decide) ?_
      exact tl_zret (pc := 170) C (by decide) d_M_isLong_170 hw
    · have hw := hw.2 hc
      refine tl_iconst (pc := 165) (v := 1) C d_M_isLong_165 (by decide) ?_
      refine tl_goto (pc := 166) (tgt := 170) C d_M_isLong_166 rfl ?_
      exact tl_zret (pc := 170) C (by decide) d_M_isLong_170 hw
  have B161 : ∀ (S : SS) (A : AA) (y0 : Int32), wM_M_isLong_161 post S A y0 → tl_At l (tl_R 0) 0 0 (tl_M 0 0 (tl_Qi D (wM q k) (tM k) post)) D (wM q k) 2 z 161 [] [.int y0] (S, A) := by
    intro S A y0 hw
    refine tl_iconst (pc := 161) (v := 4) C d_M_isLong_161 (by decide) ?_
    exact tl_sub [] rfl (B162 _ _ _ _ hw)
  have B120 : ∀ (S : SS) (A : AA), wM_M_isLong_120 post S A → tl_At l (tl_R 0) 0 0 (tl_M 0 0 (tl_Qi D (wM q k) (tM k) post)) D (wM q k) 2 z 120 [(0, .ref (q 0))] [] (S, A) := by
    intro S A hw
    refine tl_aload_n (pc := 120) C d_M_isLong_120 rfl 0 rfl ?_
    refine gM_M_102 (pc := 121) (v := (S 17)) C rfl d_M_isLong_121 ?_
    refine tl_iconst (pc := 124) (v := 3) C d_M_isLong_124 (by decide) ?_
    refine tl_icmp_ne (pc := 125) (tgt := 132) C d_M_isLong_125 rfl (fun hc => ?_) (fun hc => ?_)
    · have hw := hw.1 hc
      refine tl_iconst (pc := 132) (v := 0) C d_M_isLong_132 (by decide) ?_
      exact tl_zret (pc := 133) C (by decide) d_M_isLong_133 hw
    · have hw := hw.2 hc
      refine tl_iconst (pc := 128) (v := 1) C d_M_isLong_128 (by decide) ?_
      refine tl_goto (pc := 129) (tgt := 133) C d_M_isLong_129 rfl ?_
      exact tl_zret (pc := 133) C (by decide) d_M_isLong_133 hw
  have B111 : ∀ (S : SS) (A : AA) (y0 y1 : Int32), wM_M_isLong_111 post S A y0 y1 → tl_At l (tl_R 0) 0 0 (tl_M 0 0 (tl_Qi D (wM q k) (tM k) post)) D (wM q k) 2 z 111 [] [.int y0, .int y1] (S, A) := by
    intro S A y0 y1 hw
    refine tl_icmp_ne (pc := 111) (tgt := 118) C d_M_isLong_111 rfl (fun hc => ?_) (fun hc => ?_)
    · have hw := hw.1 hc
      refine tl_iconst (pc := 118) (v := 0) C d_M_isLong_118 (by decide) ?_
      exact tl_zret (pc := 119) C (by decide) d_M_isLong_119 hw
    · have hw := hw.2 hc
      refine tl_iconst (pc := 114) (v := 1) C d_M_isLong_114 (by decide) ?_
      refine tl_goto (pc := 115) (tgt := 119) C d_M_isLong_115 rfl ?_
      exact tl_zret (pc := 119) C (by decide) d_M_isLong_119 hw
  have B110 : ∀ (S : SS) (A : AA) (y0 : Int32), wM_M_isLong_110 post S A y0 → tl_At l (tl_R 0) 0 0 (tl_M 0 0 (tl_Qi D (wM q k) (tM k) post)) D (wM q k) 2 z 110 [] [.int y0] (S, A) := by
    intro S A y0 hw
    refine tl_iconst (pc := 110) (v := 2) C d_M_isLong_110 (by decide) ?_
    exact tl_sub [] rfl (B111 _ _ _ _ hw)
  refine tl_iload_n (pc := 0) C d_M_isLong_0 rfl 1 rfl ?_
  by_cases hc : x1 = (39 : Int32)
  · have hw := hw.1 hc
    refine swM_M_isLong_1_39 C hc ?_
    refine tl_aload_n (pc := 84) C d_M_isLong_84 rfl 0 rfl ?_
    refine gM_M_102 (pc := 85) (v := (S 17)) C rfl d_M_isLong_85 ?_
    refine tl_aload_n (pc := 88) C d_M_isLong_88 rfl 0 rfl ?_
    refine gM_M_102 (pc := 89) (v := (S 17)) C rfl d_M_isLong_89 ?_
    refine tl_iconst (pc := 92) (v := 1) C d_M_isLong_92 (by decide) ?_
    refine tl_icmp_le (pc := 93) (tgt := 110) C d_M_isLong_93 rfl (fun hc => ?_) (fun hc => ?_)
    · have hw := hw.1 hc
      exact tl_sub [] rfl (B110 _ _ _ hw)
    · have hw := hw.2 hc
      refine tl_aload_n (pc := 96) C d_M_isLong_96 rfl 0 rfl ?_
      refine gM_M_17 (pc := 97) C d_M_isLong_97 ?_
      refine tl_iconst (pc := 100) (v := 1) C d_M_isLong_100 (by decide) ?_
      obtain ⟨hi, hw⟩ := hw
      refine rM_ald1 (pc := 101) (f := (A 1)) C rfl hi d_M_isLong_101 ?_
      refine tl_iconst (pc := 102) (v := 2) C d_M_isLong_102 (by decide) ?_
      refine tl_icmp_ne (pc := 103) (tgt := 110) C d_M_isLong_103 rfl (fun hc => ?_) (fun hc => ?_)
      · have hw := hw.1 hc
        exact tl_sub [] rfl (B110 _ _ _ hw)
      · have hw := hw.2 hc
        refine tl_iconst (pc := 106) (v := 3) C d_M_isLong_106 (by decide) ?_
        refine tl_goto (pc := 107) (tgt := 111) C d_M_isLong_107 rfl ?_
        exact tl_sub [] rfl (B111 _ _ _ _ hw)
  · have hw := hw.2 hc
    have hc0 := hc
    by_cases hc : x1 = (46 : Int32)
    · have hw := hw.1 hc
      refine swM_M_isLong_1_46 C hc ?_
      exact tl_sub [0] rfl (B120 _ _ hw)
    · have hw := hw.2 hc
      have hc1 := hc
      by_cases hc : x1 = (49 : Int32)
      · have hw := hw.1 hc
        refine swM_M_isLong_1_49 C hc ?_
        refine tl_aload_n (pc := 134) C d_M_isLong_134 rfl 0 rfl ?_
        refine gM_M_102 (pc := 135) (v := (S 17)) C rfl d_M_isLong_135 ?_
        refine tl_aload_n (pc := 138) C d_M_isLong_138 rfl 0 rfl ?_
        refine gM_M_102 (pc := 139) (v := (S 17)) C rfl d_M_isLong_139 ?_
        refine tl_iconst (pc := 142) (v := 2) C d_M_isLong_142 (by decide) ?_
        refine tl_icmp_le (pc := 143) (tgt := 161) C d_M_isLong_143 rfl (fun hc => ?_) (fun hc => ?_)
        · have hw := hw.1 hc
          exact tl_sub [] rfl (B161 _ _ _ hw)
        · have hw := hw.2 hc
          refine tl_aload_n (pc := 146) C d_M_isLong_146 rfl 0 rfl ?_
          refine gM_M_17 (pc := 147) C d_M_isLong_147 ?_
          refine tl_iconst (pc := 150) (v := 2) C d_M_isLong_150 (by decide) ?_
          obtain ⟨hi, hw⟩ := hw
          refine rM_ald1 (pc := 151) (f := (A 1)) C rfl hi d_M_isLong_151 ?_
          refine tl_iconst (pc := 152) (v := 2) C d_M_isLong_152 (by decide) ?_
          refine tl_icmp_ne (pc := 153) (tgt := 161) C d_M_isLong_153 rfl (fun hc => ?_) (fun hc => ?_)
          · have hw := hw.1 hc
            exact tl_sub [] rfl (B161 _ _ _ hw)
          · have hw := hw.2 hc
            refine tl_bipush (pc := 156) (v := 6) C d_M_isLong_156 (by decide) ?_
            refine tl_goto (pc := 158) (tgt := 162) C d_M_isLong_158 rfl ?_
            exact tl_sub [] rfl (B162 _ _ _ _ hw)
      · have hw := hw.2 hc
        have hc2 := hc
        by_cases hc : x1 = (52 : Int32)
        · have hw := hw.1 hc
          refine swM_M_isLong_1_52 C hc ?_
          exact tl_sub [0] rfl (B120 _ _ hw)
        · have hw := hw.2 hc
          have hc3 := hc
          by_cases hc : x1 = (54 : Int32)
          · have hw := hw.1 hc
            refine swM_M_isLong_1_54 C hc ?_
            refine tl_aload_n (pc := 171) C d_M_isLong_171 rfl 0 rfl ?_
            refine gM_M_102 (pc := 172) (v := (S 17)) C rfl d_M_isLong_172 ?_
            refine tl_iconst (pc := 175) (v := 3) C d_M_isLong_175 (by decide) ?_
            refine tl_icmp_lt (pc := 176) (tgt := 192) C d_M_isLong_176 rfl (fun hc => ?_) (fun hc => ?_)
            · have hw := hw.1 hc
              refine tl_iconst (pc := 192) (v := 0) C d_M_isLong_192 (by decide) ?_
              exact tl_zret (pc := 193) C (by decide) d_M_isLong_193 hw
            · have hw := hw.2 hc
              refine tl_aload_n (pc := 179) C d_M_isLong_179 rfl 0 rfl ?_
              refine gM_M_102 (pc := 180) (v := (S 17)) C rfl d_M_isLong_180 ?_
              refine tl_bipush (pc := 183) (v := 10) C d_M_isLong_183 (by decide) ?_
              refine tl_icmp_gt (pc := 185) (tgt := 192) C d_M_isLong_185 rfl (fun hc => ?_) (fun hc => ?_)
              · have hw := hw.1 hc
                refine tl_iconst (pc := 192) (v := 0) C d_M_isLong_192 (by decide) ?_
                exact tl_zret (pc := 193) C (by decide) d_M_isLong_193 hw
              · have hw := hw.2 hc
                refine tl_iconst (pc := 188) (v := 1) C d_M_isLong_188 (by decide) ?_
                refine tl_goto (pc := 189) (tgt := 193) C d_M_isLong_189 rfl ?_
                exact tl_zret (pc := 193) C (by decide) d_M_isLong_193 hw
          · have hw := hw.2 hc
            have hc4 := hc
            by_cases hc : x1 = (55 : Int32)
            · have hw := hw.1 hc
              refine swM_M_isLong_1_55 C hc ?_
              refine tl_aload_n (pc := 194) C d_M_isLong_194 rfl 0 rfl ?_
              refine gM_M_102 (pc := 195) (v := (S 17)) C rfl d_M_isLong_195 ?_
              refine tl_iconst (pc := 198) (v := 1) C d_M_isLong_198 (by decide) ?_
              refine tl_icmp_ne (pc := 199) (tgt := 206) C d_M_isLong_199 rfl (fun hc => ?_) (fun hc => ?_)
              · have hw := hw.1 hc
                refine tl_iconst (pc := 206) (v := 0) C d_M_isLong_206 (by decide) ?_
                exact tl_zret (pc := 207) C (by decide) d_M_isLong_207 hw
              · have hw := hw.2 hc
                refine tl_iconst (pc := 202) (v := 1) C d_M_isLong_202 (by decide) ?_
                refine tl_goto (pc := 203) (tgt := 207) C d_M_isLong_203 rfl ?_
                exact tl_zret (pc := 207) C (by decide) d_M_isLong_207 hw
            · have hw := hw.2 hc
              have hc5 := hc
              refine swM_M_isLong_1_d C hc0 hc1 hc2 hc3 hc4 hc5 ?_
              refine tl_aload_n (pc := 208) C d_M_isLong_208 rfl 0 rfl ?_
              refine gM_M_102 (pc := 209) (v := (S 17)) C rfl d_M_isLong_209 ?_
              refine tl_iconst (pc := 212) (v := 2) C d_M_isLong_212 (by decide) ?_
              refine tl_icmp_ne (pc := 213) (tgt := 220) C d_M_isLong_213 rfl (fun hc => ?_) (fun hc => ?_)
              · have hw := hw.1 hc
                refine tl_iconst (pc := 220) (v := 0) C d_M_isLong_220 (by decide) ?_
                exact tl_zret (pc := 221) C (by decide) d_M_isLong_221 hw
              · have hw := hw.2 hc
                refine tl_iconst (pc := 216) (v := 1) C d_M_isLong_216 (by decide) ?_
                refine tl_goto (pc := 217) (tgt := 221) C d_M_isLong_217 rfl ?_
                exact tl_zret (pc := 221) C (by decide) d_M_isLong_221 hw
theorem kM_M_isLong {l : Launch} {R : Room} {nc ns : Nat} {Q : tl_Z → State → Prop} {D : va_G} {q : Nat → Nat} {k : Nat → ClassId} {nL : Nat} {z : tl_Z} {cc : ByteArray} {ret : Option FieldType} {pc : Nat} {lv : List (Nat × Value)} {rest : List Value} {S : SS} {A : AA} {own : String} {idx : Nat} {x1 : Int32} {post : Int32 → SS → AA → Prop} (C : tl_Cx cc nL own ret D (tM k) z) (hw : wM_M_isLong post S A x1) (hl : Cond.methodLink own idx y_M_isLong ∈ wsAll) (hdg : decode cc pc = .ok (.invokevirtual idx, 3)) (hf : tl_fit R (tl_R 0) nc ns 2 rest = true) (kk : ∀ (r : Int32) (S1 : SS) (A1 : AA), post r S1 A1 → tl_At l R nc ns Q D (wM q k) nL z (pc + 3) lv (.int r :: rest) (S1, A1)) : tl_At l R nc ns Q D (wM q k) nL z pc lv (.int x1 :: .ref (q 0) :: rest) (S, A) :=
  tl_callVi (n := 1) (As := [.int x1]) (b := q 0) (q0 := 0) (ci := 7) C (fun sz => cM_M_isLong l D q k sz S A x1 hw) in_702 in_8 in_701 ip_42 (by decide +kernel) rfl ⟨rfl, rfl⟩ rfl rfl hl hf hdg kk
set_option maxHeartbeats 4000000 in
set_option maxRecDepth 100000 in
theorem cM_M_isService (l : Launch) (D : va_G) (q : Nat → Nat) (k : Nat → ClassId) (sz : Nat) (S : SS) (A : AA) (x1 : Int32) {post : Int32 → SS → AA → Prop} (hw : wM_M_isService post S A x1) : tl_Met l y_M_isService b_M_isService 2 (some .boolean) (tl_R 0) D (wM q k) (tM k) sz [.ref (q 0), .int x1] (S, A) (tl_Qi D (wM q k) (tM k) post) := by
  refine tl_met (own := R_M) (lv := [(0, .ref (q 0)), (1, .int x1)]) (by decide) rfl rfl (Nat.le_of_ble_eq_true rfl) (fun z C => ?_)
  have B60 : ∀ (S : SS) (A : AA), wM_M_isService_60 post S A → tl_At l (tl_R 0) 0 0 (tl_M 0 0 (tl_Qi D (wM q k) (tM k) post)) D (wM q k) 2 z 60 [] [] (S, A) := by
    intro S A hw
    refine tl_iconst (pc := 60) (v := 1) C d_M_isService_60 (by decide) ?_
    refine tl_goto (pc := 61) (tgt := 65) C d_M_isService_61 rfl ?_
    exact tl_zret (pc := 65) C (by decide) d_M_isService_65 hw
  refine tl_iload_n (pc := 0) C d_M_isService_0 rfl 1 rfl ?_
  refine tl_bipush (pc := 1) (v := 16) C d_M_isService_1 (by decide) ?_
  refine tl_icmp_eq (pc := 3) (tgt := 60) C d_M_isService_3 rfl (fun hc => ?_) (fun hc => ?_)
  · have hw := hw.1 hc
    exact tl_sub [] rfl (B60 _ _ hw)
  · have hw := hw.2 hc
    refine tl_iload_n (pc := 6) C d_M_isService_6 rfl 1 rfl ?_
    refine tl_bipush (pc := 7) (v := 62) C d_M_isService_7 (by decide) ?_
    refine tl_icmp_eq (pc := 9) (tgt := 60) C d_M_isService_9 rfl (fun hc => ?_) (fun hc => ?_)
    · have hw := hw.1 hc
      exact tl_sub [] rfl (B60 _ _ hw)
    · have hw := hw.2 hc
      refine tl_iload_n (pc := 12) C d_M_isService_12 rfl 1 rfl ?_
      refine tl_bipush (pc := 13) (v := 17) C d_M_isService_13 (by decide) ?_
      refine tl_icmp_eq (pc := 15) (tgt := 60) C d_M_isService_15 rfl (fun hc => ?_) (fun hc => ?_)
      · have hw := hw.1 hc
        exact tl_sub [] rfl (B60 _ _ hw)
      · have hw := hw.2 hc
        refine tl_iload_n (pc := 18) C d_M_isService_18 rfl 1 rfl ?_
        refine tl_bipush (pc := 19) (v := 39) C d_M_isService_19 (by decide) ?_
        refine tl_icmp_eq (pc := 21) (tgt := 60) C d_M_isService_21 rfl (fun hc => ?_) (fun hc => ?_)
        · have hw := hw.1 hc
          exact tl_sub [] rfl (B60 _ _ hw)
        · have hw := hw.2 hc
          refine tl_iload_n (pc := 24) C d_M_isService_24 rfl 1 rfl ?_
          refine tl_bipush (pc := 25) (v := 34) C d_M_isService_25 (by decide) ?_
          refine tl_icmp_eq (pc := 27) (tgt := 60) C d_M_isService_27 rfl (fun hc => ?_) (fun hc => ?_)
          · have hw := hw.1 hc
            exact tl_sub [] rfl (B60 _ _ hw)
          · have hw := hw.2 hc
            refine tl_iload_n (pc := 30) C d_M_isService_30 rfl 1 rfl ?_
            refine tl_bipush (pc := 31) (v := 46) C d_M_isService_31 (by decide) ?_
            refine tl_icmp_eq (pc := 33) (tgt := 60) C d_M_isService_33 rfl (fun hc => ?_) (fun hc => ?_)
            · have hw := hw.1 hc
              exact tl_sub [] rfl (B60 _ _ hw)
            · have hw := hw.2 hc
              refine tl_iload_n (pc := 36) C d_M_isService_36 rfl 1 rfl ?_
              refine tl_bipush (pc := 37) (v := 49) C d_M_isService_37 (by decide) ?_
              refine tl_icmp_eq (pc := 39) (tgt := 60) C d_M_isService_39 rfl (fun hc => ?_) (fun hc => ?_)
              · have hw := hw.1 hc
                exact tl_sub [] rfl (B60 _ _ hw)
              · have hw := hw.2 hc
                refine tl_iload_n (pc := 42) C d_M_isService_42 rfl 1 rfl ?_
                refine tl_bipush (pc := 43) (v := 52) C d_M_isService_43 (by decide) ?_
                refine tl_icmp_eq (pc := 45) (tgt := 60) C d_M_isService_45 rfl (fun hc => ?_) (fun hc => ?_)
                · have hw := hw.1 hc
                  exact tl_sub [] rfl (B60 _ _ hw)
                · have hw := hw.2 hc
                  refine tl_iload_n (pc := 48) C d_M_isService_48 rfl 1 rfl ?_
                  refine tl_bipush (pc := 49) (v := 54) C d_M_isService_49 (by decide) ?_
                  refine tl_icmp_eq (pc := 51) (tgt := 60) C d_M_isService_51 rfl (fun hc => ?_) (fun hc => ?_)
                  · have hw := hw.1 hc
                    exact tl_sub [] rfl (B60 _ _ hw)
                  · have hw := hw.2 hc
                    refine tl_iload_n (pc := 54) C d_M_isService_54 rfl 1 rfl ?_
                    refine tl_bipush (pc := 55) (v := 55) C d_M_isService_55 (by decide) ?_
                    refine tl_icmp_ne (pc := 57) (tgt := 64) C d_M_isService_57 rfl (fun hc => ?_) (fun hc => ?_)
                    · have hw := hw.1 hc
                      refine tl_iconst (pc := 64) (v := 0) C d_M_isService_64 (by decide) ?_
                      exact tl_zret (pc := 65) C (by decide) d_M_isService_65 hw
                    · have hw := hw.2 hc
                      exact tl_sub [] rfl (B60 _ _ hw)
theorem kM_M_isService {l : Launch} {R : Room} {nc ns : Nat} {Q : tl_Z → State → Prop} {D : va_G} {q : Nat → Nat} {k : Nat → ClassId} {nL : Nat} {z : tl_Z} {cc : ByteArray} {ret : Option FieldType} {pc : Nat} {lv : List (Nat × Value)} {rest : List Value} {S : SS} {A : AA} {own : String} {idx : Nat} {x1 : Int32} {post : Int32 → SS → AA → Prop} (C : tl_Cx cc nL own ret D (tM k) z) (hw : wM_M_isService post S A x1) (hl : Cond.methodLink own idx y_M_isService ∈ wsAll) (hdg : decode cc pc = .ok (.invokevirtual idx, 3)) (hf : tl_fit R (tl_R 0) nc ns 2 rest = true) (kk : ∀ (r : Int32) (S1 : SS) (A1 : AA), post r S1 A1 → tl_At l R nc ns Q D (wM q k) nL z (pc + 3) lv (.int r :: rest) (S1, A1)) : tl_At l R nc ns Q D (wM q k) nL z pc lv (.int x1 :: .ref (q 0) :: rest) (S, A) :=
  tl_callVi (n := 1) (As := [.int x1]) (b := q 0) (q0 := 0) (ci := 7) C (fun sz => cM_M_isService l D q k sz S A x1 hw) in_698 in_8 in_697 ip_41 (by decide +kernel) rfl ⟨rfl, rfl⟩ rfl rfl hl hf hdg kk
set_option maxHeartbeats 4000000 in
set_option maxRecDepth 100000 in
theorem cM_M_against (l : Launch) (D : va_G) (q : Nat → Nat) (k : Nat → ClassId) (sz : Nat) (S : SS) (A : AA) {post : Int32 → SS → AA → Prop} (hw : wM_M_against post S A) : tl_Met l y_M_against b_M_against 3 (some .int) (tl_R 1) D (wM q k) (tM k) sz [.ref (q 0)] (S, A) (tl_Qi D (wM q k) (tM k) post) := by
  refine tl_met (own := R_M) (lv := [(0, .ref (q 0))]) (by decide) rfl rfl (Nat.le_of_ble_eq_true rfl) (fun z C => ?_)
  have B97 : ∀ (S : SS) (A : AA) (x2 : Int32), wM_M_against_97 post S A x2 → tl_At l (tl_R 1) 0 0 (tl_M 0 0 (tl_Qi D (wM q k) (tM k) post)) D (wM q k) 3 z 97 [(0, .ref (q 0)), (2, .int x2)] [] (S, A) := by
    intro S A x2 hw
    refine tl_aload_n (pc := 97) C d_M_against_97 rfl 0 rfl ?_
    refine gM_M_93 (pc := 98) (v := (S 4)) C rfl d_M_against_98 ?_
    refine tl_if_ne (pc := 101) (tgt := 113) C d_M_against_101 rfl (fun hc => ?_) (fun hc => ?_)
    · have hw := hw.1 hc
      refine tl_iconst (pc := 113) (v := 0) C d_M_against_113 (by decide) ?_
      exact tl_iret (pc := 114) C d_M_against_114 hw
    · have hw := hw.2 hc
      refine tl_iload_n (pc := 104) C d_M_against_104 rfl 1 rfl ?_
      refine tl_if_eq (pc := 105) (tgt := 113) C d_M_against_105 rfl (fun hc => ?_) (fun hc => ?_)
      · have hw := hw.1 hc
        refine tl_iconst (pc := 113) (v := 0) C d_M_against_113 (by decide) ?_
        exact tl_iret (pc := 114) C d_M_against_114 hw
      · have hw := hw.2 hc
        refine tl_bipush (pc := 108) (v := 51) C d_M_against_108 (by decide) ?_
        refine tl_goto (pc := 110) (tgt := 114) C d_M_against_110 rfl ?_
        exact tl_iret (pc := 114) C d_M_against_114 hw
  have B75 : ∀ (S : SS) (A : AA) (x1 y0 : Int32), wM_M_against_75 post S A x1 y0 → tl_At l (tl_R 1) 0 0 (tl_M 0 0 (tl_Qi D (wM q k) (tM k) post)) D (wM q k) 3 z 75 [(0, .ref (q 0)), (1, .int x1)] [.int y0] (S, A) := by
    intro S A x1 y0 hw
    refine tl_istore_n (pc := 75) (lv' := [(2, .int y0), (0, .ref (q 0)), (1, .int x1)]) C d_M_against_75 rfl (by decide) rfl ?_
    refine tl_aload_n (pc := 76) C d_M_against_76 rfl 1 rfl ?_
    refine gM_M_90 (pc := 77) (v := (S 3)) C rfl d_M_against_77 ?_
    refine tl_iconst (pc := 80) (v := 1) C d_M_against_80 (by decide) ?_
    refine tl_icmp_ne (pc := 81) (tgt := 97) C d_M_against_81 rfl (fun hc => ?_) (fun hc => ?_)
    · have hw := hw.1 hc
      exact tl_sub [1, 0] rfl (B97 _ _ _ hw)
    · have hw := hw.2 hc
      refine tl_iload_n (pc := 84) C d_M_against_84 rfl 0 rfl ?_
      refine tl_if_ne (pc := 85) (tgt := 94) C d_M_against_85 rfl (fun hc => ?_) (fun hc => ?_)
      · have hw := hw.1 hc
        refine tl_bipush (pc := 94) (v := 127) C d_M_against_94 (by decide) ?_
        exact tl_iret (pc := 96) C d_M_against_96 hw
      · have hw := hw.2 hc
        refine tl_iload_n (pc := 88) C d_M_against_88 rfl 2 rfl ?_
        refine tl_bipush (pc := 89) (v := 39) C d_M_against_89 (by decide) ?_
        refine tl_icmp_ne (pc := 91) (tgt := 97) C d_M_against_91 rfl (fun hc => ?_) (fun hc => ?_)
        · have hw := hw.1 hc
          exact tl_sub [1, 0] rfl (B97 _ _ _ hw)
        · have hw := hw.2 hc
          refine tl_bipush (pc := 94) (v := 127) C d_M_against_94 (by decide) ?_
          exact tl_iret (pc := 96) C d_M_against_96 hw
  have B70 : ∀ (S : SS) (A : AA) (x1 : Int32), wM_M_against_70 post S A x1 → tl_At l (tl_R 1) 0 0 (tl_M 0 0 (tl_Qi D (wM q k) (tM k) post)) D (wM q k) 3 z 70 [(0, .ref (q 0)), (1, .int x1)] [] (S, A) := by
    intro S A x1 hw
    refine tl_iconst (pc := 70) (v := 1) C d_M_against_70 (by decide) ?_
    refine tl_goto (pc := 71) (tgt := 75) C d_M_against_71 rfl ?_
    exact tl_sub [0, 1] rfl (B75 _ _ _ _ hw)
  refine tl_aload_n (pc := 0) C d_M_against_0 rfl 0 rfl ?_
  refine gM_M_17 (pc := 1) C d_M_against_1 ?_
  refine tl_iconst (pc := 4) (v := 0) C d_M_against_4 (by decide) ?_
  obtain ⟨hi, hw⟩ := hw
  refine rM_ald1 (pc := 5) (f := (A 1)) C rfl hi d_M_against_5 ?_
  refine tl_istore_n (pc := 6) (lv' := [(1, .int ((A 1) (0 : Int32).toNatClampNeg)), (0, .ref (q 0))]) C d_M_against_6 rfl (by decide) rfl ?_
  refine tl_aload_n (pc := 7) C d_M_against_7 rfl 1 rfl ?_
  refine tl_iload_n (pc := 8) C d_M_against_8 rfl 0 rfl ?_
  refine kM_M_isService (pc := 9) C hw ml_M_126 d_M_against_9 rfl (fun r9 S9 A9 hw => ?_)
  refine tl_if_ne (pc := 12) (tgt := 18) C d_M_against_12 rfl (fun hc => ?_) (fun hc => ?_)
  · have hw := hw.1 hc
    refine tl_aload_n (pc := 18) C d_M_against_18 rfl 1 rfl ?_
    refine tl_iload_n (pc := 19) C d_M_against_19 rfl 0 rfl ?_
    refine kM_M_isLong (pc := 20) C hw ml_M_129 d_M_against_20 rfl (fun r20 S20 A20 hw => ?_)
    refine tl_if_ne (pc := 23) (tgt := 29) C d_M_against_23 rfl (fun hc => ?_) (fun hc => ?_)
    · have hw := hw.1 hc
      refine tl_aload_n (pc := 29) C d_M_against_29 rfl 1 rfl ?_
      refine tl_iload_n (pc := 30) C d_M_against_30 rfl 0 rfl ?_
      refine kM_M_hasPart (pc := 31) C hw ml_M_132 d_M_against_31 rfl (fun r31 S31 A31 hw => ?_)
      refine tl_if_ne (pc := 34) (tgt := 40) C d_M_against_34 rfl (fun hc => ?_) (fun hc => ?_)
      · have hw := hw.1 hc
        refine tl_iload_n (pc := 40) C d_M_against_40 rfl 0 rfl ?_
        refine tl_bipush (pc := 41) (v := 46) C d_M_against_41 (by decide) ?_
        refine tl_icmp_eq (pc := 43) (tgt := 70) C d_M_against_43 rfl (fun hc => ?_) (fun hc => ?_)
        · have hw := hw.1 hc
          exact tl_sub [1, 0] rfl (B70 _ _ _ hw)
        · have hw := hw.2 hc
          refine tl_iload_n (pc := 46) C d_M_against_46 rfl 0 rfl ?_
          refine tl_bipush (pc := 47) (v := 49) C d_M_against_47 (by decide) ?_
          refine tl_icmp_eq (pc := 49) (tgt := 70) C d_M_against_49 rfl (fun hc => ?_) (fun hc => ?_)
          · have hw := hw.1 hc
            exact tl_sub [1, 0] rfl (B70 _ _ _ hw)
          · have hw := hw.2 hc
            refine tl_iload_n (pc := 52) C d_M_against_52 rfl 0 rfl ?_
            refine tl_bipush (pc := 53) (v := 52) C d_M_against_53 (by decide) ?_
            refine tl_icmp_eq (pc := 55) (tgt := 70) C d_M_against_55 rfl (fun hc => ?_) (fun hc => ?_)
            · have hw := hw.1 hc
              exact tl_sub [1, 0] rfl (B70 _ _ _ hw)
            · have hw := hw.2 hc
              refine tl_iload_n (pc := 58) C d_M_against_58 rfl 0 rfl ?_
              refine tl_bipush (pc := 59) (v := 54) C d_M_against_59 (by decide) ?_
              refine tl_icmp_eq (pc := 61) (tgt := 70) C d_M_against_61 rfl (fun hc => ?_) (fun hc => ?_)
              · have hw := hw.1 hc
                exact tl_sub [1, 0] rfl (B70 _ _ _ hw)
              · have hw := hw.2 hc
                refine tl_iload_n (pc := 64) C d_M_against_64 rfl 0 rfl ?_
                refine tl_bipush (pc := 65) (v := 55) C d_M_against_65 (by decide) ?_
                refine tl_icmp_ne (pc := 67) (tgt := 74) C d_M_against_67 rfl (fun hc => ?_) (fun hc => ?_)
                · have hw := hw.1 hc
                  refine tl_iconst (pc := 74) (v := 0) C d_M_against_74 (by decide) ?_
                  exact tl_sub [1, 0] rfl (B75 _ _ _ _ hw)
                · have hw := hw.2 hc
                  exact tl_sub [1, 0] rfl (B70 _ _ _ hw)
      · have hw := hw.2 hc
        refine tl_bipush (pc := 37) (v := 18) C d_M_against_37 (by decide) ?_
        exact tl_iret (pc := 39) C d_M_against_39 hw
    · have hw := hw.2 hc
      refine tl_bipush (pc := 26) (v := 19) C d_M_against_26 (by decide) ?_
      exact tl_iret (pc := 28) C d_M_against_28 hw
  · have hw := hw.2 hc
    refine tl_bipush (pc := 15) (v := 17) C d_M_against_15 (by decide) ?_
    exact tl_iret (pc := 17) C d_M_against_17 hw
theorem kM_M_against {l : Launch} {R : Room} {nc ns : Nat} {Q : tl_Z → State → Prop} {D : va_G} {q : Nat → Nat} {k : Nat → ClassId} {nL : Nat} {z : tl_Z} {cc : ByteArray} {ret : Option FieldType} {pc : Nat} {lv : List (Nat × Value)} {rest : List Value} {S : SS} {A : AA} {own : String} {idx : Nat} {post : Int32 → SS → AA → Prop} (C : tl_Cx cc nL own ret D (tM k) z) (hw : wM_M_against post S A) (hl : Cond.methodLink own idx y_M_against ∈ wsAll) (hdg : decode cc pc = .ok (.invokevirtual idx, 3)) (hf : tl_fit R (tl_R 1) nc ns 3 rest = true) (kk : ∀ (r : Int32) (S1 : SS) (A1 : AA), post r S1 A1 → tl_At l R nc ns Q D (wM q k) nL z (pc + 3) lv (.int r :: rest) (S1, A1)) : tl_At l R nc ns Q D (wM q k) nL z pc lv (.ref (q 0) :: rest) (S, A) :=
  tl_callVi (n := 0) (As := []) (b := q 0) (q0 := 0) (ci := 7) C (fun sz => cM_M_against l D q k sz S A hw) in_694 in_8 in_693 ip_40 (by decide +kernel) rfl ⟨rfl, rfl⟩ rfl rfl hl hf hdg kk
set_option maxHeartbeats 4000000 in
set_option maxRecDepth 100000 in
theorem cM_M_sumOf (l : Launch) (D : va_G) (q : Nat → Nat) (k : Nat → ClassId) (sz : Nat) (S : SS) (A : AA) (x1 : Int32) {post : Int32 → SS → AA → Prop} (hw : wM_M_sumOf post S A x1) : tl_Met l y_M_sumOf b_M_sumOf 5 (some .int) (tl_R 0) D (wM q k) (tM k) sz [.ref (q 0), .int x1] (S, A) (tl_Qi D (wM q k) (tM k) post) := by
  refine tl_met (own := R_M) (lv := [(0, .ref (q 0)), (1, .int x1)]) (by decide) rfl rfl (Nat.le_of_ble_eq_true rfl) (fun z C => ?_)
  have B8 : ∀ (S : SS) (A : AA) (x1 x2 x3 : Int32), wM_M_sumOf_8 post S A x1 x2 x3 → tl_At l (tl_R 0) 0 0 (tl_M 0 0 (tl_Qi D (wM q k) (tM k) post)) D (wM q k) 5 z 8 [(0, .ref (q 0)), (1, .int x1), (2, .int x2), (3, .int x3)] [] (S, A) := by
    intro S A x1 x2 x3 hw
    have key : ∀ X8 : SS → AA → Int32 → Int32 → Int32 → Prop, (∀ (S : SS) (A : AA) (x1 x2 x3 : Int32), X8 S A x1 x2 x3 → tl_At l (tl_R 0) 0 0 (tl_M 0 0 (tl_Qi D (wM q k) (tM k) post)) D (wM q k) 5 z 8 [(0, .ref (q 0)), (1, .int x1), (2, .int x2), (3, .int x3)] [] (S, A)) → ∀ (S : SS) (A : AA) (x1 x2 x3 : Int32), wM_M_sumOf_8B post X8 S A x1 x2 x3 → tl_At l (tl_R 0) 0 0 (tl_M 0 0 (tl_Qi D (wM q k) (tM k) post)) D (wM q k) 5 z 8 [(0, .ref (q 0)), (1, .int x1), (2, .int x2), (3, .int x3)] [] (S, A) := by
      intro X8 hX8 S A x1 x2 x3 hw
      have B35 : ∀ (S : SS) (A : AA) (x1 x2 x3 x4 : Int32), wM_M_sumOf_35 post X8 S A x1 x2 x3 x4 → tl_At l (tl_R 0) 0 0 (tl_M 0 0 (tl_Qi D (wM q k) (tM k) post)) D (wM q k) 5 z 35 [(0, .ref (q 0)), (1, .int x1), (2, .int x2), (3, .int x3), (4, .int x4)] [] (S, A) := by
        intro S A x1 x2 x3 x4 hw
        have key : ∀ X35 : SS → AA → Int32 → Int32 → Int32 → Int32 → Prop, (∀ (S : SS) (A : AA) (x1 x2 x3 x4 : Int32), X35 S A x1 x2 x3 x4 → tl_At l (tl_R 0) 0 0 (tl_M 0 0 (tl_Qi D (wM q k) (tM k) post)) D (wM q k) 5 z 35 [(0, .ref (q 0)), (1, .int x1), (2, .int x2), (3, .int x3), (4, .int x4)] [] (S, A)) → ∀ (S : SS) (A : AA) (x1 x2 x3 x4 : Int32), wM_M_sumOf_35B post X8 X35 S A x1 x2 x3 x4 → tl_At l (tl_R 0) 0 0 (tl_M 0 0 (tl_Qi D (wM q k) (tM k) post)) D (wM q k) 5 z 35 [(0, .ref (q 0)), (1, .int x1), (2, .int x2), (3, .int x3), (4, .int x4)] [] (S, A) := by
          intro X35 hX35 S A x1 x2 x3 x4 hw
          have B64 : ∀ (S : SS) (A : AA) (x1 x3 x4 y0 : Int32), wM_M_sumOf_64 post X8 X35 S A x1 x3 x4 y0 → tl_At l (tl_R 0) 0 0 (tl_M 0 0 (tl_Qi D (wM q k) (tM k) post)) D (wM q k) 5 z 64 [(0, .ref (q 0)), (1, .int x1), (3, .int x3), (4, .int x4)] [.int y0] (S, A) := by
            intro S A x1 x3 x4 y0 hw
            refine tl_istore_n (pc := 64) (lv' := [(2, .int y0), (0, .ref (q 0)), (1, .int x1), (3, .int x3), (4, .int x4)]) C d_M_sumOf_64 rfl (by decide) rfl ?_
            refine tl_iinc (pc := 65) (lv' := [(4, .int (x4 + (1 : Int32))), (2, .int y0), (0, .ref (q 0)), (1, .int x1), (3, .int x3)]) C d_M_sumOf_65 (by decide) 4 rfl rfl (by decide) rfl ?_
            refine tl_goto (pc := 68) (tgt := 35) C d_M_sumOf_68 rfl ?_
            exact tl_sub [2, 3, 1, 4, 0] rfl (hX35 _ _ _ _ _ _ hw)
          refine tl_iload (pc := 35) C d_M_sumOf_35 4 rfl ?_
          refine tl_bipush (pc := 37) (v := 8) C d_M_sumOf_37 (by decide) ?_
          refine tl_icmp_ge (pc := 39) (tgt := 71) C d_M_sumOf_39 rfl (fun hc => ?_) (fun hc => ?_)
          · have hw := hw.1 hc
            refine tl_iinc (pc := 71) (lv' := [(3, .int (x3 + (1 : Int32))), (0, .ref (q 0)), (1, .int x1), (2, .int x2), (4, .int x4)]) C d_M_sumOf_71 (by decide) 3 rfl rfl (by decide) rfl ?_
            refine tl_goto (pc := 74) (tgt := 8) C d_M_sumOf_74 rfl ?_
            exact tl_sub [1, 2, 3, 0] rfl (hX8 _ _ _ _ _ hw)
          · have hw := hw.2 hc
            refine tl_iload_n (pc := 42) C d_M_sumOf_42 rfl 2 rfl ?_
            refine tl_ldc (pc := 43) (v := 32768) C in_538 d_M_sumOf_43 ?_
            refine tl_icmp_lt (pc := 45) (tgt := 61) C d_M_sumOf_45 rfl (fun hc => ?_) (fun hc => ?_)
            · have hw := hw.1 hc
              refine tl_iload_n (pc := 61) C d_M_sumOf_61 rfl 2 rfl ?_
              refine tl_iconst (pc := 62) (v := 2) C d_M_sumOf_62 (by decide) ?_
              refine tl_imul (pc := 63) C d_M_sumOf_63 ?_
              exact tl_sub [0, 1, 3, 4] rfl (B64 _ _ _ _ _ _ hw)
            · have hw := hw.2 hc
              refine tl_iload_n (pc := 48) C d_M_sumOf_48 rfl 2 rfl ?_
              refine tl_iconst (pc := 49) (v := 2) C d_M_sumOf_49 (by decide) ?_
              refine tl_imul (pc := 50) C d_M_sumOf_50 ?_
              refine tl_ldc (pc := 51) (v := 65536) C in_539 d_M_sumOf_51 ?_
              refine tl_isub (pc := 53) C d_M_sumOf_53 ?_
              refine tl_sipush (pc := 54) (v := 4129) C d_M_sumOf_54 (by decide) ?_
              refine tl_ixor (pc := 57) C d_M_sumOf_57 ?_
              refine tl_goto (pc := 58) (tgt := 64) C d_M_sumOf_58 rfl ?_
              exact tl_sub [0, 1, 3, 4] rfl (B64 _ _ _ _ _ _ hw)
        exact hw _ (fun S A x1 x2 x3 x4 hb => key _ (fun _ _ _ _ _ _ h => h) S A x1 x2 x3 x4 hb)
      refine tl_iload_n (pc := 8) C d_M_sumOf_8 rfl 3 rfl ?_
      refine tl_bipush (pc := 9) (v := 48) C d_M_sumOf_9 (by decide) ?_
      refine tl_iload_n (pc := 11) C d_M_sumOf_11 rfl 1 rfl ?_
      refine tl_imul (pc := 12) C d_M_sumOf_12 ?_
      refine tl_bipush (pc := 13) (v := 32) C d_M_sumOf_13 (by decide) ?_
      refine tl_iadd (pc := 15) C d_M_sumOf_15 ?_
      refine tl_icmp_ge (pc := 16) (tgt := 77) C d_M_sumOf_16 rfl (fun hc => ?_) (fun hc => ?_)
      · have hw := hw.1 hc
        refine tl_iload_n (pc := 77) C d_M_sumOf_77 rfl 2 rfl ?_
        exact tl_iret (pc := 78) C d_M_sumOf_78 hw
      · have hw := hw.2 hc
        refine tl_iload_n (pc := 19) C d_M_sumOf_19 rfl 2 rfl ?_
        refine tl_aload_n (pc := 20) C d_M_sumOf_20 rfl 0 rfl ?_
        refine gM_M_7 (pc := 21) C d_M_sumOf_21 ?_
        refine tl_iload_n (pc := 24) C d_M_sumOf_24 rfl 3 rfl ?_
        obtain ⟨hi, hw⟩ := hw
        refine rM_ald0 (pc := 25) (f := (A 0)) C rfl hi d_M_sumOf_25 ?_
        refine tl_sipush (pc := 26) (v := 256) C d_M_sumOf_26 (by decide) ?_
        refine tl_imul (pc := 29) C d_M_sumOf_29 ?_
        refine tl_ixor (pc := 30) C d_M_sumOf_30 ?_
        refine tl_istore_n (pc := 31) (lv' := [(2, .int (x2 ^^^ (((A 0) x3.toNatClampNeg) * (256 : Int32)))), (0, .ref (q 0)), (1, .int x1), (3, .int x3)]) C d_M_sumOf_31 rfl (by decide) rfl ?_
        refine tl_iconst (pc := 32) (v := 0) C d_M_sumOf_32 (by decide) ?_
        refine tl_istore (pc := 33) (lv' := [(4, .int (0 : Int32)), (2, .int (x2 ^^^ (((A 0) x3.toNatClampNeg) * (256 : Int32)))), (0, .ref (q 0)), (1, .int x1), (3, .int x3)]) C d_M_sumOf_33 (by decide) rfl ?_
        exact tl_sub [2, 3, 1, 4, 0] rfl (B35 _ _ _ _ _ _ hw)
    exact hw _ (fun S A x1 x2 x3 hb => key _ (fun _ _ _ _ _ h => h) S A x1 x2 x3 hb)
  refine tl_ldc (pc := 0) (v := 65535) C in_537 d_M_sumOf_0 ?_
  refine tl_istore_n (pc := 2) (lv' := [(2, .int (65535 : Int32)), (0, .ref (q 0)), (1, .int x1)]) C d_M_sumOf_2 rfl (by decide) rfl ?_
  refine tl_bipush (pc := 3) (v := 48) C d_M_sumOf_3 (by decide) ?_
  refine tl_iload_n (pc := 5) C d_M_sumOf_5 rfl 2 rfl ?_
  refine tl_imul (pc := 6) C d_M_sumOf_6 ?_
  refine tl_istore_n (pc := 7) (lv' := [(3, .int ((48 : Int32) * x1)), (2, .int (65535 : Int32)), (0, .ref (q 0)), (1, .int x1)]) C d_M_sumOf_7 rfl (by decide) rfl ?_
  exact tl_sub [2, 3, 1, 0] rfl (B8 _ _ _ _ _ hw)
theorem kM_M_sumOf {l : Launch} {R : Room} {nc ns : Nat} {Q : tl_Z → State → Prop} {D : va_G} {q : Nat → Nat} {k : Nat → ClassId} {nL : Nat} {z : tl_Z} {cc : ByteArray} {ret : Option FieldType} {pc : Nat} {lv : List (Nat × Value)} {rest : List Value} {S : SS} {A : AA} {own : String} {idx : Nat} {x1 : Int32} {post : Int32 → SS → AA → Prop} (C : tl_Cx cc nL own ret D (tM k) z) (hw : wM_M_sumOf post S A x1) (hl : Cond.methodLink own idx y_M_sumOf ∈ wsAll) (hdg : decode cc pc = .ok (.invokevirtual idx, 3)) (hf : tl_fit R (tl_R 0) nc ns 5 rest = true) (kk : ∀ (r : Int32) (S1 : SS) (A1 : AA), post r S1 A1 → tl_At l R nc ns Q D (wM q k) nL z (pc + 3) lv (.int r :: rest) (S1, A1)) : tl_At l R nc ns Q D (wM q k) nL z pc lv (.int x1 :: .ref (q 0) :: rest) (S, A) :=
  tl_callVi (n := 1) (As := [.int x1]) (b := q 0) (q0 := 0) (ci := 7) C (fun sz => cM_M_sumOf l D q k sz S A x1 hw) in_536 in_8 in_535 ip_27 (by decide +kernel) rfl ⟨rfl, rfl⟩ rfl rfl hl hf hdg kk
set_option maxHeartbeats 4000000 in
set_option maxRecDepth 100000 in
theorem cM_M_isGood (l : Launch) (D : va_G) (q : Nat → Nat) (k : Nat → ClassId) (sz : Nat) (S : SS) (A : AA) (x1 : Int32) {post : Int32 → SS → AA → Prop} (hw : wM_M_isGood post S A x1) : tl_Met l y_M_isGood b_M_isGood 3 (some .boolean) (tl_R 1) D (wM q k) (tM k) sz [.ref (q 0), .int x1] (S, A) (tl_Qi D (wM q k) (tM k) post) := by
  refine tl_met (own := R_M) (lv := [(0, .ref (q 0)), (1, .int x1)]) (by decide) rfl rfl (Nat.le_of_ble_eq_true rfl) (fun z C => ?_)
  refine tl_bipush (pc := 0) (v := 48) C d_M_isGood_0 (by decide) ?_
  refine tl_iload_n (pc := 2) C d_M_isGood_2 rfl 1 rfl ?_
  refine tl_imul (pc := 3) C d_M_isGood_3 ?_
  refine tl_bipush (pc := 4) (v := 32) C d_M_isGood_4 (by decide) ?_
  refine tl_iadd (pc := 6) C d_M_isGood_6 ?_
  refine tl_istore_n (pc := 7) (lv' := [(2, .int (((48 : Int32) * x1) + (32 : Int32))), (0, .ref (q 0)), (1, .int x1)]) C d_M_isGood_7 rfl (by decide) rfl ?_
  refine tl_aload_n (pc := 8) C d_M_isGood_8 rfl 1 rfl ?_
  refine gM_M_7 (pc := 9) C d_M_isGood_9 ?_
  refine tl_iload_n (pc := 12) C d_M_isGood_12 rfl 0 rfl ?_
  obtain ⟨hi, hw⟩ := hw
  refine rM_ald0 (pc := 13) (f := (A 0)) C rfl hi d_M_isGood_13 ?_
  refine tl_if_ne (pc := 14) (tgt := 50) C d_M_isGood_14 rfl (fun hc => ?_) (fun hc => ?_)
  · have hw := hw.1 hc
    refine tl_iconst (pc := 50) (v := 0) C d_M_isGood_50 (by decide) ?_
    exact tl_zret (pc := 51) C (by decide) d_M_isGood_51 hw
  · have hw := hw.2 hc
    refine tl_aload_n (pc := 17) C d_M_isGood_17 rfl 1 rfl ?_
    refine gM_M_7 (pc := 18) C d_M_isGood_18 ?_
    refine tl_iload_n (pc := 21) C d_M_isGood_21 rfl 0 rfl ?_
    refine tl_iconst (pc := 22) (v := 2) C d_M_isGood_22 (by decide) ?_
    refine tl_iadd (pc := 23) C d_M_isGood_23 ?_
    obtain ⟨hi, hw⟩ := hw
    refine rM_ald0 (pc := 24) (f := (A 0)) C rfl hi d_M_isGood_24 ?_
    refine tl_sipush (pc := 25) (v := 256) C d_M_isGood_25 (by decide) ?_
    refine tl_imul (pc := 28) C d_M_isGood_28 ?_
    refine tl_aload_n (pc := 29) C d_M_isGood_29 rfl 1 rfl ?_
    refine gM_M_7 (pc := 30) C d_M_isGood_30 ?_
    refine tl_iload_n (pc := 33) C d_M_isGood_33 rfl 0 rfl ?_
    refine tl_iconst (pc := 34) (v := 3) C d_M_isGood_34 (by decide) ?_
    refine tl_iadd (pc := 35) C d_M_isGood_35 ?_
    obtain ⟨hi, hw⟩ := hw
    refine rM_ald0 (pc := 36) (f := (A 0)) C rfl hi d_M_isGood_36 ?_
    refine tl_iadd (pc := 37) C d_M_isGood_37 ?_
    refine tl_aload_n (pc := 38) C d_M_isGood_38 rfl 1 rfl ?_
    refine tl_iload_n (pc := 39) C d_M_isGood_39 rfl 2 rfl ?_
    refine kM_M_sumOf (pc := 40) C hw ml_M_29 d_M_isGood_40 rfl (fun r40 S40 A40 hw => ?_)
    refine tl_icmp_ne (pc := 43) (tgt := 50) C d_M_isGood_43 rfl (fun hc => ?_) (fun hc => ?_)
    · have hw := hw.1 hc
      refine tl_iconst (pc := 50) (v := 0) C d_M_isGood_50 (by decide) ?_
      exact tl_zret (pc := 51) C (by decide) d_M_isGood_51 hw
    · have hw := hw.2 hc
      refine tl_iconst (pc := 46) (v := 1) C d_M_isGood_46 (by decide) ?_
      refine tl_goto (pc := 47) (tgt := 51) C d_M_isGood_47 rfl ?_
      exact tl_zret (pc := 51) C (by decide) d_M_isGood_51 hw
theorem kM_M_isGood {l : Launch} {R : Room} {nc ns : Nat} {Q : tl_Z → State → Prop} {D : va_G} {q : Nat → Nat} {k : Nat → ClassId} {nL : Nat} {z : tl_Z} {cc : ByteArray} {ret : Option FieldType} {pc : Nat} {lv : List (Nat × Value)} {rest : List Value} {S : SS} {A : AA} {own : String} {idx : Nat} {x1 : Int32} {post : Int32 → SS → AA → Prop} (C : tl_Cx cc nL own ret D (tM k) z) (hw : wM_M_isGood post S A x1) (hl : Cond.methodLink own idx y_M_isGood ∈ wsAll) (hdg : decode cc pc = .ok (.invokevirtual idx, 3)) (hf : tl_fit R (tl_R 1) nc ns 3 rest = true) (kk : ∀ (r : Int32) (S1 : SS) (A1 : AA), post r S1 A1 → tl_At l R nc ns Q D (wM q k) nL z (pc + 3) lv (.int r :: rest) (S1, A1)) : tl_At l R nc ns Q D (wM q k) nL z pc lv (.int x1 :: .ref (q 0) :: rest) (S, A) :=
  tl_callVi (n := 1) (As := [.int x1]) (b := q 0) (q0 := 0) (ci := 7) C (fun sz => cM_M_isGood l D q k sz S A x1 hw) in_551 in_8 in_550 ip_30 (by decide +kernel) rfl ⟨rfl, rfl⟩ rfl rfl hl hf hdg kk
set_option maxHeartbeats 4000000 in
set_option maxRecDepth 100000 in
theorem cM_M_bestSlot (l : Launch) (D : va_G) (q : Nat → Nat) (k : Nat → ClassId) (sz : Nat) (S : SS) (A : AA) {post : Int32 → SS → AA → Prop} (hw : wM_M_bestSlot post S A) : tl_Met l y_M_bestSlot b_M_bestSlot 3 (some .int) (tl_R 2) D (wM q k) (tM k) sz [.ref (q 0)] (S, A) (tl_Qi D (wM q k) (tM k) post) := by
  refine tl_met (own := R_M) (lv := [(0, .ref (q 0))]) (by decide) rfl rfl (Nat.le_of_ble_eq_true rfl) (fun z C => ?_)
  have B47 : ∀ (S : SS) (A : AA), wM_M_bestSlot_47 post S A → tl_At l (tl_R 2) 0 0 (tl_M 0 0 (tl_Qi D (wM q k) (tM k) post)) D (wM q k) 3 z 47 [] [] (S, A) := by
    intro S A hw
    refine tl_iconst (pc := 47) (v := 1) C d_M_bestSlot_47 (by decide) ?_
    refine tl_goto (pc := 48) (tgt := 52) C d_M_bestSlot_48 rfl ?_
    exact tl_iret (pc := 52) C d_M_bestSlot_52 hw
  have B22 : ∀ (S : SS) (A : AA) (x1 x2 : Int32), wM_M_bestSlot_22 post S A x1 x2 → tl_At l (tl_R 2) 0 0 (tl_M 0 0 (tl_Qi D (wM q k) (tM k) post)) D (wM q k) 3 z 22 [(0, .ref (q 0)), (1, .int x1), (2, .int x2)] [] (S, A) := by
    intro S A x1 x2 hw
    refine tl_iload_n (pc := 22) C d_M_bestSlot_22 rfl 1 rfl ?_
    refine tl_if_eq (pc := 23) (tgt := 47) C d_M_bestSlot_23 rfl (fun hc => ?_) (fun hc => ?_)
    · have hw := hw.1 hc
      exact tl_sub [] rfl (B47 _ _ hw)
    · have hw := hw.2 hc
      refine tl_iload_n (pc := 26) C d_M_bestSlot_26 rfl 2 rfl ?_
      refine tl_if_eq (pc := 27) (tgt := 51) C d_M_bestSlot_27 rfl (fun hc => ?_) (fun hc => ?_)
      · have hw := hw.1 hc
        refine tl_iconst (pc := 51) (v := 0) C d_M_bestSlot_51 (by decide) ?_
        exact tl_iret (pc := 52) C d_M_bestSlot_52 hw
      · have hw := hw.2 hc
        refine tl_aload_n (pc := 30) C d_M_bestSlot_30 rfl 0 rfl ?_
        refine gM_M_7 (pc := 31) C d_M_bestSlot_31 ?_
        refine tl_bipush (pc := 34) (v := 81) C d_M_bestSlot_34 (by decide) ?_
        obtain ⟨hi, hw⟩ := hw
        refine rM_ald0 (pc := 36) (f := (A 0)) C rfl hi d_M_bestSlot_36 ?_
        refine tl_aload_n (pc := 37) C d_M_bestSlot_37 rfl 0 rfl ?_
        refine gM_M_7 (pc := 38) C d_M_bestSlot_38 ?_
        refine tl_bipush (pc := 41) (v := 33) C d_M_bestSlot_41 (by decide) ?_
        obtain ⟨hi, hw⟩ := hw
        refine rM_ald0 (pc := 43) (f := (A 0)) C rfl hi d_M_bestSlot_43 ?_
        refine tl_icmp_le (pc := 44) (tgt := 51) C d_M_bestSlot_44 rfl (fun hc => ?_) (fun hc => ?_)
        · have hw := hw.1 hc
          refine tl_iconst (pc := 51) (v := 0) C d_M_bestSlot_51 (by decide) ?_
          exact tl_iret (pc := 52) C d_M_bestSlot_52 hw
        · have hw := hw.2 hc
          exact tl_sub [] rfl (B47 _ _ hw)
  refine tl_aload_n (pc := 0) C d_M_bestSlot_0 rfl 0 rfl ?_
  refine tl_iconst (pc := 1) (v := 0) C d_M_bestSlot_1 (by decide) ?_
  refine kM_M_isGood (pc := 2) C hw ml_M_42 d_M_bestSlot_2 rfl (fun r2 S2 A2 hw => ?_)
  refine tl_istore_n (pc := 5) (lv' := [(1, .int r2), (0, .ref (q 0))]) C d_M_bestSlot_5 rfl (by decide) rfl ?_
  refine tl_aload_n (pc := 6) C d_M_bestSlot_6 rfl 1 rfl ?_
  refine tl_iconst (pc := 7) (v := 1) C d_M_bestSlot_7 (by decide) ?_
  refine kM_M_isGood (pc := 8) C hw ml_M_42 d_M_bestSlot_8 rfl (fun r8 S8 A8 hw => ?_)
  refine tl_istore_n (pc := 11) (lv' := [(2, .int r8), (1, .int r2), (0, .ref (q 0))]) C d_M_bestSlot_11 rfl (by decide) rfl ?_
  refine tl_iload_n (pc := 12) C d_M_bestSlot_12 rfl 1 rfl ?_
  refine tl_if_ne (pc := 13) (tgt := 22) C d_M_bestSlot_13 rfl (fun hc => ?_) (fun hc => ?_)
  · have hw := hw.1 hc
    exact tl_sub [2, 1, 0] rfl (B22 _ _ _ _ hw)
  · have hw := hw.2 hc
    refine tl_iload_n (pc := 16) C d_M_bestSlot_16 rfl 0 rfl ?_
    refine tl_if_ne (pc := 17) (tgt := 22) C d_M_bestSlot_17 rfl (fun hc => ?_) (fun hc => ?_)
    · have hw := hw.1 hc
      exact tl_sub [2, 1, 0] rfl (B22 _ _ _ _ hw)
    · have hw := hw.2 hc
      refine tl_iconst (pc := 20) (v := -1) C d_M_bestSlot_20 (by decide) ?_
      exact tl_iret (pc := 21) C d_M_bestSlot_21 hw
theorem kM_M_bestSlot {l : Launch} {R : Room} {nc ns : Nat} {Q : tl_Z → State → Prop} {D : va_G} {q : Nat → Nat} {k : Nat → ClassId} {nL : Nat} {z : tl_Z} {cc : ByteArray} {ret : Option FieldType} {pc : Nat} {lv : List (Nat × Value)} {rest : List Value} {S : SS} {A : AA} {own : String} {idx : Nat} {post : Int32 → SS → AA → Prop} (C : tl_Cx cc nL own ret D (tM k) z) (hw : wM_M_bestSlot post S A) (hl : Cond.methodLink own idx y_M_bestSlot ∈ wsAll) (hdg : decode cc pc = .ok (.invokevirtual idx, 3)) (hf : tl_fit R (tl_R 2) nc ns 3 rest = true) (kk : ∀ (r : Int32) (S1 : SS) (A1 : AA), post r S1 A1 → tl_At l R nc ns Q D (wM q k) nL z (pc + 3) lv (.int r :: rest) (S1, A1)) : tl_At l R nc ns Q D (wM q k) nL z pc lv (.ref (q 0) :: rest) (S, A) :=
  tl_callVi (n := 0) (As := []) (b := q 0) (q0 := 0) (ci := 7) C (fun sz => cM_M_bestSlot l D q k sz S A hw) in_547 in_8 in_546 ip_29 (by decide +kernel) rfl ⟨rfl, rfl⟩ rfl rfl hl hf hdg kk
set_option maxHeartbeats 4000000 in
set_option maxRecDepth 100000 in
theorem cM_M_changeSession (l : Launch) (D : va_G) (q : Nat → Nat) (k : Nat → ClassId) (sz : Nat) (S : SS) (A : AA) (x1 : Int32) {post : SS → AA → Prop} (hw : wM_M_changeSession post S A x1) : tl_Met l y_M_changeSession b_M_changeSession 2 none (tl_R 0) D (wM q k) (tM k) sz [.ref (q 0), .int x1] (S, A) (tl_Qv D (wM q k) (tM k) post) := by
  refine tl_met (own := R_M) (lv := [(0, .ref (q 0)), (1, .int x1)]) (by decide) rfl rfl (Nat.le_of_ble_eq_true rfl) (fun z C => ?_)
  refine tl_aload_n (pc := 0) C d_M_changeSession_0 rfl 0 rfl ?_
  refine tl_iload_n (pc := 1) C d_M_changeSession_1 rfl 1 rfl ?_
  refine pM_M_90 (pc := 2) C d_M_changeSession_2 ?_
  refine tl_aload_n (pc := 5) C d_M_changeSession_5 rfl 0 rfl ?_
  refine tl_iconst (pc := 6) (v := 0) C d_M_changeSession_6 (by decide) ?_
  refine pM_M_93 (pc := 7) C (by decide) d_M_changeSession_7 ?_
  refine tl_aload_n (pc := 10) C d_M_changeSession_10 rfl 0 rfl ?_
  refine tl_iconst (pc := 11) (v := 0) C d_M_changeSession_11 (by decide) ?_
  refine pM_M_96 (pc := 12) C d_M_changeSession_12 ?_
  refine tl_aload_n (pc := 15) C d_M_changeSession_15 rfl 0 rfl ?_
  refine tl_iconst (pc := 16) (v := -1) C d_M_changeSession_16 (by decide) ?_
  refine pM_M_13 (pc := 17) C d_M_changeSession_17 ?_
  exact tl_vret (pc := 20) C d_M_changeSession_20 hw
theorem kM_M_changeSession {l : Launch} {R : Room} {nc ns : Nat} {Q : tl_Z → State → Prop} {D : va_G} {q : Nat → Nat} {k : Nat → ClassId} {nL : Nat} {z : tl_Z} {cc : ByteArray} {ret : Option FieldType} {pc : Nat} {lv : List (Nat × Value)} {rest : List Value} {S : SS} {A : AA} {own : String} {idx : Nat} {x1 : Int32} {post : SS → AA → Prop} (C : tl_Cx cc nL own ret D (tM k) z) (hw : wM_M_changeSession post S A x1) (hl : Cond.methodLink own idx y_M_changeSession ∈ wsAll) (hdg : decode cc pc = .ok (.invokevirtual idx, 3)) (hf : tl_fit R (tl_R 0) nc ns 2 rest = true) (kk : ∀ (S1 : SS) (A1 : AA), post S1 A1 → tl_At l R nc ns Q D (wM q k) nL z (pc + 3) lv (rest) (S1, A1)) : tl_At l R nc ns Q D (wM q k) nL z pc lv (.int x1 :: .ref (q 0) :: rest) (S, A) :=
  tl_callVv (n := 1) (As := [.int x1]) (b := q 0) (q0 := 0) (ci := 7) C (fun sz => cM_M_changeSession l D q k sz S A x1 hw) in_555 in_8 in_554 ip_31 (by decide +kernel) rfl ⟨rfl, rfl⟩ rfl rfl hl hf hdg kk
set_option maxHeartbeats 4000000 in
set_option maxRecDepth 100000 in
theorem cM_M_dropRequest (l : Launch) (D : va_G) (q : Nat → Nat) (k : Nat → ClassId) (sz : Nat) (S : SS) (A : AA) {post : SS → AA → Prop} (hw : wM_M_dropRequest post S A) : tl_Met l y_M_dropRequest b_M_dropRequest 1 none (tl_R 0) D (wM q k) (tM k) sz [.ref (q 0)] (S, A) (tl_Qv D (wM q k) (tM k) post) := by
  refine tl_met (own := R_M) (lv := [(0, .ref (q 0))]) (by decide) rfl rfl (Nat.le_of_ble_eq_true rfl) (fun z C => ?_)
  refine tl_aload_n (pc := 0) C d_M_dropRequest_0 rfl 0 rfl ?_
  refine tl_iconst (pc := 1) (v := 0) C d_M_dropRequest_1 (by decide) ?_
  refine pM_M_99 (pc := 2) C d_M_dropRequest_2 ?_
  refine tl_aload_n (pc := 5) C d_M_dropRequest_5 rfl 0 rfl ?_
  refine tl_iconst (pc := 6) (v := 0) C d_M_dropRequest_6 (by decide) ?_
  refine pM_M_102 (pc := 7) C d_M_dropRequest_7 ?_
  exact tl_vret (pc := 10) C d_M_dropRequest_10 hw
theorem kM_M_dropRequest {l : Launch} {R : Room} {nc ns : Nat} {Q : tl_Z → State → Prop} {D : va_G} {q : Nat → Nat} {k : Nat → ClassId} {nL : Nat} {z : tl_Z} {cc : ByteArray} {ret : Option FieldType} {pc : Nat} {lv : List (Nat × Value)} {rest : List Value} {S : SS} {A : AA} {own : String} {idx : Nat} {post : SS → AA → Prop} (C : tl_Cx cc nL own ret D (tM k) z) (hw : wM_M_dropRequest post S A) (hl : Cond.methodLink own idx y_M_dropRequest ∈ wsAll) (hdg : decode cc pc = .ok (.invokevirtual idx, 3)) (hf : tl_fit R (tl_R 0) nc ns 1 rest = true) (kk : ∀ (S1 : SS) (A1 : AA), post S1 A1 → tl_At l R nc ns Q D (wM q k) nL z (pc + 3) lv (rest) (S1, A1)) : tl_At l R nc ns Q D (wM q k) nL z pc lv (.ref (q 0) :: rest) (S, A) :=
  tl_callVv (n := 0) (As := []) (b := q 0) (q0 := 0) (ci := 7) C (fun sz => cM_M_dropRequest l D q k sz S A hw) in_559 in_8 in_558 ip_32 (by decide +kernel) rfl ⟨rfl, rfl⟩ rfl rfl hl hf hdg kk
set_option maxHeartbeats 4000000 in
set_option maxRecDepth 100000 in
theorem cM_M_boot (l : Launch) (D : va_G) (q : Nat → Nat) (k : Nat → ClassId) (sz : Nat) (S : SS) (A : AA) {post : SS → AA → Prop} (hw : wM_M_boot post S A) : tl_Met l y_M_boot b_M_boot 1 none (tl_R 3) D (wM q k) (tM k) sz [.ref (q 0)] (S, A) (tl_Qv D (wM q k) (tM k) post) := by
  refine tl_met (own := R_M) (lv := [(0, .ref (q 0))]) (by decide) rfl rfl (Nat.le_of_ble_eq_true rfl) (fun z C => ?_)
  refine tl_aload_n (pc := 0) C d_M_boot_0 rfl 0 rfl ?_
  refine tl_aload_n (pc := 1) C d_M_boot_1 rfl 0 rfl ?_
  refine kM_M_bestSlot (pc := 2) C hw ml_M_61 d_M_boot_2 rfl (fun r2 S2 A2 hw => ?_)
  refine pM_M_65 (pc := 5) C d_M_boot_5 ?_
  refine tl_aload_n (pc := 8) C d_M_boot_8 rfl 0 rfl ?_
  refine tl_iconst (pc := 9) (v := 1) C d_M_boot_9 (by decide) ?_
  refine kM_M_changeSession (pc := 10) C hw ml_M_68 d_M_boot_10 rfl (fun S10 A10 hw => ?_)
  refine tl_aload_n (pc := 13) C d_M_boot_13 rfl 0 rfl ?_
  refine kM_M_dropRequest (pc := 14) C hw ml_M_72 d_M_boot_14 rfl (fun S14 A14 hw => ?_)
  refine tl_aload_n (pc := 17) C d_M_boot_17 rfl 0 rfl ?_
  refine kM_M_dropAnswer (pc := 18) C hw ml_M_75 d_M_boot_18 rfl (fun S18 A18 hw => ?_)
  refine tl_aload_n (pc := 21) C d_M_boot_21 rfl 0 rfl ?_
  refine tl_iconst (pc := 22) (v := -1) C d_M_boot_22 (by decide) ?_
  refine pM_M_78 (pc := 23) C d_M_boot_23 ?_
  refine tl_aload_n (pc := 26) C d_M_boot_26 rfl 0 rfl ?_
  refine tl_iconst (pc := 27) (v := 0) C d_M_boot_27 (by decide) ?_
  refine pM_M_81 (pc := 28) C d_M_boot_28 ?_
  refine tl_aload_n (pc := 31) C d_M_boot_31 rfl 0 rfl ?_
  refine tl_iconst (pc := 32) (v := 0) C d_M_boot_32 (by decide) ?_
  refine pM_M_84 (pc := 33) C d_M_boot_33 ?_
  refine tl_aload_n (pc := 36) C d_M_boot_36 rfl 0 rfl ?_
  refine tl_iconst (pc := 37) (v := 0) C d_M_boot_37 (by decide) ?_
  refine pM_M_87 (pc := 38) C d_M_boot_38 ?_
  exact tl_vret (pc := 41) C d_M_boot_41 hw
theorem kM_M_boot {l : Launch} {R : Room} {nc ns : Nat} {Q : tl_Z → State → Prop} {D : va_G} {q : Nat → Nat} {k : Nat → ClassId} {nL : Nat} {z : tl_Z} {cc : ByteArray} {ret : Option FieldType} {pc : Nat} {lv : List (Nat × Value)} {rest : List Value} {S : SS} {A : AA} {own : String} {idx : Nat} {post : SS → AA → Prop} (C : tl_Cx cc nL own ret D (tM k) z) (hw : wM_M_boot post S A) (hl : Cond.methodLink own idx y_M_boot ∈ wsAll) (hdg : decode cc pc = .ok (.invokevirtual idx, 3)) (hf : tl_fit R (tl_R 3) nc ns 1 rest = true) (kk : ∀ (S1 : SS) (A1 : AA), post S1 A1 → tl_At l R nc ns Q D (wM q k) nL z (pc + 3) lv (rest) (S1, A1)) : tl_At l R nc ns Q D (wM q k) nL z pc lv (.ref (q 0) :: rest) (S, A) :=
  tl_callVv (n := 0) (As := []) (b := q 0) (q0 := 0) (ci := 7) C (fun sz => cM_M_boot l D q k sz S A hw) in_543 in_8 in_542 ip_28 (by decide +kernel) rfl ⟨rfl, rfl⟩ rfl rfl hl hf hdg kk
set_option maxHeartbeats 4000000 in
set_option maxRecDepth 100000 in
theorem cM_M_restart (l : Launch) (D : va_G) (q : Nat → Nat) (k : Nat → ClassId) (sz : Nat) (S : SS) (A : AA) {post : SS → AA → Prop} (hw : wM_M_restart post S A) : tl_Met l y_M_restart b_M_restart 1 none (tl_R 4) D (wM q k) (tM k) sz [.ref (q 0)] (S, A) (tl_Qv D (wM q k) (tM k) post) := by
  refine tl_met (own := R_M) (lv := [(0, .ref (q 0))]) (by decide) rfl rfl (Nat.le_of_ble_eq_true rfl) (fun z C => ?_)
  refine tl_aload_n (pc := 0) C d_M_restart_0 rfl 0 rfl ?_
  refine kM_M_boot (pc := 1) C hw ml_M_33 d_M_restart_1 rfl (fun S1 A1 hw => ?_)
  refine tl_aload_n (pc := 4) C d_M_restart_4 rfl 0 rfl ?_
  refine tl_iconst (pc := 5) (v := 0) C d_M_restart_5 (by decide) ?_
  refine pM_M_36 (pc := 6) C d_M_restart_6 ?_
  exact tl_vret (pc := 9) C d_M_restart_9 hw
theorem kM_M_restart {l : Launch} {R : Room} {nc ns : Nat} {Q : tl_Z → State → Prop} {D : va_G} {q : Nat → Nat} {k : Nat → ClassId} {nL : Nat} {z : tl_Z} {cc : ByteArray} {ret : Option FieldType} {pc : Nat} {lv : List (Nat × Value)} {rest : List Value} {S : SS} {A : AA} {own : String} {idx : Nat} {post : SS → AA → Prop} (C : tl_Cx cc nL own ret D (tM k) z) (hw : wM_M_restart post S A) (hl : Cond.methodLink own idx y_M_restart ∈ wsAll) (hdg : decode cc pc = .ok (.invokevirtual idx, 3)) (hf : tl_fit R (tl_R 4) nc ns 1 rest = true) (kk : ∀ (S1 : SS) (A1 : AA), post S1 A1 → tl_At l R nc ns Q D (wM q k) nL z (pc + 3) lv (rest) (S1, A1)) : tl_At l R nc ns Q D (wM q k) nL z pc lv (.ref (q 0) :: rest) (S, A) :=
  tl_callVv (n := 0) (As := []) (b := q 0) (q0 := 0) (ci := 7) C (fun sz => cM_M_restart l D q k sz S A hw) in_658 in_8 in_656 in_657 (by decide +kernel) rfl ⟨rfl, rfl⟩ rfl rfl hl hf hdg kk
set_option maxHeartbeats 4000000 in
set_option maxRecDepth 100000 in
theorem cM_M_sendAnswer (l : Launch) (D : va_G) (q : Nat → Nat) (k : Nat → ClassId) (sz : Nat) (S : SS) (A : AA) {post : SS → AA → Prop} (hw : wM_M_sendAnswer post S A) : tl_Met l y_M_sendAnswer b_M_sendAnswer 1 none (tl_R 1) D (wM q k) (tM k) sz [.ref (q 0)] (S, A) (tl_Qv D (wM q k) (tM k) post) := by
  refine tl_met (own := R_M) (lv := [(0, .ref (q 0))]) (by decide) rfl rfl (Nat.le_of_ble_eq_true rfl) (fun z C => ?_)
  have B50 : ∀ (S : SS) (A : AA), wM_M_sendAnswer_50 post S A → tl_At l (tl_R 1) 0 0 (tl_M 0 0 (tl_Qv D (wM q k) (tM k) post)) D (wM q k) 1 z 50 [(0, .ref (q 0))] [] (S, A) := by
    intro S A hw
    refine tl_aload_n (pc := 50) C d_M_sendAnswer_50 rfl 0 rfl ?_
    refine gM_M_108 (pc := 51) (v := (S 21)) C rfl d_M_sendAnswer_51 ?_
    refine tl_aload_n (pc := 54) C d_M_sendAnswer_54 rfl 0 rfl ?_
    refine gM_M_105 (pc := 55) (v := (S 20)) C rfl d_M_sendAnswer_55 ?_
    refine tl_icmp_ne (pc := 58) (tgt := 65) C d_M_sendAnswer_58 rfl (fun hc => ?_) (fun hc => ?_)
    · have hw := hw.1 hc
      exact tl_vret (pc := 65) C d_M_sendAnswer_65 hw
    · have hw := hw.2 hc
      refine tl_aload_n (pc := 61) C d_M_sendAnswer_61 rfl 0 rfl ?_
      refine kM_M_dropAnswer (pc := 62) C hw ml_M_75 d_M_sendAnswer_62 rfl (fun S62 A62 hw => ?_)
      exact tl_vret (pc := 65) C d_M_sendAnswer_65 hw
  refine tl_aload_n (pc := 0) C d_M_sendAnswer_0 rfl 0 rfl ?_
  refine tl_iconst (pc := 1) (v := 0) C d_M_sendAnswer_1 (by decide) ?_
  refine pM_M_108 (pc := 2) C d_M_sendAnswer_2 ?_
  refine tl_aload_n (pc := 5) C d_M_sendAnswer_5 rfl 0 rfl ?_
  refine tl_iconst (pc := 6) (v := 0) C d_M_sendAnswer_6 (by decide) ?_
  refine pM_M_120 (pc := 7) C d_M_sendAnswer_7 ?_
  refine tl_aload_n (pc := 10) C d_M_sendAnswer_10 rfl 0 rfl ?_
  refine tl_iconst (pc := 11) (v := 0) C d_M_sendAnswer_11 (by decide) ?_
  refine pM_M_123 (pc := 12) C d_M_sendAnswer_12 ?_
  refine tl_aload_n (pc := 15) C d_M_sendAnswer_15 rfl 0 rfl ?_
  refine gM_M_105 (pc := 16) (v := (S 20)) C rfl d_M_sendAnswer_16 ?_
  refine tl_bipush (pc := 19) (v := 7) C d_M_sendAnswer_19 (by decide) ?_
  refine tl_icmp_gt (pc := 21) (tgt := 38) C d_M_sendAnswer_21 rfl (fun hc => ?_) (fun hc => ?_)
  · have hw := hw.1 hc
    refine tl_aload_n (pc := 38) C d_M_sendAnswer_38 rfl 0 rfl ?_
    refine tl_bipush (pc := 39) (v := 16) C d_M_sendAnswer_39 (by decide) ?_
    refine tl_aload_n (pc := 41) C d_M_sendAnswer_41 rfl 0 rfl ?_
    refine gM_M_105 (pc := 42) (v := (S 20)) C rfl d_M_sendAnswer_42 ?_
    refine tl_bipush (pc := 45) (v := 6) C d_M_sendAnswer_45 (by decide) ?_
    refine kM_M_emit (pc := 47) C hw ml_M_117 d_M_sendAnswer_47 rfl (fun S47 A47 hw => ?_)
    exact tl_sub [0] rfl (B50 _ _ hw)
  · have hw := hw.2 hc
    refine tl_aload_n (pc := 24) C d_M_sendAnswer_24 rfl 0 rfl ?_
    refine tl_aload_n (pc := 25) C d_M_sendAnswer_25 rfl 0 rfl ?_
    refine gM_M_105 (pc := 26) (v := (S 20)) C rfl d_M_sendAnswer_26 ?_
    refine tl_iconst (pc := 29) (v := -1) C d_M_sendAnswer_29 (by decide) ?_
    refine tl_bipush (pc := 30) (v := 7) C d_M_sendAnswer_30 (by decide) ?_
    refine kM_M_emit (pc := 32) C hw ml_M_117 d_M_sendAnswer_32 rfl (fun S32 A32 hw => ?_)
    refine tl_goto (pc := 35) (tgt := 50) C d_M_sendAnswer_35 rfl ?_
    exact tl_sub [0] rfl (B50 _ _ hw)
theorem kM_M_sendAnswer {l : Launch} {R : Room} {nc ns : Nat} {Q : tl_Z → State → Prop} {D : va_G} {q : Nat → Nat} {k : Nat → ClassId} {nL : Nat} {z : tl_Z} {cc : ByteArray} {ret : Option FieldType} {pc : Nat} {lv : List (Nat × Value)} {rest : List Value} {S : SS} {A : AA} {own : String} {idx : Nat} {post : SS → AA → Prop} (C : tl_Cx cc nL own ret D (tM k) z) (hw : wM_M_sendAnswer post S A) (hl : Cond.methodLink own idx y_M_sendAnswer ∈ wsAll) (hdg : decode cc pc = .ok (.invokevirtual idx, 3)) (hf : tl_fit R (tl_R 1) nc ns 1 rest = true) (kk : ∀ (S1 : SS) (A1 : AA), post S1 A1 → tl_At l R nc ns Q D (wM q k) nL z (pc + 3) lv (rest) (S1, A1)) : tl_At l R nc ns Q D (wM q k) nL z pc lv (.ref (q 0) :: rest) (S, A) :=
  tl_callVv (n := 0) (As := []) (b := q 0) (q0 := 0) (ci := 7) C (fun sz => cM_M_sendAnswer l D q k sz S A hw) in_771 in_8 in_770 ip_59 (by decide +kernel) rfl ⟨rfl, rfl⟩ rfl rfl hl hf hdg kk
set_option maxHeartbeats 4000000 in
set_option maxRecDepth 100000 in
theorem cM_M_change (l : Launch) (D : va_G) (q : Nat → Nat) (k : Nat → ClassId) (sz : Nat) (S : SS) (A : AA) (x1 x2 x3 : Int32) {post : SS → AA → Prop} (hw : wM_M_change post S A x1 x2 x3) : tl_Met l y_M_change b_M_change 7 none (tl_R 0) D (wM q k) (tM k) sz [.ref (q 0), .int x1, .int x2, .int x3] (S, A) (tl_Qv D (wM q k) (tM k) post) := by
  refine tl_met (own := R_M) (lv := [(0, .ref (q 0)), (1, .int x1), (2, .int x2), (3, .int x3)]) (by decide) rfl rfl (Nat.le_of_ble_eq_true rfl) (fun z C => ?_)
  have B3 : ∀ (S : SS) (A : AA) (x1 x2 x3 x4 : Int32), wM_M_change_3 post S A x1 x2 x3 x4 → tl_At l (tl_R 0) 0 0 (tl_M 0 0 (tl_Qv D (wM q k) (tM k) post)) D (wM q k) 7 z 3 [(0, .ref (q 0)), (1, .int x1), (2, .int x2), (3, .int x3), (4, .int x4)] [] (S, A) := by
    intro S A x1 x2 x3 x4 hw
    have key : ∀ X3 : SS → AA → Int32 → Int32 → Int32 → Int32 → Prop, (∀ (S : SS) (A : AA) (x1 x2 x3 x4 : Int32), X3 S A x1 x2 x3 x4 → tl_At l (tl_R 0) 0 0 (tl_M 0 0 (tl_Qv D (wM q k) (tM k) post)) D (wM q k) 7 z 3 [(0, .ref (q 0)), (1, .int x1), (2, .int x2), (3, .int x3), (4, .int x4)] [] (S, A)) → ∀ (S : SS) (A : AA) (x1 x2 x3 x4 : Int32), wM_M_change_3B post X3 S A x1 x2 x3 x4 → tl_At l (tl_R 0) 0 0 (tl_M 0 0 (tl_Qv D (wM q k) (tM k) post)) D (wM q k) 7 z 3 [(0, .ref (q 0)), (1, .int x1), (2, .int x2), (3, .int x3), (4, .int x4)] [] (S, A) := by
      intro X3 hX3 S A x1 x2 x3 x4 hw
      have B99 : ∀ (S : SS) (A : AA) (x1 x2 x3 x4 : Int32), wM_M_change_99 post X3 S A x1 x2 x3 x4 → tl_At l (tl_R 0) 0 0 (tl_M 0 0 (tl_Qv D (wM q k) (tM k) post)) D (wM q k) 7 z 99 [(0, .ref (q 0)), (1, .int x1), (2, .int x2), (3, .int x3), (4, .int x4)] [] (S, A) := by
        intro S A x1 x2 x3 x4 hw
        refine tl_iinc (pc := 99) (lv' := [(4, .int (x4 + (1 : Int32))), (0, .ref (q 0)), (1, .int x1), (2, .int x2), (3, .int x3)]) C d_M_change_99 (by decide) 4 rfl rfl (by decide) rfl ?_
        refine tl_goto (pc := 102) (tgt := 3) C d_M_change_102 rfl ?_
        exact tl_sub [1, 2, 3, 4, 0] rfl (hX3 _ _ _ _ _ _ hw)
      have B70 : ∀ (S : SS) (A : AA) (x1 x2 x3 x4 x5 y0 : Int32), wM_M_change_70 post X3 S A x1 x2 x3 x4 x5 y0 → tl_At l (tl_R 0) 0 0 (tl_M 0 0 (tl_Qv D (wM q k) (tM k) post)) D (wM q k) 7 z 70 [(0, .ref (q 0)), (1, .int x1), (2, .int x2), (3, .int x3), (4, .int x4), (5, .int x5)] [.int y0] (S, A) := by
        intro S A x1 x2 x3 x4 x5 y0 hw
        refine tl_istore (pc := 70) (lv' := [(6, .int y0), (0, .ref (q 0)), (1, .int x1), (2, .int x2), (3, .int x3), (4, .int x4), (5, .int x5)]) C d_M_change_70 (by decide) rfl ?_
        refine tl_iload (pc := 72) C d_M_change_72 6 rfl ?_
        refine tl_if_eq (pc := 74) (tgt := 99) C d_M_change_74 rfl (fun hc => ?_) (fun hc => ?_)
        · have hw := hw.1 hc
          exact tl_sub [1, 2, 3, 4, 5] rfl (B99 _ _ _ _ _ _ hw)
        · have hw := hw.2 hc
          refine tl_iload (pc := 77) C d_M_change_77 0 rfl ?_
          refine tl_if_eq (pc := 79) (tgt := 99) C d_M_change_79 rfl (fun hc => ?_) (fun hc => ?_)
          · have hw := hw.1 hc
            exact tl_sub [1, 2, 3, 4, 5] rfl (B99 _ _ _ _ _ _ hw)
          · have hw := hw.2 hc
            refine tl_aload_n (pc := 82) C d_M_change_82 rfl 1 rfl ?_
            refine gM_M_7 (pc := 83) C d_M_change_83 ?_
            refine tl_iload_n (pc := 86) C d_M_change_86 rfl 2 rfl ?_
            refine tl_aload_n (pc := 87) C d_M_change_87 rfl 1 rfl ?_
            refine gM_M_7 (pc := 88) C d_M_change_88 ?_
            refine tl_iload_n (pc := 91) C d_M_change_91 rfl 2 rfl ?_
            obtain ⟨hi, hw⟩ := hw
            refine rM_ald0 (pc := 92) (f := (A 0)) C rfl hi d_M_change_92 ?_
            refine tl_iconst (pc := 93) (v := 1) C d_M_change_93 (by decide) ?_
            refine tl_iload (pc := 94) C d_M_change_94 5 rfl ?_
            refine tl_ishl (pc := 96) C d_M_change_96 ?_
            refine tl_ixor (pc := 97) C d_M_change_97 ?_
            obtain ⟨hi, hw⟩ := hw
            refine rM_ast0 (pc := 98) (f := (A 0)) C rfl hi d_M_change_98 ?_
            exact tl_sub [1, 2, 3, 4, 5] rfl (B99 _ _ _ _ _ _ hw)
      have B65 : ∀ (S : SS) (A : AA) (x1 x2 x3 x4 x5 : Int32), wM_M_change_65 post X3 S A x1 x2 x3 x4 x5 → tl_At l (tl_R 0) 0 0 (tl_M 0 0 (tl_Qv D (wM q k) (tM k) post)) D (wM q k) 7 z 65 [(0, .ref (q 0)), (1, .int x1), (2, .int x2), (3, .int x3), (4, .int x4), (5, .int x5)] [] (S, A) := by
        intro S A x1 x2 x3 x4 x5 hw
        refine tl_iconst (pc := 65) (v := 1) C d_M_change_65 (by decide) ?_
        refine tl_goto (pc := 66) (tgt := 70) C d_M_change_66 rfl ?_
        exact tl_sub [0, 1, 2, 3, 4, 5] rfl (B70 _ _ _ _ _ _ _ _ hw)
      have B35 : ∀ (S : SS) (A : AA) (x1 x2 x3 x4 y0 : Int32), wM_M_change_35 post X3 S A x1 x2 x3 x4 y0 → tl_At l (tl_R 0) 0 0 (tl_M 0 0 (tl_Qv D (wM q k) (tM k) post)) D (wM q k) 7 z 35 [(0, .ref (q 0)), (1, .int x1), (2, .int x2), (3, .int x3), (4, .int x4)] [.int y0] (S, A) := by
        intro S A x1 x2 x3 x4 y0 hw
        refine tl_istore (pc := 35) (lv' := [(5, .int y0), (0, .ref (q 0)), (1, .int x1), (2, .int x2), (3, .int x3), (4, .int x4)]) C d_M_change_35 (by decide) rfl ?_
        refine tl_aload_n (pc := 37) C d_M_change_37 rfl 1 rfl ?_
        refine gM_M_46 (pc := 38) (v := (S 0)) C rfl d_M_change_38 ?_
        refine tl_if_eq (pc := 41) (tgt := 65) C d_M_change_41 rfl (fun hc => ?_) (fun hc => ?_)
        · have hw := hw.1 hc
          exact tl_sub [1, 2, 3, 4, 5, 0] rfl (B65 _ _ _ _ _ _ _ hw)
        · have hw := hw.2 hc
          refine tl_aload_n (pc := 44) C d_M_change_44 rfl 1 rfl ?_
          refine gM_M_50 (pc := 45) (v := (S 1)) C rfl d_M_change_45 ?_
          refine tl_bipush (pc := 48) (v := 8) C d_M_change_48 (by decide) ?_
          refine tl_iload_n (pc := 50) C d_M_change_50 rfl 3 rfl ?_
          refine tl_imul (pc := 51) C d_M_change_51 ?_
          refine tl_iload (pc := 52) C d_M_change_52 5 rfl ?_
          refine tl_iadd (pc := 54) C d_M_change_54 ?_
          refine tl_bipush (pc := 55) (v := 32) C d_M_change_55 (by decide) ?_
          refine tl_irem (pc := 57) C d_M_change_57 (by decide) ?_
          refine tl_iushr (pc := 58) C d_M_change_58 ?_
          refine tl_iconst (pc := 59) (v := 1) C d_M_change_59 (by decide) ?_
          refine tl_iand (pc := 60) C d_M_change_60 ?_
          refine tl_iconst (pc := 61) (v := 1) C d_M_change_61 (by decide) ?_
          refine tl_icmp_ne (pc := 62) (tgt := 69) C d_M_change_62 rfl (fun hc => ?_) (fun hc => ?_)
          · have hw := hw.1 hc
            refine tl_iconst (pc := 69) (v := 0) C d_M_change_69 (by decide) ?_
            exact tl_sub [1, 2, 3, 4, 5, 0] rfl (B70 _ _ _ _ _ _ _ _ hw)
          · have hw := hw.2 hc
            exact tl_sub [1, 2, 3, 4, 5, 0] rfl (B65 _ _ _ _ _ _ _ hw)
      refine tl_iload (pc := 3) C d_M_change_3 4 rfl ?_
      refine tl_bipush (pc := 5) (v := 8) C d_M_change_5 (by decide) ?_
      refine tl_icmp_ge (pc := 7) (tgt := 105) C d_M_change_7 rfl (fun hc => ?_) (fun hc => ?_)
      · have hw := hw.1 hc
        exact tl_vret (pc := 105) C d_M_change_105 hw
      · have hw := hw.2 hc
        refine tl_aload_n (pc := 10) C d_M_change_10 rfl 0 rfl ?_
        refine gM_M_7 (pc := 11) C d_M_change_11 ?_
        refine tl_iload_n (pc := 14) C d_M_change_14 rfl 1 rfl ?_
        obtain ⟨hi, hw⟩ := hw
        refine rM_ald0 (pc := 15) (f := (A 0)) C rfl hi d_M_change_15 ?_
        refine tl_iload (pc := 16) C d_M_change_16 4 rfl ?_
        refine tl_ishr (pc := 18) C d_M_change_18 ?_
        refine tl_iconst (pc := 19) (v := 1) C d_M_change_19 (by decide) ?_
        refine tl_iand (pc := 20) C d_M_change_20 ?_
        refine tl_iload_n (pc := 21) C d_M_change_21 rfl 3 rfl ?_
        refine tl_iload (pc := 22) C d_M_change_22 4 rfl ?_
        refine tl_ishr (pc := 24) C d_M_change_24 ?_
        refine tl_iconst (pc := 25) (v := 1) C d_M_change_25 (by decide) ?_
        refine tl_iand (pc := 26) C d_M_change_26 ?_
        refine tl_icmp_eq (pc := 27) (tgt := 34) C d_M_change_27 rfl (fun hc => ?_) (fun hc => ?_)
        · have hw := hw.1 hc
          refine tl_iconst (pc := 34) (v := 0) C d_M_change_34 (by decide) ?_
          exact tl_sub [0, 1, 2, 3, 4] rfl (B35 _ _ _ _ _ _ _ hw)
        · have hw := hw.2 hc
          refine tl_iconst (pc := 30) (v := 1) C d_M_change_30 (by decide) ?_
          refine tl_goto (pc := 31) (tgt := 35) C d_M_change_31 rfl ?_
          exact tl_sub [0, 1, 2, 3, 4] rfl (B35 _ _ _ _ _ _ _ hw)
    exact hw _ (fun S A x1 x2 x3 x4 hb => key _ (fun _ _ _ _ _ _ h => h) S A x1 x2 x3 x4 hb)
  refine tl_iconst (pc := 0) (v := 0) C d_M_change_0 (by decide) ?_
  refine tl_istore (pc := 1) (lv' := [(4, .int (0 : Int32)), (0, .ref (q 0)), (1, .int x1), (2, .int x2), (3, .int x3)]) C d_M_change_1 (by decide) rfl ?_
  exact tl_sub [1, 2, 3, 4, 0] rfl (B3 _ _ _ _ _ _ hw)
