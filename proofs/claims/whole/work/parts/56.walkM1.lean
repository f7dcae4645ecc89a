theorem kM_M_change {l : Launch} {R : Room} {nc ns : Nat} {Q : tl_Z → State → Prop} {D : va_G} {q : Nat → Nat} {k : Nat → ClassId} {nL : Nat} {z : tl_Z} {cc : ByteArray} {ret : Option FieldType} {pc : Nat} {lv : List (Nat × Value)} {rest : List Value} {S : SS} {A : AA} {own : String} {idx : Nat} {x1 x2 x3 : Int32} {post : SS → AA → Prop} (C : tl_Cx cc nL own ret D (tM k) z) (hw : wM_M_change post S A x1 x2 x3) (hl : Cond.methodLink own idx y_M_change ∈ wsAll) (hdg : decode cc pc = .ok (.invokevirtual idx, 3)) (hf : tl_fit R (tl_R 0) nc ns 7 rest = true) (kk : ∀ (S1 : SS) (A1 : AA), post S1 A1 → tl_At l R nc ns Q D (wM q k) nL z (pc + 3) lv (rest) (S1, A1)) : tl_At l R nc ns Q D (wM q k) nL z pc lv (.int x3 :: .int x2 :: .int x1 :: .ref (q 0) :: rest) (S, A) :=
  tl_callVv (n := 3) (As := [.int x1, .int x2, .int x3]) (b := q 0) (q0 := 0) (ci := 7) C (fun sz => cM_M_change l D q k sz S A x1 x2 x3 hw) in_742 in_8 in_741 ip_52 (by decide +kernel) rfl ⟨rfl, rfl⟩ rfl rfl hl hf hdg kk
set_option maxHeartbeats 4000000 in
set_option maxRecDepth 100000 in
theorem cM_M_toCome (l : Launch) (D : va_G) (q : Nat → Nat) (k : Nat → ClassId) (sz : Nat) (S : SS) (A : AA) {post : Int32 → SS → AA → Prop} (hw : wM_M_toCome post S A) : tl_Met l y_M_toCome b_M_toCome 1 (some .int) (tl_R 0) D (wM q k) (tM k) sz [.ref (q 0)] (S, A) (tl_Qi D (wM q k) (tM k) post) := by
  refine tl_met (own := R_M) (lv := [(0, .ref (q 0))]) (by decide) rfl rfl (Nat.le_of_ble_eq_true rfl) (fun z C => ?_)
  refine tl_aload_n (pc := 0) C d_M_toCome_0 rfl 0 rfl ?_
  refine gM_M_13 (pc := 1) (v := (S 12)) C rfl d_M_toCome_1 ?_
  refine tl_if_ge (pc := 4) (tgt := 11) C d_M_toCome_4 rfl (fun hc => ?_) (fun hc => ?_)
  · have hw := hw.1 hc
    refine tl_aload_n (pc := 11) C d_M_toCome_11 rfl 0 rfl ?_
    refine gM_M_111 (pc := 12) (v := (S 13)) C rfl d_M_toCome_12 ?_
    refine tl_aload_n (pc := 15) C d_M_toCome_15 rfl 0 rfl ?_
    refine gM_M_114 (pc := 16) (v := (S 14)) C rfl d_M_toCome_16 ?_
    refine tl_isub (pc := 19) C d_M_toCome_19 ?_
    exact tl_iret (pc := 20) C d_M_toCome_20 hw
  · have hw := hw.2 hc
    refine tl_iconst (pc := 7) (v := -1) C d_M_toCome_7 (by decide) ?_
    refine tl_goto (pc := 8) (tgt := 20) C d_M_toCome_8 rfl ?_
    exact tl_iret (pc := 20) C d_M_toCome_20 hw
theorem kM_M_toCome {l : Launch} {R : Room} {nc ns : Nat} {Q : tl_Z → State → Prop} {D : va_G} {q : Nat → Nat} {k : Nat → ClassId} {nL : Nat} {z : tl_Z} {cc : ByteArray} {ret : Option FieldType} {pc : Nat} {lv : List (Nat × Value)} {rest : List Value} {S : SS} {A : AA} {own : String} {idx : Nat} {post : Int32 → SS → AA → Prop} (C : tl_Cx cc nL own ret D (tM k) z) (hw : wM_M_toCome post S A) (hl : Cond.methodLink own idx y_M_toCome ∈ wsAll) (hdg : decode cc pc = .ok (.invokevirtual idx, 3)) (hf : tl_fit R (tl_R 0) nc ns 1 rest = true) (kk : ∀ (r : Int32) (S1 : SS) (A1 : AA), post r S1 A1 → tl_At l R nc ns Q D (wM q k) nL z (pc + 3) lv (.int r :: rest) (S1, A1)) : tl_At l R nc ns Q D (wM q k) nL z pc lv (.ref (q 0) :: rest) (S, A) :=
  tl_callVi (n := 0) (As := []) (b := q 0) (q0 := 0) (ci := 7) C (fun sz => cM_M_toCome l D q k sz S A hw) in_762 in_8 in_761 ip_57 (by decide +kernel) rfl ⟨rfl, rfl⟩ rfl rfl hl hf hdg kk
set_option maxHeartbeats 4000000 in
set_option maxRecDepth 100000 in
theorem cM_M_torn (l : Launch) (D : va_G) (q : Nat → Nat) (k : Nat → ClassId) (sz : Nat) (S : SS) (A : AA) {post : Int32 → SS → AA → Prop} (hw : wM_M_torn post S A) : tl_Met l y_M_torn b_M_torn 2 (some .boolean) (tl_R 0) D (wM q k) (tM k) sz [.ref (q 0)] (S, A) (tl_Qi D (wM q k) (tM k) post) := by
  refine tl_met (own := R_M) (lv := [(0, .ref (q 0))]) (by decide) rfl rfl (Nat.le_of_ble_eq_true rfl) (fun z C => ?_)
  refine tl_aload_n (pc := 0) C d_M_torn_0 rfl 0 rfl ?_
  refine gM_M_46 (pc := 1) (v := (S 0)) C rfl d_M_torn_1 ?_
  refine tl_istore_n (pc := 4) (lv' := [(1, .int (S 0)), (0, .ref (q 0))]) C d_M_torn_4 rfl (by decide) rfl ?_
  refine tl_aload_n (pc := 5) C d_M_torn_5 rfl 1 rfl ?_
  refine tl_iconst (pc := 6) (v := 0) C d_M_torn_6 (by decide) ?_
  refine pM_M_46 (pc := 7) C (by decide) d_M_torn_7 ?_
  refine tl_iload_n (pc := 10) C d_M_torn_10 rfl 0 rfl ?_
  obtain ⟨hz, hw⟩ := hw
  exact tl_zret (pc := 11) C hz d_M_torn_11 hw
theorem kM_M_torn {l : Launch} {R : Room} {nc ns : Nat} {Q : tl_Z → State → Prop} {D : va_G} {q : Nat → Nat} {k : Nat → ClassId} {nL : Nat} {z : tl_Z} {cc : ByteArray} {ret : Option FieldType} {pc : Nat} {lv : List (Nat × Value)} {rest : List Value} {S : SS} {A : AA} {own : String} {idx : Nat} {post : Int32 → SS → AA → Prop} (C : tl_Cx cc nL own ret D (tM k) z) (hw : wM_M_torn post S A) (hl : Cond.methodLink own idx y_M_torn ∈ wsAll) (hdg : decode cc pc = .ok (.invokevirtual idx, 3)) (hf : tl_fit R (tl_R 0) nc ns 2 rest = true) (kk : ∀ (r : Int32) (S1 : SS) (A1 : AA), post r S1 A1 → tl_At l R nc ns Q D (wM q k) nL z (pc + 3) lv (.int r :: rest) (S1, A1)) : tl_At l R nc ns Q D (wM q k) nL z pc lv (.ref (q 0) :: rest) (S, A) :=
  tl_callVi (n := 0) (As := []) (b := q 0) (q0 := 0) (ci := 7) C (fun sz => cM_M_torn l D q k sz S A hw) in_746 in_8 in_745 ip_53 (by decide +kernel) rfl ⟨rfl, rfl⟩ rfl rfl hl hf hdg kk
set_option maxHeartbeats 4000000 in
set_option maxRecDepth 100000 in
theorem cM_M_block (l : Launch) (D : va_G) (q : Nat → Nat) (k : Nat → ClassId) (sz : Nat) (S : SS) (A : AA) {post : Int32 → SS → AA → Prop} (hw : wM_M_block post S A) : tl_Met l y_M_block b_M_block 6 (some .int) (tl_R 1) D (wM q k) (tM k) sz [.ref (q 0)] (S, A) (tl_Qi D (wM q k) (tM k) post) := by
  refine tl_met (own := R_M) (lv := [(0, .ref (q 0))]) (by decide) rfl rfl (Nat.le_of_ble_eq_true rfl) (fun z C => ?_)
  have B210 : ∀ (S : SS) (A : AA) (x1 : Int32), wM_M_block_210 post S A x1 → tl_At l (tl_R 1) 0 0 (tl_M 0 0 (tl_Qi D (wM q k) (tM k) post)) D (wM q k) 6 z 210 [(0, .ref (q 0)), (1, .int x1)] [] (S, A) := by
    intro S A x1 hw
    refine tl_aload_n (pc := 210) C d_M_block_210 rfl 0 rfl ?_
    refine tl_bipush (pc := 211) (v := 118) C d_M_block_211 (by decide) ?_
    refine kM_M_add (pc := 213) C hw ml_M_138 d_M_block_213 rfl (fun S213 A213 hw => ?_)
    refine tl_aload_n (pc := 216) C d_M_block_216 rfl 0 rfl ?_
    refine tl_iload_n (pc := 217) C d_M_block_217 rfl 1 rfl ?_
    refine kM_M_add (pc := 218) C hw ml_M_138 d_M_block_218 rfl (fun S218 A218 hw => ?_)
    refine tl_iconst (pc := 221) (v := 0) C d_M_block_221 (by decide) ?_
    exact tl_iret (pc := 222) C d_M_block_222 hw
  have B173 : ∀ (S : SS) (A : AA) (x1 x2 x4 x5 : Int32), wM_M_block_173 post S A x1 x2 x4 x5 → tl_At l (tl_R 1) 0 0 (tl_M 0 0 (tl_Qi D (wM q k) (tM k) post)) D (wM q k) 6 z 173 [(0, .ref (q 0)), (1, .int x1), (2, .int x2), (4, .int x4), (5, .int x5)] [] (S, A) := by
    intro S A x1 x2 x4 x5 hw
    have key : ∀ X173 : SS → AA → Int32 → Int32 → Int32 → Int32 → Prop, (∀ (S : SS) (A : AA) (x1 x2 x4 x5 : Int32), X173 S A x1 x2 x4 x5 → tl_At l (tl_R 1) 0 0 (tl_M 0 0 (tl_Qi D (wM q k) (tM k) post)) D (wM q k) 6 z 173 [(0, .ref (q 0)), (1, .int x1), (2, .int x2), (4, .int x4), (5, .int x5)] [] (S, A)) → ∀ (S : SS) (A : AA) (x1 x2 x4 x5 : Int32), wM_M_block_173B post X173 S A x1 x2 x4 x5 → tl_At l (tl_R 1) 0 0 (tl_M 0 0 (tl_Qi D (wM q k) (tM k) post)) D (wM q k) 6 z 173 [(0, .ref (q 0)), (1, .int x1), (2, .int x2), (4, .int x4), (5, .int x5)] [] (S, A) := by
      intro X173 hX173 S A x1 x2 x4 x5 hw
      refine tl_iload (pc := 173) C d_M_block_173 4 rfl ?_
      refine tl_iload_n (pc := 175) C d_M_block_175 rfl 2 rfl ?_
      refine tl_icmp_ge (pc := 176) (tgt := 210) C d_M_block_176 rfl (fun hc => ?_) (fun hc => ?_)
      · have hw := hw.1 hc
        exact tl_sub [0, 1] rfl (B210 _ _ _ hw)
      · have hw := hw.2 hc
        refine tl_aload_n (pc := 179) C d_M_block_179 rfl 0 rfl ?_
        refine gM_M_7 (pc := 180) C d_M_block_180 ?_
        refine tl_iload (pc := 183) C d_M_block_183 3 rfl ?_
        refine tl_iload (pc := 185) C d_M_block_185 4 rfl ?_
        refine tl_iadd (pc := 187) C d_M_block_187 ?_
        obtain ⟨hi, hw⟩ := hw
        refine rM_ald0 (pc := 188) (f := (A 0)) C rfl hi d_M_block_188 ?_
        refine tl_aload_n (pc := 189) C d_M_block_189 rfl 0 rfl ?_
        refine gM_M_17 (pc := 190) C d_M_block_190 ?_
        refine tl_iconst (pc := 193) (v := 2) C d_M_block_193 (by decide) ?_
        refine tl_iload (pc := 194) C d_M_block_194 4 rfl ?_
        refine tl_iadd (pc := 196) C d_M_block_196 ?_
        obtain ⟨hi, hw⟩ := hw
        refine rM_ald1 (pc := 197) (f := (A 1)) C rfl hi d_M_block_197 ?_
        refine tl_icmp_eq (pc := 198) (tgt := 204) C d_M_block_198 rfl (fun hc => ?_) (fun hc => ?_)
        · have hw := hw.1 hc
          refine tl_iinc (pc := 204) (lv' := [(5, .int (x5 + (1 : Int32))), (0, .ref (q 0)), (1, .int x1), (2, .int x2), (4, .int x4)]) C d_M_block_204 (by decide) 4 rfl rfl (by decide) rfl ?_
          refine tl_goto (pc := 207) (tgt := 173) C d_M_block_207 rfl ?_
          exact tl_sub [1, 2, 3, 4, 0] rfl (hX173 _ _ _ _ _ _ hw)
        · have hw := hw.2 hc
          refine tl_bipush (pc := 201) (v := 114) C d_M_block_201 (by decide) ?_
          exact tl_iret (pc := 203) C d_M_block_203 hw
    exact hw _ (fun S A x1 x2 x4 x5 hb => key _ (fun _ _ _ _ _ _ h => h) S A x1 x2 x4 x5 hb)
  have B98 : ∀ (S : SS) (A : AA) (x1 x2 x4 x5 : Int32), wM_M_block_98 post S A x1 x2 x4 x5 → tl_At l (tl_R 1) 0 0 (tl_M 0 0 (tl_Qi D (wM q k) (tM k) post)) D (wM q k) 6 z 98 [(0, .ref (q 0)), (1, .int x1), (2, .int x2), (4, .int x4), (5, .int x5)] [] (S, A) := by
    intro S A x1 x2 x4 x5 hw
    have key : ∀ X98 : SS → AA → Int32 → Int32 → Int32 → Int32 → Prop, (∀ (S : SS) (A : AA) (x1 x2 x4 x5 : Int32), X98 S A x1 x2 x4 x5 → tl_At l (tl_R 1) 0 0 (tl_M 0 0 (tl_Qi D (wM q k) (tM k) post)) D (wM q k) 6 z 98 [(0, .ref (q 0)), (1, .int x1), (2, .int x2), (4, .int x4), (5, .int x5)] [] (S, A)) → ∀ (S : SS) (A : AA) (x1 x2 x4 x5 : Int32), wM_M_block_98B post X98 S A x1 x2 x4 x5 → tl_At l (tl_R 1) 0 0 (tl_M 0 0 (tl_Qi D (wM q k) (tM k) post)) D (wM q k) 6 z 98 [(0, .ref (q 0)), (1, .int x1), (2, .int x2), (4, .int x4), (5, .int x5)] [] (S, A) := by
      intro X98 hX98 S A x1 x2 x4 x5 hw
      refine tl_iload (pc := 98) C d_M_block_98 4 rfl ?_
      refine tl_iload_n (pc := 100) C d_M_block_100 rfl 2 rfl ?_
      refine tl_icmp_ge (pc := 101) (tgt := 141) C d_M_block_101 rfl (fun hc => ?_) (fun hc => ?_)
      · have hw := hw.1 hc
        refine tl_aload_n (pc := 141) C d_M_block_141 rfl 0 rfl ?_
        refine kM_M_torn (pc := 142) C hw ml_M_57 d_M_block_142 rfl (fun r142 S142 A142 hw => ?_)
        refine tl_if_eq (pc := 145) (tgt := 150) C d_M_block_145 rfl (fun hc => ?_) (fun hc => ?_)
        · have hw := hw.1 hc
          refine tl_aload_n (pc := 150) C d_M_block_150 rfl 0 rfl ?_
          refine tl_dup (pc := 151) C d_M_block_151 rfl ?_
          refine gM_M_114 (pc := 152) (v := (S142 14)) C rfl d_M_block_152 ?_
          refine tl_iload_n (pc := 155) C d_M_block_155 rfl 2 rfl ?_
          refine tl_iadd (pc := 156) C d_M_block_156 ?_
          refine pM_M_114 (pc := 157) C d_M_block_157 ?_
          refine tl_aload_n (pc := 160) C d_M_block_160 rfl 0 rfl ?_
          refine tl_dup (pc := 161) C d_M_block_161 rfl ?_
          refine gM_M_150 (pc := 162) (v := (S142 15)) C rfl d_M_block_162 ?_
          refine tl_iconst (pc := 165) (v := 1) C d_M_block_165 (by decide) ?_
          refine tl_iadd (pc := 166) C d_M_block_166 ?_
          refine pM_M_150 (pc := 167) C d_M_block_167 ?_
          refine tl_iconst (pc := 170) (v := 0) C d_M_block_170 (by decide) ?_
          refine tl_istore (pc := 171) (lv' := [(5, .int (0 : Int32)), (0, .ref (q 0)), (1, .int x1), (2, .int x2), (4, .int x4)]) C d_M_block_171 (by decide) rfl ?_
          exact tl_sub [1, 2, 3, 4, 0] rfl (B173 _ _ _ _ _ _ hw)
        · have hw := hw.2 hc
          refine tl_iconst (pc := 148) (v := -1) C d_M_block_148 (by decide) ?_
          exact tl_iret (pc := 149) C d_M_block_149 hw
      · have hw := hw.2 hc
        refine tl_aload_n (pc := 104) C d_M_block_104 rfl 0 rfl ?_
        refine tl_iload (pc := 105) C d_M_block_105 3 rfl ?_
        refine tl_iload (pc := 107) C d_M_block_107 4 rfl ?_
        refine tl_iadd (pc := 109) C d_M_block_109 ?_
        refine tl_iload (pc := 110) C d_M_block_110 4 rfl ?_
        refine tl_aload_n (pc := 112) C d_M_block_112 rfl 0 rfl ?_
        refine gM_M_7 (pc := 113) C d_M_block_113 ?_
        refine tl_iload (pc := 116) C d_M_block_116 3 rfl ?_
        refine tl_iload (pc := 118) C d_M_block_118 4 rfl ?_
        refine tl_iadd (pc := 120) C d_M_block_120 ?_
        obtain ⟨hi, hw⟩ := hw
        refine rM_ald0 (pc := 121) (f := (A 0)) C rfl hi d_M_block_121 ?_
        refine tl_aload_n (pc := 122) C d_M_block_122 rfl 0 rfl ?_
        refine gM_M_17 (pc := 123) C d_M_block_123 ?_
        refine tl_iconst (pc := 126) (v := 2) C d_M_block_126 (by decide) ?_
        refine tl_iload (pc := 127) C d_M_block_127 4 rfl ?_
        refine tl_iadd (pc := 129) C d_M_block_129 ?_
        obtain ⟨hi, hw⟩ := hw
        refine rM_ald1 (pc := 130) (f := (A 1)) C rfl hi d_M_block_130 ?_
        refine tl_iand (pc := 131) C d_M_block_131 ?_
        refine kM_M_change (pc := 132) C hw ml_M_53 d_M_block_132 rfl (fun S132 A132 hw => ?_)
        refine tl_iinc (pc := 135) (lv' := [(5, .int (x5 + (1 : Int32))), (0, .ref (q 0)), (1, .int x1), (2, .int x2), (4, .int x4)]) C d_M_block_135 (by decide) 4 rfl rfl (by decide) rfl ?_
        refine tl_goto (pc := 138) (tgt := 98) C d_M_block_138 rfl ?_
        exact tl_sub [1, 2, 3, 4, 0] rfl (hX98 _ _ _ _ _ _ hw)
    exact hw _ (fun S A x1 x2 x4 x5 hb => key _ (fun _ _ _ _ _ _ h => h) S A x1 x2 x4 x5 hb)
  have B48 : ∀ (S : SS) (A : AA) (x1 x2 y0 : Int32), wM_M_block_48 post S A x1 x2 y0 → tl_At l (tl_R 1) 0 0 (tl_M 0 0 (tl_Qi D (wM q k) (tM k) post)) D (wM q k) 6 z 48 [(0, .ref (q 0)), (1, .int x1), (2, .int x2)] [.int y0] (S, A) := by
    intro S A x1 x2 y0 hw
    refine tl_istore_n (pc := 48) (lv' := [(3, .int y0), (0, .ref (q 0)), (1, .int x1), (2, .int x2)]) C d_M_block_48 rfl (by decide) rfl ?_
    refine tl_iload_n (pc := 49) C d_M_block_49 rfl 0 rfl ?_
    refine tl_if_ne (pc := 50) (tgt := 210) C d_M_block_50 rfl (fun hc => ?_) (fun hc => ?_)
    · have hw := hw.1 hc
      exact tl_sub [1, 2] rfl (B210 _ _ _ hw)
    · have hw := hw.2 hc
      refine tl_iload_n (pc := 53) C d_M_block_53 rfl 2 rfl ?_
      refine tl_aload_n (pc := 54) C d_M_block_54 rfl 1 rfl ?_
      refine gM_M_150 (pc := 55) (v := (S 15)) C rfl d_M_block_55 ?_
      refine tl_iconst (pc := 58) (v := 1) C d_M_block_58 (by decide) ?_
      refine tl_iadd (pc := 59) C d_M_block_59 ?_
      refine tl_sipush (pc := 60) (v := 256) C d_M_block_60 (by decide) ?_
      refine tl_irem (pc := 63) C d_M_block_63 (by decide) ?_
      refine tl_icmp_eq (pc := 64) (tgt := 70) C d_M_block_64 rfl (fun hc => ?_) (fun hc => ?_)
      · have hw := hw.1 hc
        refine tl_iload_n (pc := 70) C d_M_block_70 rfl 3 rfl ?_
        refine tl_aload_n (pc := 71) C d_M_block_71 rfl 1 rfl ?_
        refine kM_M_toCome (pc := 72) C hw ml_M_153 d_M_block_72 rfl (fun r72 S72 A72 hw => ?_)
        refine tl_icmp_le (pc := 75) (tgt := 81) C d_M_block_75 rfl (fun hc => ?_) (fun hc => ?_)
        · have hw := hw.1 hc
          refine tl_bipush (pc := 81) (v := 48) C d_M_block_81 (by decide) ?_
          refine tl_aload_n (pc := 83) C d_M_block_83 rfl 1 rfl ?_
          refine gM_M_13 (pc := 84) (v := (S72 12)) C rfl d_M_block_84 ?_
          refine tl_imul (pc := 87) C d_M_block_87 ?_
          refine tl_aload_n (pc := 88) C d_M_block_88 rfl 1 rfl ?_
          refine gM_M_114 (pc := 89) (v := (S72 14)) C rfl d_M_block_89 ?_
          refine tl_iadd (pc := 92) C d_M_block_92 ?_
          refine tl_istore (pc := 93) (lv' := [(4, .int (((48 : Int32) * (S72 12)) + (S72 14))), (3, .int y0), (0, .ref (q 0)), (1, .int x1), (2, .int x2)]) C d_M_block_93 (by decide) rfl ?_
          refine tl_iconst (pc := 95) (v := 0) C d_M_block_95 (by decide) ?_
          refine tl_istore (pc := 96) (lv' := [(5, .int (0 : Int32)), (4, .int (((48 : Int32) * (S72 12)) + (S72 14))), (3, .int y0), (0, .ref (q 0)), (1, .int x1), (2, .int x2)]) C d_M_block_96 (by decide) rfl ?_
          exact tl_sub [3, 4, 5, 1, 0] rfl (B98 _ _ _ _ _ _ hw)
        · have hw := hw.2 hc
          refine tl_bipush (pc := 78) (v := 49) C d_M_block_78 (by decide) ?_
          exact tl_iret (pc := 80) C d_M_block_80 hw
      · have hw := hw.2 hc
        refine tl_bipush (pc := 67) (v := 115) C d_M_block_67 (by decide) ?_
        exact tl_iret (pc := 69) C d_M_block_69 hw
  have B47 : ∀ (S : SS) (A : AA) (x1 x2 : Int32), wM_M_block_47 post S A x1 x2 → tl_At l (tl_R 1) 0 0 (tl_M 0 0 (tl_Qi D (wM q k) (tM k) post)) D (wM q k) 6 z 47 [(0, .ref (q 0)), (1, .int x1), (2, .int x2)] [] (S, A) := by
    intro S A x1 x2 hw
    refine tl_iconst (pc := 47) (v := 0) C d_M_block_47 (by decide) ?_
    exact tl_sub [0, 1, 2] rfl (B48 _ _ _ _ _ hw)
  refine tl_aload_n (pc := 0) C d_M_block_0 rfl 0 rfl ?_
  refine gM_M_17 (pc := 1) C d_M_block_1 ?_
  refine tl_iconst (pc := 4) (v := 1) C d_M_block_4 (by decide) ?_
  obtain ⟨hi, hw⟩ := hw
  refine rM_ald1 (pc := 5) (f := (A 1)) C rfl hi d_M_block_5 ?_
  refine tl_istore_n (pc := 6) (lv' := [(1, .int ((A 1) (1 : Int32).toNatClampNeg)), (0, .ref (q 0))]) C d_M_block_6 rfl (by decide) rfl ?_
  refine tl_aload_n (pc := 7) C d_M_block_7 rfl 1 rfl ?_
  refine gM_M_102 (pc := 8) (v := (S 17)) C rfl d_M_block_8 ?_
  refine tl_iconst (pc := 11) (v := 2) C d_M_block_11 (by decide) ?_
  refine tl_isub (pc := 12) C d_M_block_12 ?_
  refine tl_istore_n (pc := 13) (lv' := [(2, .int ((S 17) - (2 : Int32))), (1, .int ((A 1) (1 : Int32).toNatClampNeg)), (0, .ref (q 0))]) C d_M_block_13 rfl (by decide) rfl ?_
  refine tl_aload_n (pc := 14) C d_M_block_14 rfl 2 rfl ?_
  refine kM_M_toCome (pc := 15) C hw ml_M_153 d_M_block_15 rfl (fun r15 S15 A15 hw => ?_)
  refine tl_if_gt (pc := 18) (tgt := 24) C d_M_block_18 rfl (fun hc => ?_) (fun hc => ?_)
  · have hw := hw.1 hc
    refine tl_aload_n (pc := 24) C d_M_block_24 rfl 2 rfl ?_
    refine gM_M_150 (pc := 25) (v := (S15 15)) C rfl d_M_block_25 ?_
    refine tl_if_le (pc := 28) (tgt := 47) C d_M_block_28 rfl (fun hc => ?_) (fun hc => ?_)
    · have hw := hw.1 hc
      exact tl_sub [2, 1, 0] rfl (B47 _ _ _ _ hw)
    · have hw := hw.2 hc
      refine tl_iload_n (pc := 31) C d_M_block_31 rfl 1 rfl ?_
      refine tl_aload_n (pc := 32) C d_M_block_32 rfl 2 rfl ?_
      refine gM_M_150 (pc := 33) (v := (S15 15)) C rfl d_M_block_33 ?_
      refine tl_sipush (pc := 36) (v := 256) C d_M_block_36 (by decide) ?_
      refine tl_irem (pc := 39) C d_M_block_39 (by decide) ?_
      refine tl_icmp_ne (pc := 40) (tgt := 47) C d_M_block_40 rfl (fun hc => ?_) (fun hc => ?_)
      · have hw := hw.1 hc
        exact tl_sub [2, 1, 0] rfl (B47 _ _ _ _ hw)
      · have hw := hw.2 hc
        refine tl_iconst (pc := 43) (v := 1) C d_M_block_43 (by decide) ?_
        refine tl_goto (pc := 44) (tgt := 48) C d_M_block_44 rfl ?_
        exact tl_sub [2, 1, 0] rfl (B48 _ _ _ _ _ hw)
  · have hw := hw.2 hc
    refine tl_bipush (pc := 21) (v := 36) C d_M_block_21 (by decide) ?_
    exact tl_iret (pc := 23) C d_M_block_23 hw
theorem kM_M_block {l : Launch} {R : Room} {nc ns : Nat} {Q : tl_Z → State → Prop} {D : va_G} {q : Nat → Nat} {k : Nat → ClassId} {nL : Nat} {z : tl_Z} {cc : ByteArray} {ret : Option FieldType} {pc : Nat} {lv : List (Nat × Value)} {rest : List Value} {S : SS} {A : AA} {own : String} {idx : Nat} {post : Int32 → SS → AA → Prop} (C : tl_Cx cc nL own ret D (tM k) z) (hw : wM_M_block post S A) (hl : Cond.methodLink own idx y_M_block ∈ wsAll) (hdg : decode cc pc = .ok (.invokevirtual idx, 3)) (hf : tl_fit R (tl_R 1) nc ns 6 rest = true) (kk : ∀ (r : Int32) (S1 : SS) (A1 : AA), post r S1 A1 → tl_At l R nc ns Q D (wM q k) nL z (pc + 3) lv (.int r :: rest) (S1, A1)) : tl_At l R nc ns Q D (wM q k) nL z pc lv (.ref (q 0) :: rest) (S, A) :=
  tl_callVi (n := 0) (As := []) (b := q 0) (q0 := 0) (ci := 7) C (fun sz => cM_M_block l D q k sz S A hw) in_758 in_8 in_757 ip_56 (by decide +kernel) rfl ⟨rfl, rfl⟩ rfl rfl hl hf hdg kk
set_option maxHeartbeats 4000000 in
set_option maxRecDepth 100000 in
theorem cM_M_download (l : Launch) (D : va_G) (q : Nat → Nat) (k : Nat → ClassId) (sz : Nat) (S : SS) (A : AA) {post : Int32 → SS → AA → Prop} (hw : wM_M_download post S A) : tl_Met l y_M_download b_M_download 3 (some .int) (tl_R 1) D (wM q k) (tM k) sz [.ref (q 0)] (S, A) (tl_Qi D (wM q k) (tM k) post) := by
  refine tl_met (own := R_M) (lv := [(0, .ref (q 0))]) (by decide) rfl rfl (Nat.le_of_ble_eq_true rfl) (fun z C => ?_)
  refine tl_aload_n (pc := 0) C d_M_download_0 rfl 0 rfl ?_
  refine gM_M_17 (pc := 1) C d_M_download_1 ?_
  refine tl_iconst (pc := 4) (v := 1) C d_M_download_4 (by decide) ?_
  obtain ⟨hi, hw⟩ := hw
  refine rM_ald1 (pc := 5) (f := (A 1)) C rfl hi d_M_download_5 ?_
  refine tl_istore_n (pc := 6) (lv' := [(1, .int ((A 1) (1 : Int32).toNatClampNeg)), (0, .ref (q 0))]) C d_M_download_6 rfl (by decide) rfl ?_
  refine tl_aload_n (pc := 7) C d_M_download_7 rfl 1 rfl ?_
  refine gM_M_17 (pc := 8) C d_M_download_8 ?_
  refine tl_iconst (pc := 11) (v := 2) C d_M_download_11 (by decide) ?_
  obtain ⟨hi, hw⟩ := hw
  refine rM_ald1 (pc := 12) (f := (A 1)) C rfl hi d_M_download_12 ?_
  refine tl_istore_n (pc := 13) (lv' := [(2, .int ((A 1) (2 : Int32).toNatClampNeg)), (1, .int ((A 1) (1 : Int32).toNatClampNeg)), (0, .ref (q 0))]) C d_M_download_13 rfl (by decide) rfl ?_
  refine tl_iload_n (pc := 14) C d_M_download_14 rfl 1 rfl ?_
  refine tl_iconst (pc := 15) (v := 1) C d_M_download_15 (by decide) ?_
  refine tl_icmp_gt (pc := 16) (tgt := 30) C d_M_download_16 rfl (fun hc => ?_) (fun hc => ?_)
  · have hw := hw.1 hc
    refine tl_bipush (pc := 30) (v := 49) C d_M_download_30 (by decide) ?_
    exact tl_iret (pc := 32) C d_M_download_32 hw
  · have hw := hw.2 hc
    refine tl_iload_n (pc := 19) C d_M_download_19 rfl 0 rfl ?_
    refine tl_iconst (pc := 20) (v := 1) C d_M_download_20 (by decide) ?_
    refine tl_icmp_lt (pc := 21) (tgt := 30) C d_M_download_21 rfl (fun hc => ?_) (fun hc => ?_)
    · have hw := hw.1 hc
      refine tl_bipush (pc := 30) (v := 49) C d_M_download_30 (by decide) ?_
      exact tl_iret (pc := 32) C d_M_download_32 hw
    · have hw := hw.2 hc
      refine tl_iload_n (pc := 24) C d_M_download_24 rfl 0 rfl ?_
      refine tl_bipush (pc := 25) (v := 32) C d_M_download_25 (by decide) ?_
      refine tl_icmp_le (pc := 27) (tgt := 33) C d_M_download_27 rfl (fun hc => ?_) (fun hc => ?_)
      · have hw := hw.1 hc
        refine tl_iload_n (pc := 33) C d_M_download_33 rfl 1 rfl ?_
        refine tl_aload_n (pc := 34) C d_M_download_34 rfl 2 rfl ?_
        refine gM_M_65 (pc := 35) (v := (S 2)) C rfl d_M_download_35 ?_
        refine tl_icmp_ne (pc := 38) (tgt := 44) C d_M_download_38 rfl (fun hc => ?_) (fun hc => ?_)
        · have hw := hw.1 hc
          refine tl_aload_n (pc := 44) C d_M_download_44 rfl 2 rfl ?_
          refine tl_iload_n (pc := 45) C d_M_download_45 rfl 1 rfl ?_
          refine pM_M_13 (pc := 46) C d_M_download_46 ?_
          refine tl_aload_n (pc := 49) C d_M_download_49 rfl 2 rfl ?_
          refine tl_iload_n (pc := 50) C d_M_download_50 rfl 0 rfl ?_
          refine pM_M_111 (pc := 51) C d_M_download_51 ?_
          refine tl_aload_n (pc := 54) C d_M_download_54 rfl 2 rfl ?_
          refine tl_iconst (pc := 55) (v := 0) C d_M_download_55 (by decide) ?_
          refine pM_M_114 (pc := 56) C d_M_download_56 ?_
          refine tl_aload_n (pc := 59) C d_M_download_59 rfl 2 rfl ?_
          refine tl_iconst (pc := 60) (v := 0) C d_M_download_60 (by decide) ?_
          refine pM_M_150 (pc := 61) C d_M_download_61 ?_
          refine tl_aload_n (pc := 64) C d_M_download_64 rfl 2 rfl ?_
          refine tl_iconst (pc := 65) (v := -1) C d_M_download_65 (by decide) ?_
          refine pM_M_78 (pc := 66) C d_M_download_66 ?_
          refine tl_aload_n (pc := 69) C d_M_download_69 rfl 2 rfl ?_
          refine tl_bipush (pc := 70) (v := 116) C d_M_download_70 (by decide) ?_
          refine kM_M_add (pc := 72) C hw ml_M_138 d_M_download_72 rfl (fun S72 A72 hw => ?_)
          refine tl_aload_n (pc := 75) C d_M_download_75 rfl 2 rfl ?_
          refine tl_bipush (pc := 76) (v := 8) C d_M_download_76 (by decide) ?_
          refine kM_M_add (pc := 78) C hw ml_M_138 d_M_download_78 rfl (fun S78 A78 hw => ?_)
          refine tl_iconst (pc := 81) (v := 0) C d_M_download_81 (by decide) ?_
          exact tl_iret (pc := 82) C d_M_download_82 hw
        · have hw := hw.2 hc
          refine tl_bipush (pc := 41) (v := 34) C d_M_download_41 (by decide) ?_
          exact tl_iret (pc := 43) C d_M_download_43 hw
      · have hw := hw.2 hc
        refine tl_bipush (pc := 30) (v := 49) C d_M_download_30 (by decide) ?_
        exact tl_iret (pc := 32) C d_M_download_32 hw
theorem kM_M_download {l : Launch} {R : Room} {nc ns : Nat} {Q : tl_Z → State → Prop} {D : va_G} {q : Nat → Nat} {k : Nat → ClassId} {nL : Nat} {z : tl_Z} {cc : ByteArray} {ret : Option FieldType} {pc : Nat} {lv : List (Nat × Value)} {rest : List Value} {S : SS} {A : AA} {own : String} {idx : Nat} {post : Int32 → SS → AA → Prop} (C : tl_Cx cc nL own ret D (tM k) z) (hw : wM_M_download post S A) (hl : Cond.methodLink own idx y_M_download ∈ wsAll) (hdg : decode cc pc = .ok (.invokevirtual idx, 3)) (hf : tl_fit R (tl_R 1) nc ns 3 rest = true) (kk : ∀ (r : Int32) (S1 : SS) (A1 : AA), post r S1 A1 → tl_At l R nc ns Q D (wM q k) nL z (pc + 3) lv (.int r :: rest) (S1, A1)) : tl_At l R nc ns Q D (wM q k) nL z pc lv (.ref (q 0) :: rest) (S, A) :=
  tl_callVi (n := 0) (As := []) (b := q 0) (q0 := 0) (ci := 7) C (fun sz => cM_M_download l D q k sz S A hw) in_754 in_8 in_753 ip_55 (by decide +kernel) rfl ⟨rfl, rfl⟩ rfl rfl hl hf hdg kk
set_option maxHeartbeats 4000000 in
set_option maxRecDepth 100000 in
theorem cM_M_leave (l : Launch) (D : va_G) (q : Nat → Nat) (k : Nat → ClassId) (sz : Nat) (S : SS) (A : AA) {post : Int32 → SS → AA → Prop} (hw : wM_M_leave post S A) : tl_Met l y_M_leave b_M_leave 1 (some .int) (tl_R 1) D (wM q k) (tM k) sz [.ref (q 0)] (S, A) (tl_Qi D (wM q k) (tM k) post) := by
  refine tl_met (own := R_M) (lv := [(0, .ref (q 0))]) (by decide) rfl rfl (Nat.le_of_ble_eq_true rfl) (fun z C => ?_)
  refine tl_aload_n (pc := 0) C d_M_leave_0 rfl 0 rfl ?_
  refine kM_M_toCome (pc := 1) C hw ml_M_153 d_M_leave_1 rfl (fun r1 S1 A1 hw => ?_)
  refine tl_if_eq (pc := 4) (tgt := 10) C d_M_leave_4 rfl (fun hc => ?_) (fun hc => ?_)
  · have hw := hw.1 hc
    refine tl_aload_n (pc := 10) C d_M_leave_10 rfl 0 rfl ?_
    refine tl_iconst (pc := 11) (v := -1) C d_M_leave_11 (by decide) ?_
    refine pM_M_13 (pc := 12) C d_M_leave_12 ?_
    refine tl_aload_n (pc := 15) C d_M_leave_15 rfl 0 rfl ?_
    refine tl_bipush (pc := 16) (v := 119) C d_M_leave_16 (by decide) ?_
    refine kM_M_add (pc := 18) C hw ml_M_138 d_M_leave_18 rfl (fun S18 A18 hw => ?_)
    refine tl_iconst (pc := 21) (v := 0) C d_M_leave_21 (by decide) ?_
    exact tl_iret (pc := 22) C d_M_leave_22 hw
  · have hw := hw.2 hc
    refine tl_bipush (pc := 7) (v := 36) C d_M_leave_7 (by decide) ?_
    exact tl_iret (pc := 9) C d_M_leave_9 hw
theorem kM_M_leave {l : Launch} {R : Room} {nc ns : Nat} {Q : tl_Z → State → Prop} {D : va_G} {q : Nat → Nat} {k : Nat → ClassId} {nL : Nat} {z : tl_Z} {cc : ByteArray} {ret : Option FieldType} {pc : Nat} {lv : List (Nat × Value)} {rest : List Value} {S : SS} {A : AA} {own : String} {idx : Nat} {post : Int32 → SS → AA → Prop} (C : tl_Cx cc nL own ret D (tM k) z) (hw : wM_M_leave post S A) (hl : Cond.methodLink own idx y_M_leave ∈ wsAll) (hdg : decode cc pc = .ok (.invokevirtual idx, 3)) (hf : tl_fit R (tl_R 1) nc ns 1 rest = true) (kk : ∀ (r : Int32) (S1 : SS) (A1 : AA), post r S1 A1 → tl_At l R nc ns Q D (wM q k) nL z (pc + 3) lv (.int r :: rest) (S1, A1)) : tl_At l R nc ns Q D (wM q k) nL z pc lv (.ref (q 0) :: rest) (S, A) :=
  tl_callVi (n := 0) (As := []) (b := q 0) (q0 := 0) (ci := 7) C (fun sz => cM_M_leave l D q k sz S A hw) in_766 in_8 in_765 ip_58 (by decide +kernel) rfl ⟨rfl, rfl⟩ rfl rfl hl hf hdg kk
set_option maxHeartbeats 4000000 in
set_option maxRecDepth 100000 in
theorem cM_M_readData (l : Launch) (D : va_G) (q : Nat → Nat) (k : Nat → ClassId) (sz : Nat) (S : SS) (A : AA) {post : Int32 → SS → AA → Prop} (hw : wM_M_readData post S A) : tl_Met l y_M_readData b_M_readData 3 (some .int) (tl_R 1) D (wM q k) (tM k) sz [.ref (q 0)] (S, A) (tl_Qi D (wM q k) (tM k) post) := by
  refine tl_met (own := R_M) (lv := [(0, .ref (q 0))]) (by decide) rfl rfl (Nat.le_of_ble_eq_true rfl) (fun z C => ?_)
  have B68 : ∀ (S : SS) (A : AA) (x1 x2 : Int32), wM_M_readData_68 post S A x1 x2 → tl_At l (tl_R 1) 0 0 (tl_M 0 0 (tl_Qi D (wM q k) (tM k) post)) D (wM q k) 3 z 68 [(0, .ref (q 0)), (1, .int x1), (2, .int x2)] [] (S, A) := by
    intro S A x1 x2 hw
    have key : ∀ X68 : SS → AA → Int32 → Int32 → Prop, (∀ (S : SS) (A : AA) (x1 x2 : Int32), X68 S A x1 x2 → tl_At l (tl_R 1) 0 0 (tl_M 0 0 (tl_Qi D (wM q k) (tM k) post)) D (wM q k) 3 z 68 [(0, .ref (q 0)), (1, .int x1), (2, .int x2)] [] (S, A)) → ∀ (S : SS) (A : AA) (x1 x2 : Int32), wM_M_readData_68B post X68 S A x1 x2 → tl_At l (tl_R 1) 0 0 (tl_M 0 0 (tl_Qi D (wM q k) (tM k) post)) D (wM q k) 3 z 68 [(0, .ref (q 0)), (1, .int x1), (2, .int x2)] [] (S, A) := by
      intro X68 hX68 S A x1 x2 hw
      refine tl_iload_n (pc := 68) C d_M_readData_68 rfl 2 rfl ?_
      refine tl_bipush (pc := 69) (v := 8) C d_M_readData_69 (by decide) ?_
      refine tl_icmp_ge (pc := 71) (tgt := 103) C d_M_readData_71 rfl (fun hc => ?_) (fun hc => ?_)
      · have hw := hw.1 hc
        refine tl_iconst (pc := 103) (v := 0) C d_M_readData_103 (by decide) ?_
        exact tl_iret (pc := 104) C d_M_readData_104 hw
      · have hw := hw.2 hc
        refine tl_iload_n (pc := 74) C d_M_readData_74 rfl 1 rfl ?_
        refine tl_iconst (pc := 75) (v := 2) C d_M_readData_75 (by decide) ?_
        refine tl_icmp_ne (pc := 76) (tgt := 103) C d_M_readData_76 rfl (fun hc => ?_) (fun hc => ?_)
        · have hw := hw.1 hc
          refine tl_iconst (pc := 103) (v := 0) C d_M_readData_103 (by decide) ?_
          exact tl_iret (pc := 104) C d_M_readData_104 hw
        · have hw := hw.2 hc
          refine tl_aload_n (pc := 79) C d_M_readData_79 rfl 0 rfl ?_
          refine tl_aload_n (pc := 80) C d_M_readData_80 rfl 0 rfl ?_
          refine gM_M_7 (pc := 81) C d_M_readData_81 ?_
          refine tl_bipush (pc := 84) (v := 48) C d_M_readData_84 (by decide) ?_
          refine tl_aload_n (pc := 86) C d_M_readData_86 rfl 0 rfl ?_
          refine gM_M_65 (pc := 87) (v := (S 2)) C rfl d_M_readData_87 ?_
          refine tl_imul (pc := 90) C d_M_readData_90 ?_
          refine tl_iload_n (pc := 91) C d_M_readData_91 rfl 2 rfl ?_
          refine tl_iadd (pc := 92) C d_M_readData_92 ?_
          obtain ⟨hi, hw⟩ := hw
          refine rM_ald0 (pc := 93) (f := (A 0)) C rfl hi d_M_readData_93 ?_
          refine kM_M_add (pc := 94) C hw ml_M_138 d_M_readData_94 rfl (fun S94 A94 hw => ?_)
          refine tl_iinc (pc := 97) (lv' := [(2, .int (x2 + (1 : Int32))), (0, .ref (q 0)), (1, .int x1)]) C d_M_readData_97 (by decide) 2 rfl rfl (by decide) rfl ?_
          refine tl_goto (pc := 100) (tgt := 68) C d_M_readData_100 rfl ?_
          exact tl_sub [1, 2, 0] rfl (hX68 _ _ _ _ hw)
    exact hw _ (fun S A x1 x2 hb => key _ (fun _ _ _ _ h => h) S A x1 x2 hb)
  have B66 : ∀ (S : SS) (A : AA) (x1 : Int32), wM_M_readData_66 post S A x1 → tl_At l (tl_R 1) 0 0 (tl_M 0 0 (tl_Qi D (wM q k) (tM k) post)) D (wM q k) 3 z 66 [(0, .ref (q 0)), (1, .int x1)] [] (S, A) := by
    intro S A x1 hw
    refine tl_iconst (pc := 66) (v := 0) C d_M_readData_66 (by decide) ?_
    refine tl_istore_n (pc := 67) (lv' := [(2, .int (0 : Int32)), (0, .ref (q 0)), (1, .int x1)]) C d_M_readData_67 rfl (by decide) rfl ?_
    exact tl_sub [1, 2, 0] rfl (B68 _ _ _ _ hw)
  have B53 : ∀ (S : SS) (A : AA) (x1 : Int32), wM_M_readData_53 post S A x1 → tl_At l (tl_R 1) 0 0 (tl_M 0 0 (tl_Qi D (wM q k) (tM k) post)) D (wM q k) 3 z 53 [(0, .ref (q 0)), (1, .int x1)] [] (S, A) := by
    intro S A x1 hw
    refine tl_iload_n (pc := 53) C d_M_readData_53 rfl 1 rfl ?_
    refine tl_iconst (pc := 54) (v := 1) C d_M_readData_54 (by decide) ?_
    refine tl_icmp_ne (pc := 55) (tgt := 66) C d_M_readData_55 rfl (fun hc => ?_) (fun hc => ?_)
    · have hw := hw.1 hc
      exact tl_sub [0, 1] rfl (B66 _ _ _ hw)
    · have hw := hw.2 hc
      refine tl_aload_n (pc := 58) C d_M_readData_58 rfl 0 rfl ?_
      refine tl_aload_n (pc := 59) C d_M_readData_59 rfl 0 rfl ?_
      refine gM_M_87 (pc := 60) (v := (S 6)) C rfl d_M_readData_60 ?_
      refine kM_M_add (pc := 63) C hw ml_M_138 d_M_readData_63 rfl (fun S63 A63 hw => ?_)
      exact tl_sub [0, 1] rfl (B66 _ _ _ hw)
  have B30 : ∀ (S : SS) (A : AA) (x1 : Int32), wM_M_readData_30 post S A x1 → tl_At l (tl_R 1) 0 0 (tl_M 0 0 (tl_Qi D (wM q k) (tM k) post)) D (wM q k) 3 z 30 [(0, .ref (q 0)), (1, .int x1)] [] (S, A) := by
    intro S A x1 hw
    refine tl_aload_n (pc := 30) C d_M_readData_30 rfl 0 rfl ?_
    refine tl_bipush (pc := 31) (v := 98) C d_M_readData_31 (by decide) ?_
    refine kM_M_add (pc := 33) C hw ml_M_138 d_M_readData_33 rfl (fun S33 A33 hw => ?_)
    refine tl_aload_n (pc := 36) C d_M_readData_36 rfl 0 rfl ?_
    refine tl_iload_n (pc := 37) C d_M_readData_37 rfl 1 rfl ?_
    refine kM_M_add (pc := 38) C hw ml_M_138 d_M_readData_38 rfl (fun S38 A38 hw => ?_)
    refine tl_iload_n (pc := 41) C d_M_readData_41 rfl 1 rfl ?_
    refine tl_if_ne (pc := 42) (tgt := 53) C d_M_readData_42 rfl (fun hc => ?_) (fun hc => ?_)
    · have hw := hw.1 hc
      exact tl_sub [0, 1] rfl (B53 _ _ _ hw)
    · have hw := hw.2 hc
      refine tl_aload_n (pc := 45) C d_M_readData_45 rfl 0 rfl ?_
      refine tl_aload_n (pc := 46) C d_M_readData_46 rfl 0 rfl ?_
      refine gM_M_65 (pc := 47) (v := (S38 2)) C rfl d_M_readData_47 ?_
      refine kM_M_add (pc := 50) C hw ml_M_138 d_M_readData_50 rfl (fun S50 A50 hw => ?_)
      exact tl_sub [0, 1] rfl (B53 _ _ _ hw)
  refine tl_aload_n (pc := 0) C d_M_readData_0 rfl 0 rfl ?_
  refine gM_M_17 (pc := 1) C d_M_readData_1 ?_
  refine tl_iconst (pc := 4) (v := 1) C d_M_readData_4 (by decide) ?_
  obtain ⟨hi, hw⟩ := hw
  refine rM_ald1 (pc := 5) (f := (A 1)) C rfl hi d_M_readData_5 ?_
  refine tl_istore_n (pc := 6) (lv' := [(1, .int ((A 1) (1 : Int32).toNatClampNeg)), (0, .ref (q 0))]) C d_M_readData_6 rfl (by decide) rfl ?_
  refine tl_iload_n (pc := 7) C d_M_readData_7 rfl 0 rfl ?_
  refine tl_iconst (pc := 8) (v := 2) C d_M_readData_8 (by decide) ?_
  refine tl_icmp_le (pc := 9) (tgt := 15) C d_M_readData_9 rfl (fun hc => ?_) (fun hc => ?_)
  · have hw := hw.1 hc
    refine tl_iload_n (pc := 15) C d_M_readData_15 rfl 0 rfl ?_
    refine tl_iconst (pc := 16) (v := 1) C d_M_readData_16 (by decide) ?_
    refine tl_icmp_eq (pc := 17) (tgt := 30) C d_M_readData_17 rfl (fun hc => ?_) (fun hc => ?_)
    · have hw := hw.1 hc
      exact tl_sub [1, 0] rfl (B30 _ _ _ hw)
    · have hw := hw.2 hc
      refine tl_aload_n (pc := 20) C d_M_readData_20 rfl 1 rfl ?_
      refine gM_M_65 (pc := 21) (v := (S 2)) C rfl d_M_readData_21 ?_
      refine tl_if_ge (pc := 24) (tgt := 30) C d_M_readData_24 rfl (fun hc => ?_) (fun hc => ?_)
      · have hw := hw.1 hc
        exact tl_sub [1, 0] rfl (B30 _ _ _ hw)
      · have hw := hw.2 hc
        refine tl_bipush (pc := 27) (v := 34) C d_M_readData_27 (by decide) ?_
        exact tl_iret (pc := 29) C d_M_readData_29 hw
  · have hw := hw.2 hc
    refine tl_bipush (pc := 12) (v := 49) C d_M_readData_12 (by decide) ?_
    exact tl_iret (pc := 14) C d_M_readData_14 hw
theorem kM_M_readData {l : Launch} {R : Room} {nc ns : Nat} {Q : tl_Z → State → Prop} {D : va_G} {q : Nat → Nat} {k : Nat → ClassId} {nL : Nat} {z : tl_Z} {cc : ByteArray} {ret : Option FieldType} {pc : Nat} {lv : List (Nat × Value)} {rest : List Value} {S : SS} {A : AA} {own : String} {idx : Nat} {post : Int32 → SS → AA → Prop} (C : tl_Cx cc nL own ret D (tM k) z) (hw : wM_M_readData post S A) (hl : Cond.methodLink own idx y_M_readData ∈ wsAll) (hdg : decode cc pc = .ok (.invokevirtual idx, 3)) (hf : tl_fit R (tl_R 1) nc ns 3 rest = true) (kk : ∀ (r : Int32) (S1 : SS) (A1 : AA), post r S1 A1 → tl_At l R nc ns Q D (wM q k) nL z (pc + 3) lv (.int r :: rest) (S1, A1)) : tl_At l R nc ns Q D (wM q k) nL z pc lv (.ref (q 0) :: rest) (S, A) :=
  tl_callVi (n := 0) (As := []) (b := q 0) (q0 := 0) (ci := 7) C (fun sz => cM_M_readData l D q k sz S A hw) in_722 in_8 in_721 ip_47 (by decide +kernel) rfl ⟨rfl, rfl⟩ rfl rfl hl hf hdg kk
set_option maxHeartbeats 4000000 in
set_option maxRecDepth 100000 in
theorem cM_M_activate (l : Launch) (D : va_G) (q : Nat → Nat) (k : Nat → ClassId) (sz : Nat) (S : SS) (A : AA) (x1 : Int32) {post : Int32 → SS → AA → Prop} (hw : wM_M_activate post S A x1) : tl_Met l y_M_activate b_M_activate 6 (some .int) (tl_R 3) D (wM q k) (tM k) sz [.ref (q 0), .int x1] (S, A) (tl_Qi D (wM q k) (tM k) post) := by
  refine tl_met (own := R_M) (lv := [(0, .ref (q 0)), (1, .int x1)]) (by decide) rfl rfl (Nat.le_of_ble_eq_true rfl) (fun z C => ?_)
  have B50 : ∀ (S : SS) (A : AA) (x1 y0 : Int32), wM_M_activate_50 post S A x1 y0 → tl_At l (tl_R 3) 0 0 (tl_M 0 0 (tl_Qi D (wM q k) (tM k) post)) D (wM q k) 6 z 50 [(0, .ref (q 0)), (1, .int x1)] [.int y0] (S, A) := by
    intro S A x1 y0 hw
    refine tl_istore_n (pc := 50) (lv' := [(3, .int y0), (0, .ref (q 0)), (1, .int x1)]) C d_M_activate_50 rfl (by decide) rfl ?_
    refine tl_aload_n (pc := 51) C d_M_activate_51 rfl 1 rfl ?_
    refine tl_iload_n (pc := 52) C d_M_activate_52 rfl 2 rfl ?_
    refine kM_M_sumOf (pc := 53) C hw ml_M_29 d_M_activate_53 rfl (fun r53 S53 A53 hw => ?_)
    refine tl_istore (pc := 56) (lv' := [(4, .int r53), (3, .int y0), (0, .ref (q 0)), (1, .int x1)]) C d_M_activate_56 (by decide) rfl ?_
    refine tl_bipush (pc := 58) (v := 48) C d_M_activate_58 (by decide) ?_
    refine tl_iload_n (pc := 60) C d_M_activate_60 rfl 3 rfl ?_
    refine tl_imul (pc := 61) C d_M_activate_61 ?_
    refine tl_bipush (pc := 62) (v := 32) C d_M_activate_62 (by decide) ?_
    refine tl_iadd (pc := 64) C d_M_activate_64 ?_
    refine tl_istore (pc := 65) (lv' := [(5, .int (((48 : Int32) * x1) + (32 : Int32))), (4, .int r53), (3, .int y0), (0, .ref (q 0)), (1, .int x1)]) C d_M_activate_65 (by decide) rfl ?_
    refine tl_aload_n (pc := 67) C d_M_activate_67 rfl 3 rfl ?_
    refine tl_iload (pc := 68) C d_M_activate_68 0 rfl ?_
    refine tl_iconst (pc := 70) (v := 1) C d_M_activate_70 (by decide) ?_
    refine tl_iadd (pc := 71) C d_M_activate_71 ?_
    refine tl_iconst (pc := 72) (v := 0) C d_M_activate_72 (by decide) ?_
    refine tl_aload_n (pc := 73) C d_M_activate_73 rfl 3 rfl ?_
    refine gM_M_7 (pc := 74) C d_M_activate_74 ?_
    refine tl_iload (pc := 77) C d_M_activate_77 0 rfl ?_
    refine tl_iconst (pc := 79) (v := 1) C d_M_activate_79 (by decide) ?_
    refine tl_iadd (pc := 80) C d_M_activate_80 ?_
    obtain ⟨hi, hw⟩ := hw
    refine rM_ald0 (pc := 81) (f := (A53 0)) C rfl hi d_M_activate_81 ?_
    refine tl_iload_n (pc := 82) C d_M_activate_82 rfl 2 rfl ?_
    refine tl_iand (pc := 83) C d_M_activate_83 ?_
    refine kM_M_change (pc := 84) C hw ml_M_53 d_M_activate_84 rfl (fun S84 A84 hw => ?_)
    refine tl_aload_n (pc := 87) C d_M_activate_87 rfl 3 rfl ?_
    refine tl_iload (pc := 88) C d_M_activate_88 0 rfl ?_
    refine tl_iconst (pc := 90) (v := 2) C d_M_activate_90 (by decide) ?_
    refine tl_iadd (pc := 91) C d_M_activate_91 ?_
    refine tl_iconst (pc := 92) (v := 1) C d_M_activate_92 (by decide) ?_
    refine tl_aload_n (pc := 93) C d_M_activate_93 rfl 3 rfl ?_
    refine gM_M_7 (pc := 94) C d_M_activate_94 ?_
    refine tl_iload (pc := 97) C d_M_activate_97 0 rfl ?_
    refine tl_iconst (pc := 99) (v := 2) C d_M_activate_99 (by decide) ?_
    refine tl_iadd (pc := 100) C d_M_activate_100 ?_
    obtain ⟨hi, hw⟩ := hw
    refine rM_ald0 (pc := 101) (f := (A84 0)) C rfl hi d_M_activate_101 ?_
    refine tl_iload (pc := 102) C d_M_activate_102 1 rfl ?_
    refine tl_sipush (pc := 104) (v := 256) C d_M_activate_104 (by decide) ?_
    refine tl_idiv (pc := 107) C d_M_activate_107 (by decide) ?_
    refine tl_iand (pc := 108) C d_M_activate_108 ?_
    refine kM_M_change (pc := 109) C hw ml_M_53 d_M_activate_109 rfl (fun S109 A109 hw => ?_)
    refine tl_aload_n (pc := 112) C d_M_activate_112 rfl 3 rfl ?_
    refine tl_iload (pc := 113) C d_M_activate_113 0 rfl ?_
    refine tl_iconst (pc := 115) (v := 3) C d_M_activate_115 (by decide) ?_
    refine tl_iadd (pc := 116) C d_M_activate_116 ?_
    refine tl_iconst (pc := 117) (v := 2) C d_M_activate_117 (by decide) ?_
    refine tl_aload_n (pc := 118) C d_M_activate_118 rfl 3 rfl ?_
    refine gM_M_7 (pc := 119) C d_M_activate_119 ?_
    refine tl_iload (pc := 122) C d_M_activate_122 0 rfl ?_
    refine tl_iconst (pc := 124) (v := 3) C d_M_activate_124 (by decide) ?_
    refine tl_iadd (pc := 125) C d_M_activate_125 ?_
    obtain ⟨hi, hw⟩ := hw
    refine rM_ald0 (pc := 126) (f := (A109 0)) C rfl hi d_M_activate_126 ?_
    refine tl_iload (pc := 127) C d_M_activate_127 1 rfl ?_
    refine tl_sipush (pc := 129) (v := 256) C d_M_activate_129 (by decide) ?_
    refine tl_irem (pc := 132) C d_M_activate_132 (by decide) ?_
    refine tl_iand (pc := 133) C d_M_activate_133 ?_
    refine kM_M_change (pc := 134) C hw ml_M_53 d_M_activate_134 rfl (fun S134 A134 hw => ?_)
    refine tl_aload_n (pc := 137) C d_M_activate_137 rfl 3 rfl ?_
    refine kM_M_torn (pc := 138) C hw ml_M_57 d_M_activate_138 rfl (fun r138 S138 A138 hw => ?_)
    refine tl_if_eq (pc := 141) (tgt := 146) C d_M_activate_141 rfl (fun hc => ?_) (fun hc => ?_)
    · have hw := hw.1 hc
      refine tl_aload_n (pc := 146) C d_M_activate_146 rfl 3 rfl ?_
      refine tl_iload (pc := 147) C d_M_activate_147 0 rfl ?_
      refine tl_iconst (pc := 149) (v := 0) C d_M_activate_149 (by decide) ?_
      refine tl_iconst (pc := 150) (v := 0) C d_M_activate_150 (by decide) ?_
      refine kM_M_change (pc := 151) C hw ml_M_53 d_M_activate_151 rfl (fun S151 A151 hw => ?_)
      refine tl_aload_n (pc := 154) C d_M_activate_154 rfl 3 rfl ?_
      refine kM_M_torn (pc := 155) C hw ml_M_57 d_M_activate_155 rfl (fun r155 S155 A155 hw => ?_)
      refine tl_if_eq (pc := 158) (tgt := 165) C d_M_activate_158 rfl (fun hc => ?_) (fun hc => ?_)
      · have hw := hw.1 hc
        refine tl_iconst (pc := 165) (v := 0) C d_M_activate_165 (by decide) ?_
        exact tl_iret (pc := 166) C d_M_activate_166 hw
      · have hw := hw.2 hc
        refine tl_iconst (pc := 161) (v := -1) C d_M_activate_161 (by decide) ?_
        refine tl_goto (pc := 162) (tgt := 166) C d_M_activate_162 rfl ?_
        exact tl_iret (pc := 166) C d_M_activate_166 hw
    · have hw := hw.2 hc
      refine tl_iconst (pc := 144) (v := -1) C d_M_activate_144 (by decide) ?_
      exact tl_iret (pc := 145) C d_M_activate_145 hw
  refine tl_iload_n (pc := 0) C d_M_activate_0 rfl 1 rfl ?_
  refine tl_aload_n (pc := 1) C d_M_activate_1 rfl 0 rfl ?_
  refine gM_M_65 (pc := 2) (v := (S 2)) C rfl d_M_activate_2 ?_
  refine tl_icmp_eq (pc := 5) (tgt := 16) C d_M_activate_5 rfl (fun hc => ?_) (fun hc => ?_)
  · have hw := hw.1 hc
    refine tl_bipush (pc := 16) (v := 34) C d_M_activate_16 (by decide) ?_
    exact tl_iret (pc := 18) C d_M_activate_18 hw
  · have hw := hw.2 hc
    refine tl_iload_n (pc := 8) C d_M_activate_8 rfl 1 rfl ?_
    refine tl_aload_n (pc := 9) C d_M_activate_9 rfl 0 rfl ?_
    refine gM_M_78 (pc := 10) (v := (S 5)) C rfl d_M_activate_10 ?_
    refine tl_icmp_eq (pc := 13) (tgt := 19) C d_M_activate_13 rfl (fun hc => ?_) (fun hc => ?_)
    · have hw := hw.1 hc
      refine tl_aload_n (pc := 19) C d_M_activate_19 rfl 0 rfl ?_
      refine kM_M_bestSlot (pc := 20) C hw ml_M_61 d_M_activate_20 rfl (fun r20 S20 A20 hw => ?_)
      refine tl_istore_n (pc := 23) (lv' := [(2, .int r20), (0, .ref (q 0)), (1, .int x1)]) C d_M_activate_23 rfl (by decide) rfl ?_
      refine tl_iload_n (pc := 24) C d_M_activate_24 rfl 0 rfl ?_
      refine tl_if_ge (pc := 25) (tgt := 32) C d_M_activate_25 rfl (fun hc => ?_) (fun hc => ?_)
      · have hw := hw.1 hc
        refine tl_aload_n (pc := 32) C d_M_activate_32 rfl 1 rfl ?_
        refine gM_M_7 (pc := 33) C d_M_activate_33 ?_
        refine tl_bipush (pc := 36) (v := 48) C d_M_activate_36 (by decide) ?_
        refine tl_iload_n (pc := 38) C d_M_activate_38 rfl 0 rfl ?_
        refine tl_imul (pc := 39) C d_M_activate_39 ?_
        refine tl_bipush (pc := 40) (v := 33) C d_M_activate_40 (by decide) ?_
        refine tl_iadd (pc := 42) C d_M_activate_42 ?_
        obtain ⟨hi, hw⟩ := hw
        refine rM_ald0 (pc := 43) (f := (A20 0)) C rfl hi d_M_activate_43 ?_
        refine tl_iconst (pc := 44) (v := 1) C d_M_activate_44 (by decide) ?_
        refine tl_iadd (pc := 45) C d_M_activate_45 ?_
        refine tl_sipush (pc := 46) (v := 256) C d_M_activate_46 (by decide) ?_
        refine tl_irem (pc := 49) C d_M_activate_49 (by decide) ?_
        exact tl_sub [1, 2] rfl (B50 _ _ _ _ hw)
      · have hw := hw.2 hc
        refine tl_iconst (pc := 28) (v := 1) C d_M_activate_28 (by decide) ?_
        refine tl_goto (pc := 29) (tgt := 50) C d_M_activate_29 rfl ?_
        exact tl_sub [1, 2] rfl (B50 _ _ _ _ hw)
    · have hw := hw.2 hc
      refine tl_bipush (pc := 16) (v := 34) C d_M_activate_16 (by decide) ?_
      exact tl_iret (pc := 18) C d_M_activate_18 hw
theorem kM_M_activate {l : Launch} {R : Room} {nc ns : Nat} {Q : tl_Z → State → Prop} {D : va_G} {q : Nat → Nat} {k : Nat → ClassId} {nL : Nat} {z : tl_Z} {cc : ByteArray} {ret : Option FieldType} {pc : Nat} {lv : List (Nat × Value)} {rest : List Value} {S : SS} {A : AA} {own : String} {idx : Nat} {x1 : Int32} {post : Int32 → SS → AA → Prop} (C : tl_Cx cc nL own ret D (tM k) z) (hw : wM_M_activate post S A x1) (hl : Cond.methodLink own idx y_M_activate ∈ wsAll) (hdg : decode cc pc = .ok (.invokevirtual idx, 3)) (hf : tl_fit R (tl_R 3) nc ns 6 rest = true) (kk : ∀ (r : Int32) (S1 : SS) (A1 : AA), post r S1 A1 → tl_At l R nc ns Q D (wM q k) nL z (pc + 3) lv (.int r :: rest) (S1, A1)) : tl_At l R nc ns Q D (wM q k) nL z pc lv (.int x1 :: .ref (q 0) :: rest) (S, A) :=
  tl_callVi (n := 1) (As := [.int x1]) (b := q 0) (q0 := 0) (ci := 7) C (fun sz => cM_M_activate l D q k sz S A x1 hw) in_750 in_8 in_749 ip_54 (by decide +kernel) rfl ⟨rfl, rfl⟩ rfl rfl hl hf hdg kk
set_option maxHeartbeats 4000000 in
set_option maxRecDepth 100000 in
theorem cM_M_erase (l : Launch) (D : va_G) (q : Nat → Nat) (k : Nat → ClassId) (sz : Nat) (S : SS) (A : AA) (x1 : Int32) {post : Int32 → SS → AA → Prop} (hw : wM_M_erase post S A x1) : tl_Met l y_M_erase b_M_erase 3 (some .boolean) (tl_R 1) D (wM q k) (tM k) sz [.ref (q 0), .int x1] (S, A) (tl_Qi D (wM q k) (tM k) post) := by
  refine tl_met (own := R_M) (lv := [(0, .ref (q 0)), (1, .int x1)]) (by decide) rfl rfl (Nat.le_of_ble_eq_true rfl) (fun z C => ?_)
  have B2 : ∀ (S : SS) (A : AA) (x1 x2 : Int32), wM_M_erase_2 post S A x1 x2 → tl_At l (tl_R 1) 0 0 (tl_M 0 0 (tl_Qi D (wM q k) (tM k) post)) D (wM q k) 3 z 2 [(0, .ref (q 0)), (1, .int x1), (2, .int x2)] [] (S, A) := by
    intro S A x1 x2 hw
    have key : ∀ X2 : SS → AA → Int32 → Int32 → Prop, (∀ (S : SS) (A : AA) (x1 x2 : Int32), X2 S A x1 x2 → tl_At l (tl_R 1) 0 0 (tl_M 0 0 (tl_Qi D (wM q k) (tM k) post)) D (wM q k) 3 z 2 [(0, .ref (q 0)), (1, .int x1), (2, .int x2)] [] (S, A)) → ∀ (S : SS) (A : AA) (x1 x2 : Int32), wM_M_erase_2B post X2 S A x1 x2 → tl_At l (tl_R 1) 0 0 (tl_M 0 0 (tl_Qi D (wM q k) (tM k) post)) D (wM q k) 3 z 2 [(0, .ref (q 0)), (1, .int x1), (2, .int x2)] [] (S, A) := by
      intro X2 hX2 S A x1 x2 hw
      refine tl_iload_n (pc := 2) C d_M_erase_2 rfl 2 rfl ?_
      refine tl_bipush (pc := 3) (v := 16) C d_M_erase_3 (by decide) ?_
      refine tl_icmp_ge (pc := 5) (tgt := 28) C d_M_erase_5 rfl (fun hc => ?_) (fun hc => ?_)
      · have hw := hw.1 hc
        refine tl_aload_n (pc := 28) C d_M_erase_28 rfl 0 rfl ?_
        refine kM_M_torn (pc := 29) C hw ml_M_57 d_M_erase_29 rfl (fun r29 S29 A29 hw => ?_)
        obtain ⟨hz, hw⟩ := hw
        exact tl_zret (pc := 32) C hz d_M_erase_32 hw
      · have hw := hw.2 hc
        refine tl_aload_n (pc := 8) C d_M_erase_8 rfl 0 rfl ?_
        refine tl_bipush (pc := 9) (v := 16) C d_M_erase_9 (by decide) ?_
        refine tl_iload_n (pc := 11) C d_M_erase_11 rfl 1 rfl ?_
        refine tl_imul (pc := 12) C d_M_erase_12 ?_
        refine tl_iload_n (pc := 13) C d_M_erase_13 rfl 2 rfl ?_
        refine tl_iadd (pc := 14) C d_M_erase_14 ?_
        refine tl_iload_n (pc := 15) C d_M_erase_15 rfl 2 rfl ?_
        refine tl_sipush (pc := 16) (v := 255) C d_M_erase_16 (by decide) ?_
        refine kM_M_change (pc := 19) C hw ml_M_53 d_M_erase_19 rfl (fun S19 A19 hw => ?_)
        refine tl_iinc (pc := 22) (lv' := [(2, .int (x2 + (1 : Int32))), (0, .ref (q 0)), (1, .int x1)]) C d_M_erase_22 (by decide) 2 rfl rfl (by decide) rfl ?_
        refine tl_goto (pc := 25) (tgt := 2) C d_M_erase_25 rfl ?_
        exact tl_sub [1, 2, 0] rfl (hX2 _ _ _ _ hw)
    exact hw _ (fun S A x1 x2 hb => key _ (fun _ _ _ _ h => h) S A x1 x2 hb)
  refine tl_iconst (pc := 0) (v := 0) C d_M_erase_0 (by decide) ?_
  refine tl_istore_n (pc := 1) (lv' := [(2, .int (0 : Int32)), (0, .ref (q 0)), (1, .int x1)]) C d_M_erase_1 rfl (by decide) rfl ?_
  exact tl_sub [1, 2, 0] rfl (B2 _ _ _ _ hw)
theorem kM_M_erase {l : Launch} {R : Room} {nc ns : Nat} {Q : tl_Z → State → Prop} {D : va_G} {q : Nat → Nat} {k : Nat → ClassId} {nL : Nat} {z : tl_Z} {cc : ByteArray} {ret : Option FieldType} {pc : Nat} {lv : List (Nat × Value)} {rest : List Value} {S : SS} {A : AA} {own : String} {idx : Nat} {x1 : Int32} {post : Int32 → SS → AA → Prop} (C : tl_Cx cc nL own ret D (tM k) z) (hw : wM_M_erase post S A x1) (hl : Cond.methodLink own idx y_M_erase ∈ wsAll) (hdg : decode cc pc = .ok (.invokevirtual idx, 3)) (hf : tl_fit R (tl_R 1) nc ns 3 rest = true) (kk : ∀ (r : Int32) (S1 : SS) (A1 : AA), post r S1 A1 → tl_At l R nc ns Q D (wM q k) nL z (pc + 3) lv (.int r :: rest) (S1, A1)) : tl_At l R nc ns Q D (wM q k) nL z pc lv (.int x1 :: .ref (q 0) :: rest) (S, A) :=
  tl_callVi (n := 1) (As := [.int x1]) (b := q 0) (q0 := 0) (ci := 7) C (fun sz => cM_M_erase l D q k sz S A x1 hw) in_738 in_8 in_737 ip_51 (by decide +kernel) rfl ⟨rfl, rfl⟩ rfl rfl hl hf hdg kk
set_option maxHeartbeats 4000000 in
set_option maxRecDepth 100000 in
theorem cM_M_eraseSlot (l : Launch) (D : va_G) (q : Nat → Nat) (k : Nat → ClassId) (sz : Nat) (S : SS) (A : AA) (x1 : Int32) {post : Int32 → SS → AA → Prop} (hw : wM_M_eraseSlot post S A x1) : tl_Met l y_M_eraseSlot b_M_eraseSlot 2 (some .int) (tl_R 2) D (wM q k) (tM k) sz [.ref (q 0), .int x1] (S, A) (tl_Qi D (wM q k) (tM k) post) := by
  refine tl_met (own := R_M) (lv := [(0, .ref (q 0)), (1, .int x1)]) (by decide) rfl rfl (Nat.le_of_ble_eq_true rfl) (fun z C => ?_)
  refine tl_iload_n (pc := 0) C d_M_eraseSlot_0 rfl 1 rfl ?_
  refine tl_aload_n (pc := 1) C d_M_eraseSlot_1 rfl 0 rfl ?_
  refine gM_M_65 (pc := 2) (v := (S 2)) C rfl d_M_eraseSlot_2 ?_
  refine tl_icmp_ne (pc := 5) (tgt := 11) C d_M_eraseSlot_5 rfl (fun hc => ?_) (fun hc => ?_)
  · have hw := hw.1 hc
    refine tl_aload_n (pc := 11) C d_M_eraseSlot_11 rfl 0 rfl ?_
    refine tl_iconst (pc := 12) (v := -1) C d_M_eraseSlot_12 (by decide) ?_
    refine pM_M_78 (pc := 13) C d_M_eraseSlot_13 ?_
    refine tl_aload_n (pc := 16) C d_M_eraseSlot_16 rfl 0 rfl ?_
    refine tl_iconst (pc := 17) (v := 3) C d_M_eraseSlot_17 (by decide) ?_
    refine tl_iload_n (pc := 18) C d_M_eraseSlot_18 rfl 1 rfl ?_
    refine tl_imul (pc := 19) C d_M_eraseSlot_19 ?_
    refine tl_iconst (pc := 20) (v := 2) C d_M_eraseSlot_20 (by decide) ?_
    refine tl_iadd (pc := 21) C d_M_eraseSlot_21 ?_
    refine kM_M_erase (pc := 22) C hw ml_M_141 d_M_eraseSlot_22 rfl (fun r22 S22 A22 hw => ?_)
    refine tl_if_eq (pc := 25) (tgt := 30) C d_M_eraseSlot_25 rfl (fun hc => ?_) (fun hc => ?_)
    · have hw := hw.1 hc
      refine tl_aload_n (pc := 30) C d_M_eraseSlot_30 rfl 0 rfl ?_
      refine tl_iconst (pc := 31) (v := 3) C d_M_eraseSlot_31 (by decide) ?_
      refine tl_iload_n (pc := 32) C d_M_eraseSlot_32 rfl 1 rfl ?_
      refine tl_imul (pc := 33) C d_M_eraseSlot_33 ?_
      refine kM_M_erase (pc := 34) C hw ml_M_141 d_M_eraseSlot_34 rfl (fun r34 S34 A34 hw => ?_)
      refine tl_if_eq (pc := 37) (tgt := 42) C d_M_eraseSlot_37 rfl (fun hc => ?_) (fun hc => ?_)
      · have hw := hw.1 hc
        refine tl_aload_n (pc := 42) C d_M_eraseSlot_42 rfl 0 rfl ?_
        refine tl_iconst (pc := 43) (v := 3) C d_M_eraseSlot_43 (by decide) ?_
        refine tl_iload_n (pc := 44) C d_M_eraseSlot_44 rfl 1 rfl ?_
        refine tl_imul (pc := 45) C d_M_eraseSlot_45 ?_
        refine tl_iconst (pc := 46) (v := 1) C d_M_eraseSlot_46 (by decide) ?_
        refine tl_iadd (pc := 47) C d_M_eraseSlot_47 ?_
        refine kM_M_erase (pc := 48) C hw ml_M_141 d_M_eraseSlot_48 rfl (fun r48 S48 A48 hw => ?_)
        refine tl_if_eq (pc := 51) (tgt := 58) C d_M_eraseSlot_51 rfl (fun hc => ?_) (fun hc => ?_)
        · have hw := hw.1 hc
          refine tl_iconst (pc := 58) (v := 0) C d_M_eraseSlot_58 (by decide) ?_
          exact tl_iret (pc := 59) C d_M_eraseSlot_59 hw
        · have hw := hw.2 hc
          refine tl_iconst (pc := 54) (v := -1) C d_M_eraseSlot_54 (by decide) ?_
          refine tl_goto (pc := 55) (tgt := 59) C d_M_eraseSlot_55 rfl ?_
          exact tl_iret (pc := 59) C d_M_eraseSlot_59 hw
      · have hw := hw.2 hc
        refine tl_iconst (pc := 40) (v := -1) C d_M_eraseSlot_40 (by decide) ?_
        exact tl_iret (pc := 41) C d_M_eraseSlot_41 hw
    · have hw := hw.2 hc
      refine tl_iconst (pc := 28) (v := -1) C d_M_eraseSlot_28 (by decide) ?_
      exact tl_iret (pc := 29) C d_M_eraseSlot_29 hw
  · have hw := hw.2 hc
    refine tl_bipush (pc := 8) (v := 34) C d_M_eraseSlot_8 (by decide) ?_
    exact tl_iret (pc := 10) C d_M_eraseSlot_10 hw
theorem kM_M_eraseSlot {l : Launch} {R : Room} {nc ns : Nat} {Q : tl_Z → State → Prop} {D : va_G} {q : Nat → Nat} {k : Nat → ClassId} {nL : Nat} {z : tl_Z} {cc : ByteArray} {ret : Option FieldType} {pc : Nat} {lv : List (Nat × Value)} {rest : List Value} {S : SS} {A : AA} {own : String} {idx : Nat} {x1 : Int32} {post : Int32 → SS → AA → Prop} (C : tl_Cx cc nL own ret D (tM k) z) (hw : wM_M_eraseSlot post S A x1) (hl : Cond.methodLink own idx y_M_eraseSlot ∈ wsAll) (hdg : decode cc pc = .ok (.invokevirtual idx, 3)) (hf : tl_fit R (tl_R 2) nc ns 2 rest = true) (kk : ∀ (r : Int32) (S1 : SS) (A1 : AA), post r S1 A1 → tl_At l R nc ns Q D (wM q k) nL z (pc + 3) lv (.int r :: rest) (S1, A1)) : tl_At l R nc ns Q D (wM q k) nL z pc lv (.int x1 :: .ref (q 0) :: rest) (S, A) :=
  tl_callVi (n := 1) (As := [.int x1]) (b := q 0) (q0 := 0) (ci := 7) C (fun sz => cM_M_eraseSlot l D q k sz S A x1 hw) in_734 in_8 in_733 ip_50 (by decide +kernel) rfl ⟨rfl, rfl⟩ rfl rfl hl hf hdg kk
set_option maxHeartbeats 4000000 in
set_option maxRecDepth 100000 in
theorem cM_M_routine (l : Launch) (D : va_G) (q : Nat → Nat) (k : Nat → ClassId) (sz : Nat) (S : SS) (A : AA) {post : Int32 → SS → AA → Prop} (hw : wM_M_routine post S A) : tl_Met l y_M_routine b_M_routine 5 (some .int) (tl_R 4) D (wM q k) (tM k) sz [.ref (q 0)] (S, A) (tl_Qi D (wM q k) (tM k) post) := by
  refine tl_met (own := R_M) (lv := [(0, .ref (q 0))]) (by decide) rfl rfl (Nat.le_of_ble_eq_true rfl) (fun z C => ?_)
  have B159 : ∀ (S : SS) (A : AA) (y0 : Int32), wM_M_routine_159 post S A y0 → tl_At l (tl_R 4) 0 0 (tl_M 0 0 (tl_Qi D (wM q k) (tM k) post)) D (wM q k) 5 z 159 [] [.int y0, .ref (q 0)] (S, A) := by
    intro S A y0 hw
    refine kM_M_add (pc := 159) C hw ml_M_138 d_M_routine_159 rfl (fun S159 A159 hw => ?_)
    refine tl_iconst (pc := 162) (v := 0) C d_M_routine_162 (by decide) ?_
    exact tl_iret (pc := 163) C d_M_routine_163 hw
  have B145 : ∀ (S : SS) (A : AA) (x4 y0 : Int32), wM_M_routine_145 post S A x4 y0 → tl_At l (tl_R 4) 0 0 (tl_M 0 0 (tl_Qi D (wM q k) (tM k) post)) D (wM q k) 5 z 145 [(0, .ref (q 0)), (4, .int x4)] [.int y0, .ref (q 0)] (S, A) := by
    intro S A x4 y0 hw
    refine pM_M_78 (pc := 145) C d_M_routine_145 ?_
    refine tl_aload_n (pc := 148) C d_M_routine_148 rfl 0 rfl ?_
    refine tl_iload (pc := 149) C d_M_routine_149 1 rfl ?_
    refine tl_if_eq (pc := 151) (tgt := 158) C d_M_routine_151 rfl (fun hc => ?_) (fun hc => ?_)
    · have hw := hw.1 hc
      refine tl_iconst (pc := 158) (v := 0) C d_M_routine_158 (by decide) ?_
      exact tl_sub [] rfl (B159 _ _ _ hw)
    · have hw := hw.2 hc
      refine tl_iconst (pc := 154) (v := 1) C d_M_routine_154 (by decide) ?_
      refine tl_goto (pc := 155) (tgt := 159) C d_M_routine_155 rfl ?_
      exact tl_sub [] rfl (B159 _ _ _ hw)
  have B117 : ∀ (S : SS) (A : AA) (x2 y0 : Int32), wM_M_routine_117 post S A x2 y0 → tl_At l (tl_R 4) 0 0 (tl_M 0 0 (tl_Qi D (wM q k) (tM k) post)) D (wM q k) 5 z 117 [(0, .ref (q 0)), (2, .int x2)] [.int y0] (S, A) := by
    intro S A x2 y0 hw
    refine tl_istore (pc := 117) (lv' := [(4, .int y0), (0, .ref (q 0)), (2, .int x2)]) C d_M_routine_117 (by decide) rfl ?_
    refine tl_aload_n (pc := 119) C d_M_routine_119 rfl 1 rfl ?_
    refine tl_iload (pc := 120) C d_M_routine_120 0 rfl ?_
    refine tl_if_eq (pc := 122) (tgt := 129) C d_M_routine_122 rfl (fun hc => ?_) (fun hc => ?_)
    · have hw := hw.1 hc
      refine tl_aload_n (pc := 129) C d_M_routine_129 rfl 1 rfl ?_
      refine gM_M_78 (pc := 130) (v := (S 5)) C rfl d_M_routine_130 ?_
      refine tl_iload_n (pc := 133) C d_M_routine_133 rfl 2 rfl ?_
      refine tl_icmp_ne (pc := 134) (tgt := 141) C d_M_routine_134 rfl (fun hc => ?_) (fun hc => ?_)
      · have hw := hw.1 hc
        refine tl_aload_n (pc := 141) C d_M_routine_141 rfl 1 rfl ?_
        refine gM_M_78 (pc := 142) (v := (S 5)) C rfl d_M_routine_142 ?_
        exact tl_sub [1, 0] rfl (B145 _ _ _ _ hw)
      · have hw := hw.2 hc
        refine tl_iconst (pc := 137) (v := -1) C d_M_routine_137 (by decide) ?_
        refine tl_goto (pc := 138) (tgt := 145) C d_M_routine_138 rfl ?_
        exact tl_sub [1, 0] rfl (B145 _ _ _ _ hw)
    · have hw := hw.2 hc
      refine tl_iload_n (pc := 125) C d_M_routine_125 rfl 2 rfl ?_
      refine tl_goto (pc := 126) (tgt := 145) C d_M_routine_126 rfl ?_
      exact tl_sub [1, 0] rfl (B145 _ _ _ _ hw)
  have B59 : ∀ (S : SS) (A : AA) (x1 x2 y0 : Int32), wM_M_routine_59 post S A x1 x2 y0 → tl_At l (tl_R 4) 0 0 (tl_M 0 0 (tl_Qi D (wM q k) (tM k) post)) D (wM q k) 5 z 59 [(0, .ref (q 0)), (1, .int x1), (2, .int x2)] [.int y0] (S, A) := by
    intro S A x1 x2 y0 hw
    refine tl_istore_n (pc := 59) (lv' := [(3, .int y0), (0, .ref (q 0)), (1, .int x1), (2, .int x2)]) C d_M_routine_59 rfl (by decide) rfl ?_
    refine tl_iload_n (pc := 60) C d_M_routine_60 rfl 0 rfl ?_
    refine tl_if_eq (pc := 61) (tgt := 66) C d_M_routine_61 rfl (fun hc => ?_) (fun hc => ?_)
    · have hw := hw.1 hc
      refine tl_aload_n (pc := 66) C d_M_routine_66 rfl 1 rfl ?_
      refine tl_bipush (pc := 67) (v := 113) C d_M_routine_67 (by decide) ?_
      refine kM_M_add (pc := 69) C hw ml_M_138 d_M_routine_69 rfl (fun S69 A69 hw => ?_)
      refine tl_aload_n (pc := 72) C d_M_routine_72 rfl 1 rfl ?_
      refine tl_iconst (pc := 73) (v := 1) C d_M_routine_73 (by decide) ?_
      refine kM_M_add (pc := 74) C hw ml_M_138 d_M_routine_74 rfl (fun S74 A74 hw => ?_)
      refine tl_aload_n (pc := 77) C d_M_routine_77 rfl 1 rfl ?_
      refine tl_iload_n (pc := 78) C d_M_routine_78 rfl 2 rfl ?_
      refine kM_M_add (pc := 79) C hw ml_M_138 d_M_routine_79 rfl (fun S79 A79 hw => ?_)
      refine tl_iload_n (pc := 82) C d_M_routine_82 rfl 2 rfl ?_
      refine tl_iconst (pc := 83) (v := 2) C d_M_routine_83 (by decide) ?_
      refine tl_icmp_ne (pc := 84) (tgt := 162) C d_M_routine_84 rfl (fun hc => ?_) (fun hc => ?_)
      · have hw := hw.1 hc
        refine tl_iconst (pc := 162) (v := 0) C d_M_routine_162 (by decide) ?_
        exact tl_iret (pc := 163) C d_M_routine_163 hw
      · have hw := hw.2 hc
        refine tl_aload_n (pc := 87) C d_M_routine_87 rfl 1 rfl ?_
        refine tl_iload_n (pc := 88) C d_M_routine_88 rfl 3 rfl ?_
        refine kM_M_sumOf (pc := 89) C hw ml_M_29 d_M_routine_89 rfl (fun r89 S89 A89 hw => ?_)
        refine tl_sipush (pc := 92) (v := 256) C d_M_routine_92 (by decide) ?_
        refine tl_aload_n (pc := 95) C d_M_routine_95 rfl 1 rfl ?_
        refine gM_M_17 (pc := 96) C d_M_routine_96 ?_
        refine tl_iconst (pc := 99) (v := 4) C d_M_routine_99 (by decide) ?_
        obtain ⟨hi, hw⟩ := hw
        refine rM_ald1 (pc := 100) (f := (A89 1)) C rfl hi d_M_routine_100 ?_
        refine tl_imul (pc := 101) C d_M_routine_101 ?_
        refine tl_aload_n (pc := 102) C d_M_routine_102 rfl 1 rfl ?_
        refine gM_M_17 (pc := 103) C d_M_routine_103 ?_
        refine tl_iconst (pc := 106) (v := 5) C d_M_routine_106 (by decide) ?_
        obtain ⟨hi, hw⟩ := hw
        refine rM_ald1 (pc := 107) (f := (A89 1)) C rfl hi d_M_routine_107 ?_
        refine tl_iadd (pc := 108) C d_M_routine_108 ?_
        refine tl_icmp_ne (pc := 109) (tgt := 116) C d_M_routine_109 rfl (fun hc => ?_) (fun hc => ?_)
        · have hw := hw.1 hc
          refine tl_iconst (pc := 116) (v := 0) C d_M_routine_116 (by decide) ?_
          exact tl_sub [1, 3] rfl (B117 _ _ _ _ hw)
        · have hw := hw.2 hc
          refine tl_iconst (pc := 112) (v := 1) C d_M_routine_112 (by decide) ?_
          refine tl_goto (pc := 113) (tgt := 117) C d_M_routine_113 rfl ?_
          exact tl_sub [1, 3] rfl (B117 _ _ _ _ hw)
    · have hw := hw.2 hc
      refine tl_iload_n (pc := 64) C d_M_routine_64 rfl 0 rfl ?_
      exact tl_iret (pc := 65) C d_M_routine_65 hw
  refine tl_aload_n (pc := 0) C d_M_routine_0 rfl 0 rfl ?_
  refine gM_M_17 (pc := 1) C d_M_routine_1 ?_
  refine tl_iconst (pc := 4) (v := 2) C d_M_routine_4 (by decide) ?_
  obtain ⟨hi, hw⟩ := hw
  refine rM_ald1 (pc := 5) (f := (A 1)) C rfl hi d_M_routine_5 ?_
  refine tl_istore_n (pc := 6) (lv' := [(1, .int ((A 1) (2 : Int32).toNatClampNeg)), (0, .ref (q 0))]) C d_M_routine_6 rfl (by decide) rfl ?_
  refine tl_aload_n (pc := 7) C d_M_routine_7 rfl 1 rfl ?_
  refine gM_M_17 (pc := 8) C d_M_routine_8 ?_
  refine tl_iconst (pc := 11) (v := 3) C d_M_routine_11 (by decide) ?_
  obtain ⟨hi, hw⟩ := hw
  refine rM_ald1 (pc := 12) (f := (A 1)) C rfl hi d_M_routine_12 ?_
  refine tl_istore_n (pc := 13) (lv' := [(2, .int ((A 1) (3 : Int32).toNatClampNeg)), (1, .int ((A 1) (2 : Int32).toNatClampNeg)), (0, .ref (q 0))]) C d_M_routine_13 rfl (by decide) rfl ?_
  refine tl_iload_n (pc := 14) C d_M_routine_14 rfl 1 rfl ?_
  refine tl_iconst (pc := 15) (v := 1) C d_M_routine_15 (by decide) ?_
  refine tl_icmp_lt (pc := 16) (tgt := 29) C d_M_routine_16 rfl (fun hc => ?_) (fun hc => ?_)
  · have hw := hw.1 hc
    refine tl_bipush (pc := 29) (v := 49) C d_M_routine_29 (by decide) ?_
    exact tl_iret (pc := 31) C d_M_routine_31 hw
  · have hw := hw.2 hc
    refine tl_iload_n (pc := 19) C d_M_routine_19 rfl 1 rfl ?_
    refine tl_iconst (pc := 20) (v := 3) C d_M_routine_20 (by decide) ?_
    refine tl_icmp_gt (pc := 21) (tgt := 29) C d_M_routine_21 rfl (fun hc => ?_) (fun hc => ?_)
    · have hw := hw.1 hc
      refine tl_bipush (pc := 29) (v := 49) C d_M_routine_29 (by decide) ?_
      exact tl_iret (pc := 31) C d_M_routine_31 hw
    · have hw := hw.2 hc
      refine tl_iload_n (pc := 24) C d_M_routine_24 rfl 0 rfl ?_
      refine tl_iconst (pc := 25) (v := 1) C d_M_routine_25 (by decide) ?_
      refine tl_icmp_le (pc := 26) (tgt := 32) C d_M_routine_26 rfl (fun hc => ?_) (fun hc => ?_)
      · have hw := hw.1 hc
        refine tl_iload_n (pc := 32) C d_M_routine_32 rfl 1 rfl ?_
        refine tl_iconst (pc := 33) (v := 1) C d_M_routine_33 (by decide) ?_
        refine tl_icmp_ne (pc := 34) (tgt := 45) C d_M_routine_34 rfl (fun hc => ?_) (fun hc => ?_)
        · have hw := hw.1 hc
          refine tl_iload_n (pc := 45) C d_M_routine_45 rfl 1 rfl ?_
          refine tl_iconst (pc := 46) (v := 3) C d_M_routine_46 (by decide) ?_
          refine tl_icmp_ne (pc := 47) (tgt := 58) C d_M_routine_47 rfl (fun hc => ?_) (fun hc => ?_)
          · have hw := hw.1 hc
            refine tl_iconst (pc := 58) (v := 0) C d_M_routine_58 (by decide) ?_
            exact tl_sub [2, 1, 0] rfl (B59 _ _ _ _ _ hw)
          · have hw := hw.2 hc
            refine tl_aload_n (pc := 50) C d_M_routine_50 rfl 2 rfl ?_
            refine tl_iload_n (pc := 51) C d_M_routine_51 rfl 0 rfl ?_
            refine kM_M_activate (pc := 52) C hw ml_M_147 d_M_routine_52 rfl (fun r52 S52 A52 hw => ?_)
            refine tl_goto (pc := 55) (tgt := 59) C d_M_routine_55 rfl ?_
            exact tl_sub [2, 1, 0] rfl (B59 _ _ _ _ _ hw)
        · have hw := hw.2 hc
          refine tl_aload_n (pc := 37) C d_M_routine_37 rfl 2 rfl ?_
          refine tl_iload_n (pc := 38) C d_M_routine_38 rfl 0 rfl ?_
          refine kM_M_eraseSlot (pc := 39) C hw ml_M_144 d_M_routine_39 rfl (fun r39 S39 A39 hw => ?_)
          refine tl_goto (pc := 42) (tgt := 59) C d_M_routine_42 rfl ?_
          exact tl_sub [2, 1, 0] rfl (B59 _ _ _ _ _ hw)
      · have hw := hw.2 hc
        refine tl_bipush (pc := 29) (v := 49) C d_M_routine_29 (by decide) ?_
        exact tl_iret (pc := 31) C d_M_routine_31 hw
theorem kM_M_routine {l : Launch} {R : Room} {nc ns : Nat} {Q : tl_Z → State → Prop} {D : va_G} {q : Nat → Nat} {k : Nat → ClassId} {nL : Nat} {z : tl_Z} {cc : ByteArray} {ret : Option FieldType} {pc : Nat} {lv : List (Nat × Value)} {rest : List Value} {S : SS} {A : AA} {own : String} {idx : Nat} {post : Int32 → SS → AA → Prop} (C : tl_Cx cc nL own ret D (tM k) z) (hw : wM_M_routine post S A) (hl : Cond.methodLink own idx y_M_routine ∈ wsAll) (hdg : decode cc pc = .ok (.invokevirtual idx, 3)) (hf : tl_fit R (tl_R 4) nc ns 5 rest = true) (kk : ∀ (r : Int32) (S1 : SS) (A1 : AA), post r S1 A1 → tl_At l R nc ns Q D (wM q k) nL z (pc + 3) lv (.int r :: rest) (S1, A1)) : tl_At l R nc ns Q D (wM q k) nL z pc lv (.ref (q 0) :: rest) (S, A) :=
  tl_callVi (n := 0) (As := []) (b := q 0) (q0 := 0) (ci := 7) C (fun sz => cM_M_routine l D q k sz S A hw) in_730 in_8 in_729 ip_49 (by decide +kernel) rfl ⟨rfl, rfl⟩ rfl rfl hl hf hdg kk
set_option maxHeartbeats 4000000 in
set_option maxRecDepth 100000 in
theorem cM_M_seeds (l : Launch) (D : va_G) (q : Nat → Nat) (k : Nat → ClassId) (sz : Nat) (S : SS) (A : AA) {post : Int32 → SS → AA → Prop} (hw : wM_M_seeds post S A) : tl_Met l y_M_seeds b_M_seeds 2 (some .int) (tl_R 1) D (wM q k) (tM k) sz [.ref (q 0)] (S, A) (tl_Qi D (wM q k) (tM k) post) := by
  refine tl_met (own := R_M) (lv := [(0, .ref (q 0))]) (by decide) rfl rfl (Nat.le_of_ble_eq_true rfl) (fun z C => ?_)
  have B65 : ∀ (S : SS) (A : AA), wM_M_seeds_65 post S A → tl_At l (tl_R 1) 0 0 (tl_M 0 0 (tl_Qi D (wM q k) (tM k) post)) D (wM q k) 2 z 65 [(0, .ref (q 0))] [] (S, A) := by
    intro S A hw
    refine tl_aload_n (pc := 65) C d_M_seeds_65 rfl 0 rfl ?_
    refine tl_bipush (pc := 66) (v := 103) C d_M_seeds_66 (by decide) ?_
    refine kM_M_add (pc := 68) C hw ml_M_138 d_M_seeds_68 rfl (fun S68 A68 hw => ?_)
    refine tl_aload_n (pc := 71) C d_M_seeds_71 rfl 0 rfl ?_
    refine tl_iconst (pc := 72) (v := 1) C d_M_seeds_72 (by decide) ?_
    refine kM_M_add (pc := 73) C hw ml_M_138 d_M_seeds_73 rfl (fun S73 A73 hw => ?_)
    refine tl_aload_n (pc := 76) C d_M_seeds_76 rfl 0 rfl ?_
    refine tl_aload_n (pc := 77) C d_M_seeds_77 rfl 0 rfl ?_
    refine gM_M_96 (pc := 78) (v := (S73 8)) C rfl d_M_seeds_78 ?_
    refine kM_M_add (pc := 81) C hw ml_M_138 d_M_seeds_81 rfl (fun S81 A81 hw => ?_)
    refine tl_iconst (pc := 84) (v := 0) C d_M_seeds_84 (by decide) ?_
    exact tl_iret (pc := 85) C d_M_seeds_85 hw
  refine tl_aload_n (pc := 0) C d_M_seeds_0 rfl 0 rfl ?_
  refine gM_M_96 (pc := 1) (v := (S 8)) C rfl d_M_seeds_1 ?_
  refine tl_istore_n (pc := 4) (lv' := [(1, .int (S 8)), (0, .ref (q 0))]) C d_M_seeds_4 rfl (by decide) rfl ?_
  refine tl_aload_n (pc := 5) C d_M_seeds_5 rfl 1 rfl ?_
  refine tl_iconst (pc := 6) (v := 0) C d_M_seeds_6 (by decide) ?_
  refine pM_M_96 (pc := 7) C d_M_seeds_7 ?_
  refine tl_aload_n (pc := 10) C d_M_seeds_10 rfl 1 rfl ?_
  refine gM_M_17 (pc := 11) C d_M_seeds_11 ?_
  refine tl_iconst (pc := 14) (v := 1) C d_M_seeds_14 (by decide) ?_
  obtain ⟨hi, hw⟩ := hw
  refine rM_ald1 (pc := 15) (f := (A 1)) C rfl hi d_M_seeds_15 ?_
  refine tl_iconst (pc := 16) (v := 1) C d_M_seeds_16 (by decide) ?_
  refine tl_icmp_ne (pc := 17) (tgt := 86) C d_M_seeds_17 rfl (fun hc => ?_) (fun hc => ?_)
  · have hw := hw.1 hc
    refine tl_iload_n (pc := 86) C d_M_seeds_86 rfl 0 rfl ?_
    refine tl_if_ne (pc := 87) (tgt := 93) C d_M_seeds_87 rfl (fun hc => ?_) (fun hc => ?_)
    · have hw := hw.1 hc
      refine tl_aload_n (pc := 93) C d_M_seeds_93 rfl 1 rfl ?_
      refine gM_M_17 (pc := 94) C d_M_seeds_94 ?_
      refine tl_iconst (pc := 97) (v := 2) C d_M_seeds_97 (by decide) ?_
      obtain ⟨hi, hw⟩ := hw
      refine rM_ald1 (pc := 98) (f := (A 1)) C rfl hi d_M_seeds_98 ?_
      refine tl_iconst (pc := 99) (v := 5) C d_M_seeds_99 (by decide) ?_
      refine tl_iload_n (pc := 100) C d_M_seeds_100 rfl 0 rfl ?_
      refine tl_imul (pc := 101) C d_M_seeds_101 ?_
      refine tl_iconst (pc := 102) (v := 3) C d_M_seeds_102 (by decide) ?_
      refine tl_iadd (pc := 103) C d_M_seeds_103 ?_
      refine tl_sipush (pc := 104) (v := 256) C d_M_seeds_104 (by decide) ?_
      refine tl_irem (pc := 107) C d_M_seeds_107 (by decide) ?_
      refine tl_icmp_ne (pc := 108) (tgt := 134) C d_M_seeds_108 rfl (fun hc => ?_) (fun hc => ?_)
      · have hw := hw.1 hc
        refine tl_aload_n (pc := 134) C d_M_seeds_134 rfl 1 rfl ?_
        refine tl_iconst (pc := 135) (v := 1) C d_M_seeds_135 (by decide) ?_
        refine tl_aload_n (pc := 136) C d_M_seeds_136 rfl 1 rfl ?_
        refine gM_M_81 (pc := 137) (v := (S 9)) C rfl d_M_seeds_137 ?_
        refine tl_isub (pc := 140) C d_M_seeds_140 ?_
        refine pM_M_81 (pc := 141) C d_M_seeds_141 ?_
        refine tl_aload_n (pc := 144) C d_M_seeds_144 rfl 1 rfl ?_
        refine gM_M_81 (pc := 145) (v := ((1 : Int32) - (S 9))) C rfl d_M_seeds_145 ?_
        refine tl_iconst (pc := 148) (v := 1) C d_M_seeds_148 (by decide) ?_
        refine tl_icmp_ne (pc := 149) (tgt := 155) C d_M_seeds_149 rfl (fun hc => ?_) (fun hc => ?_)
        · have hw := hw.1 hc
          refine tl_aload_n (pc := 155) C d_M_seeds_155 rfl 1 rfl ?_
          refine tl_bipush (pc := 156) (v := 8) C d_M_seeds_156 (by decide) ?_
          refine pM_M_84 (pc := 158) C d_M_seeds_158 ?_
          refine tl_bipush (pc := 161) (v := 54) C d_M_seeds_161 (by decide) ?_
          exact tl_iret (pc := 163) C d_M_seeds_163 hw
        · have hw := hw.2 hc
          refine tl_bipush (pc := 152) (v := 53) C d_M_seeds_152 (by decide) ?_
          exact tl_iret (pc := 154) C d_M_seeds_154 hw
      · have hw := hw.2 hc
        refine tl_aload_n (pc := 111) C d_M_seeds_111 rfl 1 rfl ?_
        refine tl_iconst (pc := 112) (v := 1) C d_M_seeds_112 (by decide) ?_
        refine pM_M_93 (pc := 113) C (by decide) d_M_seeds_113 ?_
        refine tl_aload_n (pc := 116) C d_M_seeds_116 rfl 1 rfl ?_
        refine tl_iconst (pc := 117) (v := 0) C d_M_seeds_117 (by decide) ?_
        refine pM_M_81 (pc := 118) C d_M_seeds_118 ?_
        refine tl_aload_n (pc := 121) C d_M_seeds_121 rfl 1 rfl ?_
        refine tl_bipush (pc := 122) (v := 103) C d_M_seeds_122 (by decide) ?_
        refine kM_M_add (pc := 124) C hw ml_M_138 d_M_seeds_124 rfl (fun S124 A124 hw => ?_)
        refine tl_aload_n (pc := 127) C d_M_seeds_127 rfl 1 rfl ?_
        refine tl_iconst (pc := 128) (v := 2) C d_M_seeds_128 (by decide) ?_
        refine kM_M_add (pc := 129) C hw ml_M_138 d_M_seeds_129 rfl (fun S129 A129 hw => ?_)
        refine tl_iconst (pc := 132) (v := 0) C d_M_seeds_132 (by decide) ?_
        exact tl_iret (pc := 133) C d_M_seeds_133 hw
    · have hw := hw.2 hc
      refine tl_bipush (pc := 90) (v := 36) C d_M_seeds_90 (by decide) ?_
      exact tl_iret (pc := 92) C d_M_seeds_92 hw
  · have hw := hw.2 hc
    refine tl_aload_n (pc := 20) C d_M_seeds_20 rfl 1 rfl ?_
    refine gM_M_84 (pc := 21) (v := (S 10)) C rfl d_M_seeds_21 ?_
    refine tl_if_eq (pc := 24) (tgt := 30) C d_M_seeds_24 rfl (fun hc => ?_) (fun hc => ?_)
    · have hw := hw.1 hc
      refine tl_aload_n (pc := 30) C d_M_seeds_30 rfl 1 rfl ?_
      refine gM_M_93 (pc := 31) (v := (S 4)) C rfl d_M_seeds_31 ?_
      refine tl_if_ne (pc := 34) (tgt := 65) C d_M_seeds_34 rfl (fun hc => ?_) (fun hc => ?_)
      · have hw := hw.1 hc
        exact tl_sub [1] rfl (B65 _ _ hw)
      · have hw := hw.2 hc
        refine tl_aload_n (pc := 37) C d_M_seeds_37 rfl 1 rfl ?_
        refine tl_bipush (pc := 38) (v := 17) C d_M_seeds_38 (by decide) ?_
        refine tl_bipush (pc := 40) (v := 73) C d_M_seeds_40 (by decide) ?_
        refine tl_aload_n (pc := 42) C d_M_seeds_42 rfl 1 rfl ?_
        refine gM_M_135 (pc := 43) (v := (S 7)) C rfl d_M_seeds_43 ?_
        refine tl_imul (pc := 46) C d_M_seeds_46 ?_
        refine tl_iadd (pc := 47) C d_M_seeds_47 ?_
        refine tl_sipush (pc := 48) (v := 256) C d_M_seeds_48 (by decide) ?_
        refine tl_irem (pc := 51) C d_M_seeds_51 (by decide) ?_
        refine pM_M_96 (pc := 52) C d_M_seeds_52 ?_
        refine tl_aload_n (pc := 55) C d_M_seeds_55 rfl 1 rfl ?_
        refine tl_dup (pc := 56) C d_M_seeds_56 rfl ?_
        refine gM_M_135 (pc := 57) (v := (S 7)) C rfl d_M_seeds_57 ?_
        refine tl_iconst (pc := 60) (v := 1) C d_M_seeds_60 (by decide) ?_
        refine tl_iadd (pc := 61) C d_M_seeds_61 ?_
        refine pM_M_135 (pc := 62) C d_M_seeds_62 ?_
        exact tl_sub [1] rfl (B65 _ _ hw)
    · have hw := hw.2 hc
      refine tl_bipush (pc := 27) (v := 55) C d_M_seeds_27 (by decide) ?_
      exact tl_iret (pc := 29) C d_M_seeds_29 hw
theorem kM_M_seeds {l : Launch} {R : Room} {nc ns : Nat} {Q : tl_Z → State → Prop} {D : va_G} {q : Nat → Nat} {k : Nat → ClassId} {nL : Nat} {z : tl_Z} {cc : ByteArray} {ret : Option FieldType} {pc : Nat} {lv : List (Nat × Value)} {rest : List Value} {S : SS} {A : AA} {own : String} {idx : Nat} {post : Int32 → SS → AA → Prop} (C : tl_Cx cc nL own ret D (tM k) z) (hw : wM_M_seeds post S A) (hl : Cond.methodLink own idx y_M_seeds ∈ wsAll) (hdg : decode cc pc = .ok (.invokevirtual idx, 3)) (hf : tl_fit R (tl_R 1) nc ns 2 rest = true) (kk : ∀ (r : Int32) (S1 : SS) (A1 : AA), post r S1 A1 → tl_At l R nc ns Q D (wM q k) nL z (pc + 3) lv (.int r :: rest) (S1, A1)) : tl_At l R nc ns Q D (wM q k) nL z pc lv (.ref (q 0) :: rest) (S, A) :=
  tl_callVi (n := 0) (As := []) (b := q 0) (q0 := 0) (ci := 7) C (fun sz => cM_M_seeds l D q k sz S A hw) in_718 in_8 in_717 ip_46 (by decide +kernel) rfl ⟨rfl, rfl⟩ rfl rfl hl hf hdg kk
set_option maxHeartbeats 4000000 in
set_option maxRecDepth 100000 in
theorem cM_M_writeData (l : Launch) (D : va_G) (q : Nat → Nat) (k : Nat → ClassId) (sz : Nat) (S : SS) (A : AA) {post : Int32 → SS → AA → Prop} (hw : wM_M_writeData post S A) : tl_Met l y_M_writeData b_M_writeData 1 (some .int) (tl_R 1) D (wM q k) (tM k) sz [.ref (q 0)] (S, A) (tl_Qi D (wM q k) (tM k) post) := by
  refine tl_met (own := R_M) (lv := [(0, .ref (q 0))]) (by decide) rfl rfl (Nat.le_of_ble_eq_true rfl) (fun z C => ?_)
  refine tl_aload_n (pc := 0) C d_M_writeData_0 rfl 0 rfl ?_
  refine gM_M_17 (pc := 1) C d_M_writeData_1 ?_
  refine tl_iconst (pc := 4) (v := 1) C d_M_writeData_4 (by decide) ?_
  obtain ⟨hi, hw⟩ := hw
  refine rM_ald1 (pc := 5) (f := (A 1)) C rfl hi d_M_writeData_5 ?_
  refine tl_iconst (pc := 6) (v := 1) C d_M_writeData_6 (by decide) ?_
  refine tl_icmp_eq (pc := 7) (tgt := 13) C d_M_writeData_7 rfl (fun hc => ?_) (fun hc => ?_)
  · have hw := hw.1 hc
    refine tl_aload_n (pc := 13) C d_M_writeData_13 rfl 0 rfl ?_
    refine tl_aload_n (pc := 14) C d_M_writeData_14 rfl 0 rfl ?_
    refine gM_M_17 (pc := 15) C d_M_writeData_15 ?_
    refine tl_iconst (pc := 18) (v := 2) C d_M_writeData_18 (by decide) ?_
    obtain ⟨hi, hw⟩ := hw
    refine rM_ald1 (pc := 19) (f := (A 1)) C rfl hi d_M_writeData_19 ?_
    refine pM_M_87 (pc := 20) C d_M_writeData_20 ?_
    refine tl_aload_n (pc := 23) C d_M_writeData_23 rfl 0 rfl ?_
    refine tl_bipush (pc := 24) (v := 110) C d_M_writeData_24 (by decide) ?_
    refine kM_M_add (pc := 26) C hw ml_M_138 d_M_writeData_26 rfl (fun S26 A26 hw => ?_)
    refine tl_aload_n (pc := 29) C d_M_writeData_29 rfl 0 rfl ?_
    refine tl_iconst (pc := 30) (v := 1) C d_M_writeData_30 (by decide) ?_
    refine kM_M_add (pc := 31) C hw ml_M_138 d_M_writeData_31 rfl (fun S31 A31 hw => ?_)
    refine tl_iconst (pc := 34) (v := 0) C d_M_writeData_34 (by decide) ?_
    exact tl_iret (pc := 35) C d_M_writeData_35 hw
  · have hw := hw.2 hc
    refine tl_bipush (pc := 10) (v := 49) C d_M_writeData_10 (by decide) ?_
    exact tl_iret (pc := 12) C d_M_writeData_12 hw
theorem kM_M_writeData {l : Launch} {R : Room} {nc ns : Nat} {Q : tl_Z → State → Prop} {D : va_G} {q : Nat → Nat} {k : Nat → ClassId} {nL : Nat} {z : tl_Z} {cc : ByteArray} {ret : Option FieldType} {pc : Nat} {lv : List (Nat × Value)} {rest : List Value} {S : SS} {A : AA} {own : String} {idx : Nat} {post : Int32 → SS → AA → Prop} (C : tl_Cx cc nL own ret D (tM k) z) (hw : wM_M_writeData post S A) (hl : Cond.methodLink own idx y_M_writeData ∈ wsAll) (hdg : decode cc pc = .ok (.invokevirtual idx, 3)) (hf : tl_fit R (tl_R 1) nc ns 1 rest = true) (kk : ∀ (r : Int32) (S1 : SS) (A1 : AA), post r S1 A1 → tl_At l R nc ns Q D (wM q k) nL z (pc + 3) lv (.int r :: rest) (S1, A1)) : tl_At l R nc ns Q D (wM q k) nL z pc lv (.ref (q 0) :: rest) (S, A) :=
  tl_callVi (n := 0) (As := []) (b := q 0) (q0 := 0) (ci := 7) C (fun sz => cM_M_writeData l D q k sz S A hw) in_726 in_8 in_725 ip_48 (by decide +kernel) rfl ⟨rfl, rfl⟩ rfl rfl hl hf hdg kk
theorem swM_M_workOn_6_16 {σ : Type} {l : Launch} {R : Room} {nc ns : Nat} {Q : tl_Z → State → Prop} {D : va_G} {w : σ → va_W} {nL : Nat} {z : tl_Z} {own : String} {ret : Option FieldType} {tys : List (ClassId × FieldType)} {lv : List (Nat × Value)} {rest : List Value} {u : σ} {x : Int32} (C : tl_Cx b_M_workOn nL own ret D tys z) (hc : x = (16 : Int32)) (kk : tl_At l R nc ns Q D w nL z 88 lv rest u) : tl_At l R nc ns Q D w nL z 6 lv (.int x :: rest) u := by
  subst hc
  obtain ⟨p, e, s, m, args, below, meth, c, F⟩ := z
  obtain ⟨hx, hb, hml, hown, hts, hN, hK, hA, hlk, hr⟩ := C
  exact fun ls H locs hl hP hD hS => lv_lookup (off := 82) hx hb d_M_workOn_6 (by decide +kernel) (by decide +kernel) rfl (kk ls H locs hl hP hD hS)
theorem swM_M_workOn_6_17 {σ : Type} {l : Launch} {R : Room} {nc ns : Nat} {Q : tl_Z → State → Prop} {D : va_G} {w : σ → va_W} {nL : Nat} {z : tl_Z} {own : String} {ret : Option FieldType} {tys : List (ClassId × FieldType)} {lv : List (Nat × Value)} {rest : List Value} {u : σ} {x : Int32} (C : tl_Cx b_M_workOn nL own ret D tys z) (hc : x = (17 : Int32)) (kk : tl_At l R nc ns Q D w nL z 129 lv rest u) : tl_At l R nc ns Q D w nL z 6 lv (.int x :: rest) u := by
  subst hc
  obtain ⟨p, e, s, m, args, below, meth, c, F⟩ := z
  obtain ⟨hx, hb, hml, hown, hts, hN, hK, hA, hlk, hr⟩ := C
  exact fun ls H locs hl hP hD hS => lv_lookup (off := 123) hx hb d_M_workOn_6 (by decide +kernel) (by decide +kernel) rfl (kk ls H locs hl hP hD hS)
theorem swM_M_workOn_6_34 {σ : Type} {l : Launch} {R : Room} {nc ns : Nat} {Q : tl_Z → State → Prop} {D : va_G} {w : σ → va_W} {nL : Nat} {z : tl_Z} {own : String} {ret : Option FieldType} {tys : List (ClassId × FieldType)} {lv : List (Nat × Value)} {rest : List Value} {u : σ} {x : Int32} (C : tl_Cx b_M_workOn nL own ret D tys z) (hc : x = (34 : Int32)) (kk : tl_At l R nc ns Q D w nL z 147 lv rest u) : tl_At l R nc ns Q D w nL z 6 lv (.int x :: rest) u := by
  subst hc
  obtain ⟨p, e, s, m, args, below, meth, c, F⟩ := z
  obtain ⟨hx, hb, hml, hown, hts, hN, hK, hA, hlk, hr⟩ := C
  exact fun ls H locs hl hP hD hS => lv_lookup (off := 141) hx hb d_M_workOn_6 (by decide +kernel) (by decide +kernel) rfl (kk ls H locs hl hP hD hS)
theorem swM_M_workOn_6_39 {σ : Type} {l : Launch} {R : Room} {nc ns : Nat} {Q : tl_Z → State → Prop} {D : va_G} {w : σ → va_W} {nL : Nat} {z : tl_Z} {own : String} {ret : Option FieldType} {tys : List (ClassId × FieldType)} {lv : List (Nat × Value)} {rest : List Value} {u : σ} {x : Int32} (C : tl_Cx b_M_workOn nL own ret D tys z) (hc : x = (39 : Int32)) (kk : tl_At l R nc ns Q D w nL z 142 lv rest u) : tl_At l R nc ns Q D w nL z 6 lv (.int x :: rest) u := by
  subst hc
  obtain ⟨p, e, s, m, args, below, meth, c, F⟩ := z
  obtain ⟨hx, hb, hml, hown, hts, hN, hK, hA, hlk, hr⟩ := C
  exact fun ls H locs hl hP hD hS => lv_lookup (off := 136) hx hb d_M_workOn_6 (by decide +kernel) (by decide +kernel) rfl (kk ls H locs hl hP hD hS)
theorem swM_M_workOn_6_46 {σ : Type} {l : Launch} {R : Room} {nc ns : Nat} {Q : tl_Z → State → Prop} {D : va_G} {w : σ → va_W} {nL : Nat} {z : tl_Z} {own : String} {ret : Option FieldType} {tys : List (ClassId × FieldType)} {lv : List (Nat × Value)} {rest : List Value} {u : σ} {x : Int32} (C : tl_Cx b_M_workOn nL own ret D tys z) (hc : x = (46 : Int32)) (kk : tl_At l R nc ns Q D w nL z 152 lv rest u) : tl_At l R nc ns Q D w nL z 6 lv (.int x :: rest) u := by
  subst hc
  obtain ⟨p, e, s, m, args, below, meth, c, F⟩ := z
  obtain ⟨hx, hb, hml, hown, hts, hN, hK, hA, hlk, hr⟩ := C
  exact fun ls H locs hl hP hD hS => lv_lookup (off := 146) hx hb d_M_workOn_6 (by decide +kernel) (by decide +kernel) rfl (kk ls H locs hl hP hD hS)
theorem swM_M_workOn_6_49 {σ : Type} {l : Launch} {R : Room} {nc ns : Nat} {Q : tl_Z → State → Prop} {D : va_G} {w : σ → va_W} {nL : Nat} {z : tl_Z} {own : String} {ret : Option FieldType} {tys : List (ClassId × FieldType)} {lv : List (Nat × Value)} {rest : List Value} {u : σ} {x : Int32} (C : tl_Cx b_M_workOn nL own ret D tys z) (hc : x = (49 : Int32)) (kk : tl_At l R nc ns Q D w nL z 157 lv rest u) : tl_At l R nc ns Q D w nL z 6 lv (.int x :: rest) u := by
  subst hc
  obtain ⟨p, e, s, m, args, below, meth, c, F⟩ := z
  obtain ⟨hx, hb, hml, hown, hts, hN, hK, hA, hlk, hr⟩ := C
  exact fun ls H locs hl hP hD hS => lv_lookup (off := 151) hx hb d_M_workOn_6 (by decide +kernel) (by decide +kernel) rfl (kk ls H locs hl hP hD hS)
theorem swM_M_workOn_6_52 {σ : Type} {l : Launch} {R : Room} {nc ns : Nat} {Q : tl_Z → State → Prop} {D : va_G} {w : σ → va_W} {nL : Nat} {z : tl_Z} {own : String} {ret : Option FieldType} {tys : List (ClassId × FieldType)} {lv : List (Nat × Value)} {rest : List Value} {u : σ} {x : Int32} (C : tl_Cx b_M_workOn nL own ret D tys z) (hc : x = (52 : Int32)) (kk : tl_At l R nc ns Q D w nL z 162 lv rest u) : tl_At l R nc ns Q D w nL z 6 lv (.int x :: rest) u := by
  subst hc
  obtain ⟨p, e, s, m, args, below, meth, c, F⟩ := z
  obtain ⟨hx, hb, hml, hown, hts, hN, hK, hA, hlk, hr⟩ := C
  exact fun ls H locs hl hP hD hS => lv_lookup (off := 156) hx hb d_M_workOn_6 (by decide +kernel) (by decide +kernel) rfl (kk ls H locs hl hP hD hS)
theorem swM_M_workOn_6_54 {σ : Type} {l : Launch} {R : Room} {nc ns : Nat} {Q : tl_Z → State → Prop} {D : va_G} {w : σ → va_W} {nL : Nat} {z : tl_Z} {own : String} {ret : Option FieldType} {tys : List (ClassId × FieldType)} {lv : List (Nat × Value)} {rest : List Value} {u : σ} {x : Int32} (C : tl_Cx b_M_workOn nL own ret D tys z) (hc : x = (54 : Int32)) (kk : tl_At l R nc ns Q D w nL z 167 lv rest u) : tl_At l R nc ns Q D w nL z 6 lv (.int x :: rest) u := by
  subst hc
  obtain ⟨p, e, s, m, args, below, meth, c, F⟩ := z
  obtain ⟨hx, hb, hml, hown, hts, hN, hK, hA, hlk, hr⟩ := C
  exact fun ls H locs hl hP hD hS => lv_lookup (off := 161) hx hb d_M_workOn_6 (by decide +kernel) (by decide +kernel) rfl (kk ls H locs hl hP hD hS)
theorem swM_M_workOn_6_62 {σ : Type} {l : Launch} {R : Room} {nc ns : Nat} {Q : tl_Z → State → Prop} {D : va_G} {w : σ → va_W} {nL : Nat} {z : tl_Z} {own : String} {ret : Option FieldType} {tys : List (ClassId × FieldType)} {lv : List (Nat × Value)} {rest : List Value} {u : σ} {x : Int32} (C : tl_Cx b_M_workOn nL own ret D tys z) (hc : x = (62 : Int32)) (kk : tl_At l R nc ns Q D w nL z 116 lv rest u) : tl_At l R nc ns Q D w nL z 6 lv (.int x :: rest) u := by
  subst hc
  obtain ⟨p, e, s, m, args, below, meth, c, F⟩ := z
  obtain ⟨hx, hb, hml, hown, hts, hN, hK, hA, hlk, hr⟩ := C
  exact fun ls H locs hl hP hD hS => lv_lookup (off := 110) hx hb d_M_workOn_6 (by decide +kernel) (by decide +kernel) rfl (kk ls H locs hl hP hD hS)
theorem swM_M_workOn_6_d {σ : Type} {l : Launch} {R : Room} {nc ns : Nat} {Q : tl_Z → State → Prop} {D : va_G} {w : σ → va_W} {nL : Nat} {z : tl_Z} {own : String} {ret : Option FieldType} {tys : List (ClassId × FieldType)} {lv : List (Nat × Value)} {rest : List Value} {u : σ} {x : Int32} (C : tl_Cx b_M_workOn nL own ret D tys z) (h0 : ¬ x = (16 : Int32)) (h1 : ¬ x = (17 : Int32)) (h2 : ¬ x = (34 : Int32)) (h3 : ¬ x = (39 : Int32)) (h4 : ¬ x = (46 : Int32)) (h5 : ¬ x = (49 : Int32)) (h6 : ¬ x = (52 : Int32)) (h7 : ¬ x = (54 : Int32)) (h8 : ¬ x = (62 : Int32)) (kk : tl_At l R nc ns Q D w nL z 172 lv rest u) : tl_At l R nc ns Q D w nL z 6 lv (.int x :: rest) u := by
  obtain ⟨p, e, s, m, args, below, meth, c, F⟩ := z
  obtain ⟨hx, hb, hml, hown, hts, hN, hK, hA, hlk, hr⟩ := C
  exact fun ls H locs hl hP hD hS => lv_lookup (off := 166) hx hb d_M_workOn_6 (by decide +kernel) ((lv_osw h0 (by decide)).trans ((lv_osw h1 (by decide)).trans ((lv_osw h2 (by decide)).trans ((lv_osw h3 (by decide)).trans ((lv_osw h4 (by decide)).trans ((lv_osw h5 (by decide)).trans ((lv_osw h6 (by decide)).trans ((lv_osw h7 (by decide)).trans ((lv_osw h8 (by decide)).trans rfl))))))))) rfl (kk ls H locs hl hP hD hS)
set_option maxHeartbeats 4000000 in
set_option maxRecDepth 100000 in
theorem cM_M_workOn (l : Launch) (D : va_G) (q : Nat → Nat) (k : Nat → ClassId) (sz : Nat) (S : SS) (A : AA) {post : Int32 → SS → AA → Prop} (hw : wM_M_workOn post S A) : tl_Met l y_M_workOn b_M_workOn 1 (some .int) (tl_R 5) D (wM q k) (tM k) sz [.ref (q 0)] (S, A) (tl_Qi D (wM q k) (tM k) post) := by
  refine tl_met (own := R_M) (lv := [(0, .ref (q 0))]) (by decide) rfl rfl (Nat.le_of_ble_eq_true rfl) (fun z C => ?_)
  refine tl_aload_n (pc := 0) C d_M_workOn_0 rfl 0 rfl ?_
  refine gM_M_17 (pc := 1) C d_M_workOn_1 ?_
  refine tl_iconst (pc := 4) (v := 0) C d_M_workOn_4 (by decide) ?_
  obtain ⟨hi, hw⟩ := hw
  refine rM_ald1 (pc := 5) (f := (A 1)) C rfl hi d_M_workOn_5 ?_
  by_cases hc : ((A 1) (0 : Int32).toNatClampNeg) = (16 : Int32)
  · have hw := hw.1 hc
    refine swM_M_workOn_6_16 C hc ?_
    refine tl_aload_n (pc := 88) C d_M_workOn_88 rfl 0 rfl ?_
    refine tl_aload_n (pc := 89) C d_M_workOn_89 rfl 0 rfl ?_
    refine gM_M_17 (pc := 90) C d_M_workOn_90 ?_
    refine tl_iconst (pc := 93) (v := 1) C d_M_workOn_93 (by decide) ?_
    obtain ⟨hi, hw⟩ := hw
    refine rM_ald1 (pc := 94) (f := (A 1)) C rfl hi d_M_workOn_94 ?_
    refine kM_M_changeSession (pc := 95) C hw ml_M_68 d_M_workOn_95 rfl (fun S95 A95 hw => ?_)
    refine tl_aload_n (pc := 98) C d_M_workOn_98 rfl 0 rfl ?_
    refine tl_bipush (pc := 99) (v := 80) C d_M_workOn_99 (by decide) ?_
    refine kM_M_add (pc := 101) C hw ml_M_138 d_M_workOn_101 rfl (fun S101 A101 hw => ?_)
    refine tl_aload_n (pc := 104) C d_M_workOn_104 rfl 0 rfl ?_
    refine tl_aload_n (pc := 105) C d_M_workOn_105 rfl 0 rfl ?_
    refine gM_M_17 (pc := 106) C d_M_workOn_106 ?_
    refine tl_iconst (pc := 109) (v := 1) C d_M_workOn_109 (by decide) ?_
    obtain ⟨hi, hw⟩ := hw
    refine rM_ald1 (pc := 110) (f := (A101 1)) C rfl hi d_M_workOn_110 ?_
    refine kM_M_add (pc := 111) C hw ml_M_138 d_M_workOn_111 rfl (fun S111 A111 hw => ?_)
    refine tl_iconst (pc := 114) (v := 0) C d_M_workOn_114 (by decide) ?_
    exact tl_iret (pc := 115) C d_M_workOn_115 hw
  · have hw := hw.2 hc
    have hc0 := hc
    by_cases hc : ((A 1) (0 : Int32).toNatClampNeg) = (17 : Int32)
    · have hw := hw.1 hc
      refine swM_M_workOn_6_17 C hc ?_
      refine tl_aload_n (pc := 129) C d_M_workOn_129 rfl 0 rfl ?_
      refine tl_bipush (pc := 130) (v := 81) C d_M_workOn_130 (by decide) ?_
      refine kM_M_add (pc := 132) C hw ml_M_138 d_M_workOn_132 rfl (fun S132 A132 hw => ?_)
      refine tl_aload_n (pc := 135) C d_M_workOn_135 rfl 0 rfl ?_
      refine tl_iconst (pc := 136) (v := 1) C d_M_workOn_136 (by decide) ?_
      refine kM_M_add (pc := 137) C hw ml_M_138 d_M_workOn_137 rfl (fun S137 A137 hw => ?_)
      refine tl_iconst (pc := 140) (v := 0) C d_M_workOn_140 (by decide) ?_
      exact tl_iret (pc := 141) C d_M_workOn_141 hw
    · have hw := hw.2 hc
      have hc1 := hc
      by_cases hc : ((A 1) (0 : Int32).toNatClampNeg) = (34 : Int32)
      · have hw := hw.1 hc
        refine swM_M_workOn_6_34 C hc ?_
        refine tl_aload_n (pc := 147) C d_M_workOn_147 rfl 0 rfl ?_
        refine kM_M_readData (pc := 148) C hw ml_M_159 d_M_workOn_148 rfl (fun r148 S148 A148 hw => ?_)
        exact tl_iret (pc := 151) C d_M_workOn_151 hw
      · have hw := hw.2 hc
        have hc2 := hc
        by_cases hc : ((A 1) (0 : Int32).toNatClampNeg) = (39 : Int32)
        · have hw := hw.1 hc
          refine swM_M_workOn_6_39 C hc ?_
          refine tl_aload_n (pc := 142) C d_M_workOn_142 rfl 0 rfl ?_
          refine kM_M_seeds (pc := 143) C hw ml_M_156 d_M_workOn_143 rfl (fun r143 S143 A143 hw => ?_)
          exact tl_iret (pc := 146) C d_M_workOn_146 hw
        · have hw := hw.2 hc
          have hc3 := hc
          by_cases hc : ((A 1) (0 : Int32).toNatClampNeg) = (46 : Int32)
          · have hw := hw.1 hc
            refine swM_M_workOn_6_46 C hc ?_
            refine tl_aload_n (pc := 152) C d_M_workOn_152 rfl 0 rfl ?_
            refine kM_M_writeData (pc := 153) C hw ml_M_162 d_M_workOn_153 rfl (fun r153 S153 A153 hw => ?_)
            exact tl_iret (pc := 156) C d_M_workOn_156 hw
          · have hw := hw.2 hc
            have hc4 := hc
            by_cases hc : ((A 1) (0 : Int32).toNatClampNeg) = (49 : Int32)
            · have hw := hw.1 hc
              refine swM_M_workOn_6_49 C hc ?_
              refine tl_aload_n (pc := 157) C d_M_workOn_157 rfl 0 rfl ?_
              refine kM_M_routine (pc := 158) C hw ml_M_165 d_M_workOn_158 rfl (fun r158 S158 A158 hw => ?_)
              exact tl_iret (pc := 161) C d_M_workOn_161 hw
            · have hw := hw.2 hc
              have hc5 := hc
              by_cases hc : ((A 1) (0 : Int32).toNatClampNeg) = (52 : Int32)
              · have hw := hw.1 hc
                refine swM_M_workOn_6_52 C hc ?_
                refine tl_aload_n (pc := 162) C d_M_workOn_162 rfl 0 rfl ?_
                refine kM_M_download (pc := 163) C hw ml_M_168 d_M_workOn_163 rfl (fun r163 S163 A163 hw => ?_)
                exact tl_iret (pc := 166) C d_M_workOn_166 hw
              · have hw := hw.2 hc
                have hc6 := hc
                by_cases hc : ((A 1) (0 : Int32).toNatClampNeg) = (54 : Int32)
                · have hw := hw.1 hc
                  refine swM_M_workOn_6_54 C hc ?_
                  refine tl_aload_n (pc := 167) C d_M_workOn_167 rfl 0 rfl ?_
                  refine kM_M_block (pc := 168) C hw ml_M_171 d_M_workOn_168 rfl (fun r168 S168 A168 hw => ?_)
                  exact tl_iret (pc := 171) C d_M_workOn_171 hw
                · have hw := hw.2 hc
                  have hc7 := hc
                  by_cases hc : ((A 1) (0 : Int32).toNatClampNeg) = (62 : Int32)
                  · have hw := hw.1 hc
                    refine swM_M_workOn_6_62 C hc ?_
                    refine tl_aload_n (pc := 116) C d_M_workOn_116 rfl 0 rfl ?_
                    refine tl_bipush (pc := 117) (v := 126) C d_M_workOn_117 (by decide) ?_
                    refine kM_M_add (pc := 119) C hw ml_M_138 d_M_workOn_119 rfl (fun S119 A119 hw => ?_)
                    refine tl_aload_n (pc := 122) C d_M_workOn_122 rfl 0 rfl ?_
                    refine tl_iconst (pc := 123) (v := 0) C d_M_workOn_123 (by decide) ?_
                    refine kM_M_add (pc := 124) C hw ml_M_138 d_M_workOn_124 rfl (fun S124 A124 hw => ?_)
                    refine tl_iconst (pc := 127) (v := 0) C d_M_workOn_127 (by decide) ?_
                    exact tl_iret (pc := 128) C d_M_workOn_128 hw
                  · have hw := hw.2 hc
                    have hc8 := hc
                    refine swM_M_workOn_6_d C hc0 hc1 hc2 hc3 hc4 hc5 hc6 hc7 hc8 ?_
                    refine tl_aload_n (pc := 172) C d_M_workOn_172 rfl 0 rfl ?_
                    refine kM_M_leave (pc := 173) C hw ml_M_174 d_M_workOn_173 rfl (fun r173 S173 A173 hw => ?_)
                    exact tl_iret (pc := 176) C d_M_workOn_176 hw
theorem kM_M_workOn {l : Launch} {R : Room} {nc ns : Nat} {Q : tl_Z → State → Prop} {D : va_G} {q : Nat → Nat} {k : Nat → ClassId} {nL : Nat} {z : tl_Z} {cc : ByteArray} {ret : Option FieldType} {pc : Nat} {lv : List (Nat × Value)} {rest : List Value} {S : SS} {A : AA} {own : String} {idx : Nat} {post : Int32 → SS → AA → Prop} (C : tl_Cx cc nL own ret D (tM k) z) (hw : wM_M_workOn post S A) (hl : Cond.methodLink own idx y_M_workOn ∈ wsAll) (hdg : decode cc pc = .ok (.invokevirtual idx, 3)) (hf : tl_fit R (tl_R 5) nc ns 1 rest = true) (kk : ∀ (r : Int32) (S1 : SS) (A1 : AA), post r S1 A1 → tl_At l R nc ns Q D (wM q k) nL z (pc + 3) lv (.int r :: rest) (S1, A1)) : tl_At l R nc ns Q D (wM q k) nL z pc lv (.ref (q 0) :: rest) (S, A) :=
  tl_callVi (n := 0) (As := []) (b := q 0) (q0 := 0) (ci := 7) C (fun sz => cM_M_workOn l D q k sz S A hw) in_710 in_8 in_709 ip_44 (by decide +kernel) rfl ⟨rfl, rfl⟩ rfl rfl hl hf hdg kk
set_option maxHeartbeats 4000000 in
set_option maxRecDepth 100000 in
theorem cM_M_complete (l : Launch) (D : va_G) (q : Nat → Nat) (k : Nat → ClassId) (sz : Nat) (S : SS) (A : AA) {post : SS → AA → Prop} (hw : wM_M_complete post S A) : tl_Met l y_M_complete b_M_complete 3 none (tl_R 6) D (wM q k) (tM k) sz [.ref (q 0)] (S, A) (tl_Qv D (wM q k) (tM k) post) := by
  refine tl_met (own := R_M) (lv := [(0, .ref (q 0))]) (by decide) rfl rfl (Nat.le_of_ble_eq_true rfl) (fun z C => ?_)
  have B83 : ∀ (S : SS) (A : AA) (x2 : Int32), wM_M_complete_83 post S A x2 → tl_At l (tl_R 6) 0 0 (tl_M 0 0 (tl_Qv D (wM q k) (tM k) post)) D (wM q k) 3 z 83 [(0, .ref (q 0)), (2, .int x2)] [] (S, A) := by
    intro S A x2 hw
    refine tl_aload_n (pc := 83) C d_M_complete_83 rfl 0 rfl ?_
    refine kM_M_dropRequest (pc := 84) C hw ml_M_72 d_M_complete_84 rfl (fun S84 A84 hw => ?_)
    refine tl_aload_n (pc := 87) C d_M_complete_87 rfl 0 rfl ?_
    refine kM_M_sendAnswer (pc := 88) C hw ml_M_189 d_M_complete_88 rfl (fun S88 A88 hw => ?_)
    refine tl_iload_n (pc := 91) C d_M_complete_91 rfl 1 rfl ?_
    refine tl_if_eq (pc := 92) (tgt := 99) C d_M_complete_92 rfl (fun hc => ?_) (fun hc => ?_)
    · have hw := hw.1 hc
      exact tl_vret (pc := 99) C d_M_complete_99 hw
    · have hw := hw.2 hc
      refine tl_aload_n (pc := 95) C d_M_complete_95 rfl 0 rfl ?_
      refine kM_M_boot (pc := 96) C hw ml_M_33 d_M_complete_96 rfl (fun S96 A96 hw => ?_)
      exact tl_vret (pc := 99) C d_M_complete_99 hw
  have B44 : ∀ (S : SS) (A : AA) (x1 x2 : Int32), wM_M_complete_44 post S A x1 x2 → tl_At l (tl_R 6) 0 0 (tl_M 0 0 (tl_Qv D (wM q k) (tM k) post)) D (wM q k) 3 z 44 [(0, .ref (q 0)), (1, .int x1), (2, .int x2)] [] (S, A) := by
    intro S A x1 x2 hw
    refine tl_iload_n (pc := 44) C d_M_complete_44 rfl 1 rfl ?_
    refine tl_if_ge (pc := 45) (tgt := 53) C d_M_complete_45 rfl (fun hc => ?_) (fun hc => ?_)
    · have hw := hw.1 hc
      refine tl_iload_n (pc := 53) C d_M_complete_53 rfl 1 rfl ?_
      refine tl_if_le (pc := 54) (tgt := 83) C d_M_complete_54 rfl (fun hc => ?_) (fun hc => ?_)
      · have hw := hw.1 hc
        exact tl_sub [0, 2] rfl (B83 _ _ _ hw)
      · have hw := hw.2 hc
        refine tl_aload_n (pc := 57) C d_M_complete_57 rfl 0 rfl ?_
        refine tl_iconst (pc := 58) (v := 0) C d_M_complete_58 (by decide) ?_
        refine pM_M_105 (pc := 59) C d_M_complete_59 ?_
        refine tl_aload_n (pc := 62) C d_M_complete_62 rfl 0 rfl ?_
        refine tl_bipush (pc := 63) (v := 127) C d_M_complete_63 (by decide) ?_
        refine kM_M_add (pc := 65) C hw ml_M_138 d_M_complete_65 rfl (fun S65 A65 hw => ?_)
        refine tl_aload_n (pc := 68) C d_M_complete_68 rfl 0 rfl ?_
        refine tl_aload_n (pc := 69) C d_M_complete_69 rfl 0 rfl ?_
        refine gM_M_17 (pc := 70) C d_M_complete_70 ?_
        refine tl_iconst (pc := 73) (v := 0) C d_M_complete_73 (by decide) ?_
        obtain ⟨hi, hw⟩ := hw
        refine rM_ald1 (pc := 74) (f := (A65 1)) C rfl hi d_M_complete_74 ?_
        refine kM_M_add (pc := 75) C hw ml_M_138 d_M_complete_75 rfl (fun S75 A75 hw => ?_)
        refine tl_aload_n (pc := 78) C d_M_complete_78 rfl 0 rfl ?_
        refine tl_iload_n (pc := 79) C d_M_complete_79 rfl 1 rfl ?_
        refine kM_M_add (pc := 80) C hw ml_M_138 d_M_complete_80 rfl (fun S80 A80 hw => ?_)
        exact tl_sub [0, 2] rfl (B83 _ _ _ hw)
    · have hw := hw.2 hc
      refine tl_aload_n (pc := 48) C d_M_complete_48 rfl 0 rfl ?_
      refine kM_M_restart (pc := 49) C hw ml_M_186 d_M_complete_49 rfl (fun S49 A49 hw => ?_)
      exact tl_vret (pc := 52) C d_M_complete_52 hw
  have B34 : ∀ (S : SS) (A : AA) (x1 y0 : Int32), wM_M_complete_34 post S A x1 y0 → tl_At l (tl_R 6) 0 0 (tl_M 0 0 (tl_Qv D (wM q k) (tM k) post)) D (wM q k) 3 z 34 [(0, .ref (q 0)), (1, .int x1)] [.int y0] (S, A) := by
    intro S A x1 y0 hw
    refine tl_istore_n (pc := 34) (lv' := [(2, .int y0), (0, .ref (q 0)), (1, .int x1)]) C d_M_complete_34 rfl (by decide) rfl ?_
    refine tl_iload_n (pc := 35) C d_M_complete_35 rfl 2 rfl ?_
    refine tl_if_ne (pc := 36) (tgt := 44) C d_M_complete_36 rfl (fun hc => ?_) (fun hc => ?_)
    · have hw := hw.1 hc
      exact tl_sub [1, 2, 0] rfl (B44 _ _ _ _ hw)
    · have hw := hw.2 hc
      refine tl_aload_n (pc := 39) C d_M_complete_39 rfl 1 rfl ?_
      refine kM_M_workOn (pc := 40) C hw ml_M_183 d_M_complete_40 rfl (fun r40 S40 A40 hw => ?_)
      refine tl_istore_n (pc := 43) (lv' := [(1, .int r40), (2, .int y0), (0, .ref (q 0))]) C d_M_complete_43 rfl (by decide) rfl ?_
      exact tl_sub [2, 0, 1] rfl (B44 _ _ _ _ hw)
  have B33 : ∀ (S : SS) (A : AA) (x1 : Int32), wM_M_complete_33 post S A x1 → tl_At l (tl_R 6) 0 0 (tl_M 0 0 (tl_Qv D (wM q k) (tM k) post)) D (wM q k) 3 z 33 [(0, .ref (q 0)), (1, .int x1)] [] (S, A) := by
    intro S A x1 hw
    refine tl_iconst (pc := 33) (v := 0) C d_M_complete_33 (by decide) ?_
    exact tl_sub [0, 1] rfl (B34 _ _ _ _ hw)
  refine tl_aload_n (pc := 0) C d_M_complete_0 rfl 0 rfl ?_
  refine tl_iconst (pc := 1) (v := 0) C d_M_complete_1 (by decide) ?_
  refine pM_M_177 (pc := 2) C d_M_complete_2 ?_
  refine tl_aload_n (pc := 5) C d_M_complete_5 rfl 0 rfl ?_
  refine kM_M_dropAnswer (pc := 6) C hw ml_M_75 d_M_complete_6 rfl (fun S6 A6 hw => ?_)
  refine tl_aload_n (pc := 9) C d_M_complete_9 rfl 0 rfl ?_
  refine kM_M_against (pc := 10) C hw ml_M_180 d_M_complete_10 rfl (fun r10 S10 A10 hw => ?_)
  refine tl_istore_n (pc := 13) (lv' := [(1, .int r10), (0, .ref (q 0))]) C d_M_complete_13 rfl (by decide) rfl ?_
  refine tl_iload_n (pc := 14) C d_M_complete_14 rfl 0 rfl ?_
  refine tl_if_ne (pc := 15) (tgt := 33) C d_M_complete_15 rfl (fun hc => ?_) (fun hc => ?_)
  · have hw := hw.1 hc
    exact tl_sub [1, 0] rfl (B33 _ _ _ hw)
  · have hw := hw.2 hc
    refine tl_aload_n (pc := 18) C d_M_complete_18 rfl 1 rfl ?_
    refine gM_M_17 (pc := 19) C d_M_complete_19 ?_
    refine tl_iconst (pc := 22) (v := 0) C d_M_complete_22 (by decide) ?_
    obtain ⟨hi, hw⟩ := hw
    refine rM_ald1 (pc := 23) (f := (A10 1)) C rfl hi d_M_complete_23 ?_
    refine tl_bipush (pc := 24) (v := 17) C d_M_complete_24 (by decide) ?_
    refine tl_icmp_ne (pc := 26) (tgt := 33) C d_M_complete_26 rfl (fun hc => ?_) (fun hc => ?_)
    · have hw := hw.1 hc
      exact tl_sub [1, 0] rfl (B33 _ _ _ hw)
    · have hw := hw.2 hc
      refine tl_iconst (pc := 29) (v := 1) C d_M_complete_29 (by decide) ?_
      refine tl_goto (pc := 30) (tgt := 34) C d_M_complete_30 rfl ?_
      exact tl_sub [1, 0] rfl (B34 _ _ _ _ hw)
theorem kM_M_complete {l : Launch} {R : Room} {nc ns : Nat} {Q : tl_Z → State → Prop} {D : va_G} {q : Nat → Nat} {k : Nat → ClassId} {nL : Nat} {z : tl_Z} {cc : ByteArray} {ret : Option FieldType} {pc : Nat} {lv : List (Nat × Value)} {rest : List Value} {S : SS} {A : AA} {own : String} {idx : Nat} {post : SS → AA → Prop} (C : tl_Cx cc nL own ret D (tM k) z) (hw : wM_M_complete post S A) (hl : Cond.methodLink own idx y_M_complete ∈ wsAll) (hdg : decode cc pc = .ok (.invokevirtual idx, 3)) (hf : tl_fit R (tl_R 6) nc ns 3 rest = true) (kk : ∀ (S1 : SS) (A1 : AA), post S1 A1 → tl_At l R nc ns Q D (wM q k) nL z (pc + 3) lv (rest) (S1, A1)) : tl_At l R nc ns Q D (wM q k) nL z pc lv (.ref (q 0) :: rest) (S, A) :=
  tl_callVv (n := 0) (As := []) (b := q 0) (q0 := 0) (ci := 7) C (fun sz => cM_M_complete l D q k sz S A hw) in_690 in_8 in_689 ip_39 (by decide +kernel) rfl ⟨rfl, rfl⟩ rfl rfl hl hf hdg kk
set_option maxHeartbeats 4000000 in
set_option maxRecDepth 100000 in
theorem cM_M_furtherFrame (l : Launch) (D : va_G) (q : Nat → Nat) (k : Nat → ClassId) (sz : Nat) (S : SS) (A : AA) (x1 : Int32) {post : SS → AA → Prop} (hw : wM_M_furtherFrame post S A x1) : tl_Met l y_M_furtherFrame b_M_furtherFrame 2 none (tl_R 7) D (wM q k) (tM k) sz [.ref (q 0), .int x1] (S, A) (tl_Qv D (wM q k) (tM k) post) := by
  refine tl_met (own := R_M) (lv := [(0, .ref (q 0)), (1, .int x1)]) (by decide) rfl rfl (Nat.le_of_ble_eq_true rfl) (fun z C => ?_)
  refine tl_aload_n (pc := 0) C d_M_furtherFrame_0 rfl 0 rfl ?_
  refine tl_aload_n (pc := 1) C d_M_furtherFrame_1 rfl 0 rfl ?_
  refine gM_M_195 (pc := 2) (v := (S 18)) C rfl d_M_furtherFrame_2 ?_
  refine tl_iconst (pc := 5) (v := 1) C d_M_furtherFrame_5 (by decide) ?_
  refine tl_iadd (pc := 6) C d_M_furtherFrame_6 ?_
  refine tl_bipush (pc := 7) (v := 16) C d_M_furtherFrame_7 (by decide) ?_
  refine tl_irem (pc := 9) C d_M_furtherFrame_9 (by decide) ?_
  refine pM_M_195 (pc := 10) C d_M_furtherFrame_10 ?_
  refine tl_iload_n (pc := 13) C d_M_furtherFrame_13 rfl 1 rfl ?_
  refine tl_aload_n (pc := 14) C d_M_furtherFrame_14 rfl 0 rfl ?_
  refine gM_M_195 (pc := 15) (v := (((S 18) + (1 : Int32)) - ((S 18) + (1 : Int32)) / (16 : Int32) * (16 : Int32))) C rfl d_M_furtherFrame_15 ?_
  refine tl_icmp_eq (pc := 18) (tgt := 26) C d_M_furtherFrame_18 rfl (fun hc => ?_) (fun hc => ?_)
  · have hw := hw.1 hc
    refine tl_aload_n (pc := 26) C d_M_furtherFrame_26 rfl 0 rfl ?_
    refine tl_iconst (pc := 27) (v := 1) C d_M_furtherFrame_27 (by decide) ?_
    refine kM_M_takeBytes (pc := 28) C hw ml_M_198 d_M_furtherFrame_28 rfl (fun S28 A28 hw => ?_)
    refine tl_aload_n (pc := 31) C d_M_furtherFrame_31 rfl 0 rfl ?_
    refine gM_M_102 (pc := 32) (v := (S28 17)) C rfl d_M_furtherFrame_32 ?_
    refine tl_aload_n (pc := 35) C d_M_furtherFrame_35 rfl 0 rfl ?_
    refine gM_M_99 (pc := 36) (v := (S28 16)) C rfl d_M_furtherFrame_36 ?_
    refine tl_icmp_ne (pc := 39) (tgt := 49) C d_M_furtherFrame_39 rfl (fun hc => ?_) (fun hc => ?_)
    · have hw := hw.1 hc
      refine tl_aload_n (pc := 49) C d_M_furtherFrame_49 rfl 0 rfl ?_
      refine gM_M_195 (pc := 50) (v := (S28 18)) C rfl d_M_furtherFrame_50 ?_
      refine tl_iconst (pc := 53) (v := 2) C d_M_furtherFrame_53 (by decide) ?_
      refine tl_irem (pc := 54) C d_M_furtherFrame_54 (by decide) ?_
      refine tl_if_ne (pc := 55) (tgt := 62) C d_M_furtherFrame_55 rfl (fun hc => ?_) (fun hc => ?_)
      · have hw := hw.1 hc
        exact tl_vret (pc := 62) C d_M_furtherFrame_62 hw
      · have hw := hw.2 hc
        refine tl_aload_n (pc := 58) C d_M_furtherFrame_58 rfl 0 rfl ?_
        refine kM_M_askMore (pc := 59) C hw ml_M_204 d_M_furtherFrame_59 rfl (fun S59 A59 hw => ?_)
        exact tl_vret (pc := 62) C d_M_furtherFrame_62 hw
    · have hw := hw.2 hc
      refine tl_aload_n (pc := 42) C d_M_furtherFrame_42 rfl 0 rfl ?_
      refine kM_M_complete (pc := 43) C hw ml_M_201 d_M_furtherFrame_43 rfl (fun S43 A43 hw => ?_)
      refine tl_goto (pc := 46) (tgt := 62) C d_M_furtherFrame_46 rfl ?_
      exact tl_vret (pc := 62) C d_M_furtherFrame_62 hw
  · have hw := hw.2 hc
    refine tl_aload_n (pc := 21) C d_M_furtherFrame_21 rfl 0 rfl ?_
    refine kM_M_dropRequest (pc := 22) C hw ml_M_72 d_M_furtherFrame_22 rfl (fun S22 A22 hw => ?_)
    exact tl_vret (pc := 25) C d_M_furtherFrame_25 hw
