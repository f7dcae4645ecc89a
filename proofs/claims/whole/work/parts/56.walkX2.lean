theorem kX_Mm_holds_4 {l : Launch} {R : Room} {nc ns : Nat} {Q : tl_Z → State → Prop} {D : va_G} {q : Nat → Nat} {k : Nat → ClassId} {nL : Nat} {z : tl_Z} {cc : ByteArray} {ret : Option FieldType} {pc : Nat} {lv : List (Nat × Value)} {rest : List Value} {S : SS} {A : AA} {own : String} {idx : Nat} {x1 x3 x4 : Int32} {post : Int32 → SS → AA → Prop} (C : tl_Cx cc nL own ret D (tX k) z) (hw : wX_Mm_holds_4 post S A x1 x3 x4) (hl : Cond.methodLink own idx y_Mm_holds ∈ wsAll) (hdg : decode cc pc = .ok (.invokevirtual idx, 3)) (hf : tl_fit R (tl_R 1) nc ns 6 rest = true) (kk : ∀ (r : Int32) (S1 : SS) (A1 : AA), post r S1 A1 → tl_At l R nc ns Q D (wX q k) nL z (pc + 3) lv (.int r :: rest) (S1, A1)) : tl_At l R nc ns Q D (wX q k) nL z pc lv (.int x4 :: .int x3 :: .ref (q 4) :: .int x1 :: .ref (q 1) :: rest) (S, A) :=
  tl_callVi (n := 4) (As := [.int x1, .ref (q 4), .int x3, .int x4]) (b := q 1) (q0 := 1) (ci := 2) C (fun sz => cX_Mm_holds_4 l D q k sz S A x1 x3 x4 hw) in_448 in_2 in_446 in_447 (by decide +kernel) rfl ⟨rfl, rfl⟩ rfl rfl hl hf hdg kk
set_option maxHeartbeats 4000000 in
set_option maxRecDepth 100000 in
theorem cX_Mm_write_4 (l : Launch) (D : va_G) (q : Nat → Nat) (k : Nat → ClassId) (sz : Nat) (S : SS) (A : AA) (x1 x3 x4 : Int32) {post : Int32 → SS → AA → Prop} (hw : wX_Mm_write_4 post S A x1 x3 x4) : tl_Met l y_Mm_write b_Mm_write 6 (some .boolean) (tl_R 1) D (wX q k) (tX k) sz [.ref (q 1), .int x1, .ref (q 4), .int x3, .int x4] (S, A) (tl_Qi D (wX q k) (tX k) post) := by
  refine tl_met (own := R_Mm) (lv := [(0, .ref (q 1)), (1, .int x1), (2, .ref (q 4)), (3, .int x3), (4, .int x4)]) (by decide) rfl rfl (Nat.le_of_ble_eq_true rfl) (fun z C => ?_)
  have B24 : ∀ (S : SS) (A : AA) (x1 x3 x4 x5 : Int32), wX_Mm_write_4_24 post S A x1 x3 x4 x5 → tl_At l (tl_R 1) 0 0 (tl_M 0 0 (tl_Qi D (wX q k) (tX k) post)) D (wX q k) 6 z 24 [(0, .ref (q 1)), (1, .int x1), (2, .ref (q 4)), (3, .int x3), (4, .int x4), (5, .int x5)] [] (S, A) := by
    intro S A x1 x3 x4 x5 hw
    have key : ∀ X24 : SS → AA → Int32 → Int32 → Int32 → Int32 → Prop, (∀ (S : SS) (A : AA) (x1 x3 x4 x5 : Int32), X24 S A x1 x3 x4 x5 → tl_At l (tl_R 1) 0 0 (tl_M 0 0 (tl_Qi D (wX q k) (tX k) post)) D (wX q k) 6 z 24 [(0, .ref (q 1)), (1, .int x1), (2, .ref (q 4)), (3, .int x3), (4, .int x4), (5, .int x5)] [] (S, A)) → ∀ (S : SS) (A : AA) (x1 x3 x4 x5 : Int32), wX_Mm_write_4_24B post X24 S A x1 x3 x4 x5 → tl_At l (tl_R 1) 0 0 (tl_M 0 0 (tl_Qi D (wX q k) (tX k) post)) D (wX q k) 6 z 24 [(0, .ref (q 1)), (1, .int x1), (2, .ref (q 4)), (3, .int x3), (4, .int x4), (5, .int x5)] [] (S, A) := by
      intro X24 hX24 S A x1 x3 x4 x5 hw
      refine tl_iload (pc := 24) C d_Mm_write_24 5 rfl ?_
      refine tl_iload (pc := 26) C d_Mm_write_26 4 rfl ?_
      refine tl_icmp_ge (pc := 28) (tgt := 63) C d_Mm_write_28 rfl (fun hc => ?_) (fun hc => ?_)
      · have hw := hw.1 hc
        refine tl_aload_n (pc := 63) C d_Mm_write_63 rfl 0 rfl ?_
        refine kX_Mm_endChange (pc := 64) C hw ml_Mm_38 d_Mm_write_64 rfl (fun r64 S64 A64 hw => ?_)
        obtain ⟨hz, hw⟩ := hw
        exact tl_zret (pc := 67) C hz d_Mm_write_67 hw
      · have hw := hw.2 hc
        refine tl_aload_n (pc := 31) C d_Mm_write_31 rfl 0 rfl ?_
        refine tl_iload_n (pc := 32) C d_Mm_write_32 rfl 1 rfl ?_
        refine tl_iload (pc := 33) C d_Mm_write_33 5 rfl ?_
        refine tl_iadd (pc := 35) C d_Mm_write_35 ?_
        refine tl_iload (pc := 36) C d_Mm_write_36 5 rfl ?_
        refine tl_aload_n (pc := 38) C d_Mm_write_38 rfl 0 rfl ?_
        refine gX_Mm_11 (pc := 39) C d_Mm_write_39 ?_
        refine tl_iload_n (pc := 42) C d_Mm_write_42 rfl 1 rfl ?_
        refine tl_iload (pc := 43) C d_Mm_write_43 5 rfl ?_
        refine tl_iadd (pc := 45) C d_Mm_write_45 ?_
        obtain ⟨hi, hw⟩ := hw
        refine rX_ald0 (pc := 46) (f := (A 0)) C rfl hi d_Mm_write_46 ?_
        refine tl_aload_n (pc := 47) C d_Mm_write_47 rfl 2 rfl ?_
        refine tl_iload_n (pc := 48) C d_Mm_write_48 rfl 3 rfl ?_
        refine tl_iload (pc := 49) C d_Mm_write_49 5 rfl ?_
        refine tl_iadd (pc := 51) C d_Mm_write_51 ?_
        obtain ⟨hi, hw⟩ := hw
        refine rX_ald1 (pc := 52) (f := (A 1)) C rfl hi d_Mm_write_52 ?_
        refine tl_iand (pc := 53) C d_Mm_write_53 ?_
        refine kX_Mm_change (pc := 54) C hw ml_Mm_34 d_Mm_write_54 rfl (fun S54 A54 hw => ?_)
        refine tl_iinc (pc := 57) (lv' := [(5, .int (x5 + (1 : Int32))), (0, .ref (q 1)), (1, .int x1), (2, .ref (q 4)), (3, .int x3), (4, .int x4)]) C d_Mm_write_57 (by decide) 5 rfl rfl (by decide) rfl ?_
        refine tl_goto (pc := 60) (tgt := 24) C d_Mm_write_60 rfl ?_
        exact tl_sub [1, 2, 3, 4, 5, 0] rfl (hX24 _ _ _ _ _ _ hw)
    exact hw _ (fun S A x1 x3 x4 x5 hb => key _ (fun _ _ _ _ _ _ h => h) S A x1 x3 x4 x5 hb)
  refine tl_aload_n (pc := 0) C d_Mm_write_0 rfl 0 rfl ?_
  refine tl_iload_n (pc := 1) C d_Mm_write_1 rfl 1 rfl ?_
  refine tl_iload (pc := 2) C d_Mm_write_2 4 rfl ?_
  refine kX_Mm_has (pc := 4) C hw ml_Mm_30 d_Mm_write_4 rfl (fun r4 S4 A4 hw => ?_)
  refine tl_if_eq (pc := 7) (tgt := 19) C d_Mm_write_7 rfl (fun hc => ?_) (fun hc => ?_)
  · have hw := hw.1 hc
    refine tl_iconst (pc := 19) (v := 1) C d_Mm_write_19 (by decide) ?_
    exact tl_zret (pc := 20) C (by decide) d_Mm_write_20 hw
  · have hw := hw.2 hc
    refine tl_iload_n (pc := 10) C d_Mm_write_10 rfl 3 rfl ?_
    refine tl_aload_n (pc := 11) C d_Mm_write_11 rfl 2 rfl ?_
    refine rX_len1 (pc := 12) C d_Mm_write_12 ?_
    refine tl_iload (pc := 13) C d_Mm_write_13 4 rfl ?_
    refine tl_isub (pc := 15) C d_Mm_write_15 ?_
    refine tl_icmp_le (pc := 16) (tgt := 21) C d_Mm_write_16 rfl (fun hc => ?_) (fun hc => ?_)
    · have hw := hw.1 hc
      refine tl_iconst (pc := 21) (v := 0) C d_Mm_write_21 (by decide) ?_
      refine tl_istore (pc := 22) (lv' := [(5, .int (0 : Int32)), (0, .ref (q 1)), (1, .int x1), (2, .ref (q 4)), (3, .int x3), (4, .int x4)]) C d_Mm_write_22 (by decide) rfl ?_
      exact tl_sub [1, 2, 3, 4, 5, 0] rfl (B24 _ _ _ _ _ _ hw)
    · have hw := hw.2 hc
      refine tl_iconst (pc := 19) (v := 1) C d_Mm_write_19 (by decide) ?_
      exact tl_zret (pc := 20) C (by decide) d_Mm_write_20 hw
theorem kX_Mm_write_4 {l : Launch} {R : Room} {nc ns : Nat} {Q : tl_Z → State → Prop} {D : va_G} {q : Nat → Nat} {k : Nat → ClassId} {nL : Nat} {z : tl_Z} {cc : ByteArray} {ret : Option FieldType} {pc : Nat} {lv : List (Nat × Value)} {rest : List Value} {S : SS} {A : AA} {own : String} {idx : Nat} {x1 x3 x4 : Int32} {post : Int32 → SS → AA → Prop} (C : tl_Cx cc nL own ret D (tX k) z) (hw : wX_Mm_write_4 post S A x1 x3 x4) (hl : Cond.methodLink own idx y_Mm_write ∈ wsAll) (hdg : decode cc pc = .ok (.invokevirtual idx, 3)) (hf : tl_fit R (tl_R 1) nc ns 6 rest = true) (kk : ∀ (r : Int32) (S1 : SS) (A1 : AA), post r S1 A1 → tl_At l R nc ns Q D (wX q k) nL z (pc + 3) lv (.int r :: rest) (S1, A1)) : tl_At l R nc ns Q D (wX q k) nL z pc lv (.int x4 :: .int x3 :: .ref (q 4) :: .int x1 :: .ref (q 1) :: rest) (S, A) :=
  tl_callVi (n := 4) (As := [.int x1, .ref (q 4), .int x3, .int x4]) (b := q 1) (q0 := 1) (ci := 2) C (fun sz => cX_Mm_write_4 l D q k sz S A x1 x3 x4 hw) in_416 in_2 in_414 in_415 (by decide +kernel) rfl ⟨rfl, rfl⟩ rfl rfl hl hf hdg kk
set_option maxHeartbeats 4000000 in
set_option maxRecDepth 100000 in
theorem cX_T_takeBlock (l : Launch) (D : va_G) (q : Nat → Nat) (k : Nat → ClassId) (sz : Nat) (S : SS) (A : AA) (x1 x2 : Int32) {post : Int32 → SS → AA → Prop} (hw : wX_T_takeBlock post S A x1 x2) : tl_Met l y_T_takeBlock b_T_takeBlock 4 (some .int) (tl_R 2) D (wX q k) (tX k) sz [.ref (q 0), .int x1, .int x2] (S, A) (tl_Qi D (wX q k) (tX k) post) := by
  refine tl_met (own := R_T) (lv := [(0, .ref (q 0)), (1, .int x1), (2, .int x2)]) (by decide) rfl rfl (Nat.le_of_ble_eq_true rfl) (fun z C => ?_)
  refine tl_aload_n (pc := 0) C d_T_takeBlock_0 rfl 0 rfl ?_
  refine gX_T_45 (pc := 1) C d_T_takeBlock_1 ?_
  refine kX_Dl_toCome (pc := 4) C hw ml_T_130 d_T_takeBlock_4 rfl (fun r4 S4 A4 hw => ?_)
  refine tl_if_gt (pc := 7) (tgt := 13) C d_T_takeBlock_7 rfl (fun hc => ?_) (fun hc => ?_)
  · have hw := hw.1 hc
    refine tl_aload_n (pc := 13) C d_T_takeBlock_13 rfl 0 rfl ?_
    refine gX_T_45 (pc := 14) C d_T_takeBlock_14 ?_
    refine tl_iload_n (pc := 17) C d_T_takeBlock_17 rfl 1 rfl ?_
    refine kX_Dl_isLatest (pc := 18) C hw ml_T_286 d_T_takeBlock_18 rfl (fun r18 S18 A18 hw => ?_)
    refine tl_if_eq (pc := 21) (tgt := 30) C d_T_takeBlock_21 rfl (fun hc => ?_) (fun hc => ?_)
    · have hw := hw.1 hc
      refine tl_aload_n (pc := 30) C d_T_takeBlock_30 rfl 0 rfl ?_
      refine gX_T_45 (pc := 31) C d_T_takeBlock_31 ?_
      refine tl_iload_n (pc := 34) C d_T_takeBlock_34 rfl 1 rfl ?_
      refine kX_Dl_isNext (pc := 35) C hw ml_T_289 d_T_takeBlock_35 rfl (fun r35 S35 A35 hw => ?_)
      refine tl_if_ne (pc := 38) (tgt := 44) C d_T_takeBlock_38 rfl (fun hc => ?_) (fun hc => ?_)
      · have hw := hw.1 hc
        refine tl_iload_n (pc := 44) C d_T_takeBlock_44 rfl 2 rfl ?_
        refine tl_aload_n (pc := 45) C d_T_takeBlock_45 rfl 0 rfl ?_
        refine gX_T_45 (pc := 46) C d_T_takeBlock_46 ?_
        refine kX_Dl_toCome (pc := 49) C hw ml_T_130 d_T_takeBlock_49 rfl (fun r49 S49 A49 hw => ?_)
        refine tl_icmp_le (pc := 52) (tgt := 58) C d_T_takeBlock_52 rfl (fun hc => ?_) (fun hc => ?_)
        · have hw := hw.1 hc
          refine tl_aload_n (pc := 58) C d_T_takeBlock_58 rfl 0 rfl ?_
          refine gX_T_45 (pc := 59) C d_T_takeBlock_59 ?_
          refine gX_T_292 (pc := 62) (v := (S49 24)) C rfl d_T_takeBlock_62 ?_
          refine kX_Mm_imageOf (pc := 65) C hw ml_T_248 d_T_takeBlock_65 rfl (fun r65 S65 A65 hw => ?_)
          refine tl_aload_n (pc := 68) C d_T_takeBlock_68 rfl 0 rfl ?_
          refine gX_T_45 (pc := 69) C d_T_takeBlock_69 ?_
          refine gX_T_295 (pc := 72) (v := (S65 26)) C rfl d_T_takeBlock_72 ?_
          refine tl_iadd (pc := 75) C d_T_takeBlock_75 ?_
          refine tl_istore_n (pc := 76) (lv' := [(3, .int (r65 + (S65 26))), (0, .ref (q 0)), (1, .int x1), (2, .int x2)]) C d_T_takeBlock_76 rfl (by decide) rfl ?_
          refine tl_aload_n (pc := 77) C d_T_takeBlock_77 rfl 1 rfl ?_
          refine gX_T_45 (pc := 78) C d_T_takeBlock_78 ?_
          refine tl_iload_n (pc := 81) C d_T_takeBlock_81 rfl 3 rfl ?_
          refine kX_Dl_addBlock (pc := 82) C hw ml_T_298 d_T_takeBlock_82 rfl (fun S82 A82 hw => ?_)
          refine tl_aload_n (pc := 85) C d_T_takeBlock_85 rfl 1 rfl ?_
          refine gX_T_10 (pc := 86) C d_T_takeBlock_86 ?_
          refine tl_iload_n (pc := 89) C d_T_takeBlock_89 rfl 0 rfl ?_
          refine tl_aload_n (pc := 90) C d_T_takeBlock_90 rfl 1 rfl ?_
          refine gX_T_19 (pc := 91) C d_T_takeBlock_91 ?_
          refine gX_T_301 (pc := 94) C d_T_takeBlock_94 ?_
          refine tl_iconst (pc := 97) (v := 2) C d_T_takeBlock_97 (by decide) ?_
          refine tl_iload_n (pc := 98) C d_T_takeBlock_98 rfl 3 rfl ?_
          refine kX_Mm_write_4 (pc := 99) C hw ml_T_280 d_T_takeBlock_99 rfl (fun r99 S99 A99 hw => ?_)
          refine tl_if_ne (pc := 102) (tgt := 107) C d_T_takeBlock_102 rfl (fun hc => ?_) (fun hc => ?_)
          · have hw := hw.1 hc
            refine tl_aload_n (pc := 107) C d_T_takeBlock_107 rfl 1 rfl ?_
            refine gX_T_10 (pc := 108) C d_T_takeBlock_108 ?_
            refine tl_iload_n (pc := 111) C d_T_takeBlock_111 rfl 0 rfl ?_
            refine tl_aload_n (pc := 112) C d_T_takeBlock_112 rfl 1 rfl ?_
            refine gX_T_19 (pc := 113) C d_T_takeBlock_113 ?_
            refine gX_T_301 (pc := 116) C d_T_takeBlock_116 ?_
            refine tl_iconst (pc := 119) (v := 2) C d_T_takeBlock_119 (by decide) ?_
            refine tl_iload_n (pc := 120) C d_T_takeBlock_120 rfl 3 rfl ?_
            refine kX_Mm_holds_4 (pc := 121) C hw ml_T_304 d_T_takeBlock_121 rfl (fun r121 S121 A121 hw => ?_)
            refine tl_if_eq (pc := 124) (tgt := 135) C d_T_takeBlock_124 rfl (fun hc => ?_) (fun hc => ?_)
            · have hw := hw.1 hc
              refine tl_bipush (pc := 135) (v := 114) C d_T_takeBlock_135 (by decide) ?_
              exact tl_iret (pc := 137) C d_T_takeBlock_137 hw
            · have hw := hw.2 hc
              refine tl_aload_n (pc := 127) C d_T_takeBlock_127 rfl 1 rfl ?_
              refine tl_iload_n (pc := 128) C d_T_takeBlock_128 rfl 2 rfl ?_
              refine kX_T_doneWith (pc := 129) C hw ml_T_211 d_T_takeBlock_129 rfl (fun r129 S129 A129 hw => ?_)
              refine tl_goto (pc := 132) (tgt := 137) C d_T_takeBlock_132 rfl ?_
              exact tl_iret (pc := 137) C d_T_takeBlock_137 hw
          · have hw := hw.2 hc
            refine tl_iconst (pc := 105) (v := -1) C d_T_takeBlock_105 (by decide) ?_
            exact tl_iret (pc := 106) C d_T_takeBlock_106 hw
        · have hw := hw.2 hc
          refine tl_bipush (pc := 55) (v := 49) C d_T_takeBlock_55 (by decide) ?_
          exact tl_iret (pc := 57) C d_T_takeBlock_57 hw
      · have hw := hw.2 hc
        refine tl_bipush (pc := 41) (v := 115) C d_T_takeBlock_41 (by decide) ?_
        exact tl_iret (pc := 43) C d_T_takeBlock_43 hw
    · have hw := hw.2 hc
      refine tl_aload_n (pc := 24) C d_T_takeBlock_24 rfl 0 rfl ?_
      refine tl_iload_n (pc := 25) C d_T_takeBlock_25 rfl 1 rfl ?_
      refine kX_T_doneWith (pc := 26) C hw ml_T_211 d_T_takeBlock_26 rfl (fun r26 S26 A26 hw => ?_)
      exact tl_iret (pc := 29) C d_T_takeBlock_29 hw
  · have hw := hw.2 hc
    refine tl_bipush (pc := 10) (v := 36) C d_T_takeBlock_10 (by decide) ?_
    exact tl_iret (pc := 12) C d_T_takeBlock_12 hw
theorem kX_T_takeBlock {l : Launch} {R : Room} {nc ns : Nat} {Q : tl_Z → State → Prop} {D : va_G} {q : Nat → Nat} {k : Nat → ClassId} {nL : Nat} {z : tl_Z} {cc : ByteArray} {ret : Option FieldType} {pc : Nat} {lv : List (Nat × Value)} {rest : List Value} {S : SS} {A : AA} {own : String} {idx : Nat} {x1 x2 : Int32} {post : Int32 → SS → AA → Prop} (C : tl_Cx cc nL own ret D (tX k) z) (hw : wX_T_takeBlock post S A x1 x2) (hl : Cond.methodLink own idx y_T_takeBlock ∈ wsAll) (hdg : decode cc pc = .ok (.invokevirtual idx, 3)) (hf : tl_fit R (tl_R 2) nc ns 4 rest = true) (kk : ∀ (r : Int32) (S1 : SS) (A1 : AA), post r S1 A1 → tl_At l R nc ns Q D (wX q k) nL z (pc + 3) lv (.int r :: rest) (S1, A1)) : tl_At l R nc ns Q D (wX q k) nL z pc lv (.int x2 :: .int x1 :: .ref (q 0) :: rest) (S, A) :=
  tl_callVi (n := 2) (As := [.int x1, .int x2]) (b := q 0) (q0 := 0) (ci := 6) C (fun sz => cX_T_takeBlock l D q k sz S A x1 x2 hw) in_428 in_1 in_427 ip_24 (by decide +kernel) rfl ⟨rfl, rfl⟩ rfl rfl hl hf hdg kk
set_option maxHeartbeats 4000000 in
set_option maxRecDepth 100000 in
theorem cX_Lk_countWrongKey (l : Launch) (D : va_G) (q : Nat → Nat) (k : Nat → ClassId) (sz : Nat) (S : SS) (A : AA) {post : Int32 → SS → AA → Prop} (hw : wX_Lk_countWrongKey post S A) : tl_Met l y_Lk_countWrongKey b_Lk_countWrongKey 1 (some .boolean) (tl_R 0) D (wX q k) (tX k) sz [.ref (q 10)] (S, A) (tl_Qi D (wX q k) (tX k) post) := by
  refine tl_met (own := R_Lk) (lv := [(0, .ref (q 10))]) (by decide) rfl rfl (Nat.le_of_ble_eq_true rfl) (fun z C => ?_)
  refine tl_aload_n (pc := 0) C d_Lk_countWrongKey_0 rfl 0 rfl ?_
  refine tl_dup (pc := 1) C d_Lk_countWrongKey_1 rfl ?_
  refine gX_Lk_12 (pc := 2) (v := (S 21)) C rfl d_Lk_countWrongKey_2 ?_
  refine tl_iconst (pc := 5) (v := 1) C d_Lk_countWrongKey_5 (by decide) ?_
  refine tl_iadd (pc := 6) C d_Lk_countWrongKey_6 ?_
  refine pX_Lk_12 (pc := 7) C d_Lk_countWrongKey_7 ?_
  refine tl_aload_n (pc := 10) C d_Lk_countWrongKey_10 rfl 0 rfl ?_
  refine gX_Lk_12 (pc := 11) (v := ((S 21) + (1 : Int32))) C rfl d_Lk_countWrongKey_11 ?_
  refine tl_iconst (pc := 14) (v := 2) C d_Lk_countWrongKey_14 (by decide) ?_
  refine tl_icmp_ge (pc := 15) (tgt := 20) C d_Lk_countWrongKey_15 rfl (fun hc => ?_) (fun hc => ?_)
  · have hw := hw.1 hc
    refine tl_aload_n (pc := 20) C d_Lk_countWrongKey_20 rfl 0 rfl ?_
    refine tl_iconst (pc := 21) (v := 0) C d_Lk_countWrongKey_21 (by decide) ?_
    refine pX_Lk_12 (pc := 22) C d_Lk_countWrongKey_22 ?_
    refine tl_aload_n (pc := 25) C d_Lk_countWrongKey_25 rfl 0 rfl ?_
    refine tl_bipush (pc := 26) (v := 8) C d_Lk_countWrongKey_26 (by decide) ?_
    refine pX_Lk_16 (pc := 28) C d_Lk_countWrongKey_28 ?_
    refine tl_iconst (pc := 31) (v := 1) C d_Lk_countWrongKey_31 (by decide) ?_
    exact tl_zret (pc := 32) C (by decide) d_Lk_countWrongKey_32 hw
  · have hw := hw.2 hc
    refine tl_iconst (pc := 18) (v := 0) C d_Lk_countWrongKey_18 (by decide) ?_
    exact tl_zret (pc := 19) C (by decide) d_Lk_countWrongKey_19 hw
theorem kX_Lk_countWrongKey {l : Launch} {R : Room} {nc ns : Nat} {Q : tl_Z → State → Prop} {D : va_G} {q : Nat → Nat} {k : Nat → ClassId} {nL : Nat} {z : tl_Z} {cc : ByteArray} {ret : Option FieldType} {pc : Nat} {lv : List (Nat × Value)} {rest : List Value} {S : SS} {A : AA} {own : String} {idx : Nat} {post : Int32 → SS → AA → Prop} (C : tl_Cx cc nL own ret D (tX k) z) (hw : wX_Lk_countWrongKey post S A) (hl : Cond.methodLink own idx y_Lk_countWrongKey ∈ wsAll) (hdg : decode cc pc = .ok (.invokevirtual idx, 3)) (hf : tl_fit R (tl_R 0) nc ns 1 rest = true) (kk : ∀ (r : Int32) (S1 : SS) (A1 : AA), post r S1 A1 → tl_At l R nc ns Q D (wX q k) nL z (pc + 3) lv (.int r :: rest) (S1, A1)) : tl_At l R nc ns Q D (wX q k) nL z pc lv (.ref (q 10) :: rest) (S, A) :=
  tl_callVi (n := 0) (As := []) (b := q 10) (q0 := 10) (ci := 1) C (fun sz => cX_Lk_countWrongKey l D q k sz S A hw) in_366 in_6 in_364 in_365 (by decide +kernel) rfl ⟨rfl, rfl⟩ rfl rfl hl hf hdg kk
set_option maxHeartbeats 4000000 in
set_option maxRecDepth 100000 in
theorem cX_Lk_open (l : Launch) (D : va_G) (q : Nat → Nat) (k : Nat → ClassId) (sz : Nat) (S : SS) (A : AA) {post : SS → AA → Prop} (hw : wX_Lk_open post S A) : tl_Met l y_Lk_open b_Lk_open 1 none (tl_R 0) D (wX q k) (tX k) sz [.ref (q 10)] (S, A) (tl_Qv D (wX q k) (tX k) post) := by
  refine tl_met (own := R_Lk) (lv := [(0, .ref (q 10))]) (by decide) rfl rfl (Nat.le_of_ble_eq_true rfl) (fun z C => ?_)
  refine tl_aload_n (pc := 0) C d_Lk_open_0 rfl 0 rfl ?_
  refine tl_iconst (pc := 1) (v := 1) C d_Lk_open_1 (by decide) ?_
  refine pX_Lk_19 (pc := 2) C (by decide) d_Lk_open_2 ?_
  refine tl_aload_n (pc := 5) C d_Lk_open_5 rfl 0 rfl ?_
  refine tl_iconst (pc := 6) (v := 0) C d_Lk_open_6 (by decide) ?_
  refine pX_Lk_12 (pc := 7) C d_Lk_open_7 ?_
  exact tl_vret (pc := 10) C d_Lk_open_10 hw
theorem kX_Lk_open {l : Launch} {R : Room} {nc ns : Nat} {Q : tl_Z → State → Prop} {D : va_G} {q : Nat → Nat} {k : Nat → ClassId} {nL : Nat} {z : tl_Z} {cc : ByteArray} {ret : Option FieldType} {pc : Nat} {lv : List (Nat × Value)} {rest : List Value} {S : SS} {A : AA} {own : String} {idx : Nat} {post : SS → AA → Prop} (C : tl_Cx cc nL own ret D (tX k) z) (hw : wX_Lk_open post S A) (hl : Cond.methodLink own idx y_Lk_open ∈ wsAll) (hdg : decode cc pc = .ok (.invokevirtual idx, 3)) (hf : tl_fit R (tl_R 0) nc ns 1 rest = true) (kk : ∀ (S1 : SS) (A1 : AA), post S1 A1 → tl_At l R nc ns Q D (wX q k) nL z (pc + 3) lv (rest) (S1, A1)) : tl_At l R nc ns Q D (wX q k) nL z pc lv (.ref (q 10) :: rest) (S, A) :=
  tl_callVv (n := 0) (As := []) (b := q 10) (q0 := 10) (ci := 1) C (fun sz => cX_Lk_open l D q k sz S A hw) in_362 in_6 in_360 in_361 (by decide +kernel) rfl ⟨rfl, rfl⟩ rfl rfl hl hf hdg kk
set_option maxHeartbeats 4000000 in
set_option maxRecDepth 100000 in
theorem cX_T_tryKey (l : Launch) (D : va_G) (q : Nat → Nat) (k : Nat → ClassId) (sz : Nat) (S : SS) (A : AA) (x1 : Int32) {post : Int32 → SS → AA → Prop} (hw : wX_T_tryKey post S A x1) : tl_Met l y_T_tryKey b_T_tryKey 3 (some .int) (tl_R 2) D (wX q k) (tX k) sz [.ref (q 0), .int x1] (S, A) (tl_Qi D (wX q k) (tX k) post) := by
  refine tl_met (own := R_T) (lv := [(0, .ref (q 0)), (1, .int x1)]) (by decide) rfl rfl (Nat.le_of_ble_eq_true rfl) (fun z C => ?_)
  refine tl_aload_n (pc := 0) C d_T_tryKey_0 rfl 0 rfl ?_
  refine gX_T_38 (pc := 1) C d_T_tryKey_1 ?_
  refine kX_Lk_takeOpenSeed (pc := 4) C hw ml_T_235 d_T_tryKey_4 rfl (fun r4 S4 A4 hw => ?_)
  refine tl_istore_n (pc := 7) (lv' := [(2, .int r4), (0, .ref (q 0)), (1, .int x1)]) C d_T_tryKey_7 rfl (by decide) rfl ?_
  refine tl_iload_n (pc := 8) C d_T_tryKey_8 rfl 0 rfl ?_
  refine tl_if_ne (pc := 9) (tgt := 15) C d_T_tryKey_9 rfl (fun hc => ?_) (fun hc => ?_)
  · have hw := hw.1 hc
    refine tl_iload_n (pc := 15) C d_T_tryKey_15 rfl 2 rfl ?_
    refine tl_iconst (pc := 16) (v := 5) C d_T_tryKey_16 (by decide) ?_
    refine tl_iload_n (pc := 17) C d_T_tryKey_17 rfl 0 rfl ?_
    refine tl_imul (pc := 18) C d_T_tryKey_18 ?_
    refine tl_iconst (pc := 19) (v := 3) C d_T_tryKey_19 (by decide) ?_
    refine tl_iadd (pc := 20) C d_T_tryKey_20 ?_
    refine tl_sipush (pc := 21) (v := 255) C d_T_tryKey_21 (by decide) ?_
    refine tl_iand (pc := 24) C d_T_tryKey_24 ?_
    refine tl_icmp_ne (pc := 25) (tgt := 41) C d_T_tryKey_25 rfl (fun hc => ?_) (fun hc => ?_)
    · have hw := hw.1 hc
      refine tl_aload_n (pc := 41) C d_T_tryKey_41 rfl 1 rfl ?_
      refine gX_T_38 (pc := 42) C d_T_tryKey_42 ?_
      refine kX_Lk_countWrongKey (pc := 45) C hw ml_T_244 d_T_tryKey_45 rfl (fun r45 S45 A45 hw => ?_)
      refine tl_if_eq (pc := 48) (tgt := 56) C d_T_tryKey_48 rfl (fun hc => ?_) (fun hc => ?_)
      · have hw := hw.1 hc
        refine tl_bipush (pc := 56) (v := 53) C d_T_tryKey_56 (by decide) ?_
        exact tl_iret (pc := 58) C d_T_tryKey_58 hw
      · have hw := hw.2 hc
        refine tl_bipush (pc := 51) (v := 54) C d_T_tryKey_51 (by decide) ?_
        refine tl_goto (pc := 53) (tgt := 58) C d_T_tryKey_53 rfl ?_
        exact tl_iret (pc := 58) C d_T_tryKey_58 hw
    · have hw := hw.2 hc
      refine tl_aload_n (pc := 28) C d_T_tryKey_28 rfl 1 rfl ?_
      refine gX_T_38 (pc := 29) C d_T_tryKey_29 ?_
      refine kX_Lk_open (pc := 32) C hw ml_T_241 d_T_tryKey_32 rfl (fun S32 A32 hw => ?_)
      refine tl_aload_n (pc := 35) C d_T_tryKey_35 rfl 1 rfl ?_
      refine tl_iconst (pc := 36) (v := 2) C d_T_tryKey_36 (by decide) ?_
      refine kX_T_doneWith (pc := 37) C hw ml_T_211 d_T_tryKey_37 rfl (fun r37 S37 A37 hw => ?_)
      exact tl_iret (pc := 40) C d_T_tryKey_40 hw
  · have hw := hw.2 hc
    refine tl_bipush (pc := 12) (v := 36) C d_T_tryKey_12 (by decide) ?_
    exact tl_iret (pc := 14) C d_T_tryKey_14 hw
theorem kX_T_tryKey {l : Launch} {R : Room} {nc ns : Nat} {Q : tl_Z → State → Prop} {D : va_G} {q : Nat → Nat} {k : Nat → ClassId} {nL : Nat} {z : tl_Z} {cc : ByteArray} {ret : Option FieldType} {pc : Nat} {lv : List (Nat × Value)} {rest : List Value} {S : SS} {A : AA} {own : String} {idx : Nat} {x1 : Int32} {post : Int32 → SS → AA → Prop} (C : tl_Cx cc nL own ret D (tX k) z) (hw : wX_T_tryKey post S A x1) (hl : Cond.methodLink own idx y_T_tryKey ∈ wsAll) (hdg : decode cc pc = .ok (.invokevirtual idx, 3)) (hf : tl_fit R (tl_R 2) nc ns 3 rest = true) (kk : ∀ (r : Int32) (S1 : SS) (A1 : AA), post r S1 A1 → tl_At l R nc ns Q D (wX q k) nL z (pc + 3) lv (.int r :: rest) (S1, A1)) : tl_At l R nc ns Q D (wX q k) nL z pc lv (.int x1 :: .ref (q 0) :: rest) (S, A) :=
  tl_callVi (n := 1) (As := [.int x1]) (b := q 0) (q0 := 0) (ci := 6) C (fun sz => cX_T_tryKey l D q k sz S A x1 hw) in_358 in_1 in_357 ip_15 (by decide +kernel) rfl ⟨rfl, rfl⟩ rfl rfl hl hf hdg kk
theorem swX_T_serve_1_16 {σ : Type} {l : Launch} {R : Room} {nc ns : Nat} {Q : tl_Z → State → Prop} {D : va_G} {w : σ → va_W} {nL : Nat} {z : tl_Z} {own : String} {ret : Option FieldType} {tys : List (ClassId × FieldType)} {lv : List (Nat × Value)} {rest : List Value} {u : σ} {x : Int32} (C : tl_Cx b_T_serve nL own ret D tys z) (hc : x = (16 : Int32)) (kk : tl_At l R nc ns Q D w nL z 76 lv rest u) : tl_At l R nc ns Q D w nL z 1 lv (.int x :: rest) u := by
  subst hc
  obtain ⟨p, e, s, m, args, below, meth, c, F⟩ := z
  obtain ⟨hx, hb, hml, hown, hts, hN, hK, hA, hlk, hr⟩ := C
  exact fun ls H locs hl hP hD hS => lv_lookup (off := 75) hx hb d_T_serve_1 (by decide +kernel) (by decide +kernel) rfl (kk ls H locs hl hP hD hS)
theorem swX_T_serve_1_34 {σ : Type} {l : Launch} {R : Room} {nc ns : Nat} {Q : tl_Z → State → Prop} {D : va_G} {w : σ → va_W} {nL : Nat} {z : tl_Z} {own : String} {ret : Option FieldType} {tys : List (ClassId × FieldType)} {lv : List (Nat × Value)} {rest : List Value} {u : σ} {x : Int32} (C : tl_Cx b_T_serve nL own ret D tys z) (hc : x = (34 : Int32)) (kk : tl_At l R nc ns Q D w nL z 133 lv rest u) : tl_At l R nc ns Q D w nL z 1 lv (.int x :: rest) u := by
  subst hc
  obtain ⟨p, e, s, m, args, below, meth, c, F⟩ := z
  obtain ⟨hx, hb, hml, hown, hts, hN, hK, hA, hlk, hr⟩ := C
  exact fun ls H locs hl hP hD hS => lv_lookup (off := 132) hx hb d_T_serve_1 (by decide +kernel) (by decide +kernel) rfl (kk ls H locs hl hP hD hS)
theorem swX_T_serve_1_39 {σ : Type} {l : Launch} {R : Room} {nc ns : Nat} {Q : tl_Z → State → Prop} {D : va_G} {w : σ → va_W} {nL : Nat} {z : tl_Z} {own : String} {ret : Option FieldType} {tys : List (ClassId × FieldType)} {lv : List (Nat × Value)} {rest : List Value} {u : σ} {x : Int32} (C : tl_Cx b_T_serve nL own ret D tys z) (hc : x = (39 : Int32)) (kk : tl_At l R nc ns Q D w nL z 101 lv rest u) : tl_At l R nc ns Q D w nL z 1 lv (.int x :: rest) u := by
  subst hc
  obtain ⟨p, e, s, m, args, below, meth, c, F⟩ := z
  obtain ⟨hx, hb, hml, hown, hts, hN, hK, hA, hlk, hr⟩ := C
  exact fun ls H locs hl hP hD hS => lv_lookup (off := 100) hx hb d_T_serve_1 (by decide +kernel) (by decide +kernel) rfl (kk ls H locs hl hP hD hS)
theorem swX_T_serve_1_46 {σ : Type} {l : Launch} {R : Room} {nc ns : Nat} {Q : tl_Z → State → Prop} {D : va_G} {w : σ → va_W} {nL : Nat} {z : tl_Z} {own : String} {ret : Option FieldType} {tys : List (ClassId × FieldType)} {lv : List (Nat × Value)} {rest : List Value} {u : σ} {x : Int32} (C : tl_Cx b_T_serve nL own ret D tys z) (hc : x = (46 : Int32)) (kk : tl_At l R nc ns Q D w nL z 146 lv rest u) : tl_At l R nc ns Q D w nL z 1 lv (.int x :: rest) u := by
  subst hc
  obtain ⟨p, e, s, m, args, below, meth, c, F⟩ := z
  obtain ⟨hx, hb, hml, hown, hts, hN, hK, hA, hlk, hr⟩ := C
  exact fun ls H locs hl hP hD hS => lv_lookup (off := 145) hx hb d_T_serve_1 (by decide +kernel) (by decide +kernel) rfl (kk ls H locs hl hP hD hS)
theorem swX_T_serve_1_49 {σ : Type} {l : Launch} {R : Room} {nc ns : Nat} {Q : tl_Z → State → Prop} {D : va_G} {w : σ → va_W} {nL : Nat} {z : tl_Z} {own : String} {ret : Option FieldType} {tys : List (ClassId × FieldType)} {lv : List (Nat × Value)} {rest : List Value} {u : σ} {x : Int32} (C : tl_Cx b_T_serve nL own ret D tys z) (hc : x = (49 : Int32)) (kk : tl_At l R nc ns Q D w nL z 164 lv rest u) : tl_At l R nc ns Q D w nL z 1 lv (.int x :: rest) u := by
  subst hc
  obtain ⟨p, e, s, m, args, below, meth, c, F⟩ := z
  obtain ⟨hx, hb, hml, hown, hts, hN, hK, hA, hlk, hr⟩ := C
  exact fun ls H locs hl hP hD hS => lv_lookup (off := 163) hx hb d_T_serve_1 (by decide +kernel) (by decide +kernel) rfl (kk ls H locs hl hP hD hS)
theorem swX_T_serve_1_52 {σ : Type} {l : Launch} {R : Room} {nc ns : Nat} {Q : tl_Z → State → Prop} {D : va_G} {w : σ → va_W} {nL : Nat} {z : tl_Z} {own : String} {ret : Option FieldType} {tys : List (ClassId × FieldType)} {lv : List (Nat × Value)} {rest : List Value} {u : σ} {x : Int32} (C : tl_Cx b_T_serve nL own ret D tys z) (hc : x = (52 : Int32)) (kk : tl_At l R nc ns Q D w nL z 185 lv rest u) : tl_At l R nc ns Q D w nL z 1 lv (.int x :: rest) u := by
  subst hc
  obtain ⟨p, e, s, m, args, below, meth, c, F⟩ := z
  obtain ⟨hx, hb, hml, hown, hts, hN, hK, hA, hlk, hr⟩ := C
  exact fun ls H locs hl hP hD hS => lv_lookup (off := 184) hx hb d_T_serve_1 (by decide +kernel) (by decide +kernel) rfl (kk ls H locs hl hP hD hS)
theorem swX_T_serve_1_54 {σ : Type} {l : Launch} {R : Room} {nc ns : Nat} {Q : tl_Z → State → Prop} {D : va_G} {w : σ → va_W} {nL : Nat} {z : tl_Z} {own : String} {ret : Option FieldType} {tys : List (ClassId × FieldType)} {lv : List (Nat × Value)} {rest : List Value} {u : σ} {x : Int32} (C : tl_Cx b_T_serve nL own ret D tys z) (hc : x = (54 : Int32)) (kk : tl_At l R nc ns Q D w nL z 206 lv rest u) : tl_At l R nc ns Q D w nL z 1 lv (.int x :: rest) u := by
  subst hc
  obtain ⟨p, e, s, m, args, below, meth, c, F⟩ := z
  obtain ⟨hx, hb, hml, hown, hts, hN, hK, hA, hlk, hr⟩ := C
  exact fun ls H locs hl hP hD hS => lv_lookup (off := 205) hx hb d_T_serve_1 (by decide +kernel) (by decide +kernel) rfl (kk ls H locs hl hP hD hS)
theorem swX_T_serve_1_55 {σ : Type} {l : Launch} {R : Room} {nc ns : Nat} {Q : tl_Z → State → Prop} {D : va_G} {w : σ → va_W} {nL : Nat} {z : tl_Z} {own : String} {ret : Option FieldType} {tys : List (ClassId × FieldType)} {lv : List (Nat × Value)} {rest : List Value} {u : σ} {x : Int32} (C : tl_Cx b_T_serve nL own ret D tys z) (hc : x = (55 : Int32)) (kk : tl_At l R nc ns Q D w nL z 228 lv rest u) : tl_At l R nc ns Q D w nL z 1 lv (.int x :: rest) u := by
  subst hc
  obtain ⟨p, e, s, m, args, below, meth, c, F⟩ := z
  obtain ⟨hx, hb, hml, hown, hts, hN, hK, hA, hlk, hr⟩ := C
  exact fun ls H locs hl hP hD hS => lv_lookup (off := 227) hx hb d_T_serve_1 (by decide +kernel) (by decide +kernel) rfl (kk ls H locs hl hP hD hS)
theorem swX_T_serve_1_d {σ : Type} {l : Launch} {R : Room} {nc ns : Nat} {Q : tl_Z → State → Prop} {D : va_G} {w : σ → va_W} {nL : Nat} {z : tl_Z} {own : String} {ret : Option FieldType} {tys : List (ClassId × FieldType)} {lv : List (Nat × Value)} {rest : List Value} {u : σ} {x : Int32} (C : tl_Cx b_T_serve nL own ret D tys z) (h0 : ¬ x = (16 : Int32)) (h1 : ¬ x = (34 : Int32)) (h2 : ¬ x = (39 : Int32)) (h3 : ¬ x = (46 : Int32)) (h4 : ¬ x = (49 : Int32)) (h5 : ¬ x = (52 : Int32)) (h6 : ¬ x = (54 : Int32)) (h7 : ¬ x = (55 : Int32)) (kk : tl_At l R nc ns Q D w nL z 233 lv rest u) : tl_At l R nc ns Q D w nL z 1 lv (.int x :: rest) u := by
  obtain ⟨p, e, s, m, args, below, meth, c, F⟩ := z
  obtain ⟨hx, hb, hml, hown, hts, hN, hK, hA, hlk, hr⟩ := C
  exact fun ls H locs hl hP hD hS => lv_lookup (off := 232) hx hb d_T_serve_1 (by decide +kernel) ((lv_osw h0 (by decide)).trans ((lv_osw h1 (by decide)).trans ((lv_osw h2 (by decide)).trans ((lv_osw h3 (by decide)).trans ((lv_osw h4 (by decide)).trans ((lv_osw h5 (by decide)).trans ((lv_osw h6 (by decide)).trans ((lv_osw h7 (by decide)).trans rfl)))))))) rfl (kk ls H locs hl hP hD hS)
set_option maxHeartbeats 4000000 in
set_option maxRecDepth 100000 in
theorem cX_T_serve (l : Launch) (D : va_G) (q : Nat → Nat) (k : Nat → ClassId) (sz : Nat) (S : SS) (A : AA) (x1 : Int32) {post : Int32 → SS → AA → Prop} (hw : wX_T_serve post S A x1) : tl_Met l y_T_serve b_T_serve 2 (some .int) (tl_R 4) D (wX q k) (tX k) sz [.ref (q 0), .int x1] (S, A) (tl_Qi D (wX q k) (tX k) post) := by
  refine tl_met (own := R_T) (lv := [(0, .ref (q 0)), (1, .int x1)]) (by decide) rfl rfl (Nat.le_of_ble_eq_true rfl) (fun z C => ?_)
  refine tl_iload_n (pc := 0) C d_T_serve_0 rfl 1 rfl ?_
  by_cases hc : x1 = (16 : Int32)
  · have hw := hw.1 hc
    refine swX_T_serve_1_16 C hc ?_
    refine tl_aload_n (pc := 76) C d_T_serve_76 rfl 0 rfl ?_
    refine tl_aload_n (pc := 77) C d_T_serve_77 rfl 0 rfl ?_
    refine gX_T_19 (pc := 78) C d_T_serve_78 ?_
    refine tl_iconst (pc := 81) (v := 1) C d_T_serve_81 (by decide) ?_
    refine kX_Rc_at (pc := 82) C hw ml_T_174 d_T_serve_82 rfl (fun r82 S82 A82 hw => ?_)
    refine kX_T_changeSession (pc := 85) C hw ml_T_104 d_T_serve_85 rfl (fun S85 A85 hw => ?_)
    refine tl_aload_n (pc := 88) C d_T_serve_88 rfl 0 rfl ?_
    refine tl_aload_n (pc := 89) C d_T_serve_89 rfl 0 rfl ?_
    refine gX_T_19 (pc := 90) C d_T_serve_90 ?_
    refine tl_iconst (pc := 93) (v := 1) C d_T_serve_93 (by decide) ?_
    refine kX_Rc_at (pc := 94) C hw ml_T_174 d_T_serve_94 rfl (fun r94 S94 A94 hw => ?_)
    refine kX_T_doneWith (pc := 97) C hw ml_T_211 d_T_serve_97 rfl (fun r97 S97 A97 hw => ?_)
    exact tl_iret (pc := 100) C d_T_serve_100 hw
  · have hw := hw.2 hc
    have hc0 := hc
    by_cases hc : x1 = (34 : Int32)
    · have hw := hw.1 hc
      refine swX_T_serve_1_34 C hc ?_
      refine tl_aload_n (pc := 133) C d_T_serve_133 rfl 0 rfl ?_
      refine tl_aload_n (pc := 134) C d_T_serve_134 rfl 0 rfl ?_
      refine gX_T_19 (pc := 135) C d_T_serve_135 ?_
      refine tl_iconst (pc := 138) (v := 1) C d_T_serve_138 (by decide) ?_
      refine kX_Rc_at (pc := 139) C hw ml_T_174 d_T_serve_139 rfl (fun r139 S139 A139 hw => ?_)
      refine kX_T_read (pc := 142) C hw ml_T_220 d_T_serve_142 rfl (fun r142 S142 A142 hw => ?_)
      exact tl_iret (pc := 145) C d_T_serve_145 hw
    · have hw := hw.2 hc
      have hc1 := hc
      by_cases hc : x1 = (39 : Int32)
      · have hw := hw.1 hc
        refine swX_T_serve_1_39 C hc ?_
        refine tl_aload_n (pc := 101) C d_T_serve_101 rfl 0 rfl ?_
        refine gX_T_19 (pc := 102) C d_T_serve_102 ?_
        refine tl_iconst (pc := 105) (v := 1) C d_T_serve_105 (by decide) ?_
        refine kX_Rc_at (pc := 106) C hw ml_T_174 d_T_serve_106 rfl (fun r106 S106 A106 hw => ?_)
        refine tl_iconst (pc := 109) (v := 1) C d_T_serve_109 (by decide) ?_
        refine tl_icmp_ne (pc := 110) (tgt := 120) C d_T_serve_110 rfl (fun hc => ?_) (fun hc => ?_)
        · have hw := hw.1 hc
          refine tl_aload_n (pc := 120) C d_T_serve_120 rfl 0 rfl ?_
          refine tl_aload_n (pc := 121) C d_T_serve_121 rfl 0 rfl ?_
          refine gX_T_19 (pc := 122) C d_T_serve_122 ?_
          refine tl_iconst (pc := 125) (v := 2) C d_T_serve_125 (by decide) ?_
          refine kX_Rc_at (pc := 126) C hw ml_T_174 d_T_serve_126 rfl (fun r126 S126 A126 hw => ?_)
          refine kX_T_tryKey (pc := 129) C hw ml_T_217 d_T_serve_129 rfl (fun r129 S129 A129 hw => ?_)
          exact tl_iret (pc := 132) C d_T_serve_132 hw
        · have hw := hw.2 hc
          refine tl_aload_n (pc := 113) C d_T_serve_113 rfl 0 rfl ?_
          refine kX_T_giveSeed (pc := 114) C hw ml_T_214 d_T_serve_114 rfl (fun r114 S114 A114 hw => ?_)
          refine tl_goto (pc := 117) (tgt := 132) C d_T_serve_117 rfl ?_
          exact tl_iret (pc := 132) C d_T_serve_132 hw
      · have hw := hw.2 hc
        have hc2 := hc
        by_cases hc : x1 = (46 : Int32)
        · have hw := hw.1 hc
          refine swX_T_serve_1_46 C hc ?_
          refine tl_aload_n (pc := 146) C d_T_serve_146 rfl 0 rfl ?_
          refine tl_aload_n (pc := 147) C d_T_serve_147 rfl 0 rfl ?_
          refine gX_T_19 (pc := 148) C d_T_serve_148 ?_
          refine tl_iconst (pc := 151) (v := 2) C d_T_serve_151 (by decide) ?_
          refine kX_Rc_at (pc := 152) C hw ml_T_174 d_T_serve_152 rfl (fun r152 S152 A152 hw => ?_)
          refine pX_T_149 (pc := 155) C d_T_serve_155 ?_
          refine tl_aload_n (pc := 158) C d_T_serve_158 rfl 0 rfl ?_
          refine tl_iconst (pc := 159) (v := 1) C d_T_serve_159 (by decide) ?_
          refine kX_T_doneWith (pc := 160) C hw ml_T_211 d_T_serve_160 rfl (fun r160 S160 A160 hw => ?_)
          exact tl_iret (pc := 163) C d_T_serve_163 hw
        · have hw := hw.2 hc
          have hc3 := hc
          by_cases hc : x1 = (49 : Int32)
          · have hw := hw.1 hc
            refine swX_T_serve_1_49 C hc ?_
            refine tl_aload_n (pc := 164) C d_T_serve_164 rfl 0 rfl ?_
            refine tl_aload_n (pc := 165) C d_T_serve_165 rfl 0 rfl ?_
            refine gX_T_19 (pc := 166) C d_T_serve_166 ?_
            refine tl_iconst (pc := 169) (v := 2) C d_T_serve_169 (by decide) ?_
            refine kX_Rc_at (pc := 170) C hw ml_T_174 d_T_serve_170 rfl (fun r170 S170 A170 hw => ?_)
            refine tl_aload_n (pc := 173) C d_T_serve_173 rfl 0 rfl ?_
            refine gX_T_19 (pc := 174) C d_T_serve_174 ?_
            refine tl_iconst (pc := 177) (v := 3) C d_T_serve_177 (by decide) ?_
            refine kX_Rc_at (pc := 178) C hw ml_T_174 d_T_serve_178 rfl (fun r178 S178 A178 hw => ?_)
            refine kX_T_runRoutine (pc := 181) C hw ml_T_223 d_T_serve_181 rfl (fun r181 S181 A181 hw => ?_)
            exact tl_iret (pc := 184) C d_T_serve_184 hw
          · have hw := hw.2 hc
            have hc4 := hc
            by_cases hc : x1 = (52 : Int32)
            · have hw := hw.1 hc
              refine swX_T_serve_1_52 C hc ?_
              refine tl_aload_n (pc := 185) C d_T_serve_185 rfl 0 rfl ?_
              refine tl_aload_n (pc := 186) C d_T_serve_186 rfl 0 rfl ?_
              refine gX_T_19 (pc := 187) C d_T_serve_187 ?_
              refine tl_iconst (pc := 190) (v := 1) C d_T_serve_190 (by decide) ?_
              refine kX_Rc_at (pc := 191) C hw ml_T_174 d_T_serve_191 rfl (fun r191 S191 A191 hw => ?_)
              refine tl_aload_n (pc := 194) C d_T_serve_194 rfl 0 rfl ?_
              refine gX_T_19 (pc := 195) C d_T_serve_195 ?_
              refine tl_iconst (pc := 198) (v := 2) C d_T_serve_198 (by decide) ?_
              refine kX_Rc_at (pc := 199) C hw ml_T_174 d_T_serve_199 rfl (fun r199 S199 A199 hw => ?_)
              refine kX_T_beginDownload (pc := 202) C hw ml_T_226 d_T_serve_202 rfl (fun r202 S202 A202 hw => ?_)
              exact tl_iret (pc := 205) C d_T_serve_205 hw
            · have hw := hw.2 hc
              have hc5 := hc
              by_cases hc : x1 = (54 : Int32)
              · have hw := hw.1 hc
                refine swX_T_serve_1_54 C hc ?_
                refine tl_aload_n (pc := 206) C d_T_serve_206 rfl 0 rfl ?_
                refine tl_aload_n (pc := 207) C d_T_serve_207 rfl 0 rfl ?_
                refine gX_T_19 (pc := 208) C d_T_serve_208 ?_
                refine tl_iconst (pc := 211) (v := 1) C d_T_serve_211 (by decide) ?_
                refine kX_Rc_at (pc := 212) C hw ml_T_174 d_T_serve_212 rfl (fun r212 S212 A212 hw => ?_)
                refine tl_aload_n (pc := 215) C d_T_serve_215 rfl 0 rfl ?_
                refine gX_T_19 (pc := 216) C d_T_serve_216 ?_
                refine gX_T_208 (pc := 219) (v := (S212 7)) C rfl d_T_serve_219 ?_
                refine tl_iconst (pc := 222) (v := 2) C d_T_serve_222 (by decide) ?_
                refine tl_isub (pc := 223) C d_T_serve_223 ?_
                refine kX_T_takeBlock (pc := 224) C hw ml_T_229 d_T_serve_224 rfl (fun r224 S224 A224 hw => ?_)
                exact tl_iret (pc := 227) C d_T_serve_227 hw
              · have hw := hw.2 hc
                have hc6 := hc
                by_cases hc : x1 = (55 : Int32)
                · have hw := hw.1 hc
                  refine swX_T_serve_1_55 C hc ?_
                  refine tl_aload_n (pc := 228) C d_T_serve_228 rfl 0 rfl ?_
                  refine kX_T_endDownload (pc := 229) C hw ml_T_232 d_T_serve_229 rfl (fun r229 S229 A229 hw => ?_)
                  exact tl_iret (pc := 232) C d_T_serve_232 hw
                · have hw := hw.2 hc
                  have hc7 := hc
                  refine swX_T_serve_1_d C hc0 hc1 hc2 hc3 hc4 hc5 hc6 hc7 ?_
                  refine tl_aload_n (pc := 233) C d_T_serve_233 rfl 0 rfl ?_
                  refine tl_aload_n (pc := 234) C d_T_serve_234 rfl 0 rfl ?_
                  refine gX_T_19 (pc := 235) C d_T_serve_235 ?_
                  refine tl_iconst (pc := 238) (v := 1) C d_T_serve_238 (by decide) ?_
                  refine kX_Rc_at (pc := 239) C hw ml_T_174 d_T_serve_239 rfl (fun r239 S239 A239 hw => ?_)
                  refine kX_T_doneWith (pc := 242) C hw ml_T_211 d_T_serve_242 rfl (fun r242 S242 A242 hw => ?_)
                  exact tl_iret (pc := 245) C d_T_serve_245 hw
theorem kX_T_serve {l : Launch} {R : Room} {nc ns : Nat} {Q : tl_Z → State → Prop} {D : va_G} {q : Nat → Nat} {k : Nat → ClassId} {nL : Nat} {z : tl_Z} {cc : ByteArray} {ret : Option FieldType} {pc : Nat} {lv : List (Nat × Value)} {rest : List Value} {S : SS} {A : AA} {own : String} {idx : Nat} {x1 : Int32} {post : Int32 → SS → AA → Prop} (C : tl_Cx cc nL own ret D (tX k) z) (hw : wX_T_serve post S A x1) (hl : Cond.methodLink own idx y_T_serve ∈ wsAll) (hdg : decode cc pc = .ok (.invokevirtual idx, 3)) (hf : tl_fit R (tl_R 4) nc ns 2 rest = true) (kk : ∀ (r : Int32) (S1 : SS) (A1 : AA), post r S1 A1 → tl_At l R nc ns Q D (wX q k) nL z (pc + 3) lv (.int r :: rest) (S1, A1)) : tl_At l R nc ns Q D (wX q k) nL z pc lv (.int x1 :: .ref (q 0) :: rest) (S, A) :=
  tl_callVi (n := 1) (As := [.int x1]) (b := q 0) (q0 := 0) (ci := 6) C (fun sz => cX_T_serve l D q k sz S A x1 hw) in_332 in_1 in_331 ip_11 (by decide +kernel) rfl ⟨rfl, rfl⟩ rfl rfl hl hf hdg kk
set_option maxHeartbeats 4000000 in
set_option maxRecDepth 100000 in
theorem cX_T_workOnRequest (l : Launch) (D : va_G) (q : Nat → Nat) (k : Nat → ClassId) (sz : Nat) (S : SS) (A : AA) {post : SS → AA → Prop} (hw : wX_T_workOnRequest post S A) : tl_Met l y_T_workOnRequest b_T_workOnRequest 3 none (tl_R 5) D (wX q k) (tX k) sz [.ref (q 0)] (S, A) (tl_Qv D (wX q k) (tX k) post) := by
  refine tl_met (own := R_T) (lv := [(0, .ref (q 0))]) (by decide) rfl rfl (Nat.le_of_ble_eq_true rfl) (fun z C => ?_)
  have B80 : ∀ (S : SS) (A : AA) (x1 x2 : Int32), wX_T_workOnRequest_80 post S A x1 x2 → tl_At l (tl_R 5) 0 0 (tl_M 0 0 (tl_Qv D (wX q k) (tX k) post)) D (wX q k) 3 z 80 [(0, .ref (q 0)), (1, .int x1), (2, .int x2)] [] (S, A) := by
    intro S A x1 x2 hw
    refine tl_aload_n (pc := 80) C d_T_workOnRequest_80 rfl 0 rfl ?_
    refine gX_T_26 (pc := 81) C d_T_workOnRequest_81 ?_
    refine kX_Sd_send (pc := 84) C hw ml_T_189 d_T_workOnRequest_84 rfl (fun S84 A84 hw => ?_)
    refine tl_iload_n (pc := 87) C d_T_workOnRequest_87 rfl 1 rfl ?_
    refine tl_bipush (pc := 88) (v := 17) C d_T_workOnRequest_88 (by decide) ?_
    refine tl_icmp_ne (pc := 90) (tgt := 101) C d_T_workOnRequest_90 rfl (fun hc => ?_) (fun hc => ?_)
    · have hw := hw.1 hc
      exact tl_vret (pc := 101) C d_T_workOnRequest_101 hw
    · have hw := hw.2 hc
      refine tl_iload_n (pc := 93) C d_T_workOnRequest_93 rfl 2 rfl ?_
      refine tl_if_ne (pc := 94) (tgt := 101) C d_T_workOnRequest_94 rfl (fun hc => ?_) (fun hc => ?_)
      · have hw := hw.1 hc
        exact tl_vret (pc := 101) C d_T_workOnRequest_101 hw
      · have hw := hw.2 hc
        refine tl_aload_n (pc := 97) C d_T_workOnRequest_97 rfl 0 rfl ?_
        refine kX_T_boot (pc := 98) C hw ml_T_53 d_T_workOnRequest_98 rfl (fun S98 A98 hw => ?_)
        exact tl_vret (pc := 101) C d_T_workOnRequest_101 hw
  have B41 : ∀ (S : SS) (A : AA) (x1 x2 : Int32), wX_T_workOnRequest_41 post S A x1 x2 → tl_At l (tl_R 5) 0 0 (tl_M 0 0 (tl_Qv D (wX q k) (tX k) post)) D (wX q k) 3 z 41 [(0, .ref (q 0)), (1, .int x1), (2, .int x2)] [] (S, A) := by
    intro S A x1 x2 hw
    refine tl_iload_n (pc := 41) C d_T_workOnRequest_41 rfl 2 rfl ?_
    refine tl_iconst (pc := 42) (v := -1) C d_T_workOnRequest_42 (by decide) ?_
    refine tl_icmp_ne (pc := 43) (tgt := 51) C d_T_workOnRequest_43 rfl (fun hc => ?_) (fun hc => ?_)
    · have hw := hw.1 hc
      refine tl_iload_n (pc := 51) C d_T_workOnRequest_51 rfl 2 rfl ?_
      refine tl_if_eq (pc := 52) (tgt := 80) C d_T_workOnRequest_52 rfl (fun hc => ?_) (fun hc => ?_)
      · have hw := hw.1 hc
        exact tl_sub [0, 1, 2] rfl (B80 _ _ _ _ hw)
      · have hw := hw.2 hc
        refine tl_aload_n (pc := 55) C d_T_workOnRequest_55 rfl 0 rfl ?_
        refine gX_T_26 (pc := 56) C d_T_workOnRequest_56 ?_
        refine tl_bipush (pc := 59) (v := 127) C d_T_workOnRequest_59 (by decide) ?_
        refine kX_Sd_begin (pc := 61) C hw ml_T_177 d_T_workOnRequest_61 rfl (fun S61 A61 hw => ?_)
        refine tl_aload_n (pc := 64) C d_T_workOnRequest_64 rfl 0 rfl ?_
        refine gX_T_26 (pc := 65) C d_T_workOnRequest_65 ?_
        refine tl_iload_n (pc := 68) C d_T_workOnRequest_68 rfl 1 rfl ?_
        refine kX_Sd_add (pc := 69) C hw ml_T_186 d_T_workOnRequest_69 rfl (fun S69 A69 hw => ?_)
        refine tl_aload_n (pc := 72) C d_T_workOnRequest_72 rfl 0 rfl ?_
        refine gX_T_26 (pc := 73) C d_T_workOnRequest_73 ?_
        refine tl_iload_n (pc := 76) C d_T_workOnRequest_76 rfl 2 rfl ?_
        refine kX_Sd_add (pc := 77) C hw ml_T_186 d_T_workOnRequest_77 rfl (fun S77 A77 hw => ?_)
        exact tl_sub [0, 1, 2] rfl (B80 _ _ _ _ hw)
    · have hw := hw.2 hc
      refine tl_aload_n (pc := 46) C d_T_workOnRequest_46 rfl 0 rfl ?_
      refine kX_T_bootAfresh (pc := 47) C hw ml_T_114 d_T_workOnRequest_47 rfl (fun S47 A47 hw => ?_)
      exact tl_vret (pc := 50) C d_T_workOnRequest_50 hw
  refine tl_aload_n (pc := 0) C d_T_workOnRequest_0 rfl 0 rfl ?_
  refine tl_iconst (pc := 1) (v := 0) C d_T_workOnRequest_1 (by decide) ?_
  refine pX_T_95 (pc := 2) C d_T_workOnRequest_2 ?_
  refine tl_aload_n (pc := 5) C d_T_workOnRequest_5 rfl 0 rfl ?_
  refine gX_T_19 (pc := 6) C d_T_workOnRequest_6 ?_
  refine tl_iconst (pc := 9) (v := 0) C d_T_workOnRequest_9 (by decide) ?_
  refine kX_Rc_at (pc := 10) C hw ml_T_174 d_T_workOnRequest_10 rfl (fun r10 S10 A10 hw => ?_)
  refine tl_istore_n (pc := 13) (lv' := [(1, .int r10), (0, .ref (q 0))]) C d_T_workOnRequest_13 rfl (by decide) rfl ?_
  refine tl_aload_n (pc := 14) C d_T_workOnRequest_14 rfl 1 rfl ?_
  refine gX_T_26 (pc := 15) C d_T_workOnRequest_15 ?_
  refine tl_iload_n (pc := 18) C d_T_workOnRequest_18 rfl 0 rfl ?_
  refine tl_bipush (pc := 19) (v := 64) C d_T_workOnRequest_19 (by decide) ?_
  refine tl_iadd (pc := 21) C d_T_workOnRequest_21 ?_
  refine kX_Sd_begin (pc := 22) C hw ml_T_177 d_T_workOnRequest_22 rfl (fun S22 A22 hw => ?_)
  refine tl_aload_n (pc := 25) C d_T_workOnRequest_25 rfl 1 rfl ?_
  refine tl_iload_n (pc := 26) C d_T_workOnRequest_26 rfl 0 rfl ?_
  refine kX_T_refusal (pc := 27) C hw ml_T_180 d_T_workOnRequest_27 rfl (fun r27 S27 A27 hw => ?_)
  refine tl_istore_n (pc := 30) (lv' := [(2, .int r27), (1, .int r10), (0, .ref (q 0))]) C d_T_workOnRequest_30 rfl (by decide) rfl ?_
  refine tl_iload_n (pc := 31) C d_T_workOnRequest_31 rfl 0 rfl ?_
  refine tl_if_ne (pc := 32) (tgt := 41) C d_T_workOnRequest_32 rfl (fun hc => ?_) (fun hc => ?_)
  · have hw := hw.1 hc
    exact tl_sub [2, 1, 0] rfl (B41 _ _ _ _ hw)
  · have hw := hw.2 hc
    refine tl_aload_n (pc := 35) C d_T_workOnRequest_35 rfl 2 rfl ?_
    refine tl_iload_n (pc := 36) C d_T_workOnRequest_36 rfl 1 rfl ?_
    refine kX_T_serve (pc := 37) C hw ml_T_183 d_T_workOnRequest_37 rfl (fun r37 S37 A37 hw => ?_)
    refine tl_istore_n (pc := 40) (lv' := [(2, .int r37), (1, .int r10), (0, .ref (q 0))]) C d_T_workOnRequest_40 rfl (by decide) rfl ?_
    exact tl_sub [2, 1, 0] rfl (B41 _ _ _ _ hw)
theorem kX_T_workOnRequest {l : Launch} {R : Room} {nc ns : Nat} {Q : tl_Z → State → Prop} {D : va_G} {q : Nat → Nat} {k : Nat → ClassId} {nL : Nat} {z : tl_Z} {cc : ByteArray} {ret : Option FieldType} {pc : Nat} {lv : List (Nat × Value)} {rest : List Value} {S : SS} {A : AA} {own : String} {idx : Nat} {post : SS → AA → Prop} (C : tl_Cx cc nL own ret D (tX k) z) (hw : wX_T_workOnRequest post S A) (hl : Cond.methodLink own idx y_T_workOnRequest ∈ wsAll) (hdg : decode cc pc = .ok (.invokevirtual idx, 3)) (hf : tl_fit R (tl_R 5) nc ns 3 rest = true) (kk : ∀ (S1 : SS) (A1 : AA), post S1 A1 → tl_At l R nc ns Q D (wX q k) nL z (pc + 3) lv (rest) (S1, A1)) : tl_At l R nc ns Q D (wX q k) nL z pc lv (.ref (q 0) :: rest) (S, A) :=
  tl_callVv (n := 0) (As := []) (b := q 0) (q0 := 0) (ci := 6) C (fun sz => cX_T_workOnRequest l D q k sz S A hw) in_294 in_1 in_293 ip_6 (by decide +kernel) rfl ⟨rfl, rfl⟩ rfl rfl hl hf hdg kk
set_option maxHeartbeats 4000000 in
set_option maxRecDepth 100000 in
theorem cX_T_frame (l : Launch) (D : va_G) (q : Nat → Nat) (k : Nat → ClassId) (sz : Nat) (S : SS) (A : AA) (x1 x2 : Int32) {post : Int32 → SS → AA → Prop} (hw : wX_T_frame post S A x1 x2) : tl_Met l y_T_frame b_T_frame 5 (some .int) (tl_R 6) D (wX q k) (tX k) sz [.ref (q 0), .int x1, .int x2] (S, A) (tl_Qi D (wX q k) (tX k) post) := by
  refine tl_met (own := R_T) (lv := [(0, .ref (q 0)), (1, .int x1), (2, .int x2)]) (by decide) rfl rfl (Nat.le_of_ble_eq_true rfl) (fun z C => ?_)
  have B80 : ∀ (S : SS) (A : AA), wX_T_frame_80 post S A → tl_At l (tl_R 6) 0 0 (tl_M 0 0 (tl_Qi D (wX q k) (tX k) post)) D (wX q k) 5 z 80 [(0, .ref (q 0))] [] (S, A) := by
    intro S A hw
    refine tl_aload_n (pc := 80) C d_T_frame_80 rfl 0 rfl ?_
    refine gX_T_34 (pc := 81) C d_T_frame_81 ?_
    refine gX_T_78 (pc := 84) (v := (S 17)) C rfl d_T_frame_84 ?_
    exact tl_iret (pc := 87) C d_T_frame_87 hw
  have B33 : ∀ (S : SS) (A : AA) (x1 x2 : Int32), wX_T_frame_33 post S A x1 x2 → tl_At l (tl_R 6) 0 0 (tl_M 0 0 (tl_Qi D (wX q k) (tX k) post)) D (wX q k) 5 z 33 [(0, .ref (q 0)), (1, .int x1), (2, .int x2)] [] (S, A) := by
    intro S A x1 x2 hw
    refine tl_aload_n (pc := 33) C d_T_frame_33 rfl 0 rfl ?_
    refine gX_T_26 (pc := 34) C d_T_frame_34 ?_
    refine gX_T_64 (pc := 37) (v := (S 15)) C rfl d_T_frame_37 ?_
    refine tl_if_ne (pc := 40) (tgt := 80) C d_T_frame_40 rfl (fun hc => ?_) (fun hc => ?_)
    · have hw := hw.1 hc
      exact tl_sub [0] rfl (B80 _ _ hw)
    · have hw := hw.2 hc
      refine tl_aload_n (pc := 43) C d_T_frame_43 rfl 0 rfl ?_
      refine gX_T_19 (pc := 44) C d_T_frame_44 ?_
      refine tl_iload_n (pc := 47) C d_T_frame_47 rfl 1 rfl ?_
      refine tl_iload_n (pc := 48) C d_T_frame_48 rfl 2 rfl ?_
      refine kX_Rc_accept (pc := 49) C hw ml_T_68 d_T_frame_49 rfl (fun r49 S49 A49 hw => ?_)
      refine tl_istore (pc := 52) (lv' := [(4, .int r49), (0, .ref (q 0)), (1, .int x1), (2, .int x2)]) C d_T_frame_52 (by decide) rfl ?_
      refine tl_iload (pc := 54) C d_T_frame_54 0 rfl ?_
      refine tl_iconst (pc := 56) (v := 1) C d_T_frame_56 (by decide) ?_
      refine tl_icmp_ne (pc := 57) (tgt := 70) C d_T_frame_57 rfl (fun hc => ?_) (fun hc => ?_)
      · have hw := hw.1 hc
        refine tl_iload (pc := 70) C d_T_frame_70 0 rfl ?_
        refine tl_iconst (pc := 72) (v := 2) C d_T_frame_72 (by decide) ?_
        refine tl_icmp_ne (pc := 73) (tgt := 80) C d_T_frame_73 rfl (fun hc => ?_) (fun hc => ?_)
        · have hw := hw.1 hc
          exact tl_sub [1] rfl (B80 _ _ hw)
        · have hw := hw.2 hc
          refine tl_aload_n (pc := 76) C d_T_frame_76 rfl 1 rfl ?_
          refine kX_T_workOnRequest (pc := 77) C hw ml_T_75 d_T_frame_77 rfl (fun S77 A77 hw => ?_)
          exact tl_sub [1] rfl (B80 _ _ hw)
      · have hw := hw.2 hc
        refine tl_aload_n (pc := 60) C d_T_frame_60 rfl 1 rfl ?_
        refine gX_T_26 (pc := 61) C d_T_frame_61 ?_
        refine kX_Sd_askForMore (pc := 64) C hw ml_T_72 d_T_frame_64 rfl (fun S64 A64 hw => ?_)
        refine tl_goto (pc := 67) (tgt := 80) C d_T_frame_67 rfl ?_
        exact tl_sub [1] rfl (B80 _ _ hw)
  refine tl_iload_n (pc := 0) C d_T_frame_0 rfl 1 rfl ?_
  refine tl_iload_n (pc := 1) C d_T_frame_1 rfl 2 rfl ?_
  refine tl_iconst (pc := 2) (v := 0) C d_T_frame_2 (by decide) ?_
  refine kX_T_byteOf (pc := 3) C hw ml_T_56 d_T_frame_3 rfl (fun r3 S3 A3 hw => ?_)
  refine tl_istore_n (pc := 6) (lv' := [(3, .int r3), (0, .ref (q 0)), (1, .int x1), (2, .int x2)]) C d_T_frame_6 rfl (by decide) rfl ?_
  refine tl_iload_n (pc := 7) C d_T_frame_7 rfl 0 rfl ?_
  refine tl_bipush (pc := 8) (v := 48) C d_T_frame_8 (by decide) ?_
  refine tl_icmp_lt (pc := 10) (tgt := 33) C d_T_frame_10 rfl (fun hc => ?_) (fun hc => ?_)
  · have hw := hw.1 hc
    exact tl_sub [1, 2, 3] rfl (B33 _ _ _ _ hw)
  · have hw := hw.2 hc
    refine tl_iload_n (pc := 13) C d_T_frame_13 rfl 0 rfl ?_
    refine tl_bipush (pc := 14) (v := 50) C d_T_frame_14 (by decide) ?_
    refine tl_icmp_gt (pc := 16) (tgt := 33) C d_T_frame_16 rfl (fun hc => ?_) (fun hc => ?_)
    · have hw := hw.1 hc
      exact tl_sub [1, 2, 3] rfl (B33 _ _ _ _ hw)
    · have hw := hw.2 hc
      refine tl_aload_n (pc := 19) C d_T_frame_19 rfl 1 rfl ?_
      refine tl_iload_n (pc := 20) C d_T_frame_20 rfl 0 rfl ?_
      refine tl_iload_n (pc := 21) C d_T_frame_21 rfl 2 rfl ?_
      refine tl_iload_n (pc := 22) C d_T_frame_22 rfl 3 rfl ?_
      refine tl_iconst (pc := 23) (v := 1) C d_T_frame_23 (by decide) ?_
      refine kX_T_byteOf (pc := 24) C hw ml_T_56 d_T_frame_24 rfl (fun r24 S24 A24 hw => ?_)
      refine kX_T_steerAnswer (pc := 27) C hw ml_T_60 d_T_frame_27 rfl (fun S27 A27 hw => ?_)
      refine tl_goto (pc := 30) (tgt := 80) C d_T_frame_30 rfl ?_
      exact tl_sub [1] rfl (B80 _ _ hw)
set_option maxHeartbeats 4000000 in
set_option maxRecDepth 100000 in
theorem cX_Rw_byteOfFirst (l : Launch) (D : va_G) (q : Nat → Nat) (k : Nat → ClassId) (sz : Nat) (S : SS) (A : AA) (x1 : Int32) {post : Int32 → SS → AA → Prop} (hw : wX_Rw_byteOfFirst post S A x1) : tl_Met l y_Rw_byteOfFirst b_Rw_byteOfFirst 2 (some .int) (tl_R 0) D (wX q k) (tX k) sz [.ref (q 6), .int x1] (S, A) (tl_Qi D (wX q k) (tX k) post) := by
  refine tl_met (own := R_Rw) (lv := [(0, .ref (q 6)), (1, .int x1)]) (by decide) rfl rfl (Nat.le_of_ble_eq_true rfl) (fun z C => ?_)
  refine tl_aload_n (pc := 0) C d_Rw_byteOfFirst_0 rfl 0 rfl ?_
  refine gX_Rw_11 (pc := 1) C d_Rw_byteOfFirst_1 ?_
  refine tl_aload_n (pc := 4) C d_Rw_byteOfFirst_4 rfl 0 rfl ?_
  refine gX_Rw_19 (pc := 5) (v := (S 16)) C rfl d_Rw_byteOfFirst_5 ?_
  refine tl_bipush (pc := 8) (v := 8) C d_Rw_byteOfFirst_8 (by decide) ?_
  refine tl_imul (pc := 10) C d_Rw_byteOfFirst_10 ?_
  refine tl_iload_n (pc := 11) C d_Rw_byteOfFirst_11 rfl 1 rfl ?_
  refine tl_iadd (pc := 12) C d_Rw_byteOfFirst_12 ?_
  obtain ⟨hi, hw⟩ := hw
  refine rX_ald2 (pc := 13) (f := (A 2)) C rfl hi d_Rw_byteOfFirst_13 ?_
  exact tl_iret (pc := 14) C d_Rw_byteOfFirst_14 hw
theorem kX_Rw_byteOfFirst {l : Launch} {R : Room} {nc ns : Nat} {Q : tl_Z → State → Prop} {D : va_G} {q : Nat → Nat} {k : Nat → ClassId} {nL : Nat} {z : tl_Z} {cc : ByteArray} {ret : Option FieldType} {pc : Nat} {lv : List (Nat × Value)} {rest : List Value} {S : SS} {A : AA} {own : String} {idx : Nat} {x1 : Int32} {post : Int32 → SS → AA → Prop} (C : tl_Cx cc nL own ret D (tX k) z) (hw : wX_Rw_byteOfFirst post S A x1) (hl : Cond.methodLink own idx y_Rw_byteOfFirst ∈ wsAll) (hdg : decode cc pc = .ok (.invokevirtual idx, 3)) (hf : tl_fit R (tl_R 0) nc ns 2 rest = true) (kk : ∀ (r : Int32) (S1 : SS) (A1 : AA), post r S1 A1 → tl_At l R nc ns Q D (wX q k) nL z (pc + 3) lv (.int r :: rest) (S1, A1)) : tl_At l R nc ns Q D (wX q k) nL z pc lv (.int x1 :: .ref (q 6) :: rest) (S, A) :=
  tl_callVi (n := 1) (As := [.int x1]) (b := q 6) (q0 := 6) (ci := 4) C (fun sz => cX_Rw_byteOfFirst l D q k sz S A x1 hw) in_472 in_5 in_470 in_471 (by decide +kernel) rfl ⟨rfl, rfl⟩ rfl rfl hl hf hdg kk
set_option maxHeartbeats 4000000 in
set_option maxRecDepth 100000 in
theorem cX_T_peek (l : Launch) (D : va_G) (q : Nat → Nat) (k : Nat → ClassId) (sz : Nat) (S : SS) (A : AA) (x1 : Int32) {post : Int32 → SS → AA → Prop} (hw : wX_T_peek post S A x1) : tl_Met l y_T_peek b_T_peek 2 (some .int) (tl_R 1) D (wX q k) (tX k) sz [.ref (q 0), .int x1] (S, A) (tl_Qi D (wX q k) (tX k) post) := by
  refine tl_met (own := R_T) (lv := [(0, .ref (q 0)), (1, .int x1)]) (by decide) rfl rfl (Nat.le_of_ble_eq_true rfl) (fun z C => ?_)
  refine tl_iload_n (pc := 0) C d_T_peek_0 rfl 1 rfl ?_
  refine tl_if_lt (pc := 1) (tgt := 20) C d_T_peek_1 rfl (fun hc => ?_) (fun hc => ?_)
  · have hw := hw.1 hc
    refine tl_iconst (pc := 20) (v := -1) C d_T_peek_20 (by decide) ?_
    exact tl_iret (pc := 21) C d_T_peek_21 hw
  · have hw := hw.2 hc
    refine tl_iload_n (pc := 4) C d_T_peek_4 rfl 1 rfl ?_
    refine tl_bipush (pc := 5) (v := 8) C d_T_peek_5 (by decide) ?_
    refine tl_icmp_ge (pc := 7) (tgt := 20) C d_T_peek_7 rfl (fun hc => ?_) (fun hc => ?_)
    · have hw := hw.1 hc
      refine tl_iconst (pc := 20) (v := -1) C d_T_peek_20 (by decide) ?_
      exact tl_iret (pc := 21) C d_T_peek_21 hw
    · have hw := hw.2 hc
      refine tl_aload_n (pc := 10) C d_T_peek_10 rfl 0 rfl ?_
      refine gX_T_34 (pc := 11) C d_T_peek_11 ?_
      refine gX_T_78 (pc := 14) (v := (S 17)) C rfl d_T_peek_14 ?_
      refine tl_if_ne (pc := 17) (tgt := 22) C d_T_peek_17 rfl (fun hc => ?_) (fun hc => ?_)
      · have hw := hw.1 hc
        refine tl_aload_n (pc := 22) C d_T_peek_22 rfl 0 rfl ?_
        refine gX_T_34 (pc := 23) C d_T_peek_23 ?_
        refine tl_iload_n (pc := 26) C d_T_peek_26 rfl 1 rfl ?_
        refine kX_Rw_byteOfFirst (pc := 27) C hw ml_T_84 d_T_peek_27 rfl (fun r27 S27 A27 hw => ?_)
        exact tl_iret (pc := 30) C d_T_peek_30 hw
      · have hw := hw.2 hc
        refine tl_iconst (pc := 20) (v := -1) C d_T_peek_20 (by decide) ?_
        exact tl_iret (pc := 21) C d_T_peek_21 hw
set_option maxHeartbeats 4000000 in
set_option maxRecDepth 100000 in
theorem cX_Rw_dropFirst (l : Launch) (D : va_G) (q : Nat → Nat) (k : Nat → ClassId) (sz : Nat) (S : SS) (A : AA) {post : SS → AA → Prop} (hw : wX_Rw_dropFirst post S A) : tl_Met l y_Rw_dropFirst b_Rw_dropFirst 1 none (tl_R 0) D (wX q k) (tX k) sz [.ref (q 6)] (S, A) (tl_Qv D (wX q k) (tX k) post) := by
  refine tl_met (own := R_Rw) (lv := [(0, .ref (q 6))]) (by decide) rfl rfl (Nat.le_of_ble_eq_true rfl) (fun z C => ?_)
  refine tl_aload_n (pc := 0) C d_Rw_dropFirst_0 rfl 0 rfl ?_
  refine tl_aload_n (pc := 1) C d_Rw_dropFirst_1 rfl 0 rfl ?_
  refine gX_Rw_19 (pc := 2) (v := (S 16)) C rfl d_Rw_dropFirst_2 ?_
  refine tl_iconst (pc := 5) (v := 1) C d_Rw_dropFirst_5 (by decide) ?_
  refine tl_iadd (pc := 6) C d_Rw_dropFirst_6 ?_
  refine tl_bipush (pc := 7) (v := 12) C d_Rw_dropFirst_7 (by decide) ?_
  refine tl_irem (pc := 9) C d_Rw_dropFirst_9 (by decide) ?_
  refine pX_Rw_19 (pc := 10) C d_Rw_dropFirst_10 ?_
  refine tl_aload_n (pc := 13) C d_Rw_dropFirst_13 rfl 0 rfl ?_
  refine tl_dup (pc := 14) C d_Rw_dropFirst_14 rfl ?_
  refine gX_Rw_15 (pc := 15) (v := (S 17)) C rfl d_Rw_dropFirst_15 ?_
  refine tl_iconst (pc := 18) (v := 1) C d_Rw_dropFirst_18 (by decide) ?_
  refine tl_isub (pc := 19) C d_Rw_dropFirst_19 ?_
  refine pX_Rw_15 (pc := 20) C d_Rw_dropFirst_20 ?_
  exact tl_vret (pc := 23) C d_Rw_dropFirst_23 hw
theorem kX_Rw_dropFirst {l : Launch} {R : Room} {nc ns : Nat} {Q : tl_Z → State → Prop} {D : va_G} {q : Nat → Nat} {k : Nat → ClassId} {nL : Nat} {z : tl_Z} {cc : ByteArray} {ret : Option FieldType} {pc : Nat} {lv : List (Nat × Value)} {rest : List Value} {S : SS} {A : AA} {own : String} {idx : Nat} {post : SS → AA → Prop} (C : tl_Cx cc nL own ret D (tX k) z) (hw : wX_Rw_dropFirst post S A) (hl : Cond.methodLink own idx y_Rw_dropFirst ∈ wsAll) (hdg : decode cc pc = .ok (.invokevirtual idx, 3)) (hf : tl_fit R (tl_R 0) nc ns 1 rest = true) (kk : ∀ (S1 : SS) (A1 : AA), post S1 A1 → tl_At l R nc ns Q D (wX q k) nL z (pc + 3) lv (rest) (S1, A1)) : tl_At l R nc ns Q D (wX q k) nL z pc lv (.ref (q 6) :: rest) (S, A) :=
  tl_callVv (n := 0) (As := []) (b := q 6) (q0 := 6) (ci := 4) C (fun sz => cX_Rw_dropFirst l D q k sz S A hw) in_480 in_5 in_478 in_479 (by decide +kernel) rfl ⟨rfl, rfl⟩ rfl rfl hl hf hdg kk
set_option maxHeartbeats 4000000 in
set_option maxRecDepth 100000 in
theorem cX_T_take (l : Launch) (D : va_G) (q : Nat → Nat) (k : Nat → ClassId) (sz : Nat) (S : SS) (A : AA) {post : Int32 → SS → AA → Prop} (hw : wX_T_take post S A) : tl_Met l y_T_take b_T_take 1 (some .boolean) (tl_R 1) D (wX q k) (tX k) sz [.ref (q 0)] (S, A) (tl_Qi D (wX q k) (tX k) post) := by
  refine tl_met (own := R_T) (lv := [(0, .ref (q 0))]) (by decide) rfl rfl (Nat.le_of_ble_eq_true rfl) (fun z C => ?_)
  refine tl_aload_n (pc := 0) C d_T_take_0 rfl 0 rfl ?_
  refine gX_T_34 (pc := 1) C d_T_take_1 ?_
  refine gX_T_78 (pc := 4) (v := (S 17)) C rfl d_T_take_4 ?_
  refine tl_if_ne (pc := 7) (tgt := 12) C d_T_take_7 rfl (fun hc => ?_) (fun hc => ?_)
  · have hw := hw.1 hc
    refine tl_aload_n (pc := 12) C d_T_take_12 rfl 0 rfl ?_
    refine gX_T_34 (pc := 13) C d_T_take_13 ?_
    refine kX_Rw_dropFirst (pc := 16) C hw ml_T_88 d_T_take_16 rfl (fun S16 A16 hw => ?_)
    refine tl_iconst (pc := 19) (v := 1) C d_T_take_19 (by decide) ?_
    exact tl_zret (pc := 20) C (by decide) d_T_take_20 hw
  · have hw := hw.2 hc
    refine tl_iconst (pc := 10) (v := 0) C d_T_take_10 (by decide) ?_
    exact tl_zret (pc := 11) C (by decide) d_T_take_11 hw
set_option maxHeartbeats 4000000 in
set_option maxRecDepth 100000 in
theorem cX_Lk_shortenDelay (l : Launch) (D : va_G) (q : Nat → Nat) (k : Nat → ClassId) (sz : Nat) (S : SS) (A : AA) {post : SS → AA → Prop} (hw : wX_Lk_shortenDelay post S A) : tl_Met l y_Lk_shortenDelay b_Lk_shortenDelay 1 none (tl_R 0) D (wX q k) (tX k) sz [.ref (q 10)] (S, A) (tl_Qv D (wX q k) (tX k) post) := by
  refine tl_met (own := R_Lk) (lv := [(0, .ref (q 10))]) (by decide) rfl rfl (Nat.le_of_ble_eq_true rfl) (fun z C => ?_)
  refine tl_aload_n (pc := 0) C d_Lk_shortenDelay_0 rfl 0 rfl ?_
  refine gX_Lk_16 (pc := 1) (v := (S 22)) C rfl d_Lk_shortenDelay_1 ?_
  refine tl_if_eq (pc := 4) (tgt := 17) C d_Lk_shortenDelay_4 rfl (fun hc => ?_) (fun hc => ?_)
  · have hw := hw.1 hc
    exact tl_vret (pc := 17) C d_Lk_shortenDelay_17 hw
  · have hw := hw.2 hc
    refine tl_aload_n (pc := 7) C d_Lk_shortenDelay_7 rfl 0 rfl ?_
    refine tl_dup (pc := 8) C d_Lk_shortenDelay_8 rfl ?_
    refine gX_Lk_16 (pc := 9) (v := (S 22)) C rfl d_Lk_shortenDelay_9 ?_
    refine tl_iconst (pc := 12) (v := 1) C d_Lk_shortenDelay_12 (by decide) ?_
    refine tl_isub (pc := 13) C d_Lk_shortenDelay_13 ?_
    refine pX_Lk_16 (pc := 14) C d_Lk_shortenDelay_14 ?_
    exact tl_vret (pc := 17) C d_Lk_shortenDelay_17 hw
theorem kX_Lk_shortenDelay {l : Launch} {R : Room} {nc ns : Nat} {Q : tl_Z → State → Prop} {D : va_G} {q : Nat → Nat} {k : Nat → ClassId} {nL : Nat} {z : tl_Z} {cc : ByteArray} {ret : Option FieldType} {pc : Nat} {lv : List (Nat × Value)} {rest : List Value} {S : SS} {A : AA} {own : String} {idx : Nat} {post : SS → AA → Prop} (C : tl_Cx cc nL own ret D (tX k) z) (hw : wX_Lk_shortenDelay post S A) (hl : Cond.methodLink own idx y_Lk_shortenDelay ∈ wsAll) (hdg : decode cc pc = .ok (.invokevirtual idx, 3)) (hf : tl_fit R (tl_R 0) nc ns 1 rest = true) (kk : ∀ (S1 : SS) (A1 : AA), post S1 A1 → tl_At l R nc ns Q D (wX q k) nL z (pc + 3) lv (rest) (S1, A1)) : tl_At l R nc ns Q D (wX q k) nL z pc lv (.ref (q 10) :: rest) (S, A) :=
  tl_callVv (n := 0) (As := []) (b := q 10) (q0 := 10) (ci := 1) C (fun sz => cX_Lk_shortenDelay l D q k sz S A hw) in_497 in_6 in_495 in_496 (by decide +kernel) rfl ⟨rfl, rfl⟩ rfl rfl hl hf hdg kk
set_option maxHeartbeats 4000000 in
set_option maxRecDepth 100000 in
theorem cX_Rc_age (l : Launch) (D : va_G) (q : Nat → Nat) (k : Nat → ClassId) (sz : Nat) (S : SS) (A : AA) {post : SS → AA → Prop} (hw : wX_Rc_age post S A) : tl_Met l y_Rc_age b_Rc_age 1 none (tl_R 1) D (wX q k) (tX k) sz [.ref (q 3)] (S, A) (tl_Qv D (wX q k) (tX k) post) := by
  refine tl_met (own := R_Rc) (lv := [(0, .ref (q 3))]) (by decide) rfl rfl (Nat.le_of_ble_eq_true rfl) (fun z C => ?_)
  refine tl_aload_n (pc := 0) C d_Rc_age_0 rfl 0 rfl ?_
  refine gX_Rc_19 (pc := 1) (v := (S 8)) C rfl d_Rc_age_1 ?_
  refine tl_if_ne (pc := 4) (tgt := 8) C d_Rc_age_4 rfl (fun hc => ?_) (fun hc => ?_)
  · have hw := hw.1 hc
    refine tl_aload_n (pc := 8) C d_Rc_age_8 rfl 0 rfl ?_
    refine tl_dup (pc := 9) C d_Rc_age_9 rfl ?_
    refine gX_Rc_22 (pc := 10) (v := (S 10)) C rfl d_Rc_age_10 ?_
    refine tl_iconst (pc := 13) (v := 1) C d_Rc_age_13 (by decide) ?_
    refine tl_iadd (pc := 14) C d_Rc_age_14 ?_
    refine pX_Rc_22 (pc := 15) C d_Rc_age_15 ?_
    refine tl_aload_n (pc := 18) C d_Rc_age_18 rfl 0 rfl ?_
    refine gX_Rc_22 (pc := 19) (v := ((S 10) + (1 : Int32))) C rfl d_Rc_age_19 ?_
    refine tl_iconst (pc := 22) (v := 4) C d_Rc_age_22 (by decide) ?_
    refine tl_icmp_lt (pc := 23) (tgt := 30) C d_Rc_age_23 rfl (fun hc => ?_) (fun hc => ?_)
    · have hw := hw.1 hc
      exact tl_vret (pc := 30) C d_Rc_age_30 hw
    · have hw := hw.2 hc
      refine tl_aload_n (pc := 26) C d_Rc_age_26 rfl 0 rfl ?_
      refine kX_Rc_drop (pc := 27) C hw ml_Rc_25 d_Rc_age_27 rfl (fun S27 A27 hw => ?_)
      exact tl_vret (pc := 30) C d_Rc_age_30 hw
  · have hw := hw.2 hc
    exact tl_vret (pc := 7) C d_Rc_age_7 hw
theorem kX_Rc_age {l : Launch} {R : Room} {nc ns : Nat} {Q : tl_Z → State → Prop} {D : va_G} {q : Nat → Nat} {k : Nat → ClassId} {nL : Nat} {z : tl_Z} {cc : ByteArray} {ret : Option FieldType} {pc : Nat} {lv : List (Nat × Value)} {rest : List Value} {S : SS} {A : AA} {own : String} {idx : Nat} {post : SS → AA → Prop} (C : tl_Cx cc nL own ret D (tX k) z) (hw : wX_Rc_age post S A) (hl : Cond.methodLink own idx y_Rc_age ∈ wsAll) (hdg : decode cc pc = .ok (.invokevirtual idx, 3)) (hf : tl_fit R (tl_R 1) nc ns 1 rest = true) (kk : ∀ (S1 : SS) (A1 : AA), post S1 A1 → tl_At l R nc ns Q D (wX q k) nL z (pc + 3) lv (rest) (S1, A1)) : tl_At l R nc ns Q D (wX q k) nL z pc lv (.ref (q 3) :: rest) (S, A) :=
  tl_callVv (n := 0) (As := []) (b := q 3) (q0 := 3) (ci := 3) C (fun sz => cX_Rc_age l D q k sz S A hw) in_488 in_3 in_486 in_487 (by decide +kernel) rfl ⟨rfl, rfl⟩ rfl rfl hl hf hdg kk
set_option maxHeartbeats 4000000 in
set_option maxRecDepth 100000 in
theorem cX_Sd_age (l : Launch) (D : va_G) (q : Nat → Nat) (k : Nat → ClassId) (sz : Nat) (S : SS) (A : AA) {post : SS → AA → Prop} (hw : wX_Sd_age post S A) : tl_Met l y_Sd_age b_Sd_age 1 none (tl_R 1) D (wX q k) (tX k) sz [.ref (q 5)] (S, A) (tl_Qv D (wX q k) (tX k) post) := by
  refine tl_met (own := R_Sd) (lv := [(0, .ref (q 5))]) (by decide) rfl rfl (Nat.le_of_ble_eq_true rfl) (fun z C => ?_)
  refine tl_aload_n (pc := 0) C d_Sd_age_0 rfl 0 rfl ?_
  refine gX_Sd_42 (pc := 1) (v := (S 15)) C rfl d_Sd_age_1 ?_
  refine tl_if_ne (pc := 4) (tgt := 8) C d_Sd_age_4 rfl (fun hc => ?_) (fun hc => ?_)
  · have hw := hw.1 hc
    refine tl_aload_n (pc := 8) C d_Sd_age_8 rfl 0 rfl ?_
    refine tl_dup (pc := 9) C d_Sd_age_9 rfl ?_
    refine gX_Sd_46 (pc := 10) (v := (S 14)) C rfl d_Sd_age_10 ?_
    refine tl_iconst (pc := 13) (v := 1) C d_Sd_age_13 (by decide) ?_
    refine tl_iadd (pc := 14) C d_Sd_age_14 ?_
    refine pX_Sd_46 (pc := 15) C d_Sd_age_15 ?_
    refine tl_aload_n (pc := 18) C d_Sd_age_18 rfl 0 rfl ?_
    refine gX_Sd_46 (pc := 19) (v := ((S 14) + (1 : Int32))) C rfl d_Sd_age_19 ?_
    refine tl_iconst (pc := 22) (v := 4) C d_Sd_age_22 (by decide) ?_
    refine tl_icmp_lt (pc := 23) (tgt := 30) C d_Sd_age_23 rfl (fun hc => ?_) (fun hc => ?_)
    · have hw := hw.1 hc
      exact tl_vret (pc := 30) C d_Sd_age_30 hw
    · have hw := hw.2 hc
      refine tl_aload_n (pc := 26) C d_Sd_age_26 rfl 0 rfl ?_
      refine kX_Sd_drop (pc := 27) C hw ml_Sd_53 d_Sd_age_27 rfl (fun S27 A27 hw => ?_)
      exact tl_vret (pc := 30) C d_Sd_age_30 hw
  · have hw := hw.2 hc
    exact tl_vret (pc := 7) C d_Sd_age_7 hw
theorem kX_Sd_age {l : Launch} {R : Room} {nc ns : Nat} {Q : tl_Z → State → Prop} {D : va_G} {q : Nat → Nat} {k : Nat → ClassId} {nL : Nat} {z : tl_Z} {cc : ByteArray} {ret : Option FieldType} {pc : Nat} {lv : List (Nat × Value)} {rest : List Value} {S : SS} {A : AA} {own : String} {idx : Nat} {post : SS → AA → Prop} (C : tl_Cx cc nL own ret D (tX k) z) (hw : wX_Sd_age post S A) (hl : Cond.methodLink own idx y_Sd_age ∈ wsAll) (hdg : decode cc pc = .ok (.invokevirtual idx, 3)) (hf : tl_fit R (tl_R 1) nc ns 1 rest = true) (kk : ∀ (S1 : SS) (A1 : AA), post S1 A1 → tl_At l R nc ns Q D (wX q k) nL z (pc + 3) lv (rest) (S1, A1)) : tl_At l R nc ns Q D (wX q k) nL z pc lv (.ref (q 5) :: rest) (S, A) :=
  tl_callVv (n := 0) (As := []) (b := q 5) (q0 := 5) (ci := 5) C (fun sz => cX_Sd_age l D q k sz S A hw) in_492 in_4 in_490 in_491 (by decide +kernel) rfl ⟨rfl, rfl⟩ rfl rfl hl hf hdg kk
set_option maxHeartbeats 4000000 in
set_option maxRecDepth 100000 in
theorem cX_T_tick (l : Launch) (D : va_G) (q : Nat → Nat) (k : Nat → ClassId) (sz : Nat) (S : SS) (A : AA) {post : SS → AA → Prop} (hw : wX_T_tick post S A) : tl_Met l y_T_tick b_T_tick 1 none (tl_R 2) D (wX q k) (tX k) sz [.ref (q 0)] (S, A) (tl_Qv D (wX q k) (tX k) post) := by
  refine tl_met (own := R_T) (lv := [(0, .ref (q 0))]) (by decide) rfl rfl (Nat.le_of_ble_eq_true rfl) (fun z C => ?_)
  have B66 : ∀ (S : SS) (A : AA), wX_T_tick_66 post S A → tl_At l (tl_R 2) 0 0 (tl_M 0 0 (tl_Qv D (wX q k) (tX k) post)) D (wX q k) 1 z 66 [(0, .ref (q 0))] [] (S, A) := by
    intro S A hw
    refine tl_aload_n (pc := 66) C d_T_tick_66 rfl 0 rfl ?_
    refine gX_T_38 (pc := 67) C d_T_tick_67 ?_
    refine kX_Lk_shortenDelay (pc := 70) C hw ml_T_108 d_T_tick_70 rfl (fun S70 A70 hw => ?_)
    exact tl_vret (pc := 73) C d_T_tick_73 hw
  refine tl_aload_n (pc := 0) C d_T_tick_0 rfl 0 rfl ?_
  refine gX_T_19 (pc := 1) C d_T_tick_1 ?_
  refine kX_Rc_age (pc := 4) C hw ml_T_91 d_T_tick_4 rfl (fun S4 A4 hw => ?_)
  refine tl_aload_n (pc := 7) C d_T_tick_7 rfl 0 rfl ?_
  refine gX_T_26 (pc := 8) C d_T_tick_8 ?_
  refine kX_Sd_age (pc := 11) C hw ml_T_94 d_T_tick_11 rfl (fun S11 A11 hw => ?_)
  refine tl_aload_n (pc := 14) C d_T_tick_14 rfl 0 rfl ?_
  refine tl_dup (pc := 15) C d_T_tick_15 rfl ?_
  refine gX_T_95 (pc := 16) (v := (S11 4)) C rfl d_T_tick_16 ?_
  refine tl_iconst (pc := 19) (v := 1) C d_T_tick_19 (by decide) ?_
  refine tl_iadd (pc := 20) C d_T_tick_20 ?_
  refine pX_T_95 (pc := 21) C d_T_tick_21 ?_
  refine tl_aload_n (pc := 24) C d_T_tick_24 rfl 0 rfl ?_
  refine gX_T_98 (pc := 25) (v := (S11 1)) C rfl d_T_tick_25 ?_
  refine tl_iconst (pc := 28) (v := 2) C d_T_tick_28 (by decide) ?_
  refine tl_icmp_ne (pc := 29) (tgt := 66) C d_T_tick_29 rfl (fun hc => ?_) (fun hc => ?_)
  · have hw := hw.1 hc
    exact tl_sub [0] rfl (B66 _ _ hw)
  · have hw := hw.2 hc
    refine tl_aload_n (pc := 32) C d_T_tick_32 rfl 0 rfl ?_
    refine gX_T_95 (pc := 33) (v := ((S11 4) + (1 : Int32))) C rfl d_T_tick_33 ?_
    refine tl_bipush (pc := 36) (v := 10) C d_T_tick_36 (by decide) ?_
    refine tl_icmp_lt (pc := 38) (tgt := 66) C d_T_tick_38 rfl (fun hc => ?_) (fun hc => ?_)
    · have hw := hw.1 hc
      exact tl_sub [0] rfl (B66 _ _ hw)
    · have hw := hw.2 hc
      refine tl_aload_n (pc := 41) C d_T_tick_41 rfl 0 rfl ?_
      refine gX_T_19 (pc := 42) C d_T_tick_42 ?_
      refine gX_T_101 (pc := 45) (v := (S11 8)) C rfl d_T_tick_45 ?_
      refine tl_if_ne (pc := 48) (tgt := 66) C d_T_tick_48 rfl (fun hc => ?_) (fun hc => ?_)
      · have hw := hw.1 hc
        exact tl_sub [0] rfl (B66 _ _ hw)
      · have hw := hw.2 hc
        refine tl_aload_n (pc := 51) C d_T_tick_51 rfl 0 rfl ?_
        refine gX_T_26 (pc := 52) C d_T_tick_52 ?_
        refine gX_T_64 (pc := 55) (v := (S11 15)) C rfl d_T_tick_55 ?_
        refine tl_if_ne (pc := 58) (tgt := 66) C d_T_tick_58 rfl (fun hc => ?_) (fun hc => ?_)
        · have hw := hw.1 hc
          exact tl_sub [0] rfl (B66 _ _ hw)
        · have hw := hw.2 hc
          refine tl_aload_n (pc := 61) C d_T_tick_61 rfl 0 rfl ?_
          refine tl_iconst (pc := 62) (v := 1) C d_T_tick_62 (by decide) ?_
          refine kX_T_changeSession (pc := 63) C hw ml_T_104 d_T_tick_63 rfl (fun S63 A63 hw => ?_)
          exact tl_sub [0] rfl (B66 _ _ hw)
set_option maxHeartbeats 4000000 in
set_option maxRecDepth 100000 in
theorem cX_Mm_orderCut (l : Launch) (D : va_G) (q : Nat → Nat) (k : Nat → ClassId) (sz : Nat) (S : SS) (A : AA) (x1 : Int32) {post : SS → AA → Prop} (hw : wX_Mm_orderCut post S A x1) : tl_Met l y_Mm_orderCut b_Mm_orderCut 2 none (tl_R 0) D (wX q k) (tX k) sz [.ref (q 1), .int x1] (S, A) (tl_Qv D (wX q k) (tX k) post) := by
  refine tl_met (own := R_Mm) (lv := [(0, .ref (q 1)), (1, .int x1)]) (by decide) rfl rfl (Nat.le_of_ble_eq_true rfl) (fun z C => ?_)
  refine tl_aload_n (pc := 0) C d_Mm_orderCut_0 rfl 0 rfl ?_
  refine tl_iconst (pc := 1) (v := 1) C d_Mm_orderCut_1 (by decide) ?_
  refine pX_Mm_22 (pc := 2) C (by decide) d_Mm_orderCut_2 ?_
  refine tl_aload_n (pc := 5) C d_Mm_orderCut_5 rfl 0 rfl ?_
  refine tl_iload_n (pc := 6) C d_Mm_orderCut_6 rfl 1 rfl ?_
  refine pX_Mm_26 (pc := 7) C d_Mm_orderCut_7 ?_
  exact tl_vret (pc := 10) C d_Mm_orderCut_10 hw
theorem kX_Mm_orderCut {l : Launch} {R : Room} {nc ns : Nat} {Q : tl_Z → State → Prop} {D : va_G} {q : Nat → Nat} {k : Nat → ClassId} {nL : Nat} {z : tl_Z} {cc : ByteArray} {ret : Option FieldType} {pc : Nat} {lv : List (Nat × Value)} {rest : List Value} {S : SS} {A : AA} {own : String} {idx : Nat} {x1 : Int32} {post : SS → AA → Prop} (C : tl_Cx cc nL own ret D (tX k) z) (hw : wX_Mm_orderCut post S A x1) (hl : Cond.methodLink own idx y_Mm_orderCut ∈ wsAll) (hdg : decode cc pc = .ok (.invokevirtual idx, 3)) (hf : tl_fit R (tl_R 0) nc ns 2 rest = true) (kk : ∀ (S1 : SS) (A1 : AA), post S1 A1 → tl_At l R nc ns Q D (wX q k) nL z (pc + 3) lv (rest) (S1, A1)) : tl_At l R nc ns Q D (wX q k) nL z pc lv (.int x1 :: .ref (q 1) :: rest) (S, A) :=
  tl_callVv (n := 1) (As := [.int x1]) (b := q 1) (q0 := 1) (ci := 2) C (fun sz => cX_Mm_orderCut l D q k sz S A x1 hw) in_505 in_2 in_503 in_504 (by decide +kernel) rfl ⟨rfl, rfl⟩ rfl rfl hl hf hdg kk
set_option maxHeartbeats 4000000 in
set_option maxRecDepth 100000 in
theorem cX_T_cut (l : Launch) (D : va_G) (q : Nat → Nat) (k : Nat → ClassId) (sz : Nat) (S : SS) (A : AA) (x1 : Int32) {post : SS → AA → Prop} (hw : wX_T_cut post S A x1) : tl_Met l y_T_cut b_T_cut 2 none (tl_R 1) D (wX q k) (tX k) sz [.ref (q 0), .int x1] (S, A) (tl_Qv D (wX q k) (tX k) post) := by
  refine tl_met (own := R_T) (lv := [(0, .ref (q 0)), (1, .int x1)]) (by decide) rfl rfl (Nat.le_of_ble_eq_true rfl) (fun z C => ?_)
  refine tl_aload_n (pc := 0) C d_T_cut_0 rfl 0 rfl ?_
  refine gX_T_10 (pc := 1) C d_T_cut_1 ?_
  refine tl_iload_n (pc := 4) C d_T_cut_4 rfl 1 rfl ?_
  refine kX_Mm_orderCut (pc := 5) C hw ml_T_111 d_T_cut_5 rfl (fun S5 A5 hw => ?_)
  exact tl_vret (pc := 8) C d_T_cut_8 hw
set_option maxHeartbeats 4000000 in
set_option maxRecDepth 100000 in
theorem cX_T_restart (l : Launch) (D : va_G) (q : Nat → Nat) (k : Nat → ClassId) (sz : Nat) (S : SS) (A : AA) {post : SS → AA → Prop} (hw : wX_T_restart post S A) : tl_Met l y_T_restart b_T_restart 1 none (tl_R 5) D (wX q k) (tX k) sz [.ref (q 0)] (S, A) (tl_Qv D (wX q k) (tX k) post) := by
  refine tl_met (own := R_T) (lv := [(0, .ref (q 0))]) (by decide) rfl rfl (Nat.le_of_ble_eq_true rfl) (fun z C => ?_)
  refine tl_aload_n (pc := 0) C d_T_restart_0 rfl 0 rfl ?_
  refine kX_T_bootAfresh (pc := 1) C hw ml_T_114 d_T_restart_1 rfl (fun S1 A1 hw => ?_)
  exact tl_vret (pc := 4) C d_T_restart_4 hw
set_option maxHeartbeats 4000000 in
set_option maxRecDepth 100000 in
theorem cX_T_flash (l : Launch) (D : va_G) (q : Nat → Nat) (k : Nat → ClassId) (sz : Nat) (S : SS) (A : AA) (x1 : Int32) {post : Int32 → SS → AA → Prop} (hw : wX_T_flash post S A x1) : tl_Met l y_T_flash b_T_flash 2 (some .int) (tl_R 1) D (wX q k) (tX k) sz [.ref (q 0), .int x1] (S, A) (tl_Qi D (wX q k) (tX k) post) := by
  refine tl_met (own := R_T) (lv := [(0, .ref (q 0)), (1, .int x1)]) (by decide) rfl rfl (Nat.le_of_ble_eq_true rfl) (fun z C => ?_)
  refine tl_aload_n (pc := 0) C d_T_flash_0 rfl 0 rfl ?_
  refine gX_T_10 (pc := 1) C d_T_flash_1 ?_
  refine tl_iload_n (pc := 4) C d_T_flash_4 rfl 1 rfl ?_
  refine tl_iconst (pc := 5) (v := 1) C d_T_flash_5 (by decide) ?_
  refine kX_Mm_has (pc := 6) C hw ml_T_117 d_T_flash_6 rfl (fun r6 S6 A6 hw => ?_)
  refine tl_if_eq (pc := 9) (tgt := 24) C d_T_flash_9 rfl (fun hc => ?_) (fun hc => ?_)
  · have hw := hw.1 hc
    refine tl_iconst (pc := 24) (v := -1) C d_T_flash_24 (by decide) ?_
    exact tl_iret (pc := 25) C d_T_flash_25 hw
  · have hw := hw.2 hc
    refine tl_aload_n (pc := 12) C d_T_flash_12 rfl 0 rfl ?_
    refine gX_T_10 (pc := 13) C d_T_flash_13 ?_
    refine gX_T_121 (pc := 16) C d_T_flash_16 ?_
    refine tl_iload_n (pc := 19) C d_T_flash_19 rfl 1 rfl ?_
    obtain ⟨hi, hw⟩ := hw
    refine rX_ald0 (pc := 20) (f := (A6 0)) C rfl hi d_T_flash_20 ?_
    refine tl_goto (pc := 21) (tgt := 25) C d_T_flash_21 rfl ?_
    exact tl_iret (pc := 25) C d_T_flash_25 hw
set_option maxHeartbeats 4000000 in
set_option maxRecDepth 100000 in
theorem cX_T_word (l : Launch) (D : va_G) (q : Nat → Nat) (k : Nat → ClassId) (sz : Nat) (S : SS) (A : AA) (x1 : Int32) {post : Int32 → SS → AA → Prop} (hw : wX_T_word post S A x1) : tl_Met l y_T_word b_T_word 4 (some .int) (tl_R 1) D (wX q k) (tX k) sz [.ref (q 0), .int x1] (S, A) (tl_Qi D (wX q k) (tX k) post) := by
  refine tl_met (own := R_T) (lv := [(0, .ref (q 0)), (1, .int x1)]) (by decide) rfl rfl (Nat.le_of_ble_eq_true rfl) (fun z C => ?_)
  have B18 : ∀ (S : SS) (A : AA) (x1 x2 x3 : Int32), wX_T_word_18 post S A x1 x2 x3 → tl_At l (tl_R 1) 0 0 (tl_M 0 0 (tl_Qi D (wX q k) (tX k) post)) D (wX q k) 4 z 18 [(0, .ref (q 0)), (1, .int x1), (2, .int x2), (3, .int x3)] [] (S, A) := by
    intro S A x1 x2 x3 hw
    have key : ∀ X18 : SS → AA → Int32 → Int32 → Int32 → Prop, (∀ (S : SS) (A : AA) (x1 x2 x3 : Int32), X18 S A x1 x2 x3 → tl_At l (tl_R 1) 0 0 (tl_M 0 0 (tl_Qi D (wX q k) (tX k) post)) D (wX q k) 4 z 18 [(0, .ref (q 0)), (1, .int x1), (2, .int x2), (3, .int x3)] [] (S, A)) → ∀ (S : SS) (A : AA) (x1 x2 x3 : Int32), wX_T_word_18B post X18 S A x1 x2 x3 → tl_At l (tl_R 1) 0 0 (tl_M 0 0 (tl_Qi D (wX q k) (tX k) post)) D (wX q k) 4 z 18 [(0, .ref (q 0)), (1, .int x1), (2, .int x2), (3, .int x3)] [] (S, A) := by
      intro X18 hX18 S A x1 x2 x3 hw
      refine tl_iload_n (pc := 18) C d_T_word_18 rfl 3 rfl ?_
      refine tl_iconst (pc := 19) (v := 4) C d_T_word_19 (by decide) ?_
      refine tl_icmp_ge (pc := 20) (tgt := 46) C d_T_word_20 rfl (fun hc => ?_) (fun hc => ?_)
      · have hw := hw.1 hc
        refine tl_iload_n (pc := 46) C d_T_word_46 rfl 2 rfl ?_
        exact tl_iret (pc := 47) C d_T_word_47 hw
      · have hw := hw.2 hc
        refine tl_iload_n (pc := 23) C d_T_word_23 rfl 2 rfl ?_
        refine tl_bipush (pc := 24) (v := 8) C d_T_word_24 (by decide) ?_
        refine tl_ishl (pc := 26) C d_T_word_26 ?_
        refine tl_aload_n (pc := 27) C d_T_word_27 rfl 0 rfl ?_
        refine gX_T_10 (pc := 28) C d_T_word_28 ?_
        refine gX_T_121 (pc := 31) C d_T_word_31 ?_
        refine tl_iload_n (pc := 34) C d_T_word_34 rfl 1 rfl ?_
        refine tl_iload_n (pc := 35) C d_T_word_35 rfl 3 rfl ?_
        refine tl_iadd (pc := 36) C d_T_word_36 ?_
        obtain ⟨hi, hw⟩ := hw
        refine rX_ald0 (pc := 37) (f := (A 0)) C rfl hi d_T_word_37 ?_
        refine tl_ior (pc := 38) C d_T_word_38 ?_
        refine tl_istore_n (pc := 39) (lv' := [(2, .int ((x2 <<< ((8 : Int32) &&& 31)) ||| ((A 0) (x1 + x3).toNatClampNeg))), (0, .ref (q 0)), (1, .int x1), (3, .int x3)]) C d_T_word_39 rfl (by decide) rfl ?_
        refine tl_iinc (pc := 40) (lv' := [(3, .int (x3 + (1 : Int32))), (2, .int ((x2 <<< ((8 : Int32) &&& 31)) ||| ((A 0) (x1 + x3).toNatClampNeg))), (0, .ref (q 0)), (1, .int x1)]) C d_T_word_40 (by decide) 3 rfl rfl (by decide) rfl ?_
        refine tl_goto (pc := 43) (tgt := 18) C d_T_word_43 rfl ?_
        exact tl_sub [2, 3, 1, 0] rfl (hX18 _ _ _ _ _ hw)
    exact hw _ (fun S A x1 x2 x3 hb => key _ (fun _ _ _ _ _ h => h) S A x1 x2 x3 hb)
  refine tl_aload_n (pc := 0) C d_T_word_0 rfl 0 rfl ?_
  refine gX_T_10 (pc := 1) C d_T_word_1 ?_
  refine tl_iload_n (pc := 4) C d_T_word_4 rfl 1 rfl ?_
  refine tl_iconst (pc := 5) (v := 4) C d_T_word_5 (by decide) ?_
  refine kX_Mm_has (pc := 6) C hw ml_T_117 d_T_word_6 rfl (fun r6 S6 A6 hw => ?_)
  refine tl_if_ne (pc := 9) (tgt := 14) C d_T_word_9 rfl (fun hc => ?_) (fun hc => ?_)
  · have hw := hw.1 hc
    refine tl_iconst (pc := 14) (v := 0) C d_T_word_14 (by decide) ?_
    refine tl_istore_n (pc := 15) (lv' := [(2, .int (0 : Int32)), (0, .ref (q 0)), (1, .int x1)]) C d_T_word_15 rfl (by decide) rfl ?_
    refine tl_iconst (pc := 16) (v := 0) C d_T_word_16 (by decide) ?_
    refine tl_istore_n (pc := 17) (lv' := [(3, .int (0 : Int32)), (2, .int (0 : Int32)), (0, .ref (q 0)), (1, .int x1)]) C d_T_word_17 rfl (by decide) rfl ?_
    exact tl_sub [2, 3, 1, 0] rfl (B18 _ _ _ _ _ hw)
  · have hw := hw.2 hc
    refine tl_iconst (pc := 12) (v := 0) C d_T_word_12 (by decide) ?_
    exact tl_iret (pc := 13) C d_T_word_13 hw
set_option maxHeartbeats 4000000 in
set_option maxRecDepth 100000 in
theorem cX_Sd_toSend (l : Launch) (D : va_G) (q : Nat → Nat) (k : Nat → ClassId) (sz : Nat) (S : SS) (A : AA) {post : Int32 → SS → AA → Prop} (hw : wX_Sd_toSend post S A) : tl_Met l y_Sd_toSend b_Sd_toSend 1 (some .int) (tl_R 0) D (wX q k) (tX k) sz [.ref (q 5)] (S, A) (tl_Qi D (wX q k) (tX k) post) := by
  refine tl_met (own := R_Sd) (lv := [(0, .ref (q 5))]) (by decide) rfl rfl (Nat.le_of_ble_eq_true rfl) (fun z C => ?_)
  refine tl_aload_n (pc := 0) C d_Sd_toSend_0 rfl 0 rfl ?_
  refine gX_Sd_42 (pc := 1) (v := (S 15)) C rfl d_Sd_toSend_1 ?_
  refine tl_if_eq (pc := 4) (tgt := 19) C d_Sd_toSend_4 rfl (fun hc => ?_) (fun hc => ?_)
  · have hw := hw.1 hc
    refine tl_iconst (pc := 19) (v := 0) C d_Sd_toSend_19 (by decide) ?_
    exact tl_iret (pc := 20) C d_Sd_toSend_20 hw
  · have hw := hw.2 hc
    refine tl_aload_n (pc := 7) C d_Sd_toSend_7 rfl 0 rfl ?_
    refine gX_Sd_25 (pc := 8) (v := (S 11)) C rfl d_Sd_toSend_8 ?_
    refine tl_aload_n (pc := 11) C d_Sd_toSend_11 rfl 0 rfl ?_
    refine gX_Sd_33 (pc := 12) (v := (S 12)) C rfl d_Sd_toSend_12 ?_
    refine tl_isub (pc := 15) C d_Sd_toSend_15 ?_
    refine tl_goto (pc := 16) (tgt := 20) C d_Sd_toSend_16 rfl ?_
    exact tl_iret (pc := 20) C d_Sd_toSend_20 hw
theorem kX_Sd_toSend {l : Launch} {R : Room} {nc ns : Nat} {Q : tl_Z → State → Prop} {D : va_G} {q : Nat → Nat} {k : Nat → ClassId} {nL : Nat} {z : tl_Z} {cc : ByteArray} {ret : Option FieldType} {pc : Nat} {lv : List (Nat × Value)} {rest : List Value} {S : SS} {A : AA} {own : String} {idx : Nat} {post : Int32 → SS → AA → Prop} (C : tl_Cx cc nL own ret D (tX k) z) (hw : wX_Sd_toSend post S A) (hl : Cond.methodLink own idx y_Sd_toSend ∈ wsAll) (hdg : decode cc pc = .ok (.invokevirtual idx, 3)) (hf : tl_fit R (tl_R 0) nc ns 1 rest = true) (kk : ∀ (r : Int32) (S1 : SS) (A1 : AA), post r S1 A1 → tl_At l R nc ns Q D (wX q k) nL z (pc + 3) lv (.int r :: rest) (S1, A1)) : tl_At l R nc ns Q D (wX q k) nL z pc lv (.ref (q 5) :: rest) (S, A) :=
  tl_callVi (n := 0) (As := []) (b := q 5) (q0 := 5) (ci := 5) C (fun sz => cX_Sd_toSend l D q k sz S A hw) in_526 in_4 in_524 in_525 (by decide +kernel) rfl ⟨rfl, rfl⟩ rfl rfl hl hf hdg kk
theorem swX_T_state_1_0 {σ : Type} {l : Launch} {R : Room} {nc ns : Nat} {Q : tl_Z → State → Prop} {D : va_G} {w : σ → va_W} {nL : Nat} {z : tl_Z} {own : String} {ret : Option FieldType} {tys : List (ClassId × FieldType)} {lv : List (Nat × Value)} {rest : List Value} {u : σ} {x : Int32} (C : tl_Cx b_T_state nL own ret D tys z) (hc : x = (0 : Int32)) (kk : tl_At l R nc ns Q D w nL z 52 lv rest u) : tl_At l R nc ns Q D w nL z 1 lv (.int x :: rest) u := by
  subst hc
  obtain ⟨p, e, s, m, args, below, meth, c, F⟩ := z
  obtain ⟨hx, hb, hml, hown, hts, hN, hK, hA, hlk, hr⟩ := C
  exact fun ls H locs hl hP hD hS => lv_tableIn hx hb d_T_state_1 (by decide) (by decide) (by decide +kernel : _ = some (51 : Int)) rfl (kk ls H locs hl hP hD hS)
theorem swX_T_state_1_1 {σ : Type} {l : Launch} {R : Room} {nc ns : Nat} {Q : tl_Z → State → Prop} {D : va_G} {w : σ → va_W} {nL : Nat} {z : tl_Z} {own : String} {ret : Option FieldType} {tys : List (ClassId × FieldType)} {lv : List (Nat × Value)} {rest : List Value} {u : σ} {x : Int32} (C : tl_Cx b_T_state nL own ret D tys z) (hc : x = (1 : Int32)) (kk : tl_At l R nc ns Q D w nL z 57 lv rest u) : tl_At l R nc ns Q D w nL z 1 lv (.int x :: rest) u := by
  subst hc
  obtain ⟨p, e, s, m, args, below, meth, c, F⟩ := z
  obtain ⟨hx, hb, hml, hown, hts, hN, hK, hA, hlk, hr⟩ := C
  exact fun ls H locs hl hP hD hS => lv_tableIn hx hb d_T_state_1 (by decide) (by decide) (by decide +kernel : _ = some (56 : Int)) rfl (kk ls H locs hl hP hD hS)
theorem swX_T_state_1_2 {σ : Type} {l : Launch} {R : Room} {nc ns : Nat} {Q : tl_Z → State → Prop} {D : va_G} {w : σ → va_W} {nL : Nat} {z : tl_Z} {own : String} {ret : Option FieldType} {tys : List (ClassId × FieldType)} {lv : List (Nat × Value)} {rest : List Value} {u : σ} {x : Int32} (C : tl_Cx b_T_state nL own ret D tys z) (hc : x = (2 : Int32)) (kk : tl_At l R nc ns Q D w nL z 62 lv rest u) : tl_At l R nc ns Q D w nL z 1 lv (.int x :: rest) u := by
  subst hc
  obtain ⟨p, e, s, m, args, below, meth, c, F⟩ := z
  obtain ⟨hx, hb, hml, hown, hts, hN, hK, hA, hlk, hr⟩ := C
  exact fun ls H locs hl hP hD hS => lv_tableIn hx hb d_T_state_1 (by decide) (by decide) (by decide +kernel : _ = some (61 : Int)) rfl (kk ls H locs hl hP hD hS)
theorem swX_T_state_1_3 {σ : Type} {l : Launch} {R : Room} {nc ns : Nat} {Q : tl_Z → State → Prop} {D : va_G} {w : σ → va_W} {nL : Nat} {z : tl_Z} {own : String} {ret : Option FieldType} {tys : List (ClassId × FieldType)} {lv : List (Nat × Value)} {rest : List Value} {u : σ} {x : Int32} (C : tl_Cx b_T_state nL own ret D tys z) (hc : x = (3 : Int32)) (kk : tl_At l R nc ns Q D w nL z 78 lv rest u) : tl_At l R nc ns Q D w nL z 1 lv (.int x :: rest) u := by
  subst hc
  obtain ⟨p, e, s, m, args, below, meth, c, F⟩ := z
  obtain ⟨hx, hb, hml, hown, hts, hN, hK, hA, hlk, hr⟩ := C
  exact fun ls H locs hl hP hD hS => lv_tableIn hx hb d_T_state_1 (by decide) (by decide) (by decide +kernel : _ = some (77 : Int)) rfl (kk ls H locs hl hP hD hS)
theorem swX_T_state_1_4 {σ : Type} {l : Launch} {R : Room} {nc ns : Nat} {Q : tl_Z → State → Prop} {D : va_G} {w : σ → va_W} {nL : Nat} {z : tl_Z} {own : String} {ret : Option FieldType} {tys : List (ClassId × FieldType)} {lv : List (Nat × Value)} {rest : List Value} {u : σ} {x : Int32} (C : tl_Cx b_T_state nL own ret D tys z) (hc : x = (4 : Int32)) (kk : tl_At l R nc ns Q D w nL z 86 lv rest u) : tl_At l R nc ns Q D w nL z 1 lv (.int x :: rest) u := by
  subst hc
  obtain ⟨p, e, s, m, args, below, meth, c, F⟩ := z
  obtain ⟨hx, hb, hml, hown, hts, hN, hK, hA, hlk, hr⟩ := C
  exact fun ls H locs hl hP hD hS => lv_tableIn hx hb d_T_state_1 (by decide) (by decide) (by decide +kernel : _ = some (85 : Int)) rfl (kk ls H locs hl hP hD hS)
theorem swX_T_state_1_5 {σ : Type} {l : Launch} {R : Room} {nc ns : Nat} {Q : tl_Z → State → Prop} {D : va_G} {w : σ → va_W} {nL : Nat} {z : tl_Z} {own : String} {ret : Option FieldType} {tys : List (ClassId × FieldType)} {lv : List (Nat × Value)} {rest : List Value} {u : σ} {x : Int32} (C : tl_Cx b_T_state nL own ret D tys z) (hc : x = (5 : Int32)) (kk : tl_At l R nc ns Q D w nL z 102 lv rest u) : tl_At l R nc ns Q D w nL z 1 lv (.int x :: rest) u := by
  subst hc
  obtain ⟨p, e, s, m, args, below, meth, c, F⟩ := z
  obtain ⟨hx, hb, hml, hown, hts, hN, hK, hA, hlk, hr⟩ := C
  exact fun ls H locs hl hP hD hS => lv_tableIn hx hb d_T_state_1 (by decide) (by decide) (by decide +kernel : _ = some (101 : Int)) rfl (kk ls H locs hl hP hD hS)
theorem swX_T_state_1_6 {σ : Type} {l : Launch} {R : Room} {nc ns : Nat} {Q : tl_Z → State → Prop} {D : va_G} {w : σ → va_W} {nL : Nat} {z : tl_Z} {own : String} {ret : Option FieldType} {tys : List (ClassId × FieldType)} {lv : List (Nat × Value)} {rest : List Value} {u : σ} {x : Int32} (C : tl_Cx b_T_state nL own ret D tys z) (hc : x = (6 : Int32)) (kk : tl_At l R nc ns Q D w nL z 107 lv rest u) : tl_At l R nc ns Q D w nL z 1 lv (.int x :: rest) u := by
  subst hc
  obtain ⟨p, e, s, m, args, below, meth, c, F⟩ := z
  obtain ⟨hx, hb, hml, hown, hts, hN, hK, hA, hlk, hr⟩ := C
  exact fun ls H locs hl hP hD hS => lv_tableIn hx hb d_T_state_1 (by decide) (by decide) (by decide +kernel : _ = some (106 : Int)) rfl (kk ls H locs hl hP hD hS)
theorem swX_T_state_1_7 {σ : Type} {l : Launch} {R : Room} {nc ns : Nat} {Q : tl_Z → State → Prop} {D : va_G} {w : σ → va_W} {nL : Nat} {z : tl_Z} {own : String} {ret : Option FieldType} {tys : List (ClassId × FieldType)} {lv : List (Nat × Value)} {rest : List Value} {u : σ} {x : Int32} (C : tl_Cx b_T_state nL own ret D tys z) (hc : x = (7 : Int32)) (kk : tl_At l R nc ns Q D w nL z 115 lv rest u) : tl_At l R nc ns Q D w nL z 1 lv (.int x :: rest) u := by
  subst hc
  obtain ⟨p, e, s, m, args, below, meth, c, F⟩ := z
  obtain ⟨hx, hb, hml, hown, hts, hN, hK, hA, hlk, hr⟩ := C
  exact fun ls H locs hl hP hD hS => lv_tableIn hx hb d_T_state_1 (by decide) (by decide) (by decide +kernel : _ = some (114 : Int)) rfl (kk ls H locs hl hP hD hS)
theorem swX_T_state_1_8 {σ : Type} {l : Launch} {R : Room} {nc ns : Nat} {Q : tl_Z → State → Prop} {D : va_G} {w : σ → va_W} {nL : Nat} {z : tl_Z} {own : String} {ret : Option FieldType} {tys : List (ClassId × FieldType)} {lv : List (Nat × Value)} {rest : List Value} {u : σ} {x : Int32} (C : tl_Cx b_T_state nL own ret D tys z) (hc : x = (8 : Int32)) (kk : tl_At l R nc ns Q D w nL z 123 lv rest u) : tl_At l R nc ns Q D w nL z 1 lv (.int x :: rest) u := by
  subst hc
  obtain ⟨p, e, s, m, args, below, meth, c, F⟩ := z
  obtain ⟨hx, hb, hml, hown, hts, hN, hK, hA, hlk, hr⟩ := C
  exact fun ls H locs hl hP hD hS => lv_tableIn hx hb d_T_state_1 (by decide) (by decide) (by decide +kernel : _ = some (122 : Int)) rfl (kk ls H locs hl hP hD hS)
theorem swX_T_state_1_d {σ : Type} {l : Launch} {R : Room} {nc ns : Nat} {Q : tl_Z → State → Prop} {D : va_G} {w : σ → va_W} {nL : Nat} {z : tl_Z} {own : String} {ret : Option FieldType} {tys : List (ClassId × FieldType)} {lv : List (Nat × Value)} {rest : List Value} {u : σ} {x : Int32} (C : tl_Cx b_T_state nL own ret D tys z) (h0 : ¬ x = (0 : Int32)) (h1 : ¬ x = (1 : Int32)) (h2 : ¬ x = (2 : Int32)) (h3 : ¬ x = (3 : Int32)) (h4 : ¬ x = (4 : Int32)) (h5 : ¬ x = (5 : Int32)) (h6 : ¬ x = (6 : Int32)) (h7 : ¬ x = (7 : Int32)) (h8 : ¬ x = (8 : Int32)) (kk : tl_At l R nc ns Q D w nL z 131 lv rest u) : tl_At l R nc ns Q D w nL z 1 lv (.int x :: rest) u := by
  obtain ⟨p, e, s, m, args, below, meth, c, F⟩ := z
  obtain ⟨hx, hb, hml, hown, hts, hN, hK, hA, hlk, hr⟩ := C
  intro ls H locs hl hP hD hS
  have n0 := lv_neT h0 (show (0 : Int32).toInt = 0 by decide)
  have n1 := lv_neT h1 (show (1 : Int32).toInt = 1 by decide)
  have n2 := lv_neT h2 (show (2 : Int32).toInt = 2 by decide)
  have n3 := lv_neT h3 (show (3 : Int32).toInt = 3 by decide)
  have n4 := lv_neT h4 (show (4 : Int32).toInt = 4 by decide)
  have n5 := lv_neT h5 (show (5 : Int32).toInt = 5 by decide)
  have n6 := lv_neT h6 (show (6 : Int32).toInt = 6 by decide)
  have n7 := lv_neT h7 (show (7 : Int32).toInt = 7 by decide)
  have n8 := lv_neT h8 (show (8 : Int32).toInt = 8 by decide)
  by_cases ha : x.toInt < 0
  · exact lv_tableOut hx hb d_T_state_1 (Or.inl ha) rfl (kk ls H locs hl hP hD hS)
  by_cases hz : 8 < x.toInt
  · exact lv_tableOut hx hb d_T_state_1 (Or.inr hz) rfl (kk ls H locs hl hP hD hS)
  exact absurd hz (by omega)
set_option maxHeartbeats 4000000 in
set_option maxRecDepth 100000 in
theorem cX_T_state (l : Launch) (D : va_G) (q : Nat → Nat) (k : Nat → ClassId) (sz : Nat) (S : SS) (A : AA) (x1 : Int32) {post : Int32 → SS → AA → Prop} (hw : wX_T_state post S A x1) : tl_Met l y_T_state b_T_state 2 (some .int) (tl_R 1) D (wX q k) (tX k) sz [.ref (q 0), .int x1] (S, A) (tl_Qi D (wX q k) (tX k) post) := by
  refine tl_met (own := R_T) (lv := [(0, .ref (q 0)), (1, .int x1)]) (by decide) rfl rfl (Nat.le_of_ble_eq_true rfl) (fun z C => ?_)
  refine tl_iload_n (pc := 0) C d_T_state_0 rfl 1 rfl ?_
  by_cases hc : x1 = (0 : Int32)
  · have hw := hw.1 hc
    refine swX_T_state_1_0 C hc ?_
    refine tl_aload_n (pc := 52) C d_T_state_52 rfl 0 rfl ?_
    refine gX_T_124 (pc := 53) (v := (S 0)) C rfl d_T_state_53 ?_
    exact tl_iret (pc := 56) C d_T_state_56 hw
  · have hw := hw.2 hc
    have hc0 := hc
    by_cases hc : x1 = (1 : Int32)
    · have hw := hw.1 hc
      refine swX_T_state_1_1 C hc ?_
      refine tl_aload_n (pc := 57) C d_T_state_57 rfl 0 rfl ?_
      refine gX_T_98 (pc := 58) (v := (S 1)) C rfl d_T_state_58 ?_
      exact tl_iret (pc := 61) C d_T_state_61 hw
    · have hw := hw.2 hc
      have hc1 := hc
      by_cases hc : x1 = (2 : Int32)
      · have hw := hw.1 hc
        refine swX_T_state_1_2 C hc ?_
        refine tl_aload_n (pc := 62) C d_T_state_62 rfl 0 rfl ?_
        refine gX_T_38 (pc := 63) C d_T_state_63 ?_
        refine gX_T_127 (pc := 66) (v := (S 18)) C rfl d_T_state_66 ?_
        refine tl_if_eq (pc := 69) (tgt := 76) C d_T_state_69 rfl (fun hc => ?_) (fun hc => ?_)
        · have hw := hw.1 hc
          refine tl_iconst (pc := 76) (v := 0) C d_T_state_76 (by decide) ?_
          exact tl_iret (pc := 77) C d_T_state_77 hw
        · have hw := hw.2 hc
          refine tl_iconst (pc := 72) (v := 1) C d_T_state_72 (by decide) ?_
          refine tl_goto (pc := 73) (tgt := 77) C d_T_state_73 rfl ?_
          exact tl_iret (pc := 77) C d_T_state_77 hw
      · have hw := hw.2 hc
        have hc2 := hc
        by_cases hc : x1 = (3 : Int32)
        · have hw := hw.1 hc
          refine swX_T_state_1_3 C hc ?_
          refine tl_aload_n (pc := 78) C d_T_state_78 rfl 0 rfl ?_
          refine gX_T_45 (pc := 79) C d_T_state_79 ?_
          refine kX_Dl_toCome (pc := 82) C hw ml_T_130 d_T_state_82 rfl (fun r82 S82 A82 hw => ?_)
          exact tl_iret (pc := 85) C d_T_state_85 hw
        · have hw := hw.2 hc
          have hc3 := hc
          by_cases hc : x1 = (4 : Int32)
          · have hw := hw.1 hc
            refine swX_T_state_1_4 C hc ?_
            refine tl_aload_n (pc := 86) C d_T_state_86 rfl 0 rfl ?_
            refine gX_T_10 (pc := 87) C d_T_state_87 ?_
            refine gX_T_134 (pc := 90) (v := (S 5)) C rfl d_T_state_90 ?_
            refine tl_if_eq (pc := 93) (tgt := 100) C d_T_state_93 rfl (fun hc => ?_) (fun hc => ?_)
            · have hw := hw.1 hc
              refine tl_iconst (pc := 100) (v := 0) C d_T_state_100 (by decide) ?_
              exact tl_iret (pc := 101) C d_T_state_101 hw
            · have hw := hw.2 hc
              refine tl_iconst (pc := 96) (v := 1) C d_T_state_96 (by decide) ?_
              refine tl_goto (pc := 97) (tgt := 101) C d_T_state_97 rfl ?_
              exact tl_iret (pc := 101) C d_T_state_101 hw
          · have hw := hw.2 hc
            have hc4 := hc
            by_cases hc : x1 = (5 : Int32)
            · have hw := hw.1 hc
              refine swX_T_state_1_5 C hc ?_
              refine tl_aload_n (pc := 102) C d_T_state_102 rfl 0 rfl ?_
              refine gX_T_137 (pc := 103) (v := (S 2)) C rfl d_T_state_103 ?_
              exact tl_iret (pc := 106) C d_T_state_106 hw
            · have hw := hw.2 hc
              have hc5 := hc
              by_cases hc : x1 = (6 : Int32)
              · have hw := hw.1 hc
                refine swX_T_state_1_6 C hc ?_
                refine tl_aload_n (pc := 107) C d_T_state_107 rfl 0 rfl ?_
                refine gX_T_19 (pc := 108) C d_T_state_108 ?_
                refine gX_T_101 (pc := 111) (v := (S 8)) C rfl d_T_state_111 ?_
                exact tl_iret (pc := 114) C d_T_state_114 hw
              · have hw := hw.2 hc
                have hc6 := hc
                by_cases hc : x1 = (7 : Int32)
                · have hw := hw.1 hc
                  refine swX_T_state_1_7 C hc ?_
                  refine tl_aload_n (pc := 115) C d_T_state_115 rfl 0 rfl ?_
                  refine gX_T_26 (pc := 116) C d_T_state_116 ?_
                  refine kX_Sd_toSend (pc := 119) C hw ml_T_140 d_T_state_119 rfl (fun r119 S119 A119 hw => ?_)
                  exact tl_iret (pc := 122) C d_T_state_122 hw
                · have hw := hw.2 hc
                  have hc7 := hc
                  by_cases hc : x1 = (8 : Int32)
                  · have hw := hw.1 hc
                    refine swX_T_state_1_8 C hc ?_
                    refine tl_aload_n (pc := 123) C d_T_state_123 rfl 0 rfl ?_
                    refine gX_T_38 (pc := 124) C d_T_state_124 ?_
                    refine gX_T_143 (pc := 127) (v := (S 22)) C rfl d_T_state_127 ?_
                    exact tl_iret (pc := 130) C d_T_state_130 hw
                  · have hw := hw.2 hc
                    have hc8 := hc
                    refine swX_T_state_1_d C hc0 hc1 hc2 hc3 hc4 hc5 hc6 hc7 hc8 ?_
                    refine tl_iconst (pc := 131) (v := -1) C d_T_state_131 (by decide) ?_
                    exact tl_iret (pc := 132) C d_T_state_132 hw
set_option maxHeartbeats 4000000 in
set_option maxRecDepth 100000 in
theorem aX_T_init (l : Launch) (D : va_G) (q : Nat → Nat) (k : Nat → ClassId) (S : SS) (A : AA) {post : SS → AA → Prop} {z : tl_Z} (C : tl_Cx b_T_init 1 R_T none D (tX k) z) (hw : wX_T_init post S A) : tl_At l (tl_Rc 4 12 276) 12 276 (tl_M 12 276 (tl_Qv D (wX q k) (tX k) post)) D (wX q k) 1 z 77 [(0, .ref (q 0))] [] (S, A) := by
  refine tl_aload_n (pc := 77) C d_T_init_77 rfl 0 rfl ?_
  refine kX_T_boot (pc := 78) C hw ml_T_53 d_T_init_78 rfl (fun S78 A78 hw => ?_)
  exact tl_vret (pc := 81) C d_T_init_81 hw
