set_option maxHeartbeats 4000000 in
set_option maxRecDepth 100000 in
theorem cX_T_byteOf (l : Launch) (D : va_G) (q : Nat → Nat) (k : Nat → ClassId) (sz : Nat) (S : SS) (A : AA) (x0 x1 x2 : Int32) {post : Int32 → SS → AA → Prop} (hw : wX_T_byteOf post S A x0 x1 x2) : tl_Met l y_T_byteOf b_T_byteOf 4 (some .int) (tl_R 0) D (wX q k) (tX k) sz [.int x0, .int x1, .int x2] (S, A) (tl_Qi D (wX q k) (tX k) post) := by
  refine tl_met (own := R_T) (lv := [(0, .int x0), (1, .int x1), (2, .int x2)]) (by decide) rfl rfl (Nat.le_of_ble_eq_true rfl) (fun z C => ?_)
  have B10 : ∀ (S : SS) (A : AA) (x2 y0 : Int32), wX_T_byteOf_10 post S A x2 y0 → tl_At l (tl_R 0) 0 0 (tl_M 0 0 (tl_Qi D (wX q k) (tX k) post)) D (wX q k) 4 z 10 [(2, .int x2)] [.int y0] (S, A) := by
    intro S A x2 y0 hw
    refine tl_istore_n (pc := 10) (lv' := [(3, .int y0), (2, .int x2)]) C d_T_byteOf_10 rfl (by decide) rfl ?_
    refine tl_iload_n (pc := 11) C d_T_byteOf_11 rfl 0 rfl ?_
    refine tl_bipush (pc := 12) (v := 24) C d_T_byteOf_12 (by decide) ?_
    refine tl_bipush (pc := 14) (v := 8) C d_T_byteOf_14 (by decide) ?_
    refine tl_iload_n (pc := 16) C d_T_byteOf_16 rfl 1 rfl ?_
    refine tl_iconst (pc := 17) (v := 3) C d_T_byteOf_17 (by decide) ?_
    refine tl_iand (pc := 18) C d_T_byteOf_18 ?_
    refine tl_imul (pc := 19) C d_T_byteOf_19 ?_
    refine tl_isub (pc := 20) C d_T_byteOf_20 ?_
    refine tl_iushr (pc := 21) C d_T_byteOf_21 ?_
    refine tl_sipush (pc := 22) (v := 255) C d_T_byteOf_22 (by decide) ?_
    refine tl_iand (pc := 25) C d_T_byteOf_25 ?_
    exact tl_iret (pc := 26) C d_T_byteOf_26 hw
  refine tl_iload_n (pc := 0) C d_T_byteOf_0 rfl 2 rfl ?_
  refine tl_iconst (pc := 1) (v := 4) C d_T_byteOf_1 (by decide) ?_
  refine tl_icmp_ge (pc := 2) (tgt := 9) C d_T_byteOf_2 rfl (fun hc => ?_) (fun hc => ?_)
  · have hw := hw.1 hc
    refine tl_iload_n (pc := 9) C d_T_byteOf_9 rfl 1 rfl ?_
    exact tl_sub [2] rfl (B10 _ _ _ _ hw)
  · have hw := hw.2 hc
    refine tl_iload_n (pc := 5) C d_T_byteOf_5 rfl 0 rfl ?_
    refine tl_goto (pc := 6) (tgt := 10) C d_T_byteOf_6 rfl ?_
    exact tl_sub [2] rfl (B10 _ _ _ _ hw)
theorem kX_T_byteOf {l : Launch} {R : Room} {nc ns : Nat} {Q : tl_Z → State → Prop} {D : va_G} {q : Nat → Nat} {k : Nat → ClassId} {nL : Nat} {z : tl_Z} {cc : ByteArray} {ret : Option FieldType} {pc : Nat} {lv : List (Nat × Value)} {rest : List Value} {S : SS} {A : AA} {own : String} {idx : Nat} {x0 x1 x2 : Int32} {post : Int32 → SS → AA → Prop} (C : tl_Cx cc nL own ret D (tX k) z) (hw : wX_T_byteOf post S A x0 x1 x2) (hl : Cond.methodLink own idx y_T_byteOf ∈ wsAll) (hdg : decode cc pc = .ok (.invokestatic idx, 3)) (hf : tl_fit R (tl_R 0) nc ns 4 rest = true) (kk : ∀ (r : Int32) (S1 : SS) (A1 : AA), post r S1 A1 → tl_At l R nc ns Q D (wX q k) nL z (pc + 3) lv (.int r :: rest) (S1, A1)) : tl_At l R nc ns Q D (wX q k) nL z pc lv (.int x2 :: .int x1 :: .int x0 :: rest) (S, A) :=
  tl_callSi (n := 3) (As := [.int x0, .int x1, .int x2]) C (fun sz => cX_T_byteOf l D q k sz S A x0 x1 x2 hw) in_248 in_1 in_247 (by decide +kernel) rfl ⟨rfl, rfl⟩ hl hf hdg kk
theorem knX_T_byteOf {l : Launch} {R : Room} {nc ns : Nat} {Q : tl_Z → State → Prop} {D : va_G} {q : Nat → Nat} {k : Nat → ClassId} {nL : Nat} {z : tl_Z} {cc : ByteArray} {ret : Option FieldType} {pc : Nat} {lv : List (Nat × Value)} {rest : List Value} {S : SS} {A : AA} {own : String} {idx : Nat} {host : String} {x0 x1 x2 : Int32} {post : Int32 → SS → AA → Prop} (C : tl_Cx cc nL own ret D (tX k) z) (hw : wX_T_byteOf post S A x0 x1 x2) (hl : tl_NS z.s → va_Nw (.methodLinkNest own idx y_T_byteOf host) z.s) (hdg : decode cc pc = .ok (.invokestatic idx, 3)) (hf : tl_fit R (tl_R 0) nc ns 4 rest = true) (kk : ∀ (r : Int32) (S1 : SS) (A1 : AA), post r S1 A1 → tl_At l R nc ns Q D (wX q k) nL z (pc + 3) lv (.int r :: rest) (S1, A1)) : tl_At l R nc ns Q D (wX q k) nL z pc lv (.int x2 :: .int x1 :: .int x0 :: rest) (S, A) :=
  tl_callSNi (n := 3) (As := [.int x0, .int x1, .int x2]) C (fun sz => cX_T_byteOf l D q k sz S A x0 x1 x2 hw) in_248 in_1 in_247 (by decide +kernel) rfl ⟨rfl, rfl⟩ hl hf hdg kk
set_option maxHeartbeats 4000000 in
set_option maxRecDepth 100000 in
theorem cX_Rc_add (l : Launch) (D : va_G) (q : Nat → Nat) (k : Nat → ClassId) (sz : Nat) (S : SS) (A : AA) (x1 x2 x3 : Int32) {post : SS → AA → Prop} (hw : wX_Rc_add post S A x1 x2 x3) : tl_Met l y_Rc_add b_Rc_add 5 none (tl_R 1) D (wX q k) (tX k) sz [.ref (q 3), .int x1, .int x2, .int x3] (S, A) (tl_Qv D (wX q k) (tX k) post) := by
  refine tl_met (own := R_Rc) (lv := [(0, .ref (q 3)), (1, .int x1), (2, .int x2), (3, .int x3)]) (by decide) rfl rfl (Nat.le_of_ble_eq_true rfl) (fun z C => ?_)
  have B8 : ∀ (S : SS) (A : AA) (x1 x2 x4 : Int32), wX_Rc_add_8 post S A x1 x2 x4 → tl_At l (tl_R 1) 0 0 (tl_M 0 0 (tl_Qv D (wX q k) (tX k) post)) D (wX q k) 5 z 8 [(0, .ref (q 3)), (1, .int x1), (2, .int x2), (4, .int x4)] [] (S, A) := by
    intro S A x1 x2 x4 hw
    have key : ∀ X8 : SS → AA → Int32 → Int32 → Int32 → Prop, (∀ (S : SS) (A : AA) (x1 x2 x4 : Int32), X8 S A x1 x2 x4 → tl_At l (tl_R 1) 0 0 (tl_M 0 0 (tl_Qv D (wX q k) (tX k) post)) D (wX q k) 5 z 8 [(0, .ref (q 3)), (1, .int x1), (2, .int x2), (4, .int x4)] [] (S, A)) → ∀ (S : SS) (A : AA) (x1 x2 x4 : Int32), wX_Rc_add_8B post X8 S A x1 x2 x4 → tl_At l (tl_R 1) 0 0 (tl_M 0 0 (tl_Qv D (wX q k) (tX k) post)) D (wX q k) 5 z 8 [(0, .ref (q 3)), (1, .int x1), (2, .int x2), (4, .int x4)] [] (S, A) := by
      intro X8 hX8 S A x1 x2 x4 hw
      refine tl_iload (pc := 8) C d_Rc_add_8 3 rfl ?_
      refine tl_bipush (pc := 10) (v := 8) C d_Rc_add_10 (by decide) ?_
      refine tl_icmp_ge (pc := 12) (tgt := 73) C d_Rc_add_12 rfl (fun hc => ?_) (fun hc => ?_)
      · have hw := hw.1 hc
        exact tl_vret (pc := 73) C d_Rc_add_73 hw
      · have hw := hw.2 hc
        refine tl_aload_n (pc := 15) C d_Rc_add_15 rfl 0 rfl ?_
        refine gX_Rc_19 (pc := 16) (v := (S 8)) C rfl d_Rc_add_16 ?_
        refine tl_if_le (pc := 19) (tgt := 73) C d_Rc_add_19 rfl (fun hc => ?_) (fun hc => ?_)
        · have hw := hw.1 hc
          exact tl_vret (pc := 73) C d_Rc_add_73 hw
        · have hw := hw.2 hc
          refine tl_aload_n (pc := 22) C d_Rc_add_22 rfl 0 rfl ?_
          refine gX_Rc_15 (pc := 23) (v := (S 7)) C rfl d_Rc_add_23 ?_
          refine tl_bipush (pc := 26) (v := 34) C d_Rc_add_26 (by decide) ?_
          refine tl_icmp_ge (pc := 28) (tgt := 73) C d_Rc_add_28 rfl (fun hc => ?_) (fun hc => ?_)
          · have hw := hw.1 hc
            exact tl_vret (pc := 73) C d_Rc_add_73 hw
          · have hw := hw.2 hc
            refine tl_aload_n (pc := 31) C d_Rc_add_31 rfl 0 rfl ?_
            refine gX_Rc_11 (pc := 32) C d_Rc_add_32 ?_
            refine tl_aload_n (pc := 35) C d_Rc_add_35 rfl 0 rfl ?_
            refine gX_Rc_15 (pc := 36) (v := (S 7)) C rfl d_Rc_add_36 ?_
            refine tl_iload_n (pc := 39) C d_Rc_add_39 rfl 1 rfl ?_
            refine tl_iload_n (pc := 40) C d_Rc_add_40 rfl 2 rfl ?_
            refine tl_iload (pc := 41) C d_Rc_add_41 3 rfl ?_
            refine knX_T_byteOf (pc := 43) C hw ml_Rc_28 d_Rc_add_43 rfl (fun r43 S43 A43 hw => ?_)
            obtain ⟨hi, hw⟩ := hw
            refine rX_ast1 (pc := 46) (f := (A43 1)) C rfl hi d_Rc_add_46 ?_
            refine tl_aload_n (pc := 47) C d_Rc_add_47 rfl 0 rfl ?_
            refine tl_dup (pc := 48) C d_Rc_add_48 rfl ?_
            refine gX_Rc_15 (pc := 49) (v := (S43 7)) C rfl d_Rc_add_49 ?_
            refine tl_iconst (pc := 52) (v := 1) C d_Rc_add_52 (by decide) ?_
            refine tl_iadd (pc := 53) C d_Rc_add_53 ?_
            refine pX_Rc_15 (pc := 54) C d_Rc_add_54 ?_
            refine tl_aload_n (pc := 57) C d_Rc_add_57 rfl 0 rfl ?_
            refine tl_dup (pc := 58) C d_Rc_add_58 rfl ?_
            refine gX_Rc_19 (pc := 59) (v := (S43 8)) C rfl d_Rc_add_59 ?_
            refine tl_iconst (pc := 62) (v := 1) C d_Rc_add_62 (by decide) ?_
            refine tl_isub (pc := 63) C d_Rc_add_63 ?_
            refine pX_Rc_19 (pc := 64) C d_Rc_add_64 ?_
            refine tl_iinc (pc := 67) (lv' := [(4, .int (x4 + (1 : Int32))), (0, .ref (q 3)), (1, .int x1), (2, .int x2)]) C d_Rc_add_67 (by decide) 3 rfl rfl (by decide) rfl ?_
            refine tl_goto (pc := 70) (tgt := 8) C d_Rc_add_70 rfl ?_
            exact tl_sub [1, 2, 3, 0] rfl (hX8 _ _ _ _ _ hw)
    exact hw _ (fun S A x1 x2 x4 hb => key _ (fun _ _ _ _ _ h => h) S A x1 x2 x4 hb)
  refine tl_aload_n (pc := 0) C d_Rc_add_0 rfl 0 rfl ?_
  refine tl_iconst (pc := 1) (v := 0) C d_Rc_add_1 (by decide) ?_
  refine pX_Rc_22 (pc := 2) C d_Rc_add_2 ?_
  refine tl_iload_n (pc := 5) C d_Rc_add_5 rfl 3 rfl ?_
  refine tl_istore (pc := 6) (lv' := [(4, .int x3), (0, .ref (q 3)), (1, .int x1), (2, .int x2), (3, .int x3)]) C d_Rc_add_6 (by decide) rfl ?_
  exact tl_sub [1, 2, 3, 0] rfl (B8 _ _ _ _ _ hw)
theorem kX_Rc_add {l : Launch} {R : Room} {nc ns : Nat} {Q : tl_Z → State → Prop} {D : va_G} {q : Nat → Nat} {k : Nat → ClassId} {nL : Nat} {z : tl_Z} {cc : ByteArray} {ret : Option FieldType} {pc : Nat} {lv : List (Nat × Value)} {rest : List Value} {S : SS} {A : AA} {own : String} {idx : Nat} {x1 x2 x3 : Int32} {post : SS → AA → Prop} (C : tl_Cx cc nL own ret D (tX k) z) (hw : wX_Rc_add post S A x1 x2 x3) (hl : Cond.methodLink own idx y_Rc_add ∈ wsAll) (hdg : decode cc pc = .ok (.invokevirtual idx, 3)) (hf : tl_fit R (tl_R 1) nc ns 5 rest = true) (kk : ∀ (S1 : SS) (A1 : AA), post S1 A1 → tl_At l R nc ns Q D (wX q k) nL z (pc + 3) lv (rest) (S1, A1)) : tl_At l R nc ns Q D (wX q k) nL z pc lv (.int x3 :: .int x2 :: .int x1 :: .ref (q 3) :: rest) (S, A) :=
  tl_callVv (n := 3) (As := [.int x1, .int x2, .int x3]) (b := q 3) (q0 := 3) (ci := 3) C (fun sz => cX_Rc_add l D q k sz S A x1 x2 x3 hw) in_281 in_3 in_280 ip_4 (by decide +kernel) rfl ⟨rfl, rfl⟩ rfl rfl hl hf hdg kk
set_option maxHeartbeats 4000000 in
set_option maxRecDepth 100000 in
theorem cX_Rc_drop (l : Launch) (D : va_G) (q : Nat → Nat) (k : Nat → ClassId) (sz : Nat) (S : SS) (A : AA) {post : SS → AA → Prop} (hw : wX_Rc_drop post S A) : tl_Met l y_Rc_drop b_Rc_drop 1 none (tl_R 0) D (wX q k) (tX k) sz [.ref (q 3)] (S, A) (tl_Qv D (wX q k) (tX k) post) := by
  refine tl_met (own := R_Rc) (lv := [(0, .ref (q 3))]) (by decide) rfl rfl (Nat.le_of_ble_eq_true rfl) (fun z C => ?_)
  refine tl_aload_n (pc := 0) C d_Rc_drop_0 rfl 0 rfl ?_
  refine tl_iconst (pc := 1) (v := 0) C d_Rc_drop_1 (by decide) ?_
  refine pX_Rc_15 (pc := 2) C d_Rc_drop_2 ?_
  refine tl_aload_n (pc := 5) C d_Rc_drop_5 rfl 0 rfl ?_
  refine tl_iconst (pc := 6) (v := 0) C d_Rc_drop_6 (by decide) ?_
  refine pX_Rc_19 (pc := 7) C d_Rc_drop_7 ?_
  exact tl_vret (pc := 10) C d_Rc_drop_10 hw
theorem kX_Rc_drop {l : Launch} {R : Room} {nc ns : Nat} {Q : tl_Z → State → Prop} {D : va_G} {q : Nat → Nat} {k : Nat → ClassId} {nL : Nat} {z : tl_Z} {cc : ByteArray} {ret : Option FieldType} {pc : Nat} {lv : List (Nat × Value)} {rest : List Value} {S : SS} {A : AA} {own : String} {idx : Nat} {post : SS → AA → Prop} (C : tl_Cx cc nL own ret D (tX k) z) (hw : wX_Rc_drop post S A) (hl : Cond.methodLink own idx y_Rc_drop ∈ wsAll) (hdg : decode cc pc = .ok (.invokevirtual idx, 3)) (hf : tl_fit R (tl_R 0) nc ns 1 rest = true) (kk : ∀ (S1 : SS) (A1 : AA), post S1 A1 → tl_At l R nc ns Q D (wX q k) nL z (pc + 3) lv (rest) (S1, A1)) : tl_At l R nc ns Q D (wX q k) nL z pc lv (.ref (q 3) :: rest) (S, A) :=
  tl_callVv (n := 0) (As := []) (b := q 3) (q0 := 3) (ci := 3) C (fun sz => cX_Rc_drop l D q k sz S A hw) in_200 in_3 in_198 in_199 (by decide +kernel) rfl ⟨rfl, rfl⟩ rfl rfl hl hf hdg kk
set_option maxHeartbeats 4000000 in
set_option maxRecDepth 100000 in
theorem cX_Rc_acceptNext (l : Launch) (D : va_G) (q : Nat → Nat) (k : Nat → ClassId) (sz : Nat) (S : SS) (A : AA) (x1 x2 : Int32) {post : Int32 → SS → AA → Prop} (hw : wX_Rc_acceptNext post S A x1 x2) : tl_Met l y_Rc_acceptNext b_Rc_acceptNext 4 (some .int) (tl_R 2) D (wX q k) (tX k) sz [.ref (q 3), .int x1, .int x2] (S, A) (tl_Qi D (wX q k) (tX k) post) := by
  refine tl_met (own := R_Rc) (lv := [(0, .ref (q 3)), (1, .int x1), (2, .int x2)]) (by decide) rfl rfl (Nat.le_of_ble_eq_true rfl) (fun z C => ?_)
  have B36 : ∀ (S : SS) (A : AA) (x1 x2 y0 : Int32), wX_Rc_acceptNext_36 post S A x1 x2 y0 → tl_At l (tl_R 2) 0 0 (tl_M 0 0 (tl_Qi D (wX q k) (tX k) post)) D (wX q k) 4 z 36 [(0, .ref (q 3)), (1, .int x1), (2, .int x2)] [.int y0] (S, A) := by
    intro S A x1 x2 y0 hw
    refine tl_istore_n (pc := 36) (lv' := [(3, .int y0), (0, .ref (q 3)), (1, .int x1), (2, .int x2)]) C d_Rc_acceptNext_36 rfl (by decide) rfl ?_
    refine tl_aload_n (pc := 37) C d_Rc_acceptNext_37 rfl 1 rfl ?_
    refine tl_aload_n (pc := 38) C d_Rc_acceptNext_38 rfl 1 rfl ?_
    refine gX_Rc_44 (pc := 39) (v := (S 9)) C rfl d_Rc_acceptNext_39 ?_
    refine tl_iconst (pc := 42) (v := 1) C d_Rc_acceptNext_42 (by decide) ?_
    refine tl_iadd (pc := 43) C d_Rc_acceptNext_43 ?_
    refine tl_bipush (pc := 44) (v := 16) C d_Rc_acceptNext_44 (by decide) ?_
    refine tl_irem (pc := 46) C d_Rc_acceptNext_46 (by decide) ?_
    refine pX_Rc_44 (pc := 47) C d_Rc_acceptNext_47 ?_
    refine tl_aload_n (pc := 50) C d_Rc_acceptNext_50 rfl 1 rfl ?_
    refine tl_iload_n (pc := 51) C d_Rc_acceptNext_51 rfl 2 rfl ?_
    refine tl_iload_n (pc := 52) C d_Rc_acceptNext_52 rfl 3 rfl ?_
    refine tl_iconst (pc := 53) (v := 1) C d_Rc_acceptNext_53 (by decide) ?_
    refine kX_Rc_add (pc := 54) C hw ml_Rc_36 d_Rc_acceptNext_54 rfl (fun S54 A54 hw => ?_)
    refine tl_aload_n (pc := 57) C d_Rc_acceptNext_57 rfl 1 rfl ?_
    refine gX_Rc_19 (pc := 58) (v := (S54 8)) C rfl d_Rc_acceptNext_58 ?_
    refine tl_if_ne (pc := 61) (tgt := 66) C d_Rc_acceptNext_61 rfl (fun hc => ?_) (fun hc => ?_)
    · have hw := hw.1 hc
      refine tl_iload_n (pc := 66) C d_Rc_acceptNext_66 rfl 0 rfl ?_
      refine tl_if_eq (pc := 67) (tgt := 74) C d_Rc_acceptNext_67 rfl (fun hc => ?_) (fun hc => ?_)
      · have hw := hw.1 hc
        refine tl_iconst (pc := 74) (v := 0) C d_Rc_acceptNext_74 (by decide) ?_
        exact tl_iret (pc := 75) C d_Rc_acceptNext_75 hw
      · have hw := hw.2 hc
        refine tl_iconst (pc := 70) (v := 1) C d_Rc_acceptNext_70 (by decide) ?_
        refine tl_goto (pc := 71) (tgt := 75) C d_Rc_acceptNext_71 rfl ?_
        exact tl_iret (pc := 75) C d_Rc_acceptNext_75 hw
    · have hw := hw.2 hc
      refine tl_iconst (pc := 64) (v := 2) C d_Rc_acceptNext_64 (by decide) ?_
      exact tl_iret (pc := 65) C d_Rc_acceptNext_65 hw
  refine tl_iload_n (pc := 0) C d_Rc_acceptNext_0 rfl 1 rfl ?_
  refine tl_iload_n (pc := 1) C d_Rc_acceptNext_1 rfl 2 rfl ?_
  refine tl_iconst (pc := 2) (v := 0) C d_Rc_acceptNext_2 (by decide) ?_
  refine knX_T_byteOf (pc := 3) C hw ml_Rc_28 d_Rc_acceptNext_3 rfl (fun r3 S3 A3 hw => ?_)
  refine tl_bipush (pc := 6) (v := 32) C d_Rc_acceptNext_6 (by decide) ?_
  refine tl_isub (pc := 8) C d_Rc_acceptNext_8 ?_
  refine tl_aload_n (pc := 9) C d_Rc_acceptNext_9 rfl 0 rfl ?_
  refine gX_Rc_44 (pc := 10) (v := (S3 9)) C rfl d_Rc_acceptNext_10 ?_
  refine tl_icmp_eq (pc := 13) (tgt := 22) C d_Rc_acceptNext_13 rfl (fun hc => ?_) (fun hc => ?_)
  · have hw := hw.1 hc
    refine tl_aload_n (pc := 22) C d_Rc_acceptNext_22 rfl 0 rfl ?_
    refine gX_Rc_44 (pc := 23) (v := (S3 9)) C rfl d_Rc_acceptNext_23 ?_
    refine tl_iconst (pc := 26) (v := 2) C d_Rc_acceptNext_26 (by decide) ?_
    refine tl_irem (pc := 27) C d_Rc_acceptNext_27 (by decide) ?_
    refine tl_if_ne (pc := 28) (tgt := 35) C d_Rc_acceptNext_28 rfl (fun hc => ?_) (fun hc => ?_)
    · have hw := hw.1 hc
      refine tl_iconst (pc := 35) (v := 0) C d_Rc_acceptNext_35 (by decide) ?_
      exact tl_sub [0, 1, 2] rfl (B36 _ _ _ _ _ hw)
    · have hw := hw.2 hc
      refine tl_iconst (pc := 31) (v := 1) C d_Rc_acceptNext_31 (by decide) ?_
      refine tl_goto (pc := 32) (tgt := 36) C d_Rc_acceptNext_32 rfl ?_
      exact tl_sub [0, 1, 2] rfl (B36 _ _ _ _ _ hw)
  · have hw := hw.2 hc
    refine tl_aload_n (pc := 16) C d_Rc_acceptNext_16 rfl 0 rfl ?_
    refine kX_Rc_drop (pc := 17) C hw ml_Rc_25 d_Rc_acceptNext_17 rfl (fun S17 A17 hw => ?_)
    refine tl_iconst (pc := 20) (v := 0) C d_Rc_acceptNext_20 (by decide) ?_
    exact tl_iret (pc := 21) C d_Rc_acceptNext_21 hw
theorem kX_Rc_acceptNext {l : Launch} {R : Room} {nc ns : Nat} {Q : tl_Z → State → Prop} {D : va_G} {q : Nat → Nat} {k : Nat → ClassId} {nL : Nat} {z : tl_Z} {cc : ByteArray} {ret : Option FieldType} {pc : Nat} {lv : List (Nat × Value)} {rest : List Value} {S : SS} {A : AA} {own : String} {idx : Nat} {x1 x2 : Int32} {post : Int32 → SS → AA → Prop} (C : tl_Cx cc nL own ret D (tX k) z) (hw : wX_Rc_acceptNext post S A x1 x2) (hl : Cond.methodLink own idx y_Rc_acceptNext ∈ wsAll) (hdg : decode cc pc = .ok (.invokevirtual idx, 3)) (hf : tl_fit R (tl_R 2) nc ns 4 rest = true) (kk : ∀ (r : Int32) (S1 : SS) (A1 : AA), post r S1 A1 → tl_At l R nc ns Q D (wX q k) nL z (pc + 3) lv (.int r :: rest) (S1, A1)) : tl_At l R nc ns Q D (wX q k) nL z pc lv (.int x2 :: .int x1 :: .ref (q 3) :: rest) (S, A) :=
  tl_callVi (n := 2) (As := [.int x1, .int x2]) (b := q 3) (q0 := 3) (ci := 3) C (fun sz => cX_Rc_acceptNext l D q k sz S A x1 x2 hw) in_285 in_3 in_284 ip_5 (by decide +kernel) rfl ⟨rfl, rfl⟩ rfl rfl hl hf hdg kk
set_option maxHeartbeats 4000000 in
set_option maxRecDepth 100000 in
theorem cX_Rc_begin (l : Launch) (D : va_G) (q : Nat → Nat) (k : Nat → ClassId) (sz : Nat) (S : SS) (A : AA) (x1 : Int32) {post : SS → AA → Prop} (hw : wX_Rc_begin post S A x1) : tl_Met l y_Rc_begin b_Rc_begin 2 none (tl_R 0) D (wX q k) (tX k) sz [.ref (q 3), .int x1] (S, A) (tl_Qv D (wX q k) (tX k) post) := by
  refine tl_met (own := R_Rc) (lv := [(0, .ref (q 3)), (1, .int x1)]) (by decide) rfl rfl (Nat.le_of_ble_eq_true rfl) (fun z C => ?_)
  refine tl_aload_n (pc := 0) C d_Rc_begin_0 rfl 0 rfl ?_
  refine tl_iconst (pc := 1) (v := 0) C d_Rc_begin_1 (by decide) ?_
  refine pX_Rc_15 (pc := 2) C d_Rc_begin_2 ?_
  refine tl_aload_n (pc := 5) C d_Rc_begin_5 rfl 0 rfl ?_
  refine tl_iload_n (pc := 6) C d_Rc_begin_6 rfl 1 rfl ?_
  refine pX_Rc_19 (pc := 7) C d_Rc_begin_7 ?_
  refine tl_aload_n (pc := 10) C d_Rc_begin_10 rfl 0 rfl ?_
  refine tl_iconst (pc := 11) (v := 1) C d_Rc_begin_11 (by decide) ?_
  refine pX_Rc_44 (pc := 12) C d_Rc_begin_12 ?_
  exact tl_vret (pc := 15) C d_Rc_begin_15 hw
theorem kX_Rc_begin {l : Launch} {R : Room} {nc ns : Nat} {Q : tl_Z → State → Prop} {D : va_G} {q : Nat → Nat} {k : Nat → ClassId} {nL : Nat} {z : tl_Z} {cc : ByteArray} {ret : Option FieldType} {pc : Nat} {lv : List (Nat × Value)} {rest : List Value} {S : SS} {A : AA} {own : String} {idx : Nat} {x1 : Int32} {post : SS → AA → Prop} (C : tl_Cx cc nL own ret D (tX k) z) (hw : wX_Rc_begin post S A x1) (hl : Cond.methodLink own idx y_Rc_begin ∈ wsAll) (hdg : decode cc pc = .ok (.invokevirtual idx, 3)) (hf : tl_fit R (tl_R 0) nc ns 2 rest = true) (kk : ∀ (S1 : SS) (A1 : AA), post S1 A1 → tl_At l R nc ns Q D (wX q k) nL z (pc + 3) lv (rest) (S1, A1)) : tl_At l R nc ns Q D (wX q k) nL z pc lv (.int x1 :: .ref (q 3) :: rest) (S, A) :=
  tl_callVv (n := 1) (As := [.int x1]) (b := q 3) (q0 := 3) (ci := 3) C (fun sz => cX_Rc_begin l D q k sz S A x1 hw) in_277 in_3 in_276 ip_3 (by decide +kernel) rfl ⟨rfl, rfl⟩ rfl rfl hl hf hdg kk
set_option maxHeartbeats 4000000 in
set_option maxRecDepth 100000 in
theorem cX_Rc_accept (l : Launch) (D : va_G) (q : Nat → Nat) (k : Nat → ClassId) (sz : Nat) (S : SS) (A : AA) (x1 x2 : Int32) {post : Int32 → SS → AA → Prop} (hw : wX_Rc_accept post S A x1 x2) : tl_Met l y_Rc_accept b_Rc_accept 5 (some .int) (tl_R 3) D (wX q k) (tX k) sz [.ref (q 3), .int x1, .int x2] (S, A) (tl_Qi D (wX q k) (tX k) post) := by
  refine tl_met (own := R_Rc) (lv := [(0, .ref (q 3)), (1, .int x1), (2, .int x2)]) (by decide) rfl rfl (Nat.le_of_ble_eq_true rfl) (fun z C => ?_)
  have B75 : ∀ (S : SS) (A : AA) (x1 x2 x3 : Int32), wX_Rc_accept_75 post S A x1 x2 x3 → tl_At l (tl_R 3) 0 0 (tl_M 0 0 (tl_Qi D (wX q k) (tX k) post)) D (wX q k) 5 z 75 [(0, .ref (q 3)), (1, .int x1), (2, .int x2), (3, .int x3)] [] (S, A) := by
    intro S A x1 x2 x3 hw
    refine tl_iload_n (pc := 75) C d_Rc_accept_75 rfl 3 rfl ?_
    refine tl_bipush (pc := 76) (v := 32) C d_Rc_accept_76 (by decide) ?_
    refine tl_icmp_lt (pc := 78) (tgt := 101) C d_Rc_accept_78 rfl (fun hc => ?_) (fun hc => ?_)
    · have hw := hw.1 hc
      refine tl_iconst (pc := 101) (v := 0) C d_Rc_accept_101 (by decide) ?_
      exact tl_iret (pc := 102) C d_Rc_accept_102 hw
    · have hw := hw.2 hc
      refine tl_iload_n (pc := 81) C d_Rc_accept_81 rfl 3 rfl ?_
      refine tl_bipush (pc := 82) (v := 48) C d_Rc_accept_82 (by decide) ?_
      refine tl_icmp_ge (pc := 84) (tgt := 101) C d_Rc_accept_84 rfl (fun hc => ?_) (fun hc => ?_)
      · have hw := hw.1 hc
        refine tl_iconst (pc := 101) (v := 0) C d_Rc_accept_101 (by decide) ?_
        exact tl_iret (pc := 102) C d_Rc_accept_102 hw
      · have hw := hw.2 hc
        refine tl_aload_n (pc := 87) C d_Rc_accept_87 rfl 0 rfl ?_
        refine gX_Rc_19 (pc := 88) (v := (S 8)) C rfl d_Rc_accept_88 ?_
        refine tl_if_le (pc := 91) (tgt := 101) C d_Rc_accept_91 rfl (fun hc => ?_) (fun hc => ?_)
        · have hw := hw.1 hc
          refine tl_iconst (pc := 101) (v := 0) C d_Rc_accept_101 (by decide) ?_
          exact tl_iret (pc := 102) C d_Rc_accept_102 hw
        · have hw := hw.2 hc
          refine tl_aload_n (pc := 94) C d_Rc_accept_94 rfl 0 rfl ?_
          refine tl_iload_n (pc := 95) C d_Rc_accept_95 rfl 1 rfl ?_
          refine tl_iload_n (pc := 96) C d_Rc_accept_96 rfl 2 rfl ?_
          refine kX_Rc_acceptNext (pc := 97) C hw ml_Rc_40 d_Rc_accept_97 rfl (fun r97 S97 A97 hw => ?_)
          exact tl_iret (pc := 100) C d_Rc_accept_100 hw
  have B32 : ∀ (S : SS) (A : AA) (x1 x2 x3 : Int32), wX_Rc_accept_32 post S A x1 x2 x3 → tl_At l (tl_R 3) 0 0 (tl_M 0 0 (tl_Qi D (wX q k) (tX k) post)) D (wX q k) 5 z 32 [(0, .ref (q 3)), (1, .int x1), (2, .int x2), (3, .int x3)] [] (S, A) := by
    intro S A x1 x2 x3 hw
    refine tl_iload_n (pc := 32) C d_Rc_accept_32 rfl 1 rfl ?_
    refine tl_iload_n (pc := 33) C d_Rc_accept_33 rfl 2 rfl ?_
    refine tl_iconst (pc := 34) (v := 1) C d_Rc_accept_34 (by decide) ?_
    refine knX_T_byteOf (pc := 35) C hw ml_Rc_28 d_Rc_accept_35 rfl (fun r35 S35 A35 hw => ?_)
    refine tl_istore (pc := 38) (lv' := [(4, .int r35), (0, .ref (q 3)), (1, .int x1), (2, .int x2), (3, .int x3)]) C d_Rc_accept_38 (by decide) rfl ?_
    refine tl_iload_n (pc := 40) C d_Rc_accept_40 rfl 4 rfl ?_
    refine tl_bipush (pc := 41) (v := 16) C d_Rc_accept_41 (by decide) ?_
    refine tl_icmp_ne (pc := 43) (tgt := 75) C d_Rc_accept_43 rfl (fun hc => ?_) (fun hc => ?_)
    · have hw := hw.1 hc
      exact tl_sub [1, 2, 3, 4] rfl (B75 _ _ _ _ _ hw)
    · have hw := hw.2 hc
      refine tl_iload (pc := 46) C d_Rc_accept_46 0 rfl ?_
      refine tl_bipush (pc := 48) (v := 8) C d_Rc_accept_48 (by decide) ?_
      refine tl_icmp_lt (pc := 50) (tgt := 75) C d_Rc_accept_50 rfl (fun hc => ?_) (fun hc => ?_)
      · have hw := hw.1 hc
        exact tl_sub [1, 2, 3, 4] rfl (B75 _ _ _ _ _ hw)
      · have hw := hw.2 hc
        refine tl_iload (pc := 53) C d_Rc_accept_53 0 rfl ?_
        refine tl_bipush (pc := 55) (v := 34) C d_Rc_accept_55 (by decide) ?_
        refine tl_icmp_gt (pc := 57) (tgt := 75) C d_Rc_accept_57 rfl (fun hc => ?_) (fun hc => ?_)
        · have hw := hw.1 hc
          exact tl_sub [1, 2, 3, 4] rfl (B75 _ _ _ _ _ hw)
        · have hw := hw.2 hc
          refine tl_aload_n (pc := 60) C d_Rc_accept_60 rfl 1 rfl ?_
          refine tl_iload (pc := 61) C d_Rc_accept_61 0 rfl ?_
          refine kX_Rc_begin (pc := 63) C hw ml_Rc_32 d_Rc_accept_63 rfl (fun S63 A63 hw => ?_)
          refine tl_aload_n (pc := 66) C d_Rc_accept_66 rfl 1 rfl ?_
          refine tl_iload_n (pc := 67) C d_Rc_accept_67 rfl 2 rfl ?_
          refine tl_iload_n (pc := 68) C d_Rc_accept_68 rfl 3 rfl ?_
          refine tl_iconst (pc := 69) (v := 2) C d_Rc_accept_69 (by decide) ?_
          refine kX_Rc_add (pc := 70) C hw ml_Rc_36 d_Rc_accept_70 rfl (fun S70 A70 hw => ?_)
          refine tl_iconst (pc := 73) (v := 1) C d_Rc_accept_73 (by decide) ?_
          exact tl_iret (pc := 74) C d_Rc_accept_74 hw
  refine tl_iload_n (pc := 0) C d_Rc_accept_0 rfl 1 rfl ?_
  refine tl_iload_n (pc := 1) C d_Rc_accept_1 rfl 2 rfl ?_
  refine tl_iconst (pc := 2) (v := 0) C d_Rc_accept_2 (by decide) ?_
  refine knX_T_byteOf (pc := 3) C hw ml_Rc_28 d_Rc_accept_3 rfl (fun r3 S3 A3 hw => ?_)
  refine tl_istore_n (pc := 6) (lv' := [(3, .int r3), (0, .ref (q 3)), (1, .int x1), (2, .int x2)]) C d_Rc_accept_6 rfl (by decide) rfl ?_
  refine tl_iload_n (pc := 7) C d_Rc_accept_7 rfl 0 rfl ?_
  refine tl_iconst (pc := 8) (v := 1) C d_Rc_accept_8 (by decide) ?_
  refine tl_icmp_lt (pc := 9) (tgt := 32) C d_Rc_accept_9 rfl (fun hc => ?_) (fun hc => ?_)
  · have hw := hw.1 hc
    exact tl_sub [1, 2, 3, 0] rfl (B32 _ _ _ _ _ hw)
  · have hw := hw.2 hc
    refine tl_iload_n (pc := 12) C d_Rc_accept_12 rfl 0 rfl ?_
    refine tl_bipush (pc := 13) (v := 7) C d_Rc_accept_13 (by decide) ?_
    refine tl_icmp_gt (pc := 15) (tgt := 32) C d_Rc_accept_15 rfl (fun hc => ?_) (fun hc => ?_)
    · have hw := hw.1 hc
      exact tl_sub [1, 2, 3, 0] rfl (B32 _ _ _ _ _ hw)
    · have hw := hw.2 hc
      refine tl_aload_n (pc := 18) C d_Rc_accept_18 rfl 1 rfl ?_
      refine tl_iload_n (pc := 19) C d_Rc_accept_19 rfl 0 rfl ?_
      refine kX_Rc_begin (pc := 20) C hw ml_Rc_32 d_Rc_accept_20 rfl (fun S20 A20 hw => ?_)
      refine tl_aload_n (pc := 23) C d_Rc_accept_23 rfl 1 rfl ?_
      refine tl_iload_n (pc := 24) C d_Rc_accept_24 rfl 2 rfl ?_
      refine tl_iload_n (pc := 25) C d_Rc_accept_25 rfl 3 rfl ?_
      refine tl_iconst (pc := 26) (v := 1) C d_Rc_accept_26 (by decide) ?_
      refine kX_Rc_add (pc := 27) C hw ml_Rc_36 d_Rc_accept_27 rfl (fun S27 A27 hw => ?_)
      refine tl_iconst (pc := 30) (v := 2) C d_Rc_accept_30 (by decide) ?_
      exact tl_iret (pc := 31) C d_Rc_accept_31 hw
theorem kX_Rc_accept {l : Launch} {R : Room} {nc ns : Nat} {Q : tl_Z → State → Prop} {D : va_G} {q : Nat → Nat} {k : Nat → ClassId} {nL : Nat} {z : tl_Z} {cc : ByteArray} {ret : Option FieldType} {pc : Nat} {lv : List (Nat × Value)} {rest : List Value} {S : SS} {A : AA} {own : String} {idx : Nat} {x1 x2 : Int32} {post : Int32 → SS → AA → Prop} (C : tl_Cx cc nL own ret D (tX k) z) (hw : wX_Rc_accept post S A x1 x2) (hl : Cond.methodLink own idx y_Rc_accept ∈ wsAll) (hdg : decode cc pc = .ok (.invokevirtual idx, 3)) (hf : tl_fit R (tl_R 3) nc ns 5 rest = true) (kk : ∀ (r : Int32) (S1 : SS) (A1 : AA), post r S1 A1 → tl_At l R nc ns Q D (wX q k) nL z (pc + 3) lv (.int r :: rest) (S1, A1)) : tl_At l R nc ns Q D (wX q k) nL z pc lv (.int x2 :: .int x1 :: .ref (q 3) :: rest) (S, A) :=
  tl_callVi (n := 2) (As := [.int x1, .int x2]) (b := q 3) (q0 := 3) (ci := 3) C (fun sz => cX_Rc_accept l D q k sz S A x1 x2 hw) in_272 in_3 in_270 in_271 (by decide +kernel) rfl ⟨rfl, rfl⟩ rfl rfl hl hf hdg kk
set_option maxHeartbeats 4000000 in
set_option maxRecDepth 100000 in
theorem cX_Rw_put_9 (l : Launch) (D : va_G) (q : Nat → Nat) (k : Nat → ClassId) (sz : Nat) (S : SS) (A : AA) {post : SS → AA → Prop} (hw : wX_Rw_put_9 post S A) : tl_Met l y_Rw_put b_Rw_put 4 none (tl_R 0) D (wX q k) (tX k) sz [.ref (q 6), .ref (q 9)] (S, A) (tl_Qv D (wX q k) (tX k) post) := by
  refine tl_met (own := R_Rw) (lv := [(0, .ref (q 6)), (1, .ref (q 9))]) (by decide) rfl rfl (Nat.le_of_ble_eq_true rfl) (fun z C => ?_)
  have B35 : ∀ (S : SS) (A : AA) (x2 x3 : Int32), wX_Rw_put_9_35 post S A x2 x3 → tl_At l (tl_R 0) 0 0 (tl_M 0 0 (tl_Qv D (wX q k) (tX k) post)) D (wX q k) 4 z 35 [(0, .ref (q 6)), (1, .ref (q 9)), (2, .int x2), (3, .int x3)] [] (S, A) := by
    intro S A x2 x3 hw
    have key : ∀ X35 : SS → AA → Int32 → Int32 → Prop, (∀ (S : SS) (A : AA) (x2 x3 : Int32), X35 S A x2 x3 → tl_At l (tl_R 0) 0 0 (tl_M 0 0 (tl_Qv D (wX q k) (tX k) post)) D (wX q k) 4 z 35 [(0, .ref (q 6)), (1, .ref (q 9)), (2, .int x2), (3, .int x3)] [] (S, A)) → ∀ (S : SS) (A : AA) (x2 x3 : Int32), wX_Rw_put_9_35B post X35 S A x2 x3 → tl_At l (tl_R 0) 0 0 (tl_M 0 0 (tl_Qv D (wX q k) (tX k) post)) D (wX q k) 4 z 35 [(0, .ref (q 6)), (1, .ref (q 9)), (2, .int x2), (3, .int x3)] [] (S, A) := by
      intro X35 hX35 S A x2 x3 hw
      refine tl_iload_n (pc := 35) C d_Rw_put_35 rfl 3 rfl ?_
      refine tl_bipush (pc := 36) (v := 8) C d_Rw_put_36 (by decide) ?_
      refine tl_icmp_ge (pc := 38) (tgt := 58) C d_Rw_put_38 rfl (fun hc => ?_) (fun hc => ?_)
      · have hw := hw.1 hc
        refine tl_aload_n (pc := 58) C d_Rw_put_58 rfl 0 rfl ?_
        refine tl_dup (pc := 59) C d_Rw_put_59 rfl ?_
        refine gX_Rw_15 (pc := 60) (v := (S 17)) C rfl d_Rw_put_60 ?_
        refine tl_iconst (pc := 63) (v := 1) C d_Rw_put_63 (by decide) ?_
        refine tl_iadd (pc := 64) C d_Rw_put_64 ?_
        refine pX_Rw_15 (pc := 65) C d_Rw_put_65 ?_
        exact tl_vret (pc := 68) C d_Rw_put_68 hw
      · have hw := hw.2 hc
        refine tl_aload_n (pc := 41) C d_Rw_put_41 rfl 0 rfl ?_
        refine gX_Rw_11 (pc := 42) C d_Rw_put_42 ?_
        refine tl_iload_n (pc := 45) C d_Rw_put_45 rfl 2 rfl ?_
        refine tl_iload_n (pc := 46) C d_Rw_put_46 rfl 3 rfl ?_
        refine tl_iadd (pc := 47) C d_Rw_put_47 ?_
        refine tl_aload_n (pc := 48) C d_Rw_put_48 rfl 1 rfl ?_
        refine tl_iload_n (pc := 49) C d_Rw_put_49 rfl 3 rfl ?_
        obtain ⟨hi, hw⟩ := hw
        refine rX_ald4 (pc := 50) (f := (A 4)) C rfl hi d_Rw_put_50 ?_
        obtain ⟨hi, hw⟩ := hw
        refine rX_ast2 (pc := 51) (f := (A 2)) C rfl hi d_Rw_put_51 ?_
        refine tl_iinc (pc := 52) (lv' := [(3, .int (x3 + (1 : Int32))), (0, .ref (q 6)), (1, .ref (q 9)), (2, .int x2)]) C d_Rw_put_52 (by decide) 3 rfl rfl (by decide) rfl ?_
        refine tl_goto (pc := 55) (tgt := 35) C d_Rw_put_55 rfl ?_
        exact tl_sub [1, 2, 3, 0] rfl (hX35 _ _ _ _ hw)
    exact hw _ (fun S A x2 x3 hb => key _ (fun _ _ _ _ h => h) S A x2 x3 hb)
  refine tl_aload_n (pc := 0) C d_Rw_put_0 rfl 0 rfl ?_
  refine gX_Rw_15 (pc := 1) (v := (S 17)) C rfl d_Rw_put_1 ?_
  refine tl_bipush (pc := 4) (v := 12) C d_Rw_put_4 (by decide) ?_
  refine tl_icmp_eq (pc := 6) (tgt := 16) C d_Rw_put_6 rfl (fun hc => ?_) (fun hc => ?_)
  · have hw := hw.1 hc
    exact tl_vret (pc := 16) C d_Rw_put_16 hw
  · have hw := hw.2 hc
    refine tl_aload_n (pc := 9) C d_Rw_put_9 rfl 1 rfl ?_
    refine rX_len4 (pc := 10) C d_Rw_put_10 ?_
    refine tl_bipush (pc := 11) (v := 8) C d_Rw_put_11 (by decide) ?_
    refine tl_icmp_ge (pc := 13) (tgt := 17) C d_Rw_put_13 rfl (fun _ => ?_) (fun hc => absurd hc (by decide))
    refine tl_aload_n (pc := 17) C d_Rw_put_17 rfl 0 rfl ?_
    refine gX_Rw_19 (pc := 18) (v := (S 16)) C rfl d_Rw_put_18 ?_
    refine tl_aload_n (pc := 21) C d_Rw_put_21 rfl 0 rfl ?_
    refine gX_Rw_15 (pc := 22) (v := (S 17)) C rfl d_Rw_put_22 ?_
    refine tl_iadd (pc := 25) C d_Rw_put_25 ?_
    refine tl_bipush (pc := 26) (v := 12) C d_Rw_put_26 (by decide) ?_
    refine tl_irem (pc := 28) C d_Rw_put_28 (by decide) ?_
    refine tl_bipush (pc := 29) (v := 8) C d_Rw_put_29 (by decide) ?_
    refine tl_imul (pc := 31) C d_Rw_put_31 ?_
    refine tl_istore_n (pc := 32) (lv' := [(2, .int ((((S 16) + (S 17)) - ((S 16) + (S 17)) / (12 : Int32) * (12 : Int32)) * (8 : Int32))), (0, .ref (q 6)), (1, .ref (q 9))]) C d_Rw_put_32 rfl (by decide) rfl ?_
    refine tl_iconst (pc := 33) (v := 0) C d_Rw_put_33 (by decide) ?_
    refine tl_istore_n (pc := 34) (lv' := [(3, .int (0 : Int32)), (2, .int ((((S 16) + (S 17)) - ((S 16) + (S 17)) / (12 : Int32) * (12 : Int32)) * (8 : Int32))), (0, .ref (q 6)), (1, .ref (q 9))]) C d_Rw_put_34 rfl (by decide) rfl ?_
    exact tl_sub [2, 3, 1, 0] rfl (B35 _ _ _ _ hw)
theorem kX_Rw_put_9 {l : Launch} {R : Room} {nc ns : Nat} {Q : tl_Z → State → Prop} {D : va_G} {q : Nat → Nat} {k : Nat → ClassId} {nL : Nat} {z : tl_Z} {cc : ByteArray} {ret : Option FieldType} {pc : Nat} {lv : List (Nat × Value)} {rest : List Value} {S : SS} {A : AA} {own : String} {idx : Nat} {post : SS → AA → Prop} (C : tl_Cx cc nL own ret D (tX k) z) (hw : wX_Rw_put_9 post S A) (hl : Cond.methodLink own idx y_Rw_put ∈ wsAll) (hdg : decode cc pc = .ok (.invokevirtual idx, 3)) (hf : tl_fit R (tl_R 0) nc ns 4 rest = true) (kk : ∀ (S1 : SS) (A1 : AA), post S1 A1 → tl_At l R nc ns Q D (wX q k) nL z (pc + 3) lv (rest) (S1, A1)) : tl_At l R nc ns Q D (wX q k) nL z pc lv (.ref (q 9) :: .ref (q 6) :: rest) (S, A) :=
  tl_callVv (n := 1) (As := [.ref (q 9)]) (b := q 6) (q0 := 6) (ci := 4) C (fun sz => cX_Rw_put_9 l D q k sz S A hw) in_264 in_5 in_262 in_263 (by decide +kernel) rfl ⟨rfl, rfl⟩ rfl rfl hl hf hdg kk
set_option maxHeartbeats 4000000 in
set_option maxRecDepth 100000 in
theorem cX_Sd_putFrom (l : Launch) (D : va_G) (q : Nat → Nat) (k : Nat → ClassId) (sz : Nat) (S : SS) (A : AA) (x1 : Int32) {post : SS → AA → Prop} (hw : wX_Sd_putFrom post S A x1) : tl_Met l y_Sd_putFrom b_Sd_putFrom 4 none (tl_R 1) D (wX q k) (tX k) sz [.ref (q 5), .int x1] (S, A) (tl_Qv D (wX q k) (tX k) post) := by
  refine tl_met (own := R_Sd) (lv := [(0, .ref (q 5)), (1, .int x1)]) (by decide) rfl rfl (Nat.le_of_ble_eq_true rfl) (fun z C => ?_)
  have B2 : ∀ (S : SS) (A : AA) (x2 : Int32), wX_Sd_putFrom_2 post S A x2 → tl_At l (tl_R 1) 0 0 (tl_M 0 0 (tl_Qv D (wX q k) (tX k) post)) D (wX q k) 4 z 2 [(0, .ref (q 5)), (2, .int x2)] [] (S, A) := by
    intro S A x2 hw
    have key : ∀ X2 : SS → AA → Int32 → Prop, (∀ (S : SS) (A : AA) (x2 : Int32), X2 S A x2 → tl_At l (tl_R 1) 0 0 (tl_M 0 0 (tl_Qv D (wX q k) (tX k) post)) D (wX q k) 4 z 2 [(0, .ref (q 5)), (2, .int x2)] [] (S, A)) → ∀ (S : SS) (A : AA) (x2 : Int32), wX_Sd_putFrom_2B post X2 S A x2 → tl_At l (tl_R 1) 0 0 (tl_M 0 0 (tl_Qv D (wX q k) (tX k) post)) D (wX q k) 4 z 2 [(0, .ref (q 5)), (2, .int x2)] [] (S, A) := by
      intro X2 hX2 S A x2 hw
      have B71 : ∀ (S : SS) (A : AA) (x2 y0 y1 : Int32), wX_Sd_putFrom_71 post X2 S A x2 y0 y1 → tl_At l (tl_R 1) 0 0 (tl_M 0 0 (tl_Qv D (wX q k) (tX k) post)) D (wX q k) 4 z 71 [(0, .ref (q 5)), (2, .int x2)] [.int y0, .int y1, .ref (q 5)] (S, A) := by
        intro S A x2 y0 y1 hw
        refine tl_iadd (pc := 71) C d_Sd_putFrom_71 ?_
        refine pX_Sd_33 (pc := 72) C d_Sd_putFrom_72 ?_
        refine tl_iinc (pc := 75) (lv' := [(2, .int (x2 + (1 : Int32))), (0, .ref (q 5))]) C d_Sd_putFrom_75 (by decide) 1 rfl rfl (by decide) rfl ?_
        refine tl_goto (pc := 78) (tgt := 2) C d_Sd_putFrom_78 rfl ?_
        exact tl_sub [1, 0] rfl (hX2 _ _ _ hw)
      have B56 : ∀ (S : SS) (A : AA) (x2 x3 y0 y1 : Int32), wX_Sd_putFrom_56 post X2 S A x2 x3 y0 y1 → tl_At l (tl_R 1) 0 0 (tl_M 0 0 (tl_Qv D (wX q k) (tX k) post)) D (wX q k) 4 z 56 [(0, .ref (q 5)), (2, .int x2), (3, .int x3)] [.int y0, .int y1, .ref (q 9)] (S, A) := by
        intro S A x2 x3 y0 y1 hw
        obtain ⟨hi, hw⟩ := hw
        refine rX_ast4 (pc := 56) (f := (A 4)) C rfl hi d_Sd_putFrom_56 ?_
        refine tl_aload_n (pc := 57) C d_Sd_putFrom_57 rfl 0 rfl ?_
        refine tl_dup (pc := 58) C d_Sd_putFrom_58 rfl ?_
        refine gX_Sd_33 (pc := 59) (v := (S 12)) C rfl d_Sd_putFrom_59 ?_
        refine tl_iload_n (pc := 62) C d_Sd_putFrom_62 rfl 2 rfl ?_
        refine tl_if_eq (pc := 63) (tgt := 70) C d_Sd_putFrom_63 rfl (fun hc => ?_) (fun hc => ?_)
        · have hw := hw.1 hc
          refine tl_iconst (pc := 70) (v := 0) C d_Sd_putFrom_70 (by decide) ?_
          exact tl_sub [0, 1] rfl (B71 _ _ _ _ _ hw)
        · have hw := hw.2 hc
          refine tl_iconst (pc := 66) (v := 1) C d_Sd_putFrom_66 (by decide) ?_
          refine tl_goto (pc := 67) (tgt := 71) C d_Sd_putFrom_67 rfl ?_
          exact tl_sub [0, 1] rfl (B71 _ _ _ _ _ hw)
      have B33 : ∀ (S : SS) (A : AA) (x2 y0 : Int32), wX_Sd_putFrom_33 post X2 S A x2 y0 → tl_At l (tl_R 1) 0 0 (tl_M 0 0 (tl_Qv D (wX q k) (tX k) post)) D (wX q k) 4 z 33 [(0, .ref (q 5)), (2, .int x2)] [.int y0] (S, A) := by
        intro S A x2 y0 hw
        refine tl_istore_n (pc := 33) (lv' := [(3, .int y0), (0, .ref (q 5)), (2, .int x2)]) C d_Sd_putFrom_33 rfl (by decide) rfl ?_
        refine tl_aload_n (pc := 34) C d_Sd_putFrom_34 rfl 1 rfl ?_
        refine gX_Sd_22 (pc := 35) C d_Sd_putFrom_35 ?_
        refine tl_iload_n (pc := 38) C d_Sd_putFrom_38 rfl 2 rfl ?_
        refine tl_iload_n (pc := 39) C d_Sd_putFrom_39 rfl 0 rfl ?_
        refine tl_if_eq (pc := 40) (tgt := 55) C d_Sd_putFrom_40 rfl (fun hc => ?_) (fun hc => ?_)
        · have hw := hw.1 hc
          refine tl_iconst (pc := 55) (v := 0) C d_Sd_putFrom_55 (by decide) ?_
          exact tl_sub [1, 2, 0] rfl (B56 _ _ _ _ _ _ hw)
        · have hw := hw.2 hc
          refine tl_aload_n (pc := 43) C d_Sd_putFrom_43 rfl 1 rfl ?_
          refine gX_Sd_18 (pc := 44) C d_Sd_putFrom_44 ?_
          refine tl_aload_n (pc := 47) C d_Sd_putFrom_47 rfl 1 rfl ?_
          refine gX_Sd_33 (pc := 48) (v := (S 12)) C rfl d_Sd_putFrom_48 ?_
          obtain ⟨hi, hw⟩ := hw
          refine rX_ald3 (pc := 51) (f := (A 3)) C rfl hi d_Sd_putFrom_51 ?_
          refine tl_goto (pc := 52) (tgt := 56) C d_Sd_putFrom_52 rfl ?_
          exact tl_sub [1, 2, 0] rfl (B56 _ _ _ _ _ _ hw)
      have B32 : ∀ (S : SS) (A : AA) (x2 : Int32), wX_Sd_putFrom_32 post X2 S A x2 → tl_At l (tl_R 1) 0 0 (tl_M 0 0 (tl_Qv D (wX q k) (tX k) post)) D (wX q k) 4 z 32 [(0, .ref (q 5)), (2, .int x2)] [] (S, A) := by
        intro S A x2 hw
        refine tl_iconst (pc := 32) (v := 0) C d_Sd_putFrom_32 (by decide) ?_
        exact tl_sub [0, 1] rfl (B33 _ _ _ _ hw)
      refine tl_iload_n (pc := 2) C d_Sd_putFrom_2 rfl 1 rfl ?_
      refine tl_bipush (pc := 3) (v := 8) C d_Sd_putFrom_3 (by decide) ?_
      refine tl_icmp_ge (pc := 5) (tgt := 81) C d_Sd_putFrom_5 rfl (fun hc => ?_) (fun hc => ?_)
      · have hw := hw.1 hc
        refine tl_aload_n (pc := 81) C d_Sd_putFrom_81 rfl 0 rfl ?_
        refine gX_Sd_12 (pc := 82) C d_Sd_putFrom_82 ?_
        refine tl_aload_n (pc := 85) C d_Sd_putFrom_85 rfl 0 rfl ?_
        refine gX_Sd_22 (pc := 86) C d_Sd_putFrom_86 ?_
        refine kX_Rw_put_9 (pc := 89) C hw ml_Sd_49 d_Sd_putFrom_89 rfl (fun S89 A89 hw => ?_)
        exact tl_vret (pc := 92) C d_Sd_putFrom_92 hw
      · have hw := hw.2 hc
        refine tl_aload_n (pc := 8) C d_Sd_putFrom_8 rfl 0 rfl ?_
        refine gX_Sd_33 (pc := 9) (v := (S 12)) C rfl d_Sd_putFrom_9 ?_
        refine tl_aload_n (pc := 12) C d_Sd_putFrom_12 rfl 0 rfl ?_
        refine gX_Sd_25 (pc := 13) (v := (S 11)) C rfl d_Sd_putFrom_13 ?_
        refine tl_icmp_ge (pc := 16) (tgt := 32) C d_Sd_putFrom_16 rfl (fun hc => ?_) (fun hc => ?_)
        · have hw := hw.1 hc
          exact tl_sub [0, 1] rfl (B32 _ _ _ hw)
        · have hw := hw.2 hc
          refine tl_aload_n (pc := 19) C d_Sd_putFrom_19 rfl 0 rfl ?_
          refine gX_Sd_33 (pc := 20) (v := (S 12)) C rfl d_Sd_putFrom_20 ?_
          refine tl_bipush (pc := 23) (v := 10) C d_Sd_putFrom_23 (by decide) ?_
          refine tl_icmp_ge (pc := 25) (tgt := 32) C d_Sd_putFrom_25 rfl (fun hc => ?_) (fun hc => ?_)
          · have hw := hw.1 hc
            exact tl_sub [0, 1] rfl (B32 _ _ _ hw)
          · have hw := hw.2 hc
            refine tl_iconst (pc := 28) (v := 1) C d_Sd_putFrom_28 (by decide) ?_
            refine tl_goto (pc := 29) (tgt := 33) C d_Sd_putFrom_29 rfl ?_
            exact tl_sub [0, 1] rfl (B33 _ _ _ _ hw)
    exact hw _ (fun S A x2 hb => key _ (fun _ _ _ h => h) S A x2 hb)
  refine tl_iload_n (pc := 0) C d_Sd_putFrom_0 rfl 1 rfl ?_
  refine tl_istore_n (pc := 1) (lv' := [(2, .int x1), (0, .ref (q 5)), (1, .int x1)]) C d_Sd_putFrom_1 rfl (by decide) rfl ?_
  exact tl_sub [1, 0] rfl (B2 _ _ _ hw)
theorem kX_Sd_putFrom {l : Launch} {R : Room} {nc ns : Nat} {Q : tl_Z → State → Prop} {D : va_G} {q : Nat → Nat} {k : Nat → ClassId} {nL : Nat} {z : tl_Z} {cc : ByteArray} {ret : Option FieldType} {pc : Nat} {lv : List (Nat × Value)} {rest : List Value} {S : SS} {A : AA} {own : String} {idx : Nat} {x1 : Int32} {post : SS → AA → Prop} (C : tl_Cx cc nL own ret D (tX k) z) (hw : wX_Sd_putFrom post S A x1) (hl : Cond.methodLink own idx y_Sd_putFrom ∈ wsAll) (hdg : decode cc pc = .ok (.invokevirtual idx, 3)) (hf : tl_fit R (tl_R 1) nc ns 4 rest = true) (kk : ∀ (S1 : SS) (A1 : AA), post S1 A1 → tl_At l R nc ns Q D (wX q k) nL z (pc + 3) lv (rest) (S1, A1)) : tl_At l R nc ns Q D (wX q k) nL z pc lv (.int x1 :: .ref (q 5) :: rest) (S, A) :=
  tl_callVv (n := 1) (As := [.int x1]) (b := q 5) (q0 := 5) (ci := 5) C (fun sz => cX_Sd_putFrom l D q k sz S A x1 hw) in_260 in_4 in_259 ip_2 (by decide +kernel) rfl ⟨rfl, rfl⟩ rfl rfl hl hf hdg kk
set_option maxHeartbeats 4000000 in
set_option maxRecDepth 100000 in
theorem cX_Sd_askForMore (l : Launch) (D : va_G) (q : Nat → Nat) (k : Nat → ClassId) (sz : Nat) (S : SS) (A : AA) {post : SS → AA → Prop} (hw : wX_Sd_askForMore post S A) : tl_Met l y_Sd_askForMore b_Sd_askForMore 1 none (tl_R 2) D (wX q k) (tX k) sz [.ref (q 5)] (S, A) (tl_Qv D (wX q k) (tX k) post) := by
  refine tl_met (own := R_Sd) (lv := [(0, .ref (q 5))]) (by decide) rfl rfl (Nat.le_of_ble_eq_true rfl) (fun z C => ?_)
  refine tl_aload_n (pc := 0) C d_Sd_askForMore_0 rfl 0 rfl ?_
  refine tl_iconst (pc := 1) (v := 0) C d_Sd_askForMore_1 (by decide) ?_
  refine pX_Sd_33 (pc := 2) C d_Sd_askForMore_2 ?_
  refine tl_aload_n (pc := 5) C d_Sd_askForMore_5 rfl 0 rfl ?_
  refine tl_iconst (pc := 6) (v := 0) C d_Sd_askForMore_6 (by decide) ?_
  refine pX_Sd_25 (pc := 7) C d_Sd_askForMore_7 ?_
  refine tl_aload_n (pc := 10) C d_Sd_askForMore_10 rfl 0 rfl ?_
  refine gX_Sd_22 (pc := 11) C d_Sd_askForMore_11 ?_
  refine tl_iconst (pc := 14) (v := 0) C d_Sd_askForMore_14 (by decide) ?_
  refine tl_bipush (pc := 15) (v := 48) C d_Sd_askForMore_15 (by decide) ?_
  obtain ⟨hi, hw⟩ := hw
  refine rX_ast4 (pc := 17) (f := (A 4)) C rfl hi d_Sd_askForMore_17 ?_
  refine tl_aload_n (pc := 18) C d_Sd_askForMore_18 rfl 0 rfl ?_
  refine gX_Sd_22 (pc := 19) C d_Sd_askForMore_19 ?_
  refine tl_iconst (pc := 22) (v := 1) C d_Sd_askForMore_22 (by decide) ?_
  refine tl_iconst (pc := 23) (v := 2) C d_Sd_askForMore_23 (by decide) ?_
  obtain ⟨hi, hw⟩ := hw
  refine rX_ast4 (pc := 24) (f := (upd (A 4) (0 : Int32).toNatClampNeg (48 : Int32))) C rfl hi d_Sd_askForMore_24 ?_
  refine tl_aload_n (pc := 25) C d_Sd_askForMore_25 rfl 0 rfl ?_
  refine tl_iconst (pc := 26) (v := 2) C d_Sd_askForMore_26 (by decide) ?_
  refine kX_Sd_putFrom (pc := 27) C hw ml_Sd_36 d_Sd_askForMore_27 rfl (fun S27 A27 hw => ?_)
  exact tl_vret (pc := 30) C d_Sd_askForMore_30 hw
theorem kX_Sd_askForMore {l : Launch} {R : Room} {nc ns : Nat} {Q : tl_Z → State → Prop} {D : va_G} {q : Nat → Nat} {k : Nat → ClassId} {nL : Nat} {z : tl_Z} {cc : ByteArray} {ret : Option FieldType} {pc : Nat} {lv : List (Nat × Value)} {rest : List Value} {S : SS} {A : AA} {own : String} {idx : Nat} {post : SS → AA → Prop} (C : tl_Cx cc nL own ret D (tX k) z) (hw : wX_Sd_askForMore post S A) (hl : Cond.methodLink own idx y_Sd_askForMore ∈ wsAll) (hdg : decode cc pc = .ok (.invokevirtual idx, 3)) (hf : tl_fit R (tl_R 2) nc ns 1 rest = true) (kk : ∀ (S1 : SS) (A1 : AA), post S1 A1 → tl_At l R nc ns Q D (wX q k) nL z (pc + 3) lv (rest) (S1, A1)) : tl_At l R nc ns Q D (wX q k) nL z pc lv (.ref (q 5) :: rest) (S, A) :=
  tl_callVv (n := 0) (As := []) (b := q 5) (q0 := 5) (ci := 5) C (fun sz => cX_Sd_askForMore l D q k sz S A hw) in_290 in_4 in_288 in_289 (by decide +kernel) rfl ⟨rfl, rfl⟩ rfl rfl hl hf hdg kk
set_option maxHeartbeats 4000000 in
set_option maxRecDepth 100000 in
theorem cX_Sd_drop (l : Launch) (D : va_G) (q : Nat → Nat) (k : Nat → ClassId) (sz : Nat) (S : SS) (A : AA) {post : SS → AA → Prop} (hw : wX_Sd_drop post S A) : tl_Met l y_Sd_drop b_Sd_drop 1 none (tl_R 0) D (wX q k) (tX k) sz [.ref (q 5)] (S, A) (tl_Qv D (wX q k) (tX k) post) := by
  refine tl_met (own := R_Sd) (lv := [(0, .ref (q 5))]) (by decide) rfl rfl (Nat.le_of_ble_eq_true rfl) (fun z C => ?_)
  refine tl_aload_n (pc := 0) C d_Sd_drop_0 rfl 0 rfl ?_
  refine tl_iconst (pc := 1) (v := 0) C d_Sd_drop_1 (by decide) ?_
  refine pX_Sd_42 (pc := 2) C (by decide) d_Sd_drop_2 ?_
  exact tl_vret (pc := 5) C d_Sd_drop_5 hw
theorem kX_Sd_drop {l : Launch} {R : Room} {nc ns : Nat} {Q : tl_Z → State → Prop} {D : va_G} {q : Nat → Nat} {k : Nat → ClassId} {nL : Nat} {z : tl_Z} {cc : ByteArray} {ret : Option FieldType} {pc : Nat} {lv : List (Nat × Value)} {rest : List Value} {S : SS} {A : AA} {own : String} {idx : Nat} {post : SS → AA → Prop} (C : tl_Cx cc nL own ret D (tX k) z) (hw : wX_Sd_drop post S A) (hl : Cond.methodLink own idx y_Sd_drop ∈ wsAll) (hdg : decode cc pc = .ok (.invokevirtual idx, 3)) (hf : tl_fit R (tl_R 0) nc ns 1 rest = true) (kk : ∀ (S1 : SS) (A1 : AA), post S1 A1 → tl_At l R nc ns Q D (wX q k) nL z (pc + 3) lv (rest) (S1, A1)) : tl_At l R nc ns Q D (wX q k) nL z pc lv (.ref (q 5) :: rest) (S, A) :=
  tl_callVv (n := 0) (As := []) (b := q 5) (q0 := 5) (ci := 5) C (fun sz => cX_Sd_drop l D q k sz S A hw) in_204 in_4 in_202 in_203 (by decide +kernel) rfl ⟨rfl, rfl⟩ rfl rfl hl hf hdg kk
set_option maxHeartbeats 4000000 in
set_option maxRecDepth 100000 in
theorem cX_Sd_goOn (l : Launch) (D : va_G) (q : Nat → Nat) (k : Nat → ClassId) (sz : Nat) (S : SS) (A : AA) (x1 : Int32) {post : SS → AA → Prop} (hw : wX_Sd_goOn post S A x1) : tl_Met l y_Sd_goOn b_Sd_goOn 4 none (tl_R 2) D (wX q k) (tX k) sz [.ref (q 5), .int x1] (S, A) (tl_Qv D (wX q k) (tX k) post) := by
  refine tl_met (own := R_Sd) (lv := [(0, .ref (q 5)), (1, .int x1)]) (by decide) rfl rfl (Nat.le_of_ble_eq_true rfl) (fun z C => ?_)
  have B83 : ∀ (S : SS) (A : AA) (y0 : Int32), wX_Sd_goOn_83 post S A y0 → tl_At l (tl_R 2) 0 0 (tl_M 0 0 (tl_Qv D (wX q k) (tX k) post)) D (wX q k) 4 z 83 [(0, .ref (q 5))] [.int y0, .ref (q 5)] (S, A) := by
    intro S A y0 hw
    obtain ⟨hz, hw⟩ := hw
    refine pX_Sd_42 (pc := 83) C hz d_Sd_goOn_83 ?_
    refine tl_aload_n (pc := 86) C d_Sd_goOn_86 rfl 0 rfl ?_
    refine tl_iconst (pc := 87) (v := 0) C d_Sd_goOn_87 (by decide) ?_
    refine pX_Sd_46 (pc := 88) C d_Sd_goOn_88 ?_
    exact tl_vret (pc := 91) C d_Sd_goOn_91 hw
  have B66 : ∀ (S : SS) (A : AA), wX_Sd_goOn_66 post S A → tl_At l (tl_R 2) 0 0 (tl_M 0 0 (tl_Qv D (wX q k) (tX k) post)) D (wX q k) 4 z 66 [(0, .ref (q 5))] [] (S, A) := by
    intro S A hw
    refine tl_aload_n (pc := 66) C d_Sd_goOn_66 rfl 0 rfl ?_
    refine tl_aload_n (pc := 67) C d_Sd_goOn_67 rfl 0 rfl ?_
    refine gX_Sd_33 (pc := 68) (v := (S 12)) C rfl d_Sd_goOn_68 ?_
    refine tl_aload_n (pc := 71) C d_Sd_goOn_71 rfl 0 rfl ?_
    refine gX_Sd_25 (pc := 72) (v := (S 11)) C rfl d_Sd_goOn_72 ?_
    refine tl_icmp_ge (pc := 75) (tgt := 82) C d_Sd_goOn_75 rfl (fun hc => ?_) (fun hc => ?_)
    · have hw := hw.1 hc
      refine tl_iconst (pc := 82) (v := 0) C d_Sd_goOn_82 (by decide) ?_
      exact tl_sub [0] rfl (B83 _ _ _ hw)
    · have hw := hw.2 hc
      refine tl_iconst (pc := 78) (v := 1) C d_Sd_goOn_78 (by decide) ?_
      refine tl_goto (pc := 79) (tgt := 83) C d_Sd_goOn_79 rfl ?_
      exact tl_sub [0] rfl (B83 _ _ _ hw)
  have B13 : ∀ (S : SS) (A : AA) (x2 x3 : Int32), wX_Sd_goOn_13 post S A x2 x3 → tl_At l (tl_R 2) 0 0 (tl_M 0 0 (tl_Qv D (wX q k) (tX k) post)) D (wX q k) 4 z 13 [(0, .ref (q 5)), (2, .int x2), (3, .int x3)] [] (S, A) := by
    intro S A x2 x3 hw
    have key : ∀ X13 : SS → AA → Int32 → Int32 → Prop, (∀ (S : SS) (A : AA) (x2 x3 : Int32), X13 S A x2 x3 → tl_At l (tl_R 2) 0 0 (tl_M 0 0 (tl_Qv D (wX q k) (tX k) post)) D (wX q k) 4 z 13 [(0, .ref (q 5)), (2, .int x2), (3, .int x3)] [] (S, A)) → ∀ (S : SS) (A : AA) (x2 x3 : Int32), wX_Sd_goOn_13B post X13 S A x2 x3 → tl_At l (tl_R 2) 0 0 (tl_M 0 0 (tl_Qv D (wX q k) (tX k) post)) D (wX q k) 4 z 13 [(0, .ref (q 5)), (2, .int x2), (3, .int x3)] [] (S, A) := by
      intro X13 hX13 S A x2 x3 hw
      refine tl_iload_n (pc := 13) C d_Sd_goOn_13 rfl 2 rfl ?_
      refine tl_iload_n (pc := 14) C d_Sd_goOn_14 rfl 1 rfl ?_
      refine tl_icmp_ge (pc := 15) (tgt := 66) C d_Sd_goOn_15 rfl (fun hc => ?_) (fun hc => ?_)
      · have hw := hw.1 hc
        exact tl_sub [0] rfl (B66 _ _ hw)
      · have hw := hw.2 hc
        refine tl_aload_n (pc := 18) C d_Sd_goOn_18 rfl 0 rfl ?_
        refine gX_Sd_33 (pc := 19) (v := (S 12)) C rfl d_Sd_goOn_19 ?_
        refine tl_aload_n (pc := 22) C d_Sd_goOn_22 rfl 0 rfl ?_
        refine gX_Sd_25 (pc := 23) (v := (S 11)) C rfl d_Sd_goOn_23 ?_
        refine tl_icmp_ge (pc := 26) (tgt := 66) C d_Sd_goOn_26 rfl (fun hc => ?_) (fun hc => ?_)
        · have hw := hw.1 hc
          exact tl_sub [0] rfl (B66 _ _ hw)
        · have hw := hw.2 hc
          refine tl_aload_n (pc := 29) C d_Sd_goOn_29 rfl 0 rfl ?_
          refine gX_Sd_22 (pc := 30) C d_Sd_goOn_30 ?_
          refine tl_iconst (pc := 33) (v := 0) C d_Sd_goOn_33 (by decide) ?_
          refine tl_bipush (pc := 34) (v := 32) C d_Sd_goOn_34 (by decide) ?_
          refine tl_aload_n (pc := 36) C d_Sd_goOn_36 rfl 0 rfl ?_
          refine gX_Sd_39 (pc := 37) (v := (S 13)) C rfl d_Sd_goOn_37 ?_
          refine tl_iadd (pc := 40) C d_Sd_goOn_40 ?_
          obtain ⟨hi, hw⟩ := hw
          refine rX_ast4 (pc := 41) (f := (A 4)) C rfl hi d_Sd_goOn_41 ?_
          refine tl_aload_n (pc := 42) C d_Sd_goOn_42 rfl 0 rfl ?_
          refine tl_aload_n (pc := 43) C d_Sd_goOn_43 rfl 0 rfl ?_
          refine gX_Sd_39 (pc := 44) (v := (S 13)) C rfl d_Sd_goOn_44 ?_
          refine tl_iconst (pc := 47) (v := 1) C d_Sd_goOn_47 (by decide) ?_
          refine tl_iadd (pc := 48) C d_Sd_goOn_48 ?_
          refine tl_bipush (pc := 49) (v := 16) C d_Sd_goOn_49 (by decide) ?_
          refine tl_irem (pc := 51) C d_Sd_goOn_51 (by decide) ?_
          refine pX_Sd_39 (pc := 52) C d_Sd_goOn_52 ?_
          refine tl_aload_n (pc := 55) C d_Sd_goOn_55 rfl 0 rfl ?_
          refine tl_iconst (pc := 56) (v := 1) C d_Sd_goOn_56 (by decide) ?_
          refine kX_Sd_putFrom (pc := 57) C hw ml_Sd_36 d_Sd_goOn_57 rfl (fun S57 A57 hw => ?_)
          refine tl_iinc (pc := 60) (lv' := [(3, .int (x3 + (1 : Int32))), (0, .ref (q 5)), (2, .int x2)]) C d_Sd_goOn_60 (by decide) 2 rfl rfl (by decide) rfl ?_
          refine tl_goto (pc := 63) (tgt := 13) C d_Sd_goOn_63 rfl ?_
          exact tl_sub [1, 2, 0] rfl (hX13 _ _ _ _ hw)
    exact hw _ (fun S A x2 x3 hb => key _ (fun _ _ _ _ h => h) S A x2 x3 hb)
  have B10 : ∀ (S : SS) (A : AA) (y0 : Int32), wX_Sd_goOn_10 post S A y0 → tl_At l (tl_R 2) 0 0 (tl_M 0 0 (tl_Qv D (wX q k) (tX k) post)) D (wX q k) 4 z 10 [(0, .ref (q 5))] [.int y0] (S, A) := by
    intro S A y0 hw
    refine tl_istore_n (pc := 10) (lv' := [(2, .int y0), (0, .ref (q 5))]) C d_Sd_goOn_10 rfl (by decide) rfl ?_
    refine tl_iconst (pc := 11) (v := 0) C d_Sd_goOn_11 (by decide) ?_
    refine tl_istore_n (pc := 12) (lv' := [(3, .int (0 : Int32)), (2, .int y0), (0, .ref (q 5))]) C d_Sd_goOn_12 rfl (by decide) rfl ?_
    exact tl_sub [2, 1, 0] rfl (B13 _ _ _ _ hw)
  refine tl_iload_n (pc := 0) C d_Sd_goOn_0 rfl 1 rfl ?_
  refine tl_if_ne (pc := 1) (tgt := 9) C d_Sd_goOn_1 rfl (fun hc => ?_) (fun hc => ?_)
  · have hw := hw.1 hc
    refine tl_iload_n (pc := 9) C d_Sd_goOn_9 rfl 1 rfl ?_
    exact tl_sub [0] rfl (B10 _ _ _ hw)
  · have hw := hw.2 hc
    refine tl_bipush (pc := 4) (v := 10) C d_Sd_goOn_4 (by decide) ?_
    refine tl_goto (pc := 6) (tgt := 10) C d_Sd_goOn_6 rfl ?_
    exact tl_sub [0] rfl (B10 _ _ _ hw)
theorem kX_Sd_goOn {l : Launch} {R : Room} {nc ns : Nat} {Q : tl_Z → State → Prop} {D : va_G} {q : Nat → Nat} {k : Nat → ClassId} {nL : Nat} {z : tl_Z} {cc : ByteArray} {ret : Option FieldType} {pc : Nat} {lv : List (Nat × Value)} {rest : List Value} {S : SS} {A : AA} {own : String} {idx : Nat} {x1 : Int32} {post : SS → AA → Prop} (C : tl_Cx cc nL own ret D (tX k) z) (hw : wX_Sd_goOn post S A x1) (hl : Cond.methodLink own idx y_Sd_goOn ∈ wsAll) (hdg : decode cc pc = .ok (.invokevirtual idx, 3)) (hf : tl_fit R (tl_R 2) nc ns 4 rest = true) (kk : ∀ (S1 : SS) (A1 : AA), post S1 A1 → tl_At l R nc ns Q D (wX q k) nL z (pc + 3) lv (rest) (S1, A1)) : tl_At l R nc ns Q D (wX q k) nL z pc lv (.int x1 :: .ref (q 5) :: rest) (S, A) :=
  tl_callVv (n := 1) (As := [.int x1]) (b := q 5) (q0 := 5) (ci := 5) C (fun sz => cX_Sd_goOn l D q k sz S A x1 hw) in_256 in_4 in_254 in_255 (by decide +kernel) rfl ⟨rfl, rfl⟩ rfl rfl hl hf hdg kk
set_option maxHeartbeats 4000000 in
set_option maxRecDepth 100000 in
theorem cX_Sd_waitAnew (l : Launch) (D : va_G) (q : Nat → Nat) (k : Nat → ClassId) (sz : Nat) (S : SS) (A : AA) {post : SS → AA → Prop} (hw : wX_Sd_waitAnew post S A) : tl_Met l y_Sd_waitAnew b_Sd_waitAnew 1 none (tl_R 0) D (wX q k) (tX k) sz [.ref (q 5)] (S, A) (tl_Qv D (wX q k) (tX k) post) := by
  refine tl_met (own := R_Sd) (lv := [(0, .ref (q 5))]) (by decide) rfl rfl (Nat.le_of_ble_eq_true rfl) (fun z C => ?_)
  refine tl_aload_n (pc := 0) C d_Sd_waitAnew_0 rfl 0 rfl ?_
  refine tl_iconst (pc := 1) (v := 0) C d_Sd_waitAnew_1 (by decide) ?_
  refine pX_Sd_46 (pc := 2) C d_Sd_waitAnew_2 ?_
  exact tl_vret (pc := 5) C d_Sd_waitAnew_5 hw
theorem kX_Sd_waitAnew {l : Launch} {R : Room} {nc ns : Nat} {Q : tl_Z → State → Prop} {D : va_G} {q : Nat → Nat} {k : Nat → ClassId} {nL : Nat} {z : tl_Z} {cc : ByteArray} {ret : Option FieldType} {pc : Nat} {lv : List (Nat × Value)} {rest : List Value} {S : SS} {A : AA} {own : String} {idx : Nat} {post : SS → AA → Prop} (C : tl_Cx cc nL own ret D (tX k) z) (hw : wX_Sd_waitAnew post S A) (hl : Cond.methodLink own idx y_Sd_waitAnew ∈ wsAll) (hdg : decode cc pc = .ok (.invokevirtual idx, 3)) (hf : tl_fit R (tl_R 0) nc ns 1 rest = true) (kk : ∀ (S1 : SS) (A1 : AA), post S1 A1 → tl_At l R nc ns Q D (wX q k) nL z (pc + 3) lv (rest) (S1, A1)) : tl_At l R nc ns Q D (wX q k) nL z pc lv (.ref (q 5) :: rest) (S, A) :=
  tl_callVv (n := 0) (As := []) (b := q 5) (q0 := 5) (ci := 5) C (fun sz => cX_Sd_waitAnew l D q k sz S A hw) in_268 in_4 in_266 in_267 (by decide +kernel) rfl ⟨rfl, rfl⟩ rfl rfl hl hf hdg kk
set_option maxHeartbeats 4000000 in
set_option maxRecDepth 100000 in
theorem cX_T_steerAnswer (l : Launch) (D : va_G) (q : Nat → Nat) (k : Nat → ClassId) (sz : Nat) (S : SS) (A : AA) (x1 x2 : Int32) {post : SS → AA → Prop} (hw : wX_T_steerAnswer post S A x1 x2) : tl_Met l y_T_steerAnswer b_T_steerAnswer 3 none (tl_R 3) D (wX q k) (tX k) sz [.ref (q 0), .int x1, .int x2] (S, A) (tl_Qv D (wX q k) (tX k) post) := by
  refine tl_met (own := R_T) (lv := [(0, .ref (q 0)), (1, .int x1), (2, .int x2)]) (by decide) rfl rfl (Nat.le_of_ble_eq_true rfl) (fun z C => ?_)
  refine tl_aload_n (pc := 0) C d_T_steerAnswer_0 rfl 0 rfl ?_
  refine gX_T_26 (pc := 1) C d_T_steerAnswer_1 ?_
  refine gX_T_64 (pc := 4) (v := (S 15)) C rfl d_T_steerAnswer_4 ?_
  refine tl_if_ne (pc := 7) (tgt := 11) C d_T_steerAnswer_7 rfl (fun hc => ?_) (fun hc => ?_)
  · have hw := hw.1 hc
    refine tl_iload_n (pc := 11) C d_T_steerAnswer_11 rfl 1 rfl ?_
    refine tl_bipush (pc := 12) (v := 48) C d_T_steerAnswer_12 (by decide) ?_
    refine tl_icmp_ne (pc := 14) (tgt := 28) C d_T_steerAnswer_14 rfl (fun hc => ?_) (fun hc => ?_)
    · have hw := hw.1 hc
      refine tl_iload_n (pc := 28) C d_T_steerAnswer_28 rfl 1 rfl ?_
      refine tl_bipush (pc := 29) (v := 49) C d_T_steerAnswer_29 (by decide) ?_
      refine tl_icmp_ne (pc := 31) (tgt := 44) C d_T_steerAnswer_31 rfl (fun hc => ?_) (fun hc => ?_)
      · have hw := hw.1 hc
        refine tl_aload_n (pc := 44) C d_T_steerAnswer_44 rfl 0 rfl ?_
        refine gX_T_26 (pc := 45) C d_T_steerAnswer_45 ?_
        refine kX_Sd_drop (pc := 48) C hw ml_T_161 d_T_steerAnswer_48 rfl (fun S48 A48 hw => ?_)
        exact tl_vret (pc := 51) C d_T_steerAnswer_51 hw
      · have hw := hw.2 hc
        refine tl_aload_n (pc := 34) C d_T_steerAnswer_34 rfl 0 rfl ?_
        refine gX_T_26 (pc := 35) C d_T_steerAnswer_35 ?_
        refine kX_Sd_waitAnew (pc := 38) C hw ml_T_171 d_T_steerAnswer_38 rfl (fun S38 A38 hw => ?_)
        refine tl_goto (pc := 41) (tgt := 51) C d_T_steerAnswer_41 rfl ?_
        exact tl_vret (pc := 51) C d_T_steerAnswer_51 hw
    · have hw := hw.2 hc
      refine tl_aload_n (pc := 17) C d_T_steerAnswer_17 rfl 0 rfl ?_
      refine gX_T_26 (pc := 18) C d_T_steerAnswer_18 ?_
      refine tl_iload_n (pc := 21) C d_T_steerAnswer_21 rfl 2 rfl ?_
      refine kX_Sd_goOn (pc := 22) C hw ml_T_168 d_T_steerAnswer_22 rfl (fun S22 A22 hw => ?_)
      refine tl_goto (pc := 25) (tgt := 51) C d_T_steerAnswer_25 rfl ?_
      exact tl_vret (pc := 51) C d_T_steerAnswer_51 hw
  · have hw := hw.2 hc
    exact tl_vret (pc := 10) C d_T_steerAnswer_10 hw
theorem kX_T_steerAnswer {l : Launch} {R : Room} {nc ns : Nat} {Q : tl_Z → State → Prop} {D : va_G} {q : Nat → Nat} {k : Nat → ClassId} {nL : Nat} {z : tl_Z} {cc : ByteArray} {ret : Option FieldType} {pc : Nat} {lv : List (Nat × Value)} {rest : List Value} {S : SS} {A : AA} {own : String} {idx : Nat} {x1 x2 : Int32} {post : SS → AA → Prop} (C : tl_Cx cc nL own ret D (tX k) z) (hw : wX_T_steerAnswer post S A x1 x2) (hl : Cond.methodLink own idx y_T_steerAnswer ∈ wsAll) (hdg : decode cc pc = .ok (.invokevirtual idx, 3)) (hf : tl_fit R (tl_R 3) nc ns 3 rest = true) (kk : ∀ (S1 : SS) (A1 : AA), post S1 A1 → tl_At l R nc ns Q D (wX q k) nL z (pc + 3) lv (rest) (S1, A1)) : tl_At l R nc ns Q D (wX q k) nL z pc lv (.int x2 :: .int x1 :: .ref (q 0) :: rest) (S, A) :=
  tl_callVv (n := 2) (As := [.int x1, .int x2]) (b := q 0) (q0 := 0) (ci := 6) C (fun sz => cX_T_steerAnswer l D q k sz S A x1 x2 hw) in_252 in_1 in_251 ip_1 (by decide +kernel) rfl ⟨rfl, rfl⟩ rfl rfl hl hf hdg kk
set_option maxHeartbeats 4000000 in
set_option maxRecDepth 100000 in
theorem cX_Rc_at (l : Launch) (D : va_G) (q : Nat → Nat) (k : Nat → ClassId) (sz : Nat) (S : SS) (A : AA) (x1 : Int32) {post : Int32 → SS → AA → Prop} (hw : wX_Rc_at post S A x1) : tl_Met l y_Rc_at b_Rc_at 2 (some .int) (tl_R 0) D (wX q k) (tX k) sz [.ref (q 3), .int x1] (S, A) (tl_Qi D (wX q k) (tX k) post) := by
  refine tl_met (own := R_Rc) (lv := [(0, .ref (q 3)), (1, .int x1)]) (by decide) rfl rfl (Nat.le_of_ble_eq_true rfl) (fun z C => ?_)
  refine tl_iload_n (pc := 0) C d_Rc_at_0 rfl 1 rfl ?_
  refine tl_if_lt (pc := 1) (tgt := 27) C d_Rc_at_1 rfl (fun hc => ?_) (fun hc => ?_)
  · have hw := hw.1 hc
    refine tl_iconst (pc := 27) (v := 0) C d_Rc_at_27 (by decide) ?_
    exact tl_iret (pc := 28) C d_Rc_at_28 hw
  · have hw := hw.2 hc
    refine tl_iload_n (pc := 4) C d_Rc_at_4 rfl 1 rfl ?_
    refine tl_aload_n (pc := 5) C d_Rc_at_5 rfl 0 rfl ?_
    refine gX_Rc_15 (pc := 6) (v := (S 7)) C rfl d_Rc_at_6 ?_
    refine tl_icmp_ge (pc := 9) (tgt := 27) C d_Rc_at_9 rfl (fun hc => ?_) (fun hc => ?_)
    · have hw := hw.1 hc
      refine tl_iconst (pc := 27) (v := 0) C d_Rc_at_27 (by decide) ?_
      exact tl_iret (pc := 28) C d_Rc_at_28 hw
    · have hw := hw.2 hc
      refine tl_iload_n (pc := 12) C d_Rc_at_12 rfl 1 rfl ?_
      refine tl_bipush (pc := 13) (v := 34) C d_Rc_at_13 (by decide) ?_
      refine tl_icmp_ge (pc := 15) (tgt := 27) C d_Rc_at_15 rfl (fun hc => ?_) (fun hc => ?_)
      · have hw := hw.1 hc
        refine tl_iconst (pc := 27) (v := 0) C d_Rc_at_27 (by decide) ?_
        exact tl_iret (pc := 28) C d_Rc_at_28 hw
      · have hw := hw.2 hc
        refine tl_aload_n (pc := 18) C d_Rc_at_18 rfl 0 rfl ?_
        refine gX_Rc_11 (pc := 19) C d_Rc_at_19 ?_
        refine tl_iload_n (pc := 22) C d_Rc_at_22 rfl 1 rfl ?_
        obtain ⟨hi, hw⟩ := hw
        refine rX_ald1 (pc := 23) (f := (A 1)) C rfl hi d_Rc_at_23 ?_
        refine tl_goto (pc := 24) (tgt := 28) C d_Rc_at_24 rfl ?_
        exact tl_iret (pc := 28) C d_Rc_at_28 hw
theorem kX_Rc_at {l : Launch} {R : Room} {nc ns : Nat} {Q : tl_Z → State → Prop} {D : va_G} {q : Nat → Nat} {k : Nat → ClassId} {nL : Nat} {z : tl_Z} {cc : ByteArray} {ret : Option FieldType} {pc : Nat} {lv : List (Nat × Value)} {rest : List Value} {S : SS} {A : AA} {own : String} {idx : Nat} {x1 : Int32} {post : Int32 → SS → AA → Prop} (C : tl_Cx cc nL own ret D (tX k) z) (hw : wX_Rc_at post S A x1) (hl : Cond.methodLink own idx y_Rc_at ∈ wsAll) (hdg : decode cc pc = .ok (.invokevirtual idx, 3)) (hf : tl_fit R (tl_R 0) nc ns 2 rest = true) (kk : ∀ (r : Int32) (S1 : SS) (A1 : AA), post r S1 A1 → tl_At l R nc ns Q D (wX q k) nL z (pc + 3) lv (.int r :: rest) (S1, A1)) : tl_At l R nc ns Q D (wX q k) nL z pc lv (.int x1 :: .ref (q 3) :: rest) (S, A) :=
  tl_callVi (n := 1) (As := [.int x1]) (b := q 3) (q0 := 3) (ci := 3) C (fun sz => cX_Rc_at l D q k sz S A x1 hw) in_298 in_3 in_296 in_297 (by decide +kernel) rfl ⟨rfl, rfl⟩ rfl rfl hl hf hdg kk
set_option maxHeartbeats 4000000 in
set_option maxRecDepth 100000 in
theorem cX_Sd_add (l : Launch) (D : va_G) (q : Nat → Nat) (k : Nat → ClassId) (sz : Nat) (S : SS) (A : AA) (x1 : Int32) {post : SS → AA → Prop} (hw : wX_Sd_add post S A x1) : tl_Met l y_Sd_add b_Sd_add 2 none (tl_R 0) D (wX q k) (tX k) sz [.ref (q 5), .int x1] (S, A) (tl_Qv D (wX q k) (tX k) post) := by
  refine tl_met (own := R_Sd) (lv := [(0, .ref (q 5)), (1, .int x1)]) (by decide) rfl rfl (Nat.le_of_ble_eq_true rfl) (fun z C => ?_)
  refine tl_aload_n (pc := 0) C d_Sd_add_0 rfl 0 rfl ?_
  refine gX_Sd_25 (pc := 1) (v := (S 11)) C rfl d_Sd_add_1 ?_
  refine tl_bipush (pc := 4) (v := 10) C d_Sd_add_4 (by decide) ?_
  refine tl_icmp_ge (pc := 6) (tgt := 29) C d_Sd_add_6 rfl (fun hc => ?_) (fun hc => ?_)
  · have hw := hw.1 hc
    exact tl_vret (pc := 29) C d_Sd_add_29 hw
  · have hw := hw.2 hc
    refine tl_aload_n (pc := 9) C d_Sd_add_9 rfl 0 rfl ?_
    refine gX_Sd_18 (pc := 10) C d_Sd_add_10 ?_
    refine tl_aload_n (pc := 13) C d_Sd_add_13 rfl 0 rfl ?_
    refine gX_Sd_25 (pc := 14) (v := (S 11)) C rfl d_Sd_add_14 ?_
    refine tl_iload_n (pc := 17) C d_Sd_add_17 rfl 1 rfl ?_
    obtain ⟨hi, hw⟩ := hw
    refine rX_ast3 (pc := 18) (f := (A 3)) C rfl hi d_Sd_add_18 ?_
    refine tl_aload_n (pc := 19) C d_Sd_add_19 rfl 0 rfl ?_
    refine tl_dup (pc := 20) C d_Sd_add_20 rfl ?_
    refine gX_Sd_25 (pc := 21) (v := (S 11)) C rfl d_Sd_add_21 ?_
    refine tl_iconst (pc := 24) (v := 1) C d_Sd_add_24 (by decide) ?_
    refine tl_iadd (pc := 25) C d_Sd_add_25 ?_
    refine pX_Sd_25 (pc := 26) C d_Sd_add_26 ?_
    exact tl_vret (pc := 29) C d_Sd_add_29 hw
theorem kX_Sd_add {l : Launch} {R : Room} {nc ns : Nat} {Q : tl_Z → State → Prop} {D : va_G} {q : Nat → Nat} {k : Nat → ClassId} {nL : Nat} {z : tl_Z} {cc : ByteArray} {ret : Option FieldType} {pc : Nat} {lv : List (Nat × Value)} {rest : List Value} {S : SS} {A : AA} {own : String} {idx : Nat} {x1 : Int32} {post : SS → AA → Prop} (C : tl_Cx cc nL own ret D (tX k) z) (hw : wX_Sd_add post S A x1) (hl : Cond.methodLink own idx y_Sd_add ∈ wsAll) (hdg : decode cc pc = .ok (.invokevirtual idx, 3)) (hf : tl_fit R (tl_R 0) nc ns 2 rest = true) (kk : ∀ (S1 : SS) (A1 : AA), post S1 A1 → tl_At l R nc ns Q D (wX q k) nL z (pc + 3) lv (rest) (S1, A1)) : tl_At l R nc ns Q D (wX q k) nL z pc lv (.int x1 :: .ref (q 5) :: rest) (S, A) :=
  tl_callVv (n := 1) (As := [.int x1]) (b := q 5) (q0 := 5) (ci := 5) C (fun sz => cX_Sd_add l D q k sz S A x1 hw) in_306 in_4 in_304 in_305 (by decide +kernel) rfl ⟨rfl, rfl⟩ rfl rfl hl hf hdg kk
set_option maxHeartbeats 4000000 in
set_option maxRecDepth 100000 in
theorem cX_Sd_begin (l : Launch) (D : va_G) (q : Nat → Nat) (k : Nat → ClassId) (sz : Nat) (S : SS) (A : AA) (x1 : Int32) {post : SS → AA → Prop} (hw : wX_Sd_begin post S A x1) : tl_Met l y_Sd_begin b_Sd_begin 2 none (tl_R 1) D (wX q k) (tX k) sz [.ref (q 5), .int x1] (S, A) (tl_Qv D (wX q k) (tX k) post) := by
  refine tl_met (own := R_Sd) (lv := [(0, .ref (q 5)), (1, .int x1)]) (by decide) rfl rfl (Nat.le_of_ble_eq_true rfl) (fun z C => ?_)
  refine tl_aload_n (pc := 0) C d_Sd_begin_0 rfl 0 rfl ?_
  refine tl_iconst (pc := 1) (v := 0) C d_Sd_begin_1 (by decide) ?_
  refine pX_Sd_25 (pc := 2) C d_Sd_begin_2 ?_
  refine tl_aload_n (pc := 5) C d_Sd_begin_5 rfl 0 rfl ?_
  refine tl_iload_n (pc := 6) C d_Sd_begin_6 rfl 1 rfl ?_
  refine kX_Sd_add (pc := 7) C hw ml_Sd_29 d_Sd_begin_7 rfl (fun S7 A7 hw => ?_)
  exact tl_vret (pc := 10) C d_Sd_begin_10 hw
theorem kX_Sd_begin {l : Launch} {R : Room} {nc ns : Nat} {Q : tl_Z → State → Prop} {D : va_G} {q : Nat → Nat} {k : Nat → ClassId} {nL : Nat} {z : tl_Z} {cc : ByteArray} {ret : Option FieldType} {pc : Nat} {lv : List (Nat × Value)} {rest : List Value} {S : SS} {A : AA} {own : String} {idx : Nat} {x1 : Int32} {post : SS → AA → Prop} (C : tl_Cx cc nL own ret D (tX k) z) (hw : wX_Sd_begin post S A x1) (hl : Cond.methodLink own idx y_Sd_begin ∈ wsAll) (hdg : decode cc pc = .ok (.invokevirtual idx, 3)) (hf : tl_fit R (tl_R 1) nc ns 2 rest = true) (kk : ∀ (S1 : SS) (A1 : AA), post S1 A1 → tl_At l R nc ns Q D (wX q k) nL z (pc + 3) lv (rest) (S1, A1)) : tl_At l R nc ns Q D (wX q k) nL z pc lv (.int x1 :: .ref (q 5) :: rest) (S, A) :=
  tl_callVv (n := 1) (As := [.int x1]) (b := q 5) (q0 := 5) (ci := 5) C (fun sz => cX_Sd_begin l D q k sz S A x1 hw) in_302 in_4 in_300 in_301 (by decide +kernel) rfl ⟨rfl, rfl⟩ rfl rfl hl hf hdg kk
set_option maxHeartbeats 4000000 in
set_option maxRecDepth 100000 in
theorem cX_Sd_send (l : Launch) (D : va_G) (q : Nat → Nat) (k : Nat → ClassId) (sz : Nat) (S : SS) (A : AA) {post : SS → AA → Prop} (hw : wX_Sd_send post S A) : tl_Met l y_Sd_send b_Sd_send 1 none (tl_R 2) D (wX q k) (tX k) sz [.ref (q 5)] (S, A) (tl_Qv D (wX q k) (tX k) post) := by
  refine tl_met (own := R_Sd) (lv := [(0, .ref (q 5))]) (by decide) rfl rfl (Nat.le_of_ble_eq_true rfl) (fun z C => ?_)
  refine tl_aload_n (pc := 0) C d_Sd_send_0 rfl 0 rfl ?_
  refine tl_iconst (pc := 1) (v := 0) C d_Sd_send_1 (by decide) ?_
  refine pX_Sd_33 (pc := 2) C d_Sd_send_2 ?_
  refine tl_aload_n (pc := 5) C d_Sd_send_5 rfl 0 rfl ?_
  refine gX_Sd_25 (pc := 6) (v := (S 11)) C rfl d_Sd_send_6 ?_
  refine tl_bipush (pc := 9) (v := 7) C d_Sd_send_9 (by decide) ?_
  refine tl_icmp_gt (pc := 11) (tgt := 30) C d_Sd_send_11 rfl (fun hc => ?_) (fun hc => ?_)
  · have hw := hw.1 hc
    refine tl_aload_n (pc := 30) C d_Sd_send_30 rfl 0 rfl ?_
    refine gX_Sd_22 (pc := 31) C d_Sd_send_31 ?_
    refine tl_iconst (pc := 34) (v := 0) C d_Sd_send_34 (by decide) ?_
    refine tl_bipush (pc := 35) (v := 16) C d_Sd_send_35 (by decide) ?_
    obtain ⟨hi, hw⟩ := hw
    refine rX_ast4 (pc := 37) (f := (A 4)) C rfl hi d_Sd_send_37 ?_
    refine tl_aload_n (pc := 38) C d_Sd_send_38 rfl 0 rfl ?_
    refine gX_Sd_22 (pc := 39) C d_Sd_send_39 ?_
    refine tl_iconst (pc := 42) (v := 1) C d_Sd_send_42 (by decide) ?_
    refine tl_aload_n (pc := 43) C d_Sd_send_43 rfl 0 rfl ?_
    refine gX_Sd_25 (pc := 44) (v := (S 11)) C rfl d_Sd_send_44 ?_
    obtain ⟨hi, hw⟩ := hw
    refine rX_ast4 (pc := 47) (f := (upd (A 4) (0 : Int32).toNatClampNeg (16 : Int32))) C rfl hi d_Sd_send_47 ?_
    refine tl_aload_n (pc := 48) C d_Sd_send_48 rfl 0 rfl ?_
    refine tl_iconst (pc := 49) (v := 2) C d_Sd_send_49 (by decide) ?_
    refine kX_Sd_putFrom (pc := 50) C hw ml_Sd_36 d_Sd_send_50 rfl (fun S50 A50 hw => ?_)
    refine tl_aload_n (pc := 53) C d_Sd_send_53 rfl 0 rfl ?_
    refine tl_iconst (pc := 54) (v := 1) C d_Sd_send_54 (by decide) ?_
    refine pX_Sd_39 (pc := 55) C d_Sd_send_55 ?_
    refine tl_aload_n (pc := 58) C d_Sd_send_58 rfl 0 rfl ?_
    refine tl_iconst (pc := 59) (v := 1) C d_Sd_send_59 (by decide) ?_
    refine pX_Sd_42 (pc := 60) C (by decide) d_Sd_send_60 ?_
    refine tl_aload_n (pc := 63) C d_Sd_send_63 rfl 0 rfl ?_
    refine tl_iconst (pc := 64) (v := 0) C d_Sd_send_64 (by decide) ?_
    refine pX_Sd_46 (pc := 65) C d_Sd_send_65 ?_
    exact tl_vret (pc := 68) C d_Sd_send_68 hw
  · have hw := hw.2 hc
    refine tl_aload_n (pc := 14) C d_Sd_send_14 rfl 0 rfl ?_
    refine gX_Sd_22 (pc := 15) C d_Sd_send_15 ?_
    refine tl_iconst (pc := 18) (v := 0) C d_Sd_send_18 (by decide) ?_
    refine tl_aload_n (pc := 19) C d_Sd_send_19 rfl 0 rfl ?_
    refine gX_Sd_25 (pc := 20) (v := (S 11)) C rfl d_Sd_send_20 ?_
    obtain ⟨hi, hw⟩ := hw
    refine rX_ast4 (pc := 23) (f := (A 4)) C rfl hi d_Sd_send_23 ?_
    refine tl_aload_n (pc := 24) C d_Sd_send_24 rfl 0 rfl ?_
    refine tl_iconst (pc := 25) (v := 1) C d_Sd_send_25 (by decide) ?_
    refine kX_Sd_putFrom (pc := 26) C hw ml_Sd_36 d_Sd_send_26 rfl (fun S26 A26 hw => ?_)
    exact tl_vret (pc := 29) C d_Sd_send_29 hw
theorem kX_Sd_send {l : Launch} {R : Room} {nc ns : Nat} {Q : tl_Z → State → Prop} {D : va_G} {q : Nat → Nat} {k : Nat → ClassId} {nL : Nat} {z : tl_Z} {cc : ByteArray} {ret : Option FieldType} {pc : Nat} {lv : List (Nat × Value)} {rest : List Value} {S : SS} {A : AA} {own : String} {idx : Nat} {post : SS → AA → Prop} (C : tl_Cx cc nL own ret D (tX k) z) (hw : wX_Sd_send post S A) (hl : Cond.methodLink own idx y_Sd_send ∈ wsAll) (hdg : decode cc pc = .ok (.invokevirtual idx, 3)) (hf : tl_fit R (tl_R 2) nc ns 1 rest = true) (kk : ∀ (S1 : SS) (A1 : AA), post S1 A1 → tl_At l R nc ns Q D (wX q k) nL z (pc + 3) lv (rest) (S1, A1)) : tl_At l R nc ns Q D (wX q k) nL z pc lv (.ref (q 5) :: rest) (S, A) :=
  tl_callVv (n := 0) (As := []) (b := q 5) (q0 := 5) (ci := 5) C (fun sz => cX_Sd_send l D q k sz S A hw) in_464 in_4 in_462 in_463 (by decide +kernel) rfl ⟨rfl, rfl⟩ rfl rfl hl hf hdg kk
set_option maxHeartbeats 4000000 in
set_option maxRecDepth 100000 in
theorem cX_Dl_end (l : Launch) (D : va_G) (q : Nat → Nat) (k : Nat → ClassId) (sz : Nat) (S : SS) (A : AA) {post : SS → AA → Prop} (hw : wX_Dl_end post S A) : tl_Met l y_Dl_end b_Dl_end 1 none (tl_R 0) D (wX q k) (tX k) sz [.ref (q 11)] (S, A) (tl_Qv D (wX q k) (tX k) post) := by
  refine tl_met (own := R_Dl) (lv := [(0, .ref (q 11))]) (by decide) rfl rfl (Nat.le_of_ble_eq_true rfl) (fun z C => ?_)
  refine tl_aload_n (pc := 0) C d_Dl_end_0 rfl 0 rfl ?_
  refine tl_iconst (pc := 1) (v := 0) C d_Dl_end_1 (by decide) ?_
  refine pX_Dl_9 (pc := 2) C (by decide) d_Dl_end_2 ?_
  exact tl_vret (pc := 5) C d_Dl_end_5 hw
theorem kX_Dl_end {l : Launch} {R : Room} {nc ns : Nat} {Q : tl_Z → State → Prop} {D : va_G} {q : Nat → Nat} {k : Nat → ClassId} {nL : Nat} {z : tl_Z} {cc : ByteArray} {ret : Option FieldType} {pc : Nat} {lv : List (Nat × Value)} {rest : List Value} {S : SS} {A : AA} {own : String} {idx : Nat} {post : SS → AA → Prop} (C : tl_Cx cc nL own ret D (tX k) z) (hw : wX_Dl_end post S A) (hl : Cond.methodLink own idx y_Dl_end ∈ wsAll) (hdg : decode cc pc = .ok (.invokevirtual idx, 3)) (hf : tl_fit R (tl_R 0) nc ns 1 rest = true) (kk : ∀ (S1 : SS) (A1 : AA), post S1 A1 → tl_At l R nc ns Q D (wX q k) nL z (pc + 3) lv (rest) (S1, A1)) : tl_At l R nc ns Q D (wX q k) nL z pc lv (.ref (q 11) :: rest) (S, A) :=
  tl_callVv (n := 0) (As := []) (b := q 11) (q0 := 11) (ci := 0) C (fun sz => cX_Dl_end l D q k sz S A hw) in_196 in_7 in_194 in_195 (by decide +kernel) rfl ⟨rfl, rfl⟩ rfl rfl hl hf hdg kk
set_option maxHeartbeats 4000000 in
set_option maxRecDepth 100000 in
theorem cX_Lk_close (l : Launch) (D : va_G) (q : Nat → Nat) (k : Nat → ClassId) (sz : Nat) (S : SS) (A : AA) {post : SS → AA → Prop} (hw : wX_Lk_close post S A) : tl_Met l y_Lk_close b_Lk_close 1 none (tl_R 0) D (wX q k) (tX k) sz [.ref (q 10)] (S, A) (tl_Qv D (wX q k) (tX k) post) := by
  refine tl_met (own := R_Lk) (lv := [(0, .ref (q 10))]) (by decide) rfl rfl (Nat.le_of_ble_eq_true rfl) (fun z C => ?_)
  refine tl_aload_n (pc := 0) C d_Lk_close_0 rfl 0 rfl ?_
  refine tl_iconst (pc := 1) (v := 0) C d_Lk_close_1 (by decide) ?_
  refine pX_Lk_19 (pc := 2) C (by decide) d_Lk_close_2 ?_
  refine tl_aload_n (pc := 5) C d_Lk_close_5 rfl 0 rfl ?_
  refine tl_iconst (pc := 6) (v := 0) C d_Lk_close_6 (by decide) ?_
  refine pX_Lk_23 (pc := 7) C d_Lk_close_7 ?_
  exact tl_vret (pc := 10) C d_Lk_close_10 hw
theorem kX_Lk_close {l : Launch} {R : Room} {nc ns : Nat} {Q : tl_Z → State → Prop} {D : va_G} {q : Nat → Nat} {k : Nat → ClassId} {nL : Nat} {z : tl_Z} {cc : ByteArray} {ret : Option FieldType} {pc : Nat} {lv : List (Nat × Value)} {rest : List Value} {S : SS} {A : AA} {own : String} {idx : Nat} {post : SS → AA → Prop} (C : tl_Cx cc nL own ret D (tX k) z) (hw : wX_Lk_close post S A) (hl : Cond.methodLink own idx y_Lk_close ∈ wsAll) (hdg : decode cc pc = .ok (.invokevirtual idx, 3)) (hf : tl_fit R (tl_R 0) nc ns 1 rest = true) (kk : ∀ (S1 : SS) (A1 : AA), post S1 A1 → tl_At l R nc ns Q D (wX q k) nL z (pc + 3) lv (rest) (S1, A1)) : tl_At l R nc ns Q D (wX q k) nL z pc lv (.ref (q 10) :: rest) (S, A) :=
  tl_callVv (n := 0) (As := []) (b := q 10) (q0 := 10) (ci := 1) C (fun sz => cX_Lk_close l D q k sz S A hw) in_192 in_6 in_190 in_191 (by decide +kernel) rfl ⟨rfl, rfl⟩ rfl rfl hl hf hdg kk
set_option maxHeartbeats 4000000 in
set_option maxRecDepth 100000 in
theorem cX_Lk_reset (l : Launch) (D : va_G) (q : Nat → Nat) (k : Nat → ClassId) (sz : Nat) (S : SS) (A : AA) {post : SS → AA → Prop} (hw : wX_Lk_reset post S A) : tl_Met l y_Lk_reset b_Lk_reset 1 none (tl_R 1) D (wX q k) (tX k) sz [.ref (q 10)] (S, A) (tl_Qv D (wX q k) (tX k) post) := by
  refine tl_met (own := R_Lk) (lv := [(0, .ref (q 10))]) (by decide) rfl rfl (Nat.le_of_ble_eq_true rfl) (fun z C => ?_)
  refine tl_aload_n (pc := 0) C d_Lk_reset_0 rfl 0 rfl ?_
  refine kX_Lk_close (pc := 1) C hw ml_Lk_7 d_Lk_reset_1 rfl (fun S1 A1 hw => ?_)
  refine tl_aload_n (pc := 4) C d_Lk_reset_4 rfl 0 rfl ?_
  refine tl_iconst (pc := 5) (v := 0) C d_Lk_reset_5 (by decide) ?_
  refine pX_Lk_12 (pc := 6) C d_Lk_reset_6 ?_
  refine tl_aload_n (pc := 9) C d_Lk_reset_9 rfl 0 rfl ?_
  refine tl_iconst (pc := 10) (v := 0) C d_Lk_reset_10 (by decide) ?_
  refine pX_Lk_16 (pc := 11) C d_Lk_reset_11 ?_
  exact tl_vret (pc := 14) C d_Lk_reset_14 hw
theorem kX_Lk_reset {l : Launch} {R : Room} {nc ns : Nat} {Q : tl_Z → State → Prop} {D : va_G} {q : Nat → Nat} {k : Nat → ClassId} {nL : Nat} {z : tl_Z} {cc : ByteArray} {ret : Option FieldType} {pc : Nat} {lv : List (Nat × Value)} {rest : List Value} {S : SS} {A : AA} {own : String} {idx : Nat} {post : SS → AA → Prop} (C : tl_Cx cc nL own ret D (tX k) z) (hw : wX_Lk_reset post S A) (hl : Cond.methodLink own idx y_Lk_reset ∈ wsAll) (hdg : decode cc pc = .ok (.invokevirtual idx, 3)) (hf : tl_fit R (tl_R 1) nc ns 1 rest = true) (kk : ∀ (S1 : SS) (A1 : AA), post S1 A1 → tl_At l R nc ns Q D (wX q k) nL z (pc + 3) lv (rest) (S1, A1)) : tl_At l R nc ns Q D (wX q k) nL z pc lv (.ref (q 10) :: rest) (S, A) :=
  tl_callVv (n := 0) (As := []) (b := q 10) (q0 := 10) (ci := 1) C (fun sz => cX_Lk_reset l D q k sz S A hw) in_188 in_6 in_186 in_187 (by decide +kernel) rfl ⟨rfl, rfl⟩ rfl rfl hl hf hdg kk
set_option maxHeartbeats 4000000 in
set_option maxRecDepth 100000 in
theorem cX_Mm_byteAt (l : Launch) (D : va_G) (q : Nat → Nat) (k : Nat → ClassId) (sz : Nat) (S : SS) (A : AA) (x1 : Int32) {post : Int32 → SS → AA → Prop} (hw : wX_Mm_byteAt post S A x1) : tl_Met l y_Mm_byteAt b_Mm_byteAt 2 (some .int) (tl_R 0) D (wX q k) (tX k) sz [.ref (q 1), .int x1] (S, A) (tl_Qi D (wX q k) (tX k) post) := by
  refine tl_met (own := R_Mm) (lv := [(0, .ref (q 1)), (1, .int x1)]) (by decide) rfl rfl (Nat.le_of_ble_eq_true rfl) (fun z C => ?_)
  refine tl_iload_n (pc := 0) C d_Mm_byteAt_0 rfl 1 rfl ?_
  refine tl_if_lt (pc := 1) (tgt := 19) C d_Mm_byteAt_1 rfl (fun hc => ?_) (fun hc => ?_)
  · have hw := hw.1 hc
    refine tl_iconst (pc := 19) (v := 0) C d_Mm_byteAt_19 (by decide) ?_
    exact tl_iret (pc := 20) C d_Mm_byteAt_20 hw
  · have hw := hw.2 hc
    refine tl_iload_n (pc := 4) C d_Mm_byteAt_4 rfl 1 rfl ?_
    refine tl_bipush (pc := 5) (v := 96) C d_Mm_byteAt_5 (by decide) ?_
    refine tl_icmp_ge (pc := 7) (tgt := 19) C d_Mm_byteAt_7 rfl (fun hc => ?_) (fun hc => ?_)
    · have hw := hw.1 hc
      refine tl_iconst (pc := 19) (v := 0) C d_Mm_byteAt_19 (by decide) ?_
      exact tl_iret (pc := 20) C d_Mm_byteAt_20 hw
    · have hw := hw.2 hc
      refine tl_aload_n (pc := 10) C d_Mm_byteAt_10 rfl 0 rfl ?_
      refine gX_Mm_11 (pc := 11) C d_Mm_byteAt_11 ?_
      refine tl_iload_n (pc := 14) C d_Mm_byteAt_14 rfl 1 rfl ?_
      obtain ⟨hi, hw⟩ := hw
      refine rX_ald0 (pc := 15) (f := (A 0)) C rfl hi d_Mm_byteAt_15 ?_
      refine tl_goto (pc := 16) (tgt := 20) C d_Mm_byteAt_16 rfl ?_
      exact tl_iret (pc := 20) C d_Mm_byteAt_20 hw
theorem kX_Mm_byteAt {l : Launch} {R : Room} {nc ns : Nat} {Q : tl_Z → State → Prop} {D : va_G} {q : Nat → Nat} {k : Nat → ClassId} {nL : Nat} {z : tl_Z} {cc : ByteArray} {ret : Option FieldType} {pc : Nat} {lv : List (Nat × Value)} {rest : List Value} {S : SS} {A : AA} {own : String} {idx : Nat} {x1 : Int32} {post : Int32 → SS → AA → Prop} (C : tl_Cx cc nL own ret D (tX k) z) (hw : wX_Mm_byteAt post S A x1) (hl : Cond.methodLink own idx y_Mm_byteAt ∈ wsAll) (hdg : decode cc pc = .ok (.invokevirtual idx, 3)) (hf : tl_fit R (tl_R 0) nc ns 2 rest = true) (kk : ∀ (r : Int32) (S1 : SS) (A1 : AA), post r S1 A1 → tl_At l R nc ns Q D (wX q k) nL z (pc + 3) lv (.int r :: rest) (S1, A1)) : tl_At l R nc ns Q D (wX q k) nL z pc lv (.int x1 :: .ref (q 1) :: rest) (S, A) :=
  tl_callVi (n := 1) (As := [.int x1]) (b := q 1) (q0 := 1) (ci := 2) C (fun sz => cX_Mm_byteAt l D q k sz S A x1 hw) in_184 in_2 in_182 in_183 (by decide +kernel) rfl ⟨rfl, rfl⟩ rfl rfl hl hf hdg kk
set_option maxHeartbeats 4000000 in
set_option maxRecDepth 100000 in
theorem cX_Mm_headerOf (l : Launch) (D : va_G) (q : Nat → Nat) (k : Nat → ClassId) (sz : Nat) (S : SS) (A : AA) (x0 : Int32) {post : Int32 → SS → AA → Prop} (hw : wX_Mm_headerOf post S A x0) : tl_Met l y_Mm_headerOf b_Mm_headerOf 1 (some .int) (tl_R 0) D (wX q k) (tX k) sz [.int x0] (S, A) (tl_Qi D (wX q k) (tX k) post) := by
  refine tl_met (own := R_Mm) (lv := [(0, .int x0)]) (by decide) rfl rfl (Nat.le_of_ble_eq_true rfl) (fun z C => ?_)
  refine tl_iload_n (pc := 0) C d_Mm_headerOf_0 rfl 0 rfl ?_
  refine tl_bipush (pc := 1) (v := 48) C d_Mm_headerOf_1 (by decide) ?_
  refine tl_imul (pc := 3) C d_Mm_headerOf_3 ?_
  refine tl_bipush (pc := 4) (v := 32) C d_Mm_headerOf_4 (by decide) ?_
  refine tl_iadd (pc := 6) C d_Mm_headerOf_6 ?_
  exact tl_iret (pc := 7) C d_Mm_headerOf_7 hw
theorem kX_Mm_headerOf {l : Launch} {R : Room} {nc ns : Nat} {Q : tl_Z → State → Prop} {D : va_G} {q : Nat → Nat} {k : Nat → ClassId} {nL : Nat} {z : tl_Z} {cc : ByteArray} {ret : Option FieldType} {pc : Nat} {lv : List (Nat × Value)} {rest : List Value} {S : SS} {A : AA} {own : String} {idx : Nat} {x0 : Int32} {post : Int32 → SS → AA → Prop} (C : tl_Cx cc nL own ret D (tX k) z) (hw : wX_Mm_headerOf post S A x0) (hl : Cond.methodLink own idx y_Mm_headerOf ∈ wsAll) (hdg : decode cc pc = .ok (.invokestatic idx, 3)) (hf : tl_fit R (tl_R 0) nc ns 1 rest = true) (kk : ∀ (r : Int32) (S1 : SS) (A1 : AA), post r S1 A1 → tl_At l R nc ns Q D (wX q k) nL z (pc + 3) lv (.int r :: rest) (S1, A1)) : tl_At l R nc ns Q D (wX q k) nL z pc lv (.int x0 :: rest) (S, A) :=
  tl_callSi (n := 1) (As := [.int x0]) C (fun sz => cX_Mm_headerOf l D q k sz S A x0 hw) in_32 in_2 in_31 (by decide +kernel) rfl ⟨rfl, rfl⟩ hl hf hdg kk
set_option maxHeartbeats 4000000 in
set_option maxRecDepth 100000 in
theorem cX_Mm_sumOf (l : Launch) (D : va_G) (q : Nat → Nat) (k : Nat → ClassId) (sz : Nat) (S : SS) (A : AA) (x1 : Int32) {post : Int32 → SS → AA → Prop} (hw : wX_Mm_sumOf post S A x1) : tl_Met l y_Mm_sumOf b_Mm_sumOf 7 (some .int) (tl_R 0) D (wX q k) (tX k) sz [.ref (q 1), .int x1] (S, A) (tl_Qi D (wX q k) (tX k) post) := by
  refine tl_met (own := R_Mm) (lv := [(0, .ref (q 1)), (1, .int x1)]) (by decide) rfl rfl (Nat.le_of_ble_eq_true rfl) (fun z C => ?_)
  have B18 : ∀ (S : SS) (A : AA) (x2 x3 x4 : Int32), wX_Mm_sumOf_18 post S A x2 x3 x4 → tl_At l (tl_R 0) 0 0 (tl_M 0 0 (tl_Qi D (wX q k) (tX k) post)) D (wX q k) 7 z 18 [(0, .ref (q 1)), (2, .int x2), (3, .int x3), (4, .int x4)] [] (S, A) := by
    intro S A x2 x3 x4 hw
    have key : ∀ X18 : SS → AA → Int32 → Int32 → Int32 → Prop, (∀ (S : SS) (A : AA) (x2 x3 x4 : Int32), X18 S A x2 x3 x4 → tl_At l (tl_R 0) 0 0 (tl_M 0 0 (tl_Qi D (wX q k) (tX k) post)) D (wX q k) 7 z 18 [(0, .ref (q 1)), (2, .int x2), (3, .int x3), (4, .int x4)] [] (S, A)) → ∀ (S : SS) (A : AA) (x2 x3 x4 : Int32), wX_Mm_sumOf_18B post X18 S A x2 x3 x4 → tl_At l (tl_R 0) 0 0 (tl_M 0 0 (tl_Qi D (wX q k) (tX k) post)) D (wX q k) 7 z 18 [(0, .ref (q 1)), (2, .int x2), (3, .int x3), (4, .int x4)] [] (S, A) := by
      intro X18 hX18 S A x2 x3 x4 hw
      have B43 : ∀ (S : SS) (A : AA) (x2 x3 x4 x5 : Int32), wX_Mm_sumOf_43 post X18 S A x2 x3 x4 x5 → tl_At l (tl_R 0) 0 0 (tl_M 0 0 (tl_Qi D (wX q k) (tX k) post)) D (wX q k) 7 z 43 [(0, .ref (q 1)), (2, .int x2), (3, .int x3), (4, .int x4), (5, .int x5)] [] (S, A) := by
        intro S A x2 x3 x4 x5 hw
        have key : ∀ X43 : SS → AA → Int32 → Int32 → Int32 → Int32 → Prop, (∀ (S : SS) (A : AA) (x2 x3 x4 x5 : Int32), X43 S A x2 x3 x4 x5 → tl_At l (tl_R 0) 0 0 (tl_M 0 0 (tl_Qi D (wX q k) (tX k) post)) D (wX q k) 7 z 43 [(0, .ref (q 1)), (2, .int x2), (3, .int x3), (4, .int x4), (5, .int x5)] [] (S, A)) → ∀ (S : SS) (A : AA) (x2 x3 x4 x5 : Int32), wX_Mm_sumOf_43B post X18 X43 S A x2 x3 x4 x5 → tl_At l (tl_R 0) 0 0 (tl_M 0 0 (tl_Qi D (wX q k) (tX k) post)) D (wX q k) 7 z 43 [(0, .ref (q 1)), (2, .int x2), (3, .int x3), (4, .int x4), (5, .int x5)] [] (S, A) := by
          intro X43 hX43 S A x2 x3 x4 x5 hw
          have B76 : ∀ (S : SS) (A : AA) (x2 x4 x5 y0 : Int32), wX_Mm_sumOf_76 post X18 X43 S A x2 x4 x5 y0 → tl_At l (tl_R 0) 0 0 (tl_M 0 0 (tl_Qi D (wX q k) (tX k) post)) D (wX q k) 7 z 76 [(0, .ref (q 1)), (2, .int x2), (4, .int x4), (5, .int x5)] [.int y0] (S, A) := by
            intro S A x2 x4 x5 y0 hw
            refine tl_istore_n (pc := 76) (lv' := [(3, .int y0), (0, .ref (q 1)), (2, .int x2), (4, .int x4), (5, .int x5)]) C d_Mm_sumOf_76 rfl (by decide) rfl ?_
            refine tl_iinc (pc := 77) (lv' := [(5, .int (x5 + (1 : Int32))), (3, .int y0), (0, .ref (q 1)), (2, .int x2), (4, .int x4)]) C d_Mm_sumOf_77 (by decide) 4 rfl rfl (by decide) rfl ?_
            refine tl_goto (pc := 80) (tgt := 43) C d_Mm_sumOf_80 rfl ?_
            exact tl_sub [2, 3, 1, 4, 0] rfl (hX43 _ _ _ _ _ _ hw)
          refine tl_iload (pc := 43) C d_Mm_sumOf_43 4 rfl ?_
          refine tl_bipush (pc := 45) (v := 8) C d_Mm_sumOf_45 (by decide) ?_
          refine tl_icmp_ge (pc := 47) (tgt := 83) C d_Mm_sumOf_47 rfl (fun hc => ?_) (fun hc => ?_)
          · have hw := hw.1 hc
            refine tl_iinc (pc := 83) (lv' := [(4, .int (x4 + (1 : Int32))), (0, .ref (q 1)), (2, .int x2), (3, .int x3), (5, .int x5)]) C d_Mm_sumOf_83 (by decide) 3 rfl rfl (by decide) rfl ?_
            refine tl_goto (pc := 86) (tgt := 18) C d_Mm_sumOf_86 rfl ?_
            exact tl_sub [1, 2, 3, 0] rfl (hX18 _ _ _ _ _ hw)
          · have hw := hw.2 hc
            refine tl_iload_n (pc := 50) C d_Mm_sumOf_50 rfl 2 rfl ?_
            refine tl_iconst (pc := 51) (v := 1) C d_Mm_sumOf_51 (by decide) ?_
            refine tl_ishl (pc := 52) C d_Mm_sumOf_52 ?_
            refine tl_ldc (pc := 53) (v := 65535) C in_28 d_Mm_sumOf_53 ?_
            refine tl_iand (pc := 55) C d_Mm_sumOf_55 ?_
            refine tl_istore (pc := 56) (lv' := [(6, .int ((x3 <<< ((1 : Int32) &&& 31)) &&& (65535 : Int32))), (0, .ref (q 1)), (2, .int x2), (3, .int x3), (4, .int x4), (5, .int x5)]) C d_Mm_sumOf_56 (by decide) rfl ?_
            refine tl_iload_n (pc := 58) C d_Mm_sumOf_58 rfl 3 rfl ?_
            refine tl_ldc (pc := 59) (v := 32768) C in_29 d_Mm_sumOf_59 ?_
            refine tl_iand (pc := 61) C d_Mm_sumOf_61 ?_
            refine tl_if_eq (pc := 62) (tgt := 74) C d_Mm_sumOf_62 rfl (fun hc => ?_) (fun hc => ?_)
            · have hw := hw.1 hc
              refine tl_iload (pc := 74) C d_Mm_sumOf_74 0 rfl ?_
              exact tl_sub [1, 2, 4, 5] rfl (B76 _ _ _ _ _ _ hw)
            · have hw := hw.2 hc
              refine tl_iload (pc := 65) C d_Mm_sumOf_65 0 rfl ?_
              refine tl_sipush (pc := 67) (v := 4129) C d_Mm_sumOf_67 (by decide) ?_
              refine tl_ixor (pc := 70) C d_Mm_sumOf_70 ?_
              refine tl_goto (pc := 71) (tgt := 76) C d_Mm_sumOf_71 rfl ?_
              exact tl_sub [1, 2, 4, 5] rfl (B76 _ _ _ _ _ _ hw)
        exact hw _ (fun S A x2 x3 x4 x5 hb => key _ (fun _ _ _ _ _ _ h => h) S A x2 x3 x4 x5 hb)
      refine tl_iload (pc := 18) C d_Mm_sumOf_18 3 rfl ?_
      refine tl_iload_n (pc := 20) C d_Mm_sumOf_20 rfl 1 rfl ?_
      refine tl_bipush (pc := 21) (v := 32) C d_Mm_sumOf_21 (by decide) ?_
      refine tl_iadd (pc := 23) C d_Mm_sumOf_23 ?_
      refine tl_icmp_ge (pc := 24) (tgt := 89) C d_Mm_sumOf_24 rfl (fun hc => ?_) (fun hc => ?_)
      · have hw := hw.1 hc
        refine tl_iload_n (pc := 89) C d_Mm_sumOf_89 rfl 2 rfl ?_
        exact tl_iret (pc := 90) C d_Mm_sumOf_90 hw
      · have hw := hw.2 hc
        refine tl_iload_n (pc := 27) C d_Mm_sumOf_27 rfl 2 rfl ?_
        refine tl_aload_n (pc := 28) C d_Mm_sumOf_28 rfl 0 rfl ?_
        refine gX_Mm_11 (pc := 29) C d_Mm_sumOf_29 ?_
        refine tl_iload (pc := 32) C d_Mm_sumOf_32 3 rfl ?_
        obtain ⟨hi, hw⟩ := hw
        refine rX_ald0 (pc := 34) (f := (A 0)) C rfl hi d_Mm_sumOf_34 ?_
        refine tl_bipush (pc := 35) (v := 8) C d_Mm_sumOf_35 (by decide) ?_
        refine tl_ishl (pc := 37) C d_Mm_sumOf_37 ?_
        refine tl_ixor (pc := 38) C d_Mm_sumOf_38 ?_
        refine tl_istore_n (pc := 39) (lv' := [(3, .int (x3 ^^^ (((A 0) x4.toNatClampNeg) <<< ((8 : Int32) &&& 31)))), (0, .ref (q 1)), (2, .int x2), (4, .int x4)]) C d_Mm_sumOf_39 rfl (by decide) rfl ?_
        refine tl_iconst (pc := 40) (v := 0) C d_Mm_sumOf_40 (by decide) ?_
        refine tl_istore (pc := 41) (lv' := [(5, .int (0 : Int32)), (3, .int (x3 ^^^ (((A 0) x4.toNatClampNeg) <<< ((8 : Int32) &&& 31)))), (0, .ref (q 1)), (2, .int x2), (4, .int x4)]) C d_Mm_sumOf_41 (by decide) rfl ?_
        exact tl_sub [2, 3, 1, 4, 0] rfl (B43 _ _ _ _ _ _ hw)
    exact hw _ (fun S A x2 x3 x4 hb => key _ (fun _ _ _ _ _ h => h) S A x2 x3 x4 hb)
  have B11 : ∀ (S : SS) (A : AA) (y0 : Int32), wX_Mm_sumOf_11 post S A y0 → tl_At l (tl_R 0) 0 0 (tl_M 0 0 (tl_Qi D (wX q k) (tX k) post)) D (wX q k) 7 z 11 [(0, .ref (q 1))] [.int y0] (S, A) := by
    intro S A y0 hw
    refine tl_istore_n (pc := 11) (lv' := [(2, .int y0), (0, .ref (q 1))]) C d_Mm_sumOf_11 rfl (by decide) rfl ?_
    refine tl_ldc (pc := 12) (v := 65535) C in_28 d_Mm_sumOf_12 ?_
    refine tl_istore_n (pc := 14) (lv' := [(3, .int (65535 : Int32)), (2, .int y0), (0, .ref (q 1))]) C d_Mm_sumOf_14 rfl (by decide) rfl ?_
    refine tl_iload_n (pc := 15) C d_Mm_sumOf_15 rfl 1 rfl ?_
    refine tl_istore (pc := 16) (lv' := [(4, .int y0), (3, .int (65535 : Int32)), (2, .int y0), (0, .ref (q 1))]) C d_Mm_sumOf_16 (by decide) rfl ?_
    exact tl_sub [3, 2, 1, 0] rfl (B18 _ _ _ _ _ hw)
  refine tl_iload_n (pc := 0) C d_Mm_sumOf_0 rfl 1 rfl ?_
  refine tl_iconst (pc := 1) (v := 1) C d_Mm_sumOf_1 (by decide) ?_
  refine tl_icmp_ne (pc := 2) (tgt := 10) C d_Mm_sumOf_2 rfl (fun hc => ?_) (fun hc => ?_)
  · have hw := hw.1 hc
    refine tl_iconst (pc := 10) (v := 0) C d_Mm_sumOf_10 (by decide) ?_
    exact tl_sub [0] rfl (B11 _ _ _ hw)
  · have hw := hw.2 hc
    refine tl_bipush (pc := 5) (v := 48) C d_Mm_sumOf_5 (by decide) ?_
    refine tl_goto (pc := 7) (tgt := 11) C d_Mm_sumOf_7 rfl ?_
    exact tl_sub [0] rfl (B11 _ _ _ hw)
theorem kX_Mm_sumOf {l : Launch} {R : Room} {nc ns : Nat} {Q : tl_Z → State → Prop} {D : va_G} {q : Nat → Nat} {k : Nat → ClassId} {nL : Nat} {z : tl_Z} {cc : ByteArray} {ret : Option FieldType} {pc : Nat} {lv : List (Nat × Value)} {rest : List Value} {S : SS} {A : AA} {own : String} {idx : Nat} {x1 : Int32} {post : Int32 → SS → AA → Prop} (C : tl_Cx cc nL own ret D (tX k) z) (hw : wX_Mm_sumOf post S A x1) (hl : Cond.methodLink own idx y_Mm_sumOf ∈ wsAll) (hdg : decode cc pc = .ok (.invokevirtual idx, 3)) (hf : tl_fit R (tl_R 0) nc ns 7 rest = true) (kk : ∀ (r : Int32) (S1 : SS) (A1 : AA), post r S1 A1 → tl_At l R nc ns Q D (wX q k) nL z (pc + 3) lv (.int r :: rest) (S1, A1)) : tl_At l R nc ns Q D (wX q k) nL z pc lv (.int x1 :: .ref (q 1) :: rest) (S, A) :=
  tl_callVi (n := 1) (As := [.int x1]) (b := q 1) (q0 := 1) (ci := 2) C (fun sz => cX_Mm_sumOf l D q k sz S A x1 hw) in_27 in_2 in_25 in_26 (by decide +kernel) rfl ⟨rfl, rfl⟩ rfl rfl hl hf hdg kk
set_option maxHeartbeats 4000000 in
set_option maxRecDepth 100000 in
theorem cX_Mm_goodSerial (l : Launch) (D : va_G) (q : Nat → Nat) (k : Nat → ClassId) (sz : Nat) (S : SS) (A : AA) (x1 : Int32) {post : Int32 → SS → AA → Prop} (hw : wX_Mm_goodSerial post S A x1) : tl_Met l y_Mm_goodSerial b_Mm_goodSerial 4 (some .int) (tl_R 1) D (wX q k) (tX k) sz [.ref (q 1), .int x1] (S, A) (tl_Qi D (wX q k) (tX k) post) := by
  refine tl_met (own := R_Mm) (lv := [(0, .ref (q 1)), (1, .int x1)]) (by decide) rfl rfl (Nat.le_of_ble_eq_true rfl) (fun z C => ?_)
  refine tl_iload_n (pc := 0) C d_Mm_goodSerial_0 rfl 1 rfl ?_
  refine kX_Mm_headerOf (pc := 1) C hw ml_Mm_19 d_Mm_goodSerial_1 rfl (fun r1 S1 A1 hw => ?_)
  refine tl_istore_n (pc := 4) (lv' := [(2, .int r1), (0, .ref (q 1)), (1, .int x1)]) C d_Mm_goodSerial_4 rfl (by decide) rfl ?_
  refine tl_aload_n (pc := 5) C d_Mm_goodSerial_5 rfl 1 rfl ?_
  refine tl_iload_n (pc := 6) C d_Mm_goodSerial_6 rfl 0 rfl ?_
  refine tl_iconst (pc := 7) (v := 2) C d_Mm_goodSerial_7 (by decide) ?_
  refine tl_iadd (pc := 8) C d_Mm_goodSerial_8 ?_
  refine kX_Mm_byteAt (pc := 9) C hw ml_Mm_44 d_Mm_goodSerial_9 rfl (fun r9 S9 A9 hw => ?_)
  refine tl_bipush (pc := 12) (v := 8) C d_Mm_goodSerial_12 (by decide) ?_
  refine tl_ishl (pc := 14) C d_Mm_goodSerial_14 ?_
  refine tl_aload_n (pc := 15) C d_Mm_goodSerial_15 rfl 1 rfl ?_
  refine tl_iload_n (pc := 16) C d_Mm_goodSerial_16 rfl 0 rfl ?_
  refine tl_iconst (pc := 17) (v := 3) C d_Mm_goodSerial_17 (by decide) ?_
  refine tl_iadd (pc := 18) C d_Mm_goodSerial_18 ?_
  refine kX_Mm_byteAt (pc := 19) C hw ml_Mm_44 d_Mm_goodSerial_19 rfl (fun r19 S19 A19 hw => ?_)
  refine tl_ior (pc := 22) C d_Mm_goodSerial_22 ?_
  refine tl_istore_n (pc := 23) (lv' := [(3, .int ((r9 <<< ((8 : Int32) &&& 31)) ||| r19)), (2, .int r1), (0, .ref (q 1)), (1, .int x1)]) C d_Mm_goodSerial_23 rfl (by decide) rfl ?_
  refine tl_aload_n (pc := 24) C d_Mm_goodSerial_24 rfl 2 rfl ?_
  refine tl_iload_n (pc := 25) C d_Mm_goodSerial_25 rfl 1 rfl ?_
  refine kX_Mm_byteAt (pc := 26) C hw ml_Mm_44 d_Mm_goodSerial_26 rfl (fun r26 S26 A26 hw => ?_)
  refine tl_if_ne (pc := 29) (tgt := 51) C d_Mm_goodSerial_29 rfl (fun hc => ?_) (fun hc => ?_)
  · have hw := hw.1 hc
    refine tl_iconst (pc := 51) (v := -1) C d_Mm_goodSerial_51 (by decide) ?_
    exact tl_iret (pc := 52) C d_Mm_goodSerial_52 hw
  · have hw := hw.2 hc
    refine tl_iload_n (pc := 32) C d_Mm_goodSerial_32 rfl 0 rfl ?_
    refine tl_aload_n (pc := 33) C d_Mm_goodSerial_33 rfl 2 rfl ?_
    refine tl_iload_n (pc := 34) C d_Mm_goodSerial_34 rfl 3 rfl ?_
    refine kX_Mm_sumOf (pc := 35) C hw ml_Mm_15 d_Mm_goodSerial_35 rfl (fun r35 S35 A35 hw => ?_)
    refine tl_icmp_ne (pc := 38) (tgt := 51) C d_Mm_goodSerial_38 rfl (fun hc => ?_) (fun hc => ?_)
    · have hw := hw.1 hc
      refine tl_iconst (pc := 51) (v := -1) C d_Mm_goodSerial_51 (by decide) ?_
      exact tl_iret (pc := 52) C d_Mm_goodSerial_52 hw
    · have hw := hw.2 hc
      refine tl_aload_n (pc := 41) C d_Mm_goodSerial_41 rfl 2 rfl ?_
      refine tl_iload_n (pc := 42) C d_Mm_goodSerial_42 rfl 1 rfl ?_
      refine tl_iconst (pc := 43) (v := 1) C d_Mm_goodSerial_43 (by decide) ?_
      refine tl_iadd (pc := 44) C d_Mm_goodSerial_44 ?_
      refine kX_Mm_byteAt (pc := 45) C hw ml_Mm_44 d_Mm_goodSerial_45 rfl (fun r45 S45 A45 hw => ?_)
      refine tl_goto (pc := 48) (tgt := 52) C d_Mm_goodSerial_48 rfl ?_
      exact tl_iret (pc := 52) C d_Mm_goodSerial_52 hw
theorem kX_Mm_goodSerial {l : Launch} {R : Room} {nc ns : Nat} {Q : tl_Z → State → Prop} {D : va_G} {q : Nat → Nat} {k : Nat → ClassId} {nL : Nat} {z : tl_Z} {cc : ByteArray} {ret : Option FieldType} {pc : Nat} {lv : List (Nat × Value)} {rest : List Value} {S : SS} {A : AA} {own : String} {idx : Nat} {x1 : Int32} {post : Int32 → SS → AA → Prop} (C : tl_Cx cc nL own ret D (tX k) z) (hw : wX_Mm_goodSerial post S A x1) (hl : Cond.methodLink own idx y_Mm_goodSerial ∈ wsAll) (hdg : decode cc pc = .ok (.invokevirtual idx, 3)) (hf : tl_fit R (tl_R 1) nc ns 4 rest = true) (kk : ∀ (r : Int32) (S1 : SS) (A1 : AA), post r S1 A1 → tl_At l R nc ns Q D (wX q k) nL z (pc + 3) lv (.int r :: rest) (S1, A1)) : tl_At l R nc ns Q D (wX q k) nL z pc lv (.int x1 :: .ref (q 1) :: rest) (S, A) :=
  tl_callVi (n := 1) (As := [.int x1]) (b := q 1) (q0 := 1) (ci := 2) C (fun sz => cX_Mm_goodSerial l D q k sz S A x1 hw) in_180 in_2 in_178 in_179 (by decide +kernel) rfl ⟨rfl, rfl⟩ rfl rfl hl hf hdg kk
set_option maxHeartbeats 4000000 in
set_option maxRecDepth 100000 in
theorem cX_Mm_bestSlot (l : Launch) (D : va_G) (q : Nat → Nat) (k : Nat → ClassId) (sz : Nat) (S : SS) (A : AA) {post : Int32 → SS → AA → Prop} (hw : wX_Mm_bestSlot post S A) : tl_Met l y_Mm_bestSlot b_Mm_bestSlot 3 (some .int) (tl_R 2) D (wX q k) (tX k) sz [.ref (q 1)] (S, A) (tl_Qi D (wX q k) (tX k) post) := by
  refine tl_met (own := R_Mm) (lv := [(0, .ref (q 1))]) (by decide) rfl rfl (Nat.le_of_ble_eq_true rfl) (fun z C => ?_)
  refine tl_aload_n (pc := 0) C d_Mm_bestSlot_0 rfl 0 rfl ?_
  refine tl_iconst (pc := 1) (v := 0) C d_Mm_bestSlot_1 (by decide) ?_
  refine kX_Mm_goodSerial (pc := 2) C hw ml_Mm_47 d_Mm_bestSlot_2 rfl (fun r2 S2 A2 hw => ?_)
  refine tl_istore_n (pc := 5) (lv' := [(1, .int r2), (0, .ref (q 1))]) C d_Mm_bestSlot_5 rfl (by decide) rfl ?_
  refine tl_aload_n (pc := 6) C d_Mm_bestSlot_6 rfl 1 rfl ?_
  refine tl_iconst (pc := 7) (v := 1) C d_Mm_bestSlot_7 (by decide) ?_
  refine kX_Mm_goodSerial (pc := 8) C hw ml_Mm_47 d_Mm_bestSlot_8 rfl (fun r8 S8 A8 hw => ?_)
  refine tl_istore_n (pc := 11) (lv' := [(2, .int r8), (1, .int r2), (0, .ref (q 1))]) C d_Mm_bestSlot_11 rfl (by decide) rfl ?_
  refine tl_iload_n (pc := 12) C d_Mm_bestSlot_12 rfl 0 rfl ?_
  refine tl_iload_n (pc := 13) C d_Mm_bestSlot_13 rfl 1 rfl ?_
  refine tl_icmp_le (pc := 14) (tgt := 19) C d_Mm_bestSlot_14 rfl (fun hc => ?_) (fun hc => ?_)
  · have hw := hw.1 hc
    refine tl_iload_n (pc := 19) C d_Mm_bestSlot_19 rfl 1 rfl ?_
    refine tl_iconst (pc := 20) (v := -1) C d_Mm_bestSlot_20 (by decide) ?_
    refine tl_icmp_ne (pc := 21) (tgt := 28) C d_Mm_bestSlot_21 rfl (fun hc => ?_) (fun hc => ?_)
    · have hw := hw.1 hc
      refine tl_iconst (pc := 28) (v := 0) C d_Mm_bestSlot_28 (by decide) ?_
      exact tl_iret (pc := 29) C d_Mm_bestSlot_29 hw
    · have hw := hw.2 hc
      refine tl_iconst (pc := 24) (v := -1) C d_Mm_bestSlot_24 (by decide) ?_
      refine tl_goto (pc := 25) (tgt := 29) C d_Mm_bestSlot_25 rfl ?_
      exact tl_iret (pc := 29) C d_Mm_bestSlot_29 hw
  · have hw := hw.2 hc
    refine tl_iconst (pc := 17) (v := 1) C d_Mm_bestSlot_17 (by decide) ?_
    exact tl_iret (pc := 18) C d_Mm_bestSlot_18 hw
theorem kX_Mm_bestSlot {l : Launch} {R : Room} {nc ns : Nat} {Q : tl_Z → State → Prop} {D : va_G} {q : Nat → Nat} {k : Nat → ClassId} {nL : Nat} {z : tl_Z} {cc : ByteArray} {ret : Option FieldType} {pc : Nat} {lv : List (Nat × Value)} {rest : List Value} {S : SS} {A : AA} {own : String} {idx : Nat} {post : Int32 → SS → AA → Prop} (C : tl_Cx cc nL own ret D (tX k) z) (hw : wX_Mm_bestSlot post S A) (hl : Cond.methodLink own idx y_Mm_bestSlot ∈ wsAll) (hdg : decode cc pc = .ok (.invokevirtual idx, 3)) (hf : tl_fit R (tl_R 2) nc ns 3 rest = true) (kk : ∀ (r : Int32) (S1 : SS) (A1 : AA), post r S1 A1 → tl_At l R nc ns Q D (wX q k) nL z (pc + 3) lv (.int r :: rest) (S1, A1)) : tl_At l R nc ns Q D (wX q k) nL z pc lv (.ref (q 1) :: rest) (S, A) :=
  tl_callVi (n := 0) (As := []) (b := q 1) (q0 := 1) (ci := 2) C (fun sz => cX_Mm_bestSlot l D q k sz S A hw) in_176 in_2 in_174 in_175 (by decide +kernel) rfl ⟨rfl, rfl⟩ rfl rfl hl hf hdg kk
set_option maxHeartbeats 4000000 in
set_option maxRecDepth 100000 in
theorem cX_T_boot (l : Launch) (D : va_G) (q : Nat → Nat) (k : Nat → ClassId) (sz : Nat) (S : SS) (A : AA) {post : SS → AA → Prop} (hw : wX_T_boot post S A) : tl_Met l y_T_boot b_T_boot 1 none (tl_R 3) D (wX q k) (tX k) sz [.ref (q 0)] (S, A) (tl_Qv D (wX q k) (tX k) post) := by
  refine tl_met (own := R_T) (lv := [(0, .ref (q 0))]) (by decide) rfl rfl (Nat.le_of_ble_eq_true rfl) (fun z C => ?_)
  refine tl_aload_n (pc := 0) C d_T_boot_0 rfl 0 rfl ?_
  refine tl_aload_n (pc := 1) C d_T_boot_1 rfl 0 rfl ?_
  refine gX_T_10 (pc := 2) C d_T_boot_2 ?_
  refine kX_Mm_bestSlot (pc := 5) C hw ml_T_146 d_T_boot_5 rfl (fun r5 S5 A5 hw => ?_)
  refine pX_T_124 (pc := 8) C d_T_boot_8 ?_
  refine tl_aload_n (pc := 11) C d_T_boot_11 rfl 0 rfl ?_
  refine tl_iconst (pc := 12) (v := 1) C d_T_boot_12 (by decide) ?_
  refine pX_T_98 (pc := 13) C d_T_boot_13 ?_
  refine tl_aload_n (pc := 16) C d_T_boot_16 rfl 0 rfl ?_
  refine tl_iconst (pc := 17) (v := -1) C d_T_boot_17 (by decide) ?_
  refine pX_T_137 (pc := 18) C d_T_boot_18 ?_
  refine tl_aload_n (pc := 21) C d_T_boot_21 rfl 0 rfl ?_
  refine tl_iconst (pc := 22) (v := 0) C d_T_boot_22 (by decide) ?_
  refine pX_T_149 (pc := 23) C d_T_boot_23 ?_
  refine tl_aload_n (pc := 26) C d_T_boot_26 rfl 0 rfl ?_
  refine tl_iconst (pc := 27) (v := 0) C d_T_boot_27 (by decide) ?_
  refine pX_T_95 (pc := 28) C d_T_boot_28 ?_
  refine tl_aload_n (pc := 31) C d_T_boot_31 rfl 0 rfl ?_
  refine gX_T_38 (pc := 32) C d_T_boot_32 ?_
  refine kX_Lk_reset (pc := 35) C hw ml_T_152 d_T_boot_35 rfl (fun S35 A35 hw => ?_)
  refine tl_aload_n (pc := 38) C d_T_boot_38 rfl 0 rfl ?_
  refine gX_T_45 (pc := 39) C d_T_boot_39 ?_
  refine kX_Dl_end (pc := 42) C hw ml_T_155 d_T_boot_42 rfl (fun S42 A42 hw => ?_)
  refine tl_aload_n (pc := 45) C d_T_boot_45 rfl 0 rfl ?_
  refine gX_T_19 (pc := 46) C d_T_boot_46 ?_
  refine kX_Rc_drop (pc := 49) C hw ml_T_158 d_T_boot_49 rfl (fun S49 A49 hw => ?_)
  refine tl_aload_n (pc := 52) C d_T_boot_52 rfl 0 rfl ?_
  refine gX_T_26 (pc := 53) C d_T_boot_53 ?_
  refine kX_Sd_drop (pc := 56) C hw ml_T_161 d_T_boot_56 rfl (fun S56 A56 hw => ?_)
  exact tl_vret (pc := 59) C d_T_boot_59 hw
theorem kX_T_boot {l : Launch} {R : Room} {nc ns : Nat} {Q : tl_Z → State → Prop} {D : va_G} {q : Nat → Nat} {k : Nat → ClassId} {nL : Nat} {z : tl_Z} {cc : ByteArray} {ret : Option FieldType} {pc : Nat} {lv : List (Nat × Value)} {rest : List Value} {S : SS} {A : AA} {own : String} {idx : Nat} {post : SS → AA → Prop} (C : tl_Cx cc nL own ret D (tX k) z) (hw : wX_T_boot post S A) (hl : Cond.methodLink own idx y_T_boot ∈ wsAll) (hdg : decode cc pc = .ok (.invokevirtual idx, 3)) (hf : tl_fit R (tl_R 3) nc ns 1 rest = true) (kk : ∀ (S1 : SS) (A1 : AA), post S1 A1 → tl_At l R nc ns Q D (wX q k) nL z (pc + 3) lv (rest) (S1, A1)) : tl_At l R nc ns Q D (wX q k) nL z pc lv (.ref (q 0) :: rest) (S, A) :=
  tl_callVv (n := 0) (As := []) (b := q 0) (q0 := 0) (ci := 6) C (fun sz => cX_T_boot l D q k sz S A hw) in_172 in_1 in_171 ip_0 (by decide +kernel) rfl ⟨rfl, rfl⟩ rfl rfl hl hf hdg kk
set_option maxHeartbeats 4000000 in
set_option maxRecDepth 100000 in
theorem cX_Rw_clear (l : Launch) (D : va_G) (q : Nat → Nat) (k : Nat → ClassId) (sz : Nat) (S : SS) (A : AA) {post : SS → AA → Prop} (hw : wX_Rw_clear post S A) : tl_Met l y_Rw_clear b_Rw_clear 1 none (tl_R 0) D (wX q k) (tX k) sz [.ref (q 6)] (S, A) (tl_Qv D (wX q k) (tX k) post) := by
  refine tl_met (own := R_Rw) (lv := [(0, .ref (q 6))]) (by decide) rfl rfl (Nat.le_of_ble_eq_true rfl) (fun z C => ?_)
  refine tl_aload_n (pc := 0) C d_Rw_clear_0 rfl 0 rfl ?_
  refine tl_iconst (pc := 1) (v := 0) C d_Rw_clear_1 (by decide) ?_
  refine pX_Rw_15 (pc := 2) C d_Rw_clear_2 ?_
  exact tl_vret (pc := 5) C d_Rw_clear_5 hw
theorem kX_Rw_clear {l : Launch} {R : Room} {nc ns : Nat} {Q : tl_Z → State → Prop} {D : va_G} {q : Nat → Nat} {k : Nat → ClassId} {nL : Nat} {z : tl_Z} {cc : ByteArray} {ret : Option FieldType} {pc : Nat} {lv : List (Nat × Value)} {rest : List Value} {S : SS} {A : AA} {own : String} {idx : Nat} {post : SS → AA → Prop} (C : tl_Cx cc nL own ret D (tX k) z) (hw : wX_Rw_clear post S A) (hl : Cond.methodLink own idx y_Rw_clear ∈ wsAll) (hdg : decode cc pc = .ok (.invokevirtual idx, 3)) (hf : tl_fit R (tl_R 0) nc ns 1 rest = true) (kk : ∀ (S1 : SS) (A1 : AA), post S1 A1 → tl_At l R nc ns Q D (wX q k) nL z (pc + 3) lv (rest) (S1, A1)) : tl_At l R nc ns Q D (wX q k) nL z pc lv (.ref (q 6) :: rest) (S, A) :=
  tl_callVv (n := 0) (As := []) (b := q 6) (q0 := 6) (ci := 4) C (fun sz => cX_Rw_clear l D q k sz S A hw) in_460 in_5 in_458 in_459 (by decide +kernel) rfl ⟨rfl, rfl⟩ rfl rfl hl hf hdg kk
set_option maxHeartbeats 4000000 in
set_option maxRecDepth 100000 in
theorem cX_T_bootAfresh (l : Launch) (D : va_G) (q : Nat → Nat) (k : Nat → ClassId) (sz : Nat) (S : SS) (A : AA) {post : SS → AA → Prop} (hw : wX_T_bootAfresh post S A) : tl_Met l y_T_bootAfresh b_T_bootAfresh 1 none (tl_R 4) D (wX q k) (tX k) sz [.ref (q 0)] (S, A) (tl_Qv D (wX q k) (tX k) post) := by
  refine tl_met (own := R_T) (lv := [(0, .ref (q 0))]) (by decide) rfl rfl (Nat.le_of_ble_eq_true rfl) (fun z C => ?_)
  refine tl_aload_n (pc := 0) C d_T_bootAfresh_0 rfl 0 rfl ?_
  refine kX_T_boot (pc := 1) C hw ml_T_53 d_T_bootAfresh_1 rfl (fun S1 A1 hw => ?_)
  refine tl_aload_n (pc := 4) C d_T_bootAfresh_4 rfl 0 rfl ?_
  refine gX_T_34 (pc := 5) C d_T_bootAfresh_5 ?_
  refine kX_Rw_clear (pc := 8) C hw ml_T_162 d_T_bootAfresh_8 rfl (fun S8 A8 hw => ?_)
  exact tl_vret (pc := 11) C d_T_bootAfresh_11 hw
theorem kX_T_bootAfresh {l : Launch} {R : Room} {nc ns : Nat} {Q : tl_Z → State → Prop} {D : va_G} {q : Nat → Nat} {k : Nat → ClassId} {nL : Nat} {z : tl_Z} {cc : ByteArray} {ret : Option FieldType} {pc : Nat} {lv : List (Nat × Value)} {rest : List Value} {S : SS} {A : AA} {own : String} {idx : Nat} {post : SS → AA → Prop} (C : tl_Cx cc nL own ret D (tX k) z) (hw : wX_T_bootAfresh post S A) (hl : Cond.methodLink own idx y_T_bootAfresh ∈ wsAll) (hdg : decode cc pc = .ok (.invokevirtual idx, 3)) (hf : tl_fit R (tl_R 4) nc ns 1 rest = true) (kk : ∀ (S1 : SS) (A1 : AA), post S1 A1 → tl_At l R nc ns Q D (wX q k) nL z (pc + 3) lv (rest) (S1, A1)) : tl_At l R nc ns Q D (wX q k) nL z pc lv (.ref (q 0) :: rest) (S, A) :=
  tl_callVv (n := 0) (As := []) (b := q 0) (q0 := 0) (ci := 6) C (fun sz => cX_T_bootAfresh l D q k sz S A hw) in_456 in_1 in_455 ip_26 (by decide +kernel) rfl ⟨rfl, rfl⟩ rfl rfl hl hf hdg kk
theorem swX_T_hasKnownKind_10_16 {σ : Type} {l : Launch} {R : Room} {nc ns : Nat} {Q : tl_Z → State → Prop} {D : va_G} {w : σ → va_W} {nL : Nat} {z : tl_Z} {own : String} {ret : Option FieldType} {tys : List (ClassId × FieldType)} {lv : List (Nat × Value)} {rest : List Value} {u : σ} {x : Int32} (C : tl_Cx b_T_hasKnownKind nL own ret D tys z) (hc : x = (16 : Int32)) (kk : tl_At l R nc ns Q D w nL z 60 lv rest u) : tl_At l R nc ns Q D w nL z 10 lv (.int x :: rest) u := by
  subst hc
  obtain ⟨p, e, s, m, args, below, meth, c, F⟩ := z
  obtain ⟨hx, hb, hml, hown, hts, hN, hK, hA, hlk, hr⟩ := C
  exact fun ls H locs hl hP hD hS => lv_lookup (off := 50) hx hb d_T_hasKnownKind_10 (by decide +kernel) (by decide +kernel) rfl (kk ls H locs hl hP hD hS)
theorem swX_T_hasKnownKind_10_17 {σ : Type} {l : Launch} {R : Room} {nc ns : Nat} {Q : tl_Z → State → Prop} {D : va_G} {w : σ → va_W} {nL : Nat} {z : tl_Z} {own : String} {ret : Option FieldType} {tys : List (ClassId × FieldType)} {lv : List (Nat × Value)} {rest : List Value} {u : σ} {x : Int32} (C : tl_Cx b_T_hasKnownKind nL own ret D tys z) (hc : x = (17 : Int32)) (kk : tl_At l R nc ns Q D w nL z 76 lv rest u) : tl_At l R nc ns Q D w nL z 10 lv (.int x :: rest) u := by
  subst hc
  obtain ⟨p, e, s, m, args, below, meth, c, F⟩ := z
  obtain ⟨hx, hb, hml, hown, hts, hN, hK, hA, hlk, hr⟩ := C
  exact fun ls H locs hl hP hD hS => lv_lookup (off := 66) hx hb d_T_hasKnownKind_10 (by decide +kernel) (by decide +kernel) rfl (kk ls H locs hl hP hD hS)
theorem swX_T_hasKnownKind_10_39 {σ : Type} {l : Launch} {R : Room} {nc ns : Nat} {Q : tl_Z → State → Prop} {D : va_G} {w : σ → va_W} {nL : Nat} {z : tl_Z} {own : String} {ret : Option FieldType} {tys : List (ClassId × FieldType)} {lv : List (Nat × Value)} {rest : List Value} {u : σ} {x : Int32} (C : tl_Cx b_T_hasKnownKind nL own ret D tys z) (hc : x = (39 : Int32)) (kk : tl_At l R nc ns Q D w nL z 60 lv rest u) : tl_At l R nc ns Q D w nL z 10 lv (.int x :: rest) u := by
  subst hc
  obtain ⟨p, e, s, m, args, below, meth, c, F⟩ := z
  obtain ⟨hx, hb, hml, hown, hts, hN, hK, hA, hlk, hr⟩ := C
  exact fun ls H locs hl hP hD hS => lv_lookup (off := 50) hx hb d_T_hasKnownKind_10 (by decide +kernel) (by decide +kernel) rfl (kk ls H locs hl hP hD hS)
theorem swX_T_hasKnownKind_10_49 {σ : Type} {l : Launch} {R : Room} {nc ns : Nat} {Q : tl_Z → State → Prop} {D : va_G} {w : σ → va_W} {nL : Nat} {z : tl_Z} {own : String} {ret : Option FieldType} {tys : List (ClassId × FieldType)} {lv : List (Nat × Value)} {rest : List Value} {u : σ} {x : Int32} (C : tl_Cx b_T_hasKnownKind nL own ret D tys z) (hc : x = (49 : Int32)) (kk : tl_At l R nc ns Q D w nL z 76 lv rest u) : tl_At l R nc ns Q D w nL z 10 lv (.int x :: rest) u := by
  subst hc
  obtain ⟨p, e, s, m, args, below, meth, c, F⟩ := z
  obtain ⟨hx, hb, hml, hown, hts, hN, hK, hA, hlk, hr⟩ := C
  exact fun ls H locs hl hP hD hS => lv_lookup (off := 66) hx hb d_T_hasKnownKind_10 (by decide +kernel) (by decide +kernel) rfl (kk ls H locs hl hP hD hS)
theorem swX_T_hasKnownKind_10_62 {σ : Type} {l : Launch} {R : Room} {nc ns : Nat} {Q : tl_Z → State → Prop} {D : va_G} {w : σ → va_W} {nL : Nat} {z : tl_Z} {own : String} {ret : Option FieldType} {tys : List (ClassId × FieldType)} {lv : List (Nat × Value)} {rest : List Value} {u : σ} {x : Int32} (C : tl_Cx b_T_hasKnownKind nL own ret D tys z) (hc : x = (62 : Int32)) (kk : tl_At l R nc ns Q D w nL z 87 lv rest u) : tl_At l R nc ns Q D w nL z 10 lv (.int x :: rest) u := by
  subst hc
  obtain ⟨p, e, s, m, args, below, meth, c, F⟩ := z
  obtain ⟨hx, hb, hml, hown, hts, hN, hK, hA, hlk, hr⟩ := C
  exact fun ls H locs hl hP hD hS => lv_lookup (off := 77) hx hb d_T_hasKnownKind_10 (by decide +kernel) (by decide +kernel) rfl (kk ls H locs hl hP hD hS)
theorem swX_T_hasKnownKind_10_d {σ : Type} {l : Launch} {R : Room} {nc ns : Nat} {Q : tl_Z → State → Prop} {D : va_G} {w : σ → va_W} {nL : Nat} {z : tl_Z} {own : String} {ret : Option FieldType} {tys : List (ClassId × FieldType)} {lv : List (Nat × Value)} {rest : List Value} {u : σ} {x : Int32} (C : tl_Cx b_T_hasKnownKind nL own ret D tys z) (h0 : ¬ x = (16 : Int32)) (h1 : ¬ x = (17 : Int32)) (h2 : ¬ x = (39 : Int32)) (h3 : ¬ x = (49 : Int32)) (h4 : ¬ x = (62 : Int32)) (kk : tl_At l R nc ns Q D w nL z 97 lv rest u) : tl_At l R nc ns Q D w nL z 10 lv (.int x :: rest) u := by
  obtain ⟨p, e, s, m, args, below, meth, c, F⟩ := z
  obtain ⟨hx, hb, hml, hown, hts, hN, hK, hA, hlk, hr⟩ := C
  exact fun ls H locs hl hP hD hS => lv_lookup (off := 87) hx hb d_T_hasKnownKind_10 (by decide +kernel) ((lv_osw h0 (by decide)).trans ((lv_osw h1 (by decide)).trans ((lv_osw h2 (by decide)).trans ((lv_osw h3 (by decide)).trans ((lv_osw h4 (by decide)).trans rfl))))) rfl (kk ls H locs hl hP hD hS)
set_option maxHeartbeats 4000000 in
set_option maxRecDepth 100000 in
theorem cX_T_hasKnownKind (l : Launch) (D : va_G) (q : Nat → Nat) (k : Nat → ClassId) (sz : Nat) (S : SS) (A : AA) (x1 : Int32) {post : Int32 → SS → AA → Prop} (hw : wX_T_hasKnownKind post S A x1) : tl_Met l y_T_hasKnownKind b_T_hasKnownKind 3 (some .boolean) (tl_R 1) D (wX q k) (tX k) sz [.ref (q 0), .int x1] (S, A) (tl_Qi D (wX q k) (tX k) post) := by
  refine tl_met (own := R_T) (lv := [(0, .ref (q 0)), (1, .int x1)]) (by decide) rfl rfl (Nat.le_of_ble_eq_true rfl) (fun z C => ?_)
  have B76 : ∀ (S : SS) (A : AA) (x2 : Int32), wX_T_hasKnownKind_76 post S A x2 → tl_At l (tl_R 1) 0 0 (tl_M 0 0 (tl_Qi D (wX q k) (tX k) post)) D (wX q k) 3 z 76 [(2, .int x2)] [] (S, A) := by
    intro S A x2 hw
    refine tl_iload_n (pc := 76) C d_T_hasKnownKind_76 rfl 0 rfl ?_
    refine tl_iconst (pc := 77) (v := 1) C d_T_hasKnownKind_77 (by decide) ?_
    refine tl_icmp_ne (pc := 78) (tgt := 85) C d_T_hasKnownKind_78 rfl (fun hc => ?_) (fun hc => ?_)
    · have hw := hw.1 hc
      refine tl_iconst (pc := 85) (v := 0) C d_T_hasKnownKind_85 (by decide) ?_
      exact tl_zret (pc := 86) C (by decide) d_T_hasKnownKind_86 hw
    · have hw := hw.2 hc
      refine tl_iconst (pc := 81) (v := 1) C d_T_hasKnownKind_81 (by decide) ?_
      refine tl_goto (pc := 82) (tgt := 86) C d_T_hasKnownKind_82 rfl ?_
      exact tl_zret (pc := 86) C (by decide) d_T_hasKnownKind_86 hw
  have B70 : ∀ (S : SS) (A : AA), wX_T_hasKnownKind_70 post S A → tl_At l (tl_R 1) 0 0 (tl_M 0 0 (tl_Qi D (wX q k) (tX k) post)) D (wX q k) 3 z 70 [] [] (S, A) := by
    intro S A hw
    refine tl_iconst (pc := 70) (v := 1) C d_T_hasKnownKind_70 (by decide) ?_
    refine tl_goto (pc := 71) (tgt := 75) C d_T_hasKnownKind_71 rfl ?_
    exact tl_zret (pc := 75) C (by decide) d_T_hasKnownKind_75 hw
  have B60 : ∀ (S : SS) (A : AA) (x2 : Int32), wX_T_hasKnownKind_60 post S A x2 → tl_At l (tl_R 1) 0 0 (tl_M 0 0 (tl_Qi D (wX q k) (tX k) post)) D (wX q k) 3 z 60 [(2, .int x2)] [] (S, A) := by
    intro S A x2 hw
    refine tl_iload_n (pc := 60) C d_T_hasKnownKind_60 rfl 0 rfl ?_
    refine tl_iconst (pc := 61) (v := 1) C d_T_hasKnownKind_61 (by decide) ?_
    refine tl_icmp_eq (pc := 62) (tgt := 70) C d_T_hasKnownKind_62 rfl (fun hc => ?_) (fun hc => ?_)
    · have hw := hw.1 hc
      exact tl_sub [] rfl (B70 _ _ hw)
    · have hw := hw.2 hc
      refine tl_iload_n (pc := 65) C d_T_hasKnownKind_65 rfl 0 rfl ?_
      refine tl_iconst (pc := 66) (v := 2) C d_T_hasKnownKind_66 (by decide) ?_
      refine tl_icmp_ne (pc := 67) (tgt := 74) C d_T_hasKnownKind_67 rfl (fun hc => ?_) (fun hc => ?_)
      · have hw := hw.1 hc
        refine tl_iconst (pc := 74) (v := 0) C d_T_hasKnownKind_74 (by decide) ?_
        exact tl_zret (pc := 75) C (by decide) d_T_hasKnownKind_75 hw
      · have hw := hw.2 hc
        exact tl_sub [] rfl (B70 _ _ hw)
  refine tl_aload_n (pc := 0) C d_T_hasKnownKind_0 rfl 0 rfl ?_
  refine gX_T_19 (pc := 1) C d_T_hasKnownKind_1 ?_
  refine tl_iconst (pc := 4) (v := 1) C d_T_hasKnownKind_4 (by decide) ?_
  refine kX_Rc_at (pc := 5) C hw ml_T_174 d_T_hasKnownKind_5 rfl (fun r5 S5 A5 hw => ?_)
  refine tl_istore_n (pc := 8) (lv' := [(2, .int r5), (0, .ref (q 0)), (1, .int x1)]) C d_T_hasKnownKind_8 rfl (by decide) rfl ?_
  refine tl_iload_n (pc := 9) C d_T_hasKnownKind_9 rfl 2 rfl ?_
  by_cases hc : x1 = (16 : Int32)
  · have hw := hw.1 hc
    refine swX_T_hasKnownKind_10_16 C hc ?_
    exact tl_sub [0] rfl (B60 _ _ _ hw)
  · have hw := hw.2 hc
    have hc0 := hc
    by_cases hc : x1 = (17 : Int32)
    · have hw := hw.1 hc
      refine swX_T_hasKnownKind_10_17 C hc ?_
      exact tl_sub [0] rfl (B76 _ _ _ hw)
    · have hw := hw.2 hc
      have hc1 := hc
      by_cases hc : x1 = (39 : Int32)
      · have hw := hw.1 hc
        refine swX_T_hasKnownKind_10_39 C hc ?_
        exact tl_sub [0] rfl (B60 _ _ _ hw)
      · have hw := hw.2 hc
        have hc2 := hc
        by_cases hc : x1 = (49 : Int32)
        · have hw := hw.1 hc
          refine swX_T_hasKnownKind_10_49 C hc ?_
          exact tl_sub [0] rfl (B76 _ _ _ hw)
        · have hw := hw.2 hc
          have hc3 := hc
          by_cases hc : x1 = (62 : Int32)
          · have hw := hw.1 hc
            refine swX_T_hasKnownKind_10_62 C hc ?_
            refine tl_iload_n (pc := 87) C d_T_hasKnownKind_87 rfl 0 rfl ?_
            refine tl_if_ne (pc := 88) (tgt := 95) C d_T_hasKnownKind_88 rfl (fun hc => ?_) (fun hc => ?_)
            · have hw := hw.1 hc
              refine tl_iconst (pc := 95) (v := 0) C d_T_hasKnownKind_95 (by decide) ?_
              exact tl_zret (pc := 96) C (by decide) d_T_hasKnownKind_96 hw
            · have hw := hw.2 hc
              refine tl_iconst (pc := 91) (v := 1) C d_T_hasKnownKind_91 (by decide) ?_
              refine tl_goto (pc := 92) (tgt := 96) C d_T_hasKnownKind_92 rfl ?_
              exact tl_zret (pc := 96) C (by decide) d_T_hasKnownKind_96 hw
          · have hw := hw.2 hc
            have hc4 := hc
            refine swX_T_hasKnownKind_10_d C hc0 hc1 hc2 hc3 hc4 ?_
            refine tl_iconst (pc := 97) (v := 1) C d_T_hasKnownKind_97 (by decide) ?_
            exact tl_zret (pc := 98) C (by decide) d_T_hasKnownKind_98 hw
theorem kX_T_hasKnownKind {l : Launch} {R : Room} {nc ns : Nat} {Q : tl_Z → State → Prop} {D : va_G} {q : Nat → Nat} {k : Nat → ClassId} {nL : Nat} {z : tl_Z} {cc : ByteArray} {ret : Option FieldType} {pc : Nat} {lv : List (Nat × Value)} {rest : List Value} {S : SS} {A : AA} {own : String} {idx : Nat} {x1 : Int32} {post : Int32 → SS → AA → Prop} (C : tl_Cx cc nL own ret D (tX k) z) (hw : wX_T_hasKnownKind post S A x1) (hl : Cond.methodLink own idx y_T_hasKnownKind ∈ wsAll) (hdg : decode cc pc = .ok (.invokevirtual idx, 3)) (hf : tl_fit R (tl_R 1) nc ns 3 rest = true) (kk : ∀ (r : Int32) (S1 : SS) (A1 : AA), post r S1 A1 → tl_At l R nc ns Q D (wX q k) nL z (pc + 3) lv (.int r :: rest) (S1, A1)) : tl_At l R nc ns Q D (wX q k) nL z pc lv (.int x1 :: .ref (q 0) :: rest) (S, A) :=
  tl_callVi (n := 1) (As := [.int x1]) (b := q 0) (q0 := 0) (ci := 6) C (fun sz => cX_T_hasKnownKind l D q k sz S A x1 hw) in_324 in_1 in_323 ip_9 (by decide +kernel) rfl ⟨rfl, rfl⟩ rfl rfl hl hf hdg kk
theorem swX_T_hasRightLength_9_39 {σ : Type} {l : Launch} {R : Room} {nc ns : Nat} {Q : tl_Z → State → Prop} {D : va_G} {w : σ → va_W} {nL : Nat} {z : tl_Z} {own : String} {ret : Option FieldType} {tys : List (ClassId × FieldType)} {lv : List (Nat × Value)} {rest : List Value} {u : σ} {x : Int32} (C : tl_Cx b_T_hasRightLength nL own ret D tys z) (hc : x = (39 : Int32)) (kk : tl_At l R nc ns Q D w nL z 92 lv rest u) : tl_At l R nc ns Q D w nL z 9 lv (.int x :: rest) u := by
  subst hc
  obtain ⟨p, e, s, m, args, below, meth, c, F⟩ := z
  obtain ⟨hx, hb, hml, hown, hts, hN, hK, hA, hlk, hr⟩ := C
  exact fun ls H locs hl hP hD hS => lv_tableIn hx hb d_T_hasRightLength_9 (by decide) (by decide) (by decide +kernel : _ = some (83 : Int)) rfl (kk ls H locs hl hP hD hS)
theorem swX_T_hasRightLength_9_46 {σ : Type} {l : Launch} {R : Room} {nc ns : Nat} {Q : tl_Z → State → Prop} {D : va_G} {w : σ → va_W} {nL : Nat} {z : tl_Z} {own : String} {ret : Option FieldType} {tys : List (ClassId × FieldType)} {lv : List (Nat × Value)} {rest : List Value} {u : σ} {x : Int32} (C : tl_Cx b_T_hasRightLength nL own ret D tys z) (hc : x = (46 : Int32)) (kk : tl_At l R nc ns Q D w nL z 119 lv rest u) : tl_At l R nc ns Q D w nL z 9 lv (.int x :: rest) u := by
  subst hc
  obtain ⟨p, e, s, m, args, below, meth, c, F⟩ := z
  obtain ⟨hx, hb, hml, hown, hts, hN, hK, hA, hlk, hr⟩ := C
  exact fun ls H locs hl hP hD hS => lv_tableIn hx hb d_T_hasRightLength_9 (by decide) (by decide) (by decide +kernel : _ = some (110 : Int)) rfl (kk ls H locs hl hP hD hS)
theorem swX_T_hasRightLength_9_49 {σ : Type} {l : Launch} {R : Room} {nc ns : Nat} {Q : tl_Z → State → Prop} {D : va_G} {w : σ → va_W} {nL : Nat} {z : tl_Z} {own : String} {ret : Option FieldType} {tys : List (ClassId × FieldType)} {lv : List (Nat × Value)} {rest : List Value} {u : σ} {x : Int32} (C : tl_Cx b_T_hasRightLength nL own ret D tys z) (hc : x = (49 : Int32)) (kk : tl_At l R nc ns Q D w nL z 130 lv rest u) : tl_At l R nc ns Q D w nL z 9 lv (.int x :: rest) u := by
  subst hc
  obtain ⟨p, e, s, m, args, below, meth, c, F⟩ := z
  obtain ⟨hx, hb, hml, hown, hts, hN, hK, hA, hlk, hr⟩ := C
  exact fun ls H locs hl hP hD hS => lv_tableIn hx hb d_T_hasRightLength_9 (by decide) (by decide) (by decide +kernel : _ = some (121 : Int)) rfl (kk ls H locs hl hP hD hS)
theorem swX_T_hasRightLength_9_52 {σ : Type} {l : Launch} {R : Room} {nc ns : Nat} {Q : tl_Z → State → Prop} {D : va_G} {w : σ → va_W} {nL : Nat} {z : tl_Z} {own : String} {ret : Option FieldType} {tys : List (ClassId × FieldType)} {lv : List (Nat × Value)} {rest : List Value} {u : σ} {x : Int32} (C : tl_Cx b_T_hasRightLength nL own ret D tys z) (hc : x = (52 : Int32)) (kk : tl_At l R nc ns Q D w nL z 119 lv rest u) : tl_At l R nc ns Q D w nL z 9 lv (.int x :: rest) u := by
  subst hc
  obtain ⟨p, e, s, m, args, below, meth, c, F⟩ := z
  obtain ⟨hx, hb, hml, hown, hts, hN, hK, hA, hlk, hr⟩ := C
  exact fun ls H locs hl hP hD hS => lv_tableIn hx hb d_T_hasRightLength_9 (by decide) (by decide) (by decide +kernel : _ = some (110 : Int)) rfl (kk ls H locs hl hP hD hS)
theorem swX_T_hasRightLength_9_54 {σ : Type} {l : Launch} {R : Room} {nc ns : Nat} {Q : tl_Z → State → Prop} {D : va_G} {w : σ → va_W} {nL : Nat} {z : tl_Z} {own : String} {ret : Option FieldType} {tys : List (ClassId × FieldType)} {lv : List (Nat × Value)} {rest : List Value} {u : σ} {x : Int32} (C : tl_Cx b_T_hasRightLength nL own ret D tys z) (hc : x = (54 : Int32)) (kk : tl_At l R nc ns Q D w nL z 158 lv rest u) : tl_At l R nc ns Q D w nL z 9 lv (.int x :: rest) u := by
  subst hc
  obtain ⟨p, e, s, m, args, below, meth, c, F⟩ := z
  obtain ⟨hx, hb, hml, hown, hts, hN, hK, hA, hlk, hr⟩ := C
  exact fun ls H locs hl hP hD hS => lv_tableIn hx hb d_T_hasRightLength_9 (by decide) (by decide) (by decide +kernel : _ = some (149 : Int)) rfl (kk ls H locs hl hP hD hS)
theorem swX_T_hasRightLength_9_55 {σ : Type} {l : Launch} {R : Room} {nc ns : Nat} {Q : tl_Z → State → Prop} {D : va_G} {w : σ → va_W} {nL : Nat} {z : tl_Z} {own : String} {ret : Option FieldType} {tys : List (ClassId × FieldType)} {lv : List (Nat × Value)} {rest : List Value} {u : σ} {x : Int32} (C : tl_Cx b_T_hasRightLength nL own ret D tys z) (hc : x = (55 : Int32)) (kk : tl_At l R nc ns Q D w nL z 175 lv rest u) : tl_At l R nc ns Q D w nL z 9 lv (.int x :: rest) u := by
  subst hc
  obtain ⟨p, e, s, m, args, below, meth, c, F⟩ := z
  obtain ⟨hx, hb, hml, hown, hts, hN, hK, hA, hlk, hr⟩ := C
  exact fun ls H locs hl hP hD hS => lv_tableIn hx hb d_T_hasRightLength_9 (by decide) (by decide) (by decide +kernel : _ = some (166 : Int)) rfl (kk ls H locs hl hP hD hS)
theorem swX_T_hasRightLength_9_d {σ : Type} {l : Launch} {R : Room} {nc ns : Nat} {Q : tl_Z → State → Prop} {D : va_G} {w : σ → va_W} {nL : Nat} {z : tl_Z} {own : String} {ret : Option FieldType} {tys : List (ClassId × FieldType)} {lv : List (Nat × Value)} {rest : List Value} {u : σ} {x : Int32} (C : tl_Cx b_T_hasRightLength nL own ret D tys z) (h0 : ¬ x = (39 : Int32)) (h1 : ¬ x = (46 : Int32)) (h2 : ¬ x = (49 : Int32)) (h3 : ¬ x = (52 : Int32)) (h4 : ¬ x = (54 : Int32)) (h5 : ¬ x = (55 : Int32)) (kk : tl_At l R nc ns Q D w nL z 186 lv rest u) : tl_At l R nc ns Q D w nL z 9 lv (.int x :: rest) u := by
  obtain ⟨p, e, s, m, args, below, meth, c, F⟩ := z
  obtain ⟨hx, hb, hml, hown, hts, hN, hK, hA, hlk, hr⟩ := C
  intro ls H locs hl hP hD hS
  have n0 := lv_neT h0 (show (39 : Int32).toInt = 39 by decide)
  have n1 := lv_neT h1 (show (46 : Int32).toInt = 46 by decide)
  have n2 := lv_neT h2 (show (49 : Int32).toInt = 49 by decide)
  have n3 := lv_neT h3 (show (52 : Int32).toInt = 52 by decide)
  have n4 := lv_neT h4 (show (54 : Int32).toInt = 54 by decide)
  have n5 := lv_neT h5 (show (55 : Int32).toInt = 55 by decide)
  by_cases ha : x.toInt < 39
  · exact lv_tableOut hx hb d_T_hasRightLength_9 (Or.inl ha) rfl (kk ls H locs hl hP hD hS)
  by_cases hz : 55 < x.toInt
  · exact lv_tableOut hx hb d_T_hasRightLength_9 (Or.inr hz) rfl (kk ls H locs hl hP hD hS)
  rcases (show x.toInt = 40 ∨ x.toInt = 41 ∨ x.toInt = 42 ∨ x.toInt = 43 ∨ x.toInt = 44 ∨ x.toInt = 45 ∨ x.toInt = 47 ∨ x.toInt = 48 ∨ x.toInt = 50 ∨ x.toInt = 51 ∨ x.toInt = 53 by omega) with hq | hq | hq | hq | hq | hq | hq | hq | hq | hq | hq <;> exact lv_tableIn (off := 177) hx hb d_T_hasRightLength_9 ha hz (by rw [hq]; decide +kernel) rfl (kk ls H locs hl hP hD hS)
set_option maxHeartbeats 4000000 in
set_option maxRecDepth 100000 in
theorem cX_T_hasRightLength (l : Launch) (D : va_G) (q : Nat → Nat) (k : Nat → ClassId) (sz : Nat) (S : SS) (A : AA) (x1 : Int32) {post : Int32 → SS → AA → Prop} (hw : wX_T_hasRightLength post S A x1) : tl_Met l y_T_hasRightLength b_T_hasRightLength 3 (some .boolean) (tl_R 1) D (wX q k) (tX k) sz [.ref (q 0), .int x1] (S, A) (tl_Qi D (wX q k) (tX k) post) := by
  refine tl_met (own := R_T) (lv := [(0, .ref (q 0)), (1, .int x1)]) (by decide) rfl rfl (Nat.le_of_ble_eq_true rfl) (fun z C => ?_)
  have B149 : ∀ (S : SS) (A : AA) (y0 y1 : Int32), wX_T_hasRightLength_149 post S A y0 y1 → tl_At l (tl_R 1) 0 0 (tl_M 0 0 (tl_Qi D (wX q k) (tX k) post)) D (wX q k) 3 z 149 [] [.int y0, .int y1] (S, A) := by
    intro S A y0 y1 hw
    refine tl_icmp_ne (pc := 149) (tgt := 156) C d_T_hasRightLength_149 rfl (fun hc => ?_) (fun hc => ?_)
    · have hw := hw.1 hc
      refine tl_iconst (pc := 156) (v := 0) C d_T_hasRightLength_156 (by decide) ?_
      exact tl_zret (pc := 157) C (by decide) d_T_hasRightLength_157 hw
    · have hw := hw.2 hc
      refine tl_iconst (pc := 152) (v := 1) C d_T_hasRightLength_152 (by decide) ?_
      refine tl_goto (pc := 153) (tgt := 157) C d_T_hasRightLength_153 rfl ?_
      exact tl_zret (pc := 157) C (by decide) d_T_hasRightLength_157 hw
  have B119 : ∀ (S : SS) (A : AA) (x2 : Int32), wX_T_hasRightLength_119 post S A x2 → tl_At l (tl_R 1) 0 0 (tl_M 0 0 (tl_Qi D (wX q k) (tX k) post)) D (wX q k) 3 z 119 [(2, .int x2)] [] (S, A) := by
    intro S A x2 hw
    refine tl_iload_n (pc := 119) C d_T_hasRightLength_119 rfl 0 rfl ?_
    refine tl_iconst (pc := 120) (v := 3) C d_T_hasRightLength_120 (by decide) ?_
    refine tl_icmp_ne (pc := 121) (tgt := 128) C d_T_hasRightLength_121 rfl (fun hc => ?_) (fun hc => ?_)
    · have hw := hw.1 hc
      refine tl_iconst (pc := 128) (v := 0) C d_T_hasRightLength_128 (by decide) ?_
      exact tl_zret (pc := 129) C (by decide) d_T_hasRightLength_129 hw
    · have hw := hw.2 hc
      refine tl_iconst (pc := 124) (v := 1) C d_T_hasRightLength_124 (by decide) ?_
      refine tl_goto (pc := 125) (tgt := 129) C d_T_hasRightLength_125 rfl ?_
      exact tl_zret (pc := 129) C (by decide) d_T_hasRightLength_129 hw
  have B110 : ∀ (S : SS) (A : AA) (y0 y1 : Int32), wX_T_hasRightLength_110 post S A y0 y1 → tl_At l (tl_R 1) 0 0 (tl_M 0 0 (tl_Qi D (wX q k) (tX k) post)) D (wX q k) 3 z 110 [] [.int y0, .int y1] (S, A) := by
    intro S A y0 y1 hw
    refine tl_icmp_ne (pc := 110) (tgt := 117) C d_T_hasRightLength_110 rfl (fun hc => ?_) (fun hc => ?_)
    · have hw := hw.1 hc
      refine tl_iconst (pc := 117) (v := 0) C d_T_hasRightLength_117 (by decide) ?_
      exact tl_zret (pc := 118) C (by decide) d_T_hasRightLength_118 hw
    · have hw := hw.2 hc
      refine tl_iconst (pc := 113) (v := 1) C d_T_hasRightLength_113 (by decide) ?_
      refine tl_goto (pc := 114) (tgt := 118) C d_T_hasRightLength_114 rfl ?_
      exact tl_zret (pc := 118) C (by decide) d_T_hasRightLength_118 hw
  refine tl_aload_n (pc := 0) C d_T_hasRightLength_0 rfl 0 rfl ?_
  refine gX_T_19 (pc := 1) C d_T_hasRightLength_1 ?_
  refine gX_T_208 (pc := 4) (v := (S 7)) C rfl d_T_hasRightLength_4 ?_
  refine tl_istore_n (pc := 7) (lv' := [(2, .int (S 7)), (0, .ref (q 0)), (1, .int x1)]) C d_T_hasRightLength_7 rfl (by decide) rfl ?_
  refine tl_iload_n (pc := 8) C d_T_hasRightLength_8 rfl 2 rfl ?_
  by_cases hc : x1 = (39 : Int32)
  · have hw := hw.1 hc
    refine swX_T_hasRightLength_9_39 C hc ?_
    refine tl_iload_n (pc := 92) C d_T_hasRightLength_92 rfl 0 rfl ?_
    refine tl_aload_n (pc := 93) C d_T_hasRightLength_93 rfl 1 rfl ?_
    refine gX_T_19 (pc := 94) C d_T_hasRightLength_94 ?_
    refine tl_iconst (pc := 97) (v := 1) C d_T_hasRightLength_97 (by decide) ?_
    refine kX_Rc_at (pc := 98) C hw ml_T_174 d_T_hasRightLength_98 rfl (fun r98 S98 A98 hw => ?_)
    refine tl_iconst (pc := 101) (v := 2) C d_T_hasRightLength_101 (by decide) ?_
    refine tl_icmp_ne (pc := 102) (tgt := 109) C d_T_hasRightLength_102 rfl (fun hc => ?_) (fun hc => ?_)
    · have hw := hw.1 hc
      refine tl_iconst (pc := 109) (v := 2) C d_T_hasRightLength_109 (by decide) ?_
      exact tl_sub [] rfl (B110 _ _ _ _ hw)
    · have hw := hw.2 hc
      refine tl_iconst (pc := 105) (v := 3) C d_T_hasRightLength_105 (by decide) ?_
      refine tl_goto (pc := 106) (tgt := 110) C d_T_hasRightLength_106 rfl ?_
      exact tl_sub [] rfl (B110 _ _ _ _ hw)
  · have hw := hw.2 hc
    have hc0 := hc
    by_cases hc : x1 = (46 : Int32)
    · have hw := hw.1 hc
      refine swX_T_hasRightLength_9_46 C hc ?_
      exact tl_sub [0] rfl (B119 _ _ _ hw)
    · have hw := hw.2 hc
      have hc1 := hc
      by_cases hc : x1 = (49 : Int32)
      · have hw := hw.1 hc
        refine swX_T_hasRightLength_9_49 C hc ?_
        refine tl_iload_n (pc := 130) C d_T_hasRightLength_130 rfl 0 rfl ?_
        refine tl_aload_n (pc := 131) C d_T_hasRightLength_131 rfl 1 rfl ?_
        refine gX_T_19 (pc := 132) C d_T_hasRightLength_132 ?_
        refine tl_iconst (pc := 135) (v := 2) C d_T_hasRightLength_135 (by decide) ?_
        refine kX_Rc_at (pc := 136) C hw ml_T_174 d_T_hasRightLength_136 rfl (fun r136 S136 A136 hw => ?_)
        refine tl_iconst (pc := 139) (v := 2) C d_T_hasRightLength_139 (by decide) ?_
        refine tl_icmp_ne (pc := 140) (tgt := 148) C d_T_hasRightLength_140 rfl (fun hc => ?_) (fun hc => ?_)
        · have hw := hw.1 hc
          refine tl_iconst (pc := 148) (v := 4) C d_T_hasRightLength_148 (by decide) ?_
          exact tl_sub [] rfl (B149 _ _ _ _ hw)
        · have hw := hw.2 hc
          refine tl_bipush (pc := 143) (v := 6) C d_T_hasRightLength_143 (by decide) ?_
          refine tl_goto (pc := 145) (tgt := 149) C d_T_hasRightLength_145 rfl ?_
          exact tl_sub [] rfl (B149 _ _ _ _ hw)
      · have hw := hw.2 hc
        have hc2 := hc
        by_cases hc : x1 = (52 : Int32)
        · have hw := hw.1 hc
          refine swX_T_hasRightLength_9_52 C hc ?_
          exact tl_sub [0] rfl (B119 _ _ _ hw)
        · have hw := hw.2 hc
          have hc3 := hc
          by_cases hc : x1 = (54 : Int32)
          · have hw := hw.1 hc
            refine swX_T_hasRightLength_9_54 C hc ?_
            refine tl_iload_n (pc := 158) C d_T_hasRightLength_158 rfl 0 rfl ?_
            refine tl_iconst (pc := 159) (v := 3) C d_T_hasRightLength_159 (by decide) ?_
            refine tl_icmp_lt (pc := 160) (tgt := 173) C d_T_hasRightLength_160 rfl (fun hc => ?_) (fun hc => ?_)
            · have hw := hw.1 hc
              refine tl_iconst (pc := 173) (v := 0) C d_T_hasRightLength_173 (by decide) ?_
              exact tl_zret (pc := 174) C (by decide) d_T_hasRightLength_174 hw
            · have hw := hw.2 hc
              refine tl_iload_n (pc := 163) C d_T_hasRightLength_163 rfl 0 rfl ?_
              refine tl_bipush (pc := 164) (v := 10) C d_T_hasRightLength_164 (by decide) ?_
              refine tl_icmp_gt (pc := 166) (tgt := 173) C d_T_hasRightLength_166 rfl (fun hc => ?_) (fun hc => ?_)
              · have hw := hw.1 hc
                refine tl_iconst (pc := 173) (v := 0) C d_T_hasRightLength_173 (by decide) ?_
                exact tl_zret (pc := 174) C (by decide) d_T_hasRightLength_174 hw
              · have hw := hw.2 hc
                refine tl_iconst (pc := 169) (v := 1) C d_T_hasRightLength_169 (by decide) ?_
                refine tl_goto (pc := 170) (tgt := 174) C d_T_hasRightLength_170 rfl ?_
                exact tl_zret (pc := 174) C (by decide) d_T_hasRightLength_174 hw
          · have hw := hw.2 hc
            have hc4 := hc
            by_cases hc : x1 = (55 : Int32)
            · have hw := hw.1 hc
              refine swX_T_hasRightLength_9_55 C hc ?_
              refine tl_iload_n (pc := 175) C d_T_hasRightLength_175 rfl 0 rfl ?_
              refine tl_iconst (pc := 176) (v := 1) C d_T_hasRightLength_176 (by decide) ?_
              refine tl_icmp_ne (pc := 177) (tgt := 184) C d_T_hasRightLength_177 rfl (fun hc => ?_) (fun hc => ?_)
              · have hw := hw.1 hc
                refine tl_iconst (pc := 184) (v := 0) C d_T_hasRightLength_184 (by decide) ?_
                exact tl_zret (pc := 185) C (by decide) d_T_hasRightLength_185 hw
              · have hw := hw.2 hc
                refine tl_iconst (pc := 180) (v := 1) C d_T_hasRightLength_180 (by decide) ?_
                refine tl_goto (pc := 181) (tgt := 185) C d_T_hasRightLength_181 rfl ?_
                exact tl_zret (pc := 185) C (by decide) d_T_hasRightLength_185 hw
            · have hw := hw.2 hc
              have hc5 := hc
              refine swX_T_hasRightLength_9_d C hc0 hc1 hc2 hc3 hc4 hc5 ?_
              refine tl_iload_n (pc := 186) C d_T_hasRightLength_186 rfl 0 rfl ?_
              refine tl_iconst (pc := 187) (v := 2) C d_T_hasRightLength_187 (by decide) ?_
              refine tl_icmp_ne (pc := 188) (tgt := 195) C d_T_hasRightLength_188 rfl (fun hc => ?_) (fun hc => ?_)
              · have hw := hw.1 hc
                refine tl_iconst (pc := 195) (v := 0) C d_T_hasRightLength_195 (by decide) ?_
                exact tl_zret (pc := 196) C (by decide) d_T_hasRightLength_196 hw
              · have hw := hw.2 hc
                refine tl_iconst (pc := 191) (v := 1) C d_T_hasRightLength_191 (by decide) ?_
                refine tl_goto (pc := 192) (tgt := 196) C d_T_hasRightLength_192 rfl ?_
                exact tl_zret (pc := 196) C (by decide) d_T_hasRightLength_196 hw
