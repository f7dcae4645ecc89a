set_option maxHeartbeats 4000000 in
set_option maxRecDepth 100000 in
theorem cN_Mm_sumOf (l : Launch) (D : va_G) (q : Nat → Nat) (k : Nat → ClassId) (sz : Nat) (S : SS) (A : AA) (x1 : Int32) {post : Int32 → SS → AA → Prop} (hw : wN_Mm_sumOf post S A x1) : tl_Met l y_Mm_sumOf b_Mm_sumOf 7 (some .int) (tl_R 0) D (wN q k) (tN k) sz [.ref (q 0), .int x1] (S, A) (tl_Qi D (wN q k) (tN k) post) := by
  refine tl_met (own := R_Mm) (lv := [(0, .ref (q 0)), (1, .int x1)]) (by decide) rfl rfl (Nat.le_of_ble_eq_true rfl) (fun z C => ?_)
  have B18 : ∀ (S : SS) (A : AA) (x2 x3 x4 : Int32), wN_Mm_sumOf_18 post S A x2 x3 x4 → tl_At l (tl_R 0) 0 0 (tl_M 0 0 (tl_Qi D (wN q k) (tN k) post)) D (wN q k) 7 z 18 [(0, .ref (q 0)), (2, .int x2), (3, .int x3), (4, .int x4)] [] (S, A) := by
    intro S A x2 x3 x4 hw
    have key : ∀ X18 : SS → AA → Int32 → Int32 → Int32 → Prop, (∀ (S : SS) (A : AA) (x2 x3 x4 : Int32), X18 S A x2 x3 x4 → tl_At l (tl_R 0) 0 0 (tl_M 0 0 (tl_Qi D (wN q k) (tN k) post)) D (wN q k) 7 z 18 [(0, .ref (q 0)), (2, .int x2), (3, .int x3), (4, .int x4)] [] (S, A)) → ∀ (S : SS) (A : AA) (x2 x3 x4 : Int32), wN_Mm_sumOf_18B post X18 S A x2 x3 x4 → tl_At l (tl_R 0) 0 0 (tl_M 0 0 (tl_Qi D (wN q k) (tN k) post)) D (wN q k) 7 z 18 [(0, .ref (q 0)), (2, .int x2), (3, .int x3), (4, .int x4)] [] (S, A) := by
      intro X18 hX18 S A x2 x3 x4 hw
      have B43 : ∀ (S : SS) (A : AA) (x2 x3 x4 x5 : Int32), wN_Mm_sumOf_43 post X18 S A x2 x3 x4 x5 → tl_At l (tl_R 0) 0 0 (tl_M 0 0 (tl_Qi D (wN q k) (tN k) post)) D (wN q k) 7 z 43 [(0, .ref (q 0)), (2, .int x2), (3, .int x3), (4, .int x4), (5, .int x5)] [] (S, A) := by
        intro S A x2 x3 x4 x5 hw
        have key : ∀ X43 : SS → AA → Int32 → Int32 → Int32 → Int32 → Prop, (∀ (S : SS) (A : AA) (x2 x3 x4 x5 : Int32), X43 S A x2 x3 x4 x5 → tl_At l (tl_R 0) 0 0 (tl_M 0 0 (tl_Qi D (wN q k) (tN k) post)) D (wN q k) 7 z 43 [(0, .ref (q 0)), (2, .int x2), (3, .int x3), (4, .int x4), (5, .int x5)] [] (S, A)) → ∀ (S : SS) (A : AA) (x2 x3 x4 x5 : Int32), wN_Mm_sumOf_43B post X18 X43 S A x2 x3 x4 x5 → tl_At l (tl_R 0) 0 0 (tl_M 0 0 (tl_Qi D (wN q k) (tN k) post)) D (wN q k) 7 z 43 [(0, .ref (q 0)), (2, .int x2), (3, .int x3), (4, .int x4), (5, .int x5)] [] (S, A) := by
          intro X43 hX43 S A x2 x3 x4 x5 hw
          have B76 : ∀ (S : SS) (A : AA) (x2 x4 x5 y0 : Int32), wN_Mm_sumOf_76 post X18 X43 S A x2 x4 x5 y0 → tl_At l (tl_R 0) 0 0 (tl_M 0 0 (tl_Qi D (wN q k) (tN k) post)) D (wN q k) 7 z 76 [(0, .ref (q 0)), (2, .int x2), (4, .int x4), (5, .int x5)] [.int y0] (S, A) := by
            intro S A x2 x4 x5 y0 hw
            refine tl_istore_n (pc := 76) (lv' := [(3, .int y0), (0, .ref (q 0)), (2, .int x2), (4, .int x4), (5, .int x5)]) C d_Mm_sumOf_76 rfl (by decide) rfl ?_
            refine tl_iinc (pc := 77) (lv' := [(5, .int (x5 + (1 : Int32))), (3, .int y0), (0, .ref (q 0)), (2, .int x2), (4, .int x4)]) C d_Mm_sumOf_77 (by decide) 4 rfl rfl (by decide) rfl ?_
            refine tl_goto (pc := 80) (tgt := 43) C d_Mm_sumOf_80 rfl ?_
            exact tl_sub [2, 3, 1, 4, 0] rfl (hX43 _ _ _ _ _ _ hw)
          refine tl_iload (pc := 43) C d_Mm_sumOf_43 4 rfl ?_
          refine tl_bipush (pc := 45) (v := 8) C d_Mm_sumOf_45 (by decide) ?_
          refine tl_icmp_ge (pc := 47) (tgt := 83) C d_Mm_sumOf_47 rfl (fun hc => ?_) (fun hc => ?_)
          · have hw := hw.1 hc
            refine tl_iinc (pc := 83) (lv' := [(4, .int (x4 + (1 : Int32))), (0, .ref (q 0)), (2, .int x2), (3, .int x3), (5, .int x5)]) C d_Mm_sumOf_83 (by decide) 3 rfl rfl (by decide) rfl ?_
            refine tl_goto (pc := 86) (tgt := 18) C d_Mm_sumOf_86 rfl ?_
            exact tl_sub [1, 2, 3, 0] rfl (hX18 _ _ _ _ _ hw)
          · have hw := hw.2 hc
            refine tl_iload_n (pc := 50) C d_Mm_sumOf_50 rfl 2 rfl ?_
            refine tl_iconst (pc := 51) (v := 1) C d_Mm_sumOf_51 (by decide) ?_
            refine tl_ishl (pc := 52) C d_Mm_sumOf_52 ?_
            refine tl_ldc (pc := 53) (v := 65535) C in_28 d_Mm_sumOf_53 ?_
            refine tl_iand (pc := 55) C d_Mm_sumOf_55 ?_
            refine tl_istore (pc := 56) (lv' := [(6, .int ((x3 <<< ((1 : Int32) &&& 31)) &&& (65535 : Int32))), (0, .ref (q 0)), (2, .int x2), (3, .int x3), (4, .int x4), (5, .int x5)]) C d_Mm_sumOf_56 (by decide) rfl ?_
            refine tl_iload_n (pc := 58) C d_Mm_sumOf_58 rfl 3 rfl ?_
            refine tl_ldc (pc := 59) (v := 32768) C in_29 d_Mm_sumOf_59 ?_
            refine tl_iand (pc := 61) C d_Mm_sumOf_61 ?_
            refine tl_if_eq (pc := 62) (tgt := 74) C d_Mm_sumOf_62 rfl (fun hc => ?_) (fun hc => ?_)
            · have hw := hw.1 hc
              refine tl_iload (pc := 74) C d_Mm_sumOf_74 0 rfl ?_
              exact tl_sub [1, 2, 4, 5] rfl (B76 _ _ _ _ _ _ hw)
            · have hw := hw.2 hc
              refine tl_iload (pc := 65) C d_Mm_sumOf_65 0 rfl ?_
              refine tl_sipush (pc := 67) (v := 4129) C d_Mm_sumOf_67 (by decide) ?_
              refine tl_ixor (pc := 70) C d_Mm_sumOf_70 ?_
              refine tl_goto (pc := 71) (tgt := 76) C d_Mm_sumOf_71 rfl ?_
              exact tl_sub [1, 2, 4, 5] rfl (B76 _ _ _ _ _ _ hw)
        exact hw _ (fun S A x2 x3 x4 x5 hb => key _ (fun _ _ _ _ _ _ h => h) S A x2 x3 x4 x5 hb)
      refine tl_iload (pc := 18) C d_Mm_sumOf_18 3 rfl ?_
      refine tl_iload_n (pc := 20) C d_Mm_sumOf_20 rfl 1 rfl ?_
      refine tl_bipush (pc := 21) (v := 32) C d_Mm_sumOf_21 (by decide) ?_
      refine tl_iadd (pc := 23) C d_Mm_sumOf_23 ?_
      refine tl_icmp_ge (pc := 24) (tgt := 89) C d_Mm_sumOf_24 rfl (fun hc => ?_) (fun hc => ?_)
      · have hw := hw.1 hc
        refine tl_iload_n (pc := 89) C d_Mm_sumOf_89 rfl 2 rfl ?_
        exact tl_iret (pc := 90) C d_Mm_sumOf_90 hw
      · have hw := hw.2 hc
        refine tl_iload_n (pc := 27) C d_Mm_sumOf_27 rfl 2 rfl ?_
        refine tl_aload_n (pc := 28) C d_Mm_sumOf_28 rfl 0 rfl ?_
        refine gN_Mm_11 (pc := 29) C d_Mm_sumOf_29 ?_
        refine tl_iload (pc := 32) C d_Mm_sumOf_32 3 rfl ?_
        obtain ⟨hi, hw⟩ := hw
        refine rN_ald0 (pc := 34) (f := (A 0)) C rfl hi d_Mm_sumOf_34 ?_
        refine tl_bipush (pc := 35) (v := 8) C d_Mm_sumOf_35 (by decide) ?_
        refine tl_ishl (pc := 37) C d_Mm_sumOf_37 ?_
        refine tl_ixor (pc := 38) C d_Mm_sumOf_38 ?_
        refine tl_istore_n (pc := 39) (lv' := [(3, .int (x3 ^^^ (((A 0) x4.toNatClampNeg) <<< ((8 : Int32) &&& 31)))), (0, .ref (q 0)), (2, .int x2), (4, .int x4)]) C d_Mm_sumOf_39 rfl (by decide) rfl ?_
        refine tl_iconst (pc := 40) (v := 0) C d_Mm_sumOf_40 (by decide) ?_
        refine tl_istore (pc := 41) (lv' := [(5, .int (0 : Int32)), (3, .int (x3 ^^^ (((A 0) x4.toNatClampNeg) <<< ((8 : Int32) &&& 31)))), (0, .ref (q 0)), (2, .int x2), (4, .int x4)]) C d_Mm_sumOf_41 (by decide) rfl ?_
        exact tl_sub [2, 3, 1, 4, 0] rfl (B43 _ _ _ _ _ _ hw)
    exact hw _ (fun S A x2 x3 x4 hb => key _ (fun _ _ _ _ _ h => h) S A x2 x3 x4 hb)
  have B11 : ∀ (S : SS) (A : AA) (y0 : Int32), wN_Mm_sumOf_11 post S A y0 → tl_At l (tl_R 0) 0 0 (tl_M 0 0 (tl_Qi D (wN q k) (tN k) post)) D (wN q k) 7 z 11 [(0, .ref (q 0))] [.int y0] (S, A) := by
    intro S A y0 hw
    refine tl_istore_n (pc := 11) (lv' := [(2, .int y0), (0, .ref (q 0))]) C d_Mm_sumOf_11 rfl (by decide) rfl ?_
    refine tl_ldc (pc := 12) (v := 65535) C in_28 d_Mm_sumOf_12 ?_
    refine tl_istore_n (pc := 14) (lv' := [(3, .int (65535 : Int32)), (2, .int y0), (0, .ref (q 0))]) C d_Mm_sumOf_14 rfl (by decide) rfl ?_
    refine tl_iload_n (pc := 15) C d_Mm_sumOf_15 rfl 1 rfl ?_
    refine tl_istore (pc := 16) (lv' := [(4, .int y0), (3, .int (65535 : Int32)), (2, .int y0), (0, .ref (q 0))]) C d_Mm_sumOf_16 (by decide) rfl ?_
    exact tl_sub [3, 2, 1, 0] rfl (B18 _ _ _ _ _ hw)
  refine tl_iload_n (pc := 0) C d_Mm_sumOf_0 rfl 1 rfl ?_
  refine tl_iconst (pc := 1) (v := 1) C d_Mm_sumOf_1 (by decide) ?_
  refine tl_icmp_ne (pc := 2) (tgt := 10) C d_Mm_sumOf_2 rfl (fun hc => ?_) (fun hc => ?_)
  · have hw := hw.1 hc
    refine tl_iconst (pc := 10) (v := 0) C d_Mm_sumOf_10 (by decide) ?_
    exact tl_sub [0] rfl (B11 _ _ _ hw)
  · have hw := hw.2 hc
    refine tl_bipush (pc := 5) (v := 48) C d_Mm_sumOf_5 (by decide) ?_
    refine tl_goto (pc := 7) (tgt := 11) C d_Mm_sumOf_7 rfl ?_
    exact tl_sub [0] rfl (B11 _ _ _ hw)
theorem kN_Mm_sumOf {l : Launch} {R : Room} {nc ns : Nat} {Q : tl_Z → State → Prop} {D : va_G} {q : Nat → Nat} {k : Nat → ClassId} {nL : Nat} {z : tl_Z} {cc : ByteArray} {ret : Option FieldType} {pc : Nat} {lv : List (Nat × Value)} {rest : List Value} {S : SS} {A : AA} {own : String} {idx : Nat} {x1 : Int32} {post : Int32 → SS → AA → Prop} (C : tl_Cx cc nL own ret D (tN k) z) (hw : wN_Mm_sumOf post S A x1) (hl : Cond.methodLink own idx y_Mm_sumOf ∈ wsAll) (hdg : decode cc pc = .ok (.invokevirtual idx, 3)) (hf : tl_fit R (tl_R 0) nc ns 7 rest = true) (kk : ∀ (r : Int32) (S1 : SS) (A1 : AA), post r S1 A1 → tl_At l R nc ns Q D (wN q k) nL z (pc + 3) lv (.int r :: rest) (S1, A1)) : tl_At l R nc ns Q D (wN q k) nL z pc lv (.int x1 :: .ref (q 0) :: rest) (S, A) :=
  tl_callVi (n := 1) (As := [.int x1]) (b := q 0) (q0 := 0) (ci := 2) C (fun sz => cN_Mm_sumOf l D q k sz S A x1 hw) in_27 in_2 in_25 in_26 (by decide +kernel) rfl ⟨rfl, rfl⟩ rfl rfl hl hf hdg kk
set_option maxHeartbeats 4000000 in
set_option maxRecDepth 100000 in
theorem cN_Mm_headerOf (l : Launch) (D : va_G) (q : Nat → Nat) (k : Nat → ClassId) (sz : Nat) (S : SS) (A : AA) (x0 : Int32) {post : Int32 → SS → AA → Prop} (hw : wN_Mm_headerOf post S A x0) : tl_Met l y_Mm_headerOf b_Mm_headerOf 1 (some .int) (tl_R 0) D (wN q k) (tN k) sz [.int x0] (S, A) (tl_Qi D (wN q k) (tN k) post) := by
  refine tl_met (own := R_Mm) (lv := [(0, .int x0)]) (by decide) rfl rfl (Nat.le_of_ble_eq_true rfl) (fun z C => ?_)
  refine tl_iload_n (pc := 0) C d_Mm_headerOf_0 rfl 0 rfl ?_
  refine tl_bipush (pc := 1) (v := 48) C d_Mm_headerOf_1 (by decide) ?_
  refine tl_imul (pc := 3) C d_Mm_headerOf_3 ?_
  refine tl_bipush (pc := 4) (v := 32) C d_Mm_headerOf_4 (by decide) ?_
  refine tl_iadd (pc := 6) C d_Mm_headerOf_6 ?_
  exact tl_iret (pc := 7) C d_Mm_headerOf_7 hw
theorem kN_Mm_headerOf {l : Launch} {R : Room} {nc ns : Nat} {Q : tl_Z → State → Prop} {D : va_G} {q : Nat → Nat} {k : Nat → ClassId} {nL : Nat} {z : tl_Z} {cc : ByteArray} {ret : Option FieldType} {pc : Nat} {lv : List (Nat × Value)} {rest : List Value} {S : SS} {A : AA} {own : String} {idx : Nat} {x0 : Int32} {post : Int32 → SS → AA → Prop} (C : tl_Cx cc nL own ret D (tN k) z) (hw : wN_Mm_headerOf post S A x0) (hl : Cond.methodLink own idx y_Mm_headerOf ∈ wsAll) (hdg : decode cc pc = .ok (.invokestatic idx, 3)) (hf : tl_fit R (tl_R 0) nc ns 1 rest = true) (kk : ∀ (r : Int32) (S1 : SS) (A1 : AA), post r S1 A1 → tl_At l R nc ns Q D (wN q k) nL z (pc + 3) lv (.int r :: rest) (S1, A1)) : tl_At l R nc ns Q D (wN q k) nL z pc lv (.int x0 :: rest) (S, A) :=
  tl_callSi (n := 1) (As := [.int x0]) C (fun sz => cN_Mm_headerOf l D q k sz S A x0 hw) in_32 in_2 in_31 (by decide +kernel) rfl ⟨rfl, rfl⟩ hl hf hdg kk
set_option maxHeartbeats 4000000 in
set_option maxRecDepth 100000 in
theorem aN_Mm_init (l : Launch) (D : va_G) (q : Nat → Nat) (k : Nat → ClassId) (S : SS) (A : AA) {post : SS → AA → Prop} {z : tl_Z} (C : tl_Cx b_Mm_init 3 R_Mm none D (tN k) z) (hw : wN_Mm_init post S A) : tl_At l (tl_Rc 1 1 96) 1 96 (tl_M 1 96 (tl_Qv D (wN q k) (tN k) post)) D (wN q k) 3 z 12 [(0, .ref (q 0))] [] (S, A) := by
  have B14 : ∀ (S : SS) (A : AA) (x1 : Int32), wN_Mm_init_14 post S A x1 → tl_At l (tl_Rc 1 1 96) 1 96 (tl_M 1 96 (tl_Qv D (wN q k) (tN k) post)) D (wN q k) 3 z 14 [(0, .ref (q 0)), (1, .int x1)] [] (S, A) := by
    intro S A x1 hw
    have key : ∀ X14 : SS → AA → Int32 → Prop, (∀ (S : SS) (A : AA) (x1 : Int32), X14 S A x1 → tl_At l (tl_Rc 1 1 96) 1 96 (tl_M 1 96 (tl_Qv D (wN q k) (tN k) post)) D (wN q k) 3 z 14 [(0, .ref (q 0)), (1, .int x1)] [] (S, A)) → ∀ (S : SS) (A : AA) (x1 : Int32), wN_Mm_init_14B post X14 S A x1 → tl_At l (tl_Rc 1 1 96) 1 96 (tl_M 1 96 (tl_Qv D (wN q k) (tN k) post)) D (wN q k) 3 z 14 [(0, .ref (q 0)), (1, .int x1)] [] (S, A) := by
      intro X14 hX14 S A x1 hw
      have B38 : ∀ (S : SS) (A : AA) (x1 y0 y1 : Int32), wN_Mm_init_38 post X14 S A x1 y0 y1 → tl_At l (tl_Rc 1 1 96) 1 96 (tl_M 1 96 (tl_Qv D (wN q k) (tN k) post)) D (wN q k) 3 z 38 [(0, .ref (q 0)), (1, .int x1)] [.int y0, .int y1, .ref (q 1)] (S, A) := by
        intro S A x1 y0 y1 hw
        obtain ⟨hi, hw⟩ := hw
        refine rN_ast0 (pc := 38) (f := (A 0)) C rfl hi d_Mm_init_38 ?_
        refine tl_iinc (pc := 39) (lv' := [(1, .int (x1 + (1 : Int32))), (0, .ref (q 0))]) C d_Mm_init_39 (by decide) 1 rfl rfl (by decide) rfl ?_
        refine tl_goto (pc := 42) (tgt := 14) C d_Mm_init_42 rfl ?_
        exact tl_sub [1, 0] rfl (hX14 _ _ _ hw)
      refine tl_iload_n (pc := 14) C d_Mm_init_14 rfl 1 rfl ?_
      refine tl_bipush (pc := 15) (v := 96) C d_Mm_init_15 (by decide) ?_
      refine tl_icmp_ge (pc := 17) (tgt := 45) C d_Mm_init_17 rfl (fun hc => ?_) (fun hc => ?_)
      · have hw := hw.1 hc
        refine tl_aload_n (pc := 45) C d_Mm_init_45 rfl 0 rfl ?_
        refine tl_iconst (pc := 46) (v := 0) C d_Mm_init_46 (by decide) ?_
        refine kN_Mm_sumOf (pc := 47) C hw ml_Mm_15 d_Mm_init_47 rfl (fun r47 S47 A47 hw => ?_)
        refine tl_istore_n (pc := 50) (lv' := [(1, .int r47), (0, .ref (q 0))]) C d_Mm_init_50 rfl (by decide) rfl ?_
        refine tl_iconst (pc := 51) (v := 0) C d_Mm_init_51 (by decide) ?_
        refine kN_Mm_headerOf (pc := 52) C hw ml_Mm_19 d_Mm_init_52 rfl (fun r52 S52 A52 hw => ?_)
        refine tl_istore_n (pc := 55) (lv' := [(2, .int r52), (1, .int r47), (0, .ref (q 0))]) C d_Mm_init_55 rfl (by decide) rfl ?_
        refine tl_aload_n (pc := 56) C d_Mm_init_56 rfl 2 rfl ?_
        refine gN_Mm_11 (pc := 57) C d_Mm_init_57 ?_
        refine tl_iload_n (pc := 60) C d_Mm_init_60 rfl 0 rfl ?_
        refine tl_iconst (pc := 61) (v := 0) C d_Mm_init_61 (by decide) ?_
        obtain ⟨hi, hw⟩ := hw
        refine rN_ast0 (pc := 62) (f := (A52 0)) C rfl hi d_Mm_init_62 ?_
        refine tl_aload_n (pc := 63) C d_Mm_init_63 rfl 2 rfl ?_
        refine gN_Mm_11 (pc := 64) C d_Mm_init_64 ?_
        refine tl_iload_n (pc := 67) C d_Mm_init_67 rfl 0 rfl ?_
        refine tl_iconst (pc := 68) (v := 1) C d_Mm_init_68 (by decide) ?_
        refine tl_iadd (pc := 69) C d_Mm_init_69 ?_
        refine tl_iconst (pc := 70) (v := 1) C d_Mm_init_70 (by decide) ?_
        obtain ⟨hi, hw⟩ := hw
        refine rN_ast0 (pc := 71) (f := (upd (A52 0) r52.toNatClampNeg (0 : Int32))) C rfl hi d_Mm_init_71 ?_
        refine tl_aload_n (pc := 72) C d_Mm_init_72 rfl 2 rfl ?_
        refine gN_Mm_11 (pc := 73) C d_Mm_init_73 ?_
        refine tl_iload_n (pc := 76) C d_Mm_init_76 rfl 0 rfl ?_
        refine tl_iconst (pc := 77) (v := 2) C d_Mm_init_77 (by decide) ?_
        refine tl_iadd (pc := 78) C d_Mm_init_78 ?_
        refine tl_iload_n (pc := 79) C d_Mm_init_79 rfl 1 rfl ?_
        refine tl_bipush (pc := 80) (v := 8) C d_Mm_init_80 (by decide) ?_
        refine tl_iushr (pc := 82) C d_Mm_init_82 ?_
        obtain ⟨hi, hw⟩ := hw
        refine rN_ast0 (pc := 83) (f := (upd (upd (A52 0) r52.toNatClampNeg (0 : Int32)) (r52 + (1 : Int32)).toNatClampNeg (1 : Int32))) C rfl hi d_Mm_init_83 ?_
        refine tl_aload_n (pc := 84) C d_Mm_init_84 rfl 2 rfl ?_
        refine gN_Mm_11 (pc := 85) C d_Mm_init_85 ?_
        refine tl_iload_n (pc := 88) C d_Mm_init_88 rfl 0 rfl ?_
        refine tl_iconst (pc := 89) (v := 3) C d_Mm_init_89 (by decide) ?_
        refine tl_iadd (pc := 90) C d_Mm_init_90 ?_
        refine tl_iload_n (pc := 91) C d_Mm_init_91 rfl 1 rfl ?_
        refine tl_sipush (pc := 92) (v := 255) C d_Mm_init_92 (by decide) ?_
        refine tl_iand (pc := 95) C d_Mm_init_95 ?_
        obtain ⟨hi, hw⟩ := hw
        refine rN_ast0 (pc := 96) (f := (upd (upd (upd (A52 0) r52.toNatClampNeg (0 : Int32)) (r52 + (1 : Int32)).toNatClampNeg (1 : Int32)) (r52 + (2 : Int32)).toNatClampNeg (r47.toUInt32 >>> ((8 : Int32).toUInt32 &&& Int32.toUInt32 31)).toInt32)) C rfl hi d_Mm_init_96 ?_
        exact tl_vret (pc := 97) C d_Mm_init_97 hw
      · have hw := hw.2 hc
        refine tl_aload_n (pc := 20) C d_Mm_init_20 rfl 0 rfl ?_
        refine gN_Mm_11 (pc := 21) C d_Mm_init_21 ?_
        refine tl_iload_n (pc := 24) C d_Mm_init_24 rfl 1 rfl ?_
        refine tl_iload_n (pc := 25) C d_Mm_init_25 rfl 1 rfl ?_
        refine tl_bipush (pc := 26) (v := 32) C d_Mm_init_26 (by decide) ?_
        refine tl_icmp_ge (pc := 28) (tgt := 35) C d_Mm_init_28 rfl (fun hc => ?_) (fun hc => ?_)
        · have hw := hw.1 hc
          refine tl_sipush (pc := 35) (v := 255) C d_Mm_init_35 (by decide) ?_
          exact tl_sub [0, 1] rfl (B38 _ _ _ _ _ hw)
        · have hw := hw.2 hc
          refine tl_iload_n (pc := 31) C d_Mm_init_31 rfl 1 rfl ?_
          refine tl_goto (pc := 32) (tgt := 38) C d_Mm_init_32 rfl ?_
          exact tl_sub [0, 1] rfl (B38 _ _ _ _ _ hw)
    exact hw _ (fun S A x1 hb => key _ (fun _ _ _ h => h) S A x1 hb)
  refine tl_iconst (pc := 12) (v := 0) C d_Mm_init_12 (by decide) ?_
  refine tl_istore_n (pc := 13) (lv' := [(1, .int (0 : Int32)), (0, .ref (q 0))]) C d_Mm_init_13 rfl (by decide) rfl ?_
  exact tl_sub [1, 0] rfl (B14 _ _ _ hw)
