def tl_P0 (D : va_G) (sz : Nat) (ws : va_W) (U : State) : Prop := U.heap.size = sz ∧ va_P D vwCl ws U.heap ∧ va_K D vwCl [] U ∧ va_D (fun _ => True) ws ∧ tl_NS U
theorem tl_blind0 {av : List Value} {D : va_G} {sz : Nat} {ws : va_W} : FrameBlind (va_Pc av (tl_P0 D sz ws)) := by
  intro a U g mk q
  obtain ⟨q0, q1, qP, qK, qD, qN⟩ := q
  exact ⟨q0, q1, qP, va_K.moved (u := U) (U := U.calling g mk a) (Vm.Alike.refl U.vm) qK, qD, tl_NS.same (u := U) (U := U.calling g mk a) rfl qN⟩
theorem tl_Wmono {p : Program} {l : Launch} {e : Env} {R : Room} {s : State} {m : MethodId} {args : Array Value} {below : List Frame} {meth : Method} {c : Code} {H : Heap} {locs : List Loc} {cells slots : Nat} {Q Q1 : State → Prop} {g : JFrame} (h : ∀ t, Q t → Q1 t) (k : W p l e R s m args below meth c H locs cells slots Q g) : W p l e R s m args below meth c H locs cells slots Q1 g := fun T hT X => by
  obtain ⟨t, a, b⟩ := k T hT X
  exact ⟨t, a, h t b⟩
theorem tl_MQmono {below : List Frame} {Qc Qd : Array Value → State → Outcome → State → Prop} {a : Array Value} {s : State} {mc ms : Nat} {free : Addr → Prop} (h : ∀ o t, Qc a s o t → Qd a s o t) : ∀ t, MQ below Qc a s mc ms free t → MQ below Qd a s mc ms free t := by
  intro t ht
  obtain ⟨o, h1, h2, h3, h4⟩ := ht
  exact ⟨o, h1, h2, h o t h3, h4⟩
def tl_q (l : List Nat) (i : Nat) : Nat := l.getD i 0
theorem mo_Dl : Cond.methodLink "TwinLoader$Download" 3 Lib.objectInit ∈ wsAll := tl_in 150 (by decide +kernel) (by decide +kernel)
theorem mo_Lk : Cond.methodLink "TwinLoader$Lock" 1 Lib.objectInit ∈ wsAll := tl_in 126 (by decide +kernel) (by decide +kernel)
theorem mo_Mm : Cond.methodLink "TwinLoader$Memory" 5 Lib.objectInit ∈ wsAll := tl_in 23 (by decide +kernel) (by decide +kernel)
theorem mo_Rc : Cond.methodLink "TwinLoader$Receiver" 3 Lib.objectInit ∈ wsAll := tl_in 51 (by decide +kernel) (by decide +kernel)
theorem mo_Rw : Cond.methodLink "TwinLoader$Row" 3 Lib.objectInit ∈ wsAll := tl_in 82 (by decide +kernel) (by decide +kernel)
theorem mo_Sd : Cond.methodLink "TwinLoader$Sender" 3 Lib.objectInit ∈ wsAll := tl_in 76 (by decide +kernel) (by decide +kernel)
theorem mo_T : Cond.methodLink "TwinLoader" 1 Lib.objectInit ∈ wsAll := tl_in 15 (by decide +kernel) (by decide +kernel)
theorem mo_M : Cond.methodLink "TwinLoaderModel" 1 Lib.objectInit ∈ wsAll := tl_in 532 (by decide +kernel) (by decide +kernel)
theorem in_oinst : Cond.instanceMethod Lib.objectInit ∈ wsAll := tl_in 16 (by decide +kernel) (by decide +kernel)
theorem in_ocode : Cond.code Lib.objectInit ⟨#[0xb1]⟩ 1 none ∈ wsAll := tl_in 17 (by decide +kernel) (by decide +kernel)
theorem in_arr : Cond.arrayClass .int ∈ wsAll := tl_in 45 (by decide +kernel) (by decide +kernel)
set_option maxHeartbeats 4000000 in
set_option maxRecDepth 100000 in
theorem cc_Lk (l : Launch) (D : va_G) (h0 sz : Nat) : Met l y_Lk_init (Cond.code y_Lk_init b_Lk_init 1 none :: wsAll) (tl_Rc 1 0 0) (va_Pc [.ref h0] (tl_P0 D sz [(h0, .inr (1, [.int 0, .int 0, .int 0, .int 0, .int 0]))])) (va_Qv (fun _u : Unit => True) (fun _u t => va_P D vwCl [(h0, .inr (1, [.int 0, .int 0, .int 0, .int 0, .int 0]))] t.heap ∧ va_K D vwCl [] t ∧ va_D (va_A [(h0, .inr (1, [.int 0, .int 0, .int 0, .int 0, .int 0]))] sz) [(h0, .inr (1, [.int 0, .int 0, .int 0, .int 0, .int 0]))]) (va_A [(h0, .inr (1, [.int 0, .int 0, .int 0, .int 0, .int 0]))] sz)) 0 0 (va_A [(h0, .inr (1, [.int 0, .int 0, .int 0, .int 0, .int 0]))] sz) := by
  refine Met.ofW (cc := b_Lk_init) (maxL := 1) (ret := none) (by decide) rfl ?_
  intro p e s m args below meth c s₁ B hml hv
  obtain ⟨rfl, hsz, hP, hK, hD0, hN⟩ := hv
  have hx := B.exec
  have hb := B.bytes
  have hr := B.returns
  have hts : ∀ x ∈ wsAll, x.before [Value.ref h0].toArray s = true := fun x h => atoms_spec (ws := Cond.code y_Lk_init b_Lk_init 1 none :: wsAll) B.pre x (List.mem_cons_of_mem _ h)
  have hown : s.vm.findClass R_Lk = some m.cls := findClass_of_methodNamed B.named
  have hlk := B.notSynchronized
  have hin : meth.name = "<init>" := (name_of_methodNamed B.named B.method).1
  subst hsz
  have hD := hD0.self (sz := s.heap.size)
  generalize hAe : va_A [(h0, .inr (1, [.int 0, .int 0, .int 0, .int 0, .int 0]))] s.heap.size = F at hD ⊢
  have hA : ∀ q : Nat, s.heap.size ≤ q → F q := fun q h => by rw [← hAe]; exact Or.inr h
  have hS : va_S F s.heap s.heap [] := va_S.rf
  have hP : va_P D vwCl [(h0, .inr (1, [.int 0, .int 0, .int 0, .int 0, .int 0]))] s.heap := hP
  have hl := lv_entry ([.ref h0]) (n := 1) (Nat.le_of_ble_eq_true rfl)
  rw [lg_entry_eq]
  generalize (lg_sl ([.ref h0]) ++ List.replicate (1 - (lg_sl ([.ref h0])).length) Slot.unset).toArray = ls at hl ⊢
  have hl : lv_has ls 1 [(0, .ref h0)] := hl
  refine lv_aload_n (pc := 0) hx hb d_Lk_init_0 rfl (lv_at hl 0 rfl) ?_
  refine W.objInit hx hb hown (hts _ mo_Lk) (hts _ in_oinst) (hts _ in_ocode) rfl (by rw [hml]; exact hl.1) rfl d_Lk_init_1 (Nat.le_of_ble_eq_true rfl) (Nat.le_of_ble_eq_true rfl) ?_
  refine W.eq (g2 := F0 m 4 ls []) rfl ?_
  exact W.vret hx hb hr (fun t ht hW => ⟨⟨(), rfl, trivial, by rw [ht]; exact hP, va_K.moved hW.alike hK, hD⟩, hS.F ht⟩) hS.2.2 d_Lk_init_4 hlk
set_option maxHeartbeats 4000000 in
set_option maxRecDepth 100000 in
theorem cc_Dl (l : Launch) (D : va_G) (h0 sz : Nat) : Met l y_Dl_init (Cond.code y_Dl_init b_Dl_init 1 none :: wsAll) (tl_Rc 1 0 0) (va_Pc [.ref h0] (tl_P0 D sz [(h0, .inr (0, [.int 0, .int 0, .int 0, .int 0, .int 0]))])) (va_Qv (fun _u : Unit => True) (fun _u t => va_P D vwCl [(h0, .inr (0, [.int 0, .int 0, .int 0, .int 0, .int 0]))] t.heap ∧ va_K D vwCl [] t ∧ va_D (va_A [(h0, .inr (0, [.int 0, .int 0, .int 0, .int 0, .int 0]))] sz) [(h0, .inr (0, [.int 0, .int 0, .int 0, .int 0, .int 0]))]) (va_A [(h0, .inr (0, [.int 0, .int 0, .int 0, .int 0, .int 0]))] sz)) 0 0 (va_A [(h0, .inr (0, [.int 0, .int 0, .int 0, .int 0, .int 0]))] sz) := by
  refine Met.ofW (cc := b_Dl_init) (maxL := 1) (ret := none) (by decide) rfl ?_
  intro p e s m args below meth c s₁ B hml hv
  obtain ⟨rfl, hsz, hP, hK, hD0, hN⟩ := hv
  have hx := B.exec
  have hb := B.bytes
  have hr := B.returns
  have hts : ∀ x ∈ wsAll, x.before [Value.ref h0].toArray s = true := fun x h => atoms_spec (ws := Cond.code y_Dl_init b_Dl_init 1 none :: wsAll) B.pre x (List.mem_cons_of_mem _ h)
  have hown : s.vm.findClass R_Dl = some m.cls := findClass_of_methodNamed B.named
  have hlk := B.notSynchronized
  have hin : meth.name = "<init>" := (name_of_methodNamed B.named B.method).1
  subst hsz
  have hD := hD0.self (sz := s.heap.size)
  generalize hAe : va_A [(h0, .inr (0, [.int 0, .int 0, .int 0, .int 0, .int 0]))] s.heap.size = F at hD ⊢
  have hA : ∀ q : Nat, s.heap.size ≤ q → F q := fun q h => by rw [← hAe]; exact Or.inr h
  have hS : va_S F s.heap s.heap [] := va_S.rf
  have hP : va_P D vwCl [(h0, .inr (0, [.int 0, .int 0, .int 0, .int 0, .int 0]))] s.heap := hP
  have hl := lv_entry ([.ref h0]) (n := 1) (Nat.le_of_ble_eq_true rfl)
  rw [lg_entry_eq]
  generalize (lg_sl ([.ref h0]) ++ List.replicate (1 - (lg_sl ([.ref h0])).length) Slot.unset).toArray = ls at hl ⊢
  have hl : lv_has ls 1 [(0, .ref h0)] := hl
  refine lv_aload_n (pc := 0) hx hb d_Dl_init_0 rfl (lv_at hl 0 rfl) ?_
  refine W.objInit hx hb hown (hts _ mo_Dl) (hts _ in_oinst) (hts _ in_ocode) rfl (by rw [hml]; exact hl.1) rfl d_Dl_init_1 (Nat.le_of_ble_eq_true rfl) (Nat.le_of_ble_eq_true rfl) ?_
  refine W.eq (g2 := F0 m 4 ls []) rfl ?_
  exact W.vret hx hb hr (fun t ht hW => ⟨⟨(), rfl, trivial, by rw [ht]; exact hP, va_K.moved hW.alike hK, hD⟩, hS.F ht⟩) hS.2.2 d_Dl_init_4 hlk
set_option maxHeartbeats 4000000 in
set_option maxRecDepth 100000 in
theorem cc_Rc (l : Launch) (D : va_G) (h0 sz : Nat) : Met l y_Rc_init (Cond.code y_Rc_init b_Rc_init 1 none :: wsAll) (tl_Rc 1 1 34) (va_Pc [.ref h0] (tl_P0 D sz [(h0, .inr (3, [.null, .int 0, .int 0, .int 0, .int 0]))])) (va_Qv (fun u : Nat × ClassId => True) (fun u t => va_P D vwCl [(h0, .inr (3, [.ref u.1, .int 0, .int 0, .int 0, .int 0])), (u.1, .inl (u.2, 34, .inl (fun _ => 0)))] t.heap ∧ va_K D vwCl [(u.2, .int)] t ∧ va_D (va_A [(h0, .inr (3, [.null, .int 0, .int 0, .int 0, .int 0]))] sz) [(h0, .inr (3, [.ref u.1, .int 0, .int 0, .int 0, .int 0])), (u.1, .inl (u.2, 34, .inl (fun _ => 0)))]) (va_A [(h0, .inr (3, [.null, .int 0, .int 0, .int 0, .int 0]))] sz)) 1 34 (va_A [(h0, .inr (3, [.null, .int 0, .int 0, .int 0, .int 0]))] sz) := by
  refine Met.ofW (cc := b_Rc_init) (maxL := 1) (ret := none) (by decide) rfl ?_
  intro p e s m args below meth c s₁ B hml hv
  obtain ⟨rfl, hsz, hP, hK, hD0, hN⟩ := hv
  have hx := B.exec
  have hb := B.bytes
  have hr := B.returns
  have hts : ∀ x ∈ wsAll, x.before [Value.ref h0].toArray s = true := fun x h => atoms_spec (ws := Cond.code y_Rc_init b_Rc_init 1 none :: wsAll) B.pre x (List.mem_cons_of_mem _ h)
  have hown : s.vm.findClass R_Rc = some m.cls := findClass_of_methodNamed B.named
  have hlk := B.notSynchronized
  have hin : meth.name = "<init>" := (name_of_methodNamed B.named B.method).1
  subst hsz
  have hD := hD0.self (sz := s.heap.size)
  generalize hAe : va_A [(h0, .inr (3, [.null, .int 0, .int 0, .int 0, .int 0]))] s.heap.size = F at hD ⊢
  have hA : ∀ q : Nat, s.heap.size ≤ q → F q := fun q h => by rw [← hAe]; exact Or.inr h
  have hS : va_S F s.heap s.heap [] := va_S.rf
  have hP : va_P D vwCl [(h0, .inr (3, [.null, .int 0, .int 0, .int 0, .int 0]))] s.heap := hP
  have hl := lv_entry ([.ref h0]) (n := 1) (Nat.le_of_ble_eq_true rfl)
  rw [lg_entry_eq]
  generalize (lg_sl ([.ref h0]) ++ List.replicate (1 - (lg_sl ([.ref h0])).length) Slot.unset).toArray = ls at hl ⊢
  have hl : lv_has ls 1 [(0, .ref h0)] := hl
  refine lv_aload_n (pc := 0) hx hb d_Rc_init_0 rfl (lv_at hl 0 rfl) ?_
  refine W.objInit hx hb hown (hts _ mo_Rc) (hts _ in_oinst) (hts _ in_ocode) rfl (by rw [hml]; exact hl.1) rfl d_Rc_init_1 (Nat.le_of_ble_eq_true rfl) (Nat.le_of_ble_eq_true rfl) ?_
  refine W.eq (g2 := F0 m 4 ls []) rfl ?_
  refine lv_aload_n (pc := 4) hx hb d_Rc_init_4 rfl (lv_at hl 0 rfl) ?_
  refine lv_bipush (pc := 5) (v := 34) hx hb d_Rc_init_5 (by decide) ?_
  refine va_newa (pc := 7) (D := D) (atype := .int) (ty := .int) (a0 := (34, .inl (fun _ => 0))) hx hb (hts _ in_arr) rfl hK hP hD hS hA (fun _ => rfl) (by decide) (by decide) (by decide) (Nat.le_of_ble_eq_true rfl) (Nat.le_of_ble_eq_true rfl) d_Rc_init_7 (fun q1 c2 H hK hP hD hS => ?_)
  have hP : va_P D vwCl [(h0, .inr (3, [.null, .int 0, .int 0, .int 0, .int 0])), (q1, .inl (c2, 34, .inl (fun _ => 0)))] H := hP
  have hD : va_D F [(h0, .inr (3, [.null, .int 0, .int 0, .int 0, .int 0])), (q1, .inl (c2, 34, .inl (fun _ => 0)))] := hD
  have hK : va_K D vwCl [(c2, .int)] s := hK
  refine va_putF (D := D) (ci := 3) (v := .ref q1) (ty := .array .int) (C := R_Rc) (T := F_Rc) (N := 5) hx hb hts lays_Rc ty_Rc tyok_Rc nm_Rc hown hK hP hD hS 0 rfl rfl 0 (by decide) (hts _ in_52) (fun _ h => h) rfl hin rfl (by decide +kernel) rfl rfl (Nat.le_of_ble_eq_true rfl) d_Rc_init_9 (fun H locs hP hD hS => ?_)
  have hP : va_P D vwCl [(h0, .inr (3, [.ref q1, .int 0, .int 0, .int 0, .int 0])), (q1, .inl (c2, 34, .inl (fun _ => 0)))] H := hP
  have hD : va_D F [(h0, .inr (3, [.ref q1, .int 0, .int 0, .int 0, .int 0])), (q1, .inl (c2, 34, .inl (fun _ => 0)))] := hD
  exact W.vret hx hb hr (fun t ht hW => ⟨⟨(q1, c2), rfl, trivial, by rw [ht]; exact hP, va_K.moved hW.alike hK, hD⟩, hS.F ht⟩) hS.2.2 d_Rc_init_12 hlk
set_option maxHeartbeats 4000000 in
set_option maxRecDepth 100000 in
theorem cc_Rw (l : Launch) (D : va_G) (h0 sz : Nat) : Met l y_Rw_init (Cond.code y_Rw_init b_Rw_init 1 none :: wsAll) (tl_Rc 1 1 96) (va_Pc [.ref h0] (tl_P0 D sz [(h0, .inr (4, [.null, .int 0, .int 0]))])) (va_Qv (fun u : Nat × ClassId => True) (fun u t => va_P D vwCl [(h0, .inr (4, [.ref u.1, .int 0, .int 0])), (u.1, .inl (u.2, 96, .inl (fun _ => 0)))] t.heap ∧ va_K D vwCl [(u.2, .int)] t ∧ va_D (va_A [(h0, .inr (4, [.null, .int 0, .int 0]))] sz) [(h0, .inr (4, [.ref u.1, .int 0, .int 0])), (u.1, .inl (u.2, 96, .inl (fun _ => 0)))]) (va_A [(h0, .inr (4, [.null, .int 0, .int 0]))] sz)) 1 96 (va_A [(h0, .inr (4, [.null, .int 0, .int 0]))] sz) := by
  refine Met.ofW (cc := b_Rw_init) (maxL := 1) (ret := none) (by decide) rfl ?_
  intro p e s m args below meth c s₁ B hml hv
  obtain ⟨rfl, hsz, hP, hK, hD0, hN⟩ := hv
  have hx := B.exec
  have hb := B.bytes
  have hr := B.returns
  have hts : ∀ x ∈ wsAll, x.before [Value.ref h0].toArray s = true := fun x h => atoms_spec (ws := Cond.code y_Rw_init b_Rw_init 1 none :: wsAll) B.pre x (List.mem_cons_of_mem _ h)
  have hown : s.vm.findClass R_Rw = some m.cls := findClass_of_methodNamed B.named
  have hlk := B.notSynchronized
  have hin : meth.name = "<init>" := (name_of_methodNamed B.named B.method).1
  subst hsz
  have hD := hD0.self (sz := s.heap.size)
  generalize hAe : va_A [(h0, .inr (4, [.null, .int 0, .int 0]))] s.heap.size = F at hD ⊢
  have hA : ∀ q : Nat, s.heap.size ≤ q → F q := fun q h => by rw [← hAe]; exact Or.inr h
  have hS : va_S F s.heap s.heap [] := va_S.rf
  have hP : va_P D vwCl [(h0, .inr (4, [.null, .int 0, .int 0]))] s.heap := hP
  have hl := lv_entry ([.ref h0]) (n := 1) (Nat.le_of_ble_eq_true rfl)
  rw [lg_entry_eq]
  generalize (lg_sl ([.ref h0]) ++ List.replicate (1 - (lg_sl ([.ref h0])).length) Slot.unset).toArray = ls at hl ⊢
  have hl : lv_has ls 1 [(0, .ref h0)] := hl
  refine lv_aload_n (pc := 0) hx hb d_Rw_init_0 rfl (lv_at hl 0 rfl) ?_
  refine W.objInit hx hb hown (hts _ mo_Rw) (hts _ in_oinst) (hts _ in_ocode) rfl (by rw [hml]; exact hl.1) rfl d_Rw_init_1 (Nat.le_of_ble_eq_true rfl) (Nat.le_of_ble_eq_true rfl) ?_
  refine W.eq (g2 := F0 m 4 ls []) rfl ?_
  refine lv_aload_n (pc := 4) hx hb d_Rw_init_4 rfl (lv_at hl 0 rfl) ?_
  refine lv_bipush (pc := 5) (v := 96) hx hb d_Rw_init_5 (by decide) ?_
  refine va_newa (pc := 7) (D := D) (atype := .int) (ty := .int) (a0 := (96, .inl (fun _ => 0))) hx hb (hts _ in_arr) rfl hK hP hD hS hA (fun _ => rfl) (by decide) (by decide) (by decide) (Nat.le_of_ble_eq_true rfl) (Nat.le_of_ble_eq_true rfl) d_Rw_init_7 (fun q1 c2 H hK hP hD hS => ?_)
  have hP : va_P D vwCl [(h0, .inr (4, [.null, .int 0, .int 0])), (q1, .inl (c2, 96, .inl (fun _ => 0)))] H := hP
  have hD : va_D F [(h0, .inr (4, [.null, .int 0, .int 0])), (q1, .inl (c2, 96, .inl (fun _ => 0)))] := hD
  have hK : va_K D vwCl [(c2, .int)] s := hK
  refine va_putF (D := D) (ci := 4) (v := .ref q1) (ty := .array .int) (C := R_Rw) (T := F_Rw) (N := 3) hx hb hts lays_Rw ty_Rw tyok_Rw nm_Rw hown hK hP hD hS 0 rfl rfl 0 (by decide) (hts _ in_83) (fun _ h => h) rfl hin rfl (by decide +kernel) rfl rfl (Nat.le_of_ble_eq_true rfl) d_Rw_init_9 (fun H locs hP hD hS => ?_)
  have hP : va_P D vwCl [(h0, .inr (4, [.ref q1, .int 0, .int 0])), (q1, .inl (c2, 96, .inl (fun _ => 0)))] H := hP
  have hD : va_D F [(h0, .inr (4, [.ref q1, .int 0, .int 0])), (q1, .inl (c2, 96, .inl (fun _ => 0)))] := hD
  exact W.vret hx hb hr (fun t ht hW => ⟨⟨(q1, c2), rfl, trivial, by rw [ht]; exact hP, va_K.moved hW.alike hK, hD⟩, hS.F ht⟩) hS.2.2 d_Rw_init_12 hlk
set_option maxHeartbeats 4000000 in
set_option maxRecDepth 100000 in
theorem cc_Sd (l : Launch) (D : va_G) (h0 sz : Nat) : Met l y_Sd_init (Cond.code y_Sd_init b_Sd_init 1 none :: wsAll) (tl_Rc 2 4 117) (va_Pc [.ref h0] (tl_P0 D sz [(h0, .inr (5, [.null, .null, .null, .int 0, .int 0, .int 0, .int 0, .int 0]))])) (va_Qv (fun u : (Nat → Nat) × (Nat → ClassId) => True) (fun u t => va_P D vwCl [(h0, .inr (5, [.ref (u.1 1), .ref (u.1 3), .ref (u.1 4), .int 0, .int 0, .int 0, .int 0, .int 0])), ((u.1 1), .inr (4, [.ref (u.1 2), .int 0, .int 0])), ((u.1 2), .inl ((u.2 0), 96, .inl (fun _ => 0))), ((u.1 3), .inl ((u.2 1), 10, .inl (fun _ => 0))), ((u.1 4), .inl ((u.2 2), 8, .inl (fun _ => 0)))] t.heap ∧ va_K D vwCl [((u.2 0), .int), ((u.2 1), .int), ((u.2 2), .int)] t ∧ va_D (va_A [(h0, .inr (5, [.null, .null, .null, .int 0, .int 0, .int 0, .int 0, .int 0]))] sz) [(h0, .inr (5, [.ref (u.1 1), .ref (u.1 3), .ref (u.1 4), .int 0, .int 0, .int 0, .int 0, .int 0])), ((u.1 1), .inr (4, [.ref (u.1 2), .int 0, .int 0])), ((u.1 2), .inl ((u.2 0), 96, .inl (fun _ => 0))), ((u.1 3), .inl ((u.2 1), 10, .inl (fun _ => 0))), ((u.1 4), .inl ((u.2 2), 8, .inl (fun _ => 0)))]) (va_A [(h0, .inr (5, [.null, .null, .null, .int 0, .int 0, .int 0, .int 0, .int 0]))] sz)) 4 117 (va_A [(h0, .inr (5, [.null, .null, .null, .int 0, .int 0, .int 0, .int 0, .int 0]))] sz) := by
  refine Met.ofW (cc := b_Sd_init) (maxL := 1) (ret := none) (by decide) rfl ?_
  intro p e s m args below meth c s₁ B hml hv
  obtain ⟨rfl, hsz, hP, hK, hD0, hN⟩ := hv
  have hx := B.exec
  have hb := B.bytes
  have hr := B.returns
  have hts : ∀ x ∈ wsAll, x.before [Value.ref h0].toArray s = true := fun x h => atoms_spec (ws := Cond.code y_Sd_init b_Sd_init 1 none :: wsAll) B.pre x (List.mem_cons_of_mem _ h)
  have hown : s.vm.findClass R_Sd = some m.cls := findClass_of_methodNamed B.named
  have hlk := B.notSynchronized
  have hin : meth.name = "<init>" := (name_of_methodNamed B.named B.method).1
  subst hsz
  have hD := hD0.self (sz := s.heap.size)
  generalize hAe : va_A [(h0, .inr (5, [.null, .null, .null, .int 0, .int 0, .int 0, .int 0, .int 0]))] s.heap.size = F at hD ⊢
  have hA : ∀ q : Nat, s.heap.size ≤ q → F q := fun q h => by rw [← hAe]; exact Or.inr h
  have hS : va_S F s.heap s.heap [] := va_S.rf
  have hP : va_P D vwCl [(h0, .inr (5, [.null, .null, .null, .int 0, .int 0, .int 0, .int 0, .int 0]))] s.heap := hP
  have hl := lv_entry ([.ref h0]) (n := 1) (Nat.le_of_ble_eq_true rfl)
  rw [lg_entry_eq]
  generalize (lg_sl ([.ref h0]) ++ List.replicate (1 - (lg_sl ([.ref h0])).length) Slot.unset).toArray = ls at hl ⊢
  have hl : lv_has ls 1 [(0, .ref h0)] := hl
  refine lv_aload_n (pc := 0) hx hb d_Sd_init_0 rfl (lv_at hl 0 rfl) ?_
  refine W.objInit hx hb hown (hts _ mo_Sd) (hts _ in_oinst) (hts _ in_ocode) rfl (by rw [hml]; exact hl.1) rfl d_Sd_init_1 (Nat.le_of_ble_eq_true rfl) (Nat.le_of_ble_eq_true rfl) ?_
  refine W.eq (g2 := F0 m 4 ls []) rfl ?_
  refine lv_aload_n (pc := 4) hx hb d_Sd_init_4 rfl (lv_at hl 0 rfl) ?_
  refine va_new (pc := 5) (D := D) (ci := 4) (fs := [.null, .int 0, .int 0]) (C := R_Rw) (T := F_Rw) (N := 3) hx hb hts lays_Rw ty_Rw tyok_Rw hown (hts _ in_77) (hts _ in_78) (hts _ in_5) hK hP hD hS hA rfl (fun j hj => by rcases (show j = 0 ∨ j = 1 ∨ j = 2 by omega) with rfl | rfl | rfl <;> rfl) (Nat.le_of_ble_eq_true rfl) (Nat.le_of_ble_eq_true rfl) d_Sd_init_5 (fun q1 H hP hD hS => ?_)
  have hP : va_P D vwCl [(h0, .inr (5, [.null, .null, .null, .int 0, .int 0, .int 0, .int 0, .int 0])), (q1, .inr (4, [.null, .int 0, .int 0]))] H := hP
  have hD : va_D F [(h0, .inr (5, [.null, .null, .null, .int 0, .int 0, .int 0, .int 0, .int 0])), (q1, .inr (4, [.null, .int 0, .int 0]))] := hD
  refine lv_dup (pc := 8) hx hb d_Sd_init_8 rfl ?_
  have hPc := hP.sub (ws' := [(q1, .inr (4, [.null, .int 0, .int 0]))]) [1] rfl
  have hDc := hD.sub (ws' := [(q1, .inr (4, [.null, .int 0, .int 0]))]) [1] (by decide) rfl
  have hKc := hK.sub (tys' := []) [] rfl
  have hFc := va_free (wc := [(q1, .inr (4, [.null, .int 0, .int 0]))]) hD hS hA [1] rfl
  refine va_callv (va_runI (As := []) (rest := [.ref q1, .ref h0]) ⟨hx, hb, hml, hown, hts⟩ (cc_Rw l D q1 H.size) (cwI 0 hts (tl_good in_81) rfl rfl rfl (hts _ in_5) (hts _ in_79) (hts _ in_80) rfl (by decide +kernel) ⟨Nat.le_of_ble_eq_true rfl, Nat.le_of_ble_eq_true rfl⟩) ⟨tl_blind0, fun U hU hW => ⟨rfl, by rw [hU], by rw [hU]; exact hPc, va_K.moved hW.alike hKc, hDc.weaken (fun _ _ _ _ => trivial), tl_NS.warm hW hN⟩⟩ rfl rfl hl.1 rfl (lv_room (Nat.le_of_ble_eq_true rfl)) d_Sd_init_9 ⟨Nat.le_of_ble_eq_true rfl, Nat.le_of_ble_eq_true rfl⟩) hS (fun q _ h => hFc q h) hFc (fun u t H1 locs ht hvm hw hB hz1 hk1 hS => ?_)
  obtain ⟨q2, c3⟩ := u
  obtain ⟨hP1, hK1, hD1⟩ := hB
  rw [ht] at hP1
  have hK1 := va_K.moved hvm.symm hK1
  obtain ⟨hP, hD⟩ := va_join (wr := [(h0, .inr (5, [.null, .null, .null, .int 0, .int 0, .int 0, .int 0, .int 0]))]) (w1 := [(q1, .inr (4, [.ref q2, .int 0, .int 0])), (q2, .inl (c3, 96, .inl (fun _ => 0)))]) hP hD [1] [0] rfl rfl (by decide) (by decide) hk1 hFc hP1 hD1
  have hK := (hK.sub (tys' := []) [] rfl).app hK1
  generalize H1 = H at hP hS ⊢
  have hP : va_P D vwCl [(h0, .inr (5, [.null, .null, .null, .int 0, .int 0, .int 0, .int 0, .int 0])), (q1, .inr (4, [.ref q2, .int 0, .int 0])), (q2, .inl (c3, 96, .inl (fun _ => 0)))] H := hP
  have hD : va_D F [(h0, .inr (5, [.null, .null, .null, .int 0, .int 0, .int 0, .int 0, .int 0])), (q1, .inr (4, [.ref q2, .int 0, .int 0])), (q2, .inl (c3, 96, .inl (fun _ => 0)))] := hD
  have hK : va_K D vwCl [(c3, .int)] s := hK
  refine va_putF (D := D) (ci := 5) (v := .ref q1) (ty := .object "TwinLoader$Row") (C := R_Sd) (T := F_Sd) (N := 8) hx hb hts lays_Sd ty_Sd tyok_Sd nm_Sd hown hK hP hD hS 0 rfl rfl 0 (by decide) (hts _ in_94) (fun _ h => h) rfl hin rfl (by decide +kernel) rfl rfl (Nat.le_of_ble_eq_true rfl) d_Sd_init_12 (fun H locs hP hD hS => ?_)
  have hP : va_P D vwCl [(h0, .inr (5, [.ref q1, .null, .null, .int 0, .int 0, .int 0, .int 0, .int 0])), (q1, .inr (4, [.ref q2, .int 0, .int 0])), (q2, .inl (c3, 96, .inl (fun _ => 0)))] H := hP
  have hD : va_D F [(h0, .inr (5, [.ref q1, .null, .null, .int 0, .int 0, .int 0, .int 0, .int 0])), (q1, .inr (4, [.ref q2, .int 0, .int 0])), (q2, .inl (c3, 96, .inl (fun _ => 0)))] := hD
  refine lv_aload_n (pc := 15) hx hb d_Sd_init_15 rfl (lv_at hl 0 rfl) ?_
  refine lv_bipush (pc := 16) (v := 10) hx hb d_Sd_init_16 (by decide) ?_
  refine va_newa (pc := 18) (D := D) (atype := .int) (ty := .int) (a0 := (10, .inl (fun _ => 0))) hx hb (hts _ in_arr) rfl hK hP hD hS hA (fun _ => rfl) (by decide) (by decide) (by decide) (Nat.le_of_ble_eq_true rfl) (Nat.le_of_ble_eq_true rfl) d_Sd_init_18 (fun q4 c5 H hK hP hD hS => ?_)
  have hP : va_P D vwCl [(h0, .inr (5, [.ref q1, .null, .null, .int 0, .int 0, .int 0, .int 0, .int 0])), (q1, .inr (4, [.ref q2, .int 0, .int 0])), (q2, .inl (c3, 96, .inl (fun _ => 0))), (q4, .inl (c5, 10, .inl (fun _ => 0)))] H := hP
  have hD : va_D F [(h0, .inr (5, [.ref q1, .null, .null, .int 0, .int 0, .int 0, .int 0, .int 0])), (q1, .inr (4, [.ref q2, .int 0, .int 0])), (q2, .inl (c3, 96, .inl (fun _ => 0))), (q4, .inl (c5, 10, .inl (fun _ => 0)))] := hD
  have hK : va_K D vwCl [(c3, .int), (c5, .int)] s := hK
  refine va_putF (D := D) (ci := 5) (v := .ref q4) (ty := .array .int) (C := R_Sd) (T := F_Sd) (N := 8) hx hb hts lays_Sd ty_Sd tyok_Sd nm_Sd hown hK hP hD hS 0 rfl rfl 1 (by decide) (hts _ in_96) (fun _ h => h) rfl hin rfl (by decide +kernel) rfl rfl (Nat.le_of_ble_eq_true rfl) d_Sd_init_20 (fun H locs hP hD hS => ?_)
  have hP : va_P D vwCl [(h0, .inr (5, [.ref q1, .ref q4, .null, .int 0, .int 0, .int 0, .int 0, .int 0])), (q1, .inr (4, [.ref q2, .int 0, .int 0])), (q2, .inl (c3, 96, .inl (fun _ => 0))), (q4, .inl (c5, 10, .inl (fun _ => 0)))] H := hP
  have hD : va_D F [(h0, .inr (5, [.ref q1, .ref q4, .null, .int 0, .int 0, .int 0, .int 0, .int 0])), (q1, .inr (4, [.ref q2, .int 0, .int 0])), (q2, .inl (c3, 96, .inl (fun _ => 0))), (q4, .inl (c5, 10, .inl (fun _ => 0)))] := hD
  refine lv_aload_n (pc := 23) hx hb d_Sd_init_23 rfl (lv_at hl 0 rfl) ?_
  refine lv_bipush (pc := 24) (v := 8) hx hb d_Sd_init_24 (by decide) ?_
  refine va_newa (pc := 26) (D := D) (atype := .int) (ty := .int) (a0 := (8, .inl (fun _ => 0))) hx hb (hts _ in_arr) rfl hK hP hD hS hA (fun _ => rfl) (by decide) (by decide) (by decide) (Nat.le_of_ble_eq_true rfl) (Nat.le_of_ble_eq_true rfl) d_Sd_init_26 (fun q6 c7 H hK hP hD hS => ?_)
  have hP : va_P D vwCl [(h0, .inr (5, [.ref q1, .ref q4, .null, .int 0, .int 0, .int 0, .int 0, .int 0])), (q1, .inr (4, [.ref q2, .int 0, .int 0])), (q2, .inl (c3, 96, .inl (fun _ => 0))), (q4, .inl (c5, 10, .inl (fun _ => 0))), (q6, .inl (c7, 8, .inl (fun _ => 0)))] H := hP
  have hD : va_D F [(h0, .inr (5, [.ref q1, .ref q4, .null, .int 0, .int 0, .int 0, .int 0, .int 0])), (q1, .inr (4, [.ref q2, .int 0, .int 0])), (q2, .inl (c3, 96, .inl (fun _ => 0))), (q4, .inl (c5, 10, .inl (fun _ => 0))), (q6, .inl (c7, 8, .inl (fun _ => 0)))] := hD
  have hK : va_K D vwCl [(c3, .int), (c5, .int), (c7, .int)] s := hK
  refine va_putF (D := D) (ci := 5) (v := .ref q6) (ty := .array .int) (C := R_Sd) (T := F_Sd) (N := 8) hx hb hts lays_Sd ty_Sd tyok_Sd nm_Sd hown hK hP hD hS 0 rfl rfl 2 (by decide) (hts _ in_97) (fun _ h => h) rfl hin rfl (by decide +kernel) rfl rfl (Nat.le_of_ble_eq_true rfl) d_Sd_init_28 (fun H locs hP hD hS => ?_)
  have hP : va_P D vwCl [(h0, .inr (5, [.ref q1, .ref q4, .ref q6, .int 0, .int 0, .int 0, .int 0, .int 0])), (q1, .inr (4, [.ref q2, .int 0, .int 0])), (q2, .inl (c3, 96, .inl (fun _ => 0))), (q4, .inl (c5, 10, .inl (fun _ => 0))), (q6, .inl (c7, 8, .inl (fun _ => 0)))] H := hP
  have hD : va_D F [(h0, .inr (5, [.ref q1, .ref q4, .ref q6, .int 0, .int 0, .int 0, .int 0, .int 0])), (q1, .inr (4, [.ref q2, .int 0, .int 0])), (q2, .inl (c3, 96, .inl (fun _ => 0))), (q4, .inl (c5, 10, .inl (fun _ => 0))), (q6, .inl (c7, 8, .inl (fun _ => 0)))] := hD
  exact W.vret hx hb hr (fun t ht hW => ⟨⟨(tl_q [h0, q1, q2, q4, q6], tl_q [c3, c5, c7]), rfl, trivial, by rw [ht]; exact hP, va_K.moved hW.alike hK, hD⟩, hS.F ht⟩) hS.2.2 d_Sd_init_31 hlk
set_option maxHeartbeats 4000000 in
set_option maxRecDepth 100000 in
theorem cc_Mm (l : Launch) (D : va_G) (h0 sz : Nat) {post : SS → AA → Prop} (hw : wN_Mm_init post (fun _ => 0) (fun _ _ => 0)) : Met l y_Mm_init (Cond.code y_Mm_init b_Mm_init 3 none :: wsAll) (tl_Rc 1 1 96) (va_Pc [.ref h0] (tl_P0 D sz [(h0, .inr (2, [.null, .int 0, .int 0]))])) (va_Qv (fun u : (Nat × ClassId) × tl_U => post u.2.1 u.2.2) (fun u t => va_P D vwCl [(h0, .inr (2, [.ref u.1.1, .int (u.2.1 0), .int (u.2.1 1)])), (u.1.1, .inl (u.1.2, 96, .inl (u.2.2 0)))] t.heap ∧ va_K D vwCl [(u.1.2, .int)] t ∧ va_D (va_A [(h0, .inr (2, [.null, .int 0, .int 0]))] sz) [(h0, .inr (2, [.ref u.1.1, .int (u.2.1 0), .int (u.2.1 1)])), (u.1.1, .inl (u.1.2, 96, .inl (u.2.2 0)))]) (va_A [(h0, .inr (2, [.null, .int 0, .int 0]))] sz)) 1 96 (va_A [(h0, .inr (2, [.null, .int 0, .int 0]))] sz) := by
  refine Met.ofW (cc := b_Mm_init) (maxL := 3) (ret := none) (by decide) rfl ?_
  intro p e s m args below meth c s₁ B hml hv
  obtain ⟨rfl, hsz, hP, hK, hD0, hN⟩ := hv
  have hx := B.exec
  have hb := B.bytes
  have hr := B.returns
  have hts : ∀ x ∈ wsAll, x.before [Value.ref h0].toArray s = true := fun x h => atoms_spec (ws := Cond.code y_Mm_init b_Mm_init 3 none :: wsAll) B.pre x (List.mem_cons_of_mem _ h)
  have hown : s.vm.findClass R_Mm = some m.cls := findClass_of_methodNamed B.named
  have hlk := B.notSynchronized
  have hin : meth.name = "<init>" := (name_of_methodNamed B.named B.method).1
  subst hsz
  have hD := hD0.self (sz := s.heap.size)
  generalize hAe : va_A [(h0, .inr (2, [.null, .int 0, .int 0]))] s.heap.size = F at hD ⊢
  have hA : ∀ q : Nat, s.heap.size ≤ q → F q := fun q h => by rw [← hAe]; exact Or.inr h
  have hS : va_S F s.heap s.heap [] := va_S.rf
  have hP : va_P D vwCl [(h0, .inr (2, [.null, .int 0, .int 0]))] s.heap := hP
  have hl := lv_entry ([.ref h0]) (n := 3) (Nat.le_of_ble_eq_true rfl)
  rw [lg_entry_eq]
  generalize (lg_sl ([.ref h0]) ++ List.replicate (3 - (lg_sl ([.ref h0])).length) Slot.unset).toArray = ls at hl ⊢
  have hl : lv_has ls 3 [(0, .ref h0)] := hl
  refine lv_aload_n (pc := 0) hx hb d_Mm_init_0 rfl (lv_at hl 0 rfl) ?_
  refine W.objInit hx hb hown (hts _ mo_Mm) (hts _ in_oinst) (hts _ in_ocode) rfl (by rw [hml]; exact hl.1) rfl d_Mm_init_1 (Nat.le_of_ble_eq_true rfl) (Nat.le_of_ble_eq_true rfl) ?_
  refine W.eq (g2 := F0 m 4 ls []) rfl ?_
  refine lv_aload_n (pc := 4) hx hb d_Mm_init_4 rfl (lv_at hl 0 rfl) ?_
  refine lv_bipush (pc := 5) (v := 96) hx hb d_Mm_init_5 (by decide) ?_
  refine va_newa (pc := 7) (D := D) (atype := .int) (ty := .int) (a0 := (96, .inl (fun _ => 0))) hx hb (hts _ in_arr) rfl hK hP hD hS hA (fun _ => rfl) (by decide) (by decide) (by decide) (Nat.le_of_ble_eq_true rfl) (Nat.le_of_ble_eq_true rfl) d_Mm_init_7 (fun q1 c2 H hK hP hD hS => ?_)
  have hP : va_P D vwCl [(h0, .inr (2, [.null, .int 0, .int 0])), (q1, .inl (c2, 96, .inl (fun _ => 0)))] H := hP
  have hD : va_D F [(h0, .inr (2, [.null, .int 0, .int 0])), (q1, .inl (c2, 96, .inl (fun _ => 0)))] := hD
  have hK : va_K D vwCl [(c2, .int)] s := hK
  refine va_putF (D := D) (ci := 2) (v := .ref q1) (ty := .array .int) (C := R_Mm) (T := F_Mm) (N := 3) hx hb hts lays_Mm ty_Mm tyok_Mm nm_Mm hown hK hP hD hS 0 rfl rfl 0 (by decide) (hts _ in_33) (fun _ h => h) rfl hin rfl (by decide +kernel) rfl rfl (Nat.le_of_ble_eq_true rfl) d_Mm_init_9 (fun H locs hP hD hS => ?_)
  have hP : va_P D vwCl [(h0, .inr (2, [.ref q1, .int 0, .int 0])), (q1, .inl (c2, 96, .inl (fun _ => 0)))] H := hP
  have hD : va_D F [(h0, .inr (2, [.ref q1, .int 0, .int 0])), (q1, .inl (c2, 96, .inl (fun _ => 0)))] := hD
  have hT := aN_Mm_init l D (tl_q [h0, q1]) (tl_q [c2]) (fun _ => 0) (fun _ _ => 0) (z := (p, e, s, m, [Value.ref h0].toArray, below, meth, c, F)) ⟨hx, hb, hml, hown, hts, hN, hK, hA, hlk, hr⟩ hw
  refine tl_Wmono (tl_MQmono ?_) (hT ls H locs hl hP hD hS)
  intro o t ht
  obtain ⟨⟨u, h1, h2, h3, h4, h5⟩, h6⟩ := ht
  exact ⟨⟨((q1, c2), u), h1, h2, h3, h4, h5⟩, h6⟩
set_option maxHeartbeats 4000000 in
set_option maxRecDepth 100000 in
theorem cc_T (l : Launch) (D : va_G) (h0 sz : Nat) {post : SS → AA → Prop} (hw : wN_Mm_init (fun S A => wX_T_init post (tl_S0 S) (tl_A0 A)) (fun _ => 0) (fun _ _ => 0)) : Met l y_T_init (Cond.code y_T_init b_T_init 1 none :: wsAll) (tl_Rc 4 12 276) (va_Pc [.ref h0] (tl_P0 D sz [(h0, .inr (6, [.null, .null, .null, .null, .null, .null, .null, .int 0, .int 0, .int 0, .int 0, .int 0]))])) (va_Qv (fun u : ((Nat → Nat) × (Nat → ClassId)) × tl_U => post u.2.1 u.2.2 ∧ u.1.1 0 = h0) (fun u t => va_P D vwCl (wX u.1.1 u.1.2 u.2) t.heap ∧ va_K D vwCl (tX u.1.2) t ∧ va_D (va_A [(h0, .inr (6, [.null, .null, .null, .null, .null, .null, .null, .int 0, .int 0, .int 0, .int 0, .int 0]))] sz) (wX u.1.1 u.1.2 u.2)) (va_A [(h0, .inr (6, [.null, .null, .null, .null, .null, .null, .null, .int 0, .int 0, .int 0, .int 0, .int 0]))] sz)) 12 276 (va_A [(h0, .inr (6, [.null, .null, .null, .null, .null, .null, .null, .int 0, .int 0, .int 0, .int 0, .int 0]))] sz) := by
  refine Met.ofW (cc := b_T_init) (maxL := 1) (ret := none) (by decide) rfl ?_
  intro p e s m args below meth c s₁ B hml hv
  obtain ⟨rfl, hsz, hP, hK, hD0, hN⟩ := hv
  have hx := B.exec
  have hb := B.bytes
  have hr := B.returns
  have hts : ∀ x ∈ wsAll, x.before [Value.ref h0].toArray s = true := fun x h => atoms_spec (ws := Cond.code y_T_init b_T_init 1 none :: wsAll) B.pre x (List.mem_cons_of_mem _ h)
  have hown : s.vm.findClass R_T = some m.cls := findClass_of_methodNamed B.named
  have hlk := B.notSynchronized
  have hin : meth.name = "<init>" := (name_of_methodNamed B.named B.method).1
  subst hsz
  have hD := hD0.self (sz := s.heap.size)
  generalize hAe : va_A [(h0, .inr (6, [.null, .null, .null, .null, .null, .null, .null, .int 0, .int 0, .int 0, .int 0, .int 0]))] s.heap.size = F at hD ⊢
  have hA : ∀ q : Nat, s.heap.size ≤ q → F q := fun q h => by rw [← hAe]; exact Or.inr h
  have hS : va_S F s.heap s.heap [] := va_S.rf
  have hP : va_P D vwCl [(h0, .inr (6, [.null, .null, .null, .null, .null, .null, .null, .int 0, .int 0, .int 0, .int 0, .int 0]))] s.heap := hP
  have hl := lv_entry ([.ref h0]) (n := 1) (Nat.le_of_ble_eq_true rfl)
  rw [lg_entry_eq]
  generalize (lg_sl ([.ref h0]) ++ List.replicate (1 - (lg_sl ([.ref h0])).length) Slot.unset).toArray = ls at hl ⊢
  have hl : lv_has ls 1 [(0, .ref h0)] := hl
  refine lv_aload_n (pc := 0) hx hb d_T_init_0 rfl (lv_at hl 0 rfl) ?_
  refine W.objInit hx hb hown (hts _ mo_T) (hts _ in_oinst) (hts _ in_ocode) rfl (by rw [hml]; exact hl.1) rfl d_T_init_1 (Nat.le_of_ble_eq_true rfl) (Nat.le_of_ble_eq_true rfl) ?_
  refine W.eq (g2 := F0 m 4 ls []) rfl ?_
  refine lv_aload_n (pc := 4) hx hb d_T_init_4 rfl (lv_at hl 0 rfl) ?_
  refine va_new (pc := 5) (D := D) (ci := 2) (fs := [.null, .int 0, .int 0]) (C := R_Mm) (T := F_Mm) (N := 3) hx hb hts lays_Mm ty_Mm tyok_Mm hown (hts _ in_18) (hts _ in_19) (hts _ in_2) hK hP hD hS hA rfl (fun j hj => by rcases (show j = 0 ∨ j = 1 ∨ j = 2 by omega) with rfl | rfl | rfl <;> rfl) (Nat.le_of_ble_eq_true rfl) (Nat.le_of_ble_eq_true rfl) d_T_init_5 (fun q1 H hP hD hS => ?_)
  have hP : va_P D vwCl [(h0, .inr (6, [.null, .null, .null, .null, .null, .null, .null, .int 0, .int 0, .int 0, .int 0, .int 0])), (q1, .inr (2, [.null, .int 0, .int 0]))] H := hP
  have hD : va_D F [(h0, .inr (6, [.null, .null, .null, .null, .null, .null, .null, .int 0, .int 0, .int 0, .int 0, .int 0])), (q1, .inr (2, [.null, .int 0, .int 0]))] := hD
  refine lv_dup (pc := 8) hx hb d_T_init_8 rfl ?_
  have hPc := hP.sub (ws' := [(q1, .inr (2, [.null, .int 0, .int 0]))]) [1] rfl
  have hDc := hD.sub (ws' := [(q1, .inr (2, [.null, .int 0, .int 0]))]) [1] (by decide) rfl
  have hKc := hK.sub (tys' := []) [] rfl
  have hFc := va_free (wc := [(q1, .inr (2, [.null, .int 0, .int 0]))]) hD hS hA [1] rfl
  refine va_callv (va_runI (As := []) (rest := [.ref q1, .ref h0]) ⟨hx, hb, hml, hown, hts⟩ (cc_Mm l D q1 H.size hw) (cwI 0 hts (tl_good in_22) rfl rfl rfl (hts _ in_2) (hts _ in_20) (hts _ in_21) rfl (by decide +kernel) ⟨Nat.le_of_ble_eq_true rfl, Nat.le_of_ble_eq_true rfl⟩) ⟨tl_blind0, fun U hU hW => ⟨rfl, by rw [hU], by rw [hU]; exact hPc, va_K.moved hW.alike hKc, hDc.weaken (fun _ _ _ _ => trivial), tl_NS.warm hW hN⟩⟩ rfl rfl hl.1 rfl (lv_room (Nat.le_of_ble_eq_true rfl)) d_T_init_9 ⟨Nat.le_of_ble_eq_true rfl, Nat.le_of_ble_eq_true rfl⟩) hS (fun q _ h => hFc q h) hFc (fun u t H1 locs ht hvm hw hB hz1 hk1 hS => ?_)
  obtain ⟨⟨q2, c3⟩, u4⟩ := u
  have hw0 := hw
  obtain ⟨hP1, hK1, hD1⟩ := hB
  rw [ht] at hP1
  have hK1 := va_K.moved hvm.symm hK1
  obtain ⟨hP, hD⟩ := va_join (wr := [(h0, .inr (6, [.null, .null, .null, .null, .null, .null, .null, .int 0, .int 0, .int 0, .int 0, .int 0]))]) (w1 := [(q1, .inr (2, [.ref q2, .int (u4.1 0), .int (u4.1 1)])), (q2, .inl (c3, 96, .inl (u4.2 0)))]) hP hD [1] [0] rfl rfl (by decide) (by decide) hk1 hFc hP1 hD1
  have hK := (hK.sub (tys' := []) [] rfl).app hK1
  generalize H1 = H at hP hS ⊢
  have hP : va_P D vwCl [(h0, .inr (6, [.null, .null, .null, .null, .null, .null, .null, .int 0, .int 0, .int 0, .int 0, .int 0])), (q1, .inr (2, [.ref q2, .int (u4.1 0), .int (u4.1 1)])), (q2, .inl (c3, 96, .inl (u4.2 0)))] H := hP
  have hD : va_D F [(h0, .inr (6, [.null, .null, .null, .null, .null, .null, .null, .int 0, .int 0, .int 0, .int 0, .int 0])), (q1, .inr (2, [.ref q2, .int (u4.1 0), .int (u4.1 1)])), (q2, .inl (c3, 96, .inl (u4.2 0)))] := hD
  have hK : va_K D vwCl [(c3, .int)] s := hK
  refine va_putF (D := D) (ci := 6) (v := .ref q1) (ty := .object "TwinLoader$Memory") (C := R_T) (T := F_T) (N := 12) hx hb hts lays_T ty_T tyok_T nm_T hown hK hP hD hS 0 rfl rfl 0 (by decide) (hts _ in_205) (fun _ h => h) rfl hin rfl (by decide +kernel) rfl rfl (Nat.le_of_ble_eq_true rfl) d_T_init_12 (fun H locs hP hD hS => ?_)
  have hP : va_P D vwCl [(h0, .inr (6, [.ref q1, .null, .null, .null, .null, .null, .null, .int 0, .int 0, .int 0, .int 0, .int 0])), (q1, .inr (2, [.ref q2, .int (u4.1 0), .int (u4.1 1)])), (q2, .inl (c3, 96, .inl (u4.2 0)))] H := hP
  have hD : va_D F [(h0, .inr (6, [.ref q1, .null, .null, .null, .null, .null, .null, .int 0, .int 0, .int 0, .int 0, .int 0])), (q1, .inr (2, [.ref q2, .int (u4.1 0), .int (u4.1 1)])), (q2, .inl (c3, 96, .inl (u4.2 0)))] := hD
  refine lv_aload_n (pc := 15) hx hb d_T_init_15 rfl (lv_at hl 0 rfl) ?_
  refine va_new (pc := 16) (D := D) (ci := 3) (fs := [.null, .int 0, .int 0, .int 0, .int 0]) (C := R_Rc) (T := F_Rc) (N := 5) hx hb hts lays_Rc ty_Rc tyok_Rc hown (hts _ in_46) (hts _ in_47) (hts _ in_3) hK hP hD hS hA rfl (fun j hj => by rcases (show j = 0 ∨ j = 1 ∨ j = 2 ∨ j = 3 ∨ j = 4 by omega) with rfl | rfl | rfl | rfl | rfl <;> rfl) (Nat.le_of_ble_eq_true rfl) (Nat.le_of_ble_eq_true rfl) d_T_init_16 (fun q5 H hP hD hS => ?_)
  have hP : va_P D vwCl [(h0, .inr (6, [.ref q1, .null, .null, .null, .null, .null, .null, .int 0, .int 0, .int 0, .int 0, .int 0])), (q1, .inr (2, [.ref q2, .int (u4.1 0), .int (u4.1 1)])), (q2, .inl (c3, 96, .inl (u4.2 0))), (q5, .inr (3, [.null, .int 0, .int 0, .int 0, .int 0]))] H := hP
  have hD : va_D F [(h0, .inr (6, [.ref q1, .null, .null, .null, .null, .null, .null, .int 0, .int 0, .int 0, .int 0, .int 0])), (q1, .inr (2, [.ref q2, .int (u4.1 0), .int (u4.1 1)])), (q2, .inl (c3, 96, .inl (u4.2 0))), (q5, .inr (3, [.null, .int 0, .int 0, .int 0, .int 0]))] := hD
  refine lv_dup (pc := 19) hx hb d_T_init_19 rfl ?_
  have hPc := hP.sub (ws' := [(q5, .inr (3, [.null, .int 0, .int 0, .int 0, .int 0]))]) [3] rfl
  have hDc := hD.sub (ws' := [(q5, .inr (3, [.null, .int 0, .int 0, .int 0, .int 0]))]) [3] (by decide) rfl
  have hKc := hK.sub (tys' := []) [] rfl
  have hFc := va_free (wc := [(q5, .inr (3, [.null, .int 0, .int 0, .int 0, .int 0]))]) hD hS hA [3] rfl
  refine va_callv (va_runI (As := []) (rest := [.ref q5, .ref h0]) ⟨hx, hb, hml, hown, hts⟩ (cc_Rc l D q5 H.size) (cwI 0 hts (tl_good in_50) rfl rfl rfl (hts _ in_3) (hts _ in_48) (hts _ in_49) rfl (by decide +kernel) ⟨Nat.le_of_ble_eq_true rfl, Nat.le_of_ble_eq_true rfl⟩) ⟨tl_blind0, fun U hU hW => ⟨rfl, by rw [hU], by rw [hU]; exact hPc, va_K.moved hW.alike hKc, hDc.weaken (fun _ _ _ _ => trivial), tl_NS.warm hW hN⟩⟩ rfl rfl hl.1 rfl (lv_room (Nat.le_of_ble_eq_true rfl)) d_T_init_20 ⟨Nat.le_of_ble_eq_true rfl, Nat.le_of_ble_eq_true rfl⟩) hS (fun q _ h => hFc q h) hFc (fun u t H1 locs ht hvm hw hB hz1 hk1 hS => ?_)
  obtain ⟨q6, c7⟩ := u
  obtain ⟨hP1, hK1, hD1⟩ := hB
  rw [ht] at hP1
  have hK1 := va_K.moved hvm.symm hK1
  obtain ⟨hP, hD⟩ := va_join (wr := [(h0, .inr (6, [.ref q1, .null, .null, .null, .null, .null, .null, .int 0, .int 0, .int 0, .int 0, .int 0])), (q1, .inr (2, [.ref q2, .int (u4.1 0), .int (u4.1 1)])), (q2, .inl (c3, 96, .inl (u4.2 0)))]) (w1 := [(q5, .inr (3, [.ref q6, .int 0, .int 0, .int 0, .int 0])), (q6, .inl (c7, 34, .inl (fun _ => 0)))]) hP hD [3] [0, 1, 2] rfl rfl (by decide) (by decide) hk1 hFc hP1 hD1
  have hK := (hK.sub (tys' := [(c3, .int)]) [0] rfl).app hK1
  generalize H1 = H at hP hS ⊢
  have hP : va_P D vwCl [(h0, .inr (6, [.ref q1, .null, .null, .null, .null, .null, .null, .int 0, .int 0, .int 0, .int 0, .int 0])), (q1, .inr (2, [.ref q2, .int (u4.1 0), .int (u4.1 1)])), (q2, .inl (c3, 96, .inl (u4.2 0))), (q5, .inr (3, [.ref q6, .int 0, .int 0, .int 0, .int 0])), (q6, .inl (c7, 34, .inl (fun _ => 0)))] H := hP
  have hD : va_D F [(h0, .inr (6, [.ref q1, .null, .null, .null, .null, .null, .null, .int 0, .int 0, .int 0, .int 0, .int 0])), (q1, .inr (2, [.ref q2, .int (u4.1 0), .int (u4.1 1)])), (q2, .inl (c3, 96, .inl (u4.2 0))), (q5, .inr (3, [.ref q6, .int 0, .int 0, .int 0, .int 0])), (q6, .inl (c7, 34, .inl (fun _ => 0)))] := hD
  have hK : va_K D vwCl [(c3, .int), (c7, .int)] s := hK
  refine va_putF (D := D) (ci := 6) (v := .ref q5) (ty := .object "TwinLoader$Receiver") (C := R_T) (T := F_T) (N := 12) hx hb hts lays_T ty_T tyok_T nm_T hown hK hP hD hS 0 rfl rfl 2 (by decide) (hts _ in_207) (fun _ h => h) rfl hin rfl (by decide +kernel) rfl rfl (Nat.le_of_ble_eq_true rfl) d_T_init_23 (fun H locs hP hD hS => ?_)
  have hP : va_P D vwCl [(h0, .inr (6, [.ref q1, .null, .ref q5, .null, .null, .null, .null, .int 0, .int 0, .int 0, .int 0, .int 0])), (q1, .inr (2, [.ref q2, .int (u4.1 0), .int (u4.1 1)])), (q2, .inl (c3, 96, .inl (u4.2 0))), (q5, .inr (3, [.ref q6, .int 0, .int 0, .int 0, .int 0])), (q6, .inl (c7, 34, .inl (fun _ => 0)))] H := hP
  have hD : va_D F [(h0, .inr (6, [.ref q1, .null, .ref q5, .null, .null, .null, .null, .int 0, .int 0, .int 0, .int 0, .int 0])), (q1, .inr (2, [.ref q2, .int (u4.1 0), .int (u4.1 1)])), (q2, .inl (c3, 96, .inl (u4.2 0))), (q5, .inr (3, [.ref q6, .int 0, .int 0, .int 0, .int 0])), (q6, .inl (c7, 34, .inl (fun _ => 0)))] := hD
  refine lv_aload_n (pc := 26) hx hb d_T_init_26 rfl (lv_at hl 0 rfl) ?_
  refine va_new (pc := 27) (D := D) (ci := 5) (fs := [.null, .null, .null, .int 0, .int 0, .int 0, .int 0, .int 0]) (C := R_Sd) (T := F_Sd) (N := 8) hx hb hts lays_Sd ty_Sd tyok_Sd hown (hts _ in_71) (hts _ in_72) (hts _ in_4) hK hP hD hS hA rfl (fun j hj => by rcases (show j = 0 ∨ j = 1 ∨ j = 2 ∨ j = 3 ∨ j = 4 ∨ j = 5 ∨ j = 6 ∨ j = 7 by omega) with rfl | rfl | rfl | rfl | rfl | rfl | rfl | rfl <;> rfl) (Nat.le_of_ble_eq_true rfl) (Nat.le_of_ble_eq_true rfl) d_T_init_27 (fun q8 H hP hD hS => ?_)
  have hP : va_P D vwCl [(h0, .inr (6, [.ref q1, .null, .ref q5, .null, .null, .null, .null, .int 0, .int 0, .int 0, .int 0, .int 0])), (q1, .inr (2, [.ref q2, .int (u4.1 0), .int (u4.1 1)])), (q2, .inl (c3, 96, .inl (u4.2 0))), (q5, .inr (3, [.ref q6, .int 0, .int 0, .int 0, .int 0])), (q6, .inl (c7, 34, .inl (fun _ => 0))), (q8, .inr (5, [.null, .null, .null, .int 0, .int 0, .int 0, .int 0, .int 0]))] H := hP
  have hD : va_D F [(h0, .inr (6, [.ref q1, .null, .ref q5, .null, .null, .null, .null, .int 0, .int 0, .int 0, .int 0, .int 0])), (q1, .inr (2, [.ref q2, .int (u4.1 0), .int (u4.1 1)])), (q2, .inl (c3, 96, .inl (u4.2 0))), (q5, .inr (3, [.ref q6, .int 0, .int 0, .int 0, .int 0])), (q6, .inl (c7, 34, .inl (fun _ => 0))), (q8, .inr (5, [.null, .null, .null, .int 0, .int 0, .int 0, .int 0, .int 0]))] := hD
  refine lv_dup (pc := 30) hx hb d_T_init_30 rfl ?_
  have hPc := hP.sub (ws' := [(q8, .inr (5, [.null, .null, .null, .int 0, .int 0, .int 0, .int 0, .int 0]))]) [5] rfl
  have hDc := hD.sub (ws' := [(q8, .inr (5, [.null, .null, .null, .int 0, .int 0, .int 0, .int 0, .int 0]))]) [5] (by decide) rfl
  have hKc := hK.sub (tys' := []) [] rfl
  have hFc := va_free (wc := [(q8, .inr (5, [.null, .null, .null, .int 0, .int 0, .int 0, .int 0, .int 0]))]) hD hS hA [5] rfl
  refine va_callv (va_runI (As := []) (rest := [.ref q8, .ref h0]) ⟨hx, hb, hml, hown, hts⟩ (cc_Sd l D q8 H.size) (cwI 0 hts (tl_good in_75) rfl rfl rfl (hts _ in_4) (hts _ in_73) (hts _ in_74) rfl (by decide +kernel) ⟨Nat.le_of_ble_eq_true rfl, Nat.le_of_ble_eq_true rfl⟩) ⟨tl_blind0, fun U hU hW => ⟨rfl, by rw [hU], by rw [hU]; exact hPc, va_K.moved hW.alike hKc, hDc.weaken (fun _ _ _ _ => trivial), tl_NS.warm hW hN⟩⟩ rfl rfl hl.1 rfl (lv_room (Nat.le_of_ble_eq_true rfl)) d_T_init_31 ⟨Nat.le_of_ble_eq_true rfl, Nat.le_of_ble_eq_true rfl⟩) hS (fun q _ h => hFc q h) hFc (fun u t H1 locs ht hvm hw hB hz1 hk1 hS => ?_)
  obtain ⟨u9, v10⟩ := u
  obtain ⟨hP1, hK1, hD1⟩ := hB
  rw [ht] at hP1
  have hK1 := va_K.moved hvm.symm hK1
  obtain ⟨hP, hD⟩ := va_join (wr := [(h0, .inr (6, [.ref q1, .null, .ref q5, .null, .null, .null, .null, .int 0, .int 0, .int 0, .int 0, .int 0])), (q1, .inr (2, [.ref q2, .int (u4.1 0), .int (u4.1 1)])), (q2, .inl (c3, 96, .inl (u4.2 0))), (q5, .inr (3, [.ref q6, .int 0, .int 0, .int 0, .int 0])), (q6, .inl (c7, 34, .inl (fun _ => 0)))]) (w1 := [(q8, .inr (5, [.ref (u9 1), .ref (u9 3), .ref (u9 4), .int 0, .int 0, .int 0, .int 0, .int 0])), ((u9 1), .inr (4, [.ref (u9 2), .int 0, .int 0])), ((u9 2), .inl ((v10 0), 96, .inl (fun _ => 0))), ((u9 3), .inl ((v10 1), 10, .inl (fun _ => 0))), ((u9 4), .inl ((v10 2), 8, .inl (fun _ => 0)))]) hP hD [5] [0, 1, 2, 3, 4] rfl rfl (by decide) (by decide) hk1 hFc hP1 hD1
  have hK := (hK.sub (tys' := [(c3, .int), (c7, .int)]) [0, 1] rfl).app hK1
  generalize H1 = H at hP hS ⊢
  have hP : va_P D vwCl [(h0, .inr (6, [.ref q1, .null, .ref q5, .null, .null, .null, .null, .int 0, .int 0, .int 0, .int 0, .int 0])), (q1, .inr (2, [.ref q2, .int (u4.1 0), .int (u4.1 1)])), (q2, .inl (c3, 96, .inl (u4.2 0))), (q5, .inr (3, [.ref q6, .int 0, .int 0, .int 0, .int 0])), (q6, .inl (c7, 34, .inl (fun _ => 0))), (q8, .inr (5, [.ref (u9 1), .ref (u9 3), .ref (u9 4), .int 0, .int 0, .int 0, .int 0, .int 0])), ((u9 1), .inr (4, [.ref (u9 2), .int 0, .int 0])), ((u9 2), .inl ((v10 0), 96, .inl (fun _ => 0))), ((u9 3), .inl ((v10 1), 10, .inl (fun _ => 0))), ((u9 4), .inl ((v10 2), 8, .inl (fun _ => 0)))] H := hP
  have hD : va_D F [(h0, .inr (6, [.ref q1, .null, .ref q5, .null, .null, .null, .null, .int 0, .int 0, .int 0, .int 0, .int 0])), (q1, .inr (2, [.ref q2, .int (u4.1 0), .int (u4.1 1)])), (q2, .inl (c3, 96, .inl (u4.2 0))), (q5, .inr (3, [.ref q6, .int 0, .int 0, .int 0, .int 0])), (q6, .inl (c7, 34, .inl (fun _ => 0))), (q8, .inr (5, [.ref (u9 1), .ref (u9 3), .ref (u9 4), .int 0, .int 0, .int 0, .int 0, .int 0])), ((u9 1), .inr (4, [.ref (u9 2), .int 0, .int 0])), ((u9 2), .inl ((v10 0), 96, .inl (fun _ => 0))), ((u9 3), .inl ((v10 1), 10, .inl (fun _ => 0))), ((u9 4), .inl ((v10 2), 8, .inl (fun _ => 0)))] := hD
  have hK : va_K D vwCl [(c3, .int), (c7, .int), ((v10 0), .int), ((v10 1), .int), ((v10 2), .int)] s := hK
  refine va_putF (D := D) (ci := 6) (v := .ref q8) (ty := .object "TwinLoader$Sender") (C := R_T) (T := F_T) (N := 12) hx hb hts lays_T ty_T tyok_T nm_T hown hK hP hD hS 0 rfl rfl 3 (by decide) (hts _ in_208) (fun _ h => h) rfl hin rfl (by decide +kernel) rfl rfl (Nat.le_of_ble_eq_true rfl) d_T_init_34 (fun H locs hP hD hS => ?_)
  have hP : va_P D vwCl [(h0, .inr (6, [.ref q1, .null, .ref q5, .ref q8, .null, .null, .null, .int 0, .int 0, .int 0, .int 0, .int 0])), (q1, .inr (2, [.ref q2, .int (u4.1 0), .int (u4.1 1)])), (q2, .inl (c3, 96, .inl (u4.2 0))), (q5, .inr (3, [.ref q6, .int 0, .int 0, .int 0, .int 0])), (q6, .inl (c7, 34, .inl (fun _ => 0))), (q8, .inr (5, [.ref (u9 1), .ref (u9 3), .ref (u9 4), .int 0, .int 0, .int 0, .int 0, .int 0])), ((u9 1), .inr (4, [.ref (u9 2), .int 0, .int 0])), ((u9 2), .inl ((v10 0), 96, .inl (fun _ => 0))), ((u9 3), .inl ((v10 1), 10, .inl (fun _ => 0))), ((u9 4), .inl ((v10 2), 8, .inl (fun _ => 0)))] H := hP
  have hD : va_D F [(h0, .inr (6, [.ref q1, .null, .ref q5, .ref q8, .null, .null, .null, .int 0, .int 0, .int 0, .int 0, .int 0])), (q1, .inr (2, [.ref q2, .int (u4.1 0), .int (u4.1 1)])), (q2, .inl (c3, 96, .inl (u4.2 0))), (q5, .inr (3, [.ref q6, .int 0, .int 0, .int 0, .int 0])), (q6, .inl (c7, 34, .inl (fun _ => 0))), (q8, .inr (5, [.ref (u9 1), .ref (u9 3), .ref (u9 4), .int 0, .int 0, .int 0, .int 0, .int 0])), ((u9 1), .inr (4, [.ref (u9 2), .int 0, .int 0])), ((u9 2), .inl ((v10 0), 96, .inl (fun _ => 0))), ((u9 3), .inl ((v10 1), 10, .inl (fun _ => 0))), ((u9 4), .inl ((v10 2), 8, .inl (fun _ => 0)))] := hD
  refine lv_aload_n (pc := 37) hx hb d_T_init_37 rfl (lv_at hl 0 rfl) ?_
  refine lv_aload_n (pc := 38) hx hb d_T_init_38 rfl (lv_at hl 0 rfl) ?_
  refine va_get (pc := 39) (D := D) (ci := 6) (v := .ref q8) (C := R_T) (T := F_T) (N := 12) hx hb hts lays_T hown hK hP 0 rfl rfl 3 (by decide) (hts _ in_208) (fun _ h => h) rfl d_T_init_39 ?_
  refine va_getN (pc := 42) (D := D) (ci := 5) (v := .ref (u9 1)) (C := R_Sd) (T := F_Sd) (N := 8) hx hb hts lays_Sd hown hK hP 5 rfl rfl 0 (by decide) (va_Nw.use rfl hN.2.2.2.2.2.2.1) (fun _ h => h) rfl d_T_init_42 ?_
  refine va_putF (D := D) (ci := 6) (v := .ref (u9 1)) (ty := .object "TwinLoader$Row") (C := R_T) (T := F_T) (N := 12) hx hb hts lays_T ty_T tyok_T nm_T hown hK hP hD hS 0 rfl rfl 1 (by decide) (hts _ in_206) (fun _ h => h) rfl hin rfl (by decide +kernel) rfl rfl (Nat.le_of_ble_eq_true rfl) d_T_init_45 (fun H locs hP hD hS => ?_)
  have hP : va_P D vwCl [(h0, .inr (6, [.ref q1, .ref (u9 1), .ref q5, .ref q8, .null, .null, .null, .int 0, .int 0, .int 0, .int 0, .int 0])), (q1, .inr (2, [.ref q2, .int (u4.1 0), .int (u4.1 1)])), (q2, .inl (c3, 96, .inl (u4.2 0))), (q5, .inr (3, [.ref q6, .int 0, .int 0, .int 0, .int 0])), (q6, .inl (c7, 34, .inl (fun _ => 0))), (q8, .inr (5, [.ref (u9 1), .ref (u9 3), .ref (u9 4), .int 0, .int 0, .int 0, .int 0, .int 0])), ((u9 1), .inr (4, [.ref (u9 2), .int 0, .int 0])), ((u9 2), .inl ((v10 0), 96, .inl (fun _ => 0))), ((u9 3), .inl ((v10 1), 10, .inl (fun _ => 0))), ((u9 4), .inl ((v10 2), 8, .inl (fun _ => 0)))] H := hP
  have hD : va_D F [(h0, .inr (6, [.ref q1, .ref (u9 1), .ref q5, .ref q8, .null, .null, .null, .int 0, .int 0, .int 0, .int 0, .int 0])), (q1, .inr (2, [.ref q2, .int (u4.1 0), .int (u4.1 1)])), (q2, .inl (c3, 96, .inl (u4.2 0))), (q5, .inr (3, [.ref q6, .int 0, .int 0, .int 0, .int 0])), (q6, .inl (c7, 34, .inl (fun _ => 0))), (q8, .inr (5, [.ref (u9 1), .ref (u9 3), .ref (u9 4), .int 0, .int 0, .int 0, .int 0, .int 0])), ((u9 1), .inr (4, [.ref (u9 2), .int 0, .int 0])), ((u9 2), .inl ((v10 0), 96, .inl (fun _ => 0))), ((u9 3), .inl ((v10 1), 10, .inl (fun _ => 0))), ((u9 4), .inl ((v10 2), 8, .inl (fun _ => 0)))] := hD
  refine lv_aload_n (pc := 48) hx hb d_T_init_48 rfl (lv_at hl 0 rfl) ?_
  refine va_new (pc := 49) (D := D) (ci := 1) (fs := [.int 0, .int 0, .int 0, .int 0, .int 0]) (C := R_Lk) (T := F_Lk) (N := 5) hx hb hts lays_Lk ty_Lk tyok_Lk hown (hts _ in_121) (hts _ in_122) (hts _ in_6) hK hP hD hS hA rfl (fun j hj => by rcases (show j = 0 ∨ j = 1 ∨ j = 2 ∨ j = 3 ∨ j = 4 by omega) with rfl | rfl | rfl | rfl | rfl <;> rfl) (Nat.le_of_ble_eq_true rfl) (Nat.le_of_ble_eq_true rfl) d_T_init_49 (fun q11 H hP hD hS => ?_)
  have hP : va_P D vwCl [(h0, .inr (6, [.ref q1, .ref (u9 1), .ref q5, .ref q8, .null, .null, .null, .int 0, .int 0, .int 0, .int 0, .int 0])), (q1, .inr (2, [.ref q2, .int (u4.1 0), .int (u4.1 1)])), (q2, .inl (c3, 96, .inl (u4.2 0))), (q5, .inr (3, [.ref q6, .int 0, .int 0, .int 0, .int 0])), (q6, .inl (c7, 34, .inl (fun _ => 0))), (q8, .inr (5, [.ref (u9 1), .ref (u9 3), .ref (u9 4), .int 0, .int 0, .int 0, .int 0, .int 0])), ((u9 1), .inr (4, [.ref (u9 2), .int 0, .int 0])), ((u9 2), .inl ((v10 0), 96, .inl (fun _ => 0))), ((u9 3), .inl ((v10 1), 10, .inl (fun _ => 0))), ((u9 4), .inl ((v10 2), 8, .inl (fun _ => 0))), (q11, .inr (1, [.int 0, .int 0, .int 0, .int 0, .int 0]))] H := hP
  have hD : va_D F [(h0, .inr (6, [.ref q1, .ref (u9 1), .ref q5, .ref q8, .null, .null, .null, .int 0, .int 0, .int 0, .int 0, .int 0])), (q1, .inr (2, [.ref q2, .int (u4.1 0), .int (u4.1 1)])), (q2, .inl (c3, 96, .inl (u4.2 0))), (q5, .inr (3, [.ref q6, .int 0, .int 0, .int 0, .int 0])), (q6, .inl (c7, 34, .inl (fun _ => 0))), (q8, .inr (5, [.ref (u9 1), .ref (u9 3), .ref (u9 4), .int 0, .int 0, .int 0, .int 0, .int 0])), ((u9 1), .inr (4, [.ref (u9 2), .int 0, .int 0])), ((u9 2), .inl ((v10 0), 96, .inl (fun _ => 0))), ((u9 3), .inl ((v10 1), 10, .inl (fun _ => 0))), ((u9 4), .inl ((v10 2), 8, .inl (fun _ => 0))), (q11, .inr (1, [.int 0, .int 0, .int 0, .int 0, .int 0]))] := hD
  refine lv_dup (pc := 52) hx hb d_T_init_52 rfl ?_
  have hPc := hP.sub (ws' := [(q11, .inr (1, [.int 0, .int 0, .int 0, .int 0, .int 0]))]) [10] rfl
  have hDc := hD.sub (ws' := [(q11, .inr (1, [.int 0, .int 0, .int 0, .int 0, .int 0]))]) [10] (by decide) rfl
  have hKc := hK.sub (tys' := []) [] rfl
  have hFc := va_free (wc := [(q11, .inr (1, [.int 0, .int 0, .int 0, .int 0, .int 0]))]) hD hS hA [10] rfl
  refine va_callv (va_runIN (As := []) (rest := [.ref q11, .ref h0]) ⟨hx, hb, hml, hown, hts⟩ (cc_Lk l D q11 H.size) ⟨va_cnB 0 hts (tl_good in_125) rfl rfl rfl (hN.2.2.2.2.2.2.2.2.1) (hts _ in_6) (by decide +kernel) ⟨Nat.le_of_ble_eq_true rfl, Nat.le_of_ble_eq_true rfl⟩, rfl, hts _ in_124⟩ ⟨tl_blind0, fun U hU hW => ⟨rfl, by rw [hU], by rw [hU]; exact hPc, va_K.moved hW.alike hKc, hDc.weaken (fun _ _ _ _ => trivial), tl_NS.warm hW hN⟩⟩ rfl rfl hl.1 rfl (lv_room (Nat.le_of_ble_eq_true rfl)) d_T_init_53 ⟨Nat.le_of_ble_eq_true rfl, Nat.le_of_ble_eq_true rfl⟩) hS (fun q _ h => hFc q h) hFc (fun u t H1 locs ht hvm hw hB hz1 hk1 hS => ?_)
  obtain ⟨⟩ := u
  obtain ⟨hP1, hK1, hD1⟩ := hB
  rw [ht] at hP1
  have hK1 := va_K.moved hvm.symm hK1
  obtain ⟨hP, hD⟩ := va_join (wr := [(h0, .inr (6, [.ref q1, .ref (u9 1), .ref q5, .ref q8, .null, .null, .null, .int 0, .int 0, .int 0, .int 0, .int 0])), (q1, .inr (2, [.ref q2, .int (u4.1 0), .int (u4.1 1)])), (q2, .inl (c3, 96, .inl (u4.2 0))), (q5, .inr (3, [.ref q6, .int 0, .int 0, .int 0, .int 0])), (q6, .inl (c7, 34, .inl (fun _ => 0))), (q8, .inr (5, [.ref (u9 1), .ref (u9 3), .ref (u9 4), .int 0, .int 0, .int 0, .int 0, .int 0])), ((u9 1), .inr (4, [.ref (u9 2), .int 0, .int 0])), ((u9 2), .inl ((v10 0), 96, .inl (fun _ => 0))), ((u9 3), .inl ((v10 1), 10, .inl (fun _ => 0))), ((u9 4), .inl ((v10 2), 8, .inl (fun _ => 0)))]) (w1 := [(q11, .inr (1, [.int 0, .int 0, .int 0, .int 0, .int 0]))]) hP hD [10] [0, 1, 2, 3, 4, 5, 6, 7, 8, 9] rfl rfl (by decide) (by decide) hk1 hFc hP1 hD1
  have hK := (hK.sub (tys' := [(c3, .int), (c7, .int), ((v10 0), .int), ((v10 1), .int), ((v10 2), .int)]) [0, 1, 2, 3, 4] rfl).app hK1
  generalize H1 = H at hP hS ⊢
  have hP : va_P D vwCl [(h0, .inr (6, [.ref q1, .ref (u9 1), .ref q5, .ref q8, .null, .null, .null, .int 0, .int 0, .int 0, .int 0, .int 0])), (q1, .inr (2, [.ref q2, .int (u4.1 0), .int (u4.1 1)])), (q2, .inl (c3, 96, .inl (u4.2 0))), (q5, .inr (3, [.ref q6, .int 0, .int 0, .int 0, .int 0])), (q6, .inl (c7, 34, .inl (fun _ => 0))), (q8, .inr (5, [.ref (u9 1), .ref (u9 3), .ref (u9 4), .int 0, .int 0, .int 0, .int 0, .int 0])), ((u9 1), .inr (4, [.ref (u9 2), .int 0, .int 0])), ((u9 2), .inl ((v10 0), 96, .inl (fun _ => 0))), ((u9 3), .inl ((v10 1), 10, .inl (fun _ => 0))), ((u9 4), .inl ((v10 2), 8, .inl (fun _ => 0))), (q11, .inr (1, [.int 0, .int 0, .int 0, .int 0, .int 0]))] H := hP
  have hD : va_D F [(h0, .inr (6, [.ref q1, .ref (u9 1), .ref q5, .ref q8, .null, .null, .null, .int 0, .int 0, .int 0, .int 0, .int 0])), (q1, .inr (2, [.ref q2, .int (u4.1 0), .int (u4.1 1)])), (q2, .inl (c3, 96, .inl (u4.2 0))), (q5, .inr (3, [.ref q6, .int 0, .int 0, .int 0, .int 0])), (q6, .inl (c7, 34, .inl (fun _ => 0))), (q8, .inr (5, [.ref (u9 1), .ref (u9 3), .ref (u9 4), .int 0, .int 0, .int 0, .int 0, .int 0])), ((u9 1), .inr (4, [.ref (u9 2), .int 0, .int 0])), ((u9 2), .inl ((v10 0), 96, .inl (fun _ => 0))), ((u9 3), .inl ((v10 1), 10, .inl (fun _ => 0))), ((u9 4), .inl ((v10 2), 8, .inl (fun _ => 0))), (q11, .inr (1, [.int 0, .int 0, .int 0, .int 0, .int 0]))] := hD
  have hK : va_K D vwCl [(c3, .int), (c7, .int), ((v10 0), .int), ((v10 1), .int), ((v10 2), .int)] s := hK
  refine va_putF (D := D) (ci := 6) (v := .ref q11) (ty := .object "TwinLoader$Lock") (C := R_T) (T := F_T) (N := 12) hx hb hts lays_T ty_T tyok_T nm_T hown hK hP hD hS 0 rfl rfl 4 (by decide) (hts _ in_209) (fun _ h => h) rfl hin rfl (by decide +kernel) rfl rfl (Nat.le_of_ble_eq_true rfl) d_T_init_56 (fun H locs hP hD hS => ?_)
  have hP : va_P D vwCl [(h0, .inr (6, [.ref q1, .ref (u9 1), .ref q5, .ref q8, .ref q11, .null, .null, .int 0, .int 0, .int 0, .int 0, .int 0])), (q1, .inr (2, [.ref q2, .int (u4.1 0), .int (u4.1 1)])), (q2, .inl (c3, 96, .inl (u4.2 0))), (q5, .inr (3, [.ref q6, .int 0, .int 0, .int 0, .int 0])), (q6, .inl (c7, 34, .inl (fun _ => 0))), (q8, .inr (5, [.ref (u9 1), .ref (u9 3), .ref (u9 4), .int 0, .int 0, .int 0, .int 0, .int 0])), ((u9 1), .inr (4, [.ref (u9 2), .int 0, .int 0])), ((u9 2), .inl ((v10 0), 96, .inl (fun _ => 0))), ((u9 3), .inl ((v10 1), 10, .inl (fun _ => 0))), ((u9 4), .inl ((v10 2), 8, .inl (fun _ => 0))), (q11, .inr (1, [.int 0, .int 0, .int 0, .int 0, .int 0]))] H := hP
  have hD : va_D F [(h0, .inr (6, [.ref q1, .ref (u9 1), .ref q5, .ref q8, .ref q11, .null, .null, .int 0, .int 0, .int 0, .int 0, .int 0])), (q1, .inr (2, [.ref q2, .int (u4.1 0), .int (u4.1 1)])), (q2, .inl (c3, 96, .inl (u4.2 0))), (q5, .inr (3, [.ref q6, .int 0, .int 0, .int 0, .int 0])), (q6, .inl (c7, 34, .inl (fun _ => 0))), (q8, .inr (5, [.ref (u9 1), .ref (u9 3), .ref (u9 4), .int 0, .int 0, .int 0, .int 0, .int 0])), ((u9 1), .inr (4, [.ref (u9 2), .int 0, .int 0])), ((u9 2), .inl ((v10 0), 96, .inl (fun _ => 0))), ((u9 3), .inl ((v10 1), 10, .inl (fun _ => 0))), ((u9 4), .inl ((v10 2), 8, .inl (fun _ => 0))), (q11, .inr (1, [.int 0, .int 0, .int 0, .int 0, .int 0]))] := hD
  refine lv_aload_n (pc := 59) hx hb d_T_init_59 rfl (lv_at hl 0 rfl) ?_
  refine va_new (pc := 60) (D := D) (ci := 0) (fs := [.int 0, .int 0, .int 0, .int 0, .int 0]) (C := R_Dl) (T := F_Dl) (N := 5) hx hb hts lays_Dl ty_Dl tyok_Dl hown (hts _ in_145) (hts _ in_146) (hts _ in_7) hK hP hD hS hA rfl (fun j hj => by rcases (show j = 0 ∨ j = 1 ∨ j = 2 ∨ j = 3 ∨ j = 4 by omega) with rfl | rfl | rfl | rfl | rfl <;> rfl) (Nat.le_of_ble_eq_true rfl) (Nat.le_of_ble_eq_true rfl) d_T_init_60 (fun q12 H hP hD hS => ?_)
  have hP : va_P D vwCl [(h0, .inr (6, [.ref q1, .ref (u9 1), .ref q5, .ref q8, .ref q11, .null, .null, .int 0, .int 0, .int 0, .int 0, .int 0])), (q1, .inr (2, [.ref q2, .int (u4.1 0), .int (u4.1 1)])), (q2, .inl (c3, 96, .inl (u4.2 0))), (q5, .inr (3, [.ref q6, .int 0, .int 0, .int 0, .int 0])), (q6, .inl (c7, 34, .inl (fun _ => 0))), (q8, .inr (5, [.ref (u9 1), .ref (u9 3), .ref (u9 4), .int 0, .int 0, .int 0, .int 0, .int 0])), ((u9 1), .inr (4, [.ref (u9 2), .int 0, .int 0])), ((u9 2), .inl ((v10 0), 96, .inl (fun _ => 0))), ((u9 3), .inl ((v10 1), 10, .inl (fun _ => 0))), ((u9 4), .inl ((v10 2), 8, .inl (fun _ => 0))), (q11, .inr (1, [.int 0, .int 0, .int 0, .int 0, .int 0])), (q12, .inr (0, [.int 0, .int 0, .int 0, .int 0, .int 0]))] H := hP
  have hD : va_D F [(h0, .inr (6, [.ref q1, .ref (u9 1), .ref q5, .ref q8, .ref q11, .null, .null, .int 0, .int 0, .int 0, .int 0, .int 0])), (q1, .inr (2, [.ref q2, .int (u4.1 0), .int (u4.1 1)])), (q2, .inl (c3, 96, .inl (u4.2 0))), (q5, .inr (3, [.ref q6, .int 0, .int 0, .int 0, .int 0])), (q6, .inl (c7, 34, .inl (fun _ => 0))), (q8, .inr (5, [.ref (u9 1), .ref (u9 3), .ref (u9 4), .int 0, .int 0, .int 0, .int 0, .int 0])), ((u9 1), .inr (4, [.ref (u9 2), .int 0, .int 0])), ((u9 2), .inl ((v10 0), 96, .inl (fun _ => 0))), ((u9 3), .inl ((v10 1), 10, .inl (fun _ => 0))), ((u9 4), .inl ((v10 2), 8, .inl (fun _ => 0))), (q11, .inr (1, [.int 0, .int 0, .int 0, .int 0, .int 0])), (q12, .inr (0, [.int 0, .int 0, .int 0, .int 0, .int 0]))] := hD
  refine lv_dup (pc := 63) hx hb d_T_init_63 rfl ?_
  have hPc := hP.sub (ws' := [(q12, .inr (0, [.int 0, .int 0, .int 0, .int 0, .int 0]))]) [11] rfl
  have hDc := hD.sub (ws' := [(q12, .inr (0, [.int 0, .int 0, .int 0, .int 0, .int 0]))]) [11] (by decide) rfl
  have hKc := hK.sub (tys' := []) [] rfl
  have hFc := va_free (wc := [(q12, .inr (0, [.int 0, .int 0, .int 0, .int 0, .int 0]))]) hD hS hA [11] rfl
  refine va_callv (va_runIN (As := []) (rest := [.ref q12, .ref h0]) ⟨hx, hb, hml, hown, hts⟩ (cc_Dl l D q12 H.size) ⟨va_cnB 0 hts (tl_good in_149) rfl rfl rfl (hN.2.2.2.2.2.2.2.2.2.2.2.1) (hts _ in_7) (by decide +kernel) ⟨Nat.le_of_ble_eq_true rfl, Nat.le_of_ble_eq_true rfl⟩, rfl, hts _ in_148⟩ ⟨tl_blind0, fun U hU hW => ⟨rfl, by rw [hU], by rw [hU]; exact hPc, va_K.moved hW.alike hKc, hDc.weaken (fun _ _ _ _ => trivial), tl_NS.warm hW hN⟩⟩ rfl rfl hl.1 rfl (lv_room (Nat.le_of_ble_eq_true rfl)) d_T_init_64 ⟨Nat.le_of_ble_eq_true rfl, Nat.le_of_ble_eq_true rfl⟩) hS (fun q _ h => hFc q h) hFc (fun u t H1 locs ht hvm hw hB hz1 hk1 hS => ?_)
  obtain ⟨⟩ := u
  obtain ⟨hP1, hK1, hD1⟩ := hB
  rw [ht] at hP1
  have hK1 := va_K.moved hvm.symm hK1
  obtain ⟨hP, hD⟩ := va_join (wr := [(h0, .inr (6, [.ref q1, .ref (u9 1), .ref q5, .ref q8, .ref q11, .null, .null, .int 0, .int 0, .int 0, .int 0, .int 0])), (q1, .inr (2, [.ref q2, .int (u4.1 0), .int (u4.1 1)])), (q2, .inl (c3, 96, .inl (u4.2 0))), (q5, .inr (3, [.ref q6, .int 0, .int 0, .int 0, .int 0])), (q6, .inl (c7, 34, .inl (fun _ => 0))), (q8, .inr (5, [.ref (u9 1), .ref (u9 3), .ref (u9 4), .int 0, .int 0, .int 0, .int 0, .int 0])), ((u9 1), .inr (4, [.ref (u9 2), .int 0, .int 0])), ((u9 2), .inl ((v10 0), 96, .inl (fun _ => 0))), ((u9 3), .inl ((v10 1), 10, .inl (fun _ => 0))), ((u9 4), .inl ((v10 2), 8, .inl (fun _ => 0))), (q11, .inr (1, [.int 0, .int 0, .int 0, .int 0, .int 0]))]) (w1 := [(q12, .inr (0, [.int 0, .int 0, .int 0, .int 0, .int 0]))]) hP hD [11] [0, 1, 2, 3, 4, 5, 6, 7, 8, 9, 10] rfl rfl (by decide) (by decide) hk1 hFc hP1 hD1
  have hK := (hK.sub (tys' := [(c3, .int), (c7, .int), ((v10 0), .int), ((v10 1), .int), ((v10 2), .int)]) [0, 1, 2, 3, 4] rfl).app hK1
  generalize H1 = H at hP hS ⊢
  have hP : va_P D vwCl [(h0, .inr (6, [.ref q1, .ref (u9 1), .ref q5, .ref q8, .ref q11, .null, .null, .int 0, .int 0, .int 0, .int 0, .int 0])), (q1, .inr (2, [.ref q2, .int (u4.1 0), .int (u4.1 1)])), (q2, .inl (c3, 96, .inl (u4.2 0))), (q5, .inr (3, [.ref q6, .int 0, .int 0, .int 0, .int 0])), (q6, .inl (c7, 34, .inl (fun _ => 0))), (q8, .inr (5, [.ref (u9 1), .ref (u9 3), .ref (u9 4), .int 0, .int 0, .int 0, .int 0, .int 0])), ((u9 1), .inr (4, [.ref (u9 2), .int 0, .int 0])), ((u9 2), .inl ((v10 0), 96, .inl (fun _ => 0))), ((u9 3), .inl ((v10 1), 10, .inl (fun _ => 0))), ((u9 4), .inl ((v10 2), 8, .inl (fun _ => 0))), (q11, .inr (1, [.int 0, .int 0, .int 0, .int 0, .int 0])), (q12, .inr (0, [.int 0, .int 0, .int 0, .int 0, .int 0]))] H := hP
  have hD : va_D F [(h0, .inr (6, [.ref q1, .ref (u9 1), .ref q5, .ref q8, .ref q11, .null, .null, .int 0, .int 0, .int 0, .int 0, .int 0])), (q1, .inr (2, [.ref q2, .int (u4.1 0), .int (u4.1 1)])), (q2, .inl (c3, 96, .inl (u4.2 0))), (q5, .inr (3, [.ref q6, .int 0, .int 0, .int 0, .int 0])), (q6, .inl (c7, 34, .inl (fun _ => 0))), (q8, .inr (5, [.ref (u9 1), .ref (u9 3), .ref (u9 4), .int 0, .int 0, .int 0, .int 0, .int 0])), ((u9 1), .inr (4, [.ref (u9 2), .int 0, .int 0])), ((u9 2), .inl ((v10 0), 96, .inl (fun _ => 0))), ((u9 3), .inl ((v10 1), 10, .inl (fun _ => 0))), ((u9 4), .inl ((v10 2), 8, .inl (fun _ => 0))), (q11, .inr (1, [.int 0, .int 0, .int 0, .int 0, .int 0])), (q12, .inr (0, [.int 0, .int 0, .int 0, .int 0, .int 0]))] := hD
  have hK : va_K D vwCl [(c3, .int), (c7, .int), ((v10 0), .int), ((v10 1), .int), ((v10 2), .int)] s := hK
  refine va_putF (D := D) (ci := 6) (v := .ref q12) (ty := .object "TwinLoader$Download") (C := R_T) (T := F_T) (N := 12) hx hb hts lays_T ty_T tyok_T nm_T hown hK hP hD hS 0 rfl rfl 5 (by decide) (hts _ in_210) (fun _ h => h) rfl hin rfl (by decide +kernel) rfl rfl (Nat.le_of_ble_eq_true rfl) d_T_init_67 (fun H locs hP hD hS => ?_)
  have hP : va_P D vwCl [(h0, .inr (6, [.ref q1, .ref (u9 1), .ref q5, .ref q8, .ref q11, .ref q12, .null, .int 0, .int 0, .int 0, .int 0, .int 0])), (q1, .inr (2, [.ref q2, .int (u4.1 0), .int (u4.1 1)])), (q2, .inl (c3, 96, .inl (u4.2 0))), (q5, .inr (3, [.ref q6, .int 0, .int 0, .int 0, .int 0])), (q6, .inl (c7, 34, .inl (fun _ => 0))), (q8, .inr (5, [.ref (u9 1), .ref (u9 3), .ref (u9 4), .int 0, .int 0, .int 0, .int 0, .int 0])), ((u9 1), .inr (4, [.ref (u9 2), .int 0, .int 0])), ((u9 2), .inl ((v10 0), 96, .inl (fun _ => 0))), ((u9 3), .inl ((v10 1), 10, .inl (fun _ => 0))), ((u9 4), .inl ((v10 2), 8, .inl (fun _ => 0))), (q11, .inr (1, [.int 0, .int 0, .int 0, .int 0, .int 0])), (q12, .inr (0, [.int 0, .int 0, .int 0, .int 0, .int 0]))] H := hP
  have hD : va_D F [(h0, .inr (6, [.ref q1, .ref (u9 1), .ref q5, .ref q8, .ref q11, .ref q12, .null, .int 0, .int 0, .int 0, .int 0, .int 0])), (q1, .inr (2, [.ref q2, .int (u4.1 0), .int (u4.1 1)])), (q2, .inl (c3, 96, .inl (u4.2 0))), (q5, .inr (3, [.ref q6, .int 0, .int 0, .int 0, .int 0])), (q6, .inl (c7, 34, .inl (fun _ => 0))), (q8, .inr (5, [.ref (u9 1), .ref (u9 3), .ref (u9 4), .int 0, .int 0, .int 0, .int 0, .int 0])), ((u9 1), .inr (4, [.ref (u9 2), .int 0, .int 0])), ((u9 2), .inl ((v10 0), 96, .inl (fun _ => 0))), ((u9 3), .inl ((v10 1), 10, .inl (fun _ => 0))), ((u9 4), .inl ((v10 2), 8, .inl (fun _ => 0))), (q11, .inr (1, [.int 0, .int 0, .int 0, .int 0, .int 0])), (q12, .inr (0, [.int 0, .int 0, .int 0, .int 0, .int 0]))] := hD
  refine lv_aload_n (pc := 70) hx hb d_T_init_70 rfl (lv_at hl 0 rfl) ?_
  refine lv_iconst (pc := 71) (v := 3) hx hb d_T_init_71 (by decide) ?_
  refine va_newa (pc := 72) (D := D) (atype := .int) (ty := .int) (a0 := (3, .inl (fun _ => 0))) hx hb (hts _ in_arr) rfl hK hP hD hS hA (fun _ => rfl) (by decide) (by decide) (by decide) (Nat.le_of_ble_eq_true rfl) (Nat.le_of_ble_eq_true rfl) d_T_init_72 (fun q13 c14 H hK hP hD hS => ?_)
  have hP : va_P D vwCl [(h0, .inr (6, [.ref q1, .ref (u9 1), .ref q5, .ref q8, .ref q11, .ref q12, .null, .int 0, .int 0, .int 0, .int 0, .int 0])), (q1, .inr (2, [.ref q2, .int (u4.1 0), .int (u4.1 1)])), (q2, .inl (c3, 96, .inl (u4.2 0))), (q5, .inr (3, [.ref q6, .int 0, .int 0, .int 0, .int 0])), (q6, .inl (c7, 34, .inl (fun _ => 0))), (q8, .inr (5, [.ref (u9 1), .ref (u9 3), .ref (u9 4), .int 0, .int 0, .int 0, .int 0, .int 0])), ((u9 1), .inr (4, [.ref (u9 2), .int 0, .int 0])), ((u9 2), .inl ((v10 0), 96, .inl (fun _ => 0))), ((u9 3), .inl ((v10 1), 10, .inl (fun _ => 0))), ((u9 4), .inl ((v10 2), 8, .inl (fun _ => 0))), (q11, .inr (1, [.int 0, .int 0, .int 0, .int 0, .int 0])), (q12, .inr (0, [.int 0, .int 0, .int 0, .int 0, .int 0])), (q13, .inl (c14, 3, .inl (fun _ => 0)))] H := hP
  have hD : va_D F [(h0, .inr (6, [.ref q1, .ref (u9 1), .ref q5, .ref q8, .ref q11, .ref q12, .null, .int 0, .int 0, .int 0, .int 0, .int 0])), (q1, .inr (2, [.ref q2, .int (u4.1 0), .int (u4.1 1)])), (q2, .inl (c3, 96, .inl (u4.2 0))), (q5, .inr (3, [.ref q6, .int 0, .int 0, .int 0, .int 0])), (q6, .inl (c7, 34, .inl (fun _ => 0))), (q8, .inr (5, [.ref (u9 1), .ref (u9 3), .ref (u9 4), .int 0, .int 0, .int 0, .int 0, .int 0])), ((u9 1), .inr (4, [.ref (u9 2), .int 0, .int 0])), ((u9 2), .inl ((v10 0), 96, .inl (fun _ => 0))), ((u9 3), .inl ((v10 1), 10, .inl (fun _ => 0))), ((u9 4), .inl ((v10 2), 8, .inl (fun _ => 0))), (q11, .inr (1, [.int 0, .int 0, .int 0, .int 0, .int 0])), (q12, .inr (0, [.int 0, .int 0, .int 0, .int 0, .int 0])), (q13, .inl (c14, 3, .inl (fun _ => 0)))] := hD
  have hK : va_K D vwCl [(c3, .int), (c7, .int), ((v10 0), .int), ((v10 1), .int), ((v10 2), .int), (c14, .int)] s := hK
  refine va_putF (D := D) (ci := 6) (v := .ref q13) (ty := .array .int) (C := R_T) (T := F_T) (N := 12) hx hb hts lays_T ty_T tyok_T nm_T hown hK hP hD hS 0 rfl rfl 6 (by decide) (hts _ in_211) (fun _ h => h) rfl hin rfl (by decide +kernel) rfl rfl (Nat.le_of_ble_eq_true rfl) d_T_init_74 (fun H locs hP hD hS => ?_)
  have hP : va_P D vwCl [(h0, .inr (6, [.ref q1, .ref (u9 1), .ref q5, .ref q8, .ref q11, .ref q12, .ref q13, .int 0, .int 0, .int 0, .int 0, .int 0])), (q1, .inr (2, [.ref q2, .int (u4.1 0), .int (u4.1 1)])), (q2, .inl (c3, 96, .inl (u4.2 0))), (q5, .inr (3, [.ref q6, .int 0, .int 0, .int 0, .int 0])), (q6, .inl (c7, 34, .inl (fun _ => 0))), (q8, .inr (5, [.ref (u9 1), .ref (u9 3), .ref (u9 4), .int 0, .int 0, .int 0, .int 0, .int 0])), ((u9 1), .inr (4, [.ref (u9 2), .int 0, .int 0])), ((u9 2), .inl ((v10 0), 96, .inl (fun _ => 0))), ((u9 3), .inl ((v10 1), 10, .inl (fun _ => 0))), ((u9 4), .inl ((v10 2), 8, .inl (fun _ => 0))), (q11, .inr (1, [.int 0, .int 0, .int 0, .int 0, .int 0])), (q12, .inr (0, [.int 0, .int 0, .int 0, .int 0, .int 0])), (q13, .inl (c14, 3, .inl (fun _ => 0)))] H := hP
  have hD : va_D F [(h0, .inr (6, [.ref q1, .ref (u9 1), .ref q5, .ref q8, .ref q11, .ref q12, .ref q13, .int 0, .int 0, .int 0, .int 0, .int 0])), (q1, .inr (2, [.ref q2, .int (u4.1 0), .int (u4.1 1)])), (q2, .inl (c3, 96, .inl (u4.2 0))), (q5, .inr (3, [.ref q6, .int 0, .int 0, .int 0, .int 0])), (q6, .inl (c7, 34, .inl (fun _ => 0))), (q8, .inr (5, [.ref (u9 1), .ref (u9 3), .ref (u9 4), .int 0, .int 0, .int 0, .int 0, .int 0])), ((u9 1), .inr (4, [.ref (u9 2), .int 0, .int 0])), ((u9 2), .inl ((v10 0), 96, .inl (fun _ => 0))), ((u9 3), .inl ((v10 1), 10, .inl (fun _ => 0))), ((u9 4), .inl ((v10 2), 8, .inl (fun _ => 0))), (q11, .inr (1, [.int 0, .int 0, .int 0, .int 0, .int 0])), (q12, .inr (0, [.int 0, .int 0, .int 0, .int 0, .int 0])), (q13, .inl (c14, 3, .inl (fun _ => 0)))] := hD
  have hT := aX_T_init l D (tl_q [h0, q1, q2, q5, q6, q8, (u9 1), (u9 2), (u9 3), (u9 4), q11, q12, q13]) (tl_q [c3, c7, (v10 0), (v10 1), (v10 2), c14]) (tl_S0 u4.1) (tl_A0 u4.2) (z := (p, e, s, m, [Value.ref h0].toArray, below, meth, c, F)) ⟨hx, hb, hml, hown, hts, hN, hK, hA, hlk, hr⟩ hw0
  refine tl_Wmono (tl_MQmono ?_) (hT ls H locs hl hP hD hS)
  intro o t ht
  obtain ⟨⟨u, h1, h2, h3, h4, h5⟩, h6⟩ := ht
  exact ⟨⟨((tl_q [h0, q1, q2, q5, q6, q8, (u9 1), (u9 2), (u9 3), (u9 4), q11, q12, q13], tl_q [c3, c7, (v10 0), (v10 1), (v10 2), c14]), u), h1, ⟨h2, rfl⟩, h3, h4, h5⟩, h6⟩
set_option maxHeartbeats 4000000 in
set_option maxRecDepth 100000 in
theorem cc_M (l : Launch) (D : va_G) (h0 sz : Nat) {post : SS → AA → Prop} (hw : wM_M_init post (fun i => if i = 12 then (-1 : Int32) else 0) (fun _ _ => 0)) : Met l y_M_init (Cond.code y_M_init b_M_init 2 none :: wsAll) (tl_Rc 4 5 254) (va_Pc [.ref h0] (tl_P0 D sz [(h0, .inr (7, [.null, .int 0, .int 0, .int 0, .int 0, .int 0, .int 0, .int 0, .int 0, .int 0, .int 0, .int 0, .int 0, .int 0, .int 0, .int 0, .int 0, .int 0, .int 0, .int 0, .int 0, .null, .int 0, .int 0, .int 0, .int 0, .null, .int 0, .null, .null]))])) (va_Qv (fun u : ((Nat → Nat) × (Nat → ClassId)) × tl_U => post u.2.1 u.2.2 ∧ u.1.1 0 = h0) (fun u t => va_P D vwCl (wM u.1.1 u.1.2 u.2) t.heap ∧ va_K D vwCl (tM u.1.2) t ∧ va_D (va_A [(h0, .inr (7, [.null, .int 0, .int 0, .int 0, .int 0, .int 0, .int 0, .int 0, .int 0, .int 0, .int 0, .int 0, .int 0, .int 0, .int 0, .int 0, .int 0, .int 0, .int 0, .int 0, .int 0, .null, .int 0, .int 0, .int 0, .int 0, .null, .int 0, .null, .null]))] sz) (wM u.1.1 u.1.2 u.2)) (va_A [(h0, .inr (7, [.null, .int 0, .int 0, .int 0, .int 0, .int 0, .int 0, .int 0, .int 0, .int 0, .int 0, .int 0, .int 0, .int 0, .int 0, .int 0, .int 0, .int 0, .int 0, .int 0, .int 0, .null, .int 0, .int 0, .int 0, .int 0, .null, .int 0, .null, .null]))] sz)) 5 254 (va_A [(h0, .inr (7, [.null, .int 0, .int 0, .int 0, .int 0, .int 0, .int 0, .int 0, .int 0, .int 0, .int 0, .int 0, .int 0, .int 0, .int 0, .int 0, .int 0, .int 0, .int 0, .int 0, .int 0, .null, .int 0, .int 0, .int 0, .int 0, .null, .int 0, .null, .null]))] sz) := by
  refine Met.ofW (cc := b_M_init) (maxL := 2) (ret := none) (by decide) rfl ?_
  intro p e s m args below meth c s₁ B hml hv
  obtain ⟨rfl, hsz, hP, hK, hD0, hN⟩ := hv
  have hx := B.exec
  have hb := B.bytes
  have hr := B.returns
  have hts : ∀ x ∈ wsAll, x.before [Value.ref h0].toArray s = true := fun x h => atoms_spec (ws := Cond.code y_M_init b_M_init 2 none :: wsAll) B.pre x (List.mem_cons_of_mem _ h)
  have hown : s.vm.findClass R_M = some m.cls := findClass_of_methodNamed B.named
  have hlk := B.notSynchronized
  have hin : meth.name = "<init>" := (name_of_methodNamed B.named B.method).1
  subst hsz
  have hD := hD0.self (sz := s.heap.size)
  generalize hAe : va_A [(h0, .inr (7, [.null, .int 0, .int 0, .int 0, .int 0, .int 0, .int 0, .int 0, .int 0, .int 0, .int 0, .int 0, .int 0, .int 0, .int 0, .int 0, .int 0, .int 0, .int 0, .int 0, .int 0, .null, .int 0, .int 0, .int 0, .int 0, .null, .int 0, .null, .null]))] s.heap.size = F at hD ⊢
  have hA : ∀ q : Nat, s.heap.size ≤ q → F q := fun q h => by rw [← hAe]; exact Or.inr h
  have hS : va_S F s.heap s.heap [] := va_S.rf
  have hP : va_P D vwCl [(h0, .inr (7, [.null, .int 0, .int 0, .int 0, .int 0, .int 0, .int 0, .int 0, .int 0, .int 0, .int 0, .int 0, .int 0, .int 0, .int 0, .int 0, .int 0, .int 0, .int 0, .int 0, .int 0, .null, .int 0, .int 0, .int 0, .int 0, .null, .int 0, .null, .null]))] s.heap := hP
  have hl := lv_entry ([.ref h0]) (n := 2) (Nat.le_of_ble_eq_true rfl)
  rw [lg_entry_eq]
  generalize (lg_sl ([.ref h0]) ++ List.replicate (2 - (lg_sl ([.ref h0])).length) Slot.unset).toArray = ls at hl ⊢
  have hl : lv_has ls 2 [(0, .ref h0)] := hl
  refine lv_aload_n (pc := 0) hx hb d_M_init_0 rfl (lv_at hl 0 rfl) ?_
  refine W.objInit hx hb hown (hts _ mo_M) (hts _ in_oinst) (hts _ in_ocode) rfl (by rw [hml]; exact hl.1) rfl d_M_init_1 (Nat.le_of_ble_eq_true rfl) (Nat.le_of_ble_eq_true rfl) ?_
  refine W.eq (g2 := F0 m 4 ls []) rfl ?_
  refine lv_aload_n (pc := 4) hx hb d_M_init_4 rfl (lv_at hl 0 rfl) ?_
  refine lv_bipush (pc := 5) (v := 96) hx hb d_M_init_5 (by decide) ?_
  refine va_newa (pc := 7) (D := D) (atype := .int) (ty := .int) (a0 := (96, .inl (fun _ => 0))) hx hb (hts _ in_arr) rfl hK hP hD hS hA (fun _ => rfl) (by decide) (by decide) (by decide) (Nat.le_of_ble_eq_true rfl) (Nat.le_of_ble_eq_true rfl) d_M_init_7 (fun q1 c2 H hK hP hD hS => ?_)
  have hP : va_P D vwCl [(h0, .inr (7, [.null, .int 0, .int 0, .int 0, .int 0, .int 0, .int 0, .int 0, .int 0, .int 0, .int 0, .int 0, .int 0, .int 0, .int 0, .int 0, .int 0, .int 0, .int 0, .int 0, .int 0, .null, .int 0, .int 0, .int 0, .int 0, .null, .int 0, .null, .null])), (q1, .inl (c2, 96, .inl (fun _ => 0)))] H := hP
  have hD : va_D F [(h0, .inr (7, [.null, .int 0, .int 0, .int 0, .int 0, .int 0, .int 0, .int 0, .int 0, .int 0, .int 0, .int 0, .int 0, .int 0, .int 0, .int 0, .int 0, .int 0, .int 0, .int 0, .int 0, .null, .int 0, .int 0, .int 0, .int 0, .null, .int 0, .null, .null])), (q1, .inl (c2, 96, .inl (fun _ => 0)))] := hD
  have hK : va_K D vwCl [(c2, .int)] s := hK
  refine va_putF (D := D) (ci := 7) (v := .ref q1) (ty := .array .int) (C := R_M) (T := F_M) (N := 30) hx hb hts lays_M ty_M tyok_M nm_M hown hK hP hD hS 0 rfl rfl 0 (by decide) (hts _ in_564) (fun _ h => h) rfl hin rfl (by decide +kernel) rfl rfl (Nat.le_of_ble_eq_true rfl) d_M_init_9 (fun H locs hP hD hS => ?_)
  have hP : va_P D vwCl [(h0, .inr (7, [.ref q1, .int 0, .int 0, .int 0, .int 0, .int 0, .int 0, .int 0, .int 0, .int 0, .int 0, .int 0, .int 0, .int 0, .int 0, .int 0, .int 0, .int 0, .int 0, .int 0, .int 0, .null, .int 0, .int 0, .int 0, .int 0, .null, .int 0, .null, .null])), (q1, .inl (c2, 96, .inl (fun _ => 0)))] H := hP
  have hD : va_D F [(h0, .inr (7, [.ref q1, .int 0, .int 0, .int 0, .int 0, .int 0, .int 0, .int 0, .int 0, .int 0, .int 0, .int 0, .int 0, .int 0, .int 0, .int 0, .int 0, .int 0, .int 0, .int 0, .int 0, .null, .int 0, .int 0, .int 0, .int 0, .null, .int 0, .null, .null])), (q1, .inl (c2, 96, .inl (fun _ => 0)))] := hD
  refine lv_aload_n (pc := 12) hx hb d_M_init_12 rfl (lv_at hl 0 rfl) ?_
  refine lv_iconst (pc := 13) (v := -1) hx hb d_M_init_13 (by decide) ?_
  refine va_put (pc := 14) (D := D) (ci := 7) (v := .int (-1)) (ty := .int) (C := R_M) (T := F_M) (N := 30) hx hb hts lays_M ty_M tyok_M nm_M hown hK hP hD hS 0 rfl rfl 13 (by decide) (hts _ in_577) (fun _ h => h) rfl (by decide +kernel) rfl rfl (Nat.le_of_ble_eq_true rfl) d_M_init_14 (fun H locs hP hD hS => ?_)
  have hP : va_P D vwCl [(h0, .inr (7, [.ref q1, .int 0, .int 0, .int 0, .int 0, .int 0, .int 0, .int 0, .int 0, .int 0, .int 0, .int 0, .int 0, .int (-1), .int 0, .int 0, .int 0, .int 0, .int 0, .int 0, .int 0, .null, .int 0, .int 0, .int 0, .int 0, .null, .int 0, .null, .null])), (q1, .inl (c2, 96, .inl (fun _ => 0)))] H := hP
  have hD : va_D F [(h0, .inr (7, [.ref q1, .int 0, .int 0, .int 0, .int 0, .int 0, .int 0, .int 0, .int 0, .int 0, .int 0, .int 0, .int 0, .int (-1), .int 0, .int 0, .int 0, .int 0, .int 0, .int 0, .int 0, .null, .int 0, .int 0, .int 0, .int 0, .null, .int 0, .null, .null])), (q1, .inl (c2, 96, .inl (fun _ => 0)))] := hD
  refine lv_aload_n (pc := 17) hx hb d_M_init_17 rfl (lv_at hl 0 rfl) ?_
  refine lv_bipush (pc := 18) (v := 34) hx hb d_M_init_18 (by decide) ?_
  refine va_newa (pc := 20) (D := D) (atype := .int) (ty := .int) (a0 := (34, .inl (fun _ => 0))) hx hb (hts _ in_arr) rfl hK hP hD hS hA (fun _ => rfl) (by decide) (by decide) (by decide) (Nat.le_of_ble_eq_true rfl) (Nat.le_of_ble_eq_true rfl) d_M_init_20 (fun q3 c4 H hK hP hD hS => ?_)
  have hP : va_P D vwCl [(h0, .inr (7, [.ref q1, .int 0, .int 0, .int 0, .int 0, .int 0, .int 0, .int 0, .int 0, .int 0, .int 0, .int 0, .int 0, .int (-1), .int 0, .int 0, .int 0, .int 0, .int 0, .int 0, .int 0, .null, .int 0, .int 0, .int 0, .int 0, .null, .int 0, .null, .null])), (q1, .inl (c2, 96, .inl (fun _ => 0))), (q3, .inl (c4, 34, .inl (fun _ => 0)))] H := hP
  have hD : va_D F [(h0, .inr (7, [.ref q1, .int 0, .int 0, .int 0, .int 0, .int 0, .int 0, .int 0, .int 0, .int 0, .int 0, .int 0, .int 0, .int (-1), .int 0, .int 0, .int 0, .int 0, .int 0, .int 0, .int 0, .null, .int 0, .int 0, .int 0, .int 0, .null, .int 0, .null, .null])), (q1, .inl (c2, 96, .inl (fun _ => 0))), (q3, .inl (c4, 34, .inl (fun _ => 0)))] := hD
  have hK : va_K D vwCl [(c2, .int), (c4, .int)] s := hK
  refine va_putF (D := D) (ci := 7) (v := .ref q3) (ty := .array .int) (C := R_M) (T := F_M) (N := 30) hx hb hts lays_M ty_M tyok_M nm_M hown hK hP hD hS 0 rfl rfl 21 (by decide) (hts _ in_585) (fun _ h => h) rfl hin rfl (by decide +kernel) rfl rfl (Nat.le_of_ble_eq_true rfl) d_M_init_22 (fun H locs hP hD hS => ?_)
  have hP : va_P D vwCl [(h0, .inr (7, [.ref q1, .int 0, .int 0, .int 0, .int 0, .int 0, .int 0, .int 0, .int 0, .int 0, .int 0, .int 0, .int 0, .int (-1), .int 0, .int 0, .int 0, .int 0, .int 0, .int 0, .int 0, .ref q3, .int 0, .int 0, .int 0, .int 0, .null, .int 0, .null, .null])), (q1, .inl (c2, 96, .inl (fun _ => 0))), (q3, .inl (c4, 34, .inl (fun _ => 0)))] H := hP
  have hD : va_D F [(h0, .inr (7, [.ref q1, .int 0, .int 0, .int 0, .int 0, .int 0, .int 0, .int 0, .int 0, .int 0, .int 0, .int 0, .int 0, .int (-1), .int 0, .int 0, .int 0, .int 0, .int 0, .int 0, .int 0, .ref q3, .int 0, .int 0, .int 0, .int 0, .null, .int 0, .null, .null])), (q1, .inl (c2, 96, .inl (fun _ => 0))), (q3, .inl (c4, 34, .inl (fun _ => 0)))] := hD
  refine lv_aload_n (pc := 25) hx hb d_M_init_25 rfl (lv_at hl 0 rfl) ?_
  refine lv_bipush (pc := 26) (v := 20) hx hb d_M_init_26 (by decide) ?_
  refine va_newa (pc := 28) (D := D) (atype := .int) (ty := .int) (a0 := (20, .inl (fun _ => 0))) hx hb (hts _ in_arr) rfl hK hP hD hS hA (fun _ => rfl) (by decide) (by decide) (by decide) (Nat.le_of_ble_eq_true rfl) (Nat.le_of_ble_eq_true rfl) d_M_init_28 (fun q5 c6 H hK hP hD hS => ?_)
  have hP : va_P D vwCl [(h0, .inr (7, [.ref q1, .int 0, .int 0, .int 0, .int 0, .int 0, .int 0, .int 0, .int 0, .int 0, .int 0, .int 0, .int 0, .int (-1), .int 0, .int 0, .int 0, .int 0, .int 0, .int 0, .int 0, .ref q3, .int 0, .int 0, .int 0, .int 0, .null, .int 0, .null, .null])), (q1, .inl (c2, 96, .inl (fun _ => 0))), (q3, .inl (c4, 34, .inl (fun _ => 0))), (q5, .inl (c6, 20, .inl (fun _ => 0)))] H := hP
  have hD : va_D F [(h0, .inr (7, [.ref q1, .int 0, .int 0, .int 0, .int 0, .int 0, .int 0, .int 0, .int 0, .int 0, .int 0, .int 0, .int 0, .int (-1), .int 0, .int 0, .int 0, .int 0, .int 0, .int 0, .int 0, .ref q3, .int 0, .int 0, .int 0, .int 0, .null, .int 0, .null, .null])), (q1, .inl (c2, 96, .inl (fun _ => 0))), (q3, .inl (c4, 34, .inl (fun _ => 0))), (q5, .inl (c6, 20, .inl (fun _ => 0)))] := hD
  have hK : va_K D vwCl [(c2, .int), (c4, .int), (c6, .int)] s := hK
  refine va_putF (D := D) (ci := 7) (v := .ref q5) (ty := .array .int) (C := R_M) (T := F_M) (N := 30) hx hb hts lays_M ty_M tyok_M nm_M hown hK hP hD hS 0 rfl rfl 26 (by decide) (hts _ in_590) (fun _ h => h) rfl hin rfl (by decide +kernel) rfl rfl (Nat.le_of_ble_eq_true rfl) d_M_init_30 (fun H locs hP hD hS => ?_)
  have hP : va_P D vwCl [(h0, .inr (7, [.ref q1, .int 0, .int 0, .int 0, .int 0, .int 0, .int 0, .int 0, .int 0, .int 0, .int 0, .int 0, .int 0, .int (-1), .int 0, .int 0, .int 0, .int 0, .int 0, .int 0, .int 0, .ref q3, .int 0, .int 0, .int 0, .int 0, .ref q5, .int 0, .null, .null])), (q1, .inl (c2, 96, .inl (fun _ => 0))), (q3, .inl (c4, 34, .inl (fun _ => 0))), (q5, .inl (c6, 20, .inl (fun _ => 0)))] H := hP
  have hD : va_D F [(h0, .inr (7, [.ref q1, .int 0, .int 0, .int 0, .int 0, .int 0, .int 0, .int 0, .int 0, .int 0, .int 0, .int 0, .int 0, .int (-1), .int 0, .int 0, .int 0, .int 0, .int 0, .int 0, .int 0, .ref q3, .int 0, .int 0, .int 0, .int 0, .ref q5, .int 0, .null, .null])), (q1, .inl (c2, 96, .inl (fun _ => 0))), (q3, .inl (c4, 34, .inl (fun _ => 0))), (q5, .inl (c6, 20, .inl (fun _ => 0)))] := hD
  refine lv_aload_n (pc := 33) hx hb d_M_init_33 rfl (lv_at hl 0 rfl) ?_
  refine lv_bipush (pc := 34) (v := 96) hx hb d_M_init_34 (by decide) ?_
  refine va_newa (pc := 36) (D := D) (atype := .int) (ty := .int) (a0 := (96, .inl (fun _ => 0))) hx hb (hts _ in_arr) rfl hK hP hD hS hA (fun _ => rfl) (by decide) (by decide) (by decide) (Nat.le_of_ble_eq_true rfl) (Nat.le_of_ble_eq_true rfl) d_M_init_36 (fun q7 c8 H hK hP hD hS => ?_)
  have hP : va_P D vwCl [(h0, .inr (7, [.ref q1, .int 0, .int 0, .int 0, .int 0, .int 0, .int 0, .int 0, .int 0, .int 0, .int 0, .int 0, .int 0, .int (-1), .int 0, .int 0, .int 0, .int 0, .int 0, .int 0, .int 0, .ref q3, .int 0, .int 0, .int 0, .int 0, .ref q5, .int 0, .null, .null])), (q1, .inl (c2, 96, .inl (fun _ => 0))), (q3, .inl (c4, 34, .inl (fun _ => 0))), (q5, .inl (c6, 20, .inl (fun _ => 0))), (q7, .inl (c8, 96, .inl (fun _ => 0)))] H := hP
  have hD : va_D F [(h0, .inr (7, [.ref q1, .int 0, .int 0, .int 0, .int 0, .int 0, .int 0, .int 0, .int 0, .int 0, .int 0, .int 0, .int 0, .int (-1), .int 0, .int 0, .int 0, .int 0, .int 0, .int 0, .int 0, .ref q3, .int 0, .int 0, .int 0, .int 0, .ref q5, .int 0, .null, .null])), (q1, .inl (c2, 96, .inl (fun _ => 0))), (q3, .inl (c4, 34, .inl (fun _ => 0))), (q5, .inl (c6, 20, .inl (fun _ => 0))), (q7, .inl (c8, 96, .inl (fun _ => 0)))] := hD
  have hK : va_K D vwCl [(c2, .int), (c4, .int), (c6, .int), (c8, .int)] s := hK
  refine va_putF (D := D) (ci := 7) (v := .ref q7) (ty := .array .int) (C := R_M) (T := F_M) (N := 30) hx hb hts lays_M ty_M tyok_M nm_M hown hK hP hD hS 0 rfl rfl 28 (by decide) (hts _ in_592) (fun _ h => h) rfl hin rfl (by decide +kernel) rfl rfl (Nat.le_of_ble_eq_true rfl) d_M_init_38 (fun H locs hP hD hS => ?_)
  have hP : va_P D vwCl [(h0, .inr (7, [.ref q1, .int 0, .int 0, .int 0, .int 0, .int 0, .int 0, .int 0, .int 0, .int 0, .int 0, .int 0, .int 0, .int (-1), .int 0, .int 0, .int 0, .int 0, .int 0, .int 0, .int 0, .ref q3, .int 0, .int 0, .int 0, .int 0, .ref q5, .int 0, .ref q7, .null])), (q1, .inl (c2, 96, .inl (fun _ => 0))), (q3, .inl (c4, 34, .inl (fun _ => 0))), (q5, .inl (c6, 20, .inl (fun _ => 0))), (q7, .inl (c8, 96, .inl (fun _ => 0)))] H := hP
  have hD : va_D F [(h0, .inr (7, [.ref q1, .int 0, .int 0, .int 0, .int 0, .int 0, .int 0, .int 0, .int 0, .int 0, .int 0, .int 0, .int 0, .int (-1), .int 0, .int 0, .int 0, .int 0, .int 0, .int 0, .int 0, .ref q3, .int 0, .int 0, .int 0, .int 0, .ref q5, .int 0, .ref q7, .null])), (q1, .inl (c2, 96, .inl (fun _ => 0))), (q3, .inl (c4, 34, .inl (fun _ => 0))), (q5, .inl (c6, 20, .inl (fun _ => 0))), (q7, .inl (c8, 96, .inl (fun _ => 0)))] := hD
  refine lv_aload_n (pc := 41) hx hb d_M_init_41 rfl (lv_at hl 0 rfl) ?_
  refine lv_bipush (pc := 42) (v := 8) hx hb d_M_init_42 (by decide) ?_
  refine va_newa (pc := 44) (D := D) (atype := .int) (ty := .int) (a0 := (8, .inl (fun _ => 0))) hx hb (hts _ in_arr) rfl hK hP hD hS hA (fun _ => rfl) (by decide) (by decide) (by decide) (Nat.le_of_ble_eq_true rfl) (Nat.le_of_ble_eq_true rfl) d_M_init_44 (fun q9 c10 H hK hP hD hS => ?_)
  have hP : va_P D vwCl [(h0, .inr (7, [.ref q1, .int 0, .int 0, .int 0, .int 0, .int 0, .int 0, .int 0, .int 0, .int 0, .int 0, .int 0, .int 0, .int (-1), .int 0, .int 0, .int 0, .int 0, .int 0, .int 0, .int 0, .ref q3, .int 0, .int 0, .int 0, .int 0, .ref q5, .int 0, .ref q7, .null])), (q1, .inl (c2, 96, .inl (fun _ => 0))), (q3, .inl (c4, 34, .inl (fun _ => 0))), (q5, .inl (c6, 20, .inl (fun _ => 0))), (q7, .inl (c8, 96, .inl (fun _ => 0))), (q9, .inl (c10, 8, .inl (fun _ => 0)))] H := hP
  have hD : va_D F [(h0, .inr (7, [.ref q1, .int 0, .int 0, .int 0, .int 0, .int 0, .int 0, .int 0, .int 0, .int 0, .int 0, .int 0, .int 0, .int (-1), .int 0, .int 0, .int 0, .int 0, .int 0, .int 0, .int 0, .ref q3, .int 0, .int 0, .int 0, .int 0, .ref q5, .int 0, .ref q7, .null])), (q1, .inl (c2, 96, .inl (fun _ => 0))), (q3, .inl (c4, 34, .inl (fun _ => 0))), (q5, .inl (c6, 20, .inl (fun _ => 0))), (q7, .inl (c8, 96, .inl (fun _ => 0))), (q9, .inl (c10, 8, .inl (fun _ => 0)))] := hD
  have hK : va_K D vwCl [(c2, .int), (c4, .int), (c6, .int), (c8, .int), (c10, .int)] s := hK
  refine va_putF (D := D) (ci := 7) (v := .ref q9) (ty := .array .int) (C := R_M) (T := F_M) (N := 30) hx hb hts lays_M ty_M tyok_M nm_M hown hK hP hD hS 0 rfl rfl 29 (by decide) (hts _ in_593) (fun _ h => h) rfl hin rfl (by decide +kernel) rfl rfl (Nat.le_of_ble_eq_true rfl) d_M_init_46 (fun H locs hP hD hS => ?_)
  have hP : va_P D vwCl [(h0, .inr (7, [.ref q1, .int 0, .int 0, .int 0, .int 0, .int 0, .int 0, .int 0, .int 0, .int 0, .int 0, .int 0, .int 0, .int (-1), .int 0, .int 0, .int 0, .int 0, .int 0, .int 0, .int 0, .ref q3, .int 0, .int 0, .int 0, .int 0, .ref q5, .int 0, .ref q7, .ref q9])), (q1, .inl (c2, 96, .inl (fun _ => 0))), (q3, .inl (c4, 34, .inl (fun _ => 0))), (q5, .inl (c6, 20, .inl (fun _ => 0))), (q7, .inl (c8, 96, .inl (fun _ => 0))), (q9, .inl (c10, 8, .inl (fun _ => 0)))] H := hP
  have hD : va_D F [(h0, .inr (7, [.ref q1, .int 0, .int 0, .int 0, .int 0, .int 0, .int 0, .int 0, .int 0, .int 0, .int 0, .int 0, .int 0, .int (-1), .int 0, .int 0, .int 0, .int 0, .int 0, .int 0, .int 0, .ref q3, .int 0, .int 0, .int 0, .int 0, .ref q5, .int 0, .ref q7, .ref q9])), (q1, .inl (c2, 96, .inl (fun _ => 0))), (q3, .inl (c4, 34, .inl (fun _ => 0))), (q5, .inl (c6, 20, .inl (fun _ => 0))), (q7, .inl (c8, 96, .inl (fun _ => 0))), (q9, .inl (c10, 8, .inl (fun _ => 0)))] := hD
  have hT := aM_M_init l D (tl_q [h0, q1, q3, q5, q7, q9]) (tl_q [c2, c4, c6, c8, c10]) (fun i => if i = 12 then (-1 : Int32) else 0) (fun _ _ => 0) (z := (p, e, s, m, [Value.ref h0].toArray, below, meth, c, F)) ⟨hx, hb, hml, hown, hts, hN, hK, hA, hlk, hr⟩ hw
  refine tl_Wmono (tl_MQmono ?_) (hT ls H locs hl hP hD hS)
  intro o t ht
  obtain ⟨⟨u, h1, h2, h3, h4, h5⟩, h6⟩ := ht
  exact ⟨⟨((tl_q [h0, q1, q3, q5, q7, q9], tl_q [c2, c4, c6, c8, c10]), u), h1, ⟨h2, rfl⟩, h3, h4, h5⟩, h6⟩
