/-- what a walk stands on: program, environment, state at the entry, method, arguments, frames below, its record, its code, the addresses that it may write -/
abbrev tl_Z := Program × Env × State × MethodId × Array Value × List Frame × Method × Code × (Nat → Prop)
abbrev tl_Z.p (z : tl_Z) : Program := z.1
abbrev tl_Z.e (z : tl_Z) : Env := z.2.1
abbrev tl_Z.s (z : tl_Z) : State := z.2.2.1
abbrev tl_Z.m (z : tl_Z) : MethodId := z.2.2.2.1
abbrev tl_Z.a (z : tl_Z) : Array Value := z.2.2.2.2.1
abbrev tl_Z.b (z : tl_Z) : List Frame := z.2.2.2.2.2.1
abbrev tl_Z.k (z : tl_Z) : Method := z.2.2.2.2.2.2.1
abbrev tl_Z.c (z : tl_Z) : Code := z.2.2.2.2.2.2.2.1
abbrev tl_Z.F (z : tl_Z) : Nat → Prop := z.2.2.2.2.2.2.2.2
def tl_Rc (d nc ns : Nat) : Room := { frames := d, cells := nc, slots := ns, locals := 40 * d }
abbrev tl_R (d : Nat) : Room := tl_Rc d 0 0
def tl_Cx (cc : ByteArray) (nL : Nat) (own : String) (ret : Option FieldType) (D : va_G) (tys : List (ClassId × FieldType)) (z : tl_Z) : Prop :=
  z.p.tables.exec = Jvm.exec ∧ z.c.code = cc ∧ z.c.maxLocals = nL ∧ z.s.vm.findClass own = some z.m.cls ∧ (∀ x ∈ wsAll, x.before z.a z.s = true) ∧ tl_NS z.s ∧ va_K D vwCl tys z.s ∧ (∀ q : Nat, z.s.heap.size ≤ q → z.F q) ∧ z.k.locks = false ∧ z.k.sig.returnType = ret
/-- the machine at pc, with these locals, this stack, and a heap that holds the world w u: it comes to an end with Q -/
def tl_At {σ : Type} (l : Launch) (R : Room) (nc ns : Nat) (Q : tl_Z → State → Prop) (D : va_G) (w : σ → va_W) (nL : Nat) (z : tl_Z) (pc : Nat) (lv : List (Nat × Value)) (st : List Value) (u : σ) : Prop :=
  ∀ (ls : Array Slot) (H : Heap) (locs : List Loc), lv_has ls nL lv → va_P D vwCl (w u) H → va_D z.F (w u) → va_S z.F z.s.heap H locs →
    W z.p l z.e R z.s z.m z.a z.b z.k z.c H locs nc ns (Q z) (F0 z.m pc ls st)
abbrev tl_U : Type := SS × AA
/-- a method's end -/
def tl_M (nc ns : Nat) (Qf : (Nat → Prop) → Array Value → State → Outcome → State → Prop) (z : tl_Z) : State → Prop := MQ z.b (Qf z.F) z.a z.s nc ns z.F
/-- the world behind a method -/
def tl_B (D : va_G) (w : tl_U → va_W) (tys : List (ClassId × FieldType)) (F : Nat → Prop) (u : tl_U) (t : State) : Prop := va_P D vwCl (w u) t.heap ∧ va_K D vwCl tys t ∧ va_D F (w u)
def tl_Qi (D : va_G) (w : tl_U → va_W) (tys : List (ClassId × FieldType)) (post : Int32 → SS → AA → Prop) (F : Nat → Prop) : Array Value → State → Outcome → State → Prop := va_Qi (fun r u => post r u.1 u.2) (tl_B D w tys F) F
def tl_Qv (D : va_G) (w : tl_U → va_W) (tys : List (ClassId × FieldType)) (post : SS → AA → Prop) (F : Nat → Prop) : Array Value → State → Outcome → State → Prop := va_Qv (fun u => post u.1 u.2) (tl_B D w tys F) F
def tl_Pre (D : va_G) (w : tl_U → va_W) (tys : List (ClassId × FieldType)) (sz : Nat) (u : tl_U) (U : State) : Prop := U.heap.size = sz ∧ va_P D vwCl (w u) U.heap ∧ va_K D vwCl tys U ∧ va_D (fun _ => True) (w u) ∧ tl_NS U
def tl_Met (l : Launch) (y : MethodName) (cc : ByteArray) (nL : Nat) (ret : Option FieldType) (R : Room) (D : va_G) (w : tl_U → va_W) (tys : List (ClassId × FieldType)) (sz : Nat) (avs : List Value) (u : tl_U) (Qf : (Nat → Prop) → Array Value → State → Outcome → State → Prop) : Prop :=
  Met l y (Cond.code y cc nL ret :: wsAll) R (va_Pc avs (tl_Pre D w tys sz u)) (Qf (va_A (w u) sz)) 0 0 (va_A (w u) sz)
theorem tl_met {l : Launch} {y : MethodName} {cc : ByteArray} {nL : Nat} {ret : Option FieldType} {R : Room} {D : va_G} {w : tl_U → va_W} {tys : List (ClassId × FieldType)} {sz : Nat} {avs : List Value} {u : tl_U} {Qf : (Nat → Prop) → Array Value → State → Outcome → State → Prop} {lv : List (Nat × Value)} {own : String}
    (hy : plainName y.cls = true) (hown : y.cls = own) (hlv : lv_args 0 avs = lv) (hn : (lg_sl avs).length ≤ nL)
    (body : ∀ z : tl_Z, tl_Cx cc nL own ret D tys z → tl_At l R 0 0 (tl_M 0 0 Qf) D w nL z 0 lv [] u) : tl_Met l y cc nL ret R D w tys sz avs u Qf := by
  refine Met.ofW (cc := cc) (maxL := nL) (ret := ret) hy rfl ?_
  intro p e s m args below meth c s₁ B hml hv
  obtain ⟨rfl, hsz, hP, hK, hD0, hN⟩ := hv
  have hts := atoms_spec (ws := Cond.code y cc nL ret :: wsAll) B.pre
  have ho : s.vm.findClass own = some m.cls := hown ▸ findClass_of_methodNamed B.named
  subst hsz
  have hD := hD0.self (sz := s.heap.size)
  generalize hAe : va_A (w u) s.heap.size = F at hD ⊢
  have hA : ∀ q : Nat, s.heap.size ≤ q → F q := fun q h => by rw [← hAe]; exact Or.inr h
  have hl := lv_entry avs (n := nL) hn
  rw [lg_entry_eq]
  rw [hlv] at hl
  exact body (p, e, s, m, avs.toArray, below, meth, c, F) ⟨B.exec, B.bytes, hml, ho, fun x h => hts x (List.mem_cons_of_mem _ h), hN, hK, hA, B.notSynchronized, B.returns⟩ _ _ _ hl hP hD va_S.rf

theorem tl_iconst {σ : Type} {l : Launch} {R : Room} {nc ns : Nat} {Q : tl_Z → State → Prop} {D : va_G} {w : σ → va_W} {nL : Nat} {z : tl_Z} {cc : ByteArray} {own : String} {ret : Option FieldType} {tys : List (ClassId × FieldType)} {pc : Nat} {lv : List (Nat × Value)} {rest : List Value} {u : σ} {n : Int} {v : Int32} (C : tl_Cx cc nL own ret D tys z) (hdg : decode cc pc = .ok (.iconst n, 1)) (hv : Int32.ofInt n = v) (kk : tl_At l R nc ns Q D w nL z (pc + 1) lv (.int v :: rest) u) : tl_At l R nc ns Q D w nL z pc lv (rest) u := by
  obtain ⟨p, e, s, m, args, below, meth, c, F⟩ := z
  exact fun ls H locs hl hP hD hS => lv_iconst C.1 C.2.1 hdg hv (kk ls H locs hl hP hD hS)
theorem tl_bipush {σ : Type} {l : Launch} {R : Room} {nc ns : Nat} {Q : tl_Z → State → Prop} {D : va_G} {w : σ → va_W} {nL : Nat} {z : tl_Z} {cc : ByteArray} {own : String} {ret : Option FieldType} {tys : List (ClassId × FieldType)} {pc : Nat} {lv : List (Nat × Value)} {rest : List Value} {u : σ} {n : Int} {v : Int32} (C : tl_Cx cc nL own ret D tys z) (hdg : decode cc pc = .ok (.bipush n, 2)) (hv : (Int8.ofInt n).toInt32 = v) (kk : tl_At l R nc ns Q D w nL z (pc + 2) lv (.int v :: rest) u) : tl_At l R nc ns Q D w nL z pc lv (rest) u := by
  obtain ⟨p, e, s, m, args, below, meth, c, F⟩ := z
  exact fun ls H locs hl hP hD hS => lv_bipush C.1 C.2.1 hdg hv (kk ls H locs hl hP hD hS)
theorem tl_sipush {σ : Type} {l : Launch} {R : Room} {nc ns : Nat} {Q : tl_Z → State → Prop} {D : va_G} {w : σ → va_W} {nL : Nat} {z : tl_Z} {cc : ByteArray} {own : String} {ret : Option FieldType} {tys : List (ClassId × FieldType)} {pc : Nat} {lv : List (Nat × Value)} {rest : List Value} {u : σ} {n : Int} {v : Int32} (C : tl_Cx cc nL own ret D tys z) (hdg : decode cc pc = .ok (.sipush n, 3)) (hv : (Int16.ofInt n).toInt32 = v) (kk : tl_At l R nc ns Q D w nL z (pc + 3) lv (.int v :: rest) u) : tl_At l R nc ns Q D w nL z pc lv (rest) u := by
  obtain ⟨p, e, s, m, args, below, meth, c, F⟩ := z
  exact fun ls H locs hl hP hD hS => lv_sipush C.1 C.2.1 hdg hv (kk ls H locs hl hP hD hS)
theorem tl_iadd {σ : Type} {l : Launch} {R : Room} {nc ns : Nat} {Q : tl_Z → State → Prop} {D : va_G} {w : σ → va_W} {nL : Nat} {z : tl_Z} {cc : ByteArray} {own : String} {ret : Option FieldType} {tys : List (ClassId × FieldType)} {pc : Nat} {lv : List (Nat × Value)} {rest : List Value} {u : σ} {x y : Int32} (C : tl_Cx cc nL own ret D tys z) (hdg : decode cc pc = .ok (.iadd, 1))  (kk : tl_At l R nc ns Q D w nL z (pc + 1) lv (.int (x + y) :: rest) u) : tl_At l R nc ns Q D w nL z pc lv (.int y :: .int x :: rest) u := by
  obtain ⟨p, e, s, m, args, below, meth, c, F⟩ := z
  exact fun ls H locs hl hP hD hS => lv_iadd C.1 C.2.1 hdg  (kk ls H locs hl hP hD hS)
theorem tl_isub {σ : Type} {l : Launch} {R : Room} {nc ns : Nat} {Q : tl_Z → State → Prop} {D : va_G} {w : σ → va_W} {nL : Nat} {z : tl_Z} {cc : ByteArray} {own : String} {ret : Option FieldType} {tys : List (ClassId × FieldType)} {pc : Nat} {lv : List (Nat × Value)} {rest : List Value} {u : σ} {x y : Int32} (C : tl_Cx cc nL own ret D tys z) (hdg : decode cc pc = .ok (.isub, 1))  (kk : tl_At l R nc ns Q D w nL z (pc + 1) lv (.int (x - y) :: rest) u) : tl_At l R nc ns Q D w nL z pc lv (.int y :: .int x :: rest) u := by
  obtain ⟨p, e, s, m, args, below, meth, c, F⟩ := z
  exact fun ls H locs hl hP hD hS => lv_isub C.1 C.2.1 hdg  (kk ls H locs hl hP hD hS)
theorem tl_imul {σ : Type} {l : Launch} {R : Room} {nc ns : Nat} {Q : tl_Z → State → Prop} {D : va_G} {w : σ → va_W} {nL : Nat} {z : tl_Z} {cc : ByteArray} {own : String} {ret : Option FieldType} {tys : List (ClassId × FieldType)} {pc : Nat} {lv : List (Nat × Value)} {rest : List Value} {u : σ} {x y : Int32} (C : tl_Cx cc nL own ret D tys z) (hdg : decode cc pc = .ok (.imul, 1))  (kk : tl_At l R nc ns Q D w nL z (pc + 1) lv (.int (x * y) :: rest) u) : tl_At l R nc ns Q D w nL z pc lv (.int y :: .int x :: rest) u := by
  obtain ⟨p, e, s, m, args, below, meth, c, F⟩ := z
  exact fun ls H locs hl hP hD hS => lv_imul C.1 C.2.1 hdg  (kk ls H locs hl hP hD hS)
theorem tl_iand {σ : Type} {l : Launch} {R : Room} {nc ns : Nat} {Q : tl_Z → State → Prop} {D : va_G} {w : σ → va_W} {nL : Nat} {z : tl_Z} {cc : ByteArray} {own : String} {ret : Option FieldType} {tys : List (ClassId × FieldType)} {pc : Nat} {lv : List (Nat × Value)} {rest : List Value} {u : σ} {x y : Int32} (C : tl_Cx cc nL own ret D tys z) (hdg : decode cc pc = .ok (.iand, 1))  (kk : tl_At l R nc ns Q D w nL z (pc + 1) lv (.int (x &&& y) :: rest) u) : tl_At l R nc ns Q D w nL z pc lv (.int y :: .int x :: rest) u := by
  obtain ⟨p, e, s, m, args, below, meth, c, F⟩ := z
  exact fun ls H locs hl hP hD hS => lv_iand C.1 C.2.1 hdg  (kk ls H locs hl hP hD hS)
theorem tl_ior {σ : Type} {l : Launch} {R : Room} {nc ns : Nat} {Q : tl_Z → State → Prop} {D : va_G} {w : σ → va_W} {nL : Nat} {z : tl_Z} {cc : ByteArray} {own : String} {ret : Option FieldType} {tys : List (ClassId × FieldType)} {pc : Nat} {lv : List (Nat × Value)} {rest : List Value} {u : σ} {x y : Int32} (C : tl_Cx cc nL own ret D tys z) (hdg : decode cc pc = .ok (.ior, 1))  (kk : tl_At l R nc ns Q D w nL z (pc + 1) lv (.int (x ||| y) :: rest) u) : tl_At l R nc ns Q D w nL z pc lv (.int y :: .int x :: rest) u := by
  obtain ⟨p, e, s, m, args, below, meth, c, F⟩ := z
  exact fun ls H locs hl hP hD hS => lv_ior C.1 C.2.1 hdg  (kk ls H locs hl hP hD hS)
theorem tl_ixor {σ : Type} {l : Launch} {R : Room} {nc ns : Nat} {Q : tl_Z → State → Prop} {D : va_G} {w : σ → va_W} {nL : Nat} {z : tl_Z} {cc : ByteArray} {own : String} {ret : Option FieldType} {tys : List (ClassId × FieldType)} {pc : Nat} {lv : List (Nat × Value)} {rest : List Value} {u : σ} {x y : Int32} (C : tl_Cx cc nL own ret D tys z) (hdg : decode cc pc = .ok (.ixor, 1))  (kk : tl_At l R nc ns Q D w nL z (pc + 1) lv (.int (x ^^^ y) :: rest) u) : tl_At l R nc ns Q D w nL z pc lv (.int y :: .int x :: rest) u := by
  obtain ⟨p, e, s, m, args, below, meth, c, F⟩ := z
  exact fun ls H locs hl hP hD hS => lv_ixor C.1 C.2.1 hdg  (kk ls H locs hl hP hD hS)
theorem tl_ishl {σ : Type} {l : Launch} {R : Room} {nc ns : Nat} {Q : tl_Z → State → Prop} {D : va_G} {w : σ → va_W} {nL : Nat} {z : tl_Z} {cc : ByteArray} {own : String} {ret : Option FieldType} {tys : List (ClassId × FieldType)} {pc : Nat} {lv : List (Nat × Value)} {rest : List Value} {u : σ} {x y : Int32} (C : tl_Cx cc nL own ret D tys z) (hdg : decode cc pc = .ok (.ishl, 1))  (kk : tl_At l R nc ns Q D w nL z (pc + 1) lv (.int (x <<< (y &&& 31)) :: rest) u) : tl_At l R nc ns Q D w nL z pc lv (.int y :: .int x :: rest) u := by
  obtain ⟨p, e, s, m, args, below, meth, c, F⟩ := z
  exact fun ls H locs hl hP hD hS => lv_ishl C.1 C.2.1 hdg  (kk ls H locs hl hP hD hS)
theorem tl_ishr {σ : Type} {l : Launch} {R : Room} {nc ns : Nat} {Q : tl_Z → State → Prop} {D : va_G} {w : σ → va_W} {nL : Nat} {z : tl_Z} {cc : ByteArray} {own : String} {ret : Option FieldType} {tys : List (ClassId × FieldType)} {pc : Nat} {lv : List (Nat × Value)} {rest : List Value} {u : σ} {x y : Int32} (C : tl_Cx cc nL own ret D tys z) (hdg : decode cc pc = .ok (.ishr, 1))  (kk : tl_At l R nc ns Q D w nL z (pc + 1) lv (.int (x >>> (y &&& 31)) :: rest) u) : tl_At l R nc ns Q D w nL z pc lv (.int y :: .int x :: rest) u := by
  obtain ⟨p, e, s, m, args, below, meth, c, F⟩ := z
  exact fun ls H locs hl hP hD hS => lv_ishr C.1 C.2.1 hdg  (kk ls H locs hl hP hD hS)
theorem tl_iushr {σ : Type} {l : Launch} {R : Room} {nc ns : Nat} {Q : tl_Z → State → Prop} {D : va_G} {w : σ → va_W} {nL : Nat} {z : tl_Z} {cc : ByteArray} {own : String} {ret : Option FieldType} {tys : List (ClassId × FieldType)} {pc : Nat} {lv : List (Nat × Value)} {rest : List Value} {u : σ} {x y : Int32} (C : tl_Cx cc nL own ret D tys z) (hdg : decode cc pc = .ok (.iushr, 1))  (kk : tl_At l R nc ns Q D w nL z (pc + 1) lv (.int (x.toUInt32 >>> (y.toUInt32 &&& Int32.toUInt32 31)).toInt32 :: rest) u) : tl_At l R nc ns Q D w nL z pc lv (.int y :: .int x :: rest) u := by
  obtain ⟨p, e, s, m, args, below, meth, c, F⟩ := z
  exact fun ls H locs hl hP hD hS => lv_iushr C.1 C.2.1 hdg rfl (kk ls H locs hl hP hD hS)
theorem tl_idiv {σ : Type} {l : Launch} {R : Room} {nc ns : Nat} {Q : tl_Z → State → Prop} {D : va_G} {w : σ → va_W} {nL : Nat} {z : tl_Z} {cc : ByteArray} {own : String} {ret : Option FieldType} {tys : List (ClassId × FieldType)} {pc : Nat} {lv : List (Nat × Value)} {rest : List Value} {u : σ} {x y : Int32} (C : tl_Cx cc nL own ret D tys z) (hdg : decode cc pc = .ok (.idiv, 1)) (hne : ¬ y = 0) (kk : tl_At l R nc ns Q D w nL z (pc + 1) lv (.int (x / y) :: rest) u) : tl_At l R nc ns Q D w nL z pc lv (.int y :: .int x :: rest) u := by
  obtain ⟨p, e, s, m, args, below, meth, c, F⟩ := z
  exact fun ls H locs hl hP hD hS => lv_idiv C.1 C.2.1 hdg hne (kk ls H locs hl hP hD hS)
theorem tl_irem {σ : Type} {l : Launch} {R : Room} {nc ns : Nat} {Q : tl_Z → State → Prop} {D : va_G} {w : σ → va_W} {nL : Nat} {z : tl_Z} {cc : ByteArray} {own : String} {ret : Option FieldType} {tys : List (ClassId × FieldType)} {pc : Nat} {lv : List (Nat × Value)} {rest : List Value} {u : σ} {x y : Int32} (C : tl_Cx cc nL own ret D tys z) (hdg : decode cc pc = .ok (.irem, 1)) (hne : ¬ y = 0) (kk : tl_At l R nc ns Q D w nL z (pc + 1) lv (.int (x - x / y * y) :: rest) u) : tl_At l R nc ns Q D w nL z pc lv (.int y :: .int x :: rest) u := by
  obtain ⟨p, e, s, m, args, below, meth, c, F⟩ := z
  exact fun ls H locs hl hP hD hS => lv_irem C.1 C.2.1 hdg hne (kk ls H locs hl hP hD hS)
theorem tl_dup {σ : Type} {l : Launch} {R : Room} {nc ns : Nat} {Q : tl_Z → State → Prop} {D : va_G} {w : σ → va_W} {nL : Nat} {z : tl_Z} {cc : ByteArray} {own : String} {ret : Option FieldType} {tys : List (ClassId × FieldType)} {pc : Nat} {lv : List (Nat × Value)} {rest : List Value} {u : σ} {va : Value} (C : tl_Cx cc nL own ret D tys z) (hdg : decode cc pc = .ok (.dup, 1)) (hva : va.category = 1) (kk : tl_At l R nc ns Q D w nL z (pc + 1) lv (va :: va :: rest) u) : tl_At l R nc ns Q D w nL z pc lv (va :: rest) u := by
  obtain ⟨p, e, s, m, args, below, meth, c, F⟩ := z
  exact fun ls H locs hl hP hD hS => lv_dup C.1 C.2.1 hdg hva (kk ls H locs hl hP hD hS)
theorem tl_pop {σ : Type} {l : Launch} {R : Room} {nc ns : Nat} {Q : tl_Z → State → Prop} {D : va_G} {w : σ → va_W} {nL : Nat} {z : tl_Z} {cc : ByteArray} {own : String} {ret : Option FieldType} {tys : List (ClassId × FieldType)} {pc : Nat} {lv : List (Nat × Value)} {rest : List Value} {u : σ} {va : Value} (C : tl_Cx cc nL own ret D tys z) (hdg : decode cc pc = .ok (.pop, 1)) (hva : va.category = 1) (kk : tl_At l R nc ns Q D w nL z (pc + 1) lv (rest) u) : tl_At l R nc ns Q D w nL z pc lv (va :: rest) u := by
  obtain ⟨p, e, s, m, args, below, meth, c, F⟩ := z
  exact fun ls H locs hl hP hD hS => lv_pop C.1 C.2.1 hdg hva (kk ls H locs hl hP hD hS)
theorem tl_dup_x1 {σ : Type} {l : Launch} {R : Room} {nc ns : Nat} {Q : tl_Z → State → Prop} {D : va_G} {w : σ → va_W} {nL : Nat} {z : tl_Z} {cc : ByteArray} {own : String} {ret : Option FieldType} {tys : List (ClassId × FieldType)} {pc : Nat} {lv : List (Nat × Value)} {rest : List Value} {u : σ} {va vb : Value} (C : tl_Cx cc nL own ret D tys z) (hdg : decode cc pc = .ok (.dup_x1, 1)) (hva : va.category = 1) (hvb : vb.category = 1) (kk : tl_At l R nc ns Q D w nL z (pc + 1) lv (va :: vb :: va :: rest) u) : tl_At l R nc ns Q D w nL z pc lv (va :: vb :: rest) u := by
  obtain ⟨p, e, s, m, args, below, meth, c, F⟩ := z
  exact fun ls H locs hl hP hD hS => lv_dup_x1 C.1 C.2.1 hdg hva hvb (kk ls H locs hl hP hD hS)
theorem tl_dup2 {σ : Type} {l : Launch} {R : Room} {nc ns : Nat} {Q : tl_Z → State → Prop} {D : va_G} {w : σ → va_W} {nL : Nat} {z : tl_Z} {cc : ByteArray} {own : String} {ret : Option FieldType} {tys : List (ClassId × FieldType)} {pc : Nat} {lv : List (Nat × Value)} {rest : List Value} {u : σ} {va vb : Value} (C : tl_Cx cc nL own ret D tys z) (hdg : decode cc pc = .ok (.dup2, 1)) (hva : va.category = 1) (hvb : vb.category = 1) (kk : tl_At l R nc ns Q D w nL z (pc + 1) lv (va :: vb :: va :: vb :: rest) u) : tl_At l R nc ns Q D w nL z pc lv (va :: vb :: rest) u := by
  obtain ⟨p, e, s, m, args, below, meth, c, F⟩ := z
  exact fun ls H locs hl hP hD hS => lv_dup2_11 C.1 C.2.1 hdg hva hvb (kk ls H locs hl hP hD hS)
theorem tl_iload_n {σ : Type} {l : Launch} {R : Room} {nc ns : Nat} {Q : tl_Z → State → Prop} {D : va_G} {w : σ → va_W} {nL : Nat} {z : tl_Z} {cc : ByteArray} {own : String} {ret : Option FieldType} {tys : List (ClassId × FieldType)} {pc : Nat} {lv : List (Nat × Value)} {rest : List Value} {u : σ} {k : Fin 4} {i : Nat} {x : Int32} (C : tl_Cx cc nL own ret D tys z) (hdg : decode cc pc = .ok (.iload_n k, 1)) (hi : (k : Nat) = i) (j : Nat) (hj : lv[j]? = some (i, .int x)) (kk : tl_At l R nc ns Q D w nL z (pc + 1) lv (.int x :: rest) u) : tl_At l R nc ns Q D w nL z pc lv (rest) u := by
  obtain ⟨p, e, s, m, args, below, meth, c, F⟩ := z
  exact fun ls H locs hl hP hD hS => lv_iload_n C.1 C.2.1 hdg hi (lv_at hl j hj) (kk ls H locs hl hP hD hS)
theorem tl_iload {σ : Type} {l : Launch} {R : Room} {nc ns : Nat} {Q : tl_Z → State → Prop} {D : va_G} {w : σ → va_W} {nL : Nat} {z : tl_Z} {cc : ByteArray} {own : String} {ret : Option FieldType} {tys : List (ClassId × FieldType)} {pc : Nat} {lv : List (Nat × Value)} {rest : List Value} {u : σ} {i : Nat} {x : Int32} (C : tl_Cx cc nL own ret D tys z) (hdg : decode cc pc = .ok (.iload i, 2)) (j : Nat) (hj : lv[j]? = some (i, .int x)) (kk : tl_At l R nc ns Q D w nL z (pc + 2) lv (.int x :: rest) u) : tl_At l R nc ns Q D w nL z pc lv (rest) u := by
  obtain ⟨p, e, s, m, args, below, meth, c, F⟩ := z
  exact fun ls H locs hl hP hD hS => lv_iload C.1 C.2.1 hdg (lv_at hl j hj) (kk ls H locs hl hP hD hS)
theorem tl_aload_n {σ : Type} {l : Launch} {R : Room} {nc ns : Nat} {Q : tl_Z → State → Prop} {D : va_G} {w : σ → va_W} {nL : Nat} {z : tl_Z} {cc : ByteArray} {own : String} {ret : Option FieldType} {tys : List (ClassId × FieldType)} {pc : Nat} {lv : List (Nat × Value)} {rest : List Value} {u : σ} {k : Fin 4} {i : Nat} {x : Nat} (C : tl_Cx cc nL own ret D tys z) (hdg : decode cc pc = .ok (.aload_n k, 1)) (hi : (k : Nat) = i) (j : Nat) (hj : lv[j]? = some (i, .ref x)) (kk : tl_At l R nc ns Q D w nL z (pc + 1) lv (.ref x :: rest) u) : tl_At l R nc ns Q D w nL z pc lv (rest) u := by
  obtain ⟨p, e, s, m, args, below, meth, c, F⟩ := z
  exact fun ls H locs hl hP hD hS => lv_aload_n C.1 C.2.1 hdg hi (lv_at hl j hj) (kk ls H locs hl hP hD hS)
theorem tl_aload {σ : Type} {l : Launch} {R : Room} {nc ns : Nat} {Q : tl_Z → State → Prop} {D : va_G} {w : σ → va_W} {nL : Nat} {z : tl_Z} {cc : ByteArray} {own : String} {ret : Option FieldType} {tys : List (ClassId × FieldType)} {pc : Nat} {lv : List (Nat × Value)} {rest : List Value} {u : σ} {i : Nat} {x : Nat} (C : tl_Cx cc nL own ret D tys z) (hdg : decode cc pc = .ok (.aload i, 2)) (j : Nat) (hj : lv[j]? = some (i, .ref x)) (kk : tl_At l R nc ns Q D w nL z (pc + 2) lv (.ref x :: rest) u) : tl_At l R nc ns Q D w nL z pc lv (rest) u := by
  obtain ⟨p, e, s, m, args, below, meth, c, F⟩ := z
  exact fun ls H locs hl hP hD hS => lv_aload C.1 C.2.1 hdg (lv_at hl j hj) (kk ls H locs hl hP hD hS)
theorem tl_istore_n {σ : Type} {l : Launch} {R : Room} {nc ns : Nat} {Q : tl_Z → State → Prop} {D : va_G} {w : σ → va_W} {nL : Nat} {z : tl_Z} {cc : ByteArray} {own : String} {ret : Option FieldType} {tys : List (ClassId × FieldType)} {pc : Nat} {lv : List (Nat × Value)} {rest : List Value} {u : σ} {lv' : List (Nat × Value)} {k : Fin 4} {i : Nat} {x : Int32} (C : tl_Cx cc nL own ret D tys z) (hdg : decode cc pc = .ok (.istore_n k, 1)) (hi : (k : Nat) = i) (hn : i < nL) (hl0 : (i, Value.int x) :: lv.filter (fun q => !(q.1 == i) && !(q.1 + 1 == i && q.2.category == 2)) = lv') (kk : tl_At l R nc ns Q D w nL z (pc + 1) lv' (rest) u) : tl_At l R nc ns Q D w nL z pc lv (.int x :: rest) u := by
  obtain ⟨p, e, s, m, args, below, meth, c, F⟩ := z
  exact fun ls H locs hl hP hD hS => lv_istore_n C.1 C.2.1 hdg hi hl hn hl0 (fun ls hl => kk ls H locs hl hP hD hS)
theorem tl_istore {σ : Type} {l : Launch} {R : Room} {nc ns : Nat} {Q : tl_Z → State → Prop} {D : va_G} {w : σ → va_W} {nL : Nat} {z : tl_Z} {cc : ByteArray} {own : String} {ret : Option FieldType} {tys : List (ClassId × FieldType)} {pc : Nat} {lv : List (Nat × Value)} {rest : List Value} {u : σ} {lv' : List (Nat × Value)} {i : Nat} {x : Int32} (C : tl_Cx cc nL own ret D tys z) (hdg : decode cc pc = .ok (.istore i, 2)) (hn : i < nL) (hl0 : (i, Value.int x) :: lv.filter (fun q => !(q.1 == i) && !(q.1 + 1 == i && q.2.category == 2)) = lv') (kk : tl_At l R nc ns Q D w nL z (pc + 2) lv' (rest) u) : tl_At l R nc ns Q D w nL z pc lv (.int x :: rest) u := by
  obtain ⟨p, e, s, m, args, below, meth, c, F⟩ := z
  exact fun ls H locs hl hP hD hS => lv_istore C.1 C.2.1 hdg hl hn hl0 (fun ls hl => kk ls H locs hl hP hD hS)
theorem tl_astore_n {σ : Type} {l : Launch} {R : Room} {nc ns : Nat} {Q : tl_Z → State → Prop} {D : va_G} {w : σ → va_W} {nL : Nat} {z : tl_Z} {cc : ByteArray} {own : String} {ret : Option FieldType} {tys : List (ClassId × FieldType)} {pc : Nat} {lv : List (Nat × Value)} {rest : List Value} {u : σ} {lv' : List (Nat × Value)} {k : Fin 4} {i : Nat} {x : Nat} (C : tl_Cx cc nL own ret D tys z) (hdg : decode cc pc = .ok (.astore_n k, 1)) (hi : (k : Nat) = i) (hn : i < nL) (hl0 : (i, Value.ref x) :: lv.filter (fun q => !(q.1 == i) && !(q.1 + 1 == i && q.2.category == 2)) = lv') (kk : tl_At l R nc ns Q D w nL z (pc + 1) lv' (rest) u) : tl_At l R nc ns Q D w nL z pc lv (.ref x :: rest) u := by
  obtain ⟨p, e, s, m, args, below, meth, c, F⟩ := z
  exact fun ls H locs hl hP hD hS => lv_astore_n C.1 C.2.1 hdg hi hl hn hl0 (fun ls hl => kk ls H locs hl hP hD hS)
theorem tl_astore {σ : Type} {l : Launch} {R : Room} {nc ns : Nat} {Q : tl_Z → State → Prop} {D : va_G} {w : σ → va_W} {nL : Nat} {z : tl_Z} {cc : ByteArray} {own : String} {ret : Option FieldType} {tys : List (ClassId × FieldType)} {pc : Nat} {lv : List (Nat × Value)} {rest : List Value} {u : σ} {lv' : List (Nat × Value)} {i : Nat} {x : Nat} (C : tl_Cx cc nL own ret D tys z) (hdg : decode cc pc = .ok (.astore i, 2)) (hn : i < nL) (hl0 : (i, Value.ref x) :: lv.filter (fun q => !(q.1 == i) && !(q.1 + 1 == i && q.2.category == 2)) = lv') (kk : tl_At l R nc ns Q D w nL z (pc + 2) lv' (rest) u) : tl_At l R nc ns Q D w nL z pc lv (.ref x :: rest) u := by
  obtain ⟨p, e, s, m, args, below, meth, c, F⟩ := z
  exact fun ls H locs hl hP hD hS => lv_astore C.1 C.2.1 hdg hl hn hl0 (fun ls hl => kk ls H locs hl hP hD hS)
theorem tl_iinc {σ : Type} {l : Launch} {R : Room} {nc ns : Nat} {Q : tl_Z → State → Prop} {D : va_G} {w : σ → va_W} {nL : Nat} {z : tl_Z} {cc : ByteArray} {own : String} {ret : Option FieldType} {tys : List (ClassId × FieldType)} {pc : Nat} {lv : List (Nat × Value)} {rest : List Value} {u : σ} {lv' : List (Nat × Value)} {i : Nat} {n : Int} {x v dv : Int32} (C : tl_Cx cc nL own ret D tys z) (hdg : decode cc pc = .ok (.iinc i n, 3)) (hd : Int32.ofInt n = dv) (j : Nat) (hj : lv[j]? = some (i, .int x)) (hv : x + dv = v) (hn : i < nL) (hl0 : (i, Value.int v) :: lv.filter (fun q => !(q.1 == i) && !(q.1 + 1 == i && q.2.category == 2)) = lv') (kk : tl_At l R nc ns Q D w nL z (pc + 3) lv' (rest) u) : tl_At l R nc ns Q D w nL z pc lv (rest) u := by
  subst hd
  obtain ⟨p, e, s, m, args, below, meth, c, F⟩ := z
  exact fun ls H locs hl hP hD hS => lv_iinc C.1 C.2.1 hdg hl hj hv hn hl0 (fun ls hl => kk ls H locs hl hP hD hS)
theorem tl_if_eq {σ : Type} {l : Launch} {R : Room} {nc ns : Nat} {Q : tl_Z → State → Prop} {D : va_G} {w : σ → va_W} {nL : Nat} {z : tl_Z} {cc : ByteArray} {own : String} {ret : Option FieldType} {tys : List (ClassId × FieldType)} {pc : Nat} {lv : List (Nat × Value)} {rest : List Value} {u : σ} {x : Int32} {off : Int} {tgt : Nat} (C : tl_Cx cc nL own ret D tys z) (hdg : decode cc pc = .ok (.ifCond .eq off, 3)) (ht : (pc : Int) + off = (tgt : Int)) (kt : x = 0 → tl_At l R nc ns Q D w nL z tgt lv (rest) u) (kf : ¬ x = 0 → tl_At l R nc ns Q D w nL z (pc + 3) lv (rest) u) : tl_At l R nc ns Q D w nL z pc lv (.int x :: rest) u := by
  obtain ⟨p, e, s, m, args, below, meth, c, F⟩ := z
  exact fun ls H locs hl hP hD hS => lv_if_eq C.1 C.2.1 hdg ht (fun h => kt h ls H locs hl hP hD hS) (fun h => kf h ls H locs hl hP hD hS)
theorem tl_icmp_eq {σ : Type} {l : Launch} {R : Room} {nc ns : Nat} {Q : tl_Z → State → Prop} {D : va_G} {w : σ → va_W} {nL : Nat} {z : tl_Z} {cc : ByteArray} {own : String} {ret : Option FieldType} {tys : List (ClassId × FieldType)} {pc : Nat} {lv : List (Nat × Value)} {rest : List Value} {u : σ} {x y : Int32} {off : Int} {tgt : Nat} (C : tl_Cx cc nL own ret D tys z) (hdg : decode cc pc = .ok (.if_icmp .eq off, 3)) (ht : (pc : Int) + off = (tgt : Int)) (kt : x = y → tl_At l R nc ns Q D w nL z tgt lv (rest) u) (kf : ¬ x = y → tl_At l R nc ns Q D w nL z (pc + 3) lv (rest) u) : tl_At l R nc ns Q D w nL z pc lv (.int y :: .int x :: rest) u := by
  obtain ⟨p, e, s, m, args, below, meth, c, F⟩ := z
  exact fun ls H locs hl hP hD hS => lv_icmp_eq C.1 C.2.1 hdg ht (fun h => kt h ls H locs hl hP hD hS) (fun h => kf h ls H locs hl hP hD hS)
theorem tl_if_ne {σ : Type} {l : Launch} {R : Room} {nc ns : Nat} {Q : tl_Z → State → Prop} {D : va_G} {w : σ → va_W} {nL : Nat} {z : tl_Z} {cc : ByteArray} {own : String} {ret : Option FieldType} {tys : List (ClassId × FieldType)} {pc : Nat} {lv : List (Nat × Value)} {rest : List Value} {u : σ} {x : Int32} {off : Int} {tgt : Nat} (C : tl_Cx cc nL own ret D tys z) (hdg : decode cc pc = .ok (.ifCond .ne off, 3)) (ht : (pc : Int) + off = (tgt : Int)) (kt : ¬ x = 0 → tl_At l R nc ns Q D w nL z tgt lv (rest) u) (kf : x = 0 → tl_At l R nc ns Q D w nL z (pc + 3) lv (rest) u) : tl_At l R nc ns Q D w nL z pc lv (.int x :: rest) u := by
  obtain ⟨p, e, s, m, args, below, meth, c, F⟩ := z
  exact fun ls H locs hl hP hD hS => lv_if_ne C.1 C.2.1 hdg ht (fun h => kt h ls H locs hl hP hD hS) (fun h => kf h ls H locs hl hP hD hS)
theorem tl_icmp_ne {σ : Type} {l : Launch} {R : Room} {nc ns : Nat} {Q : tl_Z → State → Prop} {D : va_G} {w : σ → va_W} {nL : Nat} {z : tl_Z} {cc : ByteArray} {own : String} {ret : Option FieldType} {tys : List (ClassId × FieldType)} {pc : Nat} {lv : List (Nat × Value)} {rest : List Value} {u : σ} {x y : Int32} {off : Int} {tgt : Nat} (C : tl_Cx cc nL own ret D tys z) (hdg : decode cc pc = .ok (.if_icmp .ne off, 3)) (ht : (pc : Int) + off = (tgt : Int)) (kt : ¬ x = y → tl_At l R nc ns Q D w nL z tgt lv (rest) u) (kf : x = y → tl_At l R nc ns Q D w nL z (pc + 3) lv (rest) u) : tl_At l R nc ns Q D w nL z pc lv (.int y :: .int x :: rest) u := by
  obtain ⟨p, e, s, m, args, below, meth, c, F⟩ := z
  exact fun ls H locs hl hP hD hS => lv_icmp_ne C.1 C.2.1 hdg ht (fun h => kt h ls H locs hl hP hD hS) (fun h => kf h ls H locs hl hP hD hS)
theorem tl_if_lt {σ : Type} {l : Launch} {R : Room} {nc ns : Nat} {Q : tl_Z → State → Prop} {D : va_G} {w : σ → va_W} {nL : Nat} {z : tl_Z} {cc : ByteArray} {own : String} {ret : Option FieldType} {tys : List (ClassId × FieldType)} {pc : Nat} {lv : List (Nat × Value)} {rest : List Value} {u : σ} {x : Int32} {off : Int} {tgt : Nat} (C : tl_Cx cc nL own ret D tys z) (hdg : decode cc pc = .ok (.ifCond .lt off, 3)) (ht : (pc : Int) + off = (tgt : Int)) (kt : x < 0 → tl_At l R nc ns Q D w nL z tgt lv (rest) u) (kf : ¬ x < 0 → tl_At l R nc ns Q D w nL z (pc + 3) lv (rest) u) : tl_At l R nc ns Q D w nL z pc lv (.int x :: rest) u := by
  obtain ⟨p, e, s, m, args, below, meth, c, F⟩ := z
  exact fun ls H locs hl hP hD hS => lv_if_lt C.1 C.2.1 hdg ht (fun h => kt h ls H locs hl hP hD hS) (fun h => kf h ls H locs hl hP hD hS)
theorem tl_icmp_lt {σ : Type} {l : Launch} {R : Room} {nc ns : Nat} {Q : tl_Z → State → Prop} {D : va_G} {w : σ → va_W} {nL : Nat} {z : tl_Z} {cc : ByteArray} {own : String} {ret : Option FieldType} {tys : List (ClassId × FieldType)} {pc : Nat} {lv : List (Nat × Value)} {rest : List Value} {u : σ} {x y : Int32} {off : Int} {tgt : Nat} (C : tl_Cx cc nL own ret D tys z) (hdg : decode cc pc = .ok (.if_icmp .lt off, 3)) (ht : (pc : Int) + off = (tgt : Int)) (kt : x < y → tl_At l R nc ns Q D w nL z tgt lv (rest) u) (kf : ¬ x < y → tl_At l R nc ns Q D w nL z (pc + 3) lv (rest) u) : tl_At l R nc ns Q D w nL z pc lv (.int y :: .int x :: rest) u := by
  obtain ⟨p, e, s, m, args, below, meth, c, F⟩ := z
  exact fun ls H locs hl hP hD hS => lv_icmp_lt C.1 C.2.1 hdg ht (fun h => kt h ls H locs hl hP hD hS) (fun h => kf h ls H locs hl hP hD hS)
theorem tl_if_ge {σ : Type} {l : Launch} {R : Room} {nc ns : Nat} {Q : tl_Z → State → Prop} {D : va_G} {w : σ → va_W} {nL : Nat} {z : tl_Z} {cc : ByteArray} {own : String} {ret : Option FieldType} {tys : List (ClassId × FieldType)} {pc : Nat} {lv : List (Nat × Value)} {rest : List Value} {u : σ} {x : Int32} {off : Int} {tgt : Nat} (C : tl_Cx cc nL own ret D tys z) (hdg : decode cc pc = .ok (.ifCond .ge off, 3)) (ht : (pc : Int) + off = (tgt : Int)) (kt : 0 ≤ x → tl_At l R nc ns Q D w nL z tgt lv (rest) u) (kf : ¬ 0 ≤ x → tl_At l R nc ns Q D w nL z (pc + 3) lv (rest) u) : tl_At l R nc ns Q D w nL z pc lv (.int x :: rest) u := by
  obtain ⟨p, e, s, m, args, below, meth, c, F⟩ := z
  exact fun ls H locs hl hP hD hS => lv_if_ge C.1 C.2.1 hdg ht (fun h => kt h ls H locs hl hP hD hS) (fun h => kf h ls H locs hl hP hD hS)
theorem tl_icmp_ge {σ : Type} {l : Launch} {R : Room} {nc ns : Nat} {Q : tl_Z → State → Prop} {D : va_G} {w : σ → va_W} {nL : Nat} {z : tl_Z} {cc : ByteArray} {own : String} {ret : Option FieldType} {tys : List (ClassId × FieldType)} {pc : Nat} {lv : List (Nat × Value)} {rest : List Value} {u : σ} {x y : Int32} {off : Int} {tgt : Nat} (C : tl_Cx cc nL own ret D tys z) (hdg : decode cc pc = .ok (.if_icmp .ge off, 3)) (ht : (pc : Int) + off = (tgt : Int)) (kt : y ≤ x → tl_At l R nc ns Q D w nL z tgt lv (rest) u) (kf : ¬ y ≤ x → tl_At l R nc ns Q D w nL z (pc + 3) lv (rest) u) : tl_At l R nc ns Q D w nL z pc lv (.int y :: .int x :: rest) u := by
  obtain ⟨p, e, s, m, args, below, meth, c, F⟩ := z
  exact fun ls H locs hl hP hD hS => lv_icmp_ge C.1 C.2.1 hdg ht (fun h => kt h ls H locs hl hP hD hS) (fun h => kf h ls H locs hl hP hD hS)
theorem tl_if_gt {σ : Type} {l : Launch} {R : Room} {nc ns : Nat} {Q : tl_Z → State → Prop} {D : va_G} {w : σ → va_W} {nL : Nat} {z : tl_Z} {cc : ByteArray} {own : String} {ret : Option FieldType} {tys : List (ClassId × FieldType)} {pc : Nat} {lv : List (Nat × Value)} {rest : List Value} {u : σ} {x : Int32} {off : Int} {tgt : Nat} (C : tl_Cx cc nL own ret D tys z) (hdg : decode cc pc = .ok (.ifCond .gt off, 3)) (ht : (pc : Int) + off = (tgt : Int)) (kt : 0 < x → tl_At l R nc ns Q D w nL z tgt lv (rest) u) (kf : ¬ 0 < x → tl_At l R nc ns Q D w nL z (pc + 3) lv (rest) u) : tl_At l R nc ns Q D w nL z pc lv (.int x :: rest) u := by
  obtain ⟨p, e, s, m, args, below, meth, c, F⟩ := z
  exact fun ls H locs hl hP hD hS => lv_if_gt C.1 C.2.1 hdg ht (fun h => kt h ls H locs hl hP hD hS) (fun h => kf h ls H locs hl hP hD hS)
theorem tl_icmp_gt {σ : Type} {l : Launch} {R : Room} {nc ns : Nat} {Q : tl_Z → State → Prop} {D : va_G} {w : σ → va_W} {nL : Nat} {z : tl_Z} {cc : ByteArray} {own : String} {ret : Option FieldType} {tys : List (ClassId × FieldType)} {pc : Nat} {lv : List (Nat × Value)} {rest : List Value} {u : σ} {x y : Int32} {off : Int} {tgt : Nat} (C : tl_Cx cc nL own ret D tys z) (hdg : decode cc pc = .ok (.if_icmp .gt off, 3)) (ht : (pc : Int) + off = (tgt : Int)) (kt : y < x → tl_At l R nc ns Q D w nL z tgt lv (rest) u) (kf : ¬ y < x → tl_At l R nc ns Q D w nL z (pc + 3) lv (rest) u) : tl_At l R nc ns Q D w nL z pc lv (.int y :: .int x :: rest) u := by
  obtain ⟨p, e, s, m, args, below, meth, c, F⟩ := z
  exact fun ls H locs hl hP hD hS => lv_icmp_gt C.1 C.2.1 hdg ht (fun h => kt h ls H locs hl hP hD hS) (fun h => kf h ls H locs hl hP hD hS)
theorem tl_if_le {σ : Type} {l : Launch} {R : Room} {nc ns : Nat} {Q : tl_Z → State → Prop} {D : va_G} {w : σ → va_W} {nL : Nat} {z : tl_Z} {cc : ByteArray} {own : String} {ret : Option FieldType} {tys : List (ClassId × FieldType)} {pc : Nat} {lv : List (Nat × Value)} {rest : List Value} {u : σ} {x : Int32} {off : Int} {tgt : Nat} (C : tl_Cx cc nL own ret D tys z) (hdg : decode cc pc = .ok (.ifCond .le off, 3)) (ht : (pc : Int) + off = (tgt : Int)) (kt : x ≤ 0 → tl_At l R nc ns Q D w nL z tgt lv (rest) u) (kf : ¬ x ≤ 0 → tl_At l R nc ns Q D w nL z (pc + 3) lv (rest) u) : tl_At l R nc ns Q D w nL z pc lv (.int x :: rest) u := by
  obtain ⟨p, e, s, m, args, below, meth, c, F⟩ := z
  exact fun ls H locs hl hP hD hS => lv_if_le C.1 C.2.1 hdg ht (fun h => kt h ls H locs hl hP hD hS) (fun h => kf h ls H locs hl hP hD hS)
theorem tl_icmp_le {σ : Type} {l : Launch} {R : Room} {nc ns : Nat} {Q : tl_Z → State → Prop} {D : va_G} {w : σ → va_W} {nL : Nat} {z : tl_Z} {cc : ByteArray} {own : String} {ret : Option FieldType} {tys : List (ClassId × FieldType)} {pc : Nat} {lv : List (Nat × Value)} {rest : List Value} {u : σ} {x y : Int32} {off : Int} {tgt : Nat} (C : tl_Cx cc nL own ret D tys z) (hdg : decode cc pc = .ok (.if_icmp .le off, 3)) (ht : (pc : Int) + off = (tgt : Int)) (kt : x ≤ y → tl_At l R nc ns Q D w nL z tgt lv (rest) u) (kf : ¬ x ≤ y → tl_At l R nc ns Q D w nL z (pc + 3) lv (rest) u) : tl_At l R nc ns Q D w nL z pc lv (.int y :: .int x :: rest) u := by
  obtain ⟨p, e, s, m, args, below, meth, c, F⟩ := z
  exact fun ls H locs hl hP hD hS => lv_icmp_le C.1 C.2.1 hdg ht (fun h => kt h ls H locs hl hP hD hS) (fun h => kf h ls H locs hl hP hD hS)
theorem tl_goto {σ : Type} {l : Launch} {R : Room} {nc ns : Nat} {Q : tl_Z → State → Prop} {D : va_G} {w : σ → va_W} {nL : Nat} {z : tl_Z} {cc : ByteArray} {own : String} {ret : Option FieldType} {tys : List (ClassId × FieldType)} {pc : Nat} {lv : List (Nat × Value)} {rest : List Value} {u : σ} {off : Int} {tgt : Nat} (C : tl_Cx cc nL own ret D tys z) (hdg : decode cc pc = .ok (.goto off, 3)) (ht : (pc : Int) + off = (tgt : Int)) (kk : tl_At l R nc ns Q D w nL z tgt lv (rest) u) : tl_At l R nc ns Q D w nL z pc lv (rest) u := by
  obtain ⟨p, e, s, m, args, below, meth, c, F⟩ := z
  exact fun ls H locs hl hP hD hS => lv_goto C.1 C.2.1 hdg ht (kk ls H locs hl hP hD hS)
theorem tl_ldc {σ : Type} {l : Launch} {R : Room} {nc ns : Nat} {Q : tl_Z → State → Prop} {D : va_G} {w : σ → va_W} {nL : Nat} {z : tl_Z} {cc : ByteArray} {own : String} {ret : Option FieldType} {tys : List (ClassId × FieldType)} {pc : Nat} {lv : List (Nat × Value)} {rest : List Value} {u : σ} {index : Nat} {v : Int32} (C : tl_Cx cc nL own ret D tys z) (hc : Cond.constant own index v ∈ wsAll) (hdg : decode cc pc = .ok (.ldc index, 2)) (kk : tl_At l R nc ns Q D w nL z (pc + 2) lv (.int v :: rest) u) : tl_At l R nc ns Q D w nL z pc lv (rest) u := by
  obtain ⟨p, e, s, m, args, below, meth, c, F⟩ := z
  exact fun ls H locs hl hP hD hS => lv_ldc C.1 C.2.1 C.2.2.2.1 (C.2.2.2.2.1 _ hc) hdg (kk ls H locs hl hP hD hS)
theorem tl_sub {σ : Type} {l : Launch} {R : Room} {nc ns : Nat} {Q : tl_Z → State → Prop} {D : va_G} {w : σ → va_W} {nL : Nat} {z : tl_Z} {pc : Nat} {lv : List (Nat × Value)} {rest : List Value} {u : σ} {lv' : List (Nat × Value)} (ks : List Nat) (h : lv_pick lv ks = lv') (kk : tl_At l R nc ns Q D w nL z pc lv' (rest) u) : tl_At l R nc ns Q D w nL z pc lv (rest) u :=
  fun ls H locs hl hP hD hS => kk ls H locs (lv_sub hl ks h) hP hD hS
theorem tl_iret {l : Launch} {R : Room} {nc ns : Nat} {D : va_G} {w : tl_U → va_W} {nL : Nat} {z : tl_Z} {cc : ByteArray} {own : String} {tys : List (ClassId × FieldType)} {pc : Nat} {lv : List (Nat × Value)} {S : SS} {A : AA} {post : Int32 → SS → AA → Prop} {v : Int32} (C : tl_Cx cc nL own (some .int) D tys z) (hdg : decode cc pc = .ok (.ireturn, 1)) (hp : post v S A) : tl_At l R nc ns (tl_M nc ns (tl_Qi D w tys post)) D w nL z pc lv ([.int v]) (S, A) := by
  obtain ⟨p, e, s, m, args, below, meth, c, F⟩ := z
  obtain ⟨hx, hb, hml, hown, hts, hN, hK, hA, hlk, hr⟩ := C
  exact fun ls H locs hl hP hD hS => W.iret hx hb hr (fun t ht hW => ⟨⟨v, (S, A), rfl, hp, by rw [ht]; exact hP, va_K.moved hW.alike hK, hD⟩, hS.F ht⟩) hS.2.2 hdg hlk
theorem tl_zn {v : Int32} (h : tl_z v) : narrow .boolean (.int v) = .int v := by rcases h with rfl | rfl <;> decide +kernel
theorem tl_zf {v : Int32} (h : tl_z v) : fits .boolean (.int v) = true := by rcases h with rfl | rfl <;> decide +kernel
theorem tl_zret {l : Launch} {R : Room} {nc ns : Nat} {D : va_G} {w : tl_U → va_W} {nL : Nat} {z : tl_Z} {cc : ByteArray} {own : String} {tys : List (ClassId × FieldType)} {pc : Nat} {lv : List (Nat × Value)} {S : SS} {A : AA} {post : Int32 → SS → AA → Prop} {v : Int32} (C : tl_Cx cc nL own (some .boolean) D tys z) (hz : tl_z v) (hdg : decode cc pc = .ok (.ireturn, 1)) (hp : post v S A) : tl_At l R nc ns (tl_M nc ns (tl_Qi D w tys post)) D w nL z pc lv ([.int v]) (S, A) := by
  obtain ⟨p, e, s, m, args, below, meth, c, F⟩ := z
  obtain ⟨hx, hb, hml, hown, hts, hN, hK, hA, hlk, hr⟩ := C
  exact fun ls H locs hl hP hD hS => W.zret hx hb hr (tl_zn hz) (fun t ht hW => ⟨⟨v, (S, A), rfl, hp, by rw [ht]; exact hP, va_K.moved hW.alike hK, hD⟩, hS.F ht⟩) hS.2.2 hdg hlk
theorem tl_vret {l : Launch} {R : Room} {nc ns : Nat} {D : va_G} {w : tl_U → va_W} {nL : Nat} {z : tl_Z} {cc : ByteArray} {own : String} {tys : List (ClassId × FieldType)} {pc : Nat} {lv : List (Nat × Value)} {S : SS} {A : AA} {post : SS → AA → Prop} (C : tl_Cx cc nL own none D tys z) (hdg : decode cc pc = .ok (.return_, 1)) (hp : post S A) : tl_At l R nc ns (tl_M nc ns (tl_Qv D w tys post)) D w nL z pc lv ([]) (S, A) := by
  obtain ⟨p, e, s, m, args, below, meth, c, F⟩ := z
  obtain ⟨hx, hb, hml, hown, hts, hN, hK, hA, hlk, hr⟩ := C
  exact fun ls H locs hl hP hD hS => W.vret hx hb hr (fun t ht hW => ⟨⟨(S, A), rfl, hp, by rw [ht]; exact hP, va_K.moved hW.alike hK, hD⟩, hS.F ht⟩) hS.2.2 hdg hlk
/-- room for a call: frames, locals, what lies below on the stack -/
def tl_fit (R rm : Room) (nc ns maxL : Nat) (rest : List Value) : Bool := (Nat.ble nc R.cells && Nat.ble ns R.slots) && (Nat.ble (rm.frames + 1) R.frames && (Nat.ble (8 + (maxL + 11) + rm.locals) R.locals && Nat.ble ((rest.map fun v => v.category).sum) 8))
theorem tl_fit1 {R rm : Room} {nc ns maxL : Nat} {rest : List Value} (h : tl_fit R rm nc ns maxL rest = true) : (nc ≤ R.cells ∧ ns ≤ R.slots) ∧ (rm.frames + 1 ≤ R.frames ∧ 8 + (maxL + 11) + rm.locals ≤ R.locals) ∧ (rest.map fun v => v.category).sum ≤ 8 := by
  unfold tl_fit at h
  simp only [Bool.and_eq_true] at h
  exact ⟨⟨Nat.le_of_ble_eq_true h.1.1, Nat.le_of_ble_eq_true h.1.2⟩, ⟨Nat.le_of_ble_eq_true h.2.1, Nat.le_of_ble_eq_true h.2.2.1⟩, Nat.le_of_ble_eq_true h.2.2.2⟩
theorem tl_fitL {rm : Room} {maxL : Nat} {rest : List Value} (hn : (rest.map fun v => v.category).sum ≤ 8) (h : (Nat.ble (rm.frames + 1) 11 && Nat.ble (8 + (maxL + 11) + rm.locals) 406) = true) : tl_fit room_1 rm 19 572 maxL rest = true := by
  simp only [Bool.and_eq_true] at h
  have h3 : Nat.ble ((rest.map fun v => v.category).sum) 8 = true := Nat.ble_eq_true_of_le hn
  unfold tl_fit
  simp only [Bool.and_eq_true]
  exact ⟨⟨rfl, rfl⟩, h.1, h.2, h3⟩
theorem tl_good {w : Cond} (h : w ∈ wsAll) : GoodIn wsAll (w :: wsAll) := by
  have hg : ∀ x ∈ wsAll, x ∈ wsAll ∧ ((x.onTables && x.keeps) = true ∨ ∃ ty, x = .arrayClass ty) := fun x hx => ⟨hx, good_of_word (List.mem_filter.mp hx).2⟩
  intro x hx
  rcases List.mem_cons.mp hx with e | hx
  · rw [e]; exact hg w h
  · exact hg x hx
theorem tl_blind {av : List Value} {D : va_G} {w : tl_U → va_W} {tys : List (ClassId × FieldType)} {sz : Nat} {u : tl_U} : FrameBlind (va_Pc av (tl_Pre D w tys sz u)) := by
  intro a U g mk q
  obtain ⟨q0, q1, qP, qK, qD, qN⟩ := q
  exact ⟨q0, q1, qP, va_K.moved (u := U) (U := U.calling g mk a) (Vm.Alike.refl U.vm) qK, qD, tl_NS.same (u := U) (U := U.calling g mk a) rfl qN⟩
theorem tl_free {F : Nat → Prop} {ws : va_W} {H0 H : Heap} {locs : List Loc} (hD : va_D F ws) (hS : va_S F H0 H locs) (hA : ∀ q : Nat, H0.size ≤ q → F q) : ∀ q : Nat, va_A ws H.size q → F q := by
  intro q h
  rcases h with ⟨k, e, h⟩ | h
  · exact hD.2 k (q, e) h
  · exact hA q (Nat.le_trans hS.1 h)
theorem tl_callVi {l : Launch} {R : Room} {nc ns : Nat} {Q : tl_Z → State → Prop} {D : va_G} {w : tl_U → va_W} {nL : Nat} {z : tl_Z} {cc : ByteArray} {own : String} {ret : Option FieldType} {tys : List (ClassId × FieldType)} {pc : Nat} {lv : List (Nat × Value)} {rest : List Value} {S : SS} {A : AA} {y : MethodName} {bytes : ByteArray} {maxL n index : Nat} {ry : Option FieldType} {rm : Room} {As : List Value} {b q0 ci N : Nat} {T : u_T} {fs : List Value} {post : Int32 → SS → AA → Prop} (C : tl_Cx cc nL own ret D tys z) (hM : ∀ sz : Nat, tl_Met l y bytes maxL ry rm D w tys sz (.ref b :: As) (S, A) (tl_Qi D w tys post))
    (hcode : Cond.code y bytes maxL ry ∈ wsAll) (hini : Cond.initialized y.cls ∈ wsAll) (hinst : Cond.instanceMethod y ∈ wsAll) (hsel : Cond.selects y.cls y y ∈ wsAll) (hd : y.cls ≠ "java/lang/invoke/MethodHandle" ∧ y.cls ≠ "java/lang/invoke/VarHandle" ∧ (parseMethodDescriptor y.desc).map (fun d => d.parameters.length) = some n) (hAs : As.length = n) (hrc : rm.cells = 0 ∧ rm.slots = 0) (he : (w (S, A))[q0]? = some (b, .inr (ci, fs))) (hc : vwCl[ci]? = some (y.cls, T, N))
    (hlink : Cond.methodLink own index y ∈ wsAll) (hf : tl_fit R rm nc ns maxL rest = true) (hdg : decode cc pc = .ok (.invokevirtual index, 3)) (kk : ∀ (r : Int32) (S1 : SS) (A1 : AA), post r S1 A1 → tl_At l R nc ns Q D w nL z (pc + 3) lv (.int r :: rest) (S1, A1)) : tl_At l R nc ns Q D w nL z pc lv (As.reverse ++ .ref b :: rest) (S, A) := by
  obtain ⟨p, e, s, m, args, below, meth, c, F⟩ := z
  obtain ⟨hx, hb, hml, hown, hts, hN, hK, hA, hlk, hr⟩ := C
  intro ls H locs hl hP hD hS
  have hFc := tl_free hD hS hA
  obtain ⟨hf0, hf1, hf2⟩ := tl_fit1 hf
  refine va_calli (va_runV (As := As) (rest := rest) (b := b) ⟨hx, hb, hml, hown, hts⟩ (hM H.size) ⟨callB_of n hts (tl_good hcode) rfl hrc.1 hrc.2 (hts _ hini) (hts _ hlink) hd hf1, hts _ hinst, hts _ hsel⟩ ⟨tl_blind, va_recv hK hP hc he, fun U hU hW => ⟨rfl, by rw [hU], by rw [hU]; exact hP, va_K.moved hW.alike hK, hD.weaken (fun _ _ _ _ => trivial), tl_NS.warm hW hN⟩⟩ rfl hAs hl.1 rfl (lv_room hf2) hdg hf0) hS (fun q _ h => hFc q h) hFc (fun r u t H1 locs1 ht hvm hp hB hz hk1 hS1 => ?_)
  obtain ⟨S1, A1⟩ := u
  obtain ⟨hP1, hK1, hD1⟩ := hB
  rw [ht] at hP1
  exact kk r S1 A1 hp ls H1 locs1 hl hP1 (hD1.weaken (fun _ q _ h => hFc q.1 h)) hS1
theorem tl_callSi {l : Launch} {R : Room} {nc ns : Nat} {Q : tl_Z → State → Prop} {D : va_G} {w : tl_U → va_W} {nL : Nat} {z : tl_Z} {cc : ByteArray} {own : String} {ret : Option FieldType} {tys : List (ClassId × FieldType)} {pc : Nat} {lv : List (Nat × Value)} {rest : List Value} {S : SS} {A : AA} {y : MethodName} {bytes : ByteArray} {maxL n index : Nat} {ry : Option FieldType} {rm : Room} {As : List Value} {post : Int32 → SS → AA → Prop} (C : tl_Cx cc nL own ret D tys z) (hM : ∀ sz : Nat, tl_Met l y bytes maxL ry rm D w tys sz As (S, A) (tl_Qi D w tys post))
    (hcode : Cond.code y bytes maxL ry ∈ wsAll) (hini : Cond.initialized y.cls ∈ wsAll) (hst : Cond.static y ∈ wsAll) (hd : y.cls ≠ "java/lang/invoke/MethodHandle" ∧ y.cls ≠ "java/lang/invoke/VarHandle" ∧ (parseMethodDescriptor y.desc).map (fun d => d.parameters.length) = some n) (hAs : As.length = n) (hrc : rm.cells = 0 ∧ rm.slots = 0) (hlink : Cond.methodLink own index y ∈ wsAll) (hf : tl_fit R rm nc ns maxL rest = true) (hdg : decode cc pc = .ok (.invokestatic index, 3)) (kk : ∀ (r : Int32) (S1 : SS) (A1 : AA), post r S1 A1 → tl_At l R nc ns Q D w nL z (pc + 3) lv (.int r :: rest) (S1, A1)) : tl_At l R nc ns Q D w nL z pc lv (As.reverse ++ rest) (S, A) := by
  obtain ⟨p, e, s, m, args, below, meth, c, F⟩ := z
  obtain ⟨hx, hb, hml, hown, hts, hN, hK, hA, hlk, hr⟩ := C
  intro ls H locs hl hP hD hS
  have hFc := tl_free hD hS hA
  obtain ⟨hf0, hf1, hf2⟩ := tl_fit1 hf
  refine va_calli (va_runS (As := As) (rest := rest) ⟨hx, hb, hml, hown, hts⟩ (hM H.size) ⟨callB_of n hts (tl_good hcode) rfl hrc.1 hrc.2 (hts _ hini) (hts _ hlink) hd hf1, hts _ hst⟩ ⟨tl_blind, fun U hU hW => ⟨rfl, by rw [hU], by rw [hU]; exact hP, va_K.moved hW.alike hK, hD.weaken (fun _ _ _ _ => trivial), tl_NS.warm hW hN⟩⟩ rfl hAs hl.1 rfl (lv_room hf2) hdg hf0) hS (fun q _ h => hFc q h) hFc (fun r u t H1 locs1 ht hvm hp hB hz hk1 hS1 => ?_)
  obtain ⟨S1, A1⟩ := u
  obtain ⟨hP1, hK1, hD1⟩ := hB
  rw [ht] at hP1
  exact kk r S1 A1 hp ls H1 locs1 hl hP1 (hD1.weaken (fun _ q _ h => hFc q.1 h)) hS1
theorem tl_callSNi {l : Launch} {R : Room} {nc ns : Nat} {Q : tl_Z → State → Prop} {D : va_G} {w : tl_U → va_W} {nL : Nat} {z : tl_Z} {cc : ByteArray} {own : String} {ret : Option FieldType} {tys : List (ClassId × FieldType)} {pc : Nat} {lv : List (Nat × Value)} {rest : List Value} {S : SS} {A : AA} {y : MethodName} {bytes : ByteArray} {maxL n index : Nat} {ry : Option FieldType} {rm : Room} {As : List Value} {host : String} {post : Int32 → SS → AA → Prop} (C : tl_Cx cc nL own ret D tys z) (hM : ∀ sz : Nat, tl_Met l y bytes maxL ry rm D w tys sz As (S, A) (tl_Qi D w tys post))
    (hcode : Cond.code y bytes maxL ry ∈ wsAll) (hini : Cond.initialized y.cls ∈ wsAll) (hst : Cond.static y ∈ wsAll) (hd : y.cls ≠ "java/lang/invoke/MethodHandle" ∧ y.cls ≠ "java/lang/invoke/VarHandle" ∧ (parseMethodDescriptor y.desc).map (fun d => d.parameters.length) = some n) (hAs : As.length = n) (hrc : rm.cells = 0 ∧ rm.slots = 0) (hlink : tl_NS z.s → va_Nw (.methodLinkNest own index y host) z.s) (hf : tl_fit R rm nc ns maxL rest = true) (hdg : decode cc pc = .ok (.invokestatic index, 3)) (kk : ∀ (r : Int32) (S1 : SS) (A1 : AA), post r S1 A1 → tl_At l R nc ns Q D w nL z (pc + 3) lv (.int r :: rest) (S1, A1)) : tl_At l R nc ns Q D w nL z pc lv (As.reverse ++ rest) (S, A) := by
  obtain ⟨p, e, s, m, args, below, meth, c, F⟩ := z
  obtain ⟨hx, hb, hml, hown, hts, hN, hK, hA, hlk, hr⟩ := C
  intro ls H locs hl hP hD hS
  have hFc := tl_free hD hS hA
  obtain ⟨hf0, hf1, hf2⟩ := tl_fit1 hf
  refine va_calli (va_runSN (As := As) (rest := rest) ⟨hx, hb, hml, hown, hts⟩ (hM H.size) ⟨va_cnB n hts (tl_good hcode) rfl hrc.1 hrc.2 (hlink hN) (hts _ hini) hd hf1, hts _ hst, trivial⟩ ⟨tl_blind, fun U hU hW => ⟨rfl, by rw [hU], by rw [hU]; exact hP, va_K.moved hW.alike hK, hD.weaken (fun _ _ _ _ => trivial), tl_NS.warm hW hN⟩⟩ rfl hAs hl.1 rfl (lv_room hf2) hdg hf0) hS (fun q _ h => hFc q h) hFc (fun r u t H1 locs1 ht hvm hp hB hz hk1 hS1 => ?_)
  obtain ⟨S1, A1⟩ := u
  obtain ⟨hP1, hK1, hD1⟩ := hB
  rw [ht] at hP1
  exact kk r S1 A1 hp ls H1 locs1 hl hP1 (hD1.weaken (fun _ q _ h => hFc q.1 h)) hS1
theorem tl_callVv {l : Launch} {R : Room} {nc ns : Nat} {Q : tl_Z → State → Prop} {D : va_G} {w : tl_U → va_W} {nL : Nat} {z : tl_Z} {cc : ByteArray} {own : String} {ret : Option FieldType} {tys : List (ClassId × FieldType)} {pc : Nat} {lv : List (Nat × Value)} {rest : List Value} {S : SS} {A : AA} {y : MethodName} {bytes : ByteArray} {maxL n index : Nat} {ry : Option FieldType} {rm : Room} {As : List Value} {b q0 ci N : Nat} {T : u_T} {fs : List Value} {post : SS → AA → Prop} (C : tl_Cx cc nL own ret D tys z) (hM : ∀ sz : Nat, tl_Met l y bytes maxL ry rm D w tys sz (.ref b :: As) (S, A) (tl_Qv D w tys post))
    (hcode : Cond.code y bytes maxL ry ∈ wsAll) (hini : Cond.initialized y.cls ∈ wsAll) (hinst : Cond.instanceMethod y ∈ wsAll) (hsel : Cond.selects y.cls y y ∈ wsAll) (hd : y.cls ≠ "java/lang/invoke/MethodHandle" ∧ y.cls ≠ "java/lang/invoke/VarHandle" ∧ (parseMethodDescriptor y.desc).map (fun d => d.parameters.length) = some n) (hAs : As.length = n) (hrc : rm.cells = 0 ∧ rm.slots = 0) (he : (w (S, A))[q0]? = some (b, .inr (ci, fs))) (hc : vwCl[ci]? = some (y.cls, T, N))
    (hlink : Cond.methodLink own index y ∈ wsAll) (hf : tl_fit R rm nc ns maxL rest = true) (hdg : decode cc pc = .ok (.invokevirtual index, 3)) (kk : ∀ (S1 : SS) (A1 : AA), post S1 A1 → tl_At l R nc ns Q D w nL z (pc + 3) lv (rest) (S1, A1)) : tl_At l R nc ns Q D w nL z pc lv (As.reverse ++ .ref b :: rest) (S, A) := by
  obtain ⟨p, e, s, m, args, below, meth, c, F⟩ := z
  obtain ⟨hx, hb, hml, hown, hts, hN, hK, hA, hlk, hr⟩ := C
  intro ls H locs hl hP hD hS
  have hFc := tl_free hD hS hA
  obtain ⟨hf0, hf1, hf2⟩ := tl_fit1 hf
  refine va_callv (va_runV (As := As) (rest := rest) (b := b) ⟨hx, hb, hml, hown, hts⟩ (hM H.size) ⟨callB_of n hts (tl_good hcode) rfl hrc.1 hrc.2 (hts _ hini) (hts _ hlink) hd hf1, hts _ hinst, hts _ hsel⟩ ⟨tl_blind, va_recv hK hP hc he, fun U hU hW => ⟨rfl, by rw [hU], by rw [hU]; exact hP, va_K.moved hW.alike hK, hD.weaken (fun _ _ _ _ => trivial), tl_NS.warm hW hN⟩⟩ rfl hAs hl.1 rfl (lv_room hf2) hdg hf0) hS (fun q _ h => hFc q h) hFc (fun u t H1 locs1 ht hvm hp hB hz hk1 hS1 => ?_)
  obtain ⟨S1, A1⟩ := u
  obtain ⟨hP1, hK1, hD1⟩ := hB
  rw [ht] at hP1
  exact kk S1 A1 hp ls H1 locs1 hl hP1 (hD1.weaken (fun _ q _ h => hFc q.1 h)) hS1
theorem tl_max {σ : Type} {l : Launch} {R : Room} {nc ns : Nat} {Q : tl_Z → State → Prop} {D : va_G} {w : σ → va_W} {nL : Nat} {z : tl_Z} {cc : ByteArray} {own : String} {ret : Option FieldType} {tys : List (ClassId × FieldType)} {pc : Nat} {lv : List (Nat × Value)} {rest : List Value} {u : σ} {index : Nat} {x y : Int32} (C : tl_Cx cc nL own ret D tys z) (hlink : Cond.methodLink own index Lib.Math.max.name ∈ wsAll) (hdg : decode cc pc = .ok (.invokestatic index, 3)) (hf : (Nat.ble 1 R.frames && (Nat.ble ((rest.map fun v => v.category).sum + 13) R.locals && (Nat.ble nc R.cells && Nat.ble ns R.slots))) = true) (kk : tl_At l R nc ns Q D w nL z (pc + 3) lv (.int (tl_mx x y) :: rest) u) : tl_At l R nc ns Q D w nL z pc lv (.int y :: .int x :: rest) u := by
  obtain ⟨p, e, s, m, args, below, meth, c, F⟩ := z
  obtain ⟨hx, hb, hml, hown, hts, hN, hK, hA, hlk, hr⟩ := C
  simp only [Bool.and_eq_true] at hf
  exact fun ls H locs hl hP hD hS => va_mmax hx hb (hml.trans hl.1.symm) hown (hts _ hlink) (hts _ in_mstat) (hts _ in_mini) (hts _ in_mcode) (Nat.le_of_ble_eq_true hf.1) (Nat.le_of_ble_eq_true hf.2.1) (Nat.le_of_ble_eq_true hf.2.2.1) (Nat.le_of_ble_eq_true hf.2.2.2) hdg (kk ls H locs hl hP hD hS)
