set_option maxHeartbeats 4000000 in
set_option maxRecDepth 100000 in
theorem whole_start {p : Program} {e : Env} {s : State} {m : MethodId} {below : List Frame} {meth : Method} {c : Code} (l : Launch) {b L : Nat} {xs : Nat → Int32} (hL : L ≤ 1536) (C0 : lw_At p s m meth c b L xs) : W p l e room_1 s m #[Value.ref b] below meth c s.heap [] 0 0 (lw_Z below #[Value.ref b] s) (entryFrame m ([Value.ref b] : List Value).toArray 4) := by
  obtain ⟨hx, hb, hr, hml, hown, hts0, hX, hbl, hlk, hgv⟩ := C0
  have hown : s.vm.findClass R_L = some m.cls := hown
  have hts : ∀ x ∈ wsAll, x.before #[Value.ref b] s = true := fun w h => hts0 w (List.mem_filter.mp h).1
  have hN : tl_NS s := tl_NS.of hts0
  obtain ⟨cc0, ii0, kn0⟩ := u_known (n := 5) hts lays_Dl (hts _ in_146)
  obtain ⟨cc1, ii1, kn1⟩ := u_known (n := 5) hts lays_Lk (hts _ in_122)
  obtain ⟨cc2, ii2, kn2⟩ := u_known (n := 3) hts lays_Mm (hts _ in_19)
  obtain ⟨cc3, ii3, kn3⟩ := u_known (n := 5) hts lays_Rc (hts _ in_47)
  obtain ⟨cc4, ii4, kn4⟩ := u_known (n := 3) hts lays_Rw (hts _ in_78)
  obtain ⟨cc5, ii5, kn5⟩ := u_known (n := 8) hts lays_Sd (hts _ in_72)
  obtain ⟨cc6, ii6, kn6⟩ := u_known (n := 12) hts lays_T (hts _ in_11)
  obtain ⟨cc7, ii7, kn7⟩ := u_known (n := 30) hts lays_M (hts _ in_528)
  generalize hDe : ((tl_q [cc0, cc1, cc2, cc3, cc4, cc5, cc6, cc7], fun i => [ii0, ii1, ii2, ii3, ii4, ii5, ii6, ii7].getD i (fun _ => 0)) : va_G) = D
  have hK : va_K D vwCl [] s := by
    subst hDe
    refine ⟨fun a q hq => ?_, fun a q hq => (by cases hq)⟩
    have ha : a < 8 := (List.getElem?_eq_some_iff.mp hq).1
    rcases (show a = 0 ∨ a = 1 ∨ a = 2 ∨ a = 3 ∨ a = 4 ∨ a = 5 ∨ a = 6 ∨ a = 7 by omega) with rfl | rfl | rfl | rfl | rfl | rfl | rfl | rfl
    · cases (show some (R_Dl, F_Dl, 5) = some q from hq); exact kn0
    · cases (show some (R_Lk, F_Lk, 5) = some q from hq); exact kn1
    · cases (show some (R_Mm, F_Mm, 3) = some q from hq); exact kn2
    · cases (show some (R_Rc, F_Rc, 5) = some q from hq); exact kn3
    · cases (show some (R_Rw, F_Rw, 3) = some q from hq); exact kn4
    · cases (show some (R_Sd, F_Sd, 8) = some q from hq); exact kn5
    · cases (show some (R_T, F_T, 12) = some q from hq); exact kn6
    · cases (show some (R_M, F_M, 30) = some q from hq); exact kn7
  have hA : ∀ q : Nat, s.heap.size ≤ q → (fun q : Nat => s.heap.size ≤ q) q := fun q h => h
  generalize hFe : (fun q : Nat => s.heap.size ≤ q) = F at hA
  have hF : ∀ q : Nat, F q → s.heap.size ≤ q := fun q h => by rw [← hFe] at h; exact h
  have hS : va_S F s.heap s.heap [] := va_S.rf
  have hP : va_P D vwCl [] s.heap := fun k q hk => by cases hk
  have hD : va_D F [] := ⟨fun i j p q hi => (by cases hi), fun k q hk => (by cases hk)⟩
  have hl := lv_entry ([.ref b]) (n := 4) (Nat.le_of_ble_eq_true rfl)
  rw [lg_entry_eq]
  generalize (lg_sl ([.ref b]) ++ List.replicate (4 - (lg_sl ([.ref b])).length) Slot.unset).toArray = ls at hl ⊢
  have hl : lv_has ls 4 [(0, .ref b)] := hl
  refine va_new (pc := 0) (D := D) (ci := 6) (fs := [.null, .null, .null, .null, .null, .null, .null, .int 0, .int 0, .int 0, .int 0, .int 0]) (C := R_T) (T := F_T) (N := 12) hx hb hts lays_T ty_T tyok_T hown (hts _ in_10) (hts _ in_11) (hts _ in_1) hK hP hD hS hA rfl (fun j hj => by rcases (show j = 0 ∨ j = 1 ∨ j = 2 ∨ j = 3 ∨ j = 4 ∨ j = 5 ∨ j = 6 ∨ j = 7 ∨ j = 8 ∨ j = 9 ∨ j = 10 ∨ j = 11 by omega) with rfl | rfl | rfl | rfl | rfl | rfl | rfl | rfl | rfl | rfl | rfl | rfl <;> rfl) (Nat.le_of_ble_eq_true rfl) (Nat.le_of_ble_eq_true rfl) d_L_law_0 (fun qa H hP hD hS => ?_)
  have hP : va_P D vwCl (([] : va_W) ++ [(qa, .inr (6, [.null, .null, .null, .null, .null, .null, .null, .int 0, .int 0, .int 0, .int 0, .int 0]))]) H := hP
  have hD : va_D F (([] : va_W) ++ [(qa, .inr (6, [.null, .null, .null, .null, .null, .null, .null, .int 0, .int 0, .int 0, .int 0, .int 0]))]) := hD
  refine lv_dup (pc := 3) hx hb d_L_law_3 rfl ?_
  have hPc := tl_PR hP
  have hDc := tl_DR hD
  have hKc := hK.sub (tys' := []) [] rfl
  have hFc := tl_free hDc hS hA
  refine va_callv (va_runI (As := []) (rest := [.ref qa]) ⟨hx, hb, hml, hown, hts⟩ (cc_T l D qa H.size (tl_pure L xs hL)) (cwI 0 hts (tl_good in_14) rfl rfl rfl (hts _ in_1) (hts _ in_12) (hts _ in_13) rfl (by decide +kernel) ⟨Nat.le_of_ble_eq_true rfl, Nat.le_of_ble_eq_true rfl⟩) ⟨tl_blind0, fun U hU hW => ⟨rfl, by rw [hU], by rw [hU]; exact hPc, va_K.moved hW.alike hKc, hDc.weaken (fun _ _ _ _ => trivial), tl_NS.warm hW hN⟩⟩ rfl rfl hl.1 rfl (lv_room (Nat.le_of_ble_eq_true rfl)) d_L_law_4 ⟨Nat.le_of_ble_eq_true rfl, Nat.le_of_ble_eq_true rfl⟩) hS (fun q _ h => hFc q h) hFc (fun u t H1 locs ht hvm hw hB hz1 hk1 hS => ?_)
  obtain ⟨⟨q, k⟩, S, A⟩ := u
  obtain ⟨hw, hq⟩ := hw
  have hq : q 0 = qa := hq
  subst hq
  obtain ⟨hP1, hK1, hD1⟩ := hB
  rw [ht] at hP1
  have hK1 := va_K.moved hvm.symm hK1
  obtain ⟨hP, hD⟩ := tl_frR hP hD hk1 hFc hP1 hD1
  have hP : va_P D vwCl (wX q k (S, A)) H1 := hP
  have hD : va_D F (wX q k (S, A)) := hD
  have hK : va_K D vwCl (tX k) s := hK1
  refine lv_astore_n (pc := 7) (lv' := [(1, .ref (q 0)), (0, .ref b)]) hx hb d_L_law_7 rfl hl (by decide) rfl (fun ls hl => ?_)
  generalize H1 = H at hP hS ⊢
  refine va_new (pc := 8) (D := D) (ci := 7) (fs := [.null, .int 0, .int 0, .int 0, .int 0, .int 0, .int 0, .int 0, .int 0, .int 0, .int 0, .int 0, .int 0, .int 0, .int 0, .int 0, .int 0, .int 0, .int 0, .int 0, .int 0, .null, .int 0, .int 0, .int 0, .int 0, .null, .int 0, .null, .null]) (C := R_M) (T := F_M) (N := 30) hx hb hts lays_M ty_M tyok_M hown (hts _ in_527) (hts _ in_528) (hts _ in_8) hK hP hD hS hA rfl (fun j hj => by rcases (show j = 0 ∨ j = 1 ∨ j = 2 ∨ j = 3 ∨ j = 4 ∨ j = 5 ∨ j = 6 ∨ j = 7 ∨ j = 8 ∨ j = 9 ∨ j = 10 ∨ j = 11 ∨ j = 12 ∨ j = 13 ∨ j = 14 ∨ j = 15 ∨ j = 16 ∨ j = 17 ∨ j = 18 ∨ j = 19 ∨ j = 20 ∨ j = 21 ∨ j = 22 ∨ j = 23 ∨ j = 24 ∨ j = 25 ∨ j = 26 ∨ j = 27 ∨ j = 28 ∨ j = 29 by omega) with rfl | rfl | rfl | rfl | rfl | rfl | rfl | rfl | rfl | rfl | rfl | rfl | rfl | rfl | rfl | rfl | rfl | rfl | rfl | rfl | rfl | rfl | rfl | rfl | rfl | rfl | rfl | rfl | rfl | rfl <;> rfl) (Nat.le_of_ble_eq_true rfl) (Nat.le_of_ble_eq_true rfl) d_L_law_8 (fun qb H hP hD hS => ?_)
  have hP : va_P D vwCl ((wX q k (S, A)) ++ [(qb, .inr (7, [.null, .int 0, .int 0, .int 0, .int 0, .int 0, .int 0, .int 0, .int 0, .int 0, .int 0, .int 0, .int 0, .int 0, .int 0, .int 0, .int 0, .int 0, .int 0, .int 0, .int 0, .null, .int 0, .int 0, .int 0, .int 0, .null, .int 0, .null, .null]))]) H := hP
  have hD : va_D F ((wX q k (S, A)) ++ [(qb, .inr (7, [.null, .int 0, .int 0, .int 0, .int 0, .int 0, .int 0, .int 0, .int 0, .int 0, .int 0, .int 0, .int 0, .int 0, .int 0, .int 0, .int 0, .int 0, .int 0, .int 0, .int 0, .null, .int 0, .int 0, .int 0, .int 0, .null, .int 0, .null, .null]))]) := hD
  refine lv_dup (pc := 11) hx hb d_L_law_11 rfl ?_
  have hPc := tl_PR hP
  have hDc := tl_DR hD
  have hKc := hK.sub (tys' := []) [] rfl
  have hFc := tl_free hDc hS hA
  refine va_callv (va_runI (As := []) (rest := [.ref qb]) ⟨hx, hb, hml, hown, hts⟩ (cc_M l D qb H.size hw) (cwI 0 hts (tl_good in_531) rfl rfl rfl (hts _ in_8) (hts _ in_529) (hts _ in_530) rfl (by decide +kernel) ⟨Nat.le_of_ble_eq_true rfl, Nat.le_of_ble_eq_true rfl⟩) ⟨tl_blind0, fun U hU hW => ⟨rfl, by rw [hU], by rw [hU]; exact hPc, va_K.moved hW.alike hKc, hDc.weaken (fun _ _ _ _ => trivial), tl_NS.warm hW hN⟩⟩ rfl rfl hl.1 rfl (lv_room (Nat.le_of_ble_eq_true rfl)) d_L_law_12 ⟨Nat.le_of_ble_eq_true rfl, Nat.le_of_ble_eq_true rfl⟩) hS (fun q _ h => hFc q h) hFc (fun u t H1 locs ht hvm hw hB hz1 hk1 hS => ?_)
  obtain ⟨⟨q2, k2⟩, T, B⟩ := u
  obtain ⟨hw, hq⟩ := hw
  have hq : q2 0 = qb := hq
  subst hq
  obtain ⟨hP1, hK1, hD1⟩ := hB
  rw [ht] at hP1
  have hK1 := va_K.moved hvm.symm hK1
  obtain ⟨hP, hD⟩ := tl_frR hP hD hk1 hFc hP1 hD1
  have hP : va_P D vwCl (wL q k q2 k2 ((S, A), (T, B))) H1 := hP
  have hD : va_D F (wL q k q2 k2 ((S, A), (T, B))) := hD
  have hK : va_K D vwCl (tL k k2) s := hK.app hK1
  refine lv_astore_n (pc := 15) (lv' := [(2, .ref (q2 0)), (1, .ref (q 0)), (0, .ref b)]) hx hb d_L_law_15 rfl hl (by decide) rfl (fun ls hl => ?_)
  have hT := aL_law l D q k q2 k2 S A T B (b := b) (L := L) (xs := xs) (z := (p, e, s, m, #[Value.ref b], below, meth, c, F)) ⟨⟨hx, hb, hml, hown, hts, hN, hK, hA, hlk, hr⟩, rfl, hF, hX, hbl⟩ hw
  exact hT ls H1 locs (lv_sub hl [2, 1, 0] rfl) hP hD hS
