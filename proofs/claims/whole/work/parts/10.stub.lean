theorem tl_pure (L : Nat) (xs : Nat → Int32) (hL : L ≤ 1536) : wN_Mm_init (fun S A => wX_T_init (fun S1 A1 => wM_M_init (fun T B => wL_law L xs S1 A1 T B) (fun i => if i = 12 then (-1 : Int32) else 0) (fun _ _ => 0)) (tl_S0 S) (tl_A0 A)) (fun _ => 0) (fun _ _ => 0) := by
  sorry
