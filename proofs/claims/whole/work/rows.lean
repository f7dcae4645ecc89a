section
abbrev SS : Type := Nat → Int32
abbrev AA : Type := Nat → Nat → Int32
abbrev tl_z (v : Int32) : Prop := v = 0 ∨ v = 1
def tl_mx (x y : Int32) : Int32 := if x < y then y else x
def tl_S0 (S : SS) : SS := fun i => if i = 5 then S 0 else if i = 6 then S 1 else 0
def tl_A0 (A : AA) : AA := fun j => if j = 0 then A 0 else fun _ => 0
end
section
def wX_T_byteOf_10 (post : Int32 → SS → AA → Prop) (S : SS) (A : AA) (x2 y0 : Int32) : Prop :=
  (post ((y0.toUInt32 >>> (((24 : Int32) - ((8 : Int32) * (x2 &&& (3 : Int32)))).toUInt32 &&& Int32.toUInt32 31)).toInt32 &&& (255 : Int32)) S A)
def wX_T_byteOf (post : Int32 → SS → AA → Prop) (S : SS) (A : AA) (x0 x1 x2 : Int32) : Prop :=
  (((4 : Int32) ≤ x2 → (wX_T_byteOf_10 post S A x2 x1)) ∧ (¬ (4 : Int32) ≤ x2 → (wX_T_byteOf_10 post S A x2 x0)))
def wX_Rc_add_8B (post : SS → AA → Prop) (X8 : SS → AA → Int32 → Int32 → Int32 → Prop) (S : SS) (A : AA) (x1 x2 x4 : Int32) : Prop :=
  (((8 : Int32) ≤ x4 → (post S A)) ∧ (¬ (8 : Int32) ≤ x4 → (((S 8) ≤ 0 → (post S A)) ∧ (¬ (S 8) ≤ 0 → (((34 : Int32) ≤ (S 7) → (post S A)) ∧ (¬ (34 : Int32) ≤ (S 7) → (wX_T_byteOf (fun r43 S43 A43 => (vp_in (S 7) 34 ∧ (X8 (va_up (va_up S43 7 ((S43 7) + (1 : Int32))) 8 ((S43 8) - (1 : Int32))) (va_up A43 1 (upd (A43 1) (S 7).toNatClampNeg r43)) x1 x2 (x4 + (1 : Int32))))) S A x1 x2 x4)))))))
def wX_Rc_add_8 (post : SS → AA → Prop) (S : SS) (A : AA) (x1 x2 x4 : Int32) : Prop :=
  ∀ X8 : SS → AA → Int32 → Int32 → Int32 → Prop, (∀ (S : SS) (A : AA) (x1 x2 x4 : Int32), wX_Rc_add_8B post X8 S A x1 x2 x4 → X8 S A x1 x2 x4) → X8 S A x1 x2 x4
def wX_Rc_add (post : SS → AA → Prop) (S : SS) (A : AA) (x1 x2 x3 : Int32) : Prop :=
  (wX_Rc_add_8 post (va_up S 10 (0 : Int32)) A x1 x2 x3)
def wX_Rc_drop (post : SS → AA → Prop) (S : SS) (A : AA) : Prop :=
  (post (va_up (va_up S 7 (0 : Int32)) 8 (0 : Int32)) A)
def wX_Rc_acceptNext_36 (post : Int32 → SS → AA → Prop) (S : SS) (A : AA) (x1 x2 y0 : Int32) : Prop :=
  (wX_Rc_add (fun S54 A54 => ((¬ (S54 8) = 0 → ((y0 = 0 → (post (0 : Int32) S54 A54)) ∧ (¬ y0 = 0 → (post (1 : Int32) S54 A54)))) ∧ ((S54 8) = 0 → (post (2 : Int32) S54 A54)))) (va_up S 9 (((S 9) + (1 : Int32)) - ((S 9) + (1 : Int32)) / (16 : Int32) * (16 : Int32))) A x1 x2 (1 : Int32))
def wX_Rc_acceptNext (post : Int32 → SS → AA → Prop) (S : SS) (A : AA) (x1 x2 : Int32) : Prop :=
  (wX_T_byteOf (fun r3 S3 A3 => (((r3 - (32 : Int32)) = (S3 9) → ((¬ ((S3 9) - (S3 9) / (2 : Int32) * (2 : Int32)) = 0 → (wX_Rc_acceptNext_36 post S3 A3 x1 x2 (0 : Int32))) ∧ (((S3 9) - (S3 9) / (2 : Int32) * (2 : Int32)) = 0 → (wX_Rc_acceptNext_36 post S3 A3 x1 x2 (1 : Int32))))) ∧ (¬ (r3 - (32 : Int32)) = (S3 9) → (wX_Rc_drop (fun S17 A17 => (post (0 : Int32) S17 A17)) S3 A3)))) S A x1 x2 (0 : Int32))
def wX_Rc_begin (post : SS → AA → Prop) (S : SS) (A : AA) (x1 : Int32) : Prop :=
  (post (va_up (va_up (va_up S 7 (0 : Int32)) 8 x1) 9 (1 : Int32)) A)
def wX_Rc_accept_75 (post : Int32 → SS → AA → Prop) (S : SS) (A : AA) (x1 x2 x3 : Int32) : Prop :=
  ((x3 < (32 : Int32) → (post (0 : Int32) S A)) ∧ (¬ x3 < (32 : Int32) → (((48 : Int32) ≤ x3 → (post (0 : Int32) S A)) ∧ (¬ (48 : Int32) ≤ x3 → (((S 8) ≤ 0 → (post (0 : Int32) S A)) ∧ (¬ (S 8) ≤ 0 → (wX_Rc_acceptNext (fun r97 S97 A97 => (post r97 S97 A97)) S A x1 x2)))))))
def wX_Rc_accept_32 (post : Int32 → SS → AA → Prop) (S : SS) (A : AA) (x1 x2 x3 : Int32) : Prop :=
  (wX_T_byteOf (fun r35 S35 A35 => ((¬ x3 = (16 : Int32) → (wX_Rc_accept_75 post S35 A35 x1 x2 x3)) ∧ (x3 = (16 : Int32) → ((r35 < (8 : Int32) → (wX_Rc_accept_75 post S35 A35 x1 x2 x3)) ∧ (¬ r35 < (8 : Int32) → (((34 : Int32) < r35 → (wX_Rc_accept_75 post S35 A35 x1 x2 x3)) ∧ (¬ (34 : Int32) < r35 → (wX_Rc_begin (fun S63 A63 => (wX_Rc_add (fun S70 A70 => (post (1 : Int32) S70 A70)) S63 A63 x1 x2 (2 : Int32))) S35 A35 r35)))))))) S A x1 x2 (1 : Int32))
def wX_Rc_accept (post : Int32 → SS → AA → Prop) (S : SS) (A : AA) (x1 x2 : Int32) : Prop :=
  (wX_T_byteOf (fun r3 S3 A3 => ((r3 < (1 : Int32) → (wX_Rc_accept_32 post S3 A3 x1 x2 r3)) ∧ (¬ r3 < (1 : Int32) → (((7 : Int32) < r3 → (wX_Rc_accept_32 post S3 A3 x1 x2 r3)) ∧ (¬ (7 : Int32) < r3 → (wX_Rc_begin (fun S20 A20 => (wX_Rc_add (fun S27 A27 => (post (2 : Int32) S27 A27)) S20 A20 x1 x2 (1 : Int32))) S3 A3 r3)))))) S A x1 x2 (0 : Int32))
def wX_Rw_put_9_35B (post : SS → AA → Prop) (X35 : SS → AA → Int32 → Int32 → Prop) (S : SS) (A : AA) (x2 x3 : Int32) : Prop :=
  (((8 : Int32) ≤ x3 → (post (va_up S 17 ((S 17) + (1 : Int32))) A)) ∧ (¬ (8 : Int32) ≤ x3 → (vp_in x3 8 ∧ (vp_in (x2 + x3) 96 ∧ (X35 S (va_up A 2 (upd (A 2) (x2 + x3).toNatClampNeg ((A 4) x3.toNatClampNeg))) x2 (x3 + (1 : Int32)))))))
def wX_Rw_put_9_35 (post : SS → AA → Prop) (S : SS) (A : AA) (x2 x3 : Int32) : Prop :=
  ∀ X35 : SS → AA → Int32 → Int32 → Prop, (∀ (S : SS) (A : AA) (x2 x3 : Int32), wX_Rw_put_9_35B post X35 S A x2 x3 → X35 S A x2 x3) → X35 S A x2 x3
def wX_Rw_put_9 (post : SS → AA → Prop) (S : SS) (A : AA) : Prop :=
  (((S 17) = (12 : Int32) → (post S A)) ∧ (¬ (S 17) = (12 : Int32) → (wX_Rw_put_9_35 post S A ((((S 16) + (S 17)) - ((S 16) + (S 17)) / (12 : Int32) * (12 : Int32)) * (8 : Int32)) (0 : Int32))))
def wX_Sd_putFrom_71 (post : SS → AA → Prop) (X2 : SS → AA → Int32 → Prop) (S : SS) (A : AA) (x2 y0 y1 : Int32) : Prop :=
  (X2 (va_up S 12 (y1 + y0)) A (x2 + (1 : Int32)))
def wX_Sd_putFrom_56 (post : SS → AA → Prop) (X2 : SS → AA → Int32 → Prop) (S : SS) (A : AA) (x2 x3 y0 y1 : Int32) : Prop :=
  (vp_in y1 8 ∧ ((x3 = 0 → (wX_Sd_putFrom_71 post X2 S (va_up A 4 (upd (A 4) y1.toNatClampNeg y0)) x2 (0 : Int32) (S 12))) ∧ (¬ x3 = 0 → (wX_Sd_putFrom_71 post X2 S (va_up A 4 (upd (A 4) y1.toNatClampNeg y0)) x2 (1 : Int32) (S 12)))))
def wX_Sd_putFrom_33 (post : SS → AA → Prop) (X2 : SS → AA → Int32 → Prop) (S : SS) (A : AA) (x2 y0 : Int32) : Prop :=
  ((y0 = 0 → (wX_Sd_putFrom_56 post X2 S A x2 y0 (0 : Int32) x2)) ∧ (¬ y0 = 0 → (vp_in (S 12) 10 ∧ (wX_Sd_putFrom_56 post X2 S A x2 y0 ((A 3) (S 12).toNatClampNeg) x2))))
def wX_Sd_putFrom_32 (post : SS → AA → Prop) (X2 : SS → AA → Int32 → Prop) (S : SS) (A : AA) (x2 : Int32) : Prop :=
  (wX_Sd_putFrom_33 post X2 S A x2 (0 : Int32))
def wX_Sd_putFrom_2B (post : SS → AA → Prop) (X2 : SS → AA → Int32 → Prop) (S : SS) (A : AA) (x2 : Int32) : Prop :=
  (((8 : Int32) ≤ x2 → (wX_Rw_put_9 (fun S89 A89 => (post S89 A89)) S A)) ∧ (¬ (8 : Int32) ≤ x2 → (((S 11) ≤ (S 12) → (wX_Sd_putFrom_32 post X2 S A x2)) ∧ (¬ (S 11) ≤ (S 12) → (((10 : Int32) ≤ (S 12) → (wX_Sd_putFrom_32 post X2 S A x2)) ∧ (¬ (10 : Int32) ≤ (S 12) → (wX_Sd_putFrom_33 post X2 S A x2 (1 : Int32))))))))
def wX_Sd_putFrom_2 (post : SS → AA → Prop) (S : SS) (A : AA) (x2 : Int32) : Prop :=
  ∀ X2 : SS → AA → Int32 → Prop, (∀ (S : SS) (A : AA) (x2 : Int32), wX_Sd_putFrom_2B post X2 S A x2 → X2 S A x2) → X2 S A x2
def wX_Sd_putFrom (post : SS → AA → Prop) (S : SS) (A : AA) (x1 : Int32) : Prop :=
  (wX_Sd_putFrom_2 post S A x1)
def wX_Sd_askForMore (post : SS → AA → Prop) (S : SS) (A : AA) : Prop :=
  (vp_in (0 : Int32) 8 ∧ (vp_in (1 : Int32) 8 ∧ (wX_Sd_putFrom (fun S27 A27 => (post S27 A27)) (va_up (va_up S 12 (0 : Int32)) 11 (0 : Int32)) (va_up (va_up A 4 (upd (A 4) (0 : Int32).toNatClampNeg (48 : Int32))) 4 (upd (upd (A 4) (0 : Int32).toNatClampNeg (48 : Int32)) (1 : Int32).toNatClampNeg (2 : Int32))) (2 : Int32))))
def wX_Sd_drop (post : SS → AA → Prop) (S : SS) (A : AA) : Prop :=
  (post (va_up S 15 (0 : Int32)) A)
def wX_Sd_goOn_83 (post : SS → AA → Prop) (S : SS) (A : AA) (y0 : Int32) : Prop :=
  (tl_z y0 ∧ (post (va_up (va_up S 15 y0) 14 (0 : Int32)) A))
def wX_Sd_goOn_66 (post : SS → AA → Prop) (S : SS) (A : AA) : Prop :=
  (((S 11) ≤ (S 12) → (wX_Sd_goOn_83 post S A (0 : Int32))) ∧ (¬ (S 11) ≤ (S 12) → (wX_Sd_goOn_83 post S A (1 : Int32))))
def wX_Sd_goOn_13B (post : SS → AA → Prop) (X13 : SS → AA → Int32 → Int32 → Prop) (S : SS) (A : AA) (x2 x3 : Int32) : Prop :=
  ((x2 ≤ x3 → (wX_Sd_goOn_66 post S A)) ∧ (¬ x2 ≤ x3 → (((S 11) ≤ (S 12) → (wX_Sd_goOn_66 post S A)) ∧ (¬ (S 11) ≤ (S 12) → (vp_in (0 : Int32) 8 ∧ (wX_Sd_putFrom (fun S57 A57 => (X13 S57 A57 x2 (x3 + (1 : Int32)))) (va_up S 13 (((S 13) + (1 : Int32)) - ((S 13) + (1 : Int32)) / (16 : Int32) * (16 : Int32))) (va_up A 4 (upd (A 4) (0 : Int32).toNatClampNeg ((32 : Int32) + (S 13)))) (1 : Int32)))))))
def wX_Sd_goOn_13 (post : SS → AA → Prop) (S : SS) (A : AA) (x2 x3 : Int32) : Prop :=
  ∀ X13 : SS → AA → Int32 → Int32 → Prop, (∀ (S : SS) (A : AA) (x2 x3 : Int32), wX_Sd_goOn_13B post X13 S A x2 x3 → X13 S A x2 x3) → X13 S A x2 x3
def wX_Sd_goOn_10 (post : SS → AA → Prop) (S : SS) (A : AA) (y0 : Int32) : Prop :=
  (wX_Sd_goOn_13 post S A y0 (0 : Int32))
def wX_Sd_goOn (post : SS → AA → Prop) (S : SS) (A : AA) (x1 : Int32) : Prop :=
  ((¬ x1 = 0 → (wX_Sd_goOn_10 post S A x1)) ∧ (x1 = 0 → (wX_Sd_goOn_10 post S A (10 : Int32))))
def wX_Sd_waitAnew (post : SS → AA → Prop) (S : SS) (A : AA) : Prop :=
  (post (va_up S 14 (0 : Int32)) A)
def wX_T_steerAnswer (post : SS → AA → Prop) (S : SS) (A : AA) (x1 x2 : Int32) : Prop :=
  ((¬ (S 15) = 0 → ((¬ x1 = (48 : Int32) → ((¬ x1 = (49 : Int32) → (wX_Sd_drop (fun S48 A48 => (post S48 A48)) S A)) ∧ (x1 = (49 : Int32) → (wX_Sd_waitAnew (fun S38 A38 => (post S38 A38)) S A)))) ∧ (x1 = (48 : Int32) → (wX_Sd_goOn (fun S22 A22 => (post S22 A22)) S A x2)))) ∧ ((S 15) = 0 → (post S A)))
def wX_Rc_at (post : Int32 → SS → AA → Prop) (S : SS) (A : AA) (x1 : Int32) : Prop :=
  ((x1 < 0 → (post (0 : Int32) S A)) ∧ (¬ x1 < 0 → (((S 7) ≤ x1 → (post (0 : Int32) S A)) ∧ (¬ (S 7) ≤ x1 → (((34 : Int32) ≤ x1 → (post (0 : Int32) S A)) ∧ (¬ (34 : Int32) ≤ x1 → (vp_in x1 34 ∧ (post ((A 1) x1.toNatClampNeg) S A))))))))
def wX_Sd_add (post : SS → AA → Prop) (S : SS) (A : AA) (x1 : Int32) : Prop :=
  (((10 : Int32) ≤ (S 11) → (post S A)) ∧ (¬ (10 : Int32) ≤ (S 11) → (vp_in (S 11) 10 ∧ (post (va_up S 11 ((S 11) + (1 : Int32))) (va_up A 3 (upd (A 3) (S 11).toNatClampNeg x1))))))
def wX_Sd_begin (post : SS → AA → Prop) (S : SS) (A : AA) (x1 : Int32) : Prop :=
  (wX_Sd_add (fun S7 A7 => (post S7 A7)) (va_up S 11 (0 : Int32)) A x1)
def wX_Sd_send (post : SS → AA → Prop) (S : SS) (A : AA) : Prop :=
  (((7 : Int32) < (S 11) → (vp_in (0 : Int32) 8 ∧ (vp_in (1 : Int32) 8 ∧ (wX_Sd_putFrom (fun S50 A50 => (post (va_up (va_up (va_up S50 13 (1 : Int32)) 15 (1 : Int32)) 14 (0 : Int32)) A50)) (va_up S 12 (0 : Int32)) (va_up (va_up A 4 (upd (A 4) (0 : Int32).toNatClampNeg (16 : Int32))) 4 (upd (upd (A 4) (0 : Int32).toNatClampNeg (16 : Int32)) (1 : Int32).toNatClampNeg (S 11))) (2 : Int32))))) ∧ (¬ (7 : Int32) < (S 11) → (vp_in (0 : Int32) 8 ∧ (wX_Sd_putFrom (fun S26 A26 => (post S26 A26)) (va_up S 12 (0 : Int32)) (va_up A 4 (upd (A 4) (0 : Int32).toNatClampNeg (S 11))) (1 : Int32)))))
def wX_Dl_end (post : SS → AA → Prop) (S : SS) (A : AA) : Prop :=
  (post (va_up S 23 (0 : Int32)) A)
def wX_Lk_close (post : SS → AA → Prop) (S : SS) (A : AA) : Prop :=
  (post (va_up (va_up S 18 (0 : Int32)) 19 (0 : Int32)) A)
def wX_Lk_reset (post : SS → AA → Prop) (S : SS) (A : AA) : Prop :=
  (wX_Lk_close (fun S1 A1 => (post (va_up (va_up S1 21 (0 : Int32)) 22 (0 : Int32)) A1)) S A)
def wX_Mm_byteAt (post : Int32 → SS → AA → Prop) (S : SS) (A : AA) (x1 : Int32) : Prop :=
  ((x1 < 0 → (post (0 : Int32) S A)) ∧ (¬ x1 < 0 → (((96 : Int32) ≤ x1 → (post (0 : Int32) S A)) ∧ (¬ (96 : Int32) ≤ x1 → (vp_in x1 96 ∧ (post ((A 0) x1.toNatClampNeg) S A))))))
def wX_Mm_headerOf (post : Int32 → SS → AA → Prop) (S : SS) (A : AA) (x0 : Int32) : Prop :=
  (post ((x0 * (48 : Int32)) + (32 : Int32)) S A)
def wX_Mm_sumOf_76 (post : Int32 → SS → AA → Prop) (X18 : SS → AA → Int32 → Int32 → Int32 → Prop) (X43 : SS → AA → Int32 → Int32 → Int32 → Int32 → Prop) (S : SS) (A : AA) (x2 x4 x5 y0 : Int32) : Prop :=
  (X43 S A x2 y0 x4 (x5 + (1 : Int32)))
def wX_Mm_sumOf_43B (post : Int32 → SS → AA → Prop) (X18 : SS → AA → Int32 → Int32 → Int32 → Prop) (X43 : SS → AA → Int32 → Int32 → Int32 → Int32 → Prop) (S : SS) (A : AA) (x2 x3 x4 x5 : Int32) : Prop :=
  (((8 : Int32) ≤ x5 → (X18 S A x2 x3 (x4 + (1 : Int32)))) ∧ (¬ (8 : Int32) ≤ x5 → (((x3 &&& (32768 : Int32)) = 0 → (wX_Mm_sumOf_76 post X18 X43 S A x2 x4 x5 ((x3 <<< ((1 : Int32) &&& 31)) &&& (65535 : Int32)))) ∧ (¬ (x3 &&& (32768 : Int32)) = 0 → (wX_Mm_sumOf_76 post X18 X43 S A x2 x4 x5 (((x3 <<< ((1 : Int32) &&& 31)) &&& (65535 : Int32)) ^^^ (4129 : Int32)))))))
def wX_Mm_sumOf_43 (post : Int32 → SS → AA → Prop) (X18 : SS → AA → Int32 → Int32 → Int32 → Prop) (S : SS) (A : AA) (x2 x3 x4 x5 : Int32) : Prop :=
  ∀ X43 : SS → AA → Int32 → Int32 → Int32 → Int32 → Prop, (∀ (S : SS) (A : AA) (x2 x3 x4 x5 : Int32), wX_Mm_sumOf_43B post X18 X43 S A x2 x3 x4 x5 → X43 S A x2 x3 x4 x5) → X43 S A x2 x3 x4 x5
def wX_Mm_sumOf_18B (post : Int32 → SS → AA → Prop) (X18 : SS → AA → Int32 → Int32 → Int32 → Prop) (S : SS) (A : AA) (x2 x3 x4 : Int32) : Prop :=
  (((x2 + (32 : Int32)) ≤ x4 → (post x3 S A)) ∧ (¬ (x2 + (32 : Int32)) ≤ x4 → (vp_in x4 96 ∧ (wX_Mm_sumOf_43 post X18 S A x2 (x3 ^^^ (((A 0) x4.toNatClampNeg) <<< ((8 : Int32) &&& 31))) x4 (0 : Int32)))))
def wX_Mm_sumOf_18 (post : Int32 → SS → AA → Prop) (S : SS) (A : AA) (x2 x3 x4 : Int32) : Prop :=
  ∀ X18 : SS → AA → Int32 → Int32 → Int32 → Prop, (∀ (S : SS) (A : AA) (x2 x3 x4 : Int32), wX_Mm_sumOf_18B post X18 S A x2 x3 x4 → X18 S A x2 x3 x4) → X18 S A x2 x3 x4
def wX_Mm_sumOf_11 (post : Int32 → SS → AA → Prop) (S : SS) (A : AA) (y0 : Int32) : Prop :=
  (wX_Mm_sumOf_18 post S A y0 (65535 : Int32) y0)
def wX_Mm_sumOf (post : Int32 → SS → AA → Prop) (S : SS) (A : AA) (x1 : Int32) : Prop :=
  ((¬ x1 = (1 : Int32) → (wX_Mm_sumOf_11 post S A (0 : Int32))) ∧ (x1 = (1 : Int32) → (wX_Mm_sumOf_11 post S A (48 : Int32))))
def wX_Mm_goodSerial (post : Int32 → SS → AA → Prop) (S : SS) (A : AA) (x1 : Int32) : Prop :=
  (wX_Mm_headerOf (fun r1 S1 A1 => (wX_Mm_byteAt (fun r9 S9 A9 => (wX_Mm_byteAt (fun r19 S19 A19 => (wX_Mm_byteAt (fun r26 S26 A26 => ((¬ r26 = 0 → (post (-1 : Int32) S26 A26)) ∧ (r26 = 0 → (wX_Mm_sumOf (fun r35 S35 A35 => ((¬ ((r9 <<< ((8 : Int32) &&& 31)) ||| r19) = r35 → (post (-1 : Int32) S35 A35)) ∧ (((r9 <<< ((8 : Int32) &&& 31)) ||| r19) = r35 → (wX_Mm_byteAt (fun r45 S45 A45 => (post r45 S45 A45)) S35 A35 (r1 + (1 : Int32)))))) S26 A26 x1)))) S19 A19 r1)) S9 A9 (r1 + (3 : Int32)))) S1 A1 (r1 + (2 : Int32)))) S A x1)
def wX_Mm_bestSlot (post : Int32 → SS → AA → Prop) (S : SS) (A : AA) : Prop :=
  (wX_Mm_goodSerial (fun r2 S2 A2 => (wX_Mm_goodSerial (fun r8 S8 A8 => ((r8 ≤ r2 → ((¬ r2 = (-1 : Int32) → (post (0 : Int32) S8 A8)) ∧ (r2 = (-1 : Int32) → (post (-1 : Int32) S8 A8)))) ∧ (¬ r8 ≤ r2 → (post (1 : Int32) S8 A8)))) S2 A2 (1 : Int32))) S A (0 : Int32))
def wX_T_boot (post : SS → AA → Prop) (S : SS) (A : AA) : Prop :=
  (wX_Mm_bestSlot (fun r5 S5 A5 => (wX_Lk_reset (fun S35 A35 => (wX_Dl_end (fun S42 A42 => (wX_Rc_drop (fun S49 A49 => (wX_Sd_drop (fun S56 A56 => (post S56 A56)) S49 A49)) S42 A42)) S35 A35)) (va_up (va_up (va_up (va_up (va_up S5 0 r5) 1 (1 : Int32)) 2 (-1 : Int32)) 3 (0 : Int32)) 4 (0 : Int32)) A5)) S A)
def wX_Rw_clear (post : SS → AA → Prop) (S : SS) (A : AA) : Prop :=
  (post (va_up S 17 (0 : Int32)) A)
def wX_T_bootAfresh (post : SS → AA → Prop) (S : SS) (A : AA) : Prop :=
  (wX_T_boot (fun S1 A1 => (wX_Rw_clear (fun S8 A8 => (post S8 A8)) S1 A1)) S A)
def wX_T_hasKnownKind_76 (post : Int32 → SS → AA → Prop) (S : SS) (A : AA) (x2 : Int32) : Prop :=
  ((¬ x2 = (1 : Int32) → (post (0 : Int32) S A)) ∧ (x2 = (1 : Int32) → (post (1 : Int32) S A)))
def wX_T_hasKnownKind_70 (post : Int32 → SS → AA → Prop) (S : SS) (A : AA) : Prop :=
  (post (1 : Int32) S A)
def wX_T_hasKnownKind_60 (post : Int32 → SS → AA → Prop) (S : SS) (A : AA) (x2 : Int32) : Prop :=
  ((x2 = (1 : Int32) → (wX_T_hasKnownKind_70 post S A)) ∧ (¬ x2 = (1 : Int32) → ((¬ x2 = (2 : Int32) → (post (0 : Int32) S A)) ∧ (x2 = (2 : Int32) → (wX_T_hasKnownKind_70 post S A)))))
def wX_T_hasKnownKind (post : Int32 → SS → AA → Prop) (S : SS) (A : AA) (x1 : Int32) : Prop :=
  (wX_Rc_at (fun r5 S5 A5 => ((x1 = (16 : Int32) → (wX_T_hasKnownKind_60 post S5 A5 r5)) ∧ (¬ x1 = (16 : Int32) → ((x1 = (17 : Int32) → (wX_T_hasKnownKind_76 post S5 A5 r5)) ∧ (¬ x1 = (17 : Int32) → ((x1 = (39 : Int32) → (wX_T_hasKnownKind_60 post S5 A5 r5)) ∧ (¬ x1 = (39 : Int32) → ((x1 = (49 : Int32) → (wX_T_hasKnownKind_76 post S5 A5 r5)) ∧ (¬ x1 = (49 : Int32) → ((x1 = (62 : Int32) → ((¬ r5 = 0 → (post (0 : Int32) S5 A5)) ∧ (r5 = 0 → (post (1 : Int32) S5 A5)))) ∧ (¬ x1 = (62 : Int32) → (post (1 : Int32) S5 A5)))))))))))) S A (1 : Int32))
def wX_T_hasRightLength_149 (post : Int32 → SS → AA → Prop) (S : SS) (A : AA) (y0 y1 : Int32) : Prop :=
  ((¬ y1 = y0 → (post (0 : Int32) S A)) ∧ (y1 = y0 → (post (1 : Int32) S A)))
def wX_T_hasRightLength_119 (post : Int32 → SS → AA → Prop) (S : SS) (A : AA) (x2 : Int32) : Prop :=
  ((¬ x2 = (3 : Int32) → (post (0 : Int32) S A)) ∧ (x2 = (3 : Int32) → (post (1 : Int32) S A)))
def wX_T_hasRightLength_110 (post : Int32 → SS → AA → Prop) (S : SS) (A : AA) (y0 y1 : Int32) : Prop :=
  ((¬ y1 = y0 → (post (0 : Int32) S A)) ∧ (y1 = y0 → (post (1 : Int32) S A)))
def wX_T_hasRightLength (post : Int32 → SS → AA → Prop) (S : SS) (A : AA) (x1 : Int32) : Prop :=
  ((x1 = (39 : Int32) → (wX_Rc_at (fun r98 S98 A98 => ((¬ r98 = (2 : Int32) → (wX_T_hasRightLength_110 post S98 A98 (2 : Int32) (S 7))) ∧ (r98 = (2 : Int32) → (wX_T_hasRightLength_110 post S98 A98 (3 : Int32) (S 7))))) S A (1 : Int32))) ∧ (¬ x1 = (39 : Int32) → ((x1 = (46 : Int32) → (wX_T_hasRightLength_119 post S A (S 7))) ∧ (¬ x1 = (46 : Int32) → ((x1 = (49 : Int32) → (wX_Rc_at (fun r136 S136 A136 => ((¬ r136 = (2 : Int32) → (wX_T_hasRightLength_149 post S136 A136 (4 : Int32) (S 7))) ∧ (r136 = (2 : Int32) → (wX_T_hasRightLength_149 post S136 A136 (6 : Int32) (S 7))))) S A (2 : Int32))) ∧ (¬ x1 = (49 : Int32) → ((x1 = (52 : Int32) → (wX_T_hasRightLength_119 post S A (S 7))) ∧ (¬ x1 = (52 : Int32) → ((x1 = (54 : Int32) → (((S 7) < (3 : Int32) → (post (0 : Int32) S A)) ∧ (¬ (S 7) < (3 : Int32) → (((10 : Int32) < (S 7) → (post (0 : Int32) S A)) ∧ (¬ (10 : Int32) < (S 7) → (post (1 : Int32) S A)))))) ∧ (¬ x1 = (54 : Int32) → ((x1 = (55 : Int32) → ((¬ (S 7) = (1 : Int32) → (post (0 : Int32) S A)) ∧ ((S 7) = (1 : Int32) → (post (1 : Int32) S A)))) ∧ (¬ x1 = (55 : Int32) → ((¬ (S 7) = (2 : Int32) → (post (0 : Int32) S A)) ∧ ((S 7) = (2 : Int32) → (post (1 : Int32) S A)))))))))))))))
def wX_T_isInRange (post : Int32 → SS → AA → Prop) (S : SS) (A : AA) (x1 : Int32) : Prop :=
  (wX_Rc_at (fun r5 S5 A5 => (wX_Rc_at (fun r14 S14 A14 => ((x1 = (34 : Int32) → (((2 : Int32) < r5 → (post (0 : Int32) S14 A14)) ∧ (¬ (2 : Int32) < r5 → (post (1 : Int32) S14 A14)))) ∧ (¬ x1 = (34 : Int32) → ((x1 = (46 : Int32) → ((¬ r5 = (1 : Int32) → (post (0 : Int32) S14 A14)) ∧ (r5 = (1 : Int32) → (post (1 : Int32) S14 A14)))) ∧ (¬ x1 = (46 : Int32) → ((x1 = (49 : Int32) → ((r14 < (1 : Int32) → (post (0 : Int32) S14 A14)) ∧ (¬ r14 < (1 : Int32) → (((3 : Int32) < r14 → (post (0 : Int32) S14 A14)) ∧ (¬ (3 : Int32) < r14 → (wX_Rc_at (fun r97 S97 A97 => (((1 : Int32) < r97 → (post (0 : Int32) S97 A97)) ∧ (¬ (1 : Int32) < r97 → (post (1 : Int32) S97 A97)))) S14 A14 (3 : Int32))))))) ∧ (¬ x1 = (49 : Int32) → ((x1 = (52 : Int32) → (((1 : Int32) < r5 → (post (0 : Int32) S14 A14)) ∧ (¬ (1 : Int32) < r5 → ((r14 < (1 : Int32) → (post (0 : Int32) S14 A14)) ∧ (¬ r14 < (1 : Int32) → (((32 : Int32) < r14 → (post (0 : Int32) S14 A14)) ∧ (¬ (32 : Int32) < r14 → (post (1 : Int32) S14 A14)))))))) ∧ (¬ x1 = (52 : Int32) → (post (1 : Int32) S14 A14)))))))))) S5 A5 (2 : Int32))) S A (1 : Int32))
def wX_T_needsUnlocking_30 (post : Int32 → SS → AA → Prop) (S : SS) (A : AA) : Prop :=
  (post (1 : Int32) S A)
def wX_T_needsUnlocking (post : Int32 → SS → AA → Prop) (S : SS) (A : AA) (x0 : Int32) : Prop :=
  ((x0 = (46 : Int32) → (wX_T_needsUnlocking_30 post S A)) ∧ (¬ x0 = (46 : Int32) → ((x0 = (49 : Int32) → (wX_T_needsUnlocking_30 post S A)) ∧ (¬ x0 = (49 : Int32) → ((x0 = (52 : Int32) → (wX_T_needsUnlocking_30 post S A)) ∧ (¬ x0 = (52 : Int32) → ((x0 = (54 : Int32) → (wX_T_needsUnlocking_30 post S A)) ∧ (¬ x0 = (54 : Int32) → ((¬ x0 = (55 : Int32) → (post (0 : Int32) S A)) ∧ (x0 = (55 : Int32) → (wX_T_needsUnlocking_30 post S A)))))))))))
def wX_T_isKnown_37 (post : Int32 → SS → AA → Prop) (S : SS) (A : AA) : Prop :=
  (post (1 : Int32) S A)
def wX_T_isKnown (post : Int32 → SS → AA → Prop) (S : SS) (A : AA) (x0 : Int32) : Prop :=
  ((x0 = (16 : Int32) → (wX_T_isKnown_37 post S A)) ∧ (¬ x0 = (16 : Int32) → ((x0 = (17 : Int32) → (wX_T_isKnown_37 post S A)) ∧ (¬ x0 = (17 : Int32) → ((x0 = (34 : Int32) → (wX_T_isKnown_37 post S A)) ∧ (¬ x0 = (34 : Int32) → ((x0 = (39 : Int32) → (wX_T_isKnown_37 post S A)) ∧ (¬ x0 = (39 : Int32) → ((x0 = (62 : Int32) → (wX_T_isKnown_37 post S A)) ∧ (¬ x0 = (62 : Int32) → (wX_T_needsUnlocking (fun r31 S31 A31 => ((r31 = 0 → (post (0 : Int32) S31 A31)) ∧ (¬ r31 = 0 → (wX_T_isKnown_37 post S31 A31)))) S A x0)))))))))))
def wX_T_refusal_75 (post : Int32 → SS → AA → Prop) (S : SS) (A : AA) (x1 : Int32) : Prop :=
  (wX_T_isInRange (fun r77 S77 A77 => ((r77 = 0 → (post (49 : Int32) S77 A77)) ∧ (¬ r77 = 0 → (post (0 : Int32) S77 A77)))) S A x1)
def wX_T_refusal_58 (post : Int32 → SS → AA → Prop) (S : SS) (A : AA) (x1 x2 : Int32) : Prop :=
  ((x2 = 0 → (wX_T_refusal_75 post S A x1)) ∧ (¬ x2 = 0 → ((¬ (S 18) = 0 → (wX_T_refusal_75 post S A x1)) ∧ ((S 18) = 0 → (post (51 : Int32) S A)))))
def wX_T_refusal (post : Int32 → SS → AA → Prop) (S : SS) (A : AA) (x1 : Int32) : Prop :=
  (wX_T_isKnown (fun r1 S1 A1 => ((¬ r1 = 0 → (wX_T_hasRightLength (fun r12 S12 A12 => ((¬ r12 = 0 → (wX_T_hasKnownKind (fun r23 S23 A23 => ((¬ r23 = 0 → (wX_T_needsUnlocking (fun r33 S33 A33 => ((¬ (S33 1) = (1 : Int32) → (wX_T_refusal_58 post S33 A33 x1 r33)) ∧ ((S33 1) = (1 : Int32) → ((¬ r33 = 0 → (post (127 : Int32) S33 A33)) ∧ (r33 = 0 → ((¬ x1 = (39 : Int32) → (wX_T_refusal_58 post S33 A33 x1 r33)) ∧ (x1 = (39 : Int32) → (post (127 : Int32) S33 A33)))))))) S23 A23 x1)) ∧ (r23 = 0 → (post (18 : Int32) S23 A23)))) S12 A12 x1)) ∧ (r12 = 0 → (post (19 : Int32) S12 A12)))) S1 A1 x1)) ∧ (r1 = 0 → (post (17 : Int32) S1 A1)))) S A x1)
def wX_Dl_begin (post : SS → AA → Prop) (S : SS) (A : AA) (x1 x2 : Int32) : Prop :=
  (post (va_up (va_up (va_up (va_up (va_up S 23 (1 : Int32)) 24 x1) 25 x2) 26 (0 : Int32)) 27 (0 : Int32)) A)
def wX_T_doneWith (post : Int32 → SS → AA → Prop) (S : SS) (A : AA) (x1 : Int32) : Prop :=
  (wX_Sd_add (fun S5 A5 => (post (0 : Int32) S5 A5)) S A x1)
def wX_T_beginDownload (post : Int32 → SS → AA → Prop) (S : SS) (A : AA) (x1 x2 : Int32) : Prop :=
  ((¬ x1 = (S 0) → (wX_Dl_begin (fun S17 A17 => (wX_T_doneWith (fun r28 S28 A28 => (post r28 S28 A28)) (va_up S17 2 (-1 : Int32)) A17 (8 : Int32))) S A x1 x2)) ∧ (x1 = (S 0) → (post (34 : Int32) S A)))
def wX_T_changeSession (post : SS → AA → Prop) (S : SS) (A : AA) (x1 : Int32) : Prop :=
  (wX_Lk_close (fun S9 A9 => (wX_Dl_end (fun S16 A16 => (post S16 A16)) S9 A9)) (va_up S 1 x1) A)
def wX_Dl_toCome (post : Int32 → SS → AA → Prop) (S : SS) (A : AA) : Prop :=
  (((S 23) = 0 → (post (-1 : Int32) S A)) ∧ (¬ (S 23) = 0 → (post ((S 25) - (S 26)) S A)))
def wX_T_endDownload (post : Int32 → SS → AA → Prop) (S : SS) (A : AA) : Prop :=
  (wX_Dl_toCome (fun r4 S4 A4 => ((r4 = 0 → (wX_Dl_end (fun S17 A17 => (post (0 : Int32) S17 A17)) S4 A4)) ∧ (¬ r4 = 0 → (post (36 : Int32) S4 A4)))) S A)
def wX_Lk_nextSeed (post : Int32 → SS → AA → Prop) (S : SS) (A : AA) : Prop :=
  (post (((17 : Int32) + ((73 : Int32) * (S 20))) &&& (255 : Int32)) (va_up (va_up S 19 (((17 : Int32) + ((73 : Int32) * (S 20))) &&& (255 : Int32))) 20 ((S 20) + (1 : Int32))) A)
def wX_Lk_takeOpenSeed (post : Int32 → SS → AA → Prop) (S : SS) (A : AA) : Prop :=
  (post (S 19) (va_up S 19 (0 : Int32)) A)
def wX_T_giveSeed_51 (post : Int32 → SS → AA → Prop) (S : SS) (A : AA) (y0 : Int32) : Prop :=
  (wX_T_doneWith (fun r51 S51 A51 => (post r51 S51 A51)) S A y0)
def wX_T_giveSeed (post : Int32 → SS → AA → Prop) (S : SS) (A : AA) : Prop :=
  (wX_Lk_takeOpenSeed (fun r4 S4 A4 => (((S4 22) = 0 → (wX_Sd_add (fun S26 A26 => (((S26 18) = 0 → (wX_Lk_nextSeed (fun r48 S48 A48 => (wX_T_giveSeed_51 post S48 A48 r48)) S26 A26)) ∧ (¬ (S26 18) = 0 → (wX_T_giveSeed_51 post S26 A26 (0 : Int32))))) S4 A4 (1 : Int32))) ∧ (¬ (S4 22) = 0 → (post (55 : Int32) S4 A4)))) S A)
def wX_Mm_imageOf (post : Int32 → SS → AA → Prop) (S : SS) (A : AA) (x0 : Int32) : Prop :=
  (post (x0 * (48 : Int32)) S A)
def wX_T_read_61B (post : Int32 → SS → AA → Prop) (X61 : SS → AA → Int32 → Int32 → Prop) (S : SS) (A : AA) (x2 x3 : Int32) : Prop :=
  (((8 : Int32) ≤ x3 → (post (0 : Int32) S A)) ∧ (¬ (8 : Int32) ≤ x3 → (wX_Mm_byteAt (fun r78 S78 A78 => (wX_Sd_add (fun S81 A81 => (X61 S81 A81 x2 (x3 + (1 : Int32)))) S78 A78 r78)) S A (x2 + x3))))
def wX_T_read_61 (post : Int32 → SS → AA → Prop) (S : SS) (A : AA) (x2 x3 : Int32) : Prop :=
  ∀ X61 : SS → AA → Int32 → Int32 → Prop, (∀ (S : SS) (A : AA) (x2 x3 : Int32), wX_T_read_61B post X61 S A x2 x3 → X61 S A x2 x3) → X61 S A x2 x3
def wX_T_read_16 (post : Int32 → SS → AA → Prop) (S : SS) (A : AA) (x1 : Int32) : Prop :=
  (wX_Sd_add (fun S21 A21 => ((¬ x1 = 0 → ((¬ x1 = (1 : Int32) → (wX_Mm_imageOf (fun r55 S55 A55 => (wX_T_read_61 post S55 A55 r55 (0 : Int32))) S21 A21 (S21 0))) ∧ (x1 = (1 : Int32) → (wX_T_doneWith (fun r47 S47 A47 => (post r47 S47 A47)) S21 A21 (S21 3))))) ∧ (x1 = 0 → (wX_T_doneWith (fun r33 S33 A33 => (post r33 S33 A33)) S21 A21 (S21 0))))) S A x1)
def wX_T_read (post : Int32 → SS → AA → Prop) (S : SS) (A : AA) (x1 : Int32) : Prop :=
  ((x1 = (1 : Int32) → (wX_T_read_16 post S A x1)) ∧ (¬ x1 = (1 : Int32) → ((¬ (S 0) = (-1 : Int32) → (wX_T_read_16 post S A x1)) ∧ ((S 0) = (-1 : Int32) → (post (34 : Int32) S A)))))
def wX_T_checkSlot_73 (post : Int32 → SS → AA → Prop) (S : SS) (A : AA) (y0 : Int32) : Prop :=
  (wX_T_doneWith (fun r73 S73 A73 => (post r73 S73 A73)) S A y0)
def wX_T_checkSlot_63 (post : Int32 → SS → AA → Prop) (S : SS) (A : AA) (x2 : Int32) : Prop :=
  ((x2 = 0 → (wX_T_checkSlot_73 post S A (0 : Int32))) ∧ (¬ x2 = 0 → (wX_T_checkSlot_73 post S A (1 : Int32))))
def wX_T_checkSlot_37 (post : Int32 → SS → AA → Prop) (S : SS) (A : AA) (x1 y0 : Int32) : Prop :=
  ((y0 = 0 → ((¬ (S 2) = x1 → (wX_T_checkSlot_63 post S A y0)) ∧ ((S 2) = x1 → (wX_T_checkSlot_63 post (va_up S 2 (-1 : Int32)) A y0)))) ∧ (¬ y0 = 0 → (wX_T_checkSlot_63 post (va_up S 2 x1) A y0)))
def wX_T_checkSlot (post : Int32 → SS → AA → Prop) (S : SS) (A : AA) (x1 : Int32) : Prop :=
  (wX_Mm_sumOf (fun r5 S5 A5 => (wX_Rc_at (fun r16 S16 A16 => (wX_Rc_at (fun r25 S25 A25 => ((¬ r5 = (((256 : Int32) * r16) + r25) → (wX_T_checkSlot_37 post S25 A25 x1 (0 : Int32))) ∧ (r5 = (((256 : Int32) * r16) + r25) → (wX_T_checkSlot_37 post S25 A25 x1 (1 : Int32))))) S16 A16 (5 : Int32))) S5 A5 (4 : Int32))) S A x1)
def wX_Mm_change_24 (post : SS → AA → Prop) (S : SS) (A : AA) (x1 x3 y0 : Int32) : Prop :=
  (vp_in x1 96 ∧ (vp_in x1 96 ∧ (vp_in x1 96 ∧ (post S (va_up A 0 (upd (A 0) x1.toNatClampNeg (((A 0) x1.toNatClampNeg) ^^^ ((((A 0) x1.toNatClampNeg) ^^^ x3) &&& y0))))))))
def wX_Mm_change (post : SS → AA → Prop) (S : SS) (A : AA) (x1 x2 x3 : Int32) : Prop :=
  (((S 5) = 0 → (wX_Mm_change_24 post S A x1 x3 (255 : Int32))) ∧ (¬ (S 5) = 0 → (wX_Mm_change_24 post S A x1 x3 ((S 6).toUInt32 >>> (((8 : Int32) * (x2 &&& (3 : Int32))).toUInt32 &&& Int32.toUInt32 31)).toInt32)))
def wX_Mm_endChange_12 (post : Int32 → SS → AA → Prop) (S : SS) (A : AA) (y0 : Int32) : Prop :=
  (tl_z y0 ∧ post y0 (va_up S 5 (0 : Int32)) A)
def wX_Mm_endChange (post : Int32 → SS → AA → Prop) (S : SS) (A : AA) : Prop :=
  ((¬ (S 5) = 0 → (wX_Mm_endChange_12 post S A (0 : Int32))) ∧ ((S 5) = 0 → (wX_Mm_endChange_12 post S A (1 : Int32))))
def wX_Mm_has (post : Int32 → SS → AA → Prop) (S : SS) (A : AA) (x1 x2 : Int32) : Prop :=
  ((x1 < 0 → (post (0 : Int32) S A)) ∧ (¬ x1 < 0 → ((((96 : Int32) - x2) < x1 → (post (0 : Int32) S A)) ∧ (¬ ((96 : Int32) - x2) < x1 → (post (1 : Int32) S A)))))
def wX_Mm_erase_19B (post : Int32 → SS → AA → Prop) (X19 : SS → AA → Int32 → Int32 → Prop) (S : SS) (A : AA) (x2 x3 : Int32) : Prop :=
  (((16 : Int32) ≤ x3 → (wX_Mm_endChange (fun r43 S43 A43 => (tl_z r43 ∧ post r43 S43 A43)) S A)) ∧ (¬ (16 : Int32) ≤ x3 → (wX_Mm_change (fun S33 A33 => (X19 S33 A33 x2 (x3 + (1 : Int32)))) S A (x2 + x3) x3 (255 : Int32))))
def wX_Mm_erase_19 (post : Int32 → SS → AA → Prop) (S : SS) (A : AA) (x2 x3 : Int32) : Prop :=
  ∀ X19 : SS → AA → Int32 → Int32 → Prop, (∀ (S : SS) (A : AA) (x2 x3 : Int32), wX_Mm_erase_19B post X19 S A x2 x3 → X19 S A x2 x3) → X19 S A x2 x3
def wX_Mm_erase (post : Int32 → SS → AA → Prop) (S : SS) (A : AA) (x1 : Int32) : Prop :=
  (wX_Mm_has (fun r9 S9 A9 => ((¬ r9 = 0 → (wX_Mm_erase_19 post S9 A9 (x1 * (16 : Int32)) (0 : Int32))) ∧ (r9 = 0 → (post (1 : Int32) S9 A9)))) S A (x1 * (16 : Int32)) (16 : Int32))
def wX_T_eraseSlot_62 (post : Int32 → SS → AA → Prop) (S : SS) (A : AA) (y0 : Int32) : Prop :=
  ((y0 = 0 → (post (-1 : Int32) S A)) ∧ (¬ y0 = 0 → (post (0 : Int32) S A)))
def wX_T_eraseSlot_61 (post : Int32 → SS → AA → Prop) (S : SS) (A : AA) : Prop :=
  (wX_T_eraseSlot_62 post S A (0 : Int32))
def wX_T_eraseSlot (post : Int32 → SS → AA → Prop) (S : SS) (A : AA) (x1 : Int32) : Prop :=
  ((¬ x1 = (S 0) → (wX_Mm_erase (fun r27 S27 A27 => ((r27 = 0 → (wX_T_eraseSlot_61 post S27 A27)) ∧ (¬ r27 = 0 → (wX_Mm_erase (fun r38 S38 A38 => ((r38 = 0 → (wX_T_eraseSlot_61 post S38 A38)) ∧ (¬ r38 = 0 → (wX_Mm_erase (fun r51 S51 A51 => ((r51 = 0 → (wX_T_eraseSlot_61 post S51 A51)) ∧ (¬ r51 = 0 → (wX_T_eraseSlot_62 post S51 A51 (1 : Int32))))) S38 A38 (((3 : Int32) * x1) + (1 : Int32)))))) S27 A27 ((3 : Int32) * x1))))) (va_up S 2 (-1 : Int32)) A (((3 : Int32) * x1) + (2 : Int32)))) ∧ (x1 = (S 0) → (post (34 : Int32) S A)))
def wX_Mm_write_12_24B (post : Int32 → SS → AA → Prop) (X24 : SS → AA → Int32 → Int32 → Int32 → Int32 → Prop) (S : SS) (A : AA) (x1 x3 x4 x5 : Int32) : Prop :=
  ((x4 ≤ x5 → (wX_Mm_endChange (fun r64 S64 A64 => (tl_z r64 ∧ post r64 S64 A64)) S A)) ∧ (¬ x4 ≤ x5 → (vp_in (x1 + x5) 96 ∧ (vp_in (x3 + x5) 3 ∧ (wX_Mm_change (fun S54 A54 => (X24 S54 A54 x1 x3 x4 (x5 + (1 : Int32)))) S A (x1 + x5) x5 (((A 0) (x1 + x5).toNatClampNeg) &&& ((A 5) (x3 + x5).toNatClampNeg)))))))
def wX_Mm_write_12_24 (post : Int32 → SS → AA → Prop) (S : SS) (A : AA) (x1 x3 x4 x5 : Int32) : Prop :=
  ∀ X24 : SS → AA → Int32 → Int32 → Int32 → Int32 → Prop, (∀ (S : SS) (A : AA) (x1 x3 x4 x5 : Int32), wX_Mm_write_12_24B post X24 S A x1 x3 x4 x5 → X24 S A x1 x3 x4 x5) → X24 S A x1 x3 x4 x5
def wX_Mm_write_12 (post : Int32 → SS → AA → Prop) (S : SS) (A : AA) (x1 x3 x4 : Int32) : Prop :=
  (wX_Mm_has (fun r4 S4 A4 => ((r4 = 0 → (post (1 : Int32) S4 A4)) ∧ (¬ r4 = 0 → ((x3 ≤ ((3 : Int32) - x4) → (wX_Mm_write_12_24 post S4 A4 x1 x3 x4 (0 : Int32))) ∧ (¬ x3 ≤ ((3 : Int32) - x4) → (post (1 : Int32) S4 A4)))))) S A x1 x4)
def wX_T_releaseSlot_75 (post : Int32 → SS → AA → Prop) (S : SS) (A : AA) (x3 x4 y0 y1 : Int32) : Prop :=
  (vp_in y1 3 ∧ (vp_in (1 : Int32) 3 ∧ (vp_in (2 : Int32) 3 ∧ (wX_Mm_write_12 (fun r111 S111 A111 => ((¬ r111 = 0 → (vp_in (0 : Int32) 3 ∧ (wX_Mm_write_12 (fun r138 S138 A138 => ((r138 = 0 → (post (-1 : Int32) S138 A138)) ∧ (¬ r138 = 0 → (post (0 : Int32) S138 A138)))) S111 (va_up A111 5 (upd (A111 5) (0 : Int32).toNatClampNeg (0 : Int32))) x4 (0 : Int32) (1 : Int32)))) ∧ (r111 = 0 → (post (-1 : Int32) S111 A111)))) S (va_up (va_up (va_up A 5 (upd (A 5) y1.toNatClampNeg y0)) 5 (upd (upd (A 5) y1.toNatClampNeg y0) (1 : Int32).toNatClampNeg (x3.toUInt32 >>> ((8 : Int32).toUInt32 &&& Int32.toUInt32 31)).toInt32)) 5 (upd (upd (upd (A 5) y1.toNatClampNeg y0) (1 : Int32).toNatClampNeg (x3.toUInt32 >>> ((8 : Int32).toUInt32 &&& Int32.toUInt32 31)).toInt32) (2 : Int32).toNatClampNeg (x3 &&& (255 : Int32)))) (x4 + (1 : Int32)) (0 : Int32) (3 : Int32)))))
def wX_T_releaseSlot (post : Int32 → SS → AA → Prop) (S : SS) (A : AA) (x1 : Int32) : Prop :=
  ((x1 = (S 0) → (post (34 : Int32) S A)) ∧ (¬ x1 = (S 0) → ((x1 = (S 2) → (wX_Mm_goodSerial (fun r24 S24 A24 => (wX_Mm_goodSerial (fun r32 S32 A32 => (wX_Mm_sumOf (fun r44 S44 A44 => (wX_Mm_headerOf (fun r49 S49 A49 => ((¬ (tl_mx r24 r32) = (-1 : Int32) → (wX_T_releaseSlot_75 post S49 A49 r44 r49 (((tl_mx r24 r32) + (1 : Int32)) &&& (255 : Int32)) (0 : Int32))) ∧ ((tl_mx r24 r32) = (-1 : Int32) → (wX_T_releaseSlot_75 post S49 A49 r44 r49 (1 : Int32) (0 : Int32))))) S44 A44 x1)) S32 A32 x1)) S24 A24 (1 : Int32))) S A (0 : Int32))) ∧ (¬ x1 = (S 2) → (post (34 : Int32) S A)))))
def wX_T_runRoutine (post : Int32 → SS → AA → Prop) (S : SS) (A : AA) (x1 x2 : Int32) : Prop :=
  (wX_Sd_add (fun S5 A5 => (wX_Sd_add (fun S13 A13 => ((¬ x1 = (1 : Int32) → ((¬ x1 = (2 : Int32) → (wX_T_releaseSlot (fun r42 S42 A42 => (post r42 S42 A42)) S13 A13 x2)) ∧ (x1 = (2 : Int32) → (wX_T_checkSlot (fun r34 S34 A34 => (post r34 S34 A34)) S13 A13 x2)))) ∧ (x1 = (1 : Int32) → (wX_T_eraseSlot (fun r23 S23 A23 => (post r23 S23 A23)) S13 A13 x2)))) S5 A5 x1)) S A (1 : Int32))
def wX_Dl_addBlock (post : SS → AA → Prop) (S : SS) (A : AA) (x1 : Int32) : Prop :=
  (post (va_up (va_up S 26 ((S 26) + x1)) 27 ((S 27) + (1 : Int32))) A)
def wX_Dl_isLatest (post : Int32 → SS → AA → Prop) (S : SS) (A : AA) (x1 : Int32) : Prop :=
  (((S 27) ≤ 0 → (post (0 : Int32) S A)) ∧ (¬ (S 27) ≤ 0 → ((¬ x1 = ((S 27) &&& (255 : Int32)) → (post (0 : Int32) S A)) ∧ (x1 = ((S 27) &&& (255 : Int32)) → (post (1 : Int32) S A)))))
def wX_Dl_isNext (post : Int32 → SS → AA → Prop) (S : SS) (A : AA) (x1 : Int32) : Prop :=
  ((¬ x1 = (((S 27) + (1 : Int32)) &&& (255 : Int32)) → (post (0 : Int32) S A)) ∧ (x1 = (((S 27) + (1 : Int32)) &&& (255 : Int32)) → (post (1 : Int32) S A)))
def wX_Mm_holds_4_24B (post : Int32 → SS → AA → Prop) (X24 : SS → AA → Int32 → Int32 → Int32 → Int32 → Prop) (S : SS) (A : AA) (x1 x3 x4 x5 : Int32) : Prop :=
  ((x4 ≤ x5 → (post (1 : Int32) S A)) ∧ (¬ x4 ≤ x5 → (vp_in (x1 + x5) 96 ∧ (vp_in (x3 + x5) 34 ∧ ((((A 0) (x1 + x5).toNatClampNeg) = ((A 1) (x3 + x5).toNatClampNeg) → (X24 S A x1 x3 x4 (x5 + (1 : Int32)))) ∧ (¬ ((A 0) (x1 + x5).toNatClampNeg) = ((A 1) (x3 + x5).toNatClampNeg) → (post (0 : Int32) S A)))))))
def wX_Mm_holds_4_24 (post : Int32 → SS → AA → Prop) (S : SS) (A : AA) (x1 x3 x4 x5 : Int32) : Prop :=
  ∀ X24 : SS → AA → Int32 → Int32 → Int32 → Int32 → Prop, (∀ (S : SS) (A : AA) (x1 x3 x4 x5 : Int32), wX_Mm_holds_4_24B post X24 S A x1 x3 x4 x5 → X24 S A x1 x3 x4 x5) → X24 S A x1 x3 x4 x5
def wX_Mm_holds_4 (post : Int32 → SS → AA → Prop) (S : SS) (A : AA) (x1 x3 x4 : Int32) : Prop :=
  (wX_Mm_has (fun r4 S4 A4 => ((r4 = 0 → (post (0 : Int32) S4 A4)) ∧ (¬ r4 = 0 → ((x3 ≤ ((34 : Int32) - x4) → (wX_Mm_holds_4_24 post S4 A4 x1 x3 x4 (0 : Int32))) ∧ (¬ x3 ≤ ((34 : Int32) - x4) → (post (0 : Int32) S4 A4)))))) S A x1 x4)
def wX_Mm_write_4_24B (post : Int32 → SS → AA → Prop) (X24 : SS → AA → Int32 → Int32 → Int32 → Int32 → Prop) (S : SS) (A : AA) (x1 x3 x4 x5 : Int32) : Prop :=
  ((x4 ≤ x5 → (wX_Mm_endChange (fun r64 S64 A64 => (tl_z r64 ∧ post r64 S64 A64)) S A)) ∧ (¬ x4 ≤ x5 → (vp_in (x1 + x5) 96 ∧ (vp_in (x3 + x5) 34 ∧ (wX_Mm_change (fun S54 A54 => (X24 S54 A54 x1 x3 x4 (x5 + (1 : Int32)))) S A (x1 + x5) x5 (((A 0) (x1 + x5).toNatClampNeg) &&& ((A 1) (x3 + x5).toNatClampNeg)))))))
def wX_Mm_write_4_24 (post : Int32 → SS → AA → Prop) (S : SS) (A : AA) (x1 x3 x4 x5 : Int32) : Prop :=
  ∀ X24 : SS → AA → Int32 → Int32 → Int32 → Int32 → Prop, (∀ (S : SS) (A : AA) (x1 x3 x4 x5 : Int32), wX_Mm_write_4_24B post X24 S A x1 x3 x4 x5 → X24 S A x1 x3 x4 x5) → X24 S A x1 x3 x4 x5
def wX_Mm_write_4 (post : Int32 → SS → AA → Prop) (S : SS) (A : AA) (x1 x3 x4 : Int32) : Prop :=
  (wX_Mm_has (fun r4 S4 A4 => ((r4 = 0 → (post (1 : Int32) S4 A4)) ∧ (¬ r4 = 0 → ((x3 ≤ ((34 : Int32) - x4) → (wX_Mm_write_4_24 post S4 A4 x1 x3 x4 (0 : Int32))) ∧ (¬ x3 ≤ ((34 : Int32) - x4) → (post (1 : Int32) S4 A4)))))) S A x1 x4)
def wX_T_takeBlock (post : Int32 → SS → AA → Prop) (S : SS) (A : AA) (x1 x2 : Int32) : Prop :=
  (wX_Dl_toCome (fun r4 S4 A4 => ((0 < r4 → (wX_Dl_isLatest (fun r18 S18 A18 => ((r18 = 0 → (wX_Dl_isNext (fun r35 S35 A35 => ((¬ r35 = 0 → (wX_Dl_toCome (fun r49 S49 A49 => ((x2 ≤ r49 → (wX_Mm_imageOf (fun r65 S65 A65 => (wX_Dl_addBlock (fun S82 A82 => (wX_Mm_write_4 (fun r99 S99 A99 => ((¬ r99 = 0 → (wX_Mm_holds_4 (fun r121 S121 A121 => ((r121 = 0 → (post (114 : Int32) S121 A121)) ∧ (¬ r121 = 0 → (wX_T_doneWith (fun r129 S129 A129 => (post r129 S129 A129)) S121 A121 x1)))) S99 A99 (r65 + (S65 26)) (2 : Int32) x2)) ∧ (r99 = 0 → (post (-1 : Int32) S99 A99)))) S82 A82 (r65 + (S65 26)) (2 : Int32) x2)) S65 A65 x2)) S49 A49 (S49 24))) ∧ (¬ x2 ≤ r49 → (post (49 : Int32) S49 A49)))) S35 A35)) ∧ (r35 = 0 → (post (115 : Int32) S35 A35)))) S18 A18 x1)) ∧ (¬ r18 = 0 → (wX_T_doneWith (fun r26 S26 A26 => (post r26 S26 A26)) S18 A18 x1)))) S4 A4 x1)) ∧ (¬ 0 < r4 → (post (36 : Int32) S4 A4)))) S A)
def wX_Lk_countWrongKey (post : Int32 → SS → AA → Prop) (S : SS) (A : AA) : Prop :=
  (((2 : Int32) ≤ ((S 21) + (1 : Int32)) → (post (1 : Int32) (va_up (va_up (va_up S 21 ((S 21) + (1 : Int32))) 21 (0 : Int32)) 22 (8 : Int32)) A)) ∧ (¬ (2 : Int32) ≤ ((S 21) + (1 : Int32)) → (post (0 : Int32) (va_up S 21 ((S 21) + (1 : Int32))) A)))
def wX_Lk_open (post : SS → AA → Prop) (S : SS) (A : AA) : Prop :=
  (post (va_up (va_up S 18 (1 : Int32)) 21 (0 : Int32)) A)
def wX_T_tryKey (post : Int32 → SS → AA → Prop) (S : SS) (A : AA) (x1 : Int32) : Prop :=
  (wX_Lk_takeOpenSeed (fun r4 S4 A4 => ((¬ r4 = 0 → ((¬ x1 = ((((5 : Int32) * r4) + (3 : Int32)) &&& (255 : Int32)) → (wX_Lk_countWrongKey (fun r45 S45 A45 => ((r45 = 0 → (post (53 : Int32) S45 A45)) ∧ (¬ r45 = 0 → (post (54 : Int32) S45 A45)))) S4 A4)) ∧ (x1 = ((((5 : Int32) * r4) + (3 : Int32)) &&& (255 : Int32)) → (wX_Lk_open (fun S32 A32 => (wX_T_doneWith (fun r37 S37 A37 => (post r37 S37 A37)) S32 A32 (2 : Int32))) S4 A4)))) ∧ (r4 = 0 → (post (36 : Int32) S4 A4)))) S A)
def wX_T_serve (post : Int32 → SS → AA → Prop) (S : SS) (A : AA) (x1 : Int32) : Prop :=
  ((x1 = (16 : Int32) → (wX_Rc_at (fun r82 S82 A82 => (wX_T_changeSession (fun S85 A85 => (wX_Rc_at (fun r94 S94 A94 => (wX_T_doneWith (fun r97 S97 A97 => (post r97 S97 A97)) S94 A94 r94)) S85 A85 (1 : Int32))) S82 A82 r82)) S A (1 : Int32))) ∧ (¬ x1 = (16 : Int32) → ((x1 = (34 : Int32) → (wX_Rc_at (fun r139 S139 A139 => (wX_T_read (fun r142 S142 A142 => (post r142 S142 A142)) S139 A139 r139)) S A (1 : Int32))) ∧ (¬ x1 = (34 : Int32) → ((x1 = (39 : Int32) → (wX_Rc_at (fun r106 S106 A106 => ((¬ r106 = (1 : Int32) → (wX_Rc_at (fun r126 S126 A126 => (wX_T_tryKey (fun r129 S129 A129 => (post r129 S129 A129)) S126 A126 r126)) S106 A106 (2 : Int32))) ∧ (r106 = (1 : Int32) → (wX_T_giveSeed (fun r114 S114 A114 => (post r114 S114 A114)) S106 A106)))) S A (1 : Int32))) ∧ (¬ x1 = (39 : Int32) → ((x1 = (46 : Int32) → (wX_Rc_at (fun r152 S152 A152 => (wX_T_doneWith (fun r160 S160 A160 => (post r160 S160 A160)) (va_up S152 3 r152) A152 (1 : Int32))) S A (2 : Int32))) ∧ (¬ x1 = (46 : Int32) → ((x1 = (49 : Int32) → (wX_Rc_at (fun r170 S170 A170 => (wX_Rc_at (fun r178 S178 A178 => (wX_T_runRoutine (fun r181 S181 A181 => (post r181 S181 A181)) S178 A178 r170 r178)) S170 A170 (3 : Int32))) S A (2 : Int32))) ∧ (¬ x1 = (49 : Int32) → ((x1 = (52 : Int32) → (wX_Rc_at (fun r191 S191 A191 => (wX_Rc_at (fun r199 S199 A199 => (wX_T_beginDownload (fun r202 S202 A202 => (post r202 S202 A202)) S199 A199 r191 r199)) S191 A191 (2 : Int32))) S A (1 : Int32))) ∧ (¬ x1 = (52 : Int32) → ((x1 = (54 : Int32) → (wX_Rc_at (fun r212 S212 A212 => (wX_T_takeBlock (fun r224 S224 A224 => (post r224 S224 A224)) S212 A212 r212 ((S212 7) - (2 : Int32)))) S A (1 : Int32))) ∧ (¬ x1 = (54 : Int32) → ((x1 = (55 : Int32) → (wX_T_endDownload (fun r229 S229 A229 => (post r229 S229 A229)) S A)) ∧ (¬ x1 = (55 : Int32) → (wX_Rc_at (fun r239 S239 A239 => (wX_T_doneWith (fun r242 S242 A242 => (post r242 S242 A242)) S239 A239 r239)) S A (1 : Int32))))))))))))))))))
def wX_T_workOnRequest_80 (post : SS → AA → Prop) (S : SS) (A : AA) (x1 x2 : Int32) : Prop :=
  (wX_Sd_send (fun S84 A84 => ((¬ x1 = (17 : Int32) → (post S84 A84)) ∧ (x1 = (17 : Int32) → ((¬ x2 = 0 → (post S84 A84)) ∧ (x2 = 0 → (wX_T_boot (fun S98 A98 => (post S98 A98)) S84 A84)))))) S A)
def wX_T_workOnRequest_41 (post : SS → AA → Prop) (S : SS) (A : AA) (x1 x2 : Int32) : Prop :=
  ((¬ x2 = (-1 : Int32) → ((x2 = 0 → (wX_T_workOnRequest_80 post S A x1 x2)) ∧ (¬ x2 = 0 → (wX_Sd_begin (fun S61 A61 => (wX_Sd_add (fun S69 A69 => (wX_Sd_add (fun S77 A77 => (wX_T_workOnRequest_80 post S77 A77 x1 x2)) S69 A69 x2)) S61 A61 x1)) S A (127 : Int32))))) ∧ (x2 = (-1 : Int32) → (wX_T_bootAfresh (fun S47 A47 => (post S47 A47)) S A)))
def wX_T_workOnRequest (post : SS → AA → Prop) (S : SS) (A : AA) : Prop :=
  (wX_Rc_at (fun r10 S10 A10 => (wX_Sd_begin (fun S22 A22 => (wX_T_refusal (fun r27 S27 A27 => ((¬ r27 = 0 → (wX_T_workOnRequest_41 post S27 A27 r10 r27)) ∧ (r27 = 0 → (wX_T_serve (fun r37 S37 A37 => (wX_T_workOnRequest_41 post S37 A37 r10 r37)) S27 A27 r10)))) S22 A22 r10)) S10 A10 (r10 + (64 : Int32)))) (va_up S 4 (0 : Int32)) A (0 : Int32))
def wX_T_frame_80 (post : Int32 → SS → AA → Prop) (S : SS) (A : AA) : Prop :=
  (post (S 17) S A)
def wX_T_frame_33 (post : Int32 → SS → AA → Prop) (S : SS) (A : AA) (x1 x2 : Int32) : Prop :=
  ((¬ (S 15) = 0 → (wX_T_frame_80 post S A)) ∧ ((S 15) = 0 → (wX_Rc_accept (fun r49 S49 A49 => ((¬ r49 = (1 : Int32) → ((¬ r49 = (2 : Int32) → (wX_T_frame_80 post S49 A49)) ∧ (r49 = (2 : Int32) → (wX_T_workOnRequest (fun S77 A77 => (wX_T_frame_80 post S77 A77)) S49 A49)))) ∧ (r49 = (1 : Int32) → (wX_Sd_askForMore (fun S64 A64 => (wX_T_frame_80 post S64 A64)) S49 A49)))) S A x1 x2)))
def wX_T_frame (post : Int32 → SS → AA → Prop) (S : SS) (A : AA) (x1 x2 : Int32) : Prop :=
  (wX_T_byteOf (fun r3 S3 A3 => ((r3 < (48 : Int32) → (wX_T_frame_33 post S3 A3 x1 x2)) ∧ (¬ r3 < (48 : Int32) → (((50 : Int32) < r3 → (wX_T_frame_33 post S3 A3 x1 x2)) ∧ (¬ (50 : Int32) < r3 → (wX_T_byteOf (fun r24 S24 A24 => (wX_T_steerAnswer (fun S27 A27 => (wX_T_frame_80 post S27 A27)) S24 A24 r3 r24)) S3 A3 x1 x2 (1 : Int32))))))) S A x1 x2 (0 : Int32))
def wX_Rw_byteOfFirst (post : Int32 → SS → AA → Prop) (S : SS) (A : AA) (x1 : Int32) : Prop :=
  (vp_in (((S 16) * (8 : Int32)) + x1) 96 ∧ (post ((A 2) (((S 16) * (8 : Int32)) + x1).toNatClampNeg) S A))
def wX_T_peek (post : Int32 → SS → AA → Prop) (S : SS) (A : AA) (x1 : Int32) : Prop :=
  ((x1 < 0 → (post (-1 : Int32) S A)) ∧ (¬ x1 < 0 → (((8 : Int32) ≤ x1 → (post (-1 : Int32) S A)) ∧ (¬ (8 : Int32) ≤ x1 → ((¬ (S 17) = 0 → (wX_Rw_byteOfFirst (fun r27 S27 A27 => (post r27 S27 A27)) S A x1)) ∧ ((S 17) = 0 → (post (-1 : Int32) S A)))))))
def wX_Rw_dropFirst (post : SS → AA → Prop) (S : SS) (A : AA) : Prop :=
  (post (va_up (va_up S 16 (((S 16) + (1 : Int32)) - ((S 16) + (1 : Int32)) / (12 : Int32) * (12 : Int32))) 17 ((S 17) - (1 : Int32))) A)
def wX_T_take (post : Int32 → SS → AA → Prop) (S : SS) (A : AA) : Prop :=
  ((¬ (S 17) = 0 → (wX_Rw_dropFirst (fun S16 A16 => (post (1 : Int32) S16 A16)) S A)) ∧ ((S 17) = 0 → (post (0 : Int32) S A)))
def wX_Lk_shortenDelay (post : SS → AA → Prop) (S : SS) (A : AA) : Prop :=
  (((S 22) = 0 → (post S A)) ∧ (¬ (S 22) = 0 → (post (va_up S 22 ((S 22) - (1 : Int32))) A)))
def wX_Rc_age (post : SS → AA → Prop) (S : SS) (A : AA) : Prop :=
  ((¬ (S 8) = 0 → ((((S 10) + (1 : Int32)) < (4 : Int32) → (post (va_up S 10 ((S 10) + (1 : Int32))) A)) ∧ (¬ ((S 10) + (1 : Int32)) < (4 : Int32) → (wX_Rc_drop (fun S27 A27 => (post S27 A27)) (va_up S 10 ((S 10) + (1 : Int32))) A)))) ∧ ((S 8) = 0 → (post S A)))
def wX_Sd_age (post : SS → AA → Prop) (S : SS) (A : AA) : Prop :=
  ((¬ (S 15) = 0 → ((((S 14) + (1 : Int32)) < (4 : Int32) → (post (va_up S 14 ((S 14) + (1 : Int32))) A)) ∧ (¬ ((S 14) + (1 : Int32)) < (4 : Int32) → (wX_Sd_drop (fun S27 A27 => (post S27 A27)) (va_up S 14 ((S 14) + (1 : Int32))) A)))) ∧ ((S 15) = 0 → (post S A)))
def wX_T_tick_66 (post : SS → AA → Prop) (S : SS) (A : AA) : Prop :=
  (wX_Lk_shortenDelay (fun S70 A70 => (post S70 A70)) S A)
def wX_T_tick (post : SS → AA → Prop) (S : SS) (A : AA) : Prop :=
  (wX_Rc_age (fun S4 A4 => (wX_Sd_age (fun S11 A11 => ((¬ (S11 1) = (2 : Int32) → (wX_T_tick_66 post (va_up S11 4 ((S11 4) + (1 : Int32))) A11)) ∧ ((S11 1) = (2 : Int32) → ((((S11 4) + (1 : Int32)) < (10 : Int32) → (wX_T_tick_66 post (va_up S11 4 ((S11 4) + (1 : Int32))) A11)) ∧ (¬ ((S11 4) + (1 : Int32)) < (10 : Int32) → ((¬ (S11 8) = 0 → (wX_T_tick_66 post (va_up S11 4 ((S11 4) + (1 : Int32))) A11)) ∧ ((S11 8) = 0 → ((¬ (S11 15) = 0 → (wX_T_tick_66 post (va_up S11 4 ((S11 4) + (1 : Int32))) A11)) ∧ ((S11 15) = 0 → (wX_T_changeSession (fun S63 A63 => (wX_T_tick_66 post S63 A63)) (va_up S11 4 ((S11 4) + (1 : Int32))) A11 (1 : Int32))))))))))) S4 A4)) S A)
def wX_Mm_orderCut (post : SS → AA → Prop) (S : SS) (A : AA) (x1 : Int32) : Prop :=
  (post (va_up (va_up S 5 (1 : Int32)) 6 x1) A)
def wX_T_cut (post : SS → AA → Prop) (S : SS) (A : AA) (x1 : Int32) : Prop :=
  (wX_Mm_orderCut (fun S5 A5 => (post S5 A5)) S A x1)
def wX_T_restart (post : SS → AA → Prop) (S : SS) (A : AA) : Prop :=
  (wX_T_bootAfresh (fun S1 A1 => (post S1 A1)) S A)
def wX_T_flash (post : Int32 → SS → AA → Prop) (S : SS) (A : AA) (x1 : Int32) : Prop :=
  (wX_Mm_has (fun r6 S6 A6 => ((r6 = 0 → (post (-1 : Int32) S6 A6)) ∧ (¬ r6 = 0 → (vp_in x1 96 ∧ (post ((A6 0) x1.toNatClampNeg) S6 A6))))) S A x1 (1 : Int32))
def wX_T_word_18B (post : Int32 → SS → AA → Prop) (X18 : SS → AA → Int32 → Int32 → Int32 → Prop) (S : SS) (A : AA) (x1 x2 x3 : Int32) : Prop :=
  (((4 : Int32) ≤ x3 → (post x2 S A)) ∧ (¬ (4 : Int32) ≤ x3 → (vp_in (x1 + x3) 96 ∧ (X18 S A x1 ((x2 <<< ((8 : Int32) &&& 31)) ||| ((A 0) (x1 + x3).toNatClampNeg)) (x3 + (1 : Int32))))))
def wX_T_word_18 (post : Int32 → SS → AA → Prop) (S : SS) (A : AA) (x1 x2 x3 : Int32) : Prop :=
  ∀ X18 : SS → AA → Int32 → Int32 → Int32 → Prop, (∀ (S : SS) (A : AA) (x1 x2 x3 : Int32), wX_T_word_18B post X18 S A x1 x2 x3 → X18 S A x1 x2 x3) → X18 S A x1 x2 x3
def wX_T_word (post : Int32 → SS → AA → Prop) (S : SS) (A : AA) (x1 : Int32) : Prop :=
  (wX_Mm_has (fun r6 S6 A6 => ((¬ r6 = 0 → (wX_T_word_18 post S6 A6 x1 (0 : Int32) (0 : Int32))) ∧ (r6 = 0 → (post (0 : Int32) S6 A6)))) S A x1 (4 : Int32))
def wX_Sd_toSend (post : Int32 → SS → AA → Prop) (S : SS) (A : AA) : Prop :=
  (((S 15) = 0 → (post (0 : Int32) S A)) ∧ (¬ (S 15) = 0 → (post ((S 11) - (S 12)) S A)))
def wX_T_state (post : Int32 → SS → AA → Prop) (S : SS) (A : AA) (x1 : Int32) : Prop :=
  ((x1 = (0 : Int32) → (post (S 0) S A)) ∧ (¬ x1 = (0 : Int32) → ((x1 = (1 : Int32) → (post (S 1) S A)) ∧ (¬ x1 = (1 : Int32) → ((x1 = (2 : Int32) → (((S 18) = 0 → (post (0 : Int32) S A)) ∧ (¬ (S 18) = 0 → (post (1 : Int32) S A)))) ∧ (¬ x1 = (2 : Int32) → ((x1 = (3 : Int32) → (wX_Dl_toCome (fun r82 S82 A82 => (post r82 S82 A82)) S A)) ∧ (¬ x1 = (3 : Int32) → ((x1 = (4 : Int32) → (((S 5) = 0 → (post (0 : Int32) S A)) ∧ (¬ (S 5) = 0 → (post (1 : Int32) S A)))) ∧ (¬ x1 = (4 : Int32) → ((x1 = (5 : Int32) → (post (S 2) S A)) ∧ (¬ x1 = (5 : Int32) → ((x1 = (6 : Int32) → (post (S 8) S A)) ∧ (¬ x1 = (6 : Int32) → ((x1 = (7 : Int32) → (wX_Sd_toSend (fun r119 S119 A119 => (post r119 S119 A119)) S A)) ∧ (¬ x1 = (7 : Int32) → ((x1 = (8 : Int32) → (post (S 22) S A)) ∧ (¬ x1 = (8 : Int32) → (post (-1 : Int32) S A)))))))))))))))))))
def wM_M_dropAnswer (post : SS → AA → Prop) (S : SS) (A : AA) : Prop :=
  (post (va_up (va_up S 20 (0 : Int32)) 21 (0 : Int32)) A)
def wM_M_emit_152 (post : SS → AA → Prop) (S : SS) (A : AA) (x4 : Int32) : Prop :=
  (post (va_up S 21 ((S 21) + x4)) A)
def wM_M_emit_107B (post : SS → AA → Prop) (X107 : SS → AA → Int32 → Int32 → Int32 → Prop) (S : SS) (A : AA) (x4 x5 x6 : Int32) : Prop :=
  ((x4 ≤ x6 → (wM_M_emit_152 post (va_up S 24 ((S 24) + (1 : Int32))) A x4)) ∧ (¬ x4 ≤ x6 → (vp_in ((S 21) + x6) 20 ∧ (vp_in (x5 + x6) 96 ∧ (X107 S (va_up A 3 (upd (A 3) (x5 + x6).toNatClampNeg ((A 2) ((S 21) + x6).toNatClampNeg))) x4 x5 (x6 + (1 : Int32)))))))
def wM_M_emit_107 (post : SS → AA → Prop) (S : SS) (A : AA) (x4 x5 x6 : Int32) : Prop :=
  ∀ X107 : SS → AA → Int32 → Int32 → Int32 → Prop, (∀ (S : SS) (A : AA) (x4 x5 x6 : Int32), wM_M_emit_107B post X107 S A x4 x5 x6 → X107 S A x4 x5 x6) → X107 S A x4 x5 x6
def wM_M_emit_104 (post : SS → AA → Prop) (S : SS) (A : AA) (x4 x5 : Int32) : Prop :=
  (wM_M_emit_107 post S A x4 x5 (0 : Int32))
def wM_M_emit_40B (post : SS → AA → Prop) (X40 : SS → AA → Int32 → Int32 → Int32 → Int32 → Prop) (S : SS) (A : AA) (x1 x2 x4 x5 : Int32) : Prop :=
  (((8 : Int32) ≤ x5 → (vp_in ((8 : Int32) * (S 24)) 96 ∧ ((x2 < 0 → (wM_M_emit_104 post S (va_up A 3 (upd (A 3) ((8 : Int32) * (S 24)).toNatClampNeg x1)) x4 (((8 : Int32) * (S 24)) + (1 : Int32)))) ∧ (¬ x2 < 0 → (vp_in (((8 : Int32) * (S 24)) + (1 : Int32)) 96 ∧ (wM_M_emit_104 post S (va_up (va_up A 3 (upd (A 3) ((8 : Int32) * (S 24)).toNatClampNeg x1)) 3 (upd (upd (A 3) ((8 : Int32) * (S 24)).toNatClampNeg x1) (((8 : Int32) * (S 24)) + (1 : Int32)).toNatClampNeg x2)) x4 ((((8 : Int32) * (S 24)) + (1 : Int32)) + (1 : Int32)))))))) ∧ (¬ (8 : Int32) ≤ x5 → (vp_in (((8 : Int32) * (S 24)) + x5) 96 ∧ (X40 S (va_up A 3 (upd (A 3) (((8 : Int32) * (S 24)) + x5).toNatClampNeg (0 : Int32))) x1 x2 x4 (x5 + (1 : Int32))))))
def wM_M_emit_40 (post : SS → AA → Prop) (S : SS) (A : AA) (x1 x2 x4 x5 : Int32) : Prop :=
  ∀ X40 : SS → AA → Int32 → Int32 → Int32 → Int32 → Prop, (∀ (S : SS) (A : AA) (x1 x2 x4 x5 : Int32), wM_M_emit_40B post X40 S A x1 x2 x4 x5 → X40 S A x1 x2 x4 x5) → X40 S A x1 x2 x4 x5
def wM_M_emit_26 (post : SS → AA → Prop) (S : SS) (A : AA) (x1 x2 y0 : Int32) : Prop :=
  (((12 : Int32) ≤ (S 24) → (wM_M_emit_152 post S A y0)) ∧ (¬ (12 : Int32) ≤ (S 24) → (wM_M_emit_40 post S A x1 x2 y0 (0 : Int32))))
def wM_M_emit (post : SS → AA → Prop) (S : SS) (A : AA) (x1 x2 x3 : Int32) : Prop :=
  ((x3 ≤ ((S 20) - (S 21)) → (wM_M_emit_26 post S A x1 x2 x3)) ∧ (¬ x3 ≤ ((S 20) - (S 21)) → (wM_M_emit_26 post S A x1 x2 ((S 20) - (S 21)))))
def wM_M_sendMore_55 (post : SS → AA → Prop) (S : SS) (A : AA) : Prop :=
  ((¬ (S 21) = (S 20) → (post (va_up S 23 (0 : Int32)) A)) ∧ ((S 21) = (S 20) → (wM_M_dropAnswer (fun S72 A72 => (post S72 A72)) (va_up S 23 (0 : Int32)) A)))
def wM_M_sendMore_22 (post : SS → AA → Prop) (X2 : SS → AA → Int32 → Int32 → Prop) (S : SS) (A : AA) (x1 x2 : Int32) : Prop :=
  (wM_M_emit (fun S46 A46 => (X2 S46 A46 x1 (x2 + (1 : Int32)))) (va_up S 22 (((S 22) + (1 : Int32)) - ((S 22) + (1 : Int32)) / (16 : Int32) * (16 : Int32))) A ((32 : Int32) + (((S 22) + (1 : Int32)) - ((S 22) + (1 : Int32)) / (16 : Int32) * (16 : Int32))) (-1 : Int32) (7 : Int32))
def wM_M_sendMore_2B (post : SS → AA → Prop) (X2 : SS → AA → Int32 → Int32 → Prop) (S : SS) (A : AA) (x1 x2 : Int32) : Prop :=
  (((S 20) ≤ (S 21) → (wM_M_sendMore_55 post S A)) ∧ (¬ (S 20) ≤ (S 21) → ((x1 = 0 → (wM_M_sendMore_22 post X2 S A x1 x2)) ∧ (¬ x1 = 0 → ((x1 ≤ x2 → (wM_M_sendMore_55 post S A)) ∧ (¬ x1 ≤ x2 → (wM_M_sendMore_22 post X2 S A x1 x2)))))))
def wM_M_sendMore_2 (post : SS → AA → Prop) (S : SS) (A : AA) (x1 x2 : Int32) : Prop :=
  ∀ X2 : SS → AA → Int32 → Int32 → Prop, (∀ (S : SS) (A : AA) (x1 x2 : Int32), wM_M_sendMore_2B post X2 S A x1 x2 → X2 S A x1 x2) → X2 S A x1 x2
def wM_M_sendMore (post : SS → AA → Prop) (S : SS) (A : AA) (x1 : Int32) : Prop :=
  (wM_M_sendMore_2 post S A x1 (0 : Int32))
def wM_M_answerFrame (post : SS → AA → Prop) (S : SS) (A : AA) : Prop :=
  (vp_in (0 : Int32) 8 ∧ ((¬ ((A 4) (0 : Int32).toNatClampNeg) = (48 : Int32) → (vp_in (0 : Int32) 8 ∧ ((¬ ((A 4) (0 : Int32).toNatClampNeg) = (49 : Int32) → (vp_in (0 : Int32) 8 ∧ ((¬ ((A 4) (0 : Int32).toNatClampNeg) = (50 : Int32) → (post S A)) ∧ (((A 4) (0 : Int32).toNatClampNeg) = (50 : Int32) → (wM_M_dropAnswer (fun S55 A55 => (post S55 A55)) S A))))) ∧ (((A 4) (0 : Int32).toNatClampNeg) = (49 : Int32) → (post (va_up S 23 (0 : Int32)) A))))) ∧ (((A 4) (0 : Int32).toNatClampNeg) = (48 : Int32) → (vp_in (1 : Int32) 8 ∧ (wM_M_sendMore (fun S18 A18 => (post S18 A18)) S A ((A 4) (1 : Int32).toNatClampNeg))))))
def wM_M_askMore (post : SS → AA → Prop) (S : SS) (A : AA) : Prop :=
  (wM_M_dropAnswer (fun S1 A1 => (wM_M_emit (fun S9 A9 => (post S9 A9)) S1 A1 (48 : Int32) (2 : Int32) (0 : Int32))) S A)
def wM_M_takeBytes_50 (post : SS → AA → Prop) (S : SS) (A : AA) : Prop :=
  (post (va_up S 19 (0 : Int32)) A)
def wM_M_takeBytes_2B (post : SS → AA → Prop) (X2 : SS → AA → Int32 → Prop) (S : SS) (A : AA) (x2 : Int32) : Prop :=
  (((8 : Int32) ≤ x2 → (wM_M_takeBytes_50 post S A)) ∧ (¬ (8 : Int32) ≤ x2 → (((S 16) ≤ (S 17) → (wM_M_takeBytes_50 post S A)) ∧ (¬ (S 16) ≤ (S 17) → (vp_in x2 8 ∧ (vp_in (S 17) 34 ∧ (X2 (va_up S 17 ((S 17) + (1 : Int32))) (va_up A 1 (upd (A 1) (S 17).toNatClampNeg ((A 4) x2.toNatClampNeg))) (x2 + (1 : Int32)))))))))
def wM_M_takeBytes_2 (post : SS → AA → Prop) (S : SS) (A : AA) (x2 : Int32) : Prop :=
  ∀ X2 : SS → AA → Int32 → Prop, (∀ (S : SS) (A : AA) (x2 : Int32), wM_M_takeBytes_2B post X2 S A x2 → X2 S A x2) → X2 S A x2
def wM_M_takeBytes (post : SS → AA → Prop) (S : SS) (A : AA) (x1 : Int32) : Prop :=
  (wM_M_takeBytes_2 post S A x1)
def wM_M_beginRequest (post : SS → AA → Prop) (S : SS) (A : AA) (x1 x2 : Int32) : Prop :=
  (wM_M_takeBytes (fun S17 A17 => (post S17 A17)) (va_up (va_up (va_up S 16 x1) 17 (0 : Int32)) 18 (0 : Int32)) A x2)
def wM_M_add (post : SS → AA → Prop) (S : SS) (A : AA) (x1 : Int32) : Prop :=
  (vp_in (S 20) 20 ∧ (post (va_up S 20 ((S 20) + (1 : Int32))) (va_up A 2 (upd (A 2) (S 20).toNatClampNeg x1))))
def wM_M_hasPart_68 (post : Int32 → SS → AA → Prop) (S : SS) (A : AA) : Prop :=
  (post (1 : Int32) S A)
def wM_M_hasPart_63 (post : Int32 → SS → AA → Prop) (S : SS) (A : AA) (x2 : Int32) : Prop :=
  ((¬ x2 = (1 : Int32) → (post (0 : Int32) S A)) ∧ (x2 = (1 : Int32) → (wM_M_hasPart_68 post S A)))
def wM_M_hasPart_29 (post : Int32 → SS → AA → Prop) (S : SS) (A : AA) : Prop :=
  (post (1 : Int32) S A)
def wM_M_hasPart_19 (post : Int32 → SS → AA → Prop) (S : SS) (A : AA) (x2 : Int32) : Prop :=
  ((x2 = (1 : Int32) → (wM_M_hasPart_29 post S A)) ∧ (¬ x2 = (1 : Int32) → ((¬ x2 = (2 : Int32) → (post (0 : Int32) S A)) ∧ (x2 = (2 : Int32) → (wM_M_hasPart_29 post S A)))))
def wM_M_hasPart (post : Int32 → SS → AA → Prop) (S : SS) (A : AA) (x1 : Int32) : Prop :=
  (vp_in (1 : Int32) 34 ∧ ((x1 = (16 : Int32) → (wM_M_hasPart_19 post S A ((A 1) (1 : Int32).toNatClampNeg))) ∧ (¬ x1 = (16 : Int32) → ((¬ x1 = (39 : Int32) → ((¬ x1 = (62 : Int32) → ((x1 = (17 : Int32) → (wM_M_hasPart_63 post S A ((A 1) (1 : Int32).toNatClampNeg))) ∧ (¬ x1 = (17 : Int32) → ((¬ x1 = (49 : Int32) → (wM_M_hasPart_68 post S A)) ∧ (x1 = (49 : Int32) → (wM_M_hasPart_63 post S A ((A 1) (1 : Int32).toNatClampNeg))))))) ∧ (x1 = (62 : Int32) → ((¬ ((A 1) (1 : Int32).toNatClampNeg) = 0 → (post (0 : Int32) S A)) ∧ (((A 1) (1 : Int32).toNatClampNeg) = 0 → (post (1 : Int32) S A)))))) ∧ (x1 = (39 : Int32) → (wM_M_hasPart_19 post S A ((A 1) (1 : Int32).toNatClampNeg)))))))
def wM_M_isLong_162 (post : Int32 → SS → AA → Prop) (S : SS) (A : AA) (y0 y1 : Int32) : Prop :=
  ((¬ y1 = y0 → (post (0 : Int32) S A)) ∧ (y1 = y0 → (post (1 : Int32) S A)))
def wM_M_isLong_161 (post : Int32 → SS → AA → Prop) (S : SS) (A : AA) (y0 : Int32) : Prop :=
  (wM_M_isLong_162 post S A (4 : Int32) y0)
def wM_M_isLong_120 (post : Int32 → SS → AA → Prop) (S : SS) (A : AA) : Prop :=
  ((¬ (S 17) = (3 : Int32) → (post (0 : Int32) S A)) ∧ ((S 17) = (3 : Int32) → (post (1 : Int32) S A)))
def wM_M_isLong_111 (post : Int32 → SS → AA → Prop) (S : SS) (A : AA) (y0 y1 : Int32) : Prop :=
  ((¬ y1 = y0 → (post (0 : Int32) S A)) ∧ (y1 = y0 → (post (1 : Int32) S A)))
def wM_M_isLong_110 (post : Int32 → SS → AA → Prop) (S : SS) (A : AA) (y0 : Int32) : Prop :=
  (wM_M_isLong_111 post S A (2 : Int32) y0)
def wM_M_isLong (post : Int32 → SS → AA → Prop) (S : SS) (A : AA) (x1 : Int32) : Prop :=
  ((x1 = (39 : Int32) → (((S 17) ≤ (1 : Int32) → (wM_M_isLong_110 post S A (S 17))) ∧ (¬ (S 17) ≤ (1 : Int32) → (vp_in (1 : Int32) 34 ∧ ((¬ ((A 1) (1 : Int32).toNatClampNeg) = (2 : Int32) → (wM_M_isLong_110 post S A (S 17))) ∧ (((A 1) (1 : Int32).toNatClampNeg) = (2 : Int32) → (wM_M_isLong_111 post S A (3 : Int32) (S 17)))))))) ∧ (¬ x1 = (39 : Int32) → ((x1 = (46 : Int32) → (wM_M_isLong_120 post S A)) ∧ (¬ x1 = (46 : Int32) → ((x1 = (49 : Int32) → (((S 17) ≤ (2 : Int32) → (wM_M_isLong_161 post S A (S 17))) ∧ (¬ (S 17) ≤ (2 : Int32) → (vp_in (2 : Int32) 34 ∧ ((¬ ((A 1) (2 : Int32).toNatClampNeg) = (2 : Int32) → (wM_M_isLong_161 post S A (S 17))) ∧ (((A 1) (2 : Int32).toNatClampNeg) = (2 : Int32) → (wM_M_isLong_162 post S A (6 : Int32) (S 17)))))))) ∧ (¬ x1 = (49 : Int32) → ((x1 = (52 : Int32) → (wM_M_isLong_120 post S A)) ∧ (¬ x1 = (52 : Int32) → ((x1 = (54 : Int32) → (((S 17) < (3 : Int32) → (post (0 : Int32) S A)) ∧ (¬ (S 17) < (3 : Int32) → (((10 : Int32) < (S 17) → (post (0 : Int32) S A)) ∧ (¬ (10 : Int32) < (S 17) → (post (1 : Int32) S A)))))) ∧ (¬ x1 = (54 : Int32) → ((x1 = (55 : Int32) → ((¬ (S 17) = (1 : Int32) → (post (0 : Int32) S A)) ∧ ((S 17) = (1 : Int32) → (post (1 : Int32) S A)))) ∧ (¬ x1 = (55 : Int32) → ((¬ (S 17) = (2 : Int32) → (post (0 : Int32) S A)) ∧ ((S 17) = (2 : Int32) → (post (1 : Int32) S A)))))))))))))))
def wM_M_isService_60 (post : Int32 → SS → AA → Prop) (S : SS) (A : AA) : Prop :=
  (post (1 : Int32) S A)
def wM_M_isService (post : Int32 → SS → AA → Prop) (S : SS) (A : AA) (x1 : Int32) : Prop :=
  ((x1 = (16 : Int32) → (wM_M_isService_60 post S A)) ∧ (¬ x1 = (16 : Int32) → ((x1 = (62 : Int32) → (wM_M_isService_60 post S A)) ∧ (¬ x1 = (62 : Int32) → ((x1 = (17 : Int32) → (wM_M_isService_60 post S A)) ∧ (¬ x1 = (17 : Int32) → ((x1 = (39 : Int32) → (wM_M_isService_60 post S A)) ∧ (¬ x1 = (39 : Int32) → ((x1 = (34 : Int32) → (wM_M_isService_60 post S A)) ∧ (¬ x1 = (34 : Int32) → ((x1 = (46 : Int32) → (wM_M_isService_60 post S A)) ∧ (¬ x1 = (46 : Int32) → ((x1 = (49 : Int32) → (wM_M_isService_60 post S A)) ∧ (¬ x1 = (49 : Int32) → ((x1 = (52 : Int32) → (wM_M_isService_60 post S A)) ∧ (¬ x1 = (52 : Int32) → ((x1 = (54 : Int32) → (wM_M_isService_60 post S A)) ∧ (¬ x1 = (54 : Int32) → ((¬ x1 = (55 : Int32) → (post (0 : Int32) S A)) ∧ (x1 = (55 : Int32) → (wM_M_isService_60 post S A)))))))))))))))))))))
def wM_M_against_97 (post : Int32 → SS → AA → Prop) (S : SS) (A : AA) (x2 : Int32) : Prop :=
  ((¬ (S 4) = 0 → (post (0 : Int32) S A)) ∧ ((S 4) = 0 → ((x2 = 0 → (post (0 : Int32) S A)) ∧ (¬ x2 = 0 → (post (51 : Int32) S A)))))
def wM_M_against_75 (post : Int32 → SS → AA → Prop) (S : SS) (A : AA) (x1 y0 : Int32) : Prop :=
  ((¬ (S 3) = (1 : Int32) → (wM_M_against_97 post S A y0)) ∧ ((S 3) = (1 : Int32) → ((¬ y0 = 0 → (post (127 : Int32) S A)) ∧ (y0 = 0 → ((¬ x1 = (39 : Int32) → (wM_M_against_97 post S A y0)) ∧ (x1 = (39 : Int32) → (post (127 : Int32) S A)))))))
def wM_M_against_70 (post : Int32 → SS → AA → Prop) (S : SS) (A : AA) (x1 : Int32) : Prop :=
  (wM_M_against_75 post S A x1 (1 : Int32))
def wM_M_against (post : Int32 → SS → AA → Prop) (S : SS) (A : AA) : Prop :=
  (vp_in (0 : Int32) 34 ∧ (wM_M_isService (fun r9 S9 A9 => ((¬ r9 = 0 → (wM_M_isLong (fun r20 S20 A20 => ((¬ r20 = 0 → (wM_M_hasPart (fun r31 S31 A31 => ((¬ r31 = 0 → ((((A 1) (0 : Int32).toNatClampNeg) = (46 : Int32) → (wM_M_against_70 post S31 A31 ((A 1) (0 : Int32).toNatClampNeg))) ∧ (¬ ((A 1) (0 : Int32).toNatClampNeg) = (46 : Int32) → ((((A 1) (0 : Int32).toNatClampNeg) = (49 : Int32) → (wM_M_against_70 post S31 A31 ((A 1) (0 : Int32).toNatClampNeg))) ∧ (¬ ((A 1) (0 : Int32).toNatClampNeg) = (49 : Int32) → ((((A 1) (0 : Int32).toNatClampNeg) = (52 : Int32) → (wM_M_against_70 post S31 A31 ((A 1) (0 : Int32).toNatClampNeg))) ∧ (¬ ((A 1) (0 : Int32).toNatClampNeg) = (52 : Int32) → ((((A 1) (0 : Int32).toNatClampNeg) = (54 : Int32) → (wM_M_against_70 post S31 A31 ((A 1) (0 : Int32).toNatClampNeg))) ∧ (¬ ((A 1) (0 : Int32).toNatClampNeg) = (54 : Int32) → ((¬ ((A 1) (0 : Int32).toNatClampNeg) = (55 : Int32) → (wM_M_against_75 post S31 A31 ((A 1) (0 : Int32).toNatClampNeg) (0 : Int32))) ∧ (((A 1) (0 : Int32).toNatClampNeg) = (55 : Int32) → (wM_M_against_70 post S31 A31 ((A 1) (0 : Int32).toNatClampNeg))))))))))))) ∧ (r31 = 0 → (post (18 : Int32) S31 A31)))) S20 A20 ((A 1) (0 : Int32).toNatClampNeg))) ∧ (r20 = 0 → (post (19 : Int32) S20 A20)))) S9 A9 ((A 1) (0 : Int32).toNatClampNeg))) ∧ (r9 = 0 → (post (17 : Int32) S9 A9)))) S A ((A 1) (0 : Int32).toNatClampNeg)))
def wM_M_sumOf_64 (post : Int32 → SS → AA → Prop) (X8 : SS → AA → Int32 → Int32 → Int32 → Prop) (X35 : SS → AA → Int32 → Int32 → Int32 → Int32 → Prop) (S : SS) (A : AA) (x1 x3 x4 y0 : Int32) : Prop :=
  (X35 S A x1 y0 x3 (x4 + (1 : Int32)))
def wM_M_sumOf_35B (post : Int32 → SS → AA → Prop) (X8 : SS → AA → Int32 → Int32 → Int32 → Prop) (X35 : SS → AA → Int32 → Int32 → Int32 → Int32 → Prop) (S : SS) (A : AA) (x1 x2 x3 x4 : Int32) : Prop :=
  (((8 : Int32) ≤ x4 → (X8 S A x1 x2 (x3 + (1 : Int32)))) ∧ (¬ (8 : Int32) ≤ x4 → ((x2 < (32768 : Int32) → (wM_M_sumOf_64 post X8 X35 S A x1 x3 x4 (x2 * (2 : Int32)))) ∧ (¬ x2 < (32768 : Int32) → (wM_M_sumOf_64 post X8 X35 S A x1 x3 x4 (((x2 * (2 : Int32)) - (65536 : Int32)) ^^^ (4129 : Int32)))))))
def wM_M_sumOf_35 (post : Int32 → SS → AA → Prop) (X8 : SS → AA → Int32 → Int32 → Int32 → Prop) (S : SS) (A : AA) (x1 x2 x3 x4 : Int32) : Prop :=
  ∀ X35 : SS → AA → Int32 → Int32 → Int32 → Int32 → Prop, (∀ (S : SS) (A : AA) (x1 x2 x3 x4 : Int32), wM_M_sumOf_35B post X8 X35 S A x1 x2 x3 x4 → X35 S A x1 x2 x3 x4) → X35 S A x1 x2 x3 x4
def wM_M_sumOf_8B (post : Int32 → SS → AA → Prop) (X8 : SS → AA → Int32 → Int32 → Int32 → Prop) (S : SS) (A : AA) (x1 x2 x3 : Int32) : Prop :=
  (((((48 : Int32) * x1) + (32 : Int32)) ≤ x3 → (post x2 S A)) ∧ (¬ (((48 : Int32) * x1) + (32 : Int32)) ≤ x3 → (vp_in x3 96 ∧ (wM_M_sumOf_35 post X8 S A x1 (x2 ^^^ (((A 0) x3.toNatClampNeg) * (256 : Int32))) x3 (0 : Int32)))))
def wM_M_sumOf_8 (post : Int32 → SS → AA → Prop) (S : SS) (A : AA) (x1 x2 x3 : Int32) : Prop :=
  ∀ X8 : SS → AA → Int32 → Int32 → Int32 → Prop, (∀ (S : SS) (A : AA) (x1 x2 x3 : Int32), wM_M_sumOf_8B post X8 S A x1 x2 x3 → X8 S A x1 x2 x3) → X8 S A x1 x2 x3
def wM_M_sumOf (post : Int32 → SS → AA → Prop) (S : SS) (A : AA) (x1 : Int32) : Prop :=
  (wM_M_sumOf_8 post S A x1 (65535 : Int32) ((48 : Int32) * x1))
def wM_M_isGood (post : Int32 → SS → AA → Prop) (S : SS) (A : AA) (x1 : Int32) : Prop :=
  (vp_in (((48 : Int32) * x1) + (32 : Int32)) 96 ∧ ((¬ ((A 0) (((48 : Int32) * x1) + (32 : Int32)).toNatClampNeg) = 0 → (post (0 : Int32) S A)) ∧ (((A 0) (((48 : Int32) * x1) + (32 : Int32)).toNatClampNeg) = 0 → (vp_in ((((48 : Int32) * x1) + (32 : Int32)) + (2 : Int32)) 96 ∧ (vp_in ((((48 : Int32) * x1) + (32 : Int32)) + (3 : Int32)) 96 ∧ (wM_M_sumOf (fun r40 S40 A40 => ((¬ ((((A 0) ((((48 : Int32) * x1) + (32 : Int32)) + (2 : Int32)).toNatClampNeg) * (256 : Int32)) + ((A 0) ((((48 : Int32) * x1) + (32 : Int32)) + (3 : Int32)).toNatClampNeg)) = r40 → (post (0 : Int32) S40 A40)) ∧ (((((A 0) ((((48 : Int32) * x1) + (32 : Int32)) + (2 : Int32)).toNatClampNeg) * (256 : Int32)) + ((A 0) ((((48 : Int32) * x1) + (32 : Int32)) + (3 : Int32)).toNatClampNeg)) = r40 → (post (1 : Int32) S40 A40)))) S A x1))))))
def wM_M_bestSlot_47 (post : Int32 → SS → AA → Prop) (S : SS) (A : AA) : Prop :=
  (post (1 : Int32) S A)
def wM_M_bestSlot_22 (post : Int32 → SS → AA → Prop) (S : SS) (A : AA) (x1 x2 : Int32) : Prop :=
  ((x1 = 0 → (wM_M_bestSlot_47 post S A)) ∧ (¬ x1 = 0 → ((x2 = 0 → (post (0 : Int32) S A)) ∧ (¬ x2 = 0 → (vp_in (81 : Int32) 96 ∧ (vp_in (33 : Int32) 96 ∧ ((((A 0) (81 : Int32).toNatClampNeg) ≤ ((A 0) (33 : Int32).toNatClampNeg) → (post (0 : Int32) S A)) ∧ (¬ ((A 0) (81 : Int32).toNatClampNeg) ≤ ((A 0) (33 : Int32).toNatClampNeg) → (wM_M_bestSlot_47 post S A)))))))))
def wM_M_bestSlot (post : Int32 → SS → AA → Prop) (S : SS) (A : AA) : Prop :=
  (wM_M_isGood (fun r2 S2 A2 => (wM_M_isGood (fun r8 S8 A8 => ((¬ r2 = 0 → (wM_M_bestSlot_22 post S8 A8 r2 r8)) ∧ (r2 = 0 → ((¬ r8 = 0 → (wM_M_bestSlot_22 post S8 A8 r2 r8)) ∧ (r8 = 0 → (post (-1 : Int32) S8 A8)))))) S2 A2 (1 : Int32))) S A (0 : Int32))
def wM_M_changeSession (post : SS → AA → Prop) (S : SS) (A : AA) (x1 : Int32) : Prop :=
  (post (va_up (va_up (va_up (va_up S 3 x1) 4 (0 : Int32)) 8 (0 : Int32)) 12 (-1 : Int32)) A)
def wM_M_dropRequest (post : SS → AA → Prop) (S : SS) (A : AA) : Prop :=
  (post (va_up (va_up S 16 (0 : Int32)) 17 (0 : Int32)) A)
def wM_M_boot (post : SS → AA → Prop) (S : SS) (A : AA) : Prop :=
  (wM_M_bestSlot (fun r2 S2 A2 => (wM_M_changeSession (fun S10 A10 => (wM_M_dropRequest (fun S14 A14 => (wM_M_dropAnswer (fun S18 A18 => (post (va_up (va_up (va_up (va_up S18 5 (-1 : Int32)) 9 (0 : Int32)) 10 (0 : Int32)) 6 (0 : Int32)) A18)) S14 A14)) S10 A10)) (va_up S2 2 r2) A2 (1 : Int32))) S A)
def wM_M_restart (post : SS → AA → Prop) (S : SS) (A : AA) : Prop :=
  (wM_M_boot (fun S1 A1 => (post (va_up S1 24 (0 : Int32)) A1)) S A)
def wM_M_sendAnswer_50 (post : SS → AA → Prop) (S : SS) (A : AA) : Prop :=
  ((¬ (S 21) = (S 20) → (post S A)) ∧ ((S 21) = (S 20) → (wM_M_dropAnswer (fun S62 A62 => (post S62 A62)) S A)))
def wM_M_sendAnswer (post : SS → AA → Prop) (S : SS) (A : AA) : Prop :=
  (((7 : Int32) < (S 20) → (wM_M_emit (fun S47 A47 => (wM_M_sendAnswer_50 post S47 A47)) (va_up (va_up (va_up S 21 (0 : Int32)) 22 (0 : Int32)) 23 (0 : Int32)) A (16 : Int32) (S 20) (6 : Int32))) ∧ (¬ (7 : Int32) < (S 20) → (wM_M_emit (fun S32 A32 => (wM_M_sendAnswer_50 post S32 A32)) (va_up (va_up (va_up S 21 (0 : Int32)) 22 (0 : Int32)) 23 (0 : Int32)) A (S 20) (-1 : Int32) (7 : Int32))))
def wM_M_change_99 (post : SS → AA → Prop) (X3 : SS → AA → Int32 → Int32 → Int32 → Int32 → Prop) (S : SS) (A : AA) (x1 x2 x3 x4 : Int32) : Prop :=
  (X3 S A x1 x2 x3 (x4 + (1 : Int32)))
def wM_M_change_70 (post : SS → AA → Prop) (X3 : SS → AA → Int32 → Int32 → Int32 → Int32 → Prop) (S : SS) (A : AA) (x1 x2 x3 x4 x5 y0 : Int32) : Prop :=
  ((x5 = 0 → (wM_M_change_99 post X3 S A x1 x2 x3 x4)) ∧ (¬ x5 = 0 → ((y0 = 0 → (wM_M_change_99 post X3 S A x1 x2 x3 x4)) ∧ (¬ y0 = 0 → (vp_in x1 96 ∧ (vp_in x1 96 ∧ (wM_M_change_99 post X3 S (va_up A 0 (upd (A 0) x1.toNatClampNeg (((A 0) x1.toNatClampNeg) ^^^ ((1 : Int32) <<< (x4 &&& 31))))) x1 x2 x3 x4)))))))
def wM_M_change_65 (post : SS → AA → Prop) (X3 : SS → AA → Int32 → Int32 → Int32 → Int32 → Prop) (S : SS) (A : AA) (x1 x2 x3 x4 x5 : Int32) : Prop :=
  (wM_M_change_70 post X3 S A x1 x2 x3 x4 x5 (1 : Int32))
def wM_M_change_35 (post : SS → AA → Prop) (X3 : SS → AA → Int32 → Int32 → Int32 → Int32 → Prop) (S : SS) (A : AA) (x1 x2 x3 x4 y0 : Int32) : Prop :=
  (((S 0) = 0 → (wM_M_change_65 post X3 S A x1 x2 x3 x4 y0)) ∧ (¬ (S 0) = 0 → ((¬ (((S 1).toUInt32 >>> (((((8 : Int32) * x2) + x4) - (((8 : Int32) * x2) + x4) / (32 : Int32) * (32 : Int32)).toUInt32 &&& Int32.toUInt32 31)).toInt32 &&& (1 : Int32)) = (1 : Int32) → (wM_M_change_70 post X3 S A x1 x2 x3 x4 y0 (0 : Int32))) ∧ ((((S 1).toUInt32 >>> (((((8 : Int32) * x2) + x4) - (((8 : Int32) * x2) + x4) / (32 : Int32) * (32 : Int32)).toUInt32 &&& Int32.toUInt32 31)).toInt32 &&& (1 : Int32)) = (1 : Int32) → (wM_M_change_65 post X3 S A x1 x2 x3 x4 y0)))))
def wM_M_change_3B (post : SS → AA → Prop) (X3 : SS → AA → Int32 → Int32 → Int32 → Int32 → Prop) (S : SS) (A : AA) (x1 x2 x3 x4 : Int32) : Prop :=
  (((8 : Int32) ≤ x4 → (post S A)) ∧ (¬ (8 : Int32) ≤ x4 → (vp_in x1 96 ∧ ((((((A 0) x1.toNatClampNeg) >>> (x4 &&& 31)) &&& (1 : Int32)) = ((x3 >>> (x4 &&& 31)) &&& (1 : Int32)) → (wM_M_change_35 post X3 S A x1 x2 x3 x4 (0 : Int32))) ∧ (¬ ((((A 0) x1.toNatClampNeg) >>> (x4 &&& 31)) &&& (1 : Int32)) = ((x3 >>> (x4 &&& 31)) &&& (1 : Int32)) → (wM_M_change_35 post X3 S A x1 x2 x3 x4 (1 : Int32)))))))
def wM_M_change_3 (post : SS → AA → Prop) (S : SS) (A : AA) (x1 x2 x3 x4 : Int32) : Prop :=
  ∀ X3 : SS → AA → Int32 → Int32 → Int32 → Int32 → Prop, (∀ (S : SS) (A : AA) (x1 x2 x3 x4 : Int32), wM_M_change_3B post X3 S A x1 x2 x3 x4 → X3 S A x1 x2 x3 x4) → X3 S A x1 x2 x3 x4
def wM_M_change (post : SS → AA → Prop) (S : SS) (A : AA) (x1 x2 x3 : Int32) : Prop :=
  (wM_M_change_3 post S A x1 x2 x3 (0 : Int32))
def wM_M_toCome (post : Int32 → SS → AA → Prop) (S : SS) (A : AA) : Prop :=
  ((0 ≤ (S 12) → (post ((S 13) - (S 14)) S A)) ∧ (¬ 0 ≤ (S 12) → (post (-1 : Int32) S A)))
def wM_M_torn (post : Int32 → SS → AA → Prop) (S : SS) (A : AA) : Prop :=
  (tl_z (S 0) ∧ post (S 0) (va_up S 0 (0 : Int32)) A)
def wM_M_block_210 (post : Int32 → SS → AA → Prop) (S : SS) (A : AA) (x1 : Int32) : Prop :=
  (wM_M_add (fun S213 A213 => (wM_M_add (fun S218 A218 => (post (0 : Int32) S218 A218)) S213 A213 x1)) S A (118 : Int32))
def wM_M_block_173B (post : Int32 → SS → AA → Prop) (X173 : SS → AA → Int32 → Int32 → Int32 → Int32 → Prop) (S : SS) (A : AA) (x1 x2 x4 x5 : Int32) : Prop :=
  ((x2 ≤ x5 → (wM_M_block_210 post S A x1)) ∧ (¬ x2 ≤ x5 → (vp_in (x4 + x5) 96 ∧ (vp_in ((2 : Int32) + x5) 34 ∧ ((((A 0) (x4 + x5).toNatClampNeg) = ((A 1) ((2 : Int32) + x5).toNatClampNeg) → (X173 S A x1 x2 x4 (x5 + (1 : Int32)))) ∧ (¬ ((A 0) (x4 + x5).toNatClampNeg) = ((A 1) ((2 : Int32) + x5).toNatClampNeg) → (post (114 : Int32) S A)))))))
def wM_M_block_173 (post : Int32 → SS → AA → Prop) (S : SS) (A : AA) (x1 x2 x4 x5 : Int32) : Prop :=
  ∀ X173 : SS → AA → Int32 → Int32 → Int32 → Int32 → Prop, (∀ (S : SS) (A : AA) (x1 x2 x4 x5 : Int32), wM_M_block_173B post X173 S A x1 x2 x4 x5 → X173 S A x1 x2 x4 x5) → X173 S A x1 x2 x4 x5
def wM_M_block_98B (post : Int32 → SS → AA → Prop) (X98 : SS → AA → Int32 → Int32 → Int32 → Int32 → Prop) (S : SS) (A : AA) (x1 x2 x4 x5 : Int32) : Prop :=
  ((x2 ≤ x5 → (wM_M_torn (fun r142 S142 A142 => ((r142 = 0 → (wM_M_block_173 post (va_up (va_up S142 14 ((S142 14) + x2)) 15 ((S142 15) + (1 : Int32))) A142 x1 x2 x4 (0 : Int32))) ∧ (¬ r142 = 0 → (post (-1 : Int32) S142 A142)))) S A)) ∧ (¬ x2 ≤ x5 → (vp_in (x4 + x5) 96 ∧ (vp_in ((2 : Int32) + x5) 34 ∧ (wM_M_change (fun S132 A132 => (X98 S132 A132 x1 x2 x4 (x5 + (1 : Int32)))) S A (x4 + x5) x5 (((A 0) (x4 + x5).toNatClampNeg) &&& ((A 1) ((2 : Int32) + x5).toNatClampNeg)))))))
def wM_M_block_98 (post : Int32 → SS → AA → Prop) (S : SS) (A : AA) (x1 x2 x4 x5 : Int32) : Prop :=
  ∀ X98 : SS → AA → Int32 → Int32 → Int32 → Int32 → Prop, (∀ (S : SS) (A : AA) (x1 x2 x4 x5 : Int32), wM_M_block_98B post X98 S A x1 x2 x4 x5 → X98 S A x1 x2 x4 x5) → X98 S A x1 x2 x4 x5
def wM_M_block_48 (post : Int32 → SS → AA → Prop) (S : SS) (A : AA) (x1 x2 y0 : Int32) : Prop :=
  ((¬ y0 = 0 → (wM_M_block_210 post S A x1)) ∧ (y0 = 0 → ((x1 = (((S 15) + (1 : Int32)) - ((S 15) + (1 : Int32)) / (256 : Int32) * (256 : Int32)) → (wM_M_toCome (fun r72 S72 A72 => ((x2 ≤ r72 → (wM_M_block_98 post S72 A72 x1 x2 (((48 : Int32) * (S72 12)) + (S72 14)) (0 : Int32))) ∧ (¬ x2 ≤ r72 → (post (49 : Int32) S72 A72)))) S A)) ∧ (¬ x1 = (((S 15) + (1 : Int32)) - ((S 15) + (1 : Int32)) / (256 : Int32) * (256 : Int32)) → (post (115 : Int32) S A)))))
def wM_M_block_47 (post : Int32 → SS → AA → Prop) (S : SS) (A : AA) (x1 x2 : Int32) : Prop :=
  (wM_M_block_48 post S A x1 x2 (0 : Int32))
def wM_M_block (post : Int32 → SS → AA → Prop) (S : SS) (A : AA) : Prop :=
  (vp_in (1 : Int32) 34 ∧ (wM_M_toCome (fun r15 S15 A15 => ((0 < r15 → (((S15 15) ≤ 0 → (wM_M_block_47 post S15 A15 ((A 1) (1 : Int32).toNatClampNeg) ((S 17) - (2 : Int32)))) ∧ (¬ (S15 15) ≤ 0 → ((¬ ((A 1) (1 : Int32).toNatClampNeg) = ((S15 15) - (S15 15) / (256 : Int32) * (256 : Int32)) → (wM_M_block_47 post S15 A15 ((A 1) (1 : Int32).toNatClampNeg) ((S 17) - (2 : Int32)))) ∧ (((A 1) (1 : Int32).toNatClampNeg) = ((S15 15) - (S15 15) / (256 : Int32) * (256 : Int32)) → (wM_M_block_48 post S15 A15 ((A 1) (1 : Int32).toNatClampNeg) ((S 17) - (2 : Int32)) (1 : Int32))))))) ∧ (¬ 0 < r15 → (post (36 : Int32) S15 A15)))) S A))
def wM_M_download (post : Int32 → SS → AA → Prop) (S : SS) (A : AA) : Prop :=
  (vp_in (1 : Int32) 34 ∧ (vp_in (2 : Int32) 34 ∧ (((1 : Int32) < ((A 1) (1 : Int32).toNatClampNeg) → (post (49 : Int32) S A)) ∧ (¬ (1 : Int32) < ((A 1) (1 : Int32).toNatClampNeg) → ((((A 1) (2 : Int32).toNatClampNeg) < (1 : Int32) → (post (49 : Int32) S A)) ∧ (¬ ((A 1) (2 : Int32).toNatClampNeg) < (1 : Int32) → ((((A 1) (2 : Int32).toNatClampNeg) ≤ (32 : Int32) → ((¬ ((A 1) (1 : Int32).toNatClampNeg) = (S 2) → (wM_M_add (fun S72 A72 => (wM_M_add (fun S78 A78 => (post (0 : Int32) S78 A78)) S72 A72 (8 : Int32))) (va_up (va_up (va_up (va_up (va_up S 12 ((A 1) (1 : Int32).toNatClampNeg)) 13 ((A 1) (2 : Int32).toNatClampNeg)) 14 (0 : Int32)) 15 (0 : Int32)) 5 (-1 : Int32)) A (116 : Int32))) ∧ (((A 1) (1 : Int32).toNatClampNeg) = (S 2) → (post (34 : Int32) S A)))) ∧ (¬ ((A 1) (2 : Int32).toNatClampNeg) ≤ (32 : Int32) → (post (49 : Int32) S A)))))))))
def wM_M_leave (post : Int32 → SS → AA → Prop) (S : SS) (A : AA) : Prop :=
  (wM_M_toCome (fun r1 S1 A1 => ((r1 = 0 → (wM_M_add (fun S18 A18 => (post (0 : Int32) S18 A18)) (va_up S1 12 (-1 : Int32)) A1 (119 : Int32))) ∧ (¬ r1 = 0 → (post (36 : Int32) S1 A1)))) S A)
def wM_M_readData_68B (post : Int32 → SS → AA → Prop) (X68 : SS → AA → Int32 → Int32 → Prop) (S : SS) (A : AA) (x1 x2 : Int32) : Prop :=
  (((8 : Int32) ≤ x2 → (post (0 : Int32) S A)) ∧ (¬ (8 : Int32) ≤ x2 → ((¬ x1 = (2 : Int32) → (post (0 : Int32) S A)) ∧ (x1 = (2 : Int32) → (vp_in (((48 : Int32) * (S 2)) + x2) 96 ∧ (wM_M_add (fun S94 A94 => (X68 S94 A94 x1 (x2 + (1 : Int32)))) S A ((A 0) (((48 : Int32) * (S 2)) + x2).toNatClampNeg)))))))
def wM_M_readData_68 (post : Int32 → SS → AA → Prop) (S : SS) (A : AA) (x1 x2 : Int32) : Prop :=
  ∀ X68 : SS → AA → Int32 → Int32 → Prop, (∀ (S : SS) (A : AA) (x1 x2 : Int32), wM_M_readData_68B post X68 S A x1 x2 → X68 S A x1 x2) → X68 S A x1 x2
def wM_M_readData_66 (post : Int32 → SS → AA → Prop) (S : SS) (A : AA) (x1 : Int32) : Prop :=
  (wM_M_readData_68 post S A x1 (0 : Int32))
def wM_M_readData_53 (post : Int32 → SS → AA → Prop) (S : SS) (A : AA) (x1 : Int32) : Prop :=
  ((¬ x1 = (1 : Int32) → (wM_M_readData_66 post S A x1)) ∧ (x1 = (1 : Int32) → (wM_M_add (fun S63 A63 => (wM_M_readData_66 post S63 A63 x1)) S A (S 6))))
def wM_M_readData_30 (post : Int32 → SS → AA → Prop) (S : SS) (A : AA) (x1 : Int32) : Prop :=
  (wM_M_add (fun S33 A33 => (wM_M_add (fun S38 A38 => ((¬ x1 = 0 → (wM_M_readData_53 post S38 A38 x1)) ∧ (x1 = 0 → (wM_M_add (fun S50 A50 => (wM_M_readData_53 post S50 A50 x1)) S38 A38 (S38 2))))) S33 A33 x1)) S A (98 : Int32))
def wM_M_readData (post : Int32 → SS → AA → Prop) (S : SS) (A : AA) : Prop :=
  (vp_in (1 : Int32) 34 ∧ ((((A 1) (1 : Int32).toNatClampNeg) ≤ (2 : Int32) → ((((A 1) (1 : Int32).toNatClampNeg) = (1 : Int32) → (wM_M_readData_30 post S A ((A 1) (1 : Int32).toNatClampNeg))) ∧ (¬ ((A 1) (1 : Int32).toNatClampNeg) = (1 : Int32) → ((0 ≤ (S 2) → (wM_M_readData_30 post S A ((A 1) (1 : Int32).toNatClampNeg))) ∧ (¬ 0 ≤ (S 2) → (post (34 : Int32) S A)))))) ∧ (¬ ((A 1) (1 : Int32).toNatClampNeg) ≤ (2 : Int32) → (post (49 : Int32) S A))))
def wM_M_activate_50 (post : Int32 → SS → AA → Prop) (S : SS) (A : AA) (x1 y0 : Int32) : Prop :=
  (wM_M_sumOf (fun r53 S53 A53 => (vp_in ((((48 : Int32) * x1) + (32 : Int32)) + (1 : Int32)) 96 ∧ (wM_M_change (fun S84 A84 => (vp_in ((((48 : Int32) * x1) + (32 : Int32)) + (2 : Int32)) 96 ∧ (wM_M_change (fun S109 A109 => (vp_in ((((48 : Int32) * x1) + (32 : Int32)) + (3 : Int32)) 96 ∧ (wM_M_change (fun S134 A134 => (wM_M_torn (fun r138 S138 A138 => ((r138 = 0 → (wM_M_change (fun S151 A151 => (wM_M_torn (fun r155 S155 A155 => ((r155 = 0 → (post (0 : Int32) S155 A155)) ∧ (¬ r155 = 0 → (post (-1 : Int32) S155 A155)))) S151 A151)) S138 A138 (((48 : Int32) * x1) + (32 : Int32)) (0 : Int32) (0 : Int32))) ∧ (¬ r138 = 0 → (post (-1 : Int32) S138 A138)))) S134 A134)) S109 A109 ((((48 : Int32) * x1) + (32 : Int32)) + (3 : Int32)) (2 : Int32) (((A109 0) ((((48 : Int32) * x1) + (32 : Int32)) + (3 : Int32)).toNatClampNeg) &&& (r53 - r53 / (256 : Int32) * (256 : Int32)))))) S84 A84 ((((48 : Int32) * x1) + (32 : Int32)) + (2 : Int32)) (1 : Int32) (((A84 0) ((((48 : Int32) * x1) + (32 : Int32)) + (2 : Int32)).toNatClampNeg) &&& (r53 / (256 : Int32)))))) S53 A53 ((((48 : Int32) * x1) + (32 : Int32)) + (1 : Int32)) (0 : Int32) (((A53 0) ((((48 : Int32) * x1) + (32 : Int32)) + (1 : Int32)).toNatClampNeg) &&& y0)))) S A x1)
def wM_M_activate (post : Int32 → SS → AA → Prop) (S : SS) (A : AA) (x1 : Int32) : Prop :=
  ((x1 = (S 2) → (post (34 : Int32) S A)) ∧ (¬ x1 = (S 2) → ((x1 = (S 5) → (wM_M_bestSlot (fun r20 S20 A20 => ((0 ≤ r20 → (vp_in (((48 : Int32) * r20) + (33 : Int32)) 96 ∧ (wM_M_activate_50 post S20 A20 x1 ((((A20 0) (((48 : Int32) * r20) + (33 : Int32)).toNatClampNeg) + (1 : Int32)) - (((A20 0) (((48 : Int32) * r20) + (33 : Int32)).toNatClampNeg) + (1 : Int32)) / (256 : Int32) * (256 : Int32))))) ∧ (¬ 0 ≤ r20 → (wM_M_activate_50 post S20 A20 x1 (1 : Int32))))) S A)) ∧ (¬ x1 = (S 5) → (post (34 : Int32) S A)))))
def wM_M_erase_2B (post : Int32 → SS → AA → Prop) (X2 : SS → AA → Int32 → Int32 → Prop) (S : SS) (A : AA) (x1 x2 : Int32) : Prop :=
  (((16 : Int32) ≤ x2 → (wM_M_torn (fun r29 S29 A29 => (tl_z r29 ∧ post r29 S29 A29)) S A)) ∧ (¬ (16 : Int32) ≤ x2 → (wM_M_change (fun S19 A19 => (X2 S19 A19 x1 (x2 + (1 : Int32)))) S A (((16 : Int32) * x1) + x2) x2 (255 : Int32))))
def wM_M_erase_2 (post : Int32 → SS → AA → Prop) (S : SS) (A : AA) (x1 x2 : Int32) : Prop :=
  ∀ X2 : SS → AA → Int32 → Int32 → Prop, (∀ (S : SS) (A : AA) (x1 x2 : Int32), wM_M_erase_2B post X2 S A x1 x2 → X2 S A x1 x2) → X2 S A x1 x2
def wM_M_erase (post : Int32 → SS → AA → Prop) (S : SS) (A : AA) (x1 : Int32) : Prop :=
  (wM_M_erase_2 post S A x1 (0 : Int32))
def wM_M_eraseSlot (post : Int32 → SS → AA → Prop) (S : SS) (A : AA) (x1 : Int32) : Prop :=
  ((¬ x1 = (S 2) → (wM_M_erase (fun r22 S22 A22 => ((r22 = 0 → (wM_M_erase (fun r34 S34 A34 => ((r34 = 0 → (wM_M_erase (fun r48 S48 A48 => ((r48 = 0 → (post (0 : Int32) S48 A48)) ∧ (¬ r48 = 0 → (post (-1 : Int32) S48 A48)))) S34 A34 (((3 : Int32) * x1) + (1 : Int32)))) ∧ (¬ r34 = 0 → (post (-1 : Int32) S34 A34)))) S22 A22 ((3 : Int32) * x1))) ∧ (¬ r22 = 0 → (post (-1 : Int32) S22 A22)))) (va_up S 5 (-1 : Int32)) A (((3 : Int32) * x1) + (2 : Int32)))) ∧ (x1 = (S 2) → (post (34 : Int32) S A)))
def wM_M_routine_159 (post : Int32 → SS → AA → Prop) (S : SS) (A : AA) (y0 : Int32) : Prop :=
  (wM_M_add (fun S159 A159 => (post (0 : Int32) S159 A159)) S A y0)
def wM_M_routine_145 (post : Int32 → SS → AA → Prop) (S : SS) (A : AA) (x4 y0 : Int32) : Prop :=
  ((x4 = 0 → (wM_M_routine_159 post (va_up S 5 y0) A (0 : Int32))) ∧ (¬ x4 = 0 → (wM_M_routine_159 post (va_up S 5 y0) A (1 : Int32))))
def wM_M_routine_117 (post : Int32 → SS → AA → Prop) (S : SS) (A : AA) (x2 y0 : Int32) : Prop :=
  ((y0 = 0 → ((¬ (S 5) = x2 → (wM_M_routine_145 post S A y0 (S 5))) ∧ ((S 5) = x2 → (wM_M_routine_145 post S A y0 (-1 : Int32))))) ∧ (¬ y0 = 0 → (wM_M_routine_145 post S A y0 x2)))
def wM_M_routine_59 (post : Int32 → SS → AA → Prop) (S : SS) (A : AA) (x1 x2 y0 : Int32) : Prop :=
  ((y0 = 0 → (wM_M_add (fun S69 A69 => (wM_M_add (fun S74 A74 => (wM_M_add (fun S79 A79 => ((¬ x1 = (2 : Int32) → (post (0 : Int32) S79 A79)) ∧ (x1 = (2 : Int32) → (wM_M_sumOf (fun r89 S89 A89 => (vp_in (4 : Int32) 34 ∧ (vp_in (5 : Int32) 34 ∧ ((¬ r89 = (((256 : Int32) * ((A89 1) (4 : Int32).toNatClampNeg)) + ((A89 1) (5 : Int32).toNatClampNeg)) → (wM_M_routine_117 post S89 A89 x2 (0 : Int32))) ∧ (r89 = (((256 : Int32) * ((A89 1) (4 : Int32).toNatClampNeg)) + ((A89 1) (5 : Int32).toNatClampNeg)) → (wM_M_routine_117 post S89 A89 x2 (1 : Int32))))))) S79 A79 x2)))) S74 A74 x1)) S69 A69 (1 : Int32))) S A (113 : Int32))) ∧ (¬ y0 = 0 → (post y0 S A)))
def wM_M_routine (post : Int32 → SS → AA → Prop) (S : SS) (A : AA) : Prop :=
  (vp_in (2 : Int32) 34 ∧ (vp_in (3 : Int32) 34 ∧ ((((A 1) (2 : Int32).toNatClampNeg) < (1 : Int32) → (post (49 : Int32) S A)) ∧ (¬ ((A 1) (2 : Int32).toNatClampNeg) < (1 : Int32) → (((3 : Int32) < ((A 1) (2 : Int32).toNatClampNeg) → (post (49 : Int32) S A)) ∧ (¬ (3 : Int32) < ((A 1) (2 : Int32).toNatClampNeg) → ((((A 1) (3 : Int32).toNatClampNeg) ≤ (1 : Int32) → ((¬ ((A 1) (2 : Int32).toNatClampNeg) = (1 : Int32) → ((¬ ((A 1) (2 : Int32).toNatClampNeg) = (3 : Int32) → (wM_M_routine_59 post S A ((A 1) (2 : Int32).toNatClampNeg) ((A 1) (3 : Int32).toNatClampNeg) (0 : Int32))) ∧ (((A 1) (2 : Int32).toNatClampNeg) = (3 : Int32) → (wM_M_activate (fun r52 S52 A52 => (wM_M_routine_59 post S52 A52 ((A 1) (2 : Int32).toNatClampNeg) ((A 1) (3 : Int32).toNatClampNeg) r52)) S A ((A 1) (3 : Int32).toNatClampNeg))))) ∧ (((A 1) (2 : Int32).toNatClampNeg) = (1 : Int32) → (wM_M_eraseSlot (fun r39 S39 A39 => (wM_M_routine_59 post S39 A39 ((A 1) (2 : Int32).toNatClampNeg) ((A 1) (3 : Int32).toNatClampNeg) r39)) S A ((A 1) (3 : Int32).toNatClampNeg))))) ∧ (¬ ((A 1) (3 : Int32).toNatClampNeg) ≤ (1 : Int32) → (post (49 : Int32) S A)))))))))
def wM_M_seeds_65 (post : Int32 → SS → AA → Prop) (S : SS) (A : AA) : Prop :=
  (wM_M_add (fun S68 A68 => (wM_M_add (fun S73 A73 => (wM_M_add (fun S81 A81 => (post (0 : Int32) S81 A81)) S73 A73 (S73 8))) S68 A68 (1 : Int32))) S A (103 : Int32))
def wM_M_seeds (post : Int32 → SS → AA → Prop) (S : SS) (A : AA) : Prop :=
  (vp_in (1 : Int32) 34 ∧ ((¬ ((A 1) (1 : Int32).toNatClampNeg) = (1 : Int32) → ((¬ (S 8) = 0 → (vp_in (2 : Int32) 34 ∧ ((¬ ((A 1) (2 : Int32).toNatClampNeg) = ((((5 : Int32) * (S 8)) + (3 : Int32)) - (((5 : Int32) * (S 8)) + (3 : Int32)) / (256 : Int32) * (256 : Int32)) → ((¬ ((1 : Int32) - (S 9)) = (1 : Int32) → (post (54 : Int32) (va_up (va_up (va_up S 8 (0 : Int32)) 9 ((1 : Int32) - (S 9))) 10 (8 : Int32)) A)) ∧ (((1 : Int32) - (S 9)) = (1 : Int32) → (post (53 : Int32) (va_up (va_up S 8 (0 : Int32)) 9 ((1 : Int32) - (S 9))) A)))) ∧ (((A 1) (2 : Int32).toNatClampNeg) = ((((5 : Int32) * (S 8)) + (3 : Int32)) - (((5 : Int32) * (S 8)) + (3 : Int32)) / (256 : Int32) * (256 : Int32)) → (wM_M_add (fun S124 A124 => (wM_M_add (fun S129 A129 => (post (0 : Int32) S129 A129)) S124 A124 (2 : Int32))) (va_up (va_up (va_up S 8 (0 : Int32)) 4 (1 : Int32)) 9 (0 : Int32)) A (103 : Int32)))))) ∧ ((S 8) = 0 → (post (36 : Int32) (va_up S 8 (0 : Int32)) A)))) ∧ (((A 1) (1 : Int32).toNatClampNeg) = (1 : Int32) → (((S 10) = 0 → ((¬ (S 4) = 0 → (wM_M_seeds_65 post (va_up S 8 (0 : Int32)) A)) ∧ ((S 4) = 0 → (wM_M_seeds_65 post (va_up (va_up (va_up S 8 (0 : Int32)) 8 (((17 : Int32) + ((73 : Int32) * (S 7))) - ((17 : Int32) + ((73 : Int32) * (S 7))) / (256 : Int32) * (256 : Int32))) 7 ((S 7) + (1 : Int32))) A)))) ∧ (¬ (S 10) = 0 → (post (55 : Int32) (va_up S 8 (0 : Int32)) A))))))
def wM_M_writeData (post : Int32 → SS → AA → Prop) (S : SS) (A : AA) : Prop :=
  (vp_in (1 : Int32) 34 ∧ ((((A 1) (1 : Int32).toNatClampNeg) = (1 : Int32) → (vp_in (2 : Int32) 34 ∧ (wM_M_add (fun S26 A26 => (wM_M_add (fun S31 A31 => (post (0 : Int32) S31 A31)) S26 A26 (1 : Int32))) (va_up S 6 ((A 1) (2 : Int32).toNatClampNeg)) A (110 : Int32)))) ∧ (¬ ((A 1) (1 : Int32).toNatClampNeg) = (1 : Int32) → (post (49 : Int32) S A))))
def wM_M_workOn (post : Int32 → SS → AA → Prop) (S : SS) (A : AA) : Prop :=
  (vp_in (0 : Int32) 34 ∧ ((((A 1) (0 : Int32).toNatClampNeg) = (16 : Int32) → (vp_in (1 : Int32) 34 ∧ (wM_M_changeSession (fun S95 A95 => (wM_M_add (fun S101 A101 => (vp_in (1 : Int32) 34 ∧ (wM_M_add (fun S111 A111 => (post (0 : Int32) S111 A111)) S101 A101 ((A101 1) (1 : Int32).toNatClampNeg)))) S95 A95 (80 : Int32))) S A ((A 1) (1 : Int32).toNatClampNeg)))) ∧ (¬ ((A 1) (0 : Int32).toNatClampNeg) = (16 : Int32) → ((((A 1) (0 : Int32).toNatClampNeg) = (17 : Int32) → (wM_M_add (fun S132 A132 => (wM_M_add (fun S137 A137 => (post (0 : Int32) S137 A137)) S132 A132 (1 : Int32))) S A (81 : Int32))) ∧ (¬ ((A 1) (0 : Int32).toNatClampNeg) = (17 : Int32) → ((((A 1) (0 : Int32).toNatClampNeg) = (34 : Int32) → (wM_M_readData (fun r148 S148 A148 => (post r148 S148 A148)) S A)) ∧ (¬ ((A 1) (0 : Int32).toNatClampNeg) = (34 : Int32) → ((((A 1) (0 : Int32).toNatClampNeg) = (39 : Int32) → (wM_M_seeds (fun r143 S143 A143 => (post r143 S143 A143)) S A)) ∧ (¬ ((A 1) (0 : Int32).toNatClampNeg) = (39 : Int32) → ((((A 1) (0 : Int32).toNatClampNeg) = (46 : Int32) → (wM_M_writeData (fun r153 S153 A153 => (post r153 S153 A153)) S A)) ∧ (¬ ((A 1) (0 : Int32).toNatClampNeg) = (46 : Int32) → ((((A 1) (0 : Int32).toNatClampNeg) = (49 : Int32) → (wM_M_routine (fun r158 S158 A158 => (post r158 S158 A158)) S A)) ∧ (¬ ((A 1) (0 : Int32).toNatClampNeg) = (49 : Int32) → ((((A 1) (0 : Int32).toNatClampNeg) = (52 : Int32) → (wM_M_download (fun r163 S163 A163 => (post r163 S163 A163)) S A)) ∧ (¬ ((A 1) (0 : Int32).toNatClampNeg) = (52 : Int32) → ((((A 1) (0 : Int32).toNatClampNeg) = (54 : Int32) → (wM_M_block (fun r168 S168 A168 => (post r168 S168 A168)) S A)) ∧ (¬ ((A 1) (0 : Int32).toNatClampNeg) = (54 : Int32) → ((((A 1) (0 : Int32).toNatClampNeg) = (62 : Int32) → (wM_M_add (fun S119 A119 => (wM_M_add (fun S124 A124 => (post (0 : Int32) S124 A124)) S119 A119 (0 : Int32))) S A (126 : Int32))) ∧ (¬ ((A 1) (0 : Int32).toNatClampNeg) = (62 : Int32) → (wM_M_leave (fun r173 S173 A173 => (post r173 S173 A173)) S A))))))))))))))))))))
def wM_M_complete_83 (post : SS → AA → Prop) (S : SS) (A : AA) (x2 : Int32) : Prop :=
  (wM_M_dropRequest (fun S84 A84 => (wM_M_sendAnswer (fun S88 A88 => ((x2 = 0 → (post S88 A88)) ∧ (¬ x2 = 0 → (wM_M_boot (fun S96 A96 => (post S96 A96)) S88 A88)))) S84 A84)) S A)
def wM_M_complete_44 (post : SS → AA → Prop) (S : SS) (A : AA) (x1 x2 : Int32) : Prop :=
  ((0 ≤ x1 → ((x1 ≤ 0 → (wM_M_complete_83 post S A x2)) ∧ (¬ x1 ≤ 0 → (wM_M_add (fun S65 A65 => (vp_in (0 : Int32) 34 ∧ (wM_M_add (fun S75 A75 => (wM_M_add (fun S80 A80 => (wM_M_complete_83 post S80 A80 x2)) S75 A75 x1)) S65 A65 ((A65 1) (0 : Int32).toNatClampNeg)))) (va_up S 20 (0 : Int32)) A (127 : Int32))))) ∧ (¬ 0 ≤ x1 → (wM_M_restart (fun S49 A49 => (post S49 A49)) S A)))
def wM_M_complete_34 (post : SS → AA → Prop) (S : SS) (A : AA) (x1 y0 : Int32) : Prop :=
  ((¬ x1 = 0 → (wM_M_complete_44 post S A x1 y0)) ∧ (x1 = 0 → (wM_M_workOn (fun r40 S40 A40 => (wM_M_complete_44 post S40 A40 r40 y0)) S A)))
def wM_M_complete_33 (post : SS → AA → Prop) (S : SS) (A : AA) (x1 : Int32) : Prop :=
  (wM_M_complete_34 post S A x1 (0 : Int32))
def wM_M_complete (post : SS → AA → Prop) (S : SS) (A : AA) : Prop :=
  (wM_M_dropAnswer (fun S6 A6 => (wM_M_against (fun r10 S10 A10 => ((¬ r10 = 0 → (wM_M_complete_33 post S10 A10 r10)) ∧ (r10 = 0 → (vp_in (0 : Int32) 34 ∧ ((¬ ((A10 1) (0 : Int32).toNatClampNeg) = (17 : Int32) → (wM_M_complete_33 post S10 A10 r10)) ∧ (((A10 1) (0 : Int32).toNatClampNeg) = (17 : Int32) → (wM_M_complete_34 post S10 A10 r10 (1 : Int32)))))))) S6 A6)) (va_up S 11 (0 : Int32)) A)
def wM_M_furtherFrame (post : SS → AA → Prop) (S : SS) (A : AA) (x1 : Int32) : Prop :=
  ((x1 = (((S 18) + (1 : Int32)) - ((S 18) + (1 : Int32)) / (16 : Int32) * (16 : Int32)) → (wM_M_takeBytes (fun S28 A28 => ((¬ (S28 17) = (S28 16) → ((¬ ((S28 18) - (S28 18) / (2 : Int32) * (2 : Int32)) = 0 → (post S28 A28)) ∧ (((S28 18) - (S28 18) / (2 : Int32) * (2 : Int32)) = 0 → (wM_M_askMore (fun S59 A59 => (post S59 A59)) S28 A28)))) ∧ ((S28 17) = (S28 16) → (wM_M_complete (fun S43 A43 => (post S43 A43)) S28 A28)))) (va_up S 18 (((S 18) + (1 : Int32)) - ((S 18) + (1 : Int32)) / (16 : Int32) * (16 : Int32))) A (1 : Int32))) ∧ (¬ x1 = (((S 18) + (1 : Int32)) - ((S 18) + (1 : Int32)) / (16 : Int32) * (16 : Int32)) → (wM_M_dropRequest (fun S22 A22 => (post S22 A22)) (va_up S 18 (((S 18) + (1 : Int32)) - ((S 18) + (1 : Int32)) / (16 : Int32) * (16 : Int32))) A)))
def wM_M_frame_179 (post : Int32 → SS → AA → Prop) (S : SS) (A : AA) : Prop :=
  (post (S 24) S A)
def wM_M_frame_148 (post : Int32 → SS → AA → Prop) (S : SS) (A : AA) (x3 : Int32) : Prop :=
  ((x3 < (32 : Int32) → (wM_M_frame_179 post S A)) ∧ (¬ x3 < (32 : Int32) → (((47 : Int32) < x3 → (wM_M_frame_179 post S A)) ∧ (¬ (47 : Int32) < x3 → (((S 16) ≤ (S 17) → (wM_M_frame_179 post S A)) ∧ (¬ (S 16) ≤ (S 17) → (wM_M_furtherFrame (fun S176 A176 => (wM_M_frame_179 post S176 A176)) S A (x3 - (32 : Int32)))))))))
def wM_M_frame_102 (post : Int32 → SS → AA → Prop) (S : SS) (A : AA) (x3 : Int32) : Prop :=
  ((¬ x3 = (16 : Int32) → (wM_M_frame_148 post S A x3)) ∧ (x3 = (16 : Int32) → (vp_in (1 : Int32) 8 ∧ ((((A 4) (1 : Int32).toNatClampNeg) < (8 : Int32) → (wM_M_frame_148 post S A x3)) ∧ (¬ ((A 4) (1 : Int32).toNatClampNeg) < (8 : Int32) → (vp_in (1 : Int32) 8 ∧ (((34 : Int32) < ((A 4) (1 : Int32).toNatClampNeg) → (wM_M_frame_148 post S A x3)) ∧ (¬ (34 : Int32) < ((A 4) (1 : Int32).toNatClampNeg) → (vp_in (1 : Int32) 8 ∧ (wM_M_beginRequest (fun S138 A138 => (wM_M_askMore (fun S142 A142 => (wM_M_frame_179 post S142 A142)) S138 A138)) S A ((A 4) (1 : Int32).toNatClampNeg) (2 : Int32)))))))))))
def wM_M_frame_2B (post : Int32 → SS → AA → Prop) (X2 : SS → AA → Int32 → Int32 → Int32 → Prop) (S : SS) (A : AA) (x1 x2 x3 : Int32) : Prop :=
  (((4 : Int32) ≤ x3 → (vp_in (0 : Int32) 8 ∧ (((S 20) ≤ (S 21) → ((((A 4) (0 : Int32).toNatClampNeg) < (1 : Int32) → (wM_M_frame_102 post S A ((A 4) (0 : Int32).toNatClampNeg))) ∧ (¬ ((A 4) (0 : Int32).toNatClampNeg) < (1 : Int32) → (((7 : Int32) < ((A 4) (0 : Int32).toNatClampNeg) → (wM_M_frame_102 post S A ((A 4) (0 : Int32).toNatClampNeg))) ∧ (¬ (7 : Int32) < ((A 4) (0 : Int32).toNatClampNeg) → (wM_M_beginRequest (fun S92 A92 => (wM_M_complete (fun S96 A96 => (wM_M_frame_179 post S96 A96)) S92 A92)) S A ((A 4) (0 : Int32).toNatClampNeg) (1 : Int32))))))) ∧ (¬ (S 20) ≤ (S 21) → (wM_M_answerFrame (fun S72 A72 => (wM_M_frame_179 post S72 A72)) S A))))) ∧ (¬ (4 : Int32) ≤ x3 → (vp_in x3 8 ∧ (vp_in ((4 : Int32) + x3) 8 ∧ (X2 S (va_up (va_up A 4 (upd (A 4) x3.toNatClampNeg ((x1.toUInt32 >>> (((24 : Int32) - ((8 : Int32) * x3)).toUInt32 &&& Int32.toUInt32 31)).toInt32 &&& (255 : Int32)))) 4 (upd (upd (A 4) x3.toNatClampNeg ((x1.toUInt32 >>> (((24 : Int32) - ((8 : Int32) * x3)).toUInt32 &&& Int32.toUInt32 31)).toInt32 &&& (255 : Int32))) ((4 : Int32) + x3).toNatClampNeg ((x2.toUInt32 >>> (((24 : Int32) - ((8 : Int32) * x3)).toUInt32 &&& Int32.toUInt32 31)).toInt32 &&& (255 : Int32)))) x1 x2 (x3 + (1 : Int32)))))))
def wM_M_frame_2 (post : Int32 → SS → AA → Prop) (S : SS) (A : AA) (x1 x2 x3 : Int32) : Prop :=
  ∀ X2 : SS → AA → Int32 → Int32 → Int32 → Prop, (∀ (S : SS) (A : AA) (x1 x2 x3 : Int32), wM_M_frame_2B post X2 S A x1 x2 x3 → X2 S A x1 x2 x3) → X2 S A x1 x2 x3
def wM_M_frame (post : Int32 → SS → AA → Prop) (S : SS) (A : AA) (x1 x2 : Int32) : Prop :=
  (wM_M_frame_2 post S A x1 x2 (0 : Int32))
def wM_M_peek (post : Int32 → SS → AA → Prop) (S : SS) (A : AA) (x1 : Int32) : Prop :=
  (((S 24) ≤ 0 → (post (-1 : Int32) S A)) ∧ (¬ (S 24) ≤ 0 → ((x1 < 0 → (post (-1 : Int32) S A)) ∧ (¬ x1 < 0 → (((8 : Int32) ≤ x1 → (post (-1 : Int32) S A)) ∧ (¬ (8 : Int32) ≤ x1 → (vp_in x1 96 ∧ (post ((A 3) x1.toNatClampNeg) S A))))))))
def wM_M_take_21B (post : Int32 → SS → AA → Prop) (X21 : SS → AA → Int32 → Prop) (S : SS) (A : AA) (x1 : Int32) : Prop :=
  ((((8 : Int32) * (S 24)) ≤ x1 → (post (1 : Int32) S A)) ∧ (¬ ((8 : Int32) * (S 24)) ≤ x1 → (vp_in (x1 + (8 : Int32)) 96 ∧ (vp_in x1 96 ∧ (X21 S (va_up A 3 (upd (A 3) x1.toNatClampNeg ((A 3) (x1 + (8 : Int32)).toNatClampNeg))) (x1 + (1 : Int32)))))))
def wM_M_take_21 (post : Int32 → SS → AA → Prop) (S : SS) (A : AA) (x1 : Int32) : Prop :=
  ∀ X21 : SS → AA → Int32 → Prop, (∀ (S : SS) (A : AA) (x1 : Int32), wM_M_take_21B post X21 S A x1 → X21 S A x1) → X21 S A x1
def wM_M_take (post : Int32 → SS → AA → Prop) (S : SS) (A : AA) : Prop :=
  ((¬ (S 24) = 0 → (wM_M_take_21 post (va_up S 24 ((S 24) - (1 : Int32))) A (0 : Int32))) ∧ ((S 24) = 0 → (post (0 : Int32) S A)))
def wM_M_tick_138 (post : SS → AA → Prop) (S : SS) (A : AA) (y0 : Int32) : Prop :=
  (post (va_up S 10 y0) A)
def wM_M_tick_120 (post : SS → AA → Prop) (S : SS) (A : AA) : Prop :=
  (((S 10) ≤ 0 → (wM_M_tick_138 post S A (0 : Int32))) ∧ (¬ (S 10) ≤ 0 → (wM_M_tick_138 post S A ((S 10) - (1 : Int32)))))
def wM_M_tick_66 (post : SS → AA → Prop) (S : SS) (A : AA) : Prop :=
  ((¬ (S 3) = (2 : Int32) → (wM_M_tick_120 post (va_up S 11 ((S 11) + (1 : Int32))) A)) ∧ ((S 3) = (2 : Int32) → ((((S 11) + (1 : Int32)) < (10 : Int32) → (wM_M_tick_120 post (va_up S 11 ((S 11) + (1 : Int32))) A)) ∧ (¬ ((S 11) + (1 : Int32)) < (10 : Int32) → ((¬ (S 17) = (S 16) → (wM_M_tick_120 post (va_up S 11 ((S 11) + (1 : Int32))) A)) ∧ ((S 17) = (S 16) → ((¬ (S 21) = (S 20) → (wM_M_tick_120 post (va_up S 11 ((S 11) + (1 : Int32))) A)) ∧ ((S 21) = (S 20) → (wM_M_changeSession (fun S117 A117 => (wM_M_tick_120 post S117 A117)) (va_up S 11 ((S 11) + (1 : Int32))) A (1 : Int32))))))))))
def wM_M_tick_33 (post : SS → AA → Prop) (S : SS) (A : AA) : Prop :=
  (((S 20) ≤ (S 21) → (wM_M_tick_66 post S A)) ∧ (¬ (S 20) ≤ (S 21) → ((¬ ((S 23) + (1 : Int32)) = (4 : Int32) → (wM_M_tick_66 post (va_up S 23 ((S 23) + (1 : Int32))) A)) ∧ (((S 23) + (1 : Int32)) = (4 : Int32) → (wM_M_dropAnswer (fun S63 A63 => (wM_M_tick_66 post S63 A63)) (va_up S 23 ((S 23) + (1 : Int32))) A)))))
def wM_M_tick (post : SS → AA → Prop) (S : SS) (A : AA) : Prop :=
  (((S 16) ≤ (S 17) → (wM_M_tick_33 post S A)) ∧ (¬ (S 16) ≤ (S 17) → ((¬ ((S 19) + (1 : Int32)) = (4 : Int32) → (wM_M_tick_33 post (va_up S 19 ((S 19) + (1 : Int32))) A)) ∧ (((S 19) + (1 : Int32)) = (4 : Int32) → (wM_M_dropRequest (fun S30 A30 => (wM_M_tick_33 post S30 A30)) (va_up S 19 ((S 19) + (1 : Int32))) A)))))
def wM_M_cut (post : SS → AA → Prop) (S : SS) (A : AA) (x1 : Int32) : Prop :=
  (post (va_up (va_up S 0 (1 : Int32)) 1 x1) A)
def wM_M_flash_10 (post : Int32 → SS → AA → Prop) (S : SS) (A : AA) : Prop :=
  (post (-1 : Int32) S A)
def wM_M_flash (post : Int32 → SS → AA → Prop) (S : SS) (A : AA) (x1 : Int32) : Prop :=
  ((x1 < 0 → (wM_M_flash_10 post S A)) ∧ (¬ x1 < 0 → ((x1 ≤ (95 : Int32) → (vp_in x1 96 ∧ (post ((A 0) x1.toNatClampNeg) S A))) ∧ (¬ x1 ≤ (95 : Int32) → (wM_M_flash_10 post S A)))))
def wM_M_word (post : Int32 → SS → AA → Prop) (S : SS) (A : AA) (x1 : Int32) : Prop :=
  ((x1 < 0 → (post (0 : Int32) S A)) ∧ (¬ x1 < 0 → ((x1 ≤ (92 : Int32) → (vp_in x1 96 ∧ (vp_in (x1 + (1 : Int32)) 96 ∧ (vp_in (x1 + (2 : Int32)) 96 ∧ (vp_in (x1 + (3 : Int32)) 96 ∧ (post ((((((A 0) x1.toNatClampNeg) <<< ((24 : Int32) &&& 31)) ||| (((A 0) (x1 + (1 : Int32)).toNatClampNeg) <<< ((16 : Int32) &&& 31))) ||| (((A 0) (x1 + (2 : Int32)).toNatClampNeg) <<< ((8 : Int32) &&& 31))) ||| ((A 0) (x1 + (3 : Int32)).toNatClampNeg)) S A)))))) ∧ (¬ x1 ≤ (92 : Int32) → (post (0 : Int32) S A)))))
def wM_M_state (post : Int32 → SS → AA → Prop) (S : SS) (A : AA) (x1 : Int32) : Prop :=
  ((x1 = (0 : Int32) → (post (S 2) S A)) ∧ (¬ x1 = (0 : Int32) → ((x1 = (1 : Int32) → (post (S 3) S A)) ∧ (¬ x1 = (1 : Int32) → ((x1 = (2 : Int32) → (((S 4) = 0 → (post (0 : Int32) S A)) ∧ (¬ (S 4) = 0 → (post (1 : Int32) S A)))) ∧ (¬ x1 = (2 : Int32) → ((x1 = (3 : Int32) → (wM_M_toCome (fun r76 S76 A76 => (post r76 S76 A76)) S A)) ∧ (¬ x1 = (3 : Int32) → ((x1 = (4 : Int32) → (((S 0) = 0 → (post (0 : Int32) S A)) ∧ (¬ (S 0) = 0 → (post (1 : Int32) S A)))) ∧ (¬ x1 = (4 : Int32) → ((x1 = (5 : Int32) → (post (S 5) S A)) ∧ (¬ x1 = (5 : Int32) → ((x1 = (6 : Int32) → (post ((S 16) - (S 17)) S A)) ∧ (¬ x1 = (6 : Int32) → ((x1 = (7 : Int32) → (post ((S 20) - (S 21)) S A)) ∧ (¬ x1 = (7 : Int32) → ((x1 = (8 : Int32) → (post (S 10) S A)) ∧ (¬ x1 = (8 : Int32) → (post (-1 : Int32) S A)))))))))))))))))))
def wN_Mm_sumOf_76 (post : Int32 → SS → AA → Prop) (X18 : SS → AA → Int32 → Int32 → Int32 → Prop) (X43 : SS → AA → Int32 → Int32 → Int32 → Int32 → Prop) (S : SS) (A : AA) (x2 x4 x5 y0 : Int32) : Prop :=
  (X43 S A x2 y0 x4 (x5 + (1 : Int32)))
def wN_Mm_sumOf_43B (post : Int32 → SS → AA → Prop) (X18 : SS → AA → Int32 → Int32 → Int32 → Prop) (X43 : SS → AA → Int32 → Int32 → Int32 → Int32 → Prop) (S : SS) (A : AA) (x2 x3 x4 x5 : Int32) : Prop :=
  (((8 : Int32) ≤ x5 → (X18 S A x2 x3 (x4 + (1 : Int32)))) ∧ (¬ (8 : Int32) ≤ x5 → (((x3 &&& (32768 : Int32)) = 0 → (wN_Mm_sumOf_76 post X18 X43 S A x2 x4 x5 ((x3 <<< ((1 : Int32) &&& 31)) &&& (65535 : Int32)))) ∧ (¬ (x3 &&& (32768 : Int32)) = 0 → (wN_Mm_sumOf_76 post X18 X43 S A x2 x4 x5 (((x3 <<< ((1 : Int32) &&& 31)) &&& (65535 : Int32)) ^^^ (4129 : Int32)))))))
def wN_Mm_sumOf_43 (post : Int32 → SS → AA → Prop) (X18 : SS → AA → Int32 → Int32 → Int32 → Prop) (S : SS) (A : AA) (x2 x3 x4 x5 : Int32) : Prop :=
  ∀ X43 : SS → AA → Int32 → Int32 → Int32 → Int32 → Prop, (∀ (S : SS) (A : AA) (x2 x3 x4 x5 : Int32), wN_Mm_sumOf_43B post X18 X43 S A x2 x3 x4 x5 → X43 S A x2 x3 x4 x5) → X43 S A x2 x3 x4 x5
def wN_Mm_sumOf_18B (post : Int32 → SS → AA → Prop) (X18 : SS → AA → Int32 → Int32 → Int32 → Prop) (S : SS) (A : AA) (x2 x3 x4 : Int32) : Prop :=
  (((x2 + (32 : Int32)) ≤ x4 → (post x3 S A)) ∧ (¬ (x2 + (32 : Int32)) ≤ x4 → (vp_in x4 96 ∧ (wN_Mm_sumOf_43 post X18 S A x2 (x3 ^^^ (((A 0) x4.toNatClampNeg) <<< ((8 : Int32) &&& 31))) x4 (0 : Int32)))))
def wN_Mm_sumOf_18 (post : Int32 → SS → AA → Prop) (S : SS) (A : AA) (x2 x3 x4 : Int32) : Prop :=
  ∀ X18 : SS → AA → Int32 → Int32 → Int32 → Prop, (∀ (S : SS) (A : AA) (x2 x3 x4 : Int32), wN_Mm_sumOf_18B post X18 S A x2 x3 x4 → X18 S A x2 x3 x4) → X18 S A x2 x3 x4
def wN_Mm_sumOf_11 (post : Int32 → SS → AA → Prop) (S : SS) (A : AA) (y0 : Int32) : Prop :=
  (wN_Mm_sumOf_18 post S A y0 (65535 : Int32) y0)
def wN_Mm_sumOf (post : Int32 → SS → AA → Prop) (S : SS) (A : AA) (x1 : Int32) : Prop :=
  ((¬ x1 = (1 : Int32) → (wN_Mm_sumOf_11 post S A (0 : Int32))) ∧ (x1 = (1 : Int32) → (wN_Mm_sumOf_11 post S A (48 : Int32))))
def wN_Mm_headerOf (post : Int32 → SS → AA → Prop) (S : SS) (A : AA) (x0 : Int32) : Prop :=
  (post ((x0 * (48 : Int32)) + (32 : Int32)) S A)
def wN_Mm_init_38 (post : SS → AA → Prop) (X14 : SS → AA → Int32 → Prop) (S : SS) (A : AA) (x1 y0 y1 : Int32) : Prop :=
  (vp_in y1 96 ∧ (X14 S (va_up A 0 (upd (A 0) y1.toNatClampNeg y0)) (x1 + (1 : Int32))))
def wN_Mm_init_14B (post : SS → AA → Prop) (X14 : SS → AA → Int32 → Prop) (S : SS) (A : AA) (x1 : Int32) : Prop :=
  (((96 : Int32) ≤ x1 → (wN_Mm_sumOf (fun r47 S47 A47 => (wN_Mm_headerOf (fun r52 S52 A52 => (vp_in r52 96 ∧ (vp_in (r52 + (1 : Int32)) 96 ∧ (vp_in (r52 + (2 : Int32)) 96 ∧ (vp_in (r52 + (3 : Int32)) 96 ∧ (post S52 (va_up (va_up (va_up (va_up A52 0 (upd (A52 0) r52.toNatClampNeg (0 : Int32))) 0 (upd (upd (A52 0) r52.toNatClampNeg (0 : Int32)) (r52 + (1 : Int32)).toNatClampNeg (1 : Int32))) 0 (upd (upd (upd (A52 0) r52.toNatClampNeg (0 : Int32)) (r52 + (1 : Int32)).toNatClampNeg (1 : Int32)) (r52 + (2 : Int32)).toNatClampNeg (r47.toUInt32 >>> ((8 : Int32).toUInt32 &&& Int32.toUInt32 31)).toInt32)) 0 (upd (upd (upd (upd (A52 0) r52.toNatClampNeg (0 : Int32)) (r52 + (1 : Int32)).toNatClampNeg (1 : Int32)) (r52 + (2 : Int32)).toNatClampNeg (r47.toUInt32 >>> ((8 : Int32).toUInt32 &&& Int32.toUInt32 31)).toInt32) (r52 + (3 : Int32)).toNatClampNeg (r47 &&& (255 : Int32)))))))))) S47 A47 (0 : Int32))) S A (0 : Int32))) ∧ (¬ (96 : Int32) ≤ x1 → (((32 : Int32) ≤ x1 → (wN_Mm_init_38 post X14 S A x1 (255 : Int32) x1)) ∧ (¬ (32 : Int32) ≤ x1 → (wN_Mm_init_38 post X14 S A x1 x1 x1)))))
def wN_Mm_init_14 (post : SS → AA → Prop) (S : SS) (A : AA) (x1 : Int32) : Prop :=
  ∀ X14 : SS → AA → Int32 → Prop, (∀ (S : SS) (A : AA) (x1 : Int32), wN_Mm_init_14B post X14 S A x1 → X14 S A x1) → X14 S A x1
def wN_Mm_init (post : SS → AA → Prop) (S : SS) (A : AA) : Prop :=
  (wN_Mm_init_14 post S A (0 : Int32))
def wX_T_init (post : SS → AA → Prop) (S : SS) (A : AA) : Prop :=
  (wX_T_boot (fun S78 A78 => (post S78 A78)) S A)
def wM_M_init_75 (post : SS → AA → Prop) (X51 : SS → AA → Int32 → Prop) (S : SS) (A : AA) (x1 y0 y1 : Int32) : Prop :=
  (vp_in y1 96 ∧ (X51 S (va_up A 0 (upd (A 0) y1.toNatClampNeg y0)) (x1 + (1 : Int32))))
def wM_M_init_51B (post : SS → AA → Prop) (X51 : SS → AA → Int32 → Prop) (S : SS) (A : AA) (x1 : Int32) : Prop :=
  (((96 : Int32) ≤ x1 → (wM_M_sumOf (fun r84 S84 A84 => (vp_in (32 : Int32) 96 ∧ (vp_in (33 : Int32) 96 ∧ (vp_in (34 : Int32) 96 ∧ (vp_in (35 : Int32) 96 ∧ (wM_M_boot (fun S129 A129 => (post (va_up S129 24 (0 : Int32)) A129)) S84 (va_up (va_up (va_up (va_up A84 0 (upd (A84 0) (32 : Int32).toNatClampNeg (0 : Int32))) 0 (upd (upd (A84 0) (32 : Int32).toNatClampNeg (0 : Int32)) (33 : Int32).toNatClampNeg (1 : Int32))) 0 (upd (upd (upd (A84 0) (32 : Int32).toNatClampNeg (0 : Int32)) (33 : Int32).toNatClampNeg (1 : Int32)) (34 : Int32).toNatClampNeg (r84 / (256 : Int32)))) 0 (upd (upd (upd (upd (A84 0) (32 : Int32).toNatClampNeg (0 : Int32)) (33 : Int32).toNatClampNeg (1 : Int32)) (34 : Int32).toNatClampNeg (r84 / (256 : Int32))) (35 : Int32).toNatClampNeg (r84 - r84 / (256 : Int32) * (256 : Int32)))))))))) S A (0 : Int32))) ∧ (¬ (96 : Int32) ≤ x1 → (((32 : Int32) ≤ x1 → (wM_M_init_75 post X51 S A x1 (255 : Int32) x1)) ∧ (¬ (32 : Int32) ≤ x1 → (wM_M_init_75 post X51 S A x1 x1 x1)))))
def wM_M_init_51 (post : SS → AA → Prop) (S : SS) (A : AA) (x1 : Int32) : Prop :=
  ∀ X51 : SS → AA → Int32 → Prop, (∀ (S : SS) (A : AA) (x1 : Int32), wM_M_init_51B post X51 S A x1 → X51 S A x1) → X51 S A x1
def wM_M_init (post : SS → AA → Prop) (S : SS) (A : AA) : Prop :=
  (wM_M_init_51 post S A (0 : Int32))
end
section
def wL_law_265 (L : Nat) (xs : Nat → Int32) (X18 : SS → AA → SS → AA → Int32 → Prop) (S : SS) (A : AA) (T : SS) (B : AA) (x3 : Int32) : Prop :=
  (X18 S A T B (x3 + (3 : Int32)))
def wL_law_18B (L : Nat) (xs : Nat → Int32) (X18 : SS → AA → SS → AA → Int32 → Prop) (S : SS) (A : AA) (T : SS) (B : AA) (x3 : Int32) : Prop :=
  ((((Int32.ofNat L) - (3 : Int32)) < x3 → ((1 : Int32) = 1)) ∧ (¬ ((Int32.ofNat L) - (3 : Int32)) < x3 → (vp_in x3 L ∧ ((((xs x3.toNatClampNeg) &&& (15 : Int32)) = (0 : Int32) → (vp_in (x3 + (1 : Int32)) L ∧ (vp_in (x3 + (2 : Int32)) L ∧ (wX_T_frame (fun r95 S95 A95 => (vp_in (x3 + (1 : Int32)) L ∧ (vp_in (x3 + (2 : Int32)) L ∧ (wM_M_frame (fun r109 T109 B109 => ((r95 = r109 → (wL_law_265 L xs X18 S95 A95 T109 B109 x3)) ∧ (¬ r95 = r109 → ((0 : Int32) = 1)))) T B (xs (x3 + (1 : Int32)).toNatClampNeg) (xs (x3 + (2 : Int32)).toNatClampNeg))))) S A (xs (x3 + (1 : Int32)).toNatClampNeg) (xs (x3 + (2 : Int32)).toNatClampNeg))))) ∧ (¬ ((xs x3.toNatClampNeg) &&& (15 : Int32)) = (0 : Int32) → ((((xs x3.toNatClampNeg) &&& (15 : Int32)) = (1 : Int32) → (vp_in (x3 + (1 : Int32)) L ∧ (wX_T_peek (fun r123 S123 A123 => (vp_in (x3 + (1 : Int32)) L ∧ (wM_M_peek (fun r132 T132 B132 => ((r123 = r132 → (wL_law_265 L xs X18 S123 A123 T132 B132 x3)) ∧ (¬ r123 = r132 → ((0 : Int32) = 1)))) T B (xs (x3 + (1 : Int32)).toNatClampNeg)))) S A (xs (x3 + (1 : Int32)).toNatClampNeg)))) ∧ (¬ ((xs x3.toNatClampNeg) &&& (15 : Int32)) = (1 : Int32) → ((((xs x3.toNatClampNeg) &&& (15 : Int32)) = (2 : Int32) → (wX_T_take (fun r141 S141 A141 => (wM_M_take (fun r145 T145 B145 => ((r141 = r145 → (wL_law_265 L xs X18 S141 A141 T145 B145 x3)) ∧ (¬ r141 = r145 → ((0 : Int32) = 1)))) T B)) S A)) ∧ (¬ ((xs x3.toNatClampNeg) &&& (15 : Int32)) = (2 : Int32) → ((((xs x3.toNatClampNeg) &&& (15 : Int32)) = (3 : Int32) → (wX_T_tick (fun S154 A154 => (wM_M_tick (fun T158 B158 => (wL_law_265 L xs X18 S154 A154 T158 B158 x3)) T B)) S A)) ∧ (¬ ((xs x3.toNatClampNeg) &&& (15 : Int32)) = (3 : Int32) → ((((xs x3.toNatClampNeg) &&& (15 : Int32)) = (4 : Int32) → (vp_in (x3 + (1 : Int32)) L ∧ (wX_T_cut (fun S170 A170 => (vp_in (x3 + (1 : Int32)) L ∧ (wM_M_cut (fun T179 B179 => (wL_law_265 L xs X18 S170 A170 T179 B179 x3)) T B (xs (x3 + (1 : Int32)).toNatClampNeg)))) S A (xs (x3 + (1 : Int32)).toNatClampNeg)))) ∧ (¬ ((xs x3.toNatClampNeg) &&& (15 : Int32)) = (4 : Int32) → ((((xs x3.toNatClampNeg) &&& (15 : Int32)) = (5 : Int32) → (wX_T_restart (fun S186 A186 => (wM_M_restart (fun T190 B190 => (wL_law_265 L xs X18 S186 A186 T190 B190 x3)) T B)) S A)) ∧ (¬ ((xs x3.toNatClampNeg) &&& (15 : Int32)) = (5 : Int32) → ((((xs x3.toNatClampNeg) &&& (15 : Int32)) = (6 : Int32) → (vp_in (x3 + (1 : Int32)) L ∧ (wX_T_flash (fun r202 S202 A202 => (vp_in (x3 + (1 : Int32)) L ∧ (wM_M_flash (fun r211 T211 B211 => ((r202 = r211 → (wL_law_265 L xs X18 S202 A202 T211 B211 x3)) ∧ (¬ r202 = r211 → ((0 : Int32) = 1)))) T B (xs (x3 + (1 : Int32)).toNatClampNeg)))) S A (xs (x3 + (1 : Int32)).toNatClampNeg)))) ∧ (¬ ((xs x3.toNatClampNeg) &&& (15 : Int32)) = (6 : Int32) → ((((xs x3.toNatClampNeg) &&& (15 : Int32)) = (7 : Int32) → (vp_in (x3 + (1 : Int32)) L ∧ (wX_T_word (fun r225 S225 A225 => (vp_in (x3 + (1 : Int32)) L ∧ (wM_M_word (fun r234 T234 B234 => ((r225 = r234 → (wL_law_265 L xs X18 S225 A225 T234 B234 x3)) ∧ (¬ r225 = r234 → ((0 : Int32) = 1)))) T B (xs (x3 + (1 : Int32)).toNatClampNeg)))) S A (xs (x3 + (1 : Int32)).toNatClampNeg)))) ∧ (¬ ((xs x3.toNatClampNeg) &&& (15 : Int32)) = (7 : Int32) → ((((xs x3.toNatClampNeg) &&& (15 : Int32)) = (8 : Int32) → (vp_in (x3 + (1 : Int32)) L ∧ (wX_T_state (fun r248 S248 A248 => (vp_in (x3 + (1 : Int32)) L ∧ (wM_M_state (fun r257 T257 B257 => ((r248 = r257 → (wL_law_265 L xs X18 S248 A248 T257 B257 x3)) ∧ (¬ r248 = r257 → ((0 : Int32) = 1)))) T B (xs (x3 + (1 : Int32)).toNatClampNeg)))) S A (xs (x3 + (1 : Int32)).toNatClampNeg)))) ∧ (¬ ((xs x3.toNatClampNeg) &&& (15 : Int32)) = (8 : Int32) → (wL_law_265 L xs X18 S A T B x3))))))))))))))))))))))
def wL_law_18 (L : Nat) (xs : Nat → Int32) (S : SS) (A : AA) (T : SS) (B : AA) (x3 : Int32) : Prop :=
  ∀ X18 : SS → AA → SS → AA → Int32 → Prop, (∀ (S : SS) (A : AA) (T : SS) (B : AA) (x3 : Int32), wL_law_18B L xs X18 S A T B x3 → X18 S A T B x3) → X18 S A T B x3
def wL_law (L : Nat) (xs : Nat → Int32) (S : SS) (A : AA) (T : SS) (B : AA) : Prop :=
  (wL_law_18 L xs S A T B (0 : Int32))
end
section
def bt (x : Int32) (i : Nat) : Bool := x.toBitVec.getLsbD i
theorem b_ext {x y : Int32} (h : ∀ i, i < 32 → bt x i = bt y i) : x = y := Int32.toBitVec_inj.mp (BitVec.eq_of_getLsbD_eq (fun i hi => h i hi))
theorem b_or (x y : Int32) (i : Nat) : bt (x ||| y) i = (bt x i || bt y i) := by unfold bt; rw [Int32.toBitVec_or, BitVec.getLsbD_or]
theorem b_and (x y : Int32) (i : Nat) : bt (x &&& y) i = (bt x i && bt y i) := by unfold bt; rw [Int32.toBitVec_and, BitVec.getLsbD_and]
theorem b_xor (x y : Int32) (i : Nat) : bt (x ^^^ y) i = (bt x i ^^ bt y i) := by unfold bt; rw [Int32.toBitVec_xor, BitVec.getLsbD_xor]
theorem b_big {x : Int32} {i : Nat} (h : 32 ≤ i) : bt x i = false := BitVec.getLsbD_of_ge _ _ h
theorem b_255 (i : Nat) : bt 255 i = decide (i < 8) := by
  rcases Nat.lt_or_ge i 32 with h | h
  · exact (by decide +kernel : ∀ i, i < 32 → bt 255 i = decide (i < 8)) i h
  · rw [b_big h, decide_eq_false (by omega)]
theorem b_65535 (i : Nat) : bt 65535 i = decide (i < 16) := by
  rcases Nat.lt_or_ge i 32 with h | h
  · exact (by decide +kernel : ∀ i, i < 32 → bt 65535 i = decide (i < 16)) i h
  · rw [b_big h, decide_eq_false (by omega)]
theorem b_m1 : ∀ i, i < 32 → bt (-1) i = true := by decide +kernel
theorem b_0 (i : Nat) : bt 0 i = false := BitVec.getLsbD_zero
theorem s_l : ∀ n, n < 32 → ((nI n &&& 31).toBitVec.smod 32).toNat = n := by decide +kernel
theorem s_u : ∀ n, n < 32 → (((nI n).toUInt32 &&& Int32.toUInt32 31).toBitVec % 32).toNat = n := by decide +kernel
theorem b_shl (n : Nat) (hn : n < 32) (x : Int32) {i : Nat} (hi : i < 32) : bt (x <<< (nI n &&& 31)) i = (decide (n ≤ i) && bt x (i - n)) := by
  unfold bt
  rw [Int32.toBitVec_shiftLeft]
  show (x.toBitVec <<< ((nI n &&& 31).toBitVec.smod 32).toNat).getLsbD i = _
  rw [s_l n hn, BitVec.getLsbD_shiftLeft]
  rcases Nat.lt_or_ge i n with h | h
  · simp [h, Nat.not_le.mpr h]
  · simp [hi, h, Nat.not_lt.mpr h]
theorem b_ushr (n : Nat) (hn : n < 32) (x : Int32) (i : Nat) : bt ((x.toUInt32 >>> ((nI n).toUInt32 &&& Int32.toUInt32 31)).toInt32) i = bt x (n + i) := by
  show (x.toUInt32 >>> ((nI n).toUInt32 &&& Int32.toUInt32 31)).toBitVec.getLsbD i = x.toUInt32.toBitVec.getLsbD (n + i)
  rw [UInt32.toBitVec_shiftRight]
  show (x.toUInt32.toBitVec >>> (((nI n).toUInt32 &&& Int32.toUInt32 31).toBitVec % 32).toNat).getLsbD i = _
  rw [s_u n hn, BitVec.getLsbD_ushiftRight]
theorem b_sshr (n : Nat) (hn : n < 32) (x : Int32) {i : Nat} (hi : i < 32) : bt (x >>> (nI n &&& 31)) i = if n + i < 32 then bt x (n + i) else bt x 31 := by
  unfold bt
  rw [Int32.toBitVec_shiftRight]
  show (x.toBitVec.sshiftRight ((nI n &&& 31).toBitVec.smod 32).toNat).getLsbD i = _
  rw [s_l n hn, BitVec.getLsbD_sshiftRight, BitVec.msb_eq_getLsbD_last]
  simp [hi]
theorem b_shl8 (x : Int32) {i : Nat} (hi : i < 32) : bt (x <<< ((8 : Int32) &&& 31)) i = (decide (8 ≤ i) && bt x (i - 8)) := b_shl 8 (by omega) x hi
theorem b_shl16 (x : Int32) {i : Nat} (hi : i < 32) : bt (x <<< ((16 : Int32) &&& 31)) i = (decide (16 ≤ i) && bt x (i - 16)) := b_shl 16 (by omega) x hi
theorem b_shl24 (x : Int32) {i : Nat} (hi : i < 32) : bt (x <<< ((24 : Int32) &&& 31)) i = (decide (24 ≤ i) && bt x (i - 24)) := b_shl 24 (by omega) x hi
theorem b_sshr8 (x : Int32) {i : Nat} (hi : i < 32) : bt (x >>> ((8 : Int32) &&& 31)) i = if 8 + i < 32 then bt x (8 + i) else bt x 31 := b_sshr 8 (by omega) x hi
/-! ===== nI under and, xor, >>>, one bit, 65535 ===== -/
theorem nx_and (a b : Nat) : nI a &&& nI b = nI (a &&& b) := by
  apply Int32.toBitVec_inj.1
  show BitVec.ofNat 32 a &&& BitVec.ofNat 32 b = BitVec.ofNat 32 (a &&& b)
  apply BitVec.eq_of_getLsbD_eq
  intro i hi
  simp [hi]
theorem nx_xor (a b : Nat) : nI a ^^^ nI b = nI (a ^^^ b) := by
  apply Int32.toBitVec_inj.1
  show BitVec.ofNat 32 a ^^^ BitVec.ofNat 32 b = BitVec.ofNat 32 (a ^^^ b)
  apply BitVec.eq_of_getLsbD_eq
  intro i hi
  simp [hi]
theorem nx_mod (k : Nat) : nI k &&& 65535 = nI (k % 65536) := by
  show nI k &&& nI 65535 = _
  rw [nx_and, show (65535 : Nat) = 2 ^ 16 - 1 from rfl, Nat.and_two_pow_sub_one_eq_mod]
/-! numbers: literals are nI of their numerals -/
theorem pz_add (a b : Nat) : nI a + nI b = nI (a + b) := nI_add a b
theorem pz_inc (a : Nat) : nI a + (1 : Int32) = nI (a + 1) := nI_add a 1
theorem pz_le {a b : Nat} (ha : a < 2 ^ 31) (hb : b < 2 ^ 31) : nI a ≤ nI b ↔ a ≤ b := nI_leI ha hb
theorem pz_lt {a b : Nat} (ha : a < 2 ^ 31) (hb : b < 2 ^ 31) : nI a < nI b ↔ a < b := nI_ltI ha hb
theorem pz_up {α : Type} (f : Nat → α) (k : Nat) : va_up f k (f k) = f := by
  funext j
  unfold va_up
  split
  · next h => rw [h]
  · rfl
theorem pz_upd (f : Nat → Int32) (k : Nat) : upd f k (f k) = f := by
  funext j
  unfold upd
  split
  · next h => rw [h]
  · rfl
theorem pz_updd (f : Nat → Int32) (k : Nat) (x y : Int32) : upd (upd f k x) k y = upd f k y := by
  funext j
  unfold upd
  split <;> rfl
theorem pz_upup {α : Type} (f : Nat → α) (k : Nat) (x y : α) : va_up (va_up f k x) k y = va_up f k y := by
  funext j
  unfold va_up
  split <;> rfl
theorem pz_us {α : Type} (f : Nat → α) (k : Nat) (x : α) : va_up f k x k = x := va_up_self f k x
theorem pz_un {α : Type} (f : Nat → α) {k j : Nat} (x : α) (h : j ≠ k) : va_up f k x j = f j := va_up_ne f x h
/-- all of it are bytes -/
def by8 (f : Nat → Int32) : Prop := ∀ i : Nat, ∃ b : Nat, b < 256 ∧ f i = nI b
theorem by8_upd {f : Nat → Int32} (h : by8 f) {k b : Nat} {x : Int32} (hb : b < 256) (hx : x = nI b) : by8 (upd f k x) := by
  intro i
  unfold upd
  split
  · exact ⟨b, hb, hx⟩
  · exact h i
/-! the sum -/
def stp (x : Int32) : Int32 := if x < 32768 then x * 2 else (x * 2 - 65536) ^^^ 4129
def crc8 (x : Int32) : Nat → Int32
  | 0 => x
  | n + 1 => stp (crc8 x n)
def sumF (f : Nat → Int32) (base : Nat) : Nat → Int32
  | 0 => 65535
  | n + 1 => crc8 (sumF f base n ^^^ (f (base + n) * 256)) 8
theorem stp_lo {x : Int32} (h : x < 32768) : stp x = x * 2 := if_pos h
theorem stp_hi {x : Int32} (h : ¬ x < 32768) : stp x = (x * 2 - 65536) ^^^ 4129 := if_neg h
/-- one step keeps 16 bits -/
theorem stp_in {n : Nat} (h : n < 65536) : ∃ k : Nat, k < 65536 ∧ stp (nI n) = nI k := by
  rcases Nat.lt_or_ge n 32768 with hn | hn
  · refine ⟨2 * n, by omega, ?_⟩
    rw [stp_lo (show nI n < (32768 : Int32) from (pz_lt (b := 32768) (by omega) (by decide)).mpr hn)]
    rw [show nI n * (2 : Int32) = nI (n * 2) from pk_mul n 2, Nat.mul_comm]
  · refine ⟨(2 * n - 65536) ^^^ 4129, ?_, ?_⟩
    · exact Nat.xor_lt_two_pow (n := 16) (by omega) (by decide)
    · rw [stp_hi (fun q => absurd ((pz_lt (b := 32768) (by omega) (by decide)).mp q) (by omega))]
      rw [show nI n * (2 : Int32) = nI (n * 2) from pk_mul n 2, Nat.mul_comm]
      rw [show nI (2 * n) - (65536 : Int32) = nI (2 * n - 65536) from pk_sub (b := 65536) (by omega)]
      exact nx_xor _ 4129
theorem crc8_in {n : Nat} (h : n < 65536) : ∀ j : Nat, ∃ k : Nat, k < 65536 ∧ crc8 (nI n) j = nI k := by
  intro j
  induction j with
  | zero => exact ⟨n, h, rfl⟩
  | succ j ih =>
    obtain ⟨k, hk, e⟩ := ih
    obtain ⟨k2, hk2, e2⟩ := stp_in hk
    exact ⟨k2, hk2, by show stp (crc8 (nI n) j) = _; rw [e, e2]⟩
theorem byte256 {b : Nat} : nI b * (256 : Int32) = nI (b * 256) := pk_mul b 256
theorem sumF_in {f : Nat → Int32} (hf : by8 f) (base : Nat) : ∀ k : Nat, ∃ n : Nat, n < 65536 ∧ sumF f base k = nI n := by
  intro k
  induction k with
  | zero => exact ⟨65535, by decide, rfl⟩
  | succ k ih =>
    obtain ⟨n, hn, e⟩ := ih
    obtain ⟨b, hb, eb⟩ := hf (base + k)
    have h1 : sumF f base k ^^^ (f (base + k) * 256) = nI (n ^^^ (b * 256)) := by rw [e, eb, byte256]; exact nx_xor _ _
    have h2 : n ^^^ (b * 256) < 65536 := Nat.xor_lt_two_pow (n := 16) hn (by omega)
    obtain ⟨m, hm, em⟩ := crc8_in h2 8
    exact ⟨m, hm, by show crc8 _ 8 = _; rw [h1, em]⟩
/-- the program's step is the reference's -/
theorem stp_X {n : Nat} (h : n < 65536) : ((nI n &&& (32768 : Int32)) = 0 → stp (nI n) = (nI n <<< ((1 : Int32) &&& 31)) &&& (65535 : Int32)) ∧ (¬ (nI n &&& (32768 : Int32)) = 0 → stp (nI n) = ((nI n <<< ((1 : Int32) &&& 31)) &&& (65535 : Int32)) ^^^ (4129 : Int32)) := by
  have hs : nI n <<< ((1 : Int32) &&& 31) = nI (n * 2) := pk_shlN (n := n) ((1 : Int32) &&& 31) 1 (by decide +kernel) (by omega)
  have hm : nI (n * 2) &&& (65535 : Int32) = nI (n * 2 % 65536) := nx_mod (n * 2)
  have ha : nI n &&& (32768 : Int32) = nI (n &&& 32768) := nx_and n 32768
  have hb : n &&& 32768 = if n < 32768 then 0 else 32768 := by
    apply Nat.eq_of_testBit_eq
    intro i
    rw [Nat.testBit_and]
    by_cases hi : i = 15
    · subst hi
      split
      · next hn => rw [Nat.testBit_lt_two_pow (x := n) (i := 15) hn]; rfl
      · next hn =>
        have : n.testBit 15 = true := by
          rw [Nat.testBit_eq_decide_div_mod_eq]
          simp only [decide_eq_true_eq]
          omega
        rw [this]; rfl
    · have h1 : (32768 : Nat).testBit i = false := by
        rw [show (32768 : Nat) = 2 ^ 15 from rfl, Nat.testBit_two_pow]
        exact decide_eq_false (fun q => hi q.symm)
      rw [h1, Bool.and_false]
      split
      · exact (Nat.zero_testBit i).symm
      · exact h1.symm
  rw [hs, hm, ha, hb]
  constructor
  · intro hz
    by_cases hn : n < 32768
    · rw [stp_lo (show nI n < (32768 : Int32) from (pz_lt (b := 32768) (by omega) (by decide)).mpr hn), show nI n * (2 : Int32) = nI (n * 2) from pk_mul n 2, Nat.mod_eq_of_lt (by omega)]
    · rw [if_neg hn] at hz
      exact absurd hz (by decide +kernel)
  · intro hz
    by_cases hn : n < 32768
    · rw [if_pos hn] at hz
      exact absurd rfl hz
    · rw [stp_hi (fun q => absurd ((pz_lt (b := 32768) (by omega) (by decide)).mp q) (by omega)), show nI n * (2 : Int32) = nI (n * 2) from pk_mul n 2, show nI (n * 2) - (65536 : Int32) = nI (n * 2 - 65536) from pk_sub (b := 65536) (by omega), show n * 2 % 65536 = n * 2 - 65536 by omega]
theorem shl8_X {b : Nat} (h : b < 256) : nI b <<< ((8 : Int32) &&& 31) = nI b * (256 : Int32) := by
  rw [byte256]
  exact pk_shlN (n := b) ((8 : Int32) &&& 31) 8 (by decide +kernel) (by omega)
/-- the reference's sum -/
theorem hM_sumOf {post : Int32 → SS → AA → Prop} {T : SS} {B : AA} {s0 : Nat} (hs : s0 ≤ 1) (hp : post (sumF (B 0) (48 * s0) 32) T B) : wM_M_sumOf post T B (nI s0) := by
  unfold wM_M_sumOf wM_M_sumOf_8
  intro X8 hX8
  have e48 : (48 : Int32) * nI s0 = nI (48 * s0) := pk_mul 48 s0
  have e32 : nI (48 * s0) + (32 : Int32) = nI (48 * s0 + 32) := nI_add _ 32
  have key : ∀ n k : Nat, k + n = 32 → X8 T B (nI s0) (sumF (B 0) (48 * s0) k) (nI (48 * s0 + k)) := by
    intro n
    induction n with
    | zero =>
      intro k hk
      have hk : k = 32 := by omega
      subst hk
      apply hX8
      unfold wM_M_sumOf_8B
      rw [e48, e32]
      exact ⟨fun _ => hp, fun h => absurd (Int32.le_refl _) h⟩
    | succ n ih =>
      intro k hk
      apply hX8
      unfold wM_M_sumOf_8B
      rw [e48, e32, nI_clamp (by omega)]
      refine ⟨fun h => absurd h (nI_ge (by omega) (by omega)), fun _ => ⟨vp_in_nI (by omega) (by decide), ?_⟩⟩
      unfold wM_M_sumOf_35
      intro X35 hX35
      have key2 : ∀ m j : Nat, j + m = 8 → X35 T B (nI s0) (crc8 (sumF (B 0) (48 * s0) k ^^^ (B 0 (48 * s0 + k) * 256)) j) (nI (48 * s0 + k)) (nI j) := by
        intro m
        induction m with
        | zero =>
          intro j hj
          have hj : j = 8 := by omega
          subst hj
          apply hX35
          unfold wM_M_sumOf_35B
          refine ⟨fun _ => ?_, fun h => absurd (show (8 : Int32) ≤ nI 8 from Int32.le_refl _) h⟩
          have h2 := ih (k + 1) (by omega)
          rw [pz_inc]
          exact h2
        | succ m ihm =>
          intro j hj
          apply hX35
          unfold wM_M_sumOf_35B wM_M_sumOf_64
          have h2 := ihm (j + 1) (by omega)
          rw [pz_inc j]
          refine ⟨fun h => absurd h (nI_ge (b := 8) (by omega) (by decide)), fun _ => ⟨fun h => ?_, fun h => ?_⟩⟩
          · rw [show crc8 (sumF (B 0) (48 * s0) k ^^^ (B 0 (48 * s0 + k) * 256)) (j + 1) = stp (crc8 (sumF (B 0) (48 * s0) k ^^^ (B 0 (48 * s0 + k) * 256)) j) from rfl, stp_lo h] at h2
            exact h2
          · rw [show crc8 (sumF (B 0) (48 * s0) k ^^^ (B 0 (48 * s0 + k) * 256)) (j + 1) = stp (crc8 (sumF (B 0) (48 * s0) k ^^^ (B 0 (48 * s0 + k) * 256)) j) from rfl, stp_hi h] at h2
            exact h2
      exact key2 8 0 rfl
  have h0 := key 32 0 rfl
  rw [e48]
  exact h0
/-- the program's sum (X) -/
theorem hX_sumOf {post : Int32 → SS → AA → Prop} {S : SS} {A : AA} (hA : by8 (A 0)) {s0 : Nat} (hs : s0 ≤ 1) (hp : post (sumF (A 0) (48 * s0) 32) S A) : wX_Mm_sumOf post S A (nI s0) := by
  have main : ∀ base : Nat, base ≤ 48 → post (sumF (A 0) base 32) S A → wX_Mm_sumOf_11 post S A (nI base) := by
    intro base hb hp
    unfold wX_Mm_sumOf_11 wX_Mm_sumOf_18
    intro X18 hX18
    have e32 : nI base + (32 : Int32) = nI (base + 32) := nI_add _ 32
    have key : ∀ n k : Nat, k + n = 32 → X18 S A (nI base) (sumF (A 0) base k) (nI (base + k)) := by
      intro n
      induction n with
      | zero =>
        intro k hk
        have hk : k = 32 := by omega
        subst hk
        apply hX18
        unfold wX_Mm_sumOf_18B
        rw [e32]
        exact ⟨fun _ => hp, fun h => absurd (Int32.le_refl _) h⟩
      | succ n ih =>
        intro k hk
        apply hX18
        unfold wX_Mm_sumOf_18B
        rw [e32, nI_clamp (by omega)]
        refine ⟨fun h => absurd h (nI_ge (by omega) (by omega)), fun _ => ⟨vp_in_nI (by omega) (by decide), ?_⟩⟩
        unfold wX_Mm_sumOf_43
        intro X43 hX43
        obtain ⟨b, hb8, eb⟩ := hA (base + k)
        obtain ⟨v, hv, ev⟩ := sumF_in hA base k
        have h8 : A 0 (base + k) <<< ((8 : Int32) &&& 31) = A 0 (base + k) * 256 := by rw [eb]; exact shl8_X hb8
        rw [h8]
        have hy : sumF (A 0) base k ^^^ (A 0 (base + k) * 256) = nI (v ^^^ (b * 256)) := by rw [ev, eb, byte256]; exact nx_xor _ _
        have hyl : v ^^^ (b * 256) < 65536 := Nat.xor_lt_two_pow (n := 16) hv (by omega)
        have key2 : ∀ m j : Nat, j + m = 8 → X43 S A (nI base) (crc8 (sumF (A 0) base k ^^^ (A 0 (base + k) * 256)) j) (nI (base + k)) (nI j) := by
          intro m
          induction m with
          | zero =>
            intro j hj
            have hj : j = 8 := by omega
            subst hj
            apply hX43
            unfold wX_Mm_sumOf_43B
            refine ⟨fun _ => ?_, fun h => absurd (show (8 : Int32) ≤ nI 8 from Int32.le_refl _) h⟩
            have h2 := ih (k + 1) (by omega)
            rw [pz_inc]
            exact h2
          | succ m ihm =>
            intro j hj
            apply hX43
            unfold wX_Mm_sumOf_43B wX_Mm_sumOf_76
            have h2 := ihm (j + 1) (by omega)
            obtain ⟨u, hu, eu⟩ := crc8_in hyl j
            have e1 : crc8 (sumF (A 0) base k ^^^ (A 0 (base + k) * 256)) j = nI u := by rw [hy]; exact eu
            rw [show crc8 (sumF (A 0) base k ^^^ (A 0 (base + k) * 256)) (j + 1) = stp (crc8 (sumF (A 0) base k ^^^ (A 0 (base + k) * 256)) j) from rfl, e1] at h2
            rw [e1, pz_inc j]
            refine ⟨fun h => absurd h (nI_ge (b := 8) (by omega) (by decide)), fun _ => ⟨fun h => ?_, fun h => ?_⟩⟩
            · rw [(stp_X hu).1 h] at h2
              exact h2
            · rw [(stp_X hu).2 h] at h2
              exact h2
        exact key2 8 0 rfl
    exact key 32 0 rfl
  unfold wX_Mm_sumOf
  rcases (show s0 = 0 ∨ s0 = 1 by omega) with rfl | rfl
  · exact ⟨fun _ => main 0 (by decide) hp, fun h => absurd h (by decide)⟩
  · exact ⟨fun h => absurd rfl h, fun _ => main 48 (by decide) hp⟩
/-- the program's sum (N) -/
theorem hN_sumOf {post : Int32 → SS → AA → Prop} {S : SS} {A : AA} (hA : by8 (A 0)) {s0 : Nat} (hs : s0 ≤ 1) (hp : post (sumF (A 0) (48 * s0) 32) S A) : wN_Mm_sumOf post S A (nI s0) := by
  have main : ∀ base : Nat, base ≤ 48 → post (sumF (A 0) base 32) S A → wN_Mm_sumOf_11 post S A (nI base) := by
    intro base hb hp
    unfold wN_Mm_sumOf_11 wN_Mm_sumOf_18
    intro X18 hX18
    have e32 : nI base + (32 : Int32) = nI (base + 32) := nI_add _ 32
    have key : ∀ n k : Nat, k + n = 32 → X18 S A (nI base) (sumF (A 0) base k) (nI (base + k)) := by
      intro n
      induction n with
      | zero =>
        intro k hk
        have hk : k = 32 := by omega
        subst hk
        apply hX18
        unfold wN_Mm_sumOf_18B
        rw [e32]
        exact ⟨fun _ => hp, fun h => absurd (Int32.le_refl _) h⟩
      | succ n ih =>
        intro k hk
        apply hX18
        unfold wN_Mm_sumOf_18B
        rw [e32, nI_clamp (by omega)]
        refine ⟨fun h => absurd h (nI_ge (by omega) (by omega)), fun _ => ⟨vp_in_nI (by omega) (by decide), ?_⟩⟩
        unfold wN_Mm_sumOf_43
        intro X43 hX43
        obtain ⟨b, hb8, eb⟩ := hA (base + k)
        obtain ⟨v, hv, ev⟩ := sumF_in hA base k
        have h8 : A 0 (base + k) <<< ((8 : Int32) &&& 31) = A 0 (base + k) * 256 := by rw [eb]; exact shl8_X hb8
        rw [h8]
        have hy : sumF (A 0) base k ^^^ (A 0 (base + k) * 256) = nI (v ^^^ (b * 256)) := by rw [ev, eb, byte256]; exact nx_xor _ _
        have hyl : v ^^^ (b * 256) < 65536 := Nat.xor_lt_two_pow (n := 16) hv (by omega)
        have key2 : ∀ m j : Nat, j + m = 8 → X43 S A (nI base) (crc8 (sumF (A 0) base k ^^^ (A 0 (base + k) * 256)) j) (nI (base + k)) (nI j) := by
          intro m
          induction m with
          | zero =>
            intro j hj
            have hj : j = 8 := by omega
            subst hj
            apply hX43
            unfold wN_Mm_sumOf_43B
            refine ⟨fun _ => ?_, fun h => absurd (show (8 : Int32) ≤ nI 8 from Int32.le_refl _) h⟩
            have h2 := ih (k + 1) (by omega)
            rw [pz_inc]
            exact h2
          | succ m ihm =>
            intro j hj
            apply hX43
            unfold wN_Mm_sumOf_43B wN_Mm_sumOf_76
            have h2 := ihm (j + 1) (by omega)
            obtain ⟨u, hu, eu⟩ := crc8_in hyl j
            have e1 : crc8 (sumF (A 0) base k ^^^ (A 0 (base + k) * 256)) j = nI u := by rw [hy]; exact eu
            rw [show crc8 (sumF (A 0) base k ^^^ (A 0 (base + k) * 256)) (j + 1) = stp (crc8 (sumF (A 0) base k ^^^ (A 0 (base + k) * 256)) j) from rfl, e1] at h2
            rw [e1, pz_inc j]
            refine ⟨fun h => absurd h (nI_ge (b := 8) (by omega) (by decide)), fun _ => ⟨fun h => ?_, fun h => ?_⟩⟩
            · rw [(stp_X hu).1 h] at h2
              exact h2
            · rw [(stp_X hu).2 h] at h2
              exact h2
        exact key2 8 0 rfl
    exact key 32 0 rfl
  unfold wN_Mm_sumOf
  rcases (show s0 = 0 ∨ s0 = 1 by omega) with rfl | rfl
  · exact ⟨fun _ => main 0 (by decide) hp, fun h => absurd h (by decide)⟩
  · exact ⟨fun h => absurd rfl h, fun _ => main 48 (by decide) hp⟩
/-! a byte that is changed, bit by bit, under an ordered cut or not -/
/-- which bits may change: of the k-th byte of a writing -/
def mk8 (o num : Int32) (k : Nat) : Int32 := if o = 0 then 255 else (num.toUInt32 >>> ((nI (8 * (k % 4))).toUInt32 &&& Int32.toUInt32 31)).toInt32
def chg (o num : Int32) (k : Nat) (c a : Int32) : Int32 := c ^^^ ((c ^^^ a) &&& mk8 o num k)
theorem bt_nI {b : Nat} (hb : b < 256) {i : Nat} (hi : 8 ≤ i) : bt (nI b) i = false := by
  unfold bt
  show (BitVec.ofNat 32 b).getLsbD i = false
  rw [BitVec.getLsbD_ofNat]
  have : b.testBit i = false := Nat.testBit_lt_two_pow (Nat.lt_of_lt_of_le hb (by
    have := Nat.pow_le_pow_right (n := 2) (by decide) hi
    omega))
  rw [this, Bool.and_false]
theorem bt_1 : ∀ i, i < 32 → bt 1 i = decide (i = 0) := by decide +kernel
/-- a number whose bits from 8 on are none is a byte -/
theorem byte_of {x : Int32} (h : ∀ i, 8 ≤ i → i < 32 → bt x i = false) : ∃ b : Nat, b < 256 ∧ x = nI b := by
  refine ⟨x.toBitVec.toNat % 256, Nat.mod_lt _ (by decide), ?_⟩
  have e : x &&& 255 = nI (x.toBitVec.toNat % 2 ^ 8) := pk_and x 8 (by decide +kernel)
  have e2 : x &&& 255 = x := by
    apply b_ext
    intro i hi
    rw [b_and, b_255]
    rcases Nat.lt_or_ge i 8 with h8 | h8
    · simp [h8]
    · rw [h i h8 hi, Bool.false_and]
  exact e2.symm.trans e
theorem chg_byte {o num : Int32} {k c a : Nat} (hc : c < 256) (ha : a < 256) : ∃ b : Nat, b < 256 ∧ chg o num k (nI c) (nI a) = nI b := by
  apply byte_of
  intro i h8 hi
  unfold chg
  rw [b_xor, b_and, b_xor, bt_nI hc h8, bt_nI ha h8]
  rfl
/-- one bit of a number, as the reference takes it -/
theorem bit_s (x : Int32) {b : Nat} (hb : b < 32) : (x >>> (nI b &&& 31)) &&& (1 : Int32) = if bt x b then 1 else 0 := by
  apply b_ext
  intro i hi
  rw [b_and, b_sshr b hb x hi, bt_1 i hi]
  by_cases h0 : i = 0
  · subst h0
    have : b + 0 < 32 := by omega
    rw [if_pos this, Nat.add_zero]
    cases bt x b <;> rfl
  · rw [decide_eq_false h0, Bool.and_false]
    split
    · rw [bt_1 i hi, decide_eq_false h0]
    · exact (b_0 i).symm
theorem bit_u (x : Int32) {n : Nat} (hn : n < 32) : (x.toUInt32 >>> ((nI n).toUInt32 &&& Int32.toUInt32 31)).toInt32 &&& (1 : Int32) = if bt x n then 1 else 0 := by
  apply b_ext
  intro i hi
  rw [b_and, b_ushr n hn x i, bt_1 i hi]
  by_cases h0 : i = 0
  · subst h0
    rw [Nat.add_zero]
    cases bt x n <;> rfl
  · rw [decide_eq_false h0, Bool.and_false]
    split
    · rw [bt_1 i hi, decide_eq_false h0]
    · exact (b_0 i).symm
theorem bt_mk8 (o num : Int32) (k : Nat) {i : Nat} (hi : i < 8) : bt (mk8 o num k) i = if o = 0 then true else bt num (8 * (k % 4) + i) := by
  unfold mk8
  split
  · rw [b_255]; exact decide_eq_true hi
  · exact b_ushr _ (by omega) num i
/-- the program's change -/
theorem hX_change {post : SS → AA → Prop} {S : SS} {A : AA} {at0 k0 : Nat} {v : Int32} (hat : at0 < 96) (hk : k0 < 2 ^ 20) (hp : post S (va_up A 0 (upd (A 0) at0 (chg (S 5) (S 6) k0 (A 0 at0) v)))) : wX_Mm_change post S A (nI at0) (nI k0) v := by
  unfold wX_Mm_change wX_Mm_change_24
  have hi : vp_in (nI at0) 96 := vp_in_nI hat (by decide)
  have hs : (8 : Int32) * (nI k0 &&& (3 : Int32)) = nI (8 * (k0 % 4)) := by
    rw [show nI k0 &&& (3 : Int32) = nI (k0 % 2 ^ 2) from pk_andN (by omega) 2 (by decide +kernel)]
    exact pk_mul 8 _
  rw [nI_clamp (by omega), hs]
  refine ⟨fun h => ⟨hi, hi, hi, ?_⟩, fun h => ⟨hi, hi, hi, ?_⟩⟩
  · rw [chg, mk8, if_pos h] at hp
    exact hp
  · rw [chg, mk8, if_neg h] at hp
    exact hp
/-- the reference's change, bit by bit -/
theorem hM_change {post : SS → AA → Prop} {T : SS} {B : AA} {at0 k0 v0 : Nat} (hat : at0 < 96) (hk : k0 < 2 ^ 20) (hv : v0 < 256) (hB : by8 (B 0)) (hp : post T (va_up B 0 (upd (B 0) at0 (chg (T 0) (T 1) k0 (B 0 at0) (nI v0))))) : wM_M_change post T B (nI at0) (nI k0) (nI v0) := by
  unfold wM_M_change wM_M_change_3
  intro X3 hX3
  obtain ⟨c0, hc0, ec⟩ := hB at0
  have hi : vp_in (nI at0) 96 := vp_in_nI hat (by decide)
  have key : ∀ n b : Nat, b + n = 8 → ∀ x : Int32, (∀ i, i < 32 → bt x i = if i < b then (if bt (mk8 (T 0) (T 1) k0) i then bt (nI v0) i else bt (nI c0) i) else bt (nI c0) i) → X3 T (va_up B 0 (upd (B 0) at0 x)) (nI at0) (nI k0) (nI v0) (nI b) := by
    intro n
    induction n with
    | zero =>
      intro b hb x hx
      have hb : b = 8 := by omega
      subst hb
      apply hX3
      unfold wM_M_change_3B
      refine ⟨fun _ => ?_, fun h => absurd (show (8 : Int32) ≤ nI 8 from Int32.le_refl _) h⟩
      have e : x = chg (T 0) (T 1) k0 (B 0 at0) (nI v0) := by
        apply b_ext
        intro i hi
        rw [hx i hi, chg, ec, b_xor, b_and, b_xor]
        split
        · cases bt (mk8 (T 0) (T 1) k0) i <;> cases bt (nI v0) i <;> cases bt (nI c0) i <;> rfl
        · next h8 =>
          rw [bt_nI hc0 (by omega), bt_nI hv (by omega)]
          rfl
      rw [e]
      exact hp
    | succ n ih =>
      intro b hb x hx
      have hb8 : b < 8 := by omega
      apply hX3
      unfold wM_M_change_3B wM_M_change_35 wM_M_change_65 wM_M_change_70 wM_M_change_99
      have ea : (va_up B 0 (upd (B 0) at0 x)) 0 (nI at0).toNatClampNeg = x := by
        rw [nI_clamp (by omega), pz_us]
        exact if_pos rfl
      have e0 : (va_up B 0 (upd (B 0) at0 x)) 0 = upd (B 0) at0 x := pz_us _ _ _
      have er : ((8 : Int32) * nI k0 + nI b) - ((8 : Int32) * nI k0 + nI b) / (32 : Int32) * (32 : Int32) = nI ((8 * k0 + b) % 32) := by
        rw [show (8 : Int32) * nI k0 = nI (8 * k0) from pk_mul 8 k0, nI_add]
        exact pk_rem (d := 32) (by omega) (by decide) (by decide)
      have hmod : (8 * k0 + b) % 32 = 8 * (k0 % 4) + b := by omega
      have hmay := bt_mk8 (T 0) (T 1) k0 hb8
      rw [ea, er, hmod, bit_u _ (by omega), bit_s _ (by omega), bit_s _ (by omega), pz_inc, e0, nI_clamp (by omega), pz_upup, pz_updd]
      have hxb : bt x b = bt (nI c0) b := by rw [hx b (by omega), if_neg (by omega)]
      -- the value that the next round begins with
      have same : (bt (mk8 (T 0) (T 1) k0) b = false ∨ bt x b = bt (nI v0) b) → X3 T (va_up B 0 (upd (B 0) at0 x)) (nI at0) (nI k0) (nI v0) (nI (b + 1)) := by
        intro hd
        refine ih (b + 1) (by omega) x (fun i hi => ?_)
        rw [hx i hi]
        by_cases h1 : i < b
        · rw [if_pos h1, if_pos (show i < b + 1 by omega)]
        · by_cases h2 : i = b
          · subst h2
            rw [if_neg h1, if_pos (show i < i + 1 by omega)]
            rcases hd with hd | hd
            · rw [hd]; rfl
            · rw [← hxb, hd]; split <;> rfl
          · rw [if_neg h1, if_neg (by omega)]
      have flip : bt (mk8 (T 0) (T 1) k0) b = true → ¬ bt x b = bt (nI v0) b → X3 T (va_up B 0 (upd (B 0) at0 (x ^^^ ((1 : Int32) <<< (nI b &&& 31))))) (nI at0) (nI k0) (nI v0) (nI (b + 1)) := by
        intro hm hd
        refine ih (b + 1) (by omega) _ (fun i hi => ?_)
        rw [b_xor, b_shl b (by omega) 1 hi, hx i hi]
        by_cases h1 : i < b
        · rw [if_pos h1, if_pos (show i < b + 1 by omega), decide_eq_false (by omega), Bool.false_and, Bool.xor_false]
        · by_cases h2 : i = b
          · subst h2
            rw [if_neg h1, if_pos (by omega), hm, if_pos rfl, ← hxb, Nat.sub_self, bt_1 0 (by decide), decide_eq_true (Nat.le_refl i)]
            cases h3 : bt x i <;> cases h4 : bt (nI v0) i <;> first | rfl | (exfalso; exact hd (h3.trans h4.symm))
          · rw [if_neg h1, if_neg (by omega), bt_1 (i - b) (by omega), decide_eq_false (show ¬ i - b = 0 by omega), Bool.and_false, Bool.xor_false]
      refine ⟨fun h => absurd h (nI_ge (b := 8) (by omega) (by decide)), fun _ => ⟨hi, ?_, ?_⟩⟩
      · intro hd
        have hd : bt x b = bt (nI v0) b := by
          cases h3 : bt x b <;> cases h4 : bt (nI v0) b <;> rw [h3, h4] at hd <;> first | rfl | exact absurd hd (by decide)
        have go := same (Or.inr hd)
        exact ⟨fun _ => ⟨fun _ => go, fun h => absurd rfl h⟩, fun _ => ⟨fun _ => ⟨fun _ => go, fun h => absurd rfl h⟩, fun _ => ⟨fun _ => go, fun h => absurd rfl h⟩⟩⟩
      · intro hd
        have hd : ¬ bt x b = bt (nI v0) b := by
          intro q
          rw [q] at hd
          exact hd rfl
        refine ⟨fun ho => ⟨fun h => absurd h (by decide), fun _ => ⟨fun h => absurd h (by decide), fun _ => ⟨hi, hi, flip (by rw [hmay, if_pos ho]) hd⟩⟩⟩, fun ho => ⟨fun hm => ⟨fun h => absurd h (by decide), fun _ => ⟨fun _ => same (Or.inl ?_), fun h => absurd rfl h⟩⟩, fun hm => ⟨fun h => absurd h (by decide), fun _ => ⟨fun h => absurd h (by decide), fun _ => ⟨hi, hi, flip ?_ hd⟩⟩⟩⟩⟩
        · rw [hmay, if_neg ho]
          cases h3 : bt (T 1) (8 * (k0 % 4) + b)
          · rfl
          · rw [h3] at hm; exact absurd rfl hm
        · rw [hmay, if_neg ho]
          cases h3 : bt (T 1) (8 * (k0 % 4) + b)
          · rw [h3] at hm; exact absurd hm (by decide)
          · rfl
  have h0 := key 8 0 rfl (B 0 at0) (fun i _ => by rw [if_neg (by omega), ec])
  rw [pz_upd, pz_up] at h0
  exact h0
/-! good slots, the best one, booting -/
theorem nx_or (a b : Nat) : nI a ||| nI b = nI (a ||| b) := by
  apply Int32.toBitVec_inj.1
  show BitVec.ofNat 32 a ||| BitVec.ofNat 32 b = BitVec.ofNat 32 (a ||| b)
  apply BitVec.eq_of_getLsbD_eq
  intro i hi
  simp [hi]
theorem hilo {a b : Nat} (ha : a < 256) (hb : b < 256) : (nI a <<< ((8 : Int32) &&& 31)) ||| nI b = nI a * (256 : Int32) + nI b := by
  rw [shl8_X ha, byte256, nx_or, nI_add]
  congr 1
  rw [show a * 256 = 2 ^ 8 * a by omega]
  exact (Nat.two_pow_add_eq_or_of_lt (by omega) a).symm
def gd (f : Nat → Int32) (s : Nat) : Prop := f (48 * s + 32) = 0 ∧ f (48 * s + 34) * 256 + f (48 * s + 35) = sumF f (48 * s) 32
theorem gd_em (f : Nat → Int32) (s : Nat) : gd f s ∨ ¬ gd f s := Classical.em _
noncomputable def gs (f : Nat → Int32) (s : Nat) : Int32 := @ite Int32 (gd f s) (Classical.propDecidable _) (f (48 * s + 33)) (-1)
theorem gs_y {f : Nat → Int32} {s : Nat} (h : gd f s) : gs f s = f (48 * s + 33) := if_pos h
theorem gs_n {f : Nat → Int32} {s : Nat} (h : ¬ gd f s) : gs f s = -1 := if_neg h
noncomputable def best (f : Nat → Int32) : Int32 := if gs f 1 ≤ gs f 0 then (if gs f 0 = -1 then -1 else 0) else 1
theorem best_in (f : Nat → Int32) : best f = -1 ∨ best f = 0 ∨ best f = 1 := by
  unfold best
  split
  · split
    · exact Or.inl rfl
    · exact Or.inr (Or.inl rfl)
  · exact Or.inr (Or.inr rfl)
theorem byte_neg {f : Nat → Int32} (h : by8 f) (i : Nat) : ¬ f i = -1 ∧ (-1 : Int32) ≤ f i ∧ ¬ f i ≤ -1 := by
  obtain ⟨b, hb, e⟩ := h i
  rw [e]
  have h0 : (nI b).toInt = (b : Int) := nI_toInt (by omega)
  have h1 : (-1 : Int32).toInt = -1 := by decide
  refine ⟨fun q => ?_, ?_, fun q => ?_⟩
  · rw [q, h1] at h0; omega
  · rw [Int32.le_iff_toInt_le, h0, h1]; omega
  · rw [Int32.le_iff_toInt_le, h0, h1] at q; omega
theorem hX_byteAt {post : Int32 → SS → AA → Prop} {S : SS} {A : AA} {n : Nat} (hn : n < 96) (hp : post (A 0 n) S A) : wX_Mm_byteAt post S A (nI n) := by
  unfold wX_Mm_byteAt
  rw [nI_clamp (by omega)]
  exact ⟨fun h => absurd h (nI_pos (by omega)), fun _ => ⟨fun h => absurd h (nI_ge (b := 96) hn (by decide)), fun _ => ⟨vp_in_nI hn (by decide), hp⟩⟩⟩
theorem hX_goodSerial {post : Int32 → SS → AA → Prop} {S : SS} {A : AA} (hA : by8 (A 0)) {s0 : Nat} (hs : s0 ≤ 1) (hp : post (gs (A 0) s0) S A) : wX_Mm_goodSerial post S A (nI s0) := by
  unfold wX_Mm_goodSerial wX_Mm_headerOf
  have e0 : nI s0 * (48 : Int32) + (32 : Int32) = nI (48 * s0 + 32) := by
    rw [show nI s0 * (48 : Int32) = nI (s0 * 48) from pk_mul s0 48, Nat.mul_comm]
    exact nI_add _ 32
  rw [e0]
  show wX_Mm_byteAt _ S A (nI (48 * s0 + 32) + (2 : Int32))
  rw [show nI (48 * s0 + 32) + (2 : Int32) = nI (48 * s0 + 34) from nI_add _ 2, show nI (48 * s0 + 32) + (3 : Int32) = nI (48 * s0 + 35) from nI_add _ 3, show nI (48 * s0 + 32) + (1 : Int32) = nI (48 * s0 + 33) from nI_add _ 1]
  refine hX_byteAt (by omega) (hX_byteAt (by omega) (hX_byteAt (by omega) ?_))
  obtain ⟨a, ha, ea⟩ := hA (48 * s0 + 34)
  obtain ⟨b, hb, eb⟩ := hA (48 * s0 + 35)
  have e : (A 0 (48 * s0 + 34) <<< ((8 : Int32) &&& 31)) ||| A 0 (48 * s0 + 35) = A 0 (48 * s0 + 34) * 256 + A 0 (48 * s0 + 35) := by rw [ea, eb]; exact hilo ha hb
  refine ⟨fun h => ?_, fun h => hX_sumOf hA hs ?_⟩
  · rw [gs_n (fun q => h q.1)] at hp
    exact hp
  · rw [e]
    refine ⟨fun h2 => ?_, fun h2 => hX_byteAt (by omega) ?_⟩
    · rw [gs_n (fun q => h2 q.2)] at hp
      exact hp
    · rw [gs_y ⟨h, h2⟩] at hp
      exact hp
theorem hX_bestSlot {post : Int32 → SS → AA → Prop} {S : SS} {A : AA} (hA : by8 (A 0)) (hp : post (best (A 0)) S A) : wX_Mm_bestSlot post S A := by
  unfold wX_Mm_bestSlot
  refine hX_goodSerial (s0 := 0) hA (by decide) (hX_goodSerial (s0 := 1) hA (by decide) ?_)
  unfold best at hp
  refine ⟨fun h => ⟨fun h2 => ?_, fun h2 => ?_⟩, fun h => ?_⟩
  · rw [if_pos h, if_neg h2] at hp; exact hp
  · rw [if_pos h, if_pos h2] at hp; exact hp
  · rw [if_neg h] at hp; exact hp
theorem hM_isGood {post : Int32 → SS → AA → Prop} {T : SS} {B : AA} {s0 : Nat} (hs : s0 ≤ 1) (hy : gd (B 0) s0 → post 1 T B) (hn : ¬ gd (B 0) s0 → post 0 T B) : wM_M_isGood post T B (nI s0) := by
  unfold wM_M_isGood
  have e0 : (48 : Int32) * nI s0 + (32 : Int32) = nI (48 * s0 + 32) := by
    rw [show (48 : Int32) * nI s0 = nI (48 * s0) from pk_mul 48 s0]
    exact nI_add _ 32
  rw [e0, show nI (48 * s0 + 32) + (2 : Int32) = nI (48 * s0 + 34) from nI_add _ 2, show nI (48 * s0 + 32) + (3 : Int32) = nI (48 * s0 + 35) from nI_add _ 3, nI_clamp (n := 48 * s0 + 32) (by omega), nI_clamp (n := 48 * s0 + 34) (by omega), nI_clamp (n := 48 * s0 + 35) (by omega)]
  refine ⟨vp_in_nI (by omega) (by decide), fun h => hn (fun q => h q.1), fun h => ⟨vp_in_nI (by omega) (by decide), vp_in_nI (by omega) (by decide), hM_sumOf hs ⟨fun h2 => hn (fun q => h2 q.2), fun h2 => hy ⟨h, h2⟩⟩⟩⟩
theorem hM_bestSlot {post : Int32 → SS → AA → Prop} {T : SS} {B : AA} (hB : by8 (B 0)) (hp : post (best (B 0)) T B) : wM_M_bestSlot post T B := by
  have b33 := byte_neg hB 33
  have b81 := byte_neg hB 81
  have i33 : vp_in (33 : Int32) 96 := vp_in_nI (n := 33) (by decide) (by decide)
  have i81 : vp_in (81 : Int32) 96 := vp_in_nI (n := 81) (by decide) (by decide)
  have c33 : (33 : Int32).toNatClampNeg = 33 := by decide
  have c81 : (81 : Int32).toNatClampNeg = 81 := by decide
  unfold best at hp
  unfold wM_M_bestSlot
  refine hM_isGood (s0 := 0) (by decide) (fun g0 => ?_) (fun g0 => ?_)
  · have e0 : gs (B 0) 0 = B 0 33 := gs_y g0
    refine hM_isGood (s0 := 1) (by decide) (fun g1 => ?_) (fun g1 => ?_)
    · have e1 : gs (B 0) 1 = B 0 81 := gs_y g1
      rw [e0, e1] at hp
      refine ⟨fun _ => ?_, fun h => absurd h (by decide)⟩
      unfold wM_M_bestSlot_22 wM_M_bestSlot_47
      rw [c33, c81]
      refine ⟨fun h => absurd h (by decide), fun _ => ⟨fun h => absurd h (by decide), fun _ => ⟨i81, i33, fun h => ?_, fun h => ?_⟩⟩⟩
      · rw [if_pos h, if_neg b33.1] at hp; exact hp
      · rw [if_neg h] at hp; exact hp
    · rw [e0, gs_n g1, if_pos b33.2.1, if_neg b33.1] at hp
      refine ⟨fun _ => ?_, fun h => absurd h (by decide)⟩
      unfold wM_M_bestSlot_22
      exact ⟨fun h => absurd h (by decide), fun _ => ⟨fun _ => hp, fun h => absurd rfl h⟩⟩
  · have e0 : gs (B 0) 0 = -1 := gs_n g0
    refine hM_isGood (s0 := 1) (by decide) (fun g1 => ?_) (fun g1 => ?_)
    · have e1 : gs (B 0) 1 = B 0 81 := gs_y g1
      rw [e0, e1, if_neg b81.2.2] at hp
      refine ⟨fun h => absurd rfl h, fun _ => ⟨fun _ => ?_, fun h => absurd h (by decide)⟩⟩
      unfold wM_M_bestSlot_22 wM_M_bestSlot_47
      exact ⟨fun _ => hp, fun h => absurd rfl h⟩
    · rw [e0, gs_n g1, if_pos (Int32.le_refl _), if_pos rfl] at hp
      exact ⟨fun h => absurd rfl h, fun _ => ⟨fun h => absurd rfl h, fun _ => hp⟩⟩
def btX (S : SS) (r : Int32) : SS := va_up (va_up (va_up (va_up (va_up (va_up (va_up (va_up (va_up (va_up (va_up (va_up (va_up S 0 r) 1 1) 2 (-1)) 3 0) 4 0) 18 0) 19 0) 21 0) 22 0) 23 0) 7 0) 8 0) 15 0
def btM (T : SS) (r : Int32) : SS := va_up (va_up (va_up (va_up (va_up (va_up (va_up (va_up (va_up (va_up (va_up (va_up (va_up T 2 r) 3 1) 4 0) 8 0) 12 (-1)) 16 0) 17 0) 20 0) 21 0) 5 (-1)) 9 0) 10 0) 6 0
theorem hX_boot {post : SS → AA → Prop} {S : SS} {A : AA} (hA : by8 (A 0)) (hp : post (btX S (best (A 0))) A) : wX_T_boot post S A := by
  unfold wX_T_boot
  exact hX_bestSlot hA hp
theorem hM_boot {post : SS → AA → Prop} {T : SS} {B : AA} (hB : by8 (B 0)) (hp : post (btM T (best (B 0))) B) : wM_M_boot post T B := by
  unfold wM_M_boot
  exact hM_bestSlot hB hp
/-! the relation between the program's state (S, A) and the reference's (T, B) after n calls -/
def RelF (S : SS) (A : AA) (T : SS) (B : AA) : Prop := A 0 = B 0 ∧ by8 (B 0) ∧ S 5 = T 0 ∧ S 6 = T 1 ∧ tl_z (T 0)
def RelC (n : Nat) (S T : SS) : Prop := S 0 = T 2 ∧ (T 2 = -1 ∨ T 2 = 0 ∨ T 2 = 1) ∧ S 1 = T 3 ∧ (T 3 = 1 ∨ T 3 = 2) ∧ S 18 = T 4 ∧ tl_z (T 4) ∧ S 2 = T 5 ∧ (T 5 = -1 ∨ T 5 = 0 ∨ T 5 = 1) ∧ S 3 = T 6 ∧ S 20 = T 7 ∧ (∃ g : Nat, g ≤ n ∧ T 7 = nI g) ∧ S 19 = T 8 ∧ (∃ b : Nat, b < 256 ∧ T 8 = nI b) ∧ S 21 = T 9 ∧ tl_z (T 9) ∧ S 22 = T 10 ∧ (∃ d : Nat, d ≤ 8 ∧ T 10 = nI d)
def RelI (n : Nat) (S T : SS) : Prop := (T 3 = 2 → S 4 = T 11) ∧ (∃ i : Nat, i ≤ n ∧ T 11 = nI i) ∧ (∃ i : Nat, i ≤ n ∧ S 4 = nI i)
def RelD (n : Nat) (S T : SS) : Prop := (S 23 = 0 ∧ T 12 = -1) ∨ (S 23 = 1 ∧ S 24 = T 12 ∧ (T 12 = 0 ∨ T 12 = 1) ∧ S 25 = T 13 ∧ S 26 = T 14 ∧ S 27 = T 15 ∧ ∃ sz ca bl : Nat, T 13 = nI sz ∧ T 14 = nI ca ∧ T 15 = nI bl ∧ ca ≤ sz ∧ sz ≤ 32 ∧ bl ≤ n)
def RelQ (S : SS) (A : AA) (T : SS) (B : AA) : Prop := A 1 = B 1 ∧ by8 (B 1) ∧ ∃ L G : Nat, T 16 = nI L ∧ T 17 = nI G ∧ G ≤ L ∧ L ≤ 34 ∧ S 8 = nI (L - G) ∧ (G < L → S 7 = nI G ∧ S 10 = T 19 ∧ (∃ a : Nat, a < 4 ∧ T 19 = nI a) ∧ ∃ lt : Nat, lt < 16 ∧ T 18 = nI lt ∧ S 9 = nI ((lt + 1) % 16))
def RelA (S : SS) (A : AA) (T : SS) (B : AA) : Prop := (S 15 = 0 ∧ T 20 = 0 ∧ T 21 = 0) ∨ (S 15 = 1 ∧ S 11 = 10 ∧ S 12 = 6 ∧ S 13 = 1 ∧ T 20 = 10 ∧ T 21 = 6 ∧ T 22 = 0 ∧ S 14 = T 23 ∧ (∃ w : Nat, w < 4 ∧ T 23 = nI w) ∧ ∀ i, i < 10 → A 3 i = B 2 i)
def RelR (S : SS) (A : AA) (T : SS) (B : AA) : Prop := ∃ c f : Nat, S 17 = nI c ∧ T 24 = nI c ∧ c ≤ 12 ∧ S 16 = nI f ∧ f < 12 ∧ ∀ j, j < c → ∀ k, k < 8 → A 2 (((f + j) % 12) * 8 + k) = B 3 (8 * j + k)
def Rel (n : Nat) (S : SS) (A : AA) (T : SS) (B : AA) : Prop := RelF S A T B ∧ RelC n S T ∧ RelI n S T ∧ RelD n S T ∧ RelQ S A T B ∧ RelA S A T B ∧ RelR S A T B
theorem Rel.step {n : Nat} {S : SS} {A : AA} {T : SS} {B : AA} (h : Rel n S A T B) : Rel (n + 1) S A T B := by
  obtain ⟨hF, hC, hI, hD, hQ, hA, hR⟩ := h
  obtain ⟨c1, c2, c3, c4, c5, c6, c7, c8, c9, c10, ⟨g, hg, eg⟩, cr⟩ := hC
  obtain ⟨i1, ⟨i, hi, ei⟩, ⟨i', hi', ei'⟩⟩ := hI
  refine ⟨hF, ⟨c1, c2, c3, c4, c5, c6, c7, c8, c9, c10, ⟨g, by omega, eg⟩, cr⟩, ⟨i1, ⟨i, by omega, ei⟩, ⟨i', by omega, ei'⟩⟩, ?_, hQ, hA, hR⟩
  rcases hD with hD | ⟨d1, d2, d3, d4, d5, d6, sz, ca, bl, e1, e2, e3, h1, h2, h3⟩
  · exact Or.inl hD
  · exact Or.inr ⟨d1, d2, d3, d4, d5, d6, sz, ca, bl, e1, e2, e3, h1, h2, by omega⟩
/-! what each call says: P holds behind the program's call at every outcome at which the reference, called alike, answers the same and stays related -/
def OkI (n : Nat) (r : Int32) (S : SS) (A : AA) (w : (Int32 → SS → AA → Prop) → Prop) : Prop := ∀ Q : Int32 → SS → AA → Prop, (∀ (T1 : SS) (B1 : AA), Rel (n + 1) S A T1 B1 → Q r T1 B1) → w Q
def OkV (n : Nat) (S : SS) (A : AA) (w : (SS → AA → Prop) → Prop) : Prop := ∀ Q : SS → AA → Prop, (∀ (T1 : SS) (B1 : AA), Rel (n + 1) S A T1 B1 → Q T1 B1) → w Q
theorem ok_cut {n : Nat} {S : SS} {A : AA} {T : SS} {B : AA} (h : Rel n S A T B) {x : Int32} {P : SS → AA → Prop} (hP : ∀ (S1 : SS) (A1 : AA), OkV n S1 A1 (fun Q => wM_M_cut Q T B x) → P S1 A1) : wX_T_cut P S A x := by
  obtain ⟨⟨f1, f2, f3, f4, f5⟩, hC, hI, hD, hQ, hA, hR⟩ := h.step
  refine hP (va_up (va_up S 5 1) 6 x) A (fun Q hQ1 => ?_)
  refine hQ1 (va_up (va_up T 0 1) 1 x) B ?_
  exact ⟨⟨f1, f2, rfl, rfl, Or.inr rfl⟩, hC, hI, hD, hQ, hA, hR⟩
theorem ok_flash {n : Nat} {S : SS} {A : AA} {T : SS} {B : AA} (h : Rel n S A T B) {x : Int32} {P : Int32 → SS → AA → Prop} (hP : ∀ (r : Int32) (S1 : SS) (A1 : AA), OkI n r S1 A1 (fun Q => wM_M_flash Q T B x) → P r S1 A1) : wX_T_flash P S A x := by
  have hs := h.step
  have e0 : A 0 = B 0 := h.1.1
  unfold wX_T_flash wX_Mm_has
  have e95 : (96 : Int32) - (1 : Int32) = 95 := by decide
  rw [e95]
  refine ⟨fun h1 => ⟨fun _ => hP _ _ _ (fun Q hQ => ?_), fun q => absurd rfl q⟩, fun h1 => ⟨fun h2 => ⟨fun _ => hP _ _ _ (fun Q hQ => ?_), fun q => absurd rfl q⟩, fun h2 => ⟨fun q => absurd q (by decide), fun _ => ?_⟩⟩⟩
  · unfold wM_M_flash wM_M_flash_10
    exact ⟨fun _ => hQ _ _ hs, fun q => absurd h1 q⟩
  · unfold wM_M_flash wM_M_flash_10
    exact ⟨fun q => absurd q h1, fun _ => ⟨fun q => absurd h2 (Int32.not_lt.mpr q), fun _ => hQ _ _ hs⟩⟩
  · have h3 : x ≤ 95 := Int32.not_lt.mp h2
    obtain ⟨j, hj, rfl⟩ := nI_of2 (M := 95) (n := 95) (by decide) h1 h3
    have hin : vp_in (nI j) 96 := vp_in_nI (by omega) (by decide)
    refine ⟨hin, hP _ _ _ (fun Q hQ => ?_)⟩
    unfold wM_M_flash wM_M_flash_10
    refine ⟨fun q => absurd q h1, fun _ => ⟨fun _ => ⟨hin, ?_⟩, fun q => absurd h3 q⟩⟩
    rw [← e0]
    exact hQ _ _ hs
theorem Rel.boot {n : Nat} {S : SS} {A : AA} {T : SS} {B : AA} (hF : RelF S A T B) (hg : S 20 = T 7 ∧ ∃ g : Nat, g ≤ n ∧ T 7 = nI g) (hI : ∃ i : Nat, i ≤ n ∧ T 11 = nI i) (hq : A 1 = B 1 ∧ by8 (B 1)) (hR : RelR S A T B) : Rel n (btX S (best (A 0))) A (btM T (best (B 0))) B := by
  obtain ⟨f1, f2, f3, f4, f5⟩ := hF
  rw [f1]
  refine ⟨⟨f1, f2, f3, f4, f5⟩, ⟨rfl, best_in _, rfl, Or.inl rfl, rfl, Or.inl rfl, rfl, Or.inl rfl, rfl, hg.1, hg.2, rfl, ⟨0, by decide, rfl⟩, rfl, Or.inl rfl, rfl, ⟨0, by decide, rfl⟩⟩, ⟨fun q => absurd q (by decide : ¬ (1 : Int32) = 2), hI, ⟨0, by omega, rfl⟩⟩, Or.inl ⟨rfl, rfl⟩, ⟨hq.1, hq.2, 0, 0, rfl, rfl, Nat.le_refl _, by decide, rfl, fun q => absurd q (Nat.lt_irrefl 0)⟩, Or.inl ⟨rfl, rfl, rfl⟩, hR⟩
theorem Rel.clear {n : Nat} {S : SS} {A : AA} {T : SS} {B : AA} (h : Rel n S A T B) : Rel n (va_up S 17 0) A (va_up T 24 0) B := by
  obtain ⟨hF, hC, hI, hD, hQ, hA, c, f, r1, r2, r3, r4, r5, r6⟩ := h
  exact ⟨hF, hC, hI, hD, hQ, hA, 0, f, rfl, rfl, by decide, r4, r5, fun j hj => absurd hj (Nat.not_lt_zero j)⟩
theorem ok_restart {n : Nat} {S : SS} {A : AA} {T : SS} {B : AA} (h : Rel n S A T B) {P : SS → AA → Prop} (hP : ∀ (S1 : SS) (A1 : AA), OkV n S1 A1 (fun Q => wM_M_restart Q T B) → P S1 A1) : wX_T_restart P S A := by
  obtain ⟨hF, ⟨c1, c2, c3, c4, c5, c6, c7, c8, c9, c10, c11, c12⟩, hI, hD, ⟨q1, q2, q3⟩, hA, hR⟩ := h.step
  unfold wX_T_restart wX_T_bootAfresh
  refine hX_boot (by rw [hF.1]; exact hF.2.1) ?_
  refine hP (va_up (btX S (best (A 0))) 17 0) A (fun Q hQ => ?_)
  show wM_M_restart Q T B
  unfold wM_M_restart
  exact hM_boot hF.2.1 (hQ _ _ (Rel.boot hF ⟨c10, c11⟩ hI.2.1 ⟨q1, q2⟩ hR).clear)
/-! state -/
def stX (S : SS) (x : Int32) : Int32 := if x = 0 then S 0 else if x = 1 then S 1 else if x = 2 then (if S 18 = 0 then 0 else 1) else if x = 3 then (if S 23 = 0 then -1 else S 25 - S 26) else if x = 4 then (if S 5 = 0 then 0 else 1) else if x = 5 then S 2 else if x = 6 then S 8 else if x = 7 then (if S 15 = 0 then 0 else S 11 - S 12) else if x = 8 then S 22 else -1
def stM (T : SS) (x : Int32) : Int32 := if x = 0 then T 2 else if x = 1 then T 3 else if x = 2 then (if T 4 = 0 then 0 else 1) else if x = 3 then (if 0 ≤ T 12 then T 13 - T 14 else -1) else if x = 4 then (if T 0 = 0 then 0 else 1) else if x = 5 then T 5 else if x = 6 then T 16 - T 17 else if x = 7 then T 20 - T 21 else if x = 8 then T 10 else -1
theorem hX_state {post : Int32 → SS → AA → Prop} {S : SS} {A : AA} {x : Int32} (hp : post (stX S x) S A) : wX_T_state post S A x := by
  unfold wX_T_state wX_Dl_toCome wX_Sd_toSend
  unfold stX at hp
  refine ⟨fun h => ?_, fun h => ?_⟩
  · rw [if_pos h] at hp; exact hp
  · rw [if_neg h] at hp
    refine ⟨fun h => ?_, fun h => ?_⟩
    · rw [if_pos h] at hp; exact hp
    · rw [if_neg h] at hp
      refine ⟨fun h => ?_, fun h => ?_⟩
      · rw [if_pos h] at hp
        refine ⟨fun g => ?_, fun g => ?_⟩
        · rw [if_pos g] at hp; exact hp
        · rw [if_neg g] at hp; exact hp
      · rw [if_neg h] at hp
        refine ⟨fun h => ?_, fun h => ?_⟩
        · rw [if_pos h] at hp
          refine ⟨fun g => ?_, fun g => ?_⟩
          · rw [if_pos g] at hp; exact hp
          · rw [if_neg g] at hp; exact hp
        · rw [if_neg h] at hp
          refine ⟨fun h => ?_, fun h => ?_⟩
          · rw [if_pos h] at hp
            refine ⟨fun g => ?_, fun g => ?_⟩
            · rw [if_pos g] at hp; exact hp
            · rw [if_neg g] at hp; exact hp
          · rw [if_neg h] at hp
            refine ⟨fun h => ?_, fun h => ?_⟩
            · rw [if_pos h] at hp; exact hp
            · rw [if_neg h] at hp
              refine ⟨fun h => ?_, fun h => ?_⟩
              · rw [if_pos h] at hp; exact hp
              · rw [if_neg h] at hp
                refine ⟨fun h => ?_, fun h => ?_⟩
                · rw [if_pos h] at hp
                  refine ⟨fun g => ?_, fun g => ?_⟩
                  · rw [if_pos g] at hp; exact hp
                  · rw [if_neg g] at hp; exact hp
                · rw [if_neg h] at hp
                  refine ⟨fun h => ?_, fun h => ?_⟩
                  · rw [if_pos h] at hp; exact hp
                  · rw [if_neg h] at hp
                    exact hp
theorem hM_state {post : Int32 → SS → AA → Prop} {T : SS} {B : AA} {x : Int32} (hp : post (stM T x) T B) : wM_M_state post T B x := by
  unfold wM_M_state wM_M_toCome
  unfold stM at hp
  refine ⟨fun h => ?_, fun h => ?_⟩
  · rw [if_pos h] at hp; exact hp
  · rw [if_neg h] at hp
    refine ⟨fun h => ?_, fun h => ?_⟩
    · rw [if_pos h] at hp; exact hp
    · rw [if_neg h] at hp
      refine ⟨fun h => ?_, fun h => ?_⟩
      · rw [if_pos h] at hp
        refine ⟨fun g => ?_, fun g => ?_⟩
        · rw [if_pos g] at hp; exact hp
        · rw [if_neg g] at hp; exact hp
      · rw [if_neg h] at hp
        refine ⟨fun h => ?_, fun h => ?_⟩
        · rw [if_pos h] at hp
          refine ⟨fun g => ?_, fun g => ?_⟩
          · rw [if_pos g] at hp; exact hp
          · rw [if_neg g] at hp; exact hp
        · rw [if_neg h] at hp
          refine ⟨fun h => ?_, fun h => ?_⟩
          · rw [if_pos h] at hp
            refine ⟨fun g => ?_, fun g => ?_⟩
            · rw [if_pos g] at hp; exact hp
            · rw [if_neg g] at hp; exact hp
          · rw [if_neg h] at hp
            refine ⟨fun h => ?_, fun h => ?_⟩
            · rw [if_pos h] at hp; exact hp
            · rw [if_neg h] at hp
              refine ⟨fun h => ?_, fun h => ?_⟩
              · rw [if_pos h] at hp; exact hp
              · rw [if_neg h] at hp
                refine ⟨fun h => ?_, fun h => ?_⟩
                · rw [if_pos h] at hp; exact hp
                · rw [if_neg h] at hp
                  refine ⟨fun h => ?_, fun h => ?_⟩
                  · rw [if_pos h] at hp; exact hp
                  · rw [if_neg h] at hp
                    exact hp
theorem st_eq {n : Nat} {S : SS} {A : AA} {T : SS} {B : AA} (h : Rel n S A T B) (x : Int32) : stX S x = stM T x := by
  obtain ⟨⟨f1, f2, f3, f4, f5⟩, ⟨c1, c2, c3, c4, c5, c6, c7, c8, c9, c10, c11, c12, c13, c14, c15, c16, c17⟩, hI, hD, ⟨q1, q2, L, G, q3, q4, q5, q6, q7, q8⟩, hA, hR⟩ := h
  have e3 : (if S 23 = 0 then -1 else S 25 - S 26) = (if 0 ≤ T 12 then T 13 - T 14 else -1) := by
    rcases hD with ⟨d1, d2⟩ | ⟨d1, d2, d3, d4, d5, d6, _⟩
    · rw [if_pos d1, d2, if_neg (by decide)]
    · rw [d1, d4, d5, if_neg (by decide)]
      rcases d3 with d3 | d3 <;> rw [d3, if_pos (by decide)]
  have e7 : (if S 15 = 0 then 0 else S 11 - S 12) = T 20 - T 21 := by
    rcases hA with ⟨a1, a2, a3⟩ | ⟨a1, a2, a3, a4, a5, a6, a7, _⟩
    · rw [if_pos a1, a2, a3]; decide
    · rw [a1, a2, a3, a5, a6, if_neg (by decide)]
  have e6 : S 8 = T 16 - T 17 := by rw [q7, q3, q4, pk_sub q5]
  unfold stX stM
  rw [c1, c3, c5, e3, f3, c7, e6, e7, c16]
theorem ok_state {n : Nat} {S : SS} {A : AA} {T : SS} {B : AA} (h : Rel n S A T B) {x : Int32} {P : Int32 → SS → AA → Prop} (hP : ∀ (r : Int32) (S1 : SS) (A1 : AA), OkI n r S1 A1 (fun Q => wM_M_state Q T B x) → P r S1 A1) : wX_T_state P S A x :=
  hX_state (hP _ _ _ (fun Q hQ => hM_state (by rw [← st_eq h x]; exact hQ _ _ h.step)))
/-! peek, take -/
theorem ok_peek {n : Nat} {S : SS} {A : AA} {T : SS} {B : AA} (h : Rel n S A T B) {x : Int32} {P : Int32 → SS → AA → Prop} (hP : ∀ (r : Int32) (S1 : SS) (A1 : AA), OkI n r S1 A1 (fun Q => wM_M_peek Q T B x) → P r S1 A1) : wX_T_peek P S A x := by
  have hs := h.step
  obtain ⟨-, -, -, -, -, -, c, f, r1, r2, r3, r4, r5, r6⟩ := h
  unfold wX_T_peek wX_Rw_byteOfFirst
  have hc0 : T 24 ≤ 0 ↔ c = 0 := by
    rw [r2, show (nI c ≤ 0 ↔ c ≤ 0) from pz_le (b := 0) (by omega) (by decide)]
    omega
  have hs0 : S 17 = 0 ↔ c = 0 := by
    rw [r1]
    exact nI_eq (b := 0) (by omega) (by decide)
  refine ⟨fun h1 => hP _ _ _ (fun Q hQ => ?_), fun h1 => ⟨fun h2 => hP _ _ _ (fun Q hQ => ?_), fun h2 => ⟨fun h3 => ?_, fun h3 => hP _ _ _ (fun Q hQ => ?_)⟩⟩⟩
  · unfold wM_M_peek
    exact ⟨fun _ => hQ _ _ hs, fun _ => ⟨fun _ => hQ _ _ hs, fun q => absurd h1 q⟩⟩
  · unfold wM_M_peek
    exact ⟨fun _ => hQ _ _ hs, fun _ => ⟨fun q => absurd q h1, fun _ => ⟨fun _ => hQ _ _ hs, fun q => absurd h2 q⟩⟩⟩
  · have hc : ¬ c = 0 := fun q => h3 (hs0.mpr q)
    obtain ⟨j, hj, rfl⟩ := nI_of2 (x := x) (M := 7) (n := 7) (by decide) h1 (by
      have h4 : x < 8 := Int32.not_le.mp h2
      rw [Int32.lt_iff_toInt_lt] at h4
      rw [Int32.le_iff_toInt_le]
      have e8 : (8 : Int32).toInt = 8 := by decide
      have e7 : (7 : Int32).toInt = 7 := by decide
      omega)
    have e : S 16 * (8 : Int32) + nI j = nI (f * 8 + j) := by rw [r4, show nI f * (8 : Int32) = nI (f * 8) from pk_mul f 8, nI_add]
    rw [e, nI_clamp (n := f * 8 + j) (by omega)]
    refine ⟨vp_in_nI (by omega) (by decide), hP _ _ _ (fun Q hQ => ?_)⟩
    have h6 := r6 0 (by omega) j (by omega)
    rw [show ((f + 0) % 12) * 8 + j = f * 8 + j by omega, show 8 * 0 + j = j by omega] at h6
    unfold wM_M_peek
    refine ⟨fun q => absurd (hc0.mp q) hc, fun _ => ⟨fun q => absurd q h1, fun _ => ⟨fun q => absurd q h2, fun _ => ⟨vp_in_nI (by omega) (by decide), ?_⟩⟩⟩⟩
    rw [nI_clamp (by omega), ← h6]
    exact hQ _ _ hs
  · unfold wM_M_peek
    exact ⟨fun _ => hQ _ _ hs, fun q => absurd (hc0.mpr (hs0.mp h3)) q⟩
theorem hM_take {post : Int32 → SS → AA → Prop} {T : SS} {B : AA} {c : Nat} (hc : T 24 = nI c) (h12 : c ≤ 12) (h0 : c = 0 → post 0 T B) (h1 : ∀ c1 : Nat, c = c1 + 1 → post 1 (va_up T 24 (nI c1)) (va_up B 3 (fun i => if i < 8 * c1 then B 3 (i + 8) else B 3 i))) : wM_M_take post T B := by
  unfold wM_M_take
  refine ⟨fun h => ?_, fun h => h0 ?_⟩
  · have hc0 : ¬ c = 0 := fun q => h (by rw [hc, q]; rfl)
    obtain ⟨c1, rfl⟩ : ∃ c1, c = c1 + 1 := ⟨c - 1, by omega⟩
    have e : T 24 - (1 : Int32) = nI c1 := by rw [hc]; exact nI_pred c1
    rw [e]
    unfold wM_M_take_21
    intro X21 hX21
    have key : ∀ m k : Nat, k + m = 8 * c1 → X21 (va_up T 24 (nI c1)) (va_up B 3 (fun i => if i < k then B 3 (i + 8) else B 3 i)) (nI k) := by
      intro m
      induction m with
      | zero =>
        intro k hk
        have hk : k = 8 * c1 := by omega
        subst hk
        apply hX21
        unfold wM_M_take_21B
        rw [pz_us, show (8 : Int32) * nI c1 = nI (8 * c1) from pk_mul 8 c1]
        exact ⟨fun _ => h1 c1 rfl, fun q => absurd (Int32.le_refl _) q⟩
      | succ m ih =>
        intro k hk
        apply hX21
        unfold wM_M_take_21B
        rw [pz_us, show (8 : Int32) * nI c1 = nI (8 * c1) from pk_mul 8 c1, show nI k + (8 : Int32) = nI (k + 8) from nI_add k 8, nI_clamp (n := k + 8) (by omega), nI_clamp (n := k) (by omega), pz_us, pz_upup, pz_inc]
        refine ⟨fun q => absurd q (nI_ge (by omega) (by omega)), fun _ => ⟨vp_in_nI (by omega) (by decide), vp_in_nI (by omega) (by decide), ?_⟩⟩
        have h2 := ih (k + 1) (by omega)
        have e2 : upd (fun i => if i < k then B 3 (i + 8) else B 3 i) k (if k + 8 < k then B 3 (k + 8 + 8) else B 3 (k + 8)) = (fun i => if i < k + 1 then B 3 (i + 8) else B 3 i) := by
          funext i
          unfold upd
          by_cases hi : i = k
          · subst hi
            rw [if_pos rfl, if_neg (by omega), if_pos (by omega)]
          · rw [if_neg hi]
            show (if i < k then B 3 (i + 8) else B 3 i) = (if i < k + 1 then B 3 (i + 8) else B 3 i)
            by_cases h3 : i < k
            · rw [if_pos h3, if_pos (by omega)]
            · rw [if_neg h3, if_neg (by omega)]
        rw [← e2] at h2
        exact h2
    have h2 := key (8 * c1) 0 (by omega)
    have e3 : va_up B 3 (fun i => if i < 0 then B 3 (i + 8) else B 3 i) = B := by
      have : (fun i => if i < 0 then B 3 (i + 8) else B 3 i) = B 3 := by
        funext i
        exact if_neg (Nat.not_lt_zero i)
      rw [this, pz_up]
    rw [e3] at h2
    exact h2
  · rw [hc] at h
    exact (nI_eq (b := 0) (by omega) (by decide)).mp h
theorem ok_take {n : Nat} {S : SS} {A : AA} {T : SS} {B : AA} (h : Rel n S A T B) {P : Int32 → SS → AA → Prop} (hP : ∀ (r : Int32) (S1 : SS) (A1 : AA), OkI n r S1 A1 (fun Q => wM_M_take Q T B) → P r S1 A1) : wX_T_take P S A := by
  have hs := h.step
  obtain ⟨hF, hC, hI, hD, hQ, hA, c, f, r1, r2, r3, r4, r5, r6⟩ := h.step
  unfold wX_T_take wX_Rw_dropFirst
  have hs0 : S 17 = 0 ↔ c = 0 := by
    rw [r1]
    exact nI_eq (b := 0) (by omega) (by decide)
  refine ⟨fun h1 => hP _ _ _ (fun Q hQ1 => ?_), fun h1 => hP _ _ _ (fun Q hQ1 => ?_)⟩
  · refine hM_take r2 r3 (fun q => absurd (hs0.mpr q) h1) (fun c1 hc1 => hQ1 _ _ ?_)
    subst hc1
    have e1 : S 17 - (1 : Int32) = nI c1 := by rw [r1]; exact nI_pred c1
    have e2 : (S 16 + (1 : Int32)) - (S 16 + (1 : Int32)) / (12 : Int32) * (12 : Int32) = nI ((f + 1) % 12) := by
      rw [r4, pz_inc]
      exact pk_rem (d := 12) (by omega) (by decide) (by decide)
    rw [e1, e2]
    refine ⟨hF, hC, hI, hD, hQ, hA, c1, (f + 1) % 12, rfl, rfl, by omega, rfl, Nat.mod_lt _ (by decide), fun j hj k hk => ?_⟩
    have h6 := r6 (j + 1) (by omega) k hk
    show A 2 ((((f + 1) % 12 + j) % 12) * 8 + k) = (if 8 * j + k < 8 * c1 then B 3 (8 * j + k + 8) else B 3 (8 * j + k))
    rw [if_pos (by omega), show ((f + 1) % 12 + j) % 12 = (f + (j + 1)) % 12 by omega, h6]
    congr 1
    omega
  · exact hM_take r2 r3 (fun _ => hQ1 _ _ hs) (fun c1 hc1 => absurd (hs0.mp h1) (by omega))
/-! word -/
theorem or_shl8 (x y : Int32) : (x ||| y) <<< ((8 : Int32) &&& 31) = (x <<< ((8 : Int32) &&& 31)) ||| (y <<< ((8 : Int32) &&& 31)) := by
  apply b_ext
  intro i hi
  rw [b_shl8 _ hi, b_or, b_or, b_shl8 _ hi, b_shl8 _ hi, Bool.and_or_distrib_left]
theorem shl_88 (x : Int32) : (x <<< ((8 : Int32) &&& 31)) <<< ((8 : Int32) &&& 31) = x <<< ((16 : Int32) &&& 31) := by
  apply b_ext
  intro i hi
  rw [b_shl8 _ hi, b_shl16 _ hi]
  by_cases h : 8 ≤ i
  · rw [b_shl8 _ (show i - 8 < 32 by omega), decide_eq_true h, Bool.true_and, Nat.sub_sub]
    by_cases h2 : 16 ≤ i
    · rw [decide_eq_true h2, decide_eq_true (show 8 ≤ i - 8 by omega)]
    · rw [decide_eq_false h2, decide_eq_false (show ¬ 8 ≤ i - 8 by omega), Bool.false_and]
  · rw [decide_eq_false h, decide_eq_false (show ¬ 16 ≤ i by omega), Bool.false_and, Bool.false_and]
theorem shl_168 (x : Int32) : (x <<< ((16 : Int32) &&& 31)) <<< ((8 : Int32) &&& 31) = x <<< ((24 : Int32) &&& 31) := by
  apply b_ext
  intro i hi
  rw [b_shl8 _ hi, b_shl24 _ hi]
  by_cases h : 8 ≤ i
  · rw [b_shl16 _ (show i - 8 < 32 by omega), decide_eq_true h, Bool.true_and, Nat.sub_sub]
    by_cases h2 : 24 ≤ i
    · rw [decide_eq_true h2, decide_eq_true (show 16 ≤ i - 8 by omega)]
    · rw [decide_eq_false h2, decide_eq_false (show ¬ 16 ≤ i - 8 by omega), Bool.false_and]
  · rw [decide_eq_false h, decide_eq_false (show ¬ 24 ≤ i by omega), Bool.false_and, Bool.false_and]
theorem shl_816 (x : Int32) : (x <<< ((8 : Int32) &&& 31)) <<< ((16 : Int32) &&& 31) = x <<< ((24 : Int32) &&& 31) := by
  apply b_ext
  intro i hi
  rw [b_shl16 _ hi, b_shl24 _ hi]
  by_cases h : 16 ≤ i
  · rw [b_shl8 _ (show i - 16 < 32 by omega), decide_eq_true h, Bool.true_and, Nat.sub_sub]
    by_cases h2 : 24 ≤ i
    · rw [decide_eq_true h2, decide_eq_true (show 8 ≤ i - 16 by omega)]
    · rw [decide_eq_false h2, decide_eq_false (show ¬ 8 ≤ i - 16 by omega), Bool.false_and]
  · rw [decide_eq_false h, decide_eq_false (show ¬ 24 ≤ i by omega), Bool.false_and, Bool.false_and]
theorem zero_or (x : Int32) : ((0 : Int32) <<< ((8 : Int32) &&& 31)) ||| x = x := by
  apply b_ext
  intro i hi
  rw [b_or, b_shl8 _ hi, b_0, Bool.and_false, Bool.false_or]
theorem ok_word {n : Nat} {S : SS} {A : AA} {T : SS} {B : AA} (h : Rel n S A T B) {x : Int32} {P : Int32 → SS → AA → Prop} (hP : ∀ (r : Int32) (S1 : SS) (A1 : AA), OkI n r S1 A1 (fun Q => wM_M_word Q T B x) → P r S1 A1) : wX_T_word P S A x := by
  have hs := h.step
  have e0 : A 0 = B 0 := h.1.1
  unfold wX_T_word wX_Mm_has
  have e92 : (96 : Int32) - (4 : Int32) = 92 := by decide
  rw [e92]
  refine ⟨fun h1 => ⟨fun q => absurd rfl q, fun _ => hP _ _ _ (fun Q hQ => ?_)⟩, fun h1 => ⟨fun h2 => ⟨fun q => absurd rfl q, fun _ => hP _ _ _ (fun Q hQ => ?_)⟩, fun h2 => ⟨fun _ => ?_, fun q => absurd q (by decide)⟩⟩⟩
  · unfold wM_M_word
    exact ⟨fun _ => hQ _ _ hs, fun q => absurd h1 q⟩
  · unfold wM_M_word
    exact ⟨fun q => absurd q h1, fun _ => ⟨fun q => absurd h2 (Int32.not_lt.mpr q), fun _ => hQ _ _ hs⟩⟩
  · have h3 : x ≤ 92 := Int32.not_lt.mp h2
    obtain ⟨j, hj, rfl⟩ := nI_of2 (M := 92) (n := 92) (by decide) h1 h3
    have i0 : vp_in (nI j) 96 := vp_in_nI (by omega) (by decide)
    have i1 : vp_in (nI (j + 1)) 96 := vp_in_nI (by omega) (by decide)
    have i2 : vp_in (nI (j + 2)) 96 := vp_in_nI (by omega) (by decide)
    have i3 : vp_in (nI (j + 3)) 96 := vp_in_nI (by omega) (by decide)
    have a0 : nI j + (0 : Int32) = nI j := nI_add j 0
    have a1 : nI j + (1 : Int32) = nI (j + 1) := nI_add j 1
    have a2 : nI j + (2 : Int32) = nI (j + 2) := nI_add j 2
    have a3 : nI j + (3 : Int32) = nI (j + 3) := nI_add j 3
    have c0 : (nI j).toNatClampNeg = j := nI_clamp (by omega)
    have c1 : (nI (j + 1)).toNatClampNeg = j + 1 := nI_clamp (by omega)
    have c2 : (nI (j + 2)).toNatClampNeg = j + 2 := nI_clamp (by omega)
    have c3 : (nI (j + 3)).toNatClampNeg = j + 3 := nI_clamp (by omega)
    have fin : P ((((A 0 j <<< ((24 : Int32) &&& 31)) ||| (A 0 (j + 1) <<< ((16 : Int32) &&& 31))) ||| (A 0 (j + 2) <<< ((8 : Int32) &&& 31))) ||| A 0 (j + 3)) S A := by
      refine hP _ _ _ (fun Q hQ => ?_)
      unfold wM_M_word
      rw [a1, a2, a3, c0, c1, c2, c3, ← e0]
      exact ⟨fun q => absurd q h1, fun _ => ⟨fun _ => ⟨i0, i1, i2, i3, hQ _ _ hs⟩, fun q => absurd h3 q⟩⟩
    unfold wX_T_word_18
    intro X18 hX18
    apply hX18
    unfold wX_T_word_18B
    rw [a0, c0, zero_or]
    refine ⟨fun q => absurd q (by decide), fun _ => ⟨i0, hX18 _ _ _ _ _ ?_⟩⟩
    unfold wX_T_word_18B
    rw [show (0 : Int32) + (1 : Int32) = 1 from rfl, a1, c1]
    refine ⟨fun q => absurd q (by decide), fun _ => ⟨i1, hX18 _ _ _ _ _ ?_⟩⟩
    unfold wX_T_word_18B
    rw [show (1 : Int32) + (1 : Int32) = 2 from rfl, a2, c2]
    refine ⟨fun q => absurd q (by decide), fun _ => ⟨i2, hX18 _ _ _ _ _ ?_⟩⟩
    unfold wX_T_word_18B
    rw [show (2 : Int32) + (1 : Int32) = 3 from rfl, a3, c3]
    refine ⟨fun q => absurd q (by decide), fun _ => ⟨i3, hX18 _ _ _ _ _ ?_⟩⟩
    unfold wX_T_word_18B
    refine ⟨fun _ => ?_, fun q => absurd (by decide) q⟩
    rw [or_shl8, or_shl8, or_shl8, shl_88, shl_88, shl_816]
    exact fin
/-! a tick, in its four parts -/
def csX (S : SS) (x : Int32) : SS := va_up (va_up (va_up (va_up S 1 x) 18 0) 19 0) 23 0
def csM (T : SS) (x : Int32) : SS := va_up (va_up (va_up (va_up T 3 x) 4 0) 8 0) 12 (-1)
def p1X (S : SS) : SS := if S 8 = 0 then S else if S 10 + 1 < 4 then va_up S 10 (S 10 + 1) else va_up (va_up (va_up S 10 (S 10 + 1)) 7 0) 8 0
def p2X (S : SS) : SS := if S 15 = 0 then S else if S 14 + 1 < 4 then va_up S 14 (S 14 + 1) else va_up (va_up S 14 (S 14 + 1)) 15 0
def p3X (S : SS) : SS := if S 1 = 2 ∧ ¬ S 4 + 1 < 10 ∧ S 8 = 0 ∧ S 15 = 0 then csX (va_up S 4 (S 4 + 1)) 1 else va_up S 4 (S 4 + 1)
def p4X (S : SS) : SS := if S 22 = 0 then S else va_up S 22 (S 22 - 1)
def p1M (T : SS) : SS := if T 16 ≤ T 17 then T else if T 19 + 1 = 4 then va_up (va_up (va_up T 19 (T 19 + 1)) 16 0) 17 0 else va_up T 19 (T 19 + 1)
def p2M (T : SS) : SS := if T 20 ≤ T 21 then T else if T 23 + 1 = 4 then va_up (va_up (va_up T 23 (T 23 + 1)) 20 0) 21 0 else va_up T 23 (T 23 + 1)
def p3M (T : SS) : SS := if T 3 = 2 ∧ ¬ T 11 + 1 < 10 ∧ T 17 = T 16 ∧ T 21 = T 20 then csM (va_up T 11 (T 11 + 1)) 1 else va_up T 11 (T 11 + 1)
def p4M (T : SS) : SS := va_up T 10 (if T 10 ≤ 0 then 0 else T 10 - 1)
theorem hX_tick {post : SS → AA → Prop} {S : SS} {A : AA} (hp : post (p4X (p3X (p2X (p1X S)))) A) : wX_T_tick post S A := by
  unfold wX_T_tick
  have age1 : ∀ {q : SS → AA → Prop}, q (p1X S) A → wX_Rc_age q S A := by
    intro q hq
    unfold wX_Rc_age wX_Rc_drop
    unfold p1X at hq
    refine ⟨fun h => ⟨fun g => ?_, fun g => ?_⟩, fun h => ?_⟩
    · rw [if_neg h, if_pos g] at hq; exact hq
    · rw [if_neg h, if_neg g] at hq; exact hq
    · rw [if_pos h] at hq; exact hq
  refine age1 ?_
  generalize p1X S = S1 at hp
  have age2 : ∀ {q : SS → AA → Prop}, q (p2X S1) A → wX_Sd_age q S1 A := by
    intro q hq
    unfold wX_Sd_age wX_Sd_drop
    unfold p2X at hq
    refine ⟨fun h => ⟨fun g => ?_, fun g => ?_⟩, fun h => ?_⟩
    · rw [if_neg h, if_pos g] at hq; exact hq
    · rw [if_neg h, if_neg g] at hq; exact hq
    · rw [if_pos h] at hq; exact hq
  refine age2 ?_
  generalize p2X S1 = S2 at hp
  have last : ∀ S3 : SS, post (p4X S3) A → wX_T_tick_66 post S3 A := by
    intro S3 hq
    unfold wX_T_tick_66 wX_Lk_shortenDelay
    unfold p4X at hq
    refine ⟨fun h => ?_, fun h => ?_⟩
    · rw [if_pos h] at hq; exact hq
    · rw [if_neg h] at hq; exact hq
  unfold p3X at hp
  refine ⟨fun h1 => last _ ?_, fun h1 => ⟨fun h2 => last _ ?_, fun h2 => ⟨fun h3 => last _ ?_, fun h3 => ⟨fun h4 => last _ ?_, fun h4 => last _ ?_⟩⟩⟩⟩
  · rw [if_neg (fun q => h1 q.1)] at hp; exact hp
  · rw [if_neg (fun q => q.2.1 h2)] at hp; exact hp
  · rw [if_neg (fun q => h3 q.2.2.1)] at hp; exact hp
  · rw [if_neg (fun q => h4 q.2.2.2)] at hp; exact hp
  · rw [if_pos ⟨h1, h2, h3, h4⟩] at hp; exact hp
theorem hM_tick {post : SS → AA → Prop} {T : SS} {B : AA} (hp : post (p4M (p3M (p2M (p1M T)))) B) : wM_M_tick post T B := by
  have last : ∀ T3 : SS, post (p4M T3) B → wM_M_tick_120 post T3 B := by
    intro T3 hq
    unfold wM_M_tick_120 wM_M_tick_138
    unfold p4M at hq
    refine ⟨fun h => ?_, fun h => ?_⟩
    · rw [if_pos h] at hq; exact hq
    · rw [if_neg h] at hq; exact hq
  have third : ∀ T2 : SS, post (p4M (p3M T2)) B → wM_M_tick_66 post T2 B := by
    intro T2 hq
    unfold wM_M_tick_66
    unfold p3M at hq
    refine ⟨fun h1 => last _ ?_, fun h1 => ⟨fun h2 => last _ ?_, fun h2 => ⟨fun h3 => last _ ?_, fun h3 => ⟨fun h4 => last _ ?_, fun h4 => last _ ?_⟩⟩⟩⟩
    · rw [if_neg (fun q => h1 q.1)] at hq; exact hq
    · rw [if_neg (fun q => q.2.1 h2)] at hq; exact hq
    · rw [if_neg (fun q => h3 q.2.2.1)] at hq; exact hq
    · rw [if_neg (fun q => h4 q.2.2.2)] at hq; exact hq
    · rw [if_pos ⟨h1, h2, h3, h4⟩] at hq; exact hq
  have second : ∀ T1 : SS, post (p4M (p3M (p2M T1))) B → wM_M_tick_33 post T1 B := by
    intro T1 hq
    unfold wM_M_tick_33
    unfold p2M at hq
    refine ⟨fun h1 => third _ ?_, fun h1 => ⟨fun h2 => third _ ?_, fun h2 => third _ ?_⟩⟩
    · rw [if_pos h1] at hq; exact hq
    · rw [if_neg h1, if_neg h2] at hq; exact hq
    · rw [if_neg h1, if_pos h2] at hq; exact hq
  unfold wM_M_tick
  unfold p1M at hp
  refine ⟨fun h1 => second _ ?_, fun h1 => ⟨fun h2 => second _ ?_, fun h2 => second _ ?_⟩⟩
  · rw [if_pos h1] at hp; exact hp
  · rw [if_neg h1, if_neg h2] at hp; exact hp
  · rw [if_neg h1, if_pos h2] at hp; exact hp
theorem Rel.p1 {n : Nat} {S : SS} {A : AA} {T : SS} {B : AA} (h : Rel n S A T B) : Rel n (p1X S) A (p1M T) B := by
  obtain ⟨hF, hC, hI, hD, ⟨q1, q2, L, G, q3, q4, q5, q6, q7, q8⟩, hA, hR⟩ := h
  unfold p1X p1M
  rcases Nat.lt_or_ge G L with hg | hg
  · obtain ⟨g1, g2, ⟨a, ha, ea⟩, lt, hlt, el, e9⟩ := q8 hg
    have n8 : ¬ S 8 = 0 := by rw [q7]; exact nI_ne0 (by omega) (by omega)
    have nle : ¬ T 16 ≤ T 17 := by rw [q3, q4]; exact nI_ge hg (by omega)
    have e1 : T 19 + 1 = nI (a + 1) := by rw [ea]; exact pz_inc a
    rw [if_neg n8, if_neg nle, g2, e1]
    by_cases h4 : a + 1 = 4
    · rw [if_neg (show ¬ nI (a + 1) < 4 by rw [h4]; decide), if_pos (show nI (a + 1) = 4 by rw [h4]; rfl)]
      exact ⟨hF, hC, hI, hD, ⟨q1, q2, 0, 0, rfl, rfl, Nat.le_refl _, by decide, rfl, fun q => absurd q (Nat.lt_irrefl 0)⟩, hA, hR⟩
    · rw [if_pos (show nI (a + 1) < 4 from (pz_lt (b := 4) (by omega) (by decide)).mpr (by omega)), if_neg (show ¬ nI (a + 1) = 4 from fun q => h4 ((nI_eq (b := 4) (by omega) (by decide)).mp q))]
      exact ⟨hF, hC, hI, hD, ⟨q1, q2, L, G, q3, q4, q5, q6, q7, fun _ => ⟨g1, rfl, ⟨a + 1, by omega, rfl⟩, lt, hlt, el, e9⟩⟩, hA, hR⟩
  · have hz : L - G = 0 := by omega
    have z8 : S 8 = 0 := by rw [q7, hz]; rfl
    have hle : T 16 ≤ T 17 := by rw [q3, q4]; exact nI_le hg (by omega)
    rw [if_pos z8, if_pos hle]
    exact ⟨hF, hC, hI, hD, ⟨q1, q2, L, G, q3, q4, q5, q6, q7, q8⟩, hA, hR⟩
theorem Rel.p2 {n : Nat} {S : SS} {A : AA} {T : SS} {B : AA} (h : Rel n S A T B) : Rel n (p2X S) A (p2M T) B := by
  obtain ⟨hF, hC, hI, hD, hQ, hA, hR⟩ := h
  unfold p2X p2M
  rcases hA with ⟨a1, a2, a3⟩ | ⟨a1, a2, a3, a4, a5, a6, a7, a8, ⟨w, hw, ew⟩, a9⟩
  · rw [if_pos a1, a2, a3, if_pos (Int32.le_refl _)]
    exact ⟨hF, hC, hI, hD, hQ, Or.inl ⟨a1, a2, a3⟩, hR⟩
  · have e1 : T 23 + 1 = nI (w + 1) := by rw [ew]; exact pz_inc w
    rw [a1, if_neg (by decide : ¬ (1 : Int32) = 0), a5, a6, if_neg (by decide : ¬ (10 : Int32) ≤ 6), a8, e1]
    by_cases h4 : w + 1 = 4
    · rw [if_neg (show ¬ nI (w + 1) < 4 by rw [h4]; decide), if_pos (show nI (w + 1) = 4 by rw [h4]; rfl)]
      exact ⟨hF, hC, hI, hD, hQ, Or.inl ⟨rfl, rfl, rfl⟩, hR⟩
    · rw [if_pos (show nI (w + 1) < 4 from (pz_lt (b := 4) (by omega) (by decide)).mpr (by omega)), if_neg (show ¬ nI (w + 1) = 4 from fun q => h4 ((nI_eq (b := 4) (by omega) (by decide)).mp q))]
      exact ⟨hF, hC, hI, hD, hQ, Or.inr ⟨a1, a2, a3, a4, a5, a6, a7, rfl, ⟨w + 1, by omega, rfl⟩, a9⟩, hR⟩
theorem Rel.session {n : Nat} {S : SS} {A : AA} {T : SS} {B : AA} {x : Int32} (hx : x = 1 ∨ x = 2) (hx2 : x = 2 → S 4 = T 11) (h : Rel n S A T B) : Rel n (csX S x) A (csM T x) B := by
  obtain ⟨hF, ⟨c1, c2, c3, c4, c5, c6, c7, c8, c9, c10, c11, c12, c13, c14⟩, ⟨i1, i2, i3⟩, hD, hQ, hA, hR⟩ := h
  exact ⟨hF, ⟨c1, c2, rfl, hx, rfl, Or.inl rfl, c7, c8, c9, c10, c11, rfl, ⟨0, by decide, rfl⟩, c14⟩, ⟨hx2, i2, i3⟩, Or.inl ⟨rfl, rfl⟩, hQ, hA, hR⟩
theorem Rel.p3 {n : Nat} {S : SS} {A : AA} {T : SS} {B : AA} (hn : n < 2 ^ 20) (h : Rel n S A T B) : Rel (n + 1) (p3X S) A (p3M T) B := by
  obtain ⟨hF, hC, ⟨i1, ⟨i, hi, ei⟩, ⟨i', hi', ei'⟩⟩, hD, hQ, hA, hR⟩ := h.step
  have hi : i ≤ n := by
    obtain ⟨-, -, ⟨-, ⟨i2, hi2, ei2⟩, -⟩, -⟩ := h
    have := (nI_eq (a := i) (b := i2) (by omega) (by omega)).mp (ei.symm.trans ei2)
    omega
  have hi' : i' ≤ n := by
    obtain ⟨-, -, ⟨-, -, ⟨i2, hi2, ei2⟩⟩, -⟩ := h
    have := (nI_eq (a := i') (b := i2) (by omega) (by omega)).mp (ei'.symm.trans ei2)
    omega
  have e1 : T 11 + 1 = nI (i + 1) := by rw [ei]; exact pz_inc i
  have e2 : S 4 + 1 = nI (i' + 1) := by rw [ei']; exact pz_inc i'
  -- the states with one tick more
  have hup : Rel (n + 1) (va_up S 4 (S 4 + 1)) A (va_up T 11 (T 11 + 1)) B := by
    refine ⟨hF, hC, ⟨fun q => ?_, ⟨i + 1, by omega, e1⟩, ⟨i' + 1, by omega, e2⟩⟩, hD, hQ, hA, hR⟩
    show S 4 + 1 = T 11 + 1
    rw [i1 q]
  have h16 : T 17 = T 16 ↔ S 8 = 0 := by
    obtain ⟨-, -, L, G, q3, q4, q5, q6, q7, -⟩ := hQ
    rw [q3, q4, q7, nI_eq (by omega) (by omega), show (nI (L - G) = 0 ↔ L - G = 0) from nI_eq (b := 0) (by omega) (by decide)]
    omega
  have h20 : T 21 = T 20 ↔ S 15 = 0 := by
    rcases hA with ⟨a1, a2, a3⟩ | ⟨a1, a2, a3, a4, a5, a6, -⟩
    · rw [a1, a2, a3]
    · rw [a1, a5, a6]; exact ⟨fun q => absurd q (by decide), fun q => absurd q (by decide)⟩
  unfold p3X p3M
  have h3 : S 1 = T 3 := hC.2.2.1
  by_cases hs : T 3 = 2
  · have h4 : S 4 = T 11 := i1 hs
    by_cases hc : S 1 = 2 ∧ ¬ S 4 + 1 < 10 ∧ S 8 = 0 ∧ S 15 = 0
    · rw [if_pos hc, if_pos ⟨hs, by rw [← h4]; exact hc.2.1, h16.mpr hc.2.2.1, h20.mpr hc.2.2.2⟩]
      exact hup.session (Or.inl rfl) (fun q => absurd q (by decide))
    · rw [if_neg hc, if_neg (fun q => hc ⟨h3.trans hs, by rw [h4]; exact q.2.1, h16.mp q.2.2.1, h20.mp q.2.2.2⟩)]
      exact hup
  · rw [if_neg (fun q => hs (h3.symm.trans q.1)), if_neg (fun q => hs q.1)]
    exact hup
theorem Rel.p4 {n : Nat} {S : SS} {A : AA} {T : SS} {B : AA} (h : Rel n S A T B) : Rel n (p4X S) A (p4M T) B := by
  obtain ⟨hF, ⟨c1, c2, c3, c4, c5, c6, c7, c8, c9, c10, c11, c12, c13, c14, c15, c16, d, hd, ed⟩, hI, hD, hQ, hA, hR⟩ := h
  unfold p4X p4M
  rcases (show d = 0 ∨ ∃ d1, d = d1 + 1 from by cases d with | zero => exact Or.inl rfl | succ d1 => exact Or.inr ⟨d1, rfl⟩) with rfl | ⟨d1, rfl⟩
  · have z : T 10 = 0 := ed
    rw [c16, z, if_pos rfl, if_pos (by decide)]
    have e : va_up T 10 (0 : Int32) = T := by rw [← z]; exact pz_up T 10
    rw [e]
    exact ⟨hF, ⟨c1, c2, c3, c4, c5, c6, c7, c8, c9, c10, c11, c12, c13, c14, c15, c16, 0, by decide, ed⟩, hI, hD, hQ, hA, hR⟩
  · have e : T 10 - 1 = nI d1 := by rw [ed]; exact nI_pred d1
    rw [c16, if_neg (show ¬ T 10 = 0 by rw [ed]; exact nI_ne0 (by omega) (by omega)), if_neg (show ¬ T 10 ≤ 0 by rw [ed]; exact nI_nle (by omega) (by omega)), e]
    exact ⟨hF, ⟨c1, c2, c3, c4, c5, c6, c7, c8, c9, c10, c11, c12, c13, c14, c15, rfl, d1, by omega, rfl⟩, hI, hD, hQ, hA, hR⟩
theorem ok_tick {n : Nat} (hn : n < 2 ^ 20) {S : SS} {A : AA} {T : SS} {B : AA} (h : Rel n S A T B) {P : SS → AA → Prop} (hP : ∀ (S1 : SS) (A1 : AA), OkV n S1 A1 (fun Q => wM_M_tick Q T B) → P S1 A1) : wX_T_tick P S A :=
  hX_tick (hP _ _ (fun Q hQ => hM_tick (hQ _ _ (((h.p1).p2).p3 hn).p4)))
/-! frames that are put into the row -/
theorem pz_com {α : Type} (f : Nat → α) {i j : Nat} (h : i ≠ j) (x y : α) : va_up (va_up f i x) j y = va_up (va_up f j y) i x := by
  funext k
  unfold va_up
  by_cases h1 : k = j
  · subst h1
    rw [if_pos rfl, if_neg (fun q => h q.symm), if_pos rfl]
  · rw [if_neg h1]
    by_cases h2 : k = i
    · rw [if_pos h2, if_pos h2]
    · rw [if_neg h2, if_neg h2, if_neg h1]
/-- a stretch of a row laid anew -/
def lay (g : Nat → Int32) (st n : Nat) (h : Nat → Int32) : Nat → Int32 := fun i => if st ≤ i ∧ i < st + n then h (i - st) else g i
theorem lay_0 (g : Nat → Int32) (st : Nat) (h : Nat → Int32) : lay g st 0 h = g := by
  funext i
  exact if_neg (by omega)
theorem lay_s (g : Nat → Int32) (st n : Nat) (h : Nat → Int32) : upd (lay g st n h) (st + n) (h n) = lay g st (n + 1) h := by
  funext i
  unfold upd lay
  by_cases h1 : i = st + n
  · subst h1
    rw [if_pos rfl, if_pos (by omega), Nat.add_sub_cancel_left]
  · rw [if_neg h1]
    by_cases h2 : st ≤ i ∧ i < st + n
    · rw [if_pos h2, if_pos (by omega)]
    · rw [if_neg h2, if_neg (by omega)]
theorem lay_in {g : Nat → Int32} {st n : Nat} {h : Nat → Int32} {k : Nat} (hk : k < n) : lay g st n h (st + k) = h k := by
  unfold lay
  rw [if_pos (by omega), Nat.add_sub_cancel_left]
theorem lay_out {g : Nat → Int32} {st n : Nat} {h : Nat → Int32} {i : Nat} (hi : i < st ∨ st + n ≤ i) : lay g st n h i = g i := if_neg (by omega)
theorem lay_lay (g : Nat → Int32) (st n : Nat) (h1 h2 : Nat → Int32) : lay (lay g st n h1) st n h2 = lay g st n h2 := by
  funext i
  unfold lay
  by_cases h : st ≤ i ∧ i < st + n
  · rw [if_pos h, if_pos h]
  · rw [if_neg h, if_neg h, if_neg h]
theorem lay_congr {g : Nat → Int32} {st n : Nat} {h1 h2 : Nat → Int32} (h : ∀ k, k < n → h1 k = h2 k) : lay g st n h1 = lay g st n h2 := by
  funext i
  unfold lay
  by_cases hi : st ≤ i ∧ i < st + n
  · rw [if_pos hi, if_pos hi, h _ (by omega)]
  · rw [if_neg hi, if_neg hi]
theorem hX_put {post : SS → AA → Prop} {S : SS} {A : AA} {c f : Nat} (e17 : S 17 = nI c) (hc : c ≤ 12) (e16 : S 16 = nI f) (hf : f < 12) (h0 : c = 12 → post S A) (h1 : c < 12 → post (va_up S 17 (nI (c + 1))) (va_up A 2 (lay (A 2) (((f + c) % 12) * 8) 8 (A 4)))) : wX_Rw_put_9 post S A := by
  unfold wX_Rw_put_9
  refine ⟨fun h => h0 ?_, fun h => ?_⟩
  · rw [e17] at h
    exact (nI_eq (b := 12) (by omega) (by decide)).mp h
  · have hc : c < 12 := by
      have : ¬ c = 12 := fun q => h (by rw [e17, q]; rfl)
      omega
    have hp := h1 hc
    have est : (((S 16 + S 17) - (S 16 + S 17) / (12 : Int32) * (12 : Int32)) * (8 : Int32)) = nI (((f + c) % 12) * 8) := by
      rw [e16, e17, nI_add, show nI (f + c) - nI (f + c) / (12 : Int32) * (12 : Int32) = nI ((f + c) % 12) from pk_rem (d := 12) (by omega) (by decide) (by decide)]
      exact pk_mul _ 8
    rw [est]
    have hst : (f + c) % 12 < 12 := Nat.mod_lt _ (by decide)
    generalize hse : (f + c) % 12 * 8 = st at hp
    have hst : st + 8 ≤ 96 := by omega
    unfold wX_Rw_put_9_35
    intro X35 hX35
    have key : ∀ m k : Nat, k + m = 8 → X35 S (va_up A 2 (lay (A 2) st k (A 4))) (nI st) (nI k) := by
      intro m
      induction m with
      | zero =>
        intro k hk
        have hk : k = 8 := by omega
        subst hk
        apply hX35
        unfold wX_Rw_put_9_35B
        refine ⟨fun _ => ?_, fun q => absurd (show (8 : Int32) ≤ nI 8 from Int32.le_refl _) q⟩
        rw [e17, pz_inc]
        exact hp
      | succ m ih =>
        intro k hk
        apply hX35
        unfold wX_Rw_put_9_35B
        rw [nI_add, nI_clamp (n := st + k) (by omega), nI_clamp (n := k) (by omega), pz_us, pz_upup, pz_un A _ (show (4 : Nat) ≠ 2 by decide), lay_s, pz_inc]
        exact ⟨fun q => absurd q (nI_ge (b := 8) (by omega) (by decide)), fun _ => ⟨vp_in_nI (by omega) (by decide), vp_in_nI (by omega) (by decide), ih (k + 1) (by omega)⟩⟩
    have h2 := key 8 0 rfl
    rw [lay_0, pz_up] at h2
    exact h2
/-- a frame's bytes behind what stands in front: as many as are there, then zeros -/
def fill (h : Nat → Int32) (bg : Nat) (src : Nat → Int32) (s n : Nat) : Nat → Int32 := fun i => if i < bg then h i else if i - bg < n then src (s + (i - bg)) else 0
theorem hX_putFrom {post : SS → AA → Prop} {S : SS} {A : AA} {cnt s bg : Nat} (e11 : S 11 = nI cnt) (hcnt : cnt ≤ 10) (e12 : S 12 = nI s) (hs : s ≤ cnt) (hbg : bg ≤ 8) (hp : ∀ g : Nat → Int32, (∀ i, i < 8 → g i = fill (A 4) bg (A 3) s (cnt - s) i) → wX_Rw_put_9 post (va_up S 12 (nI (s + min (8 - bg) (cnt - s)))) (va_up A 4 g)) : wX_Sd_putFrom post S A (nI bg) := by
  unfold wX_Sd_putFrom wX_Sd_putFrom_2
  intro X2 hX2
  have key : ∀ m k : Nat, k + m = 8 → bg ≤ k → ∀ g : Nat → Int32, (∀ i, i < k → g i = fill (A 4) bg (A 3) s (cnt - s) i) → (∀ i, k ≤ i → g i = A 4 i) → X2 (va_up S 12 (nI (s + min (k - bg) (cnt - s)))) (va_up A 4 g) (nI k) := by
    intro m
    induction m with
    | zero =>
      intro k hk hb g hg _
      have hk : k = 8 := by omega
      subst hk
      apply hX2
      unfold wX_Sd_putFrom_2B
      exact ⟨fun _ => hp g hg, fun q => absurd (show (8 : Int32) ≤ nI 8 from Int32.le_refl _) q⟩
    | succ m ih =>
      intro k hk hb g hg hg2
      apply hX2
      unfold wX_Sd_putFrom_2B wX_Sd_putFrom_32 wX_Sd_putFrom_33 wX_Sd_putFrom_56 wX_Sd_putFrom_71
      have e11' : (va_up S 12 (nI (s + min (k - bg) (cnt - s)))) 11 = nI cnt := e11
      have e12' : (va_up S 12 (nI (s + min (k - bg) (cnt - s)))) 12 = nI (s + min (k - bg) (cnt - s)) := rfl
      have e3' : (va_up A 4 g) 3 = A 3 := rfl
      have e4' : (va_up A 4 g) 4 = g := rfl
      have hik : vp_in (nI k) 8 := vp_in_nI (by omega) (by decide)
      rw [e11', e12', e3', e4', nI_clamp (n := k) (by omega), nI_clamp (n := s + min (k - bg) (cnt - s)) (by omega), pz_inc, pz_upup, pz_upup, pz_upup]
      have nxt : ∀ v : Int32, v = fill (A 4) bg (A 3) s (cnt - s) k → X2 (va_up S 12 (nI (s + min (k + 1 - bg) (cnt - s)))) (va_up A 4 (upd g k v)) (nI (k + 1)) := by
        intro v hv
        refine ih (k + 1) (by omega) (by omega) _ (fun i hi => ?_) (fun i hi => ?_)
        · unfold upd
          by_cases h1 : i = k
          · rw [if_pos h1, hv, h1]
          · rw [if_neg h1]; exact hg i (by omega)
        · unfold upd
          rw [if_neg (by omega)]
          exact hg2 i (by omega)
      have fk : fill (A 4) bg (A 3) s (cnt - s) k = if k - bg < cnt - s then A 3 (s + (k - bg)) else 0 := by
        unfold fill
        rw [if_neg (by omega)]
      refine ⟨fun q => absurd q (nI_ge (b := 8) (by omega) (by decide)), fun _ => ?_⟩
      by_cases hm : k - bg < cnt - s
      · have h1 : ¬ nI cnt ≤ nI (s + min (k - bg) (cnt - s)) := nI_ge (by omega) (by omega)
        have h2 : ¬ (10 : Int32) ≤ nI (s + min (k - bg) (cnt - s)) := nI_ge (b := 10) (by omega) (by decide)
        have n1 := nxt (A 3 (s + (k - bg))) (by rw [fk, if_pos hm])
        have e : s + min (k - bg) (cnt - s) = s + (k - bg) := by omega
        have e2 : nI (s + min (k - bg) (cnt - s)) + (1 : Int32) = nI (s + min (k + 1 - bg) (cnt - s)) := by rw [pz_inc]; congr 1; omega
        refine ⟨fun q => absurd q h1, fun _ => ⟨fun q => absurd q h2, fun _ => ⟨fun q => absurd q (by decide), fun _ => ⟨vp_in_nI (by omega) (by decide), hik, fun q => absurd q (by decide), fun _ => ?_⟩⟩⟩⟩
        rw [e2, e, pz_upup]
        exact n1
      · have h1 : nI cnt ≤ nI (s + min (k - bg) (cnt - s)) := nI_le (by omega) (by omega)
        have n1 := nxt 0 (by rw [fk, if_neg hm])
        have e2 : nI (s + min (k - bg) (cnt - s)) + (0 : Int32) = nI (s + min (k + 1 - bg) (cnt - s)) := by
          rw [show nI (s + min (k - bg) (cnt - s)) + (0 : Int32) = nI (s + min (k - bg) (cnt - s) + 0) from nI_add _ 0]
          congr 1
          omega
        have go : vp_in (nI k) 8 ∧ (((0 : Int32) = 0 → X2 (va_up S 12 (nI (s + min (k - bg) (cnt - s)) + 0)) (va_up A 4 (upd g k 0)) (nI (k + 1))) ∧ (¬ (0 : Int32) = 0 → X2 (va_up S 12 (nI (s + min (k - bg) (cnt - s)) + 1)) (va_up A 4 (upd g k 0)) (nI (k + 1)))) := ⟨hik, fun _ => by rw [e2]; exact n1, fun q => absurd rfl q⟩
        exact ⟨fun _ => ⟨fun _ => go, fun q => absurd rfl q⟩, fun q => absurd h1 q⟩
  have h0 := key (8 - bg) bg (by omega) (Nat.le_refl _) (A 4) (fun i hi => by unfold fill; rw [if_pos hi]) (fun _ _ => rfl)
  rw [show s + min (bg - bg) (cnt - s) = s by omega, ← e12, pz_up, pz_up] at h0
  exact h0
/-- the reference's frame: what stands in front (one byte, or two), then the answer's bytes, then zeros -/
theorem hM_emit {post : SS → AA → Prop} {T : SS} {B : AA} {a s most c off : Nat} {one two : Int32} (e20 : T 20 = nI a) (ha : a ≤ 20) (e21 : T 21 = nI s) (hs : s ≤ a) (e24 : T 24 = nI c) (hc : c ≤ 12) (hoff : (two < 0 ∧ off = 1) ∨ (¬ two < 0 ∧ off = 2)) (hm : off + min (a - s) most ≤ 8) (hmost : most < 2 ^ 20)
    (h0 : c = 12 → post (va_up T 21 (nI (s + min (a - s) most))) B)
    (h1 : c < 12 → ∀ g : Nat → Int32, (∀ k, k < 8 → g k = fill (fun i => if i = 0 then one else two) off (B 2) s (min (a - s) most) k) → post (va_up (va_up T 24 (nI (c + 1))) 21 (nI (s + min (a - s) most))) (va_up B 3 (lay (B 3) (8 * c) 8 g))) : wM_M_emit post T B one two (nI most) := by
  have main : ∀ n : Nat, n = min (a - s) most → wM_M_emit_26 post T B one two (nI n) := by
    intro n hn
    subst hn
    unfold wM_M_emit_26
    generalize hne : min (a - s) most = n at hm h0 h1
    have e21' : T 21 + nI n = nI (s + n) := by rw [e21, nI_add]
    refine ⟨fun h => ?_, fun h => ?_⟩
    · have hc12 : c = 12 := by
        rw [e24] at h
        have := (pz_le (a := 12) (b := c) (by decide) (by omega)).mp h
        omega
      unfold wM_M_emit_152
      rw [e21']
      exact h0 hc12
    · have hc12 : c < 12 := by
        rw [e24] at h
        have : ¬ 12 ≤ c := fun q => h ((pz_le (a := 12) (b := c) (by decide) (by omega)).mpr q)
        omega
      have e8 : (8 : Int32) * T 24 = nI (8 * c) := by rw [e24]; exact pk_mul 8 c
      -- the copying of the answer's bytes, from a row on
      have copy : ∀ (R : Nat → Int32), (∀ i, i < off → R (8 * c + i) = (if i = 0 then one else two)) → (∀ i, off ≤ i → i < 8 → R (8 * c + i) = 0) → (∀ i, i < 8 * c ∨ 8 * c + 8 ≤ i → R i = B 3 i) → wM_M_emit_104 post T (va_up B 3 R) (nI n) (nI (8 * c + off)) := by
        intro R r1 r2 r3
        unfold wM_M_emit_104 wM_M_emit_107
        intro X107 hX107
        have key : ∀ m k : Nat, k + m = n → ∀ R' : Nat → Int32, (∀ i, i < off → R' (8 * c + i) = (if i = 0 then one else two)) → (∀ i, i < k → R' (8 * c + off + i) = B 2 (s + i)) → (∀ i, off + k ≤ i → i < 8 → R' (8 * c + i) = 0) → (∀ i, i < 8 * c ∨ 8 * c + 8 ≤ i → R' i = B 3 i) → X107 T (va_up B 3 R') (nI n) (nI (8 * c + off)) (nI k) := by
          intro m
          induction m with
          | zero =>
            intro k hk R' q1 q2 q3 q4
            have hk : k = n := by omega
            subst hk
            apply hX107
            unfold wM_M_emit_107B
            refine ⟨fun _ => ?_, fun q => absurd (Int32.le_refl _) q⟩
            unfold wM_M_emit_152
            have e : (va_up T 24 (T 24 + 1)) 21 = T 21 := rfl
            rw [e, e21', e24, pz_inc]
            have hg := h1 hc12 (fun i => R' (8 * c + i)) (fun i hi => by
              show R' (8 * c + i) = _
              unfold fill
              by_cases h1 : i < off
              · rw [if_pos h1]; exact q1 i h1
              · rw [if_neg h1]
                by_cases h2 : i - off < k
                · rw [if_pos h2]
                  have := q2 (i - off) h2
                  rw [show 8 * c + off + (i - off) = 8 * c + i by omega] at this
                  exact this
                · rw [if_neg h2]; exact q3 i (by omega) hi)
            have el : lay (B 3) (8 * c) 8 (fun i => R' (8 * c + i)) = R' := by
              funext i
              unfold lay
              by_cases h : 8 * c ≤ i ∧ i < 8 * c + 8
              · rw [if_pos h]
                show R' (8 * c + (i - 8 * c)) = R' i
                congr 1
                omega
              · rw [if_neg h]
                exact (q4 i (by omega)).symm
            rw [el] at hg
            exact hg
          | succ m ih =>
            intro k hk R' q1 q2 q3 q4
            apply hX107
            unfold wM_M_emit_107B
            have e2 : (va_up B 3 R') 2 = B 2 := rfl
            have e3 : (va_up B 3 R') 3 = R' := rfl
            rw [e2, e3, e21, nI_add, nI_add, nI_clamp (n := s + k) (by omega), nI_clamp (n := 8 * c + off + k) (by omega), pz_upup, pz_inc]
            refine ⟨fun q => absurd q (nI_ge (by omega) (by omega)), fun _ => ⟨vp_in_nI (by omega) (by decide), vp_in_nI (by omega) (by decide), ?_⟩⟩
            refine ih (k + 1) (by omega) _ (fun i hi => ?_) (fun i hi => ?_) (fun i hi hi8 => ?_) (fun i hi => ?_)
            · unfold upd; rw [if_neg (by omega)]; exact q1 i hi
            · unfold upd
              by_cases h1 : i = k
              · rw [h1, if_pos rfl]
              · rw [if_neg (by omega)]; exact q2 i (by omega)
            · unfold upd; rw [if_neg (by omega)]; exact q3 i (by omega) hi8
            · unfold upd; rw [if_neg (by omega)]; exact q4 i hi
        exact key n 0 (by omega) R r1 (fun i hi => absurd hi (Nat.not_lt_zero i)) (fun i hi hi8 => r2 i (by omega) hi8) r3
      unfold wM_M_emit_40
      intro X40 hX40
      have key : ∀ m k : Nat, k + m = 8 → X40 T (va_up B 3 (lay (B 3) (8 * c) k (fun _ => 0))) one two (nI n) (nI k) := by
        intro m
        induction m with
        | zero =>
          intro k hk
          have hk : k = 8 := by omega
          subst hk
          apply hX40
          unfold wM_M_emit_40B
          have e3 : (va_up B 3 (lay (B 3) (8 * c) 8 (fun _ => 0))) 3 = lay (B 3) (8 * c) 8 (fun _ => 0) := rfl
          rw [e8, e3, show nI (8 * c) + (1 : Int32) = nI (8 * c + 1) from nI_add _ 1, show nI (8 * c + 1) + (1 : Int32) = nI (8 * c + 2) from nI_add _ 1, nI_clamp (n := 8 * c) (by omega), nI_clamp (n := 8 * c + 1) (by omega), pz_upup, pz_upup]
          refine ⟨fun _ => ⟨vp_in_nI (by omega) (by decide), fun h => ?_, fun h => ⟨vp_in_nI (by omega) (by decide), ?_⟩⟩, fun q => absurd (show (8 : Int32) ≤ nI 8 from Int32.le_refl _) q⟩
          · have ho : off = 1 := by rcases hoff with ⟨_, h2⟩ | ⟨h2, _⟩; exact h2; exact absurd h h2
            subst ho
            refine copy _ (fun i hi => ?_) (fun i hi hi8 => ?_) (fun i hi => ?_)
            · have : i = 0 := by omega
              subst this
              unfold upd
              exact if_pos (by omega)
            · unfold upd
              rw [if_neg (by omega)]
              exact lay_in hi8
            · unfold upd
              rw [if_neg (by omega)]
              exact lay_out hi
          · have ho : off = 2 := by rcases hoff with ⟨h2, _⟩ | ⟨_, h2⟩; exact absurd h2 h; exact h2
            subst ho
            refine copy _ (fun i hi => ?_) (fun i hi hi8 => ?_) (fun i hi => ?_)
            · unfold upd
              by_cases h0 : i = 0
              · subst h0
                rw [if_neg (by omega)]
                exact if_pos (by omega)
              · have : i = 1 := by omega
                subst this
                rw [if_pos rfl, if_neg (by decide)]
            · unfold upd
              rw [if_neg (by omega), if_neg (by omega)]
              exact lay_in hi8
            · unfold upd
              rw [if_neg (by omega), if_neg (by omega)]
              exact lay_out hi
        | succ m ih =>
          intro k hk
          apply hX40
          unfold wM_M_emit_40B
          have e3 : (va_up B 3 (lay (B 3) (8 * c) k (fun _ => 0))) 3 = lay (B 3) (8 * c) k (fun _ => 0) := rfl
          rw [e8, e3, nI_add, nI_clamp (n := 8 * c + k) (by omega)]
          refine ⟨fun q => absurd q (nI_ge (b := 8) (by omega) (by decide)), fun _ => ⟨vp_in_nI (by omega) (by decide), ?_⟩⟩
          have h2 := ih (k + 1) (by omega)
          rw [← lay_s] at h2
          rw [pz_upup, pz_inc]
          exact h2
      have h2 := key 8 0 rfl
      rw [lay_0, pz_up] at h2
      exact h2
  unfold wM_M_emit
  have ed : T 20 - T 21 = nI (a - s) := by rw [e20, e21]; exact pk_sub hs
  rw [ed]
  refine ⟨fun h => main most ?_, fun h => main (a - s) ?_⟩
  · have := (pz_le (by omega) (by omega)).mp h
    omega
  · have : ¬ most ≤ a - s := fun q => h ((pz_le (by omega) (by omega)).mpr q)
    omega
/-- both rows get the same frame -/
theorem RelR.push {A B : AA} {c f : Nat} {g h : Nat → Int32} (hc : c < 12) (hf : f < 12) (hr : ∀ j, j < c → ∀ k, k < 8 → A 2 (((f + j) % 12) * 8 + k) = B 3 (8 * j + k)) (e : ∀ k, k < 8 → g k = h k) : ∀ j, j < c + 1 → ∀ k, k < 8 → lay (A 2) (((f + c) % 12) * 8) 8 g (((f + j) % 12) * 8 + k) = lay (B 3) (8 * c) 8 h (8 * j + k) := by
  intro j hj k hk
  by_cases h1 : j = c
  · subst h1
    rw [lay_in hk, lay_in hk]
    exact e k hk
  · rw [lay_out (by omega), lay_out (by omega)]
    exact hr j (by omega) k hk
/-! frames that come: their bytes, and the bytes of a request -/
def frb (f r : Int32) (j : Nat) : Int32 := ((if j < 4 then f else r).toUInt32 >>> ((nI (24 - 8 * (j % 4))).toUInt32 &&& Int32.toUInt32 31)).toInt32 &&& (255 : Int32)
theorem frb_byte (f r : Int32) (j : Nat) : ∃ b : Nat, b < 256 ∧ frb f r j = nI b := by
  obtain ⟨b, hb, e⟩ := pk_andE ((if j < 4 then f else r).toUInt32 >>> ((nI (24 - 8 * (j % 4))).toUInt32 &&& Int32.toUInt32 31)).toInt32 (m := 255) 8 (by decide +kernel)
  exact ⟨b, hb, e⟩
theorem frb_lo (f r : Int32) {k : Nat} (hk : k < 4) : (f.toUInt32 >>> (((24 : Int32) - ((8 : Int32) * nI k)).toUInt32 &&& Int32.toUInt32 31)).toInt32 &&& (255 : Int32) = frb f r k := by
  unfold frb
  rw [if_pos hk, Nat.mod_eq_of_lt hk, show (8 : Int32) * nI k = nI (8 * k) from pk_mul 8 k, show (24 : Int32) - nI (8 * k) = nI (24 - 8 * k) from pk_sub (a := 24) (by omega)]
theorem frb_hi (f r : Int32) {k : Nat} (hk : k < 4) : (r.toUInt32 >>> (((24 : Int32) - ((8 : Int32) * nI k)).toUInt32 &&& Int32.toUInt32 31)).toInt32 &&& (255 : Int32) = frb f r (4 + k) := by
  unfold frb
  rw [if_neg (by omega), show (4 + k) % 4 = k by omega, show (8 : Int32) * nI k = nI (8 * k) from pk_mul 8 k, show (24 : Int32) - nI (8 * k) = nI (24 - 8 * k) from pk_sub (a := 24) (by omega)]
theorem hX_byteOf {post : Int32 → SS → AA → Prop} {S : SS} {A : AA} {f r : Int32} {j : Nat} (hj : j < 8) (hp : post (frb f r j) S A) : wX_T_byteOf post S A f r (nI j) := by
  unfold wX_T_byteOf wX_T_byteOf_10
  have e : (24 : Int32) - ((8 : Int32) * (nI j &&& (3 : Int32))) = nI (24 - 8 * (j % 4)) := by
    rw [show nI j &&& (3 : Int32) = nI (j % 4) from pk_andN (by omega) 2 (by decide +kernel), show (8 : Int32) * nI (j % 4) = nI (8 * (j % 4)) from pk_mul 8 _]
    exact pk_sub (a := 24) (by omega)
  rw [e]
  unfold frb at hp
  refine ⟨fun h => ?_, fun h => ?_⟩
  · have h4 : 4 ≤ j := (pz_le (a := 4) (by decide) (by omega)).mp h
    rw [if_neg (by omega)] at hp
    exact hp
  · have h4 : j < 4 := Nat.lt_of_not_le (fun q => h ((pz_le (a := 4) (by decide) (by omega)).mpr q))
    rw [if_pos h4] at hp
    exact hp
theorem up_78 (S : SS) (a b c d : Int32) : va_up (va_up (va_up (va_up S 7 a) 8 b) 7 c) 8 d = va_up (va_up S 7 c) 8 d := by
  rw [pz_com (va_up S 7 a) (show (8 : Nat) ≠ 7 by decide) b c, pz_upup, pz_upup]
/-- the program takes the bytes of a frame from one on -/
theorem hX_add {post : SS → AA → Prop} {S : SS} {A : AA} {f r : Int32} {g w fr : Nat} (e7 : S 7 = nI g) (e8 : S 8 = nI w) (hgw : g + w ≤ 34) (hfr : fr ≤ 8) (hp : post (va_up (va_up (va_up S 10 0) 7 (nI (g + min (8 - fr) w))) 8 (nI (w - min (8 - fr) w))) (va_up A 1 (lay (A 1) g (min (8 - fr) w) (fun i => frb f r (fr + i))))) : wX_Rc_add post S A f r (nI fr) := by
  unfold wX_Rc_add wX_Rc_add_8
  intro X8 hX8
  have key : ∀ m k : Nat, k + m = min (8 - fr) w → X8 (va_up (va_up (va_up S 10 0) 7 (nI (g + k))) 8 (nI (w - k))) (va_up A 1 (lay (A 1) g k (fun i => frb f r (fr + i)))) f r (nI (fr + k)) := by
    intro m
    induction m with
    | zero =>
      intro k hk
      have hk : k = min (8 - fr) w := by omega
      rw [← hk] at hp
      apply hX8
      unfold wX_Rc_add_8B
      have e8' : (va_up (va_up (va_up S 10 0) 7 (nI (g + k))) 8 (nI (w - k))) 8 = nI (w - k) := rfl
      rw [e8']
      refine ⟨fun _ => hp, fun h1 => ⟨fun _ => hp, fun h2 => ?_⟩⟩
      exfalso
      have a1 : fr + k < 8 := Nat.lt_of_not_le (fun q => h1 ((pz_le (a := 8) (by decide) (by omega)).mpr q))
      have a2 : ¬ w - k = 0 := fun q => h2 (by rw [q]; exact Int32.le_refl _)
      omega
    | succ m ih =>
      intro k hk
      apply hX8
      unfold wX_Rc_add_8B
      have e8' : (va_up (va_up (va_up S 10 0) 7 (nI (g + k))) 8 (nI (w - k))) 8 = nI (w - k) := rfl
      have e7' : (va_up (va_up (va_up S 10 0) 7 (nI (g + k))) 8 (nI (w - k))) 7 = nI (g + k) := rfl
      rw [e8', e7']
      have a1 : fr + k < 8 := by omega
      refine ⟨fun q => absurd q (nI_ge (b := 8) a1 (by decide)), fun _ => ⟨fun q => absurd q (nI_nle (by omega) (by omega)), fun _ => ⟨fun q => absurd q (nI_ge (b := 34) (by omega) (by decide)), fun _ => ?_⟩⟩⟩
      refine hX_byteOf a1 ⟨vp_in_nI (by omega) (by decide), ?_⟩
      have h2 := ih (k + 1) (by omega)
      rw [nI_clamp (n := g + k) (by omega), e7', e8', pz_us, pz_upup, lay_s, up_78, pz_inc, pz_inc]
      rw [show w - k = (w - (k + 1)) + 1 by omega, nI_pred]
      exact h2
  have h0 := key (min (8 - fr) w) 0 (by omega)
  rw [lay_0, pz_up, Nat.add_zero, Nat.add_zero, Nat.sub_zero, show va_up (va_up (va_up S 10 0) 7 (nI g)) 8 (nI w) = va_up S 10 0 from by
    rw [← e7, ← e8]
    rw [show S 7 = (va_up S 10 0) 7 from rfl, pz_up, show S 8 = (va_up S 10 0) 8 from rfl, pz_up]] at h0
  exact h0
/-- the reference takes the bytes of a frame from one on -/
theorem hM_takeBytes {post : SS → AA → Prop} {T : SS} {B : AA} {g L fr : Nat} (e17 : T 17 = nI g) (e16 : T 16 = nI L) (hgL : g ≤ L) (hL : L ≤ 34) (hfr : fr ≤ 8) (hp : post (va_up (va_up T 17 (nI (g + min (8 - fr) (L - g)))) 19 0) (va_up B 1 (lay (B 1) g (min (8 - fr) (L - g)) (fun i => B 4 (fr + i))))) : wM_M_takeBytes post T B (nI fr) := by
  unfold wM_M_takeBytes wM_M_takeBytes_2
  intro X2 hX2
  have key : ∀ m k : Nat, k + m = min (8 - fr) (L - g) → X2 (va_up T 17 (nI (g + k))) (va_up B 1 (lay (B 1) g k (fun i => B 4 (fr + i)))) (nI (fr + k)) := by
    intro m
    induction m with
    | zero =>
      intro k hk
      have hk : k = min (8 - fr) (L - g) := by omega
      rw [← hk] at hp
      apply hX2
      unfold wM_M_takeBytes_2B wM_M_takeBytes_50
      have e16' : (va_up T 17 (nI (g + k))) 16 = nI L := e16
      have e17' : (va_up T 17 (nI (g + k))) 17 = nI (g + k) := rfl
      rw [e16', e17']
      refine ⟨fun _ => hp, fun h1 => ⟨fun _ => hp, fun h2 => ?_⟩⟩
      exfalso
      have a1 : fr + k < 8 := Nat.lt_of_not_le (fun q => h1 ((pz_le (a := 8) (by decide) (by omega)).mpr q))
      have a2 : ¬ L ≤ g + k := fun q => h2 (nI_le q (by omega))
      omega
    | succ m ih =>
      intro k hk
      apply hX2
      unfold wM_M_takeBytes_2B
      have e16' : (va_up T 17 (nI (g + k))) 16 = nI L := e16
      have e17' : (va_up T 17 (nI (g + k))) 17 = nI (g + k) := rfl
      have e4 : (va_up B 1 (lay (B 1) g k (fun i => B 4 (fr + i)))) 4 = B 4 := rfl
      rw [e16', e17', e4, nI_clamp (n := fr + k) (by omega), nI_clamp (n := g + k) (by omega), pz_us, pz_upup, pz_upup, pz_inc, pz_inc]
      have h2 := ih (k + 1) (by omega)
      rw [← lay_s] at h2
      exact ⟨fun q => absurd q (nI_ge (b := 8) (by omega) (by decide)), fun _ => ⟨fun q => absurd q (nI_ge (by omega) (by omega)), fun _ => ⟨vp_in_nI (by omega) (by decide), vp_in_nI (by omega) (by decide), h2⟩⟩⟩
  have h0 := key (min (8 - fr) (L - g)) 0 (by omega)
  rw [lay_0, pz_up, Nat.add_zero, Nat.add_zero, ← e17, pz_up] at h0
  exact h0
/-! the reference's frame is filled, then it is looked at -/
def fr8 (b : Nat → Int32) (f r : Int32) : Nat → Int32 := fun j => if j < 8 then frb f r j else b j
theorem fr8_in {b : Nat → Int32} {f r : Int32} {j : Nat} (h : j < 8) : fr8 b f r j = frb f r j := if_pos h
def dsp (post : Int32 → SS → AA → Prop) (T : SS) (B : AA) : Prop := ((T 20 ≤ T 21 → ((B 4 0 < (1 : Int32) → wM_M_frame_102 post T B (B 4 0)) ∧ (¬ B 4 0 < (1 : Int32) → (((7 : Int32) < B 4 0 → wM_M_frame_102 post T B (B 4 0)) ∧ (¬ (7 : Int32) < B 4 0 → wM_M_beginRequest (fun S92 A92 => (wM_M_complete (fun S96 A96 => (wM_M_frame_179 post S96 A96)) S92 A92)) T B (B 4 0) (1 : Int32)))))) ∧ (¬ T 20 ≤ T 21 → wM_M_answerFrame (fun S72 A72 => (wM_M_frame_179 post S72 A72)) T B))
theorem cl_0 : (0 : Int32).toNatClampNeg = 0 := by decide
theorem cl_1 : (1 : Int32).toNatClampNeg = 1 := by decide
theorem cl_2 : (2 : Int32).toNatClampNeg = 2 := by decide
theorem cl_3 : (3 : Int32).toNatClampNeg = 3 := by decide
theorem cl_4 : (4 : Int32).toNatClampNeg = 4 := by decide
theorem cl_5 : (5 : Int32).toNatClampNeg = 5 := by decide
theorem vl_0 {N : Nat} (h : 0 < N) (hN : N < 2 ^ 31) : vp_in (0 : Int32) N := vp_in_nI (n := 0) h hN
theorem vl_1 {N : Nat} (h : 1 < N) (hN : N < 2 ^ 31) : vp_in (1 : Int32) N := vp_in_nI (n := 1) h hN
theorem vl_2 {N : Nat} (h : 2 < N) (hN : N < 2 ^ 31) : vp_in (2 : Int32) N := vp_in_nI (n := 2) h hN
theorem vl_3 {N : Nat} (h : 3 < N) (hN : N < 2 ^ 31) : vp_in (3 : Int32) N := vp_in_nI (n := 3) h hN
theorem vl_4 {N : Nat} (h : 4 < N) (hN : N < 2 ^ 31) : vp_in (4 : Int32) N := vp_in_nI (n := 4) h hN
theorem vl_5 {N : Nat} (h : 5 < N) (hN : N < 2 ^ 31) : vp_in (5 : Int32) N := vp_in_nI (n := 5) h hN
theorem hM_fill {post : Int32 → SS → AA → Prop} {T : SS} {B : AA} {f r : Int32} (hp : dsp post T (va_up B 4 (fr8 (B 4) f r))) : wM_M_frame post T B f r := by
  unfold wM_M_frame wM_M_frame_2
  intro X2 hX2
  have key : ∀ m k : Nat, k + m = 4 → ∀ g : Nat → Int32, (∀ j, g j = if j < k ∨ (4 ≤ j ∧ j < 4 + k) then frb f r j else B 4 j) → X2 T (va_up B 4 g) f r (nI k) := by
    intro m
    induction m with
    | zero =>
      intro k hk g hg
      have hk : k = 4 := by omega
      subst hk
      have eg : g = fr8 (B 4) f r := by
        funext j
        rw [hg j]
        unfold fr8
        by_cases h : j < 8
        · rw [if_pos h, if_pos (by omega)]
        · rw [if_neg h, if_neg (by omega)]
      subst eg
      apply hX2
      unfold wM_M_frame_2B
      rw [cl_0]
      exact ⟨fun _ => ⟨vl_0 (by decide) (by decide), hp⟩, fun q => absurd (show (4 : Int32) ≤ nI 4 from Int32.le_refl _) q⟩
    | succ m ih =>
      intro k hk g hg
      have hk4 : k < 4 := by omega
      apply hX2
      unfold wM_M_frame_2B
      have e4 : (va_up B 4 g) 4 = g := rfl
      rw [e4, show (4 : Int32) + nI k = nI (4 + k) from nI_add 4 k, nI_clamp (n := k) (by omega), nI_clamp (n := 4 + k) (by omega), frb_lo f r hk4, frb_hi f r hk4, pz_upup, pz_upup, pz_inc]
      refine ⟨fun q => absurd q (nI_ge (b := 4) hk4 (by decide)), fun _ => ⟨vp_in_nI (by omega) (by decide), vp_in_nI (by omega) (by decide), ih (k + 1) (by omega) _ (fun j => ?_)⟩⟩
      unfold upd
      by_cases h1 : j = 4 + k
      · rw [if_pos h1, if_pos (by omega), h1]
      · rw [if_neg h1]
        by_cases h2 : j = k
        · rw [if_pos h2, if_pos (by omega), h2]
        · rw [if_neg h2, hg j]
          by_cases h3 : j < k ∨ (4 ≤ j ∧ j < 4 + k)
          · rw [if_pos h3, if_pos (by omega)]
          · rw [if_neg h3, if_neg (by omega)]
  have h0 := key 4 0 rfl (B 4) (fun j => by rw [if_neg (by omega)])
  rw [pz_up] at h0
  exact h0
/-! what a request's bytes leave behind -/
theorem bytes_eq {A B : AA} (q1 : A 1 = B 1) (q2 : by8 (B 1)) (f r : Int32) (b : Nat → Int32) {g t fr : Nat} (h : fr + t ≤ 8) : lay (A 1) g t (fun i => frb f r (fr + i)) = lay (B 1) g t (fun i => fr8 b f r (fr + i)) ∧ by8 (lay (B 1) g t (fun i => fr8 b f r (fr + i))) := by
  have e : lay (B 1) g t (fun i => frb f r (fr + i)) = lay (B 1) g t (fun i => fr8 b f r (fr + i)) := lay_congr (fun k hk => (fr8_in (by omega)).symm)
  refine ⟨by rw [q1]; exact e, fun i => ?_⟩
  rw [← e]
  unfold lay
  split
  · exact frb_byte f r _
  · exact q2 i
theorem Rel.bytes {n : Nat} {S : SS} {A : AA} {T : SS} {B : AA} (hF : RelF S A T B) (hC : RelC n S T) (hI : RelI n S T) (hD : RelD n S T) (hA : RelA S A T B) (hR : RelR S A T B) {g w t : Nat} (q1 : A 1 = B 1) (q2 : by8 (B 1)) (e16 : T 16 = nI (g + w)) (e17 : T 17 = nI (g + t)) (e8 : S 8 = nI (w - t)) (e7 : S 7 = nI (g + t)) (e10 : S 10 = 0) (e19 : T 19 = 0) (ht : t ≤ w) (hgw : g + w ≤ 34) (hg : t < w → ∃ lt : Nat, lt < 16 ∧ T 18 = nI lt ∧ S 9 = nI ((lt + 1) % 16)) : Rel n S A T B := by
  refine ⟨hF, hC, hI, hD, ⟨q1, q2, g + w, g + t, e16, e17, by omega, hgw, ?_, fun hlt => ⟨e7, by rw [e10, e19], ⟨0, by decide, e19⟩, hg (by omega)⟩⟩, hA, hR⟩
  rw [e8]
  congr 1
  omega
/-! what goes out: a request for more, an answer, the rest of an answer -/
theorem fill_eq {h1 h2 s1 s2 : Nat → Int32} {bg s n1 n2 k : Nat} (hk : k < 8) (hh : ∀ i, i < bg → h1 i = h2 i) (hn : ∀ i, bg + i < 8 → (i < n1 ↔ i < n2)) (hs : ∀ i, i < n1 → bg + i < 8 → s1 (s + i) = s2 (s + i)) : fill h1 bg s1 s n1 k = fill h2 bg s2 s n2 k := by
  unfold fill
  by_cases h : k < bg
  · rw [if_pos h, if_pos h]; exact hh k h
  · rw [if_neg h, if_neg h]
    by_cases h2 : k - bg < n1
    · rw [if_pos h2, if_pos ((hn _ (by omega)).mp h2)]; exact hs _ h2 (by omega)
    · rw [if_neg h2, if_neg (fun q => h2 ((hn _ (by omega)).mpr q))]
theorem ok_ask {n : Nat} {S : SS} {A : AA} {T : SS} {B : AA} (h : Rel n S A T B) (e15 : S 15 = 0) {P : SS → AA → Prop} (hP : ∀ (S1 : SS) (A1 : AA), OkV n S1 A1 (fun Q => wM_M_askMore Q T B) → P S1 A1) : wX_Sd_askForMore P S A := by
  obtain ⟨hF, hC, hI, hD, hQ, hA, c, fi, r1, r2, r3, r4, r5, r6⟩ := h.step
  unfold wX_Sd_askForMore
  rw [cl_0, cl_1, pz_upup]
  refine ⟨vl_0 (by decide) (by decide), vl_1 (by decide) (by decide), ?_⟩
  refine hX_putFrom (cnt := 0) (s := 0) (bg := 2) rfl (by decide) rfl (by decide) (by decide) (fun g hg => ?_)
  refine hX_put (c := c) (f := fi) r1 r3 r4 r5 (fun hc => ?_) (fun hc => ?_)
  · refine hP _ _ (fun Q hQ1 => ?_)
    show wM_M_askMore Q T B
    unfold wM_M_askMore wM_M_dropAnswer
    refine hM_emit (a := 0) (s := 0) (most := 0) (c := c) (off := 2) rfl (by decide) rfl (by decide) r2 r3 (Or.inr ⟨by decide, rfl⟩) (by decide) (by decide) (fun _ => ?_) (fun q => absurd hc (by omega))
    exact hQ1 _ _ ⟨hF, hC, hI, hD, hQ, Or.inl ⟨e15, rfl, rfl⟩, c, fi, r1, r2, r3, r4, r5, r6⟩
  · refine hP _ _ (fun Q hQ1 => ?_)
    show wM_M_askMore Q T B
    unfold wM_M_askMore wM_M_dropAnswer
    refine hM_emit (a := 0) (s := 0) (most := 0) (c := c) (off := 2) rfl (by decide) rfl (by decide) r2 r3 (Or.inr ⟨by decide, rfl⟩) (by decide) (by decide) (fun q => absurd q (by omega)) (fun _ g2 hg2 => ?_)
    refine hQ1 _ _ ⟨hF, hC, hI, hD, hQ, Or.inl ⟨e15, rfl, rfl⟩, c + 1, fi, rfl, rfl, by omega, r4, r5, ?_⟩
    refine RelR.push hc r5 r6 (fun k hk => (hg k hk).trans (Eq.trans (fill_eq hk (fun i hi => ?_) (fun i hi => by omega) (fun i hi => absurd hi (by omega))) (hg2 k hk).symm))
    have hi2 : i = 0 ∨ i = 1 := by omega
    rcases hi2 with rfl | rfl <;> rfl
/-- an answer is sent: of at most 7 bytes, or of 10 -/
theorem sim_send {n : Nat} {S : SS} {A : AA} {T : SS} {B : AA} {cnt : Nat} (hF : RelF S A T B) (hC : RelC n S T) (hI : RelI n S T) (hD : RelD n S T) (hQ : RelQ S A T B) (hR : RelR S A T B) (e11 : S 11 = nI cnt) (e20 : T 20 = nI cnt) (hcnt : cnt ≤ 7 ∨ cnt = 10) (e15 : S 15 = 0) (hb : ∀ i, i < cnt → A 3 i = B 2 i) {P : SS → AA → Prop} (hP : ∀ (S1 : SS) (A1 : AA), by8 (A1 0) → (∀ Q : SS → AA → Prop, (∀ (T1 : SS) (B1 : AA), Rel n S1 A1 T1 B1 → Q T1 B1) → wM_M_sendAnswer Q T B) → P S1 A1) : wX_Sd_send P S A := by
  obtain ⟨c, fi, r1, r2, r3, r4, r5, r6⟩ := hR
  have hby : by8 (A 0) := by rw [hF.1]; exact hF.2.1
  unfold wX_Sd_send
  rw [cl_0, cl_1, pz_upup]
  rcases hcnt with h7 | h10
  · refine ⟨fun q => absurd q (by rw [e11]; exact nI_nlt (a := 7) h7 (by decide)), fun _ => ⟨vl_0 (by decide) (by decide), ?_⟩⟩
    have hw : ¬ (7 : Int32) < T 20 := by rw [e20]; exact nI_nlt (a := 7) h7 (by decide)
    have e7 : nI (0 + min (cnt - 0) 7) = nI cnt := by congr 1; omega
    refine hX_putFrom (cnt := cnt) (s := 0) (bg := 1) e11 (by omega) rfl (by omega) (by decide) (fun g hg => ?_)
    refine hX_put (c := c) (f := fi) r1 r3 r4 r5 (fun hc => ?_) (fun hc => ?_)
    · refine hP _ _ hby (fun Q hQ1 => ?_)
      unfold wM_M_sendAnswer wM_M_sendAnswer_50 wM_M_dropAnswer
      refine ⟨fun q => absurd q hw, fun _ => ?_⟩
      refine hM_emit (a := cnt) (s := 0) (most := 7) (c := c) (off := 1) e20 (by omega) rfl (by omega) r2 r3 (Or.inl ⟨by decide, rfl⟩) (by omega) (by decide) (fun _ => ?_) (fun q => absurd hc (by omega))
      rw [e7, pz_us, ← e20]
      exact ⟨fun q => absurd rfl q, fun _ => hQ1 _ _ ⟨hF, hC, hI, hD, hQ, Or.inl ⟨e15, rfl, rfl⟩, c, fi, r1, r2, r3, r4, r5, r6⟩⟩
    · refine hP _ _ hby (fun Q hQ1 => ?_)
      unfold wM_M_sendAnswer wM_M_sendAnswer_50 wM_M_dropAnswer
      refine ⟨fun q => absurd q hw, fun _ => ?_⟩
      refine hM_emit (a := cnt) (s := 0) (most := 7) (c := c) (off := 1) e20 (by omega) rfl (by omega) r2 r3 (Or.inl ⟨by decide, rfl⟩) (by omega) (by decide) (fun q => absurd q (by omega)) (fun _ g2 hg2 => ?_)
      rw [e7, pz_us, ← e20]
      refine ⟨fun q => absurd rfl q, fun _ => hQ1 _ _ ⟨hF, hC, hI, hD, hQ, Or.inl ⟨e15, rfl, rfl⟩, c + 1, fi, rfl, rfl, by omega, r4, r5, ?_⟩⟩
      refine RelR.push hc r5 r6 (fun k hk => (hg k hk).trans (Eq.trans (fill_eq hk (fun i hi => ?_) (fun i hi => by omega) (fun i hi _ => ?_)) (hg2 k hk).symm))
      · have hi0 : i = 0 := by omega
        subst hi0
        show S 11 = T 20
        rw [e11, e20]
      · exact hb _ (by omega)
  · subst h10
    refine ⟨fun _ => ⟨vl_0 (by decide) (by decide), vl_1 (by decide) (by decide), ?_⟩, fun q => absurd (by rw [e11]; decide) q⟩
    have hw : (7 : Int32) < T 20 := by rw [e20]; decide
    have hne : ¬ nI (0 + min (10 - 0) 6) = nI 10 := by decide
    refine hX_putFrom (cnt := 10) (s := 0) (bg := 2) e11 (by omega) rfl (by omega) (by decide) (fun g hg => ?_)
    refine hX_put (c := c) (f := fi) r1 r3 r4 r5 (fun hc => ?_) (fun hc => ?_)
    · refine hP _ _ hby (fun Q hQ1 => ?_)
      unfold wM_M_sendAnswer wM_M_sendAnswer_50 wM_M_dropAnswer
      refine ⟨fun _ => ?_, fun q => absurd hw q⟩
      refine hM_emit (a := 10) (s := 0) (most := 6) (c := c) (off := 2) e20 (by omega) rfl (by omega) r2 r3 (Or.inr ⟨by rw [e20]; decide, rfl⟩) (by omega) (by decide) (fun _ => ?_) (fun q => absurd hc (by omega))
      refine ⟨fun _ => hQ1 _ _ ⟨hF, hC, hI, hD, hQ, Or.inr ⟨rfl, e11, rfl, rfl, e20, rfl, rfl, rfl, ⟨0, by decide, rfl⟩, hb⟩, c, fi, r1, r2, r3, r4, r5, r6⟩, fun q => ?_⟩
      exact absurd (Eq.trans (show nI (0 + min (10 - 0) 6) = T 20 from q) e20) hne
    · refine hP _ _ hby (fun Q hQ1 => ?_)
      unfold wM_M_sendAnswer wM_M_sendAnswer_50 wM_M_dropAnswer
      refine ⟨fun _ => ?_, fun q => absurd hw q⟩
      refine hM_emit (a := 10) (s := 0) (most := 6) (c := c) (off := 2) e20 (by omega) rfl (by omega) r2 r3 (Or.inr ⟨by rw [e20]; decide, rfl⟩) (by omega) (by decide) (fun q => absurd q (by omega)) (fun _ g2 hg2 => ?_)
      refine ⟨fun _ => hQ1 _ _ ⟨hF, hC, hI, hD, hQ, Or.inr ⟨rfl, e11, rfl, rfl, e20, rfl, rfl, rfl, ⟨0, by decide, rfl⟩, hb⟩, c + 1, fi, rfl, rfl, by omega, r4, r5, ?_⟩, fun q => ?_⟩
      · refine RelR.push hc r5 r6 (fun k hk => (hg k hk).trans (Eq.trans (fill_eq hk (fun i hi => ?_) (fun i hi => by omega) (fun i hi _ => ?_)) (hg2 k hk).symm))
        · have hi2 : i = 0 ∨ i = 1 := by omega
          rcases hi2 with rfl | rfl
          · rfl
          · show S 11 = T 20
            rw [e11, e20]
        · exact hb _ (by omega)
      · exact absurd (Eq.trans (show nI (0 + min (10 - 0) 6) = T 20 from q) e20) hne
/-- the rest of an answer is sent: four bytes, one frame -/
theorem ok_goOn {n : Nat} {S : SS} {A : AA} {T : SS} {B : AA} (h : Rel n S A T B) (e15 : ¬ S 15 = 0) {b : Nat} (hb : b < 256) {P : SS → AA → Prop} (hP : ∀ (S1 : SS) (A1 : AA), OkV n S1 A1 (fun Q => wM_M_sendMore Q T B (nI b)) → P S1 A1) : wX_Sd_goOn P S A (nI b) := by
  obtain ⟨hF, hC, hI, hD, hQ, hA, c, fi, r1, r2, r3, r4, r5, r6⟩ := h.step
  rcases hA with ⟨a1, _⟩ | ⟨a1, a2, a3, a4, a5, a6, a7, a8, a9, a10⟩
  · exact absurd a1 e15
  have main : ∀ y : Int32, ¬ y ≤ 0 → wX_Sd_goOn_10 P S A y := by
    intro y hy
    unfold wX_Sd_goOn_10 wX_Sd_goOn_13
    intro X13 hX13
    apply hX13
    unfold wX_Sd_goOn_13B
    rw [cl_0]
    refine ⟨fun q => absurd q hy, fun _ => ⟨fun q => absurd q (by rw [a2, a3]; decide), fun _ => ⟨vl_0 (by decide) (by decide), ?_⟩⟩⟩
    refine hX_putFrom (cnt := 10) (s := 6) (bg := 1) a2 (by decide) a3 (by decide) (by decide) (fun g hg => ?_)
    have fin : ∀ (S1 : SS) (A1 : AA), S1 11 = 10 → S1 12 = 10 → P (va_up (va_up S1 15 0) 14 0) A1 → X13 S1 A1 y (0 + 1) := by
      intro S1 A1 f1 f2 f3
      apply hX13
      unfold wX_Sd_goOn_13B wX_Sd_goOn_66 wX_Sd_goOn_83
      have hle : S1 11 ≤ S1 12 := by rw [f1, f2]; decide
      have hz : (S1 11 ≤ S1 12 → tl_z 0 ∧ P (va_up (va_up S1 15 0) 14 0) A1) ∧ (¬ S1 11 ≤ S1 12 → tl_z 1 ∧ P (va_up (va_up S1 15 1) 14 0) A1) := ⟨fun _ => ⟨Or.inl rfl, f3⟩, fun q => absurd hle q⟩
      exact ⟨fun _ => hz, fun _ => ⟨fun _ => hz, fun q => absurd hle q⟩⟩
    -- the reference's round
    have ref : ∀ (Q : SS → AA → Prop), (c = 12 → Q (va_up (va_up (va_up (va_up (va_up T 22 1) 21 10) 23 0) 20 0) 21 0) B) → (c < 12 → ∀ g2 : Nat → Int32, (∀ k, k < 8 → g2 k = fill (fun i => if i = 0 then (33 : Int32) else -1) 1 (B 2) 6 (min (10 - 6) 7) k) → Q (va_up (va_up (va_up (va_up (va_up (va_up T 22 1) 24 (nI (c + 1))) 21 10) 23 0) 20 0) 21 0) (va_up B 3 (lay (B 3) (8 * c) 8 g2))) → wM_M_sendMore Q T B (nI b) := by
      intro Q q0 q1
      unfold wM_M_sendMore wM_M_sendMore_2
      intro X2 hX2
      have go : wM_M_sendMore_22 Q X2 T B (nI b) 0 := by
        unfold wM_M_sendMore_22
        have e22 : (T 22 + 1) - (T 22 + 1) / 16 * 16 = (1 : Int32) := by rw [a7]; decide
        rw [e22, show (32 : Int32) + 1 = 33 by decide]
        have nx : ∀ (T1 : SS) (B1 : AA), T1 20 = 10 → T1 21 = 10 → Q (va_up (va_up (va_up T1 23 0) 20 0) 21 0) B1 → X2 T1 B1 (nI b) (0 + 1) := by
          intro T1 B1 f1 f2 f3
          apply hX2
          unfold wM_M_sendMore_2B wM_M_sendMore_55 wM_M_dropAnswer
          exact ⟨fun _ => ⟨fun q => absurd (f2.trans f1.symm) q, fun _ => f3⟩, fun q => absurd (by rw [f1, f2]; decide) q⟩
        refine hM_emit (a := 10) (s := 6) (most := 7) (c := c) (off := 1) a5 (by decide) a6 (by decide) r2 r3 (Or.inl ⟨by decide, rfl⟩) (by decide) (by decide) (fun hc => ?_) (fun hc g2 hg2 => ?_)
        · exact nx _ _ a5 rfl (q0 hc)
        · exact nx _ _ a5 rfl (q1 hc g2 hg2)
      apply hX2
      unfold wM_M_sendMore_2B
      refine ⟨fun q => absurd q (by rw [a5, a6]; decide), fun _ => ⟨fun _ => go, fun h0 => ⟨fun q => ?_, fun _ => go⟩⟩⟩
      have hb0 : b = 0 := by
        have := (pz_le (a := b) (b := 0) (by omega) (by decide)).mp q
        omega
      exact absurd (by rw [hb0]; rfl) h0
    refine hX_put (c := c) (f := fi) r1 r3 r4 r5 (fun hc => ?_) (fun hc => ?_)
    · refine fin _ _ a2 rfl (hP _ _ (fun Q hQ1 => ref Q (fun _ => ?_) (fun q => absurd hc (by omega))))
      exact hQ1 _ _ ⟨hF, hC, hI, hD, hQ, Or.inl ⟨rfl, rfl, rfl⟩, c, fi, r1, r2, r3, r4, r5, r6⟩
    · refine fin _ _ a2 rfl (hP _ _ (fun Q hQ1 => ref Q (fun q => absurd q (by omega)) (fun _ g2 hg2 => ?_)))
      refine hQ1 _ _ ⟨hF, hC, hI, hD, hQ, Or.inl ⟨rfl, rfl, rfl⟩, c + 1, fi, rfl, rfl, by omega, r4, r5, ?_⟩
      refine RelR.push hc r5 r6 (fun k hk => (hg k hk).trans (Eq.trans (fill_eq hk (fun i hi => ?_) (fun i hi => by omega) (fun i hi _ => ?_)) (hg2 k hk).symm))
      · have hi0 : i = 0 := by omega
        subst hi0
        show (32 : Int32) + S 13 = 33
        rw [a4]
        decide
      · exact a10 _ (by omega)
  unfold wX_Sd_goOn
  refine ⟨fun h0 => main _ (fun q => h0 ?_), fun _ => main 10 (by decide)⟩
  have hb0 : b = 0 := by
    have := (pz_le (a := b) (b := 0) (by omega) (by decide)).mp q
    omega
  rw [hb0]
  rfl
/-! a request is worked on: what holds meanwhile -/
def Wk (n : Nat) (S : SS) (A : AA) (T : SS) (B : AA) : Prop := RelF S A T B ∧ RelC n S T ∧ (S 4 = 0 ∧ T 11 = 0) ∧ RelD n S T ∧ (A 1 = B 1 ∧ by8 (B 1) ∧ S 8 = 0) ∧ S 15 = 0 ∧ RelR S A T B
def Tn (n : Nat) (S : SS) (A : AA) (T : SS) (B : AA) : Prop := RelF S A T B ∧ (S 20 = T 7 ∧ ∃ g : Nat, g ≤ n ∧ T 7 = nI g) ∧ T 11 = 0 ∧ (A 1 = B 1 ∧ by8 (B 1)) ∧ RelR S A T B
def Wa (cnt : Nat) (S : SS) (A : AA) (T : SS) (B : AA) : Prop := S 11 = nI cnt ∧ T 20 = nI cnt ∧ ∀ i, i < cnt → A 3 i = B 2 i
def Cd (c : Int32) (S : SS) (A : AA) (T : SS) (B : AA) : Prop := (c = 0 ∧ ∃ cnt : Nat, (cnt ≤ 7 ∨ cnt = 10) ∧ Wa cnt S A T B) ∨ (¬ B 1 0 = 17 ∧ ∃ k : Nat, 0 < k ∧ k < 256 ∧ c = nI k)
/-- P holds at every outcome of a service at which the reference's run is alike -/
def Dn (n : Nat) (P : Int32 → SS → AA → Prop) (w : (Int32 → SS → AA → Prop) → Prop) (B : AA) : Prop :=
  (∀ (c : Int32) (S1 : SS) (A1 : AA) (T1 : SS) (B1 : AA), (∀ Q : Int32 → SS → AA → Prop, Q c T1 B1 → w Q) → Wk (n + 1) S1 A1 T1 B1 → B1 1 = B 1 → Cd c S1 A1 T1 B1 → P c S1 A1) ∧
  (∀ (S1 : SS) (A1 : AA) (T1 : SS) (B1 : AA), (∀ Q : Int32 → SS → AA → Prop, Q (-1) T1 B1 → w Q) → Tn (n + 1) S1 A1 T1 B1 → P (-1) S1 A1)
theorem Wk.step {n : Nat} {S : SS} {A : AA} {T : SS} {B : AA} (h : Wk n S A T B) : Wk (n + 1) S A T B := by
  obtain ⟨hF, ⟨c1, c2, c3, c4, c5, c6, c7, c8, c9, c10, ⟨g, hg, eg⟩, cr⟩, hI, hD, hq, ha, hR⟩ := h
  refine ⟨hF, ⟨c1, c2, c3, c4, c5, c6, c7, c8, c9, c10, ⟨g, by omega, eg⟩, cr⟩, hI, ?_, hq, ha, hR⟩
  rcases hD with hD | ⟨d1, d2, d3, d4, d5, d6, sz, ca, bl, e1, e2, e3, h1, h2, h3⟩
  · exact Or.inl hD
  · exact Or.inr ⟨d1, d2, d3, d4, d5, d6, sz, ca, bl, e1, e2, e3, h1, h2, by omega⟩
theorem Wk.tn {n : Nat} {S : SS} {A : AA} {T : SS} {B : AA} (h : Wk n S A T B) : Tn n S A T B := by
  obtain ⟨hF, ⟨c1, c2, c3, c4, c5, c6, c7, c8, c9, c10, c11, cr⟩, hI, hD, hq, ha, hR⟩ := h
  exact ⟨hF, ⟨c10, c11⟩, hI.2, ⟨hq.1, hq.2.1⟩, hR⟩
theorem bn_t {c X Y : Prop} (h : c) (y : Y) : (¬ c → X) ∧ (c → Y) := ⟨fun q => absurd h q, fun _ => y⟩
theorem bn_f {c X Y : Prop} (h : ¬ c) (x : X) : (¬ c → X) ∧ (c → Y) := ⟨fun _ => x, fun q => absurd q h⟩
theorem hX_at {post : Int32 → SS → AA → Prop} {S : SS} {A : AA} {L k : Nat} (e7 : S 7 = nI L) (hL : L ≤ 34) (hk : k < 34) (h1 : k < L → post (A 1 k) S A) (h0 : ¬ k < L → post 0 S A) : wX_Rc_at post S A (nI k) := by
  unfold wX_Rc_at
  rw [e7, nI_clamp (n := k) (by omega)]
  refine ⟨fun q => absurd q (nI_pos (by omega)), fun _ => ⟨fun q => h0 ?_, fun q1 => ⟨fun q => absurd q (nI_ge (b := 34) hk (by decide)), fun _ => ⟨vp_in_nI hk (by decide), h1 ?_⟩⟩⟩⟩
  · have := (pz_le (by omega) (by omega)).mp q
    omega
  · exact Nat.lt_of_not_le (fun q => q1 (nI_le q (by omega)))
theorem hX_atY {post : Int32 → SS → AA → Prop} {S : SS} {A : AA} {L : Nat} (k : Nat) (e7 : S 7 = nI L) (hL : L ≤ 34) (hk : k < L) (hp : post (A 1 k) S A) : wX_Rc_at post S A (nI k) := hX_at e7 hL (by omega) (fun _ => hp) (fun q => absurd hk q)
theorem hX_sadd {post : SS → AA → Prop} {S : SS} {A : AA} {x : Int32} (k : Nat) (e : S 11 = nI k) (hk : k < 10) (hp : post (va_up S 11 (nI (k + 1))) (va_up A 3 (upd (A 3) k x))) : wX_Sd_add post S A x := by
  unfold wX_Sd_add
  rw [e, nI_clamp (n := k) (by omega), pz_inc]
  exact ⟨fun q => absurd q (nI_ge (b := 10) hk (by decide)), fun _ => ⟨vp_in_nI hk (by decide), hp⟩⟩
theorem hX_done {post : Int32 → SS → AA → Prop} {S : SS} {A : AA} {x : Int32} (k : Nat) (e : S 11 = nI k) (hk : k < 10) (hp : post 0 (va_up S 11 (nI (k + 1))) (va_up A 3 (upd (A 3) k x))) : wX_T_doneWith post S A x := by
  unfold wX_T_doneWith
  exact hX_sadd k e hk hp
theorem hM_add {post : SS → AA → Prop} {T : SS} {B : AA} {x : Int32} (k : Nat) (e : T 20 = nI k) (hk : k < 20) (hp : post (va_up T 20 (nI (k + 1))) (va_up B 2 (upd (B 2) k x))) : wM_M_add post T B x := by
  unfold wM_M_add
  rw [e, nI_clamp (n := k) (by omega), pz_inc]
  exact ⟨vp_in_nI hk (by decide), hp⟩
theorem wa_1 {f g : Nat → Int32} {x : Int32} (h : f 0 = x) : ∀ i, i < 1 → f i = upd g 0 x i := by
  intro i hi
  have : i = 0 := by omega
  subst this
  rw [h]
  exact (if_pos rfl).symm
theorem wa_s {f g : Nat → Int32} {k : Nat} (h : ∀ i, i < k → f i = g i) (x : Int32) : ∀ i, i < k + 1 → upd f k x i = upd g k x i := by
  intro i hi
  unfold upd
  by_cases h1 : i = k
  · rw [if_pos h1, if_pos h1]
  · rw [if_neg h1, if_neg h1]
    exact h i (by omega)
/-! how a request's work ends: an answer, a refusal, a power cut -/
theorem sim_answer {n : Nat} {S : SS} {A : AA} {T : SS} {B : AA} {cnt : Nat} {x1 x2 y : Int32} (hW : Wk n S A T B) (ha : Wa cnt S A T B) (hcnt : cnt ≤ 7 ∨ cnt = 10) (hy : (x1 = 17 ∧ x2 = 0 ∧ ¬ y = 0) ∨ (¬ (x1 = 17 ∧ x2 = 0) ∧ y = 0)) {P : SS → AA → Prop} (hP : ∀ (S1 : SS) (A1 : AA), (∀ Q : SS → AA → Prop, (∀ (T1 : SS) (B1 : AA), Rel n S1 A1 T1 B1 → Q T1 B1) → wM_M_complete_83 Q T B y) → P S1 A1) : wX_T_workOnRequest_80 P S A x1 x2 := by
  obtain ⟨hF, hC, ⟨i1, i2⟩, hD, ⟨q1, q2, q3⟩, e15, hR⟩ := hW
  obtain ⟨a1, a2, a3⟩ := ha
  unfold wX_T_workOnRequest_80
  refine sim_send (n := n) (T := va_up (va_up T 16 0) 17 0) (B := B) (cnt := cnt) hF hC ⟨fun _ => i1.trans i2.symm, ⟨0, by omega, i2⟩, ⟨0, by omega, i1⟩⟩ hD ⟨q1, q2, 0, 0, rfl, rfl, Nat.le_refl _, by decide, q3, fun q => absurd q (Nat.lt_irrefl 0)⟩ hR a1 a2 hcnt e15 a3 (fun S1 A1 hby hok => ?_)
  rcases hy with ⟨y1, y2, y3⟩ | ⟨y1, y2⟩
  · refine bn_t y1 (bn_t y2 ?_)
    refine hX_boot hby (hP _ _ (fun Q hQ => ?_))
    unfold wM_M_complete_83 wM_M_dropRequest
    refine hok _ (fun T1 B1 hr => br_f y3 ?_)
    obtain ⟨hF', ⟨c1, c2, c3, c4, c5, c6, c7, c8, c9, c10, c11, c12⟩, hI', hD', ⟨q1', q2', _⟩, hA', hR'⟩ := hr
    exact hM_boot hF'.2.1 (hQ _ _ (Rel.boot hF' ⟨c10, c11⟩ hI'.2.1 ⟨q1', q2'⟩ hR'))
  · have go : P S1 A1 := by
      refine hP _ _ (fun Q hQ => ?_)
      unfold wM_M_complete_83 wM_M_dropRequest
      exact hok _ (fun T1 B1 hr => br_t y2 (hQ _ _ hr))
    by_cases h17 : x1 = 17
    · exact bn_t h17 (bn_f (fun q => y1 ⟨h17, q⟩) go)
    · exact bn_f h17 go
theorem sim_neg {n : Nat} {S : SS} {A : AA} {T : SS} {B : AA} {k : Nat} (hW : Wk n S A T B) (hk : 0 < k) (hk2 : k < 256) {P : SS → AA → Prop} (hP : ∀ (S1 : SS) (A1 : AA), (∀ Q : SS → AA → Prop, (∀ (T1 : SS) (B1 : AA), Rel n S1 A1 T1 B1 → Q T1 B1) → wM_M_complete_44 Q T B (nI k) 0) → P S1 A1) : wX_T_workOnRequest_41 P S A (B 1 0) (nI k) := by
  unfold wX_T_workOnRequest_41
  have hm1 : ¬ nI k = (-1 : Int32) := fun q => by
    have h0 : (nI k).toInt = (k : Int) := nI_toInt (by omega)
    rw [q] at h0
    have h1 : (-1 : Int32).toInt = -1 := by decide
    omega
  refine bn_f hm1 (br_f (nI_ne0 hk (by omega)) ?_)
  unfold wX_Sd_begin
  refine hX_sadd 0 rfl (by decide) ?_
  refine hX_sadd 1 rfl (by decide) ?_
  refine hX_sadd 2 rfl (by decide) ?_
  refine sim_answer (n := n) (cnt := 3) (y := 0) (T := va_up (va_up (va_up (va_up T 20 0) 20 (nI 1)) 20 (nI 2)) 20 (nI 3)) (B := va_up (va_up (va_up B 2 (upd (B 2) 0 127)) 2 (upd (upd (B 2) 0 127) 1 (B 1 0))) 2 (upd (upd (upd (B 2) 0 127) 1 (B 1 0)) 2 (nI k))) ?_ ?_ (Or.inl (by decide)) (Or.inr ⟨fun q => nI_ne0 hk (by omega) q.2, rfl⟩) (fun S1 A1 hok => hP S1 A1 (fun Q hQ => ?_))
  · exact hW
  · exact ⟨rfl, rfl, wa_s (wa_s (wa_s (fun i hi => absurd hi (Nat.not_lt_zero i)) 127) (B 1 0)) (nI k)⟩
  unfold wM_M_complete_44
  refine br_t (nI_pos' (by omega)) (br_f (nI_nle hk (by omega)) ?_)
  refine hM_add 0 rfl (by decide) ⟨vl_0 (by decide) (by decide), ?_⟩
  rw [cl_0]
  refine hM_add 1 rfl (by decide) ?_
  refine hM_add 2 rfl (by decide) ?_
  exact hok Q hQ
theorem sim_torn {n : Nat} {S : SS} {A : AA} {T : SS} {B : AA} {x1 y : Int32} (hT : Tn n S A T B) {P : SS → AA → Prop} (hP : ∀ (S1 : SS) (A1 : AA), (∀ Q : SS → AA → Prop, (∀ (T1 : SS) (B1 : AA), Rel n S1 A1 T1 B1 → Q T1 B1) → wM_M_complete_44 Q T B (-1) y) → P S1 A1) : wX_T_workOnRequest_41 P S A x1 (-1) := by
  obtain ⟨hF, hg, i2, hq, hR⟩ := hT
  unfold wX_T_workOnRequest_41 wX_T_bootAfresh wX_Rw_clear
  refine bn_t rfl ?_
  refine hX_boot (by rw [hF.1]; exact hF.2.1) ?_
  refine hP _ _ (fun Q hQ => ?_)
  unfold wM_M_complete_44 wM_M_restart
  refine br_f (by decide) ?_
  exact hM_boot hF.2.1 (hQ _ _ (Rel.boot hF hg ⟨0, by omega, i2⟩ hq hR).clear)
/-! the common refusals -/
def known (s : Int32) : Prop := s = 16 ∨ s = 17 ∨ s = 34 ∨ s = 39 ∨ s = 62 ∨ s = 46 ∨ s = 49 ∨ s = 52 ∨ s = 54 ∨ s = 55
def late (s : Int32) : Prop := s = 46 ∨ s = 49 ∨ s = 52 ∨ s = 54 ∨ s = 55
def longF (q : Nat → Int32) (L : Nat) (s : Int32) : Prop := if s = 39 then L = (if 1 < L ∧ q 1 = 2 then 3 else 2) else if s = 46 then L = 3 else if s = 49 then L = (if 2 < L ∧ q 2 = 2 then 6 else 4) else if s = 52 then L = 3 else if s = 54 then 3 ≤ L ∧ L ≤ 10 else if s = 55 then L = 1 else L = 2
def partF (q : Nat → Int32) (s : Int32) : Prop := if s = 16 then q 1 = 1 ∨ q 1 = 2 else if s = 17 then q 1 = 1 else if s = 39 then q 1 = 1 ∨ q 1 = 2 else if s = 49 then q 1 = 1 else if s = 62 then q 1 = 0 else True
def rngF (q : Nat → Int32) (s : Int32) : Prop := if s = 34 then ¬ (2 : Int32) < q 1 else if s = 46 then q 1 = 1 else if s = 49 then ¬ q 2 < (1 : Int32) ∧ ¬ (3 : Int32) < q 2 ∧ ¬ (1 : Int32) < q 3 else if s = 52 then ¬ (1 : Int32) < q 1 ∧ ¬ q 2 < (1 : Int32) ∧ ¬ (32 : Int32) < q 2 else True
def okF (q : Nat → Int32) (L : Nat) (s ses unl : Int32) : Prop := known s ∧ longF q L s ∧ partF q s ∧ ¬ (ses = 1 ∧ (late s ∨ s = 39)) ∧ ¬ (unl = 0 ∧ late s)
theorem hX_late {post : Int32 → SS → AA → Prop} {S : SS} {A : AA} {s : Int32} (h1 : late s → post 1 S A) (h0 : ¬ late s → post 0 S A) : wX_T_needsUnlocking post S A s := by
  unfold wX_T_needsUnlocking wX_T_needsUnlocking_30
  unfold late at h1 h0
  refine ⟨fun a => h1 (Or.inl a), fun a => ⟨fun b => h1 (Or.inr (Or.inl b)), fun b => ⟨fun c => h1 (Or.inr (Or.inr (Or.inl c))), fun c => ⟨fun d => h1 (Or.inr (Or.inr (Or.inr (Or.inl d)))), fun d => ⟨fun e => h0 ?_, fun e => h1 (Or.inr (Or.inr (Or.inr (Or.inr e))))⟩⟩⟩⟩⟩
  rintro (q | q | q | q | q)
  · exact a q
  · exact b q
  · exact c q
  · exact d q
  · exact e q
theorem hX_known {post : Int32 → SS → AA → Prop} {S : SS} {A : AA} {s : Int32} (h1 : known s → post 1 S A) (h0 : ¬ known s → post 0 S A) : wX_T_isKnown post S A s := by
  unfold wX_T_isKnown wX_T_isKnown_37
  unfold known at h1 h0
  refine ⟨fun a => h1 (Or.inl a), fun a => ⟨fun b => h1 (Or.inr (Or.inl b)), fun b => ⟨fun c => h1 (Or.inr (Or.inr (Or.inl c))), fun c => ⟨fun d => h1 (Or.inr (Or.inr (Or.inr (Or.inl d)))), fun d => ⟨fun e => h1 (Or.inr (Or.inr (Or.inr (Or.inr (Or.inl e))))), fun e => hX_late (fun l => br_f (by decide) (h1 (Or.inr (Or.inr (Or.inr (Or.inr (Or.inr l))))))) (fun l => br_t rfl (h0 ?_))⟩⟩⟩⟩⟩
  rintro (q | q | q | q | q | q)
  · exact a q
  · exact b q
  · exact c q
  · exact d q
  · exact e q
  · exact l q
theorem hM_known {post : Int32 → SS → AA → Prop} {T : SS} {B : AA} {s : Int32} (h1 : known s → post 1 T B) (h0 : ¬ known s → post 0 T B) : wM_M_isService post T B s := by
  unfold wM_M_isService wM_M_isService_60
  by_cases hk : known s
  · have k := h1 hk
    refine ⟨fun _ => k, fun n1 => ⟨fun _ => k, fun n2 => ⟨fun _ => k, fun n3 => ⟨fun _ => k, fun n4 => ⟨fun _ => k, fun n5 => ⟨fun _ => k, fun n6 => ⟨fun _ => k, fun n7 => ⟨fun _ => k, fun n8 => ⟨fun _ => k, fun n9 => ⟨fun n10 => ?_, fun _ => k⟩⟩⟩⟩⟩⟩⟩⟩⟩⟩
    exfalso
    unfold known at hk
    rcases hk with q | q | q | q | q | q | q | q | q | q
    · exact n1 q
    · exact n3 q
    · exact n5 q
    · exact n4 q
    · exact n2 q
    · exact n6 q
    · exact n7 q
    · exact n8 q
    · exact n9 q
    · exact n10 q
  · have z := h0 hk
    unfold known at hk
    exact ⟨fun q => absurd (Or.inl q) hk, fun _ => ⟨fun q => absurd (Or.inr (Or.inr (Or.inr (Or.inr (Or.inl q))))) hk, fun _ => ⟨fun q => absurd (Or.inr (Or.inl q)) hk, fun _ => ⟨fun q => absurd (Or.inr (Or.inr (Or.inr (Or.inl q)))) hk, fun _ => ⟨fun q => absurd (Or.inr (Or.inr (Or.inl q))) hk, fun _ => ⟨fun q => absurd (Or.inr (Or.inr (Or.inr (Or.inr (Or.inr (Or.inl q)))))) hk, fun _ => ⟨fun q => absurd (Or.inr (Or.inr (Or.inr (Or.inr (Or.inr (Or.inr (Or.inl q))))))) hk, fun _ => ⟨fun q => absurd (Or.inr (Or.inr (Or.inr (Or.inr (Or.inr (Or.inr (Or.inr (Or.inl q)))))))) hk, fun _ => ⟨fun q => absurd (Or.inr (Or.inr (Or.inr (Or.inr (Or.inr (Or.inr (Or.inr (Or.inr (Or.inl q))))))))) hk, fun _ => ⟨fun _ => z, fun q => absurd (Or.inr (Or.inr (Or.inr (Or.inr (Or.inr (Or.inr (Or.inr (Or.inr (Or.inr q))))))))) hk⟩⟩⟩⟩⟩⟩⟩⟩⟩⟩
theorem len_eq {post : Int32 → SS → AA → Prop} {S : SS} {A : AA} {L m : Nat} (hL : L ≤ 34) (hm : m ≤ 34) (h1 : L = m → post 1 S A) (h0 : ¬ L = m → post 0 S A) : (¬ nI L = nI m → post 0 S A) ∧ (nI L = nI m → post 1 S A) :=
  ⟨fun q => h0 (fun e => q (by rw [e])), fun q => h1 ((nI_eq (by omega) (by omega)).mp q)⟩
theorem len_54 {post : Int32 → SS → AA → Prop} {S : SS} {A : AA} {L : Nat} (hL : L ≤ 34) (h1 : 3 ≤ L ∧ L ≤ 10 → post 1 S A) (h0 : ¬ (3 ≤ L ∧ L ≤ 10) → post 0 S A) : (nI L < (3 : Int32) → post 0 S A) ∧ (¬ nI L < (3 : Int32) → (((10 : Int32) < nI L → post 0 S A) ∧ (¬ (10 : Int32) < nI L → post 1 S A))) := by
  refine ⟨fun q => h0 (fun e => ?_), fun q => ⟨fun q2 => h0 (fun e => ?_), fun q2 => h1 ⟨Nat.le_of_not_lt (fun e => q (nI_lt (b := 3) e (by decide))), Nat.le_of_not_lt (fun e => q2 (nI_lt (a := 10) e (by omega)))⟩⟩⟩
  · have := (pz_lt (b := 3) (by omega) (by decide)).mp q
    omega
  · have := (pz_lt (a := 10) (by decide) (by omega)).mp q2
    omega
theorem hX_long {post : Int32 → SS → AA → Prop} {S : SS} {A : AA} {L : Nat} {s : Int32} (e7 : S 7 = nI L) (hL : L ≤ 34) (h1 : longF (A 1) L s → post 1 S A) (h0 : ¬ longF (A 1) L s → post 0 S A) : wX_T_hasRightLength post S A s := by
  unfold wX_T_hasRightLength wX_T_hasRightLength_110 wX_T_hasRightLength_119 wX_T_hasRightLength_149
  unfold longF at h1 h0
  rw [e7]
  refine ⟨fun h => ?_, fun h => ?_⟩
  · rw [if_pos h] at h1 h0
    refine hX_at (k := 1) e7 hL (by decide) (fun hk => ⟨fun a => ?_, fun a => ?_⟩) (fun hk => ⟨fun a => ?_, fun a => absurd a (by decide)⟩)
    · rw [if_neg (fun q => a q.2)] at h1 h0; exact len_eq (m := 2) hL (by decide) h1 h0
    · rw [if_pos ⟨hk, a⟩] at h1 h0; exact len_eq (m := 3) hL (by decide) h1 h0
    · rw [if_neg (fun q => hk q.1)] at h1 h0; exact len_eq (m := 2) hL (by decide) h1 h0
  · rw [if_neg h] at h1 h0
    refine ⟨fun h => ?_, fun h => ?_⟩
    · rw [if_pos h] at h1 h0
      exact len_eq (m := 3) hL (by decide) h1 h0
    · rw [if_neg h] at h1 h0
      refine ⟨fun h => ?_, fun h => ?_⟩
      · rw [if_pos h] at h1 h0
        refine hX_at (k := 2) e7 hL (by decide) (fun hk => ⟨fun a => ?_, fun a => ?_⟩) (fun hk => ⟨fun a => ?_, fun a => absurd a (by decide)⟩)
        · rw [if_neg (fun q => a q.2)] at h1 h0; exact len_eq (m := 4) hL (by decide) h1 h0
        · rw [if_pos ⟨hk, a⟩] at h1 h0; exact len_eq (m := 6) hL (by decide) h1 h0
        · rw [if_neg (fun q => hk q.1)] at h1 h0; exact len_eq (m := 4) hL (by decide) h1 h0
      · rw [if_neg h] at h1 h0
        refine ⟨fun h => ?_, fun h => ?_⟩
        · rw [if_pos h] at h1 h0
          exact len_eq (m := 3) hL (by decide) h1 h0
        · rw [if_neg h] at h1 h0
          refine ⟨fun h => ?_, fun h => ?_⟩
          · rw [if_pos h] at h1 h0
            exact len_54 hL h1 h0
          · rw [if_neg h] at h1 h0
            refine ⟨fun h => ?_, fun h => ?_⟩
            · rw [if_pos h] at h1 h0
              exact len_eq (m := 1) hL (by decide) h1 h0
            · rw [if_neg h] at h1 h0
              exact len_eq (m := 2) hL (by decide) h1 h0
theorem hM_long {post : Int32 → SS → AA → Prop} {T : SS} {B : AA} {L : Nat} {s : Int32} (e17 : T 17 = nI L) (hL : L ≤ 34) (h1 : longF (B 1) L s → post 1 T B) (h0 : ¬ longF (B 1) L s → post 0 T B) : wM_M_isLong post T B s := by
  unfold wM_M_isLong wM_M_isLong_110 wM_M_isLong_111 wM_M_isLong_120 wM_M_isLong_161 wM_M_isLong_162
  unfold longF at h1 h0
  rw [e17, cl_1, cl_2]
  refine ⟨fun h => ?_, fun h => ?_⟩
  · rw [if_pos h] at h1 h0
    refine ⟨fun hk => ?_, fun hk => ⟨vl_1 (by decide) (by decide), fun a => ?_, fun a => ?_⟩⟩
    · have hk := (pz_le (b := 1) (by omega) (by decide)).mp hk
      rw [if_neg (fun q => absurd q.1 (by omega))] at h1 h0; exact len_eq (m := 2) hL (by decide) h1 h0
    · rw [if_neg (fun q => a q.2)] at h1 h0; exact len_eq (m := 2) hL (by decide) h1 h0
    · have hk : 1 < L := Nat.lt_of_not_le (fun q => hk (nI_le (b := 1) q (by decide)))
      rw [if_pos ⟨hk, a⟩] at h1 h0; exact len_eq (m := 3) hL (by decide) h1 h0
  · rw [if_neg h] at h1 h0
    refine ⟨fun h => ?_, fun h => ?_⟩
    · rw [if_pos h] at h1 h0
      exact len_eq (m := 3) hL (by decide) h1 h0
    · rw [if_neg h] at h1 h0
      refine ⟨fun h => ?_, fun h => ?_⟩
      · rw [if_pos h] at h1 h0
        refine ⟨fun hk => ?_, fun hk => ⟨vl_2 (by decide) (by decide), fun a => ?_, fun a => ?_⟩⟩
        · have hk := (pz_le (b := 2) (by omega) (by decide)).mp hk
          rw [if_neg (fun q => absurd q.1 (by omega))] at h1 h0; exact len_eq (m := 4) hL (by decide) h1 h0
        · rw [if_neg (fun q => a q.2)] at h1 h0; exact len_eq (m := 4) hL (by decide) h1 h0
        · have hk : 2 < L := Nat.lt_of_not_le (fun q => hk (nI_le (b := 2) q (by decide)))
          rw [if_pos ⟨hk, a⟩] at h1 h0; exact len_eq (m := 6) hL (by decide) h1 h0
      · rw [if_neg h] at h1 h0
        refine ⟨fun h => ?_, fun h => ?_⟩
        · rw [if_pos h] at h1 h0
          exact len_eq (m := 3) hL (by decide) h1 h0
        · rw [if_neg h] at h1 h0
          refine ⟨fun h => ?_, fun h => ?_⟩
          · rw [if_pos h] at h1 h0
            exact len_54 hL h1 h0
          · rw [if_neg h] at h1 h0
            refine ⟨fun h => ?_, fun h => ?_⟩
            · rw [if_pos h] at h1 h0
              exact len_eq (m := 1) hL (by decide) h1 h0
            · rw [if_neg h] at h1 h0
              exact len_eq (m := 2) hL (by decide) h1 h0
/-- a request that is long enough has the bytes that are looked at -/
theorem long_2 {q : Nat → Int32} {L : Nat} {s : Int32} (h : longF q L s) (h55 : ¬ s = 55) : 2 ≤ L := by
  unfold longF at h
  split at h
  · split at h <;> omega
  · split at h
    · omega
    · split at h
      · split at h <;> omega
      · split at h
        · omega
        · split at h
          · omega
          · omega
theorem hX_part {post : Int32 → SS → AA → Prop} {S : SS} {A : AA} {L : Nat} {s : Int32} (e7 : S 7 = nI L) (hL : L ≤ 34) (hl : ¬ s = 55 → 2 ≤ L) (h1 : partF (A 1) s → post 1 S A) (h0 : ¬ partF (A 1) s → post 0 S A) : wX_T_hasKnownKind post S A s := by
  unfold wX_T_hasKnownKind wX_T_hasKnownKind_60 wX_T_hasKnownKind_70 wX_T_hasKnownKind_76
  unfold partF at h1 h0
  have or2 : ∀ x : Int32, (x = 1 ∨ x = 2 → post 1 S A) → (¬ (x = 1 ∨ x = 2) → post 0 S A) → (x = 1 → post 1 S A) ∧ (¬ x = 1 → ((¬ x = 2 → post 0 S A) ∧ (x = 2 → post 1 S A))) := fun x y1 y0 => ⟨fun a => y1 (Or.inl a), fun a => ⟨fun b => y0 (fun q => q.elim a b), fun b => y1 (Or.inr b)⟩⟩
  refine hX_at (k := 1) e7 hL (by decide) (fun hk => ?_) (fun hk => ?_)
  · refine ⟨fun h => ?_, fun h => ?_⟩
    · rw [if_pos h] at h1 h0; exact or2 _ h1 h0
    · rw [if_neg h] at h1 h0
      refine ⟨fun h => ?_, fun h => ?_⟩
      · rw [if_pos h] at h1 h0; exact ⟨h0, h1⟩
      · rw [if_neg h] at h1 h0
        refine ⟨fun h => ?_, fun h => ?_⟩
        · rw [if_pos h] at h1 h0; exact or2 _ h1 h0
        · rw [if_neg h] at h1 h0
          refine ⟨fun h => ?_, fun h => ?_⟩
          · rw [if_pos h] at h1 h0; exact ⟨h0, h1⟩
          · rw [if_neg h] at h1 h0
            refine ⟨fun h => ?_, fun h => ?_⟩
            · rw [if_pos h] at h1 h0; exact ⟨h0, h1⟩
            · rw [if_neg h] at h1; exact h1 trivial
  · have h5 : s = 55 := Classical.byContradiction (fun q => hk (hl q))
    subst h5
    rw [if_neg (by decide), if_neg (by decide), if_neg (by decide), if_neg (by decide), if_neg (by decide)] at h1
    exact br_f (by decide) (br_f (by decide) (br_f (by decide) (br_f (by decide) (br_f (by decide) (h1 trivial)))))
theorem hM_part {post : Int32 → SS → AA → Prop} {T : SS} {B : AA} {s : Int32} (h1 : partF (B 1) s → post 1 T B) (h0 : ¬ partF (B 1) s → post 0 T B) : wM_M_hasPart post T B s := by
  unfold wM_M_hasPart wM_M_hasPart_19 wM_M_hasPart_29 wM_M_hasPart_63 wM_M_hasPart_68
  unfold partF at h1 h0
  have or2 : ∀ x : Int32, (x = 1 ∨ x = 2 → post 1 T B) → (¬ (x = 1 ∨ x = 2) → post 0 T B) → (x = 1 → post 1 T B) ∧ (¬ x = 1 → ((¬ x = 2 → post 0 T B) ∧ (x = 2 → post 1 T B))) := fun x y1 y0 => ⟨fun a => y1 (Or.inl a), fun a => ⟨fun b => y0 (fun q => q.elim a b), fun b => y1 (Or.inr b)⟩⟩
  rw [cl_1]
  refine ⟨vl_1 (by decide) (by decide), fun h => ?_, fun h => ?_⟩
  · rw [if_pos h] at h1 h0; exact or2 _ h1 h0
  · rw [if_neg h] at h1 h0
    by_cases g17 : s = 17
    · subst g17
      rw [if_pos rfl] at h1 h0
      exact bn_f (by decide) (bn_f (by decide) (br_t rfl ⟨h0, h1⟩))
    · rw [if_neg g17] at h1 h0
      refine ⟨fun h => ?_, fun h => ?_⟩
      · rw [if_neg h] at h1 h0
        by_cases g49 : s = 49
        · subst g49
          rw [if_pos rfl] at h1 h0
          exact bn_f (by decide) (br_f (by decide) (bn_t rfl ⟨h0, h1⟩))
        · rw [if_neg g49] at h1 h0
          refine ⟨fun h => ?_, fun h => ?_⟩
          · rw [if_neg h] at h1
            exact br_f g17 (bn_f g49 (h1 trivial))
          · rw [if_pos h] at h1 h0; exact ⟨h0, h1⟩
      · rw [if_pos h] at h1 h0; exact or2 _ h1 h0
theorem long_46 {q : Nat → Int32} {L : Nat} {s : Int32} (h : longF q L s) (hs : s = 46) : L = 3 := by
  subst hs
  unfold longF at h
  rw [if_neg (by decide), if_pos rfl] at h
  exact h
theorem long_49 {q : Nat → Int32} {L : Nat} {s : Int32} (h : longF q L s) (hs : s = 49) : 4 ≤ L ∧ (q 2 = 2 → L = 6) := by
  subst hs
  unfold longF at h
  rw [if_neg (by decide), if_neg (by decide), if_pos rfl] at h
  by_cases c : 2 < L ∧ q 2 = 2
  · rw [if_pos c] at h
    exact ⟨by omega, fun _ => h⟩
  · rw [if_neg c] at h
    exact ⟨by omega, fun e => absurd ⟨by omega, e⟩ c⟩
theorem long_52 {q : Nat → Int32} {L : Nat} {s : Int32} (h : longF q L s) (hs : s = 52) : L = 3 := by
  subst hs
  unfold longF at h
  rw [if_neg (by decide), if_neg (by decide), if_neg (by decide), if_pos rfl] at h
  exact h
theorem long_54 {q : Nat → Int32} {L : Nat} {s : Int32} (h : longF q L s) (hs : s = 54) : 3 ≤ L ∧ L ≤ 10 := by
  subst hs
  unfold longF at h
  rw [if_neg (by decide), if_neg (by decide), if_neg (by decide), if_neg (by decide), if_pos rfl] at h
  exact h
theorem long_39 {q : Nat → Int32} {L : Nat} {s : Int32} (h : longF q L s) (hs : s = 39) : 2 ≤ L ∧ (q 1 = 2 → L = 3) := by
  subst hs
  unfold longF at h
  rw [if_pos rfl] at h
  by_cases c : 1 < L ∧ q 1 = 2
  · rw [if_pos c] at h
    exact ⟨by omega, fun _ => h⟩
  · rw [if_neg c] at h
    exact ⟨by omega, fun e => absurd ⟨by omega, e⟩ c⟩
theorem hX_range {post : Int32 → SS → AA → Prop} {S : SS} {A : AA} {L : Nat} {s : Int32} (e7 : S 7 = nI L) (hL : L ≤ 34) (hl : longF (A 1) L s) (h1 : rngF (A 1) s → post 1 S A) (h0 : ¬ rngF (A 1) s → post 0 S A) : wX_T_isInRange post S A s := by
  unfold wX_T_isInRange
  unfold rngF at h1 h0
  refine hX_at (k := 1) e7 hL (by decide) (fun k1 => hX_at (k := 2) e7 hL (by decide) (fun k2 => ?_) (fun k2 => ?_)) (fun k1 => hX_at (k := 2) e7 hL (by decide) (fun k2 => absurd k2 (by omega)) (fun k2 => ?_))
  · refine ⟨fun h => ?_, fun h => ?_⟩
    · rw [if_pos h] at h1 h0
      exact ⟨fun a => h0 (fun q => q a), fun a => h1 a⟩
    · rw [if_neg h] at h1 h0
      refine ⟨fun h => ?_, fun h => ?_⟩
      · rw [if_pos h] at h1 h0
        exact ⟨h0, h1⟩
      · rw [if_neg h] at h1 h0
        refine ⟨fun h => ?_, fun h => ?_⟩
        · have h4 := (long_49 hl h).1
          rw [if_pos h] at h1 h0
          exact ⟨fun a => h0 (fun q => q.1 a), fun a => ⟨fun b => h0 (fun q => q.2.1 b), fun b => hX_atY 3 e7 hL (by omega) ⟨fun c => h0 (fun q => q.2.2 c), fun c => h1 ⟨a, b, c⟩⟩⟩⟩
        · rw [if_neg h] at h1 h0
          refine ⟨fun h => ?_, fun h => ?_⟩
          · rw [if_pos h] at h1 h0
            exact ⟨fun a => h0 (fun q => q.1 a), fun a => ⟨fun b => h0 (fun q => q.2.1 b), fun b => ⟨fun c => h0 (fun q => q.2.2 c), fun c => h1 ⟨a, b, c⟩⟩⟩⟩
          · rw [if_neg h] at h1
            exact h1 trivial
  · refine ⟨fun h => ?_, fun h => ?_⟩
    · rw [if_pos h] at h1 h0
      exact ⟨fun a => h0 (fun q => q a), fun a => h1 a⟩
    · rw [if_neg h] at h1 h0
      refine br_f (fun q => absurd (long_46 hl q) (by omega)) (br_f (fun q => absurd (long_49 hl q).1 (by omega)) (br_f (fun q => absurd (long_52 hl q) (by omega)) ?_))
      rw [if_neg (fun q => absurd (long_46 hl q) (by omega)), if_neg (fun q => absurd (long_49 hl q).1 (by omega)), if_neg (fun q => absurd (long_52 hl q) (by omega))] at h1
      exact h1 trivial
  · have h5 : s = 55 := Classical.byContradiction (fun q => absurd (long_2 hl q) (by omega))
    subst h5
    rw [if_neg (by decide), if_neg (by decide), if_neg (by decide), if_neg (by decide)] at h1
    exact br_f (by decide) (br_f (by decide) (br_f (by decide) (br_f (by decide) (h1 trivial))))
/-- the common code that is due; 0: none -/
noncomputable def agF (q : Nat → Int32) (L : Nat) (s ses unl : Int32) : Nat := @ite Nat (known s) (Classical.propDecidable _) (@ite Nat (longF q L s) (Classical.propDecidable _) (@ite Nat (partF q s) (Classical.propDecidable _) (@ite Nat (ses = 1 ∧ (late s ∨ s = 39)) (Classical.propDecidable _) 127 (@ite Nat (unl = 0 ∧ late s) (Classical.propDecidable _) 51 0)) 18) 19) 17
theorem agF_lt (q : Nat → Int32) (L : Nat) (s ses unl : Int32) : agF q L s ses unl < 256 := by
  unfold agF
  by_cases a : known s
  · rw [if_pos a]
    by_cases b : longF q L s
    · rw [if_pos b]
      by_cases c : partF q s
      · rw [if_pos c]
        by_cases d : ses = 1 ∧ (late s ∨ s = 39)
        · rw [if_pos d]; decide
        · rw [if_neg d]
          by_cases e : unl = 0 ∧ late s
          · rw [if_pos e]; decide
          · rw [if_neg e]; decide
      · rw [if_neg c]; decide
    · rw [if_neg b]; decide
  · rw [if_neg a]; decide
theorem agF_ok {q : Nat → Int32} {L : Nat} {s ses unl : Int32} (h : okF q L s ses unl) : agF q L s ses unl = 0 := by
  obtain ⟨a, b, c, d, e⟩ := h
  unfold agF
  rw [if_pos a, if_pos b, if_pos c, if_neg d, if_neg e]
theorem hX_refusal {post : Int32 → SS → AA → Prop} {S : SS} {A : AA} {L : Nat} {s : Int32} (e7 : S 7 = nI L) (hL : L ≤ 34) (hne : ∀ k : Nat, 0 < k → agF (A 1) L s (S 1) (S 18) = k → post (nI k) S A) (h0 : okF (A 1) L s (S 1) (S 18) → wX_T_refusal_75 post S A s) : wX_T_refusal post S A s := by
  unfold wX_T_refusal
  unfold agF at hne
  refine hX_known (fun k => bn_f (by decide) ?_) (fun k => bn_t rfl (hne 17 (by decide) (if_neg k)))
  rw [if_pos k] at hne
  refine hX_long e7 hL (fun l => bn_f (by decide) ?_) (fun l => bn_t rfl (hne 19 (by decide) (if_neg l)))
  rw [if_pos l] at hne
  refine hX_part e7 hL (fun q => long_2 l q) (fun p => bn_f (by decide) ?_) (fun p => bn_t rfl (hne 18 (by decide) (if_neg p)))
  rw [if_pos p] at hne
  have r58 : ∀ x : Int32, (late s → ¬ x = 0) → (¬ late s → x = 0) → ¬ (S 1 = 1 ∧ (late s ∨ s = 39)) → wX_T_refusal_58 post S A s x := by
    intro x x1 x0 ns
    rw [if_neg ns] at hne
    unfold wX_T_refusal_58
    by_cases hl : late s
    · exact br_f (x1 hl) ⟨fun u => h0 ⟨k, l, p, ns, fun q => u q.1⟩, fun u => hne 51 (by decide) (if_pos ⟨u, hl⟩)⟩
    · exact br_t (x0 hl) (h0 ⟨k, l, p, ns, fun q => hl q.2⟩)
  refine hX_late (fun hl => ⟨fun s1 => r58 1 (fun _ => by decide) (fun q => absurd hl q) (fun q => s1 q.1), fun s1 => bn_f (by decide) (hne 127 (by decide) (if_pos ⟨s1, Or.inl hl⟩))⟩) (fun hl => ⟨fun s1 => r58 0 (fun q => absurd q hl) (fun _ => rfl) (fun q => s1 q.1), fun s1 => bn_t rfl ⟨fun n39 => r58 0 (fun q => absurd q hl) (fun _ => rfl) (fun q => q.2.elim hl n39), fun y39 => hne 127 (by decide) (if_pos ⟨s1, Or.inr y39⟩)⟩⟩)
theorem hM_against {post : Int32 → SS → AA → Prop} {T : SS} {B : AA} {L : Nat} (e17 : T 17 = nI L) (hL : L ≤ 34) (hp : post (nI (agF (B 1) L (B 1 0) (T 3) (T 4))) T B) : wM_M_against post T B := by
  unfold wM_M_against wM_M_against_70
  rw [cl_0]
  unfold agF at hp
  refine ⟨vl_0 (by decide) (by decide), ?_⟩
  refine hM_known (fun k => bn_f (by decide) ?_) (fun k => bn_t rfl (by rw [if_neg k] at hp; exact hp))
  rw [if_pos k] at hp
  refine hM_long e17 hL (fun l => bn_f (by decide) ?_) (fun l => bn_t rfl (by rw [if_neg l] at hp; exact hp))
  rw [if_pos l] at hp
  refine hM_part (fun p => bn_f (by decide) ?_) (fun p => bn_t rfl (by rw [if_neg p] at hp; exact hp))
  rw [if_pos p] at hp
  have r75 : ∀ x : Int32, (late (B 1 0) → ¬ x = 0) → (¬ late (B 1 0) → x = 0) → wM_M_against_75 post T B (B 1 0) x := by
    intro x x1 x0
    unfold wM_M_against_75
    have r97 : ¬ (T 3 = 1 ∧ (late (B 1 0) ∨ B 1 0 = 39)) → wM_M_against_97 post T B x := by
      intro ns
      rw [if_neg ns] at hp
      unfold wM_M_against_97
      by_cases hl : late (B 1 0)
      · refine ⟨fun u => ?_, fun u => br_f (x1 hl) ?_⟩
        · rw [if_neg (fun q => u q.1)] at hp; exact hp
        · rw [if_pos ⟨u, hl⟩] at hp; exact hp
      · rw [if_neg (fun q => hl q.2)] at hp
        exact ⟨fun _ => hp, fun _ => br_t (x0 hl) hp⟩
    refine ⟨fun s1 => r97 (fun q => s1 q.1), fun s1 => ⟨fun hx => ?_, fun hx => ⟨fun n39 => r97 (fun q => q.2.elim (fun hl => x1 hl hx) n39), fun y39 => ?_⟩⟩⟩
    · have hl : late (B 1 0) := Classical.byContradiction (fun q => hx (x0 q))
      rw [if_pos ⟨s1, Or.inl hl⟩] at hp; exact hp
    · rw [if_pos ⟨s1, Or.inr y39⟩] at hp; exact hp
  have y1 : late (B 1 0) → wM_M_against_75 post T B (B 1 0) 1 := fun hl => r75 1 (fun _ => by decide) (fun q => absurd hl q)
  unfold late at y1
  refine ⟨fun a => y1 (Or.inl a), fun a => ⟨fun b => y1 (Or.inr (Or.inl b)), fun b => ⟨fun c => y1 (Or.inr (Or.inr (Or.inl c))), fun c => ⟨fun d => y1 (Or.inr (Or.inr (Or.inr (Or.inl d)))), fun d => ⟨fun e => r75 0 (fun q => ?_) (fun _ => rfl), fun e => y1 (Or.inr (Or.inr (Or.inr (Or.inr e))))⟩⟩⟩⟩⟩
  exfalso
  unfold late at q
  rcases q with q | q | q | q | q
  · exact a q
  · exact b q
  · exact c q
  · exact d q
  · exact e q
/-! writing and erasing -/
theorem by8_lay {f h : Nat → Int32} {st k : Nat} (hf : by8 f) (hh : ∀ j, ∃ b : Nat, b < 256 ∧ h j = nI b) : by8 (lay f st k h) := by
  intro i
  unfold lay
  split
  · exact hh _
  · exact hf i
theorem and_byte {f q : Nat → Int32} (hf : by8 f) (hq : by8 q) (i j : Nat) : ∃ b : Nat, b < 256 ∧ f i &&& q j = nI b := by
  obtain ⟨a, ha, ea⟩ := hf i
  obtain ⟨b, hb, eb⟩ := hq j
  refine ⟨a &&& b, Nat.lt_of_le_of_lt Nat.and_le_left ha, ?_⟩
  rw [ea, eb]
  exact nx_and a b
theorem chg_by {f : Nat → Int32} (hf : by8 f) {o num a : Int32} (i j : Nat) (ha : ∃ b : Nat, b < 256 ∧ a = nI b) : ∃ b : Nat, b < 256 ∧ chg o num j (f i) a = nI b := by
  obtain ⟨c, hc, ec⟩ := hf i
  obtain ⟨b, hb, eb⟩ := ha
  rw [ec, eb]
  exact chg_byte hc hb
/-- a stretch of the flash changed: byte j of it towards v j -/
def wr (o num : Int32) (f : Nat → Int32) (st k : Nat) (v : Nat → Int32) : Nat → Int32 := lay f st k (fun j => chg o num j (f (st + j)) (v j))
theorem wr_0 (o num : Int32) (f : Nat → Int32) (st : Nat) (v : Nat → Int32) : wr o num f st 0 v = f := lay_0 _ _ _
theorem wr_s (o num : Int32) (f : Nat → Int32) (st k : Nat) (v : Nat → Int32) : upd (wr o num f st k v) (st + k) (chg o num k (wr o num f st k v (st + k)) (v k)) = wr o num f st (k + 1) v := by
  unfold wr
  rw [lay_out (i := st + k) (by omega)]
  exact lay_s f st k (fun j => chg o num j (f (st + j)) (v j))
theorem wr_at (o num : Int32) (f : Nat → Int32) (st k : Nat) (v : Nat → Int32) : wr o num f st k v (st + k) = f (st + k) := lay_out (by omega)
theorem by8_wr {o num : Int32} {f v : Nat → Int32} {st k : Nat} (hf : by8 f) (hv : ∀ j, ∃ b : Nat, b < 256 ∧ v j = nI b) : by8 (wr o num f st k v) := by8_lay hf (fun j => chg_by hf _ j (hv j))
/-- a sector erased -/
def er (o num : Int32) (f : Nat → Int32) (s : Nat) : Nat → Int32 := wr o num f (16 * s) 16 (fun _ => 255)
theorem by8_er {o num : Int32} {f : Nat → Int32} {s : Nat} (hf : by8 f) : by8 (er o num f s) := by8_wr hf (fun _ => ⟨255, by decide, rfl⟩)
theorem wr_congr {o num : Int32} {f v1 v2 : Nat → Int32} {st k : Nat} (h : ∀ j, j < k → v1 j = v2 j) : wr o num f st k v1 = wr o num f st k v2 := lay_congr (fun j hj => by rw [h j hj])
theorem hX_end {post : Int32 → SS → AA → Prop} {S : SS} {A : AA} (h1 : S 5 = 0 → post 1 (va_up S 5 0) A) (h0 : ¬ S 5 = 0 → post 0 (va_up S 5 0) A) : wX_Mm_endChange (fun r S1 A1 => (tl_z r ∧ post r S1 A1)) S A := by
  unfold wX_Mm_endChange wX_Mm_endChange_12
  exact ⟨fun q => ⟨Or.inl rfl, Or.inl rfl, h0 q⟩, fun q => ⟨Or.inr rfl, Or.inr rfl, h1 q⟩⟩
theorem hX_erase {post : Int32 → SS → AA → Prop} {S : SS} {A : AA} {sec : Nat} (hs : sec < 6) (h1 : S 5 = 0 → post 1 (va_up S 5 0) (va_up A 0 (er (S 5) (S 6) (A 0) sec))) (h0 : ¬ S 5 = 0 → post 0 (va_up S 5 0) (va_up A 0 (er (S 5) (S 6) (A 0) sec))) : wX_Mm_erase post S A (nI sec) := by
  unfold wX_Mm_erase wX_Mm_has
  unfold er at h1 h0
  have e16 : nI sec * (16 : Int32) = nI (16 * sec) := by rw [show nI sec * (16 : Int32) = nI (sec * 16) from pk_mul sec 16, Nat.mul_comm]
  rw [e16, show (96 : Int32) - 16 = nI 80 by decide]
  refine br_f (nI_pos (by omega)) (br_f (nI_nlt (by omega) (by omega)) (bn_f (by decide) ?_))
  unfold wX_Mm_erase_19
  intro X19 hX19
  have key : ∀ m k : Nat, k + m = 16 → X19 S (va_up A 0 (wr (S 5) (S 6) (A 0) (16 * sec) k (fun _ => 255))) (nI (16 * sec)) (nI k) := by
    intro m
    induction m with
    | zero =>
      intro k hk
      have hk : k = 16 := by omega
      subst hk
      apply hX19
      unfold wX_Mm_erase_19B
      exact ⟨fun _ => hX_end h1 h0, fun q => absurd (show (16 : Int32) ≤ nI 16 from Int32.le_refl _) q⟩
    | succ m ih =>
      intro k hk
      apply hX19
      unfold wX_Mm_erase_19B
      refine ⟨fun q => absurd q (nI_ge (b := 16) (by omega) (by decide)), fun _ => ?_⟩
      rw [nI_add]
      refine hX_change (at0 := 16 * sec + k) (k0 := k) (by omega) (by omega) ?_
      have h2 := ih (k + 1) (by omega)
      rw [← wr_s] at h2
      rw [pz_inc, pz_upup]
      exact h2
  have h2 := key 16 0 rfl
  rw [wr_0, pz_up] at h2
  exact h2
theorem hM_erase {post : Int32 → SS → AA → Prop} {T : SS} {B : AA} {sec : Nat} (hs : sec < 6) (hB : by8 (B 0)) (hz : tl_z (T 0)) (hp : post (T 0) (va_up T 0 0) (va_up B 0 (er (T 0) (T 1) (B 0) sec))) : wM_M_erase post T B (nI sec) := by
  unfold wM_M_erase wM_M_erase_2
  unfold er at hp
  intro X2 hX2
  have key : ∀ m k : Nat, k + m = 16 → X2 T (va_up B 0 (wr (T 0) (T 1) (B 0) (16 * sec) k (fun _ => 255))) (nI sec) (nI k) := by
    intro m
    induction m with
    | zero =>
      intro k hk
      have hk : k = 16 := by omega
      subst hk
      apply hX2
      unfold wM_M_erase_2B wM_M_torn
      exact ⟨fun _ => ⟨hz, hz, hp⟩, fun q => absurd (show (16 : Int32) ≤ nI 16 from Int32.le_refl _) q⟩
    | succ m ih =>
      intro k hk
      apply hX2
      unfold wM_M_erase_2B
      refine ⟨fun q => absurd q (nI_ge (b := 16) (by omega) (by decide)), fun _ => ?_⟩
      rw [show (16 : Int32) * nI sec = nI (16 * sec) from pk_mul 16 sec, nI_add]
      refine hM_change (at0 := 16 * sec + k) (k0 := k) (v0 := 255) (by omega) (by omega) (by decide) (by rw [pz_us]; exact by8_wr hB (fun _ => ⟨255, by decide, rfl⟩)) ?_
      have h2 := ih (k + 1) (by omega)
      rw [← wr_s] at h2
      rw [pz_inc, pz_upup, pz_us]
      exact h2
  have h2 := key 16 0 rfl
  rw [wr_0, pz_up] at h2
  exact h2
/-! a block is written and compared -/
theorem hX_write4 {post : Int32 → SS → AA → Prop} {S : SS} {A : AA} {at0 m : Nat} (hat : at0 + m ≤ 96) (hm : m ≤ 32) (h1 : S 5 = 0 → post 1 (va_up S 5 0) (va_up A 0 (wr (S 5) (S 6) (A 0) at0 m (fun j => A 0 (at0 + j) &&& A 1 (2 + j))))) (h0 : ¬ S 5 = 0 → post 0 (va_up S 5 0) (va_up A 0 (wr (S 5) (S 6) (A 0) at0 m (fun j => A 0 (at0 + j) &&& A 1 (2 + j))))) : wX_Mm_write_4 post S A (nI at0) 2 (nI m) := by
  unfold wX_Mm_write_4 wX_Mm_has
  rw [show (96 : Int32) - nI m = nI (96 - m) from pk_sub (a := 96) (by omega), show (34 : Int32) - nI m = nI (34 - m) from pk_sub (a := 34) (by omega)]
  refine br_f (nI_pos (by omega)) (br_f (nI_nlt (by omega) (by omega)) (br_f (by decide) (br_t (nI_le (a := 2) (by omega) (by omega)) ?_)))
  unfold wX_Mm_write_4_24
  intro X24 hX24
  have key : ∀ d k : Nat, k + d = m → X24 S (va_up A 0 (wr (S 5) (S 6) (A 0) at0 k (fun j => A 0 (at0 + j) &&& A 1 (2 + j)))) (nI at0) 2 (nI m) (nI k) := by
    intro d
    induction d with
    | zero =>
      intro k hk
      have hk : k = m := by omega
      subst hk
      apply hX24
      unfold wX_Mm_write_4_24B
      exact ⟨fun _ => hX_end h1 h0, fun q => absurd (Int32.le_refl _) q⟩
    | succ d ih =>
      intro k hk
      apply hX24
      unfold wX_Mm_write_4_24B
      have e0 : (va_up A 0 (wr (S 5) (S 6) (A 0) at0 k (fun j => A 0 (at0 + j) &&& A 1 (2 + j)))) 0 = wr (S 5) (S 6) (A 0) at0 k (fun j => A 0 (at0 + j) &&& A 1 (2 + j)) := rfl
      have e1 : (va_up A 0 (wr (S 5) (S 6) (A 0) at0 k (fun j => A 0 (at0 + j) &&& A 1 (2 + j)))) 1 = A 1 := rfl
      rw [e0, e1, nI_add, show (2 : Int32) + nI k = nI (2 + k) from nI_add 2 k, nI_clamp (n := at0 + k) (by omega), nI_clamp (n := 2 + k) (by omega), wr_at]
      refine ⟨fun q => absurd q (nI_ge (by omega) (by omega)), fun _ => ⟨vp_in_nI (by omega) (by decide), vp_in_nI (by omega) (by decide), ?_⟩⟩
      refine hX_change (at0 := at0 + k) (k0 := k) (by omega) (by omega) ?_
      have h2 := ih (k + 1) (by omega)
      rw [← wr_s] at h2
      rw [pz_inc, pz_upup]
      exact h2
  have h2 := key m 0 (by omega)
  rw [wr_0, pz_up] at h2
  exact h2
theorem hM_write {post : Int32 → SS → AA → Prop} {T : SS} {B : AA} {at0 m : Nat} {x1 : Int32} (hat : at0 + m ≤ 96) (hm : m ≤ 32) (hB : by8 (B 0)) (hq : by8 (B 1)) (hz : tl_z (T 0))
    (h0 : T 0 = 0 → wM_M_block_173 post (va_up (va_up (va_up T 0 0) 14 (T 14 + nI m)) 15 (T 15 + 1)) (va_up B 0 (wr (T 0) (T 1) (B 0) at0 m (fun j => B 0 (at0 + j) &&& B 1 (2 + j)))) x1 (nI m) (nI at0) 0)
    (h1 : ¬ T 0 = 0 → post (-1) (va_up T 0 0) (va_up B 0 (wr (T 0) (T 1) (B 0) at0 m (fun j => B 0 (at0 + j) &&& B 1 (2 + j))))) : wM_M_block_98 post T B x1 (nI m) (nI at0) 0 := by
  unfold wM_M_block_98
  intro X98 hX98
  have key : ∀ d k : Nat, k + d = m → X98 T (va_up B 0 (wr (T 0) (T 1) (B 0) at0 k (fun j => B 0 (at0 + j) &&& B 1 (2 + j)))) x1 (nI m) (nI at0) (nI k) := by
    intro d
    induction d with
    | zero =>
      intro k hk
      have hk : k = m := by omega
      subst hk
      apply hX98
      unfold wM_M_block_98B wM_M_torn
      exact ⟨fun _ => ⟨hz, h0, h1⟩, fun q => absurd (Int32.le_refl _) q⟩
    | succ d ih =>
      intro k hk
      apply hX98
      unfold wM_M_block_98B
      have e0 : (va_up B 0 (wr (T 0) (T 1) (B 0) at0 k (fun j => B 0 (at0 + j) &&& B 1 (2 + j)))) 0 = wr (T 0) (T 1) (B 0) at0 k (fun j => B 0 (at0 + j) &&& B 1 (2 + j)) := rfl
      have e1 : (va_up B 0 (wr (T 0) (T 1) (B 0) at0 k (fun j => B 0 (at0 + j) &&& B 1 (2 + j)))) 1 = B 1 := rfl
      rw [e0, e1, nI_add, show (2 : Int32) + nI k = nI (2 + k) from nI_add 2 k, nI_clamp (n := at0 + k) (by omega), nI_clamp (n := 2 + k) (by omega), wr_at]
      refine ⟨fun q => absurd q (nI_ge (by omega) (by omega)), fun _ => ⟨vp_in_nI (by omega) (by decide), vp_in_nI (by omega) (by decide), ?_⟩⟩
      obtain ⟨v, hv, ev⟩ := and_byte hB hq (at0 + k) (2 + k)
      have h2 := ih (k + 1) (by omega)
      rw [← wr_s] at h2
      rw [ev, pz_inc]
      refine hM_change (at0 := at0 + k) (k0 := k) (v0 := v) (by omega) (by omega) hv (by rw [pz_us]; exact by8_wr hB (fun j => and_byte hB hq _ _)) ?_
      rw [pz_upup, pz_us, ← ev]
      exact h2
  have h2 := key m 0 (by omega)
  rw [wr_0, pz_up] at h2
  exact h2
theorem hX_holds {post : Int32 → SS → AA → Prop} {S : SS} {A : AA} {at0 m : Nat} (hat : at0 + m ≤ 96) (hm : m ≤ 32) (h1 : (∀ j, j < m → A 0 (at0 + j) = A 1 (2 + j)) → post 1 S A) (h0 : ¬ (∀ j, j < m → A 0 (at0 + j) = A 1 (2 + j)) → post 0 S A) : wX_Mm_holds_4 post S A (nI at0) 2 (nI m) := by
  unfold wX_Mm_holds_4 wX_Mm_has
  rw [show (96 : Int32) - nI m = nI (96 - m) from pk_sub (a := 96) (by omega), show (34 : Int32) - nI m = nI (34 - m) from pk_sub (a := 34) (by omega)]
  refine br_f (nI_pos (by omega)) (br_f (nI_nlt (by omega) (by omega)) (br_f (by decide) (br_t (nI_le (a := 2) (by omega) (by omega)) ?_)))
  unfold wX_Mm_holds_4_24
  intro X24 hX24
  have key : ∀ d k : Nat, k + d = m → (∀ j, j < k → A 0 (at0 + j) = A 1 (2 + j)) → X24 S A (nI at0) 2 (nI m) (nI k) := by
    intro d
    induction d with
    | zero =>
      intro k hk ha
      have hk : k = m := by omega
      subst hk
      apply hX24
      unfold wX_Mm_holds_4_24B
      exact ⟨fun _ => h1 ha, fun q => absurd (Int32.le_refl _) q⟩
    | succ d ih =>
      intro k hk ha
      apply hX24
      unfold wX_Mm_holds_4_24B
      rw [nI_add, show (2 : Int32) + nI k = nI (2 + k) from nI_add 2 k, nI_clamp (n := at0 + k) (by omega), nI_clamp (n := 2 + k) (by omega), pz_inc]
      exact ⟨fun q => absurd q (nI_ge (by omega) (by omega)), fun _ => ⟨vp_in_nI (by omega) (by decide), vp_in_nI (by omega) (by decide), fun e => ih (k + 1) (by omega) (lt_s ha e), fun e => h0 (fun q => e (q k (by omega)))⟩⟩
  exact key m 0 (by omega) lt_0
theorem hM_cmp {post : Int32 → SS → AA → Prop} {T : SS} {B : AA} {at0 m : Nat} {x1 : Int32} (hat : at0 + m ≤ 96) (hm : m ≤ 32) (h1 : (∀ j, j < m → B 0 (at0 + j) = B 1 (2 + j)) → wM_M_block_210 post T B x1) (h0 : ¬ (∀ j, j < m → B 0 (at0 + j) = B 1 (2 + j)) → post 114 T B) : wM_M_block_173 post T B x1 (nI m) (nI at0) 0 := by
  unfold wM_M_block_173
  intro X173 hX173
  have key : ∀ d k : Nat, k + d = m → (∀ j, j < k → B 0 (at0 + j) = B 1 (2 + j)) → X173 T B x1 (nI m) (nI at0) (nI k) := by
    intro d
    induction d with
    | zero =>
      intro k hk ha
      have hk : k = m := by omega
      subst hk
      apply hX173
      unfold wM_M_block_173B
      exact ⟨fun _ => h1 ha, fun q => absurd (Int32.le_refl _) q⟩
    | succ d ih =>
      intro k hk ha
      apply hX173
      unfold wM_M_block_173B
      rw [nI_add, show (2 : Int32) + nI k = nI (2 + k) from nI_add 2 k, nI_clamp (n := at0 + k) (by omega), nI_clamp (n := 2 + k) (by omega), pz_inc]
      exact ⟨fun q => absurd q (nI_ge (by omega) (by omega)), fun _ => ⟨vp_in_nI (by omega) (by decide), vp_in_nI (by omega) (by decide), fun e => ih (k + 1) (by omega) (lt_s ha e), fun e => h0 (fun q => e (q k (by omega)))⟩⟩
  exact key m 0 (by omega) lt_0
/-! a header is written: three bytes, then the mark -/
theorem hX_write12 {post : Int32 → SS → AA → Prop} {S : SS} {A : AA} {at0 m : Nat} (hat : at0 + m ≤ 96) (hm : m ≤ 3) (h1 : S 5 = 0 → post 1 (va_up S 5 0) (va_up A 0 (wr (S 5) (S 6) (A 0) at0 m (fun j => A 0 (at0 + j) &&& A 5 j)))) (h0 : ¬ S 5 = 0 → post 0 (va_up S 5 0) (va_up A 0 (wr (S 5) (S 6) (A 0) at0 m (fun j => A 0 (at0 + j) &&& A 5 j)))) : wX_Mm_write_12 post S A (nI at0) 0 (nI m) := by
  unfold wX_Mm_write_12 wX_Mm_has
  rw [show (96 : Int32) - nI m = nI (96 - m) from pk_sub (a := 96) (by omega), show (3 : Int32) - nI m = nI (3 - m) from pk_sub (a := 3) (by omega)]
  refine br_f (nI_pos (by omega)) (br_f (nI_nlt (by omega) (by omega)) (br_f (by decide) (br_t (nI_pos' (by omega)) ?_)))
  unfold wX_Mm_write_12_24
  intro X24 hX24
  have key : ∀ d k : Nat, k + d = m → X24 S (va_up A 0 (wr (S 5) (S 6) (A 0) at0 k (fun j => A 0 (at0 + j) &&& A 5 j))) (nI at0) 0 (nI m) (nI k) := by
    intro d
    induction d with
    | zero =>
      intro k hk
      have hk : k = m := by omega
      subst hk
      apply hX24
      unfold wX_Mm_write_12_24B
      exact ⟨fun _ => hX_end h1 h0, fun q => absurd (Int32.le_refl _) q⟩
    | succ d ih =>
      intro k hk
      apply hX24
      unfold wX_Mm_write_12_24B
      have e0 : (va_up A 0 (wr (S 5) (S 6) (A 0) at0 k (fun j => A 0 (at0 + j) &&& A 5 j))) 0 = wr (S 5) (S 6) (A 0) at0 k (fun j => A 0 (at0 + j) &&& A 5 j) := rfl
      have e1 : (va_up A 0 (wr (S 5) (S 6) (A 0) at0 k (fun j => A 0 (at0 + j) &&& A 5 j))) 5 = A 5 := rfl
      rw [e0, e1, nI_add, show (0 : Int32) + nI k = nI k by rw [show (0 : Int32) + nI k = nI (0 + k) from nI_add 0 k, Nat.zero_add], nI_clamp (n := at0 + k) (by omega), nI_clamp (n := k) (by omega), wr_at]
      refine ⟨fun q => absurd q (nI_ge (by omega) (by omega)), fun _ => ⟨vp_in_nI (by omega) (by decide), vp_in_nI (by omega) (by decide), ?_⟩⟩
      refine hX_change (at0 := at0 + k) (k0 := k) (by omega) (by omega) ?_
      have h2 := ih (k + 1) (by omega)
      rw [← wr_s] at h2
      rw [pz_inc, pz_upup]
      exact h2
  have h2 := key m 0 (by omega)
  rw [wr_0, pz_up] at h2
  exact h2
theorem hX_write12g {post : Int32 → SS → AA → Prop} {S : SS} {A : AA} {at0 m : Nat} (hat : at0 + m ≤ 96) (hm : m ≤ 3) (h : ∀ g : Nat → Int32, g = wr (S 5) (S 6) (A 0) at0 m (fun j => A 0 (at0 + j) &&& A 5 j) → (S 5 = 0 → post 1 (va_up S 5 0) (va_up A 0 g)) ∧ (¬ S 5 = 0 → post 0 (va_up S 5 0) (va_up A 0 g))) : wX_Mm_write_12 post S A (nI at0) 0 (nI m) := hX_write12 hat hm (h _ rfl).1 (h _ rfl).2
theorem sv_16 {n L : Nat} {S : SS} {A : AA} {T : SS} {B : AA} (hW : Wk n S A T B) (e7 : S 7 = nI L) (hL : L ≤ 34) (e11 : S 11 = nI 1) (e20 : T 20 = nI 0) (hs : B 1 0 = 16) (hA0 : A 3 0 = 80) (hl : 1 < L) (h12 : B 1 1 = 1 ∨ B 1 1 = 2) {P : Int32 → SS → AA → Prop} (hP : Dn n P (fun Q => wM_M_workOn Q T B) B) : wX_T_serve P S A 16 := by
  obtain ⟨hF, ⟨c1, c2, c3, c4, c5, c6, c7, c8, c9, c10, c11, c12, c13, c14, c15, c16, c17⟩, ⟨i1, i2⟩, hD, ⟨q1, q2, q3⟩, a1, hR⟩ := hW.step
  unfold wX_T_serve
  refine br_t rfl (?_)
  refine hX_atY 1 e7 hL hl ?_
  unfold wX_T_changeSession wX_Lk_close wX_Dl_end
  refine hX_atY 1 e7 hL hl ?_
  refine hX_done 1 e11 (by decide) ?_
  refine hP.1 0 _ _ (va_up (va_up (va_up (va_up (va_up (va_up T 3 (B 1 1)) 4 0) 8 0) 12 (-1)) 20 (nI 1)) 20 (nI 2)) (va_up (va_up B 2 (upd (B 2) 0 80)) 2 (upd (upd (B 2) 0 80) 1 (B 1 1))) (fun Q hQ => ?_) ⟨hF, ⟨c1, c2, ?_, h12, rfl, Or.inl rfl, c7, c8, c9, c10, c11, rfl, ⟨0, by decide, rfl⟩, c14, c15, c16, c17⟩, ⟨i1, i2⟩, Or.inl ⟨rfl, rfl⟩, ⟨q1, q2, q3⟩, a1, hR⟩ rfl (Or.inl ⟨rfl, 2, Or.inl (by decide), rfl, rfl, ?_⟩)
  · unfold wM_M_workOn
    rw [cl_0, hs]
    refine ⟨vl_0 (by decide) (by decide), br_t rfl (⟨vl_1 (by decide) (by decide), ?_⟩)⟩
    rw [cl_1]
    unfold wM_M_changeSession
    refine hM_add 0 e20 (by decide) ⟨vl_1 (by decide) (by decide), ?_⟩
    refine hM_add 1 rfl (by decide) ?_
    exact hQ
  · show A 1 1 = B 1 1
    rw [q1]
  · show ∀ i, i < 2 → upd (A 3) 1 (A 1 1) i = upd (upd (B 2) 0 80) 1 (B 1 1) i
    rw [q1]
    exact wa_s (wa_1 hA0) (B 1 1)
theorem sv_17 {n L : Nat} {S : SS} {A : AA} {T : SS} {B : AA} (hW : Wk n S A T B) (e7 : S 7 = nI L) (hL : L ≤ 34) (e11 : S 11 = nI 1) (e20 : T 20 = nI 0) (hs : B 1 0 = 17) (hA0 : A 3 0 = 81) (hl : 1 < L) (h1 : B 1 1 = 1) {P : Int32 → SS → AA → Prop} (hP : Dn n P (fun Q => wM_M_workOn Q T B) B) : wX_T_serve P S A 17 := by
  obtain ⟨hF, ⟨c1, c2, c3, c4, c5, c6, c7, c8, c9, c10, c11, c12, c13, c14, c15, c16, c17⟩, ⟨i1, i2⟩, hD, ⟨q1, q2, q3⟩, a1, hR⟩ := hW.step
  unfold wX_T_serve
  refine br_f (by decide) (br_f (by decide) (br_f (by decide) (br_f (by decide) (br_f (by decide) (br_f (by decide) (br_f (by decide) (br_f (by decide) (?_))))))))
  refine hX_atY 1 e7 hL hl ?_
  refine hX_done 1 e11 (by decide) ?_
  refine hP.1 0 _ _ (va_up (va_up T 20 (nI 1)) 20 (nI 2)) (va_up (va_up B 2 (upd (B 2) 0 81)) 2 (upd (upd (B 2) 0 81) 1 1)) (fun Q hQ => ?_) ⟨hF, ⟨c1, c2, c3, c4, c5, c6, c7, c8, c9, c10, c11, c12, c13, c14, c15, c16, c17⟩, ⟨i1, i2⟩, hD, ⟨q1, q2, q3⟩, a1, hR⟩ rfl (Or.inl ⟨rfl, 2, Or.inl (by decide), rfl, rfl, ?_⟩)
  · unfold wM_M_workOn
    rw [cl_0, hs]
    refine ⟨vl_0 (by decide) (by decide), br_f (by decide) (br_t rfl (?_))⟩
    refine hM_add 0 e20 (by decide) ?_
    refine hM_add 1 rfl (by decide) ?_
    exact hQ
  · show ∀ i, i < 2 → upd (A 3) 1 (A 1 1) i = upd (upd (B 2) 0 81) 1 1 i
    rw [q1, h1]
    exact wa_s (wa_1 hA0) 1
theorem sv_62 {n L : Nat} {S : SS} {A : AA} {T : SS} {B : AA} (hW : Wk n S A T B) (e7 : S 7 = nI L) (hL : L ≤ 34) (e11 : S 11 = nI 1) (e20 : T 20 = nI 0) (hs : B 1 0 = 62) (hA0 : A 3 0 = 126) (hl : 1 < L) (h1 : B 1 1 = 0) {P : Int32 → SS → AA → Prop} (hP : Dn n P (fun Q => wM_M_workOn Q T B) B) : wX_T_serve P S A 62 := by
  obtain ⟨hF, ⟨c1, c2, c3, c4, c5, c6, c7, c8, c9, c10, c11, c12, c13, c14, c15, c16, c17⟩, ⟨i1, i2⟩, hD, ⟨q1, q2, q3⟩, a1, hR⟩ := hW.step
  unfold wX_T_serve
  refine br_f (by decide) (br_f (by decide) (br_f (by decide) (br_f (by decide) (br_f (by decide) (br_f (by decide) (br_f (by decide) (br_f (by decide) (?_))))))))
  refine hX_atY 1 e7 hL hl ?_
  refine hX_done 1 e11 (by decide) ?_
  refine hP.1 0 _ _ (va_up (va_up T 20 (nI 1)) 20 (nI 2)) (va_up (va_up B 2 (upd (B 2) 0 126)) 2 (upd (upd (B 2) 0 126) 1 0)) (fun Q hQ => ?_) ⟨hF, ⟨c1, c2, c3, c4, c5, c6, c7, c8, c9, c10, c11, c12, c13, c14, c15, c16, c17⟩, ⟨i1, i2⟩, hD, ⟨q1, q2, q3⟩, a1, hR⟩ rfl (Or.inl ⟨rfl, 2, Or.inl (by decide), rfl, rfl, ?_⟩)
  · unfold wM_M_workOn
    rw [cl_0, hs]
    refine ⟨vl_0 (by decide) (by decide), br_f (by decide) (br_f (by decide) (br_f (by decide) (br_f (by decide) (br_f (by decide) (br_f (by decide) (br_f (by decide) (br_f (by decide) (br_t rfl (?_)))))))))⟩
    refine hM_add 0 e20 (by decide) ?_
    refine hM_add 1 rfl (by decide) ?_
    exact hQ
  · show ∀ i, i < 2 → upd (A 3) 1 (A 1 1) i = upd (upd (B 2) 0 126) 1 0 i
    rw [q1, h1]
    exact wa_s (wa_1 hA0) 0
theorem sv_46 {n L : Nat} {S : SS} {A : AA} {T : SS} {B : AA} (hW : Wk n S A T B) (e7 : S 7 = nI L) (hL : L ≤ 34) (e11 : S 11 = nI 1) (e20 : T 20 = nI 0) (hs : B 1 0 = 46) (hA0 : A 3 0 = 110) (hl : 2 < L) (h1 : B 1 1 = 1) {P : Int32 → SS → AA → Prop} (hP : Dn n P (fun Q => wM_M_workOn Q T B) B) : wX_T_serve P S A 46 := by
  obtain ⟨hF, ⟨c1, c2, c3, c4, c5, c6, c7, c8, c9, c10, c11, c12, c13, c14, c15, c16, c17⟩, ⟨i1, i2⟩, hD, ⟨q1, q2, q3⟩, a1, hR⟩ := hW.step
  unfold wX_T_serve
  refine br_f (by decide) (br_f (by decide) (br_f (by decide) (br_t rfl (?_))))
  refine hX_atY 2 e7 hL hl ?_
  refine hX_done 1 e11 (by decide) ?_
  refine hP.1 0 _ _ (va_up (va_up (va_up T 6 (B 1 2)) 20 (nI 1)) 20 (nI 2)) (va_up (va_up B 2 (upd (B 2) 0 110)) 2 (upd (upd (B 2) 0 110) 1 1)) (fun Q hQ => ?_) ⟨hF, ⟨c1, c2, c3, c4, c5, c6, c7, c8, ?_, c10, c11, c12, c13, c14, c15, c16, c17⟩, ⟨i1, i2⟩, hD, ⟨q1, q2, q3⟩, a1, hR⟩ rfl (Or.inl ⟨rfl, 2, Or.inl (by decide), rfl, rfl, ?_⟩)
  · unfold wM_M_workOn
    rw [cl_0, hs]
    refine ⟨vl_0 (by decide) (by decide), br_f (by decide) (br_f (by decide) (br_f (by decide) (br_f (by decide) (br_t rfl (?_)))))⟩
    unfold wM_M_writeData
    rw [cl_1, cl_2, h1]
    refine ⟨vl_1 (by decide) (by decide), br_t rfl ⟨vl_2 (by decide) (by decide), ?_⟩⟩
    refine hM_add 0 e20 (by decide) ?_
    refine hM_add 1 rfl (by decide) ?_
    exact hQ
  · show A 1 2 = B 1 2
    rw [q1]
  · exact wa_s (wa_1 hA0) 1
theorem toc_X {post : Int32 → SS → AA → Prop} {S : SS} {A : AA} {T : SS} {n : Nat} (hD : RelD n S T) (h0 : S 23 = 0 → T 12 = -1 → post (-1) S A) (h1 : ∀ sz ca bl sl : Nat, S 23 = 1 → S 24 = nI sl → T 12 = nI sl → sl ≤ 1 → S 25 = nI sz → T 13 = nI sz → S 26 = nI ca → T 14 = nI ca → S 27 = nI bl → T 15 = nI bl → ca ≤ sz → sz ≤ 32 → bl ≤ n → post (nI (sz - ca)) S A) : wX_Dl_toCome post S A := by
  unfold wX_Dl_toCome
  rcases hD with ⟨d1, d2⟩ | ⟨d1, d2, d3, d4, d5, d6, sz, ca, bl, e1, e2, e3, g1, g2, g3⟩
  · exact br_t d1 (h0 d1 d2)
  · refine br_f (by rw [d1]; decide) ?_
    obtain ⟨sl, hsl, esl⟩ : ∃ sl : Nat, sl ≤ 1 ∧ T 12 = nI sl := by
      rcases d3 with d3 | d3
      · exact ⟨0, by decide, d3⟩
      · exact ⟨1, by decide, d3⟩
    have e4 : S 25 - S 26 = nI (sz - ca) := by rw [d4, d5, e1, e2]; exact pk_sub g1
    rw [e4]
    exact h1 sz ca bl sl d1 (d2.trans esl) esl hsl (d4.trans e1) e1 (d5.trans e2) e2 (d6.trans e3) e3 g1 g2 g3
theorem toc_M0 {post : Int32 → SS → AA → Prop} {T : SS} {B : AA} (h : T 12 = -1) (hp : post (-1) T B) : wM_M_toCome post T B := by
  unfold wM_M_toCome
  exact br_f (by rw [h]; decide) hp
theorem toc_M1 {post : Int32 → SS → AA → Prop} {T : SS} {B : AA} {sl sz ca : Nat} (h : T 12 = nI sl) (hs : sl ≤ 1) (e1 : T 13 = nI sz) (e2 : T 14 = nI ca) (hc : ca ≤ sz) (hp : post (nI (sz - ca)) T B) : wM_M_toCome post T B := by
  unfold wM_M_toCome
  rw [e1, e2, show nI sz - nI ca = nI (sz - ca) from pk_sub hc]
  exact br_t (by rw [h]; exact nI_pos' (by omega)) hp
theorem sv_55 {n L : Nat} {S : SS} {A : AA} {T : SS} {B : AA} (hW : Wk n S A T B) (e7 : S 7 = nI L) (hL : L ≤ 34) (e11 : S 11 = nI 1) (e20 : T 20 = nI 0) (hs : B 1 0 = 55) (hA0 : A 3 0 = 119) {P : Int32 → SS → AA → Prop} (hP : Dn n P (fun Q => wM_M_workOn Q T B) B) : wX_T_serve P S A 55 := by
  obtain ⟨hF, ⟨c1, c2, c3, c4, c5, c6, c7, c8, c9, c10, c11, c12, c13, c14, c15, c16, c17⟩, ⟨i1, i2⟩, hD, ⟨q1, q2, q3⟩, a1, hR⟩ := hW.step
  unfold wX_T_serve
  refine br_f (by decide) (br_f (by decide) (br_f (by decide) (br_f (by decide) (br_f (by decide) (br_f (by decide) (br_f (by decide) (br_t rfl (?_))))))))
  unfold wX_T_endDownload
  refine toc_X hD (fun d1 d2 => br_f (by decide) ?_) (fun sz ca bl sl d1 d2 d3 d4 d5 d6 d7 d8 d9 d10 g1 g2 g3 => ⟨fun z => ?_, fun z => ?_⟩)
  · refine hP.1 36 _ _ T B (fun Q hQ => ?_) hW.step rfl (Or.inr ⟨by show ¬ B 1 0 = 17; rw [hs]; decide, 36, by decide, by decide, rfl⟩)
    unfold wM_M_workOn
    rw [cl_0, hs]
    refine ⟨vl_0 (by decide) (by decide), br_f (by decide) (br_f (by decide) (br_f (by decide) (br_f (by decide) (br_f (by decide) (br_f (by decide) (br_f (by decide) (br_f (by decide) (br_f (by decide) (?_)))))))))⟩
    unfold wM_M_leave
    exact toc_M0 d2 (br_f (by decide) hQ)
  · unfold wX_Dl_end
    refine hP.1 0 _ _ (va_up (va_up T 12 (-1)) 20 (nI 1)) (va_up B 2 (upd (B 2) 0 119)) (fun Q hQ => ?_) ⟨hF, ⟨c1, c2, c3, c4, c5, c6, c7, c8, c9, c10, c11, c12, c13, c14, c15, c16, c17⟩, ⟨i1, i2⟩, Or.inl ⟨rfl, rfl⟩, ⟨q1, q2, q3⟩, a1, hR⟩ rfl (Or.inl ⟨rfl, 1, Or.inl (by decide), e11, rfl, wa_1 hA0⟩)
    unfold wM_M_workOn
    rw [cl_0, hs]
    refine ⟨vl_0 (by decide) (by decide), br_f (by decide) (br_f (by decide) (br_f (by decide) (br_f (by decide) (br_f (by decide) (br_f (by decide) (br_f (by decide) (br_f (by decide) (br_f (by decide) (?_)))))))))⟩
    unfold wM_M_leave
    refine toc_M1 d3 d4 d6 d8 g1 (br_t z ?_)
    refine hM_add 0 e20 (by decide) ?_
    exact hQ
  · refine hP.1 36 _ _ T B (fun Q hQ => ?_) hW.step rfl (Or.inr ⟨by show ¬ B 1 0 = 17; rw [hs]; decide, 36, by decide, by decide, rfl⟩)
    unfold wM_M_workOn
    rw [cl_0, hs]
    refine ⟨vl_0 (by decide) (by decide), br_f (by decide) (br_f (by decide) (br_f (by decide) (br_f (by decide) (br_f (by decide) (br_f (by decide) (br_f (by decide) (br_f (by decide) (br_f (by decide) (?_)))))))))⟩
    unfold wM_M_leave
    exact toc_M1 d3 d4 d6 d8 g1 (br_f z hQ)
theorem sv_52 {n L : Nat} {S : SS} {A : AA} {T : SS} {B : AA} (hW : Wk n S A T B) (e7 : S 7 = nI L) (hL : L ≤ 34) (e11 : S 11 = nI 1) (e20 : T 20 = nI 0) (hs : B 1 0 = 52) (hA0 : A 3 0 = 116) (hl : 2 < L) (hr1 : ¬ (1 : Int32) < B 1 1) (hr2 : ¬ B 1 2 < (1 : Int32)) (hr3 : ¬ (32 : Int32) < B 1 2) {P : Int32 → SS → AA → Prop} (hP : Dn n P (fun Q => wM_M_workOn Q T B) B) : wX_T_serve P S A 52 := by
  obtain ⟨hF, ⟨c1, c2, c3, c4, c5, c6, c7, c8, c9, c10, c11, c12, c13, c14, c15, c16, c17⟩, ⟨i1, i2⟩, hD, ⟨q1, q2, q3⟩, a1, hR⟩ := hW.step
  obtain ⟨u, hu, eu⟩ := q2 1
  obtain ⟨v, hv, ev⟩ := q2 2
  have hu1 : u ≤ 1 := Nat.le_of_not_lt (fun q => hr1 (by rw [eu]; exact nI_lt (a := 1) q (by omega)))
  have hv2 : v ≤ 32 := Nat.le_of_not_lt (fun q => hr3 (by rw [ev]; exact nI_lt (a := 32) q (by omega)))
  unfold wX_T_serve
  refine br_f (by decide) (br_f (by decide) (br_f (by decide) (br_f (by decide) (br_f (by decide) (br_t rfl (?_))))))
  refine hX_atY 1 e7 hL (by omega) ?_
  refine hX_atY 2 e7 hL hl ?_
  unfold wX_T_beginDownload wX_Dl_begin
  rw [q1, c1]
  refine ⟨fun hne => ?_, fun he => ?_⟩
  · refine hX_done 1 e11 (by decide) ?_
    refine hP.1 0 _ _ (va_up (va_up (va_up (va_up (va_up (va_up (va_up T 12 (B 1 1)) 13 (B 1 2)) 14 0) 15 0) 5 (-1)) 20 (nI 1)) 20 (nI 2)) (va_up (va_up B 2 (upd (B 2) 0 116)) 2 (upd (upd (B 2) 0 116) 1 8)) (fun Q hQ => ?_) ⟨hF, ⟨c1, c2, c3, c4, c5, c6, rfl, Or.inl rfl, c9, c10, c11, c12, c13, c14, c15, c16, c17⟩, ⟨i1, i2⟩, Or.inr ⟨rfl, rfl, ?_, rfl, rfl, rfl, v, 0, 0, ev, rfl, rfl, Nat.zero_le _, hv2, Nat.zero_le _⟩, ⟨q1, q2, q3⟩, a1, hR⟩ rfl (Or.inl ⟨rfl, 2, Or.inl (by decide), rfl, rfl, wa_s (wa_1 hA0) 8⟩)
    · unfold wM_M_workOn
      rw [cl_0, hs]
      refine ⟨vl_0 (by decide) (by decide), br_f (by decide) (br_f (by decide) (br_f (by decide) (br_f (by decide) (br_f (by decide) (br_f (by decide) (br_t rfl (?_)))))))⟩
      unfold wM_M_download
      rw [cl_1, cl_2]
      refine ⟨vl_1 (by decide) (by decide), vl_2 (by decide) (by decide), br_f hr1 (br_f hr2 (br_t (Int32.not_lt.mp hr3) (bn_f hne ?_)))⟩
      refine hM_add 0 e20 (by decide) ?_
      refine hM_add 1 rfl (by decide) ?_
      exact hQ
    · show B 1 1 = 0 ∨ B 1 1 = 1
      rw [eu]
      have : u = 0 ∨ u = 1 := by omega
      rcases this with q | q
      · exact Or.inl (by rw [q]; rfl)
      · exact Or.inr (by rw [q]; rfl)
  · refine hP.1 34 _ _ T B (fun Q hQ => ?_) hW.step rfl (Or.inr ⟨by show ¬ B 1 0 = 17; rw [hs]; decide, 34, by decide, by decide, rfl⟩)
    unfold wM_M_workOn
    rw [cl_0, hs]
    refine ⟨vl_0 (by decide) (by decide), br_f (by decide) (br_f (by decide) (br_f (by decide) (br_f (by decide) (br_f (by decide) (br_f (by decide) (br_t rfl (?_)))))))⟩
    unfold wM_M_download
    rw [cl_1, cl_2]
    exact ⟨vl_1 (by decide) (by decide), vl_2 (by decide) (by decide), br_f hr1 (br_f hr2 (br_t (Int32.not_lt.mp hr3) (bn_t he hQ)))⟩
theorem hM_rd66 {post : Int32 → SS → AA → Prop} {T : SS} {B : AA} {x1 : Int32} (h : ¬ x1 = 2) (hp : post 0 T B) : wM_M_readData_66 post T B x1 := by
  unfold wM_M_readData_66 wM_M_readData_68
  intro X hX
  apply hX
  unfold wM_M_readData_68B
  exact br_f (by decide) (bn_f h hp)
theorem hX_rd {post : Int32 → SS → AA → Prop} {S : SS} {A : AA} {st : Nat} (hst : st + 8 ≤ 96) (e11 : S 11 = nI 2) (hp : post 0 (va_up S 11 (nI 10)) (va_up A 3 (lay (A 3) 2 8 (fun j => A 0 (st + j))))) : wX_T_read_61 post S A (nI st) 0 := by
  unfold wX_T_read_61
  intro X hX
  have key : ∀ m k : Nat, k + m = 8 → X (va_up S 11 (nI (2 + k))) (va_up A 3 (lay (A 3) 2 k (fun j => A 0 (st + j)))) (nI st) (nI k) := by
    intro m
    induction m with
    | zero =>
      intro k hk
      have hk : k = 8 := by omega
      subst hk
      apply hX
      unfold wX_T_read_61B
      exact ⟨fun _ => hp, fun q => absurd (show (8 : Int32) ≤ nI 8 from Int32.le_refl _) q⟩
    | succ m ih =>
      intro k hk
      apply hX
      unfold wX_T_read_61B
      refine ⟨fun q => absurd q (nI_ge (b := 8) (by omega) (by decide)), fun _ => ?_⟩
      rw [nI_add]
      refine hX_byteAt (n := st + k) (by omega) ?_
      refine hX_sadd (2 + k) rfl (by omega) ?_
      have h2 := ih (k + 1) (by omega)
      rw [← lay_s] at h2
      rw [pz_inc, pz_upup, pz_upup]
      exact h2
  have h2 := key 8 0 rfl
  rw [lay_0, pz_up, show nI (2 + 0) = S 11 from e11.symm, pz_up] at h2
  exact h2
theorem hM_rd {post : Int32 → SS → AA → Prop} {T : SS} {B : AA} {r0 : Nat} (hr : r0 ≤ 1) (e2 : T 2 = nI r0) (e20 : T 20 = nI 2) (hp : post 0 (va_up T 20 (nI 10)) (va_up B 2 (lay (B 2) 2 8 (fun j => B 0 (48 * r0 + j))))) : wM_M_readData_66 post T B 2 := by
  unfold wM_M_readData_66 wM_M_readData_68
  intro X hX
  have key : ∀ m k : Nat, k + m = 8 → X (va_up T 20 (nI (2 + k))) (va_up B 2 (lay (B 2) 2 k (fun j => B 0 (48 * r0 + j)))) 2 (nI k) := by
    intro m
    induction m with
    | zero =>
      intro k hk
      have hk : k = 8 := by omega
      subst hk
      apply hX
      unfold wM_M_readData_68B
      exact ⟨fun _ => hp, fun q => absurd (show (8 : Int32) ≤ nI 8 from Int32.le_refl _) q⟩
    | succ m ih =>
      intro k hk
      apply hX
      unfold wM_M_readData_68B
      have e2' : (va_up T 20 (nI (2 + k))) 2 = nI r0 := e2
      have e0' : (va_up B 2 (lay (B 2) 2 k (fun j => B 0 (48 * r0 + j)))) 0 = B 0 := rfl
      rw [e2', e0', show (48 : Int32) * nI r0 = nI (48 * r0) from pk_mul 48 r0, nI_add, nI_clamp (n := 48 * r0 + k) (by omega)]
      refine ⟨fun q => absurd q (nI_ge (b := 8) (by omega) (by decide)), fun _ => bn_t rfl ⟨vp_in_nI (by omega) (by decide), ?_⟩⟩
      refine hM_add (2 + k) rfl (by omega) ?_
      have h2 := ih (k + 1) (by omega)
      rw [← lay_s] at h2
      rw [pz_inc, pz_upup, pz_upup]
      exact h2
  have h2 := key 8 0 rfl
  rw [lay_0, pz_up, show nI (2 + 0) = T 20 from e20.symm, pz_up] at h2
  exact h2
theorem sv_34 {n L : Nat} {S : SS} {A : AA} {T : SS} {B : AA} (hW : Wk n S A T B) (e7 : S 7 = nI L) (hL : L ≤ 34) (e11 : S 11 = nI 1) (e20 : T 20 = nI 0) (hs : B 1 0 = 34) (hA0 : A 3 0 = 98) (hl : 1 < L) (hr : ¬ (2 : Int32) < B 1 1) {P : Int32 → SS → AA → Prop} (hP : Dn n P (fun Q => wM_M_workOn Q T B) B) : wX_T_serve P S A 34 := by
  obtain ⟨hF, ⟨c1, c2, c3, c4, c5, c6, c7, c8, c9, c10, c11, c12, c13, c14, c15, c16, c17⟩, ⟨i1, i2⟩, hD, ⟨q1, q2, q3⟩, a1, hR⟩ := hW.step
  obtain ⟨u, hu, eu⟩ := q2 1
  have hu2 : u ≤ 2 := Nat.le_of_not_lt (fun q => hr (by rw [eu]; exact nI_lt (a := 2) q (by omega)))
  have hle : B 1 1 ≤ (2 : Int32) := Int32.not_lt.mp hr
  have ex1 : A 1 1 = B 1 1 := by rw [q1]
  unfold wX_T_serve
  refine br_f (by decide) (br_t rfl (?_))
  refine hX_atY 1 e7 hL hl ?_
  unfold wX_T_read
  rw [ex1, c1]
  have hneg : T 2 = -1 → ¬ B 1 1 = 1 → P 34 S A := by
    intro h2 h1
    refine hP.1 34 _ _ T B (fun Q hQ => ?_) hW.step rfl (Or.inr ⟨by show ¬ B 1 0 = 17; rw [hs]; decide, 34, by decide, by decide, rfl⟩)
    unfold wM_M_workOn
    rw [cl_0, hs]
    refine ⟨vl_0 (by decide) (by decide), br_f (by decide) (br_f (by decide) (br_t rfl (?_)))⟩
    unfold wM_M_readData
    rw [cl_1]
    exact ⟨vl_1 (by decide) (by decide), br_t hle (br_f h1 (br_f (by rw [h2]; decide) hQ))⟩
  have hpos : (B 1 1 = 1 ∨ ¬ T 2 = -1) → wX_T_read_16 P S A (B 1 1) := by
    intro hc
    -- the reference's road to its answer
    have ref : ∀ Q : Int32 → SS → AA → Prop, wM_M_readData_30 Q T B (B 1 1) → wM_M_workOn Q T B := by
      intro Q hQ
      unfold wM_M_workOn
      rw [cl_0, hs]
      refine ⟨vl_0 (by decide) (by decide), br_f (by decide) (br_f (by decide) (br_t rfl (?_)))⟩
      unfold wM_M_readData
      rw [cl_1]
      refine ⟨vl_1 (by decide) (by decide), br_t hle ⟨fun _ => hQ, fun h1 => ⟨fun _ => hQ, fun h2 => ?_⟩⟩⟩
      exfalso
      rcases hc with hc | hc
      · exact h1 hc
      · rcases c2 with q | q | q
        · exact hc q
        · exact h2 (by rw [q]; exact Int32.le_refl _)
        · exact h2 (by rw [q]; decide)
    unfold wX_T_read_16
    refine hX_sadd 1 e11 (by decide) ?_
    have e3 : u = 0 ∨ u = 1 ∨ u = 2 := by omega
    rcases e3 with q | q | q
    · have ed : B 1 1 = 0 := by rw [eu, q]; rfl
      rw [ed] at ref ⊢
      refine bn_t rfl ?_
      refine hX_done 2 rfl (by decide) ?_
      refine hP.1 0 _ _ (va_up (va_up (va_up T 20 (nI 1)) 20 (nI 2)) 20 (nI 3)) (va_up (va_up (va_up B 2 (upd (B 2) 0 98)) 2 (upd (upd (B 2) 0 98) 1 0)) 2 (upd (upd (upd (B 2) 0 98) 1 0) 2 (T 2))) (fun Q hQ => ref Q ?_) ⟨hF, ⟨c1, c2, c3, c4, c5, c6, c7, c8, c9, c10, c11, c12, c13, c14, c15, c16, c17⟩, ⟨i1, i2⟩, hD, ⟨q1, q2, q3⟩, a1, hR⟩ rfl (Or.inl ⟨rfl, 3, Or.inl (by decide), rfl, rfl, ?_⟩)
      · unfold wM_M_readData_30 wM_M_readData_53
        refine hM_add 0 e20 (by decide) ?_
        refine hM_add 1 rfl (by decide) ?_
        refine bn_t rfl ?_
        refine hM_add 2 rfl (by decide) ?_
        refine bn_f (by decide) ?_
        exact hM_rd66 (by decide) hQ
      · show ∀ i, i < 3 → upd (upd (A 3) 1 0) 2 (S 0) i = upd (upd (upd (B 2) 0 98) 1 0) 2 (T 2) i
        rw [c1]
        exact wa_s (wa_s (wa_1 hA0) 0) (T 2)
    · have ed : B 1 1 = 1 := by rw [eu, q]; rfl
      rw [ed] at ref ⊢
      refine bn_f (by decide) (bn_t rfl ?_)
      refine hX_done 2 rfl (by decide) ?_
      refine hP.1 0 _ _ (va_up (va_up (va_up T 20 (nI 1)) 20 (nI 2)) 20 (nI 3)) (va_up (va_up (va_up B 2 (upd (B 2) 0 98)) 2 (upd (upd (B 2) 0 98) 1 1)) 2 (upd (upd (upd (B 2) 0 98) 1 1) 2 (T 6))) (fun Q hQ => ref Q ?_) ⟨hF, ⟨c1, c2, c3, c4, c5, c6, c7, c8, c9, c10, c11, c12, c13, c14, c15, c16, c17⟩, ⟨i1, i2⟩, hD, ⟨q1, q2, q3⟩, a1, hR⟩ rfl (Or.inl ⟨rfl, 3, Or.inl (by decide), rfl, rfl, ?_⟩)
      · unfold wM_M_readData_30 wM_M_readData_53
        refine hM_add 0 e20 (by decide) ?_
        refine hM_add 1 rfl (by decide) ?_
        refine bn_f (by decide) (bn_t rfl ?_)
        refine hM_add 2 rfl (by decide) ?_
        exact hM_rd66 (by decide) hQ
      · show ∀ i, i < 3 → upd (upd (A 3) 1 1) 2 (S 3) i = upd (upd (upd (B 2) 0 98) 1 1) 2 (T 6) i
        rw [c9]
        exact wa_s (wa_s (wa_1 hA0) 1) (T 6)
    · have ed : B 1 1 = 2 := by rw [eu, q]; rfl
      rw [ed] at ref hc ⊢
      obtain ⟨r0, hr0, er⟩ : ∃ r0 : Nat, r0 ≤ 1 ∧ T 2 = nI r0 := by
        rcases c2 with q | q | q
        · rcases hc with hc | hc
          · exact absurd hc (by decide)
          · exact absurd q hc
        · exact ⟨0, by decide, q⟩
        · exact ⟨1, by decide, q⟩
      refine bn_f (by decide) (bn_f (by decide) ?_)
      unfold wX_Mm_imageOf
      have est : S 0 * (48 : Int32) = nI (48 * r0) := by
        rw [c1, er, show nI r0 * (48 : Int32) = nI (r0 * 48) from pk_mul r0 48, Nat.mul_comm]
      show wX_T_read_61 P (va_up S 11 (nI (1 + 1))) (va_up A 3 (upd (A 3) 1 2)) (S 0 * (48 : Int32)) 0
      rw [est]
      refine hX_rd (st := 48 * r0) (by omega) rfl ?_
      refine hP.1 0 _ _ (va_up (va_up (va_up T 20 (nI 1)) 20 (nI 2)) 20 (nI 10)) (va_up (va_up (va_up B 2 (upd (B 2) 0 98)) 2 (upd (upd (B 2) 0 98) 1 2)) 2 (lay (upd (upd (B 2) 0 98) 1 2) 2 8 (fun j => B 0 (48 * r0 + j)))) (fun Q hQ => ref Q ?_) ⟨hF, ⟨c1, c2, c3, c4, c5, c6, c7, c8, c9, c10, c11, c12, c13, c14, c15, c16, c17⟩, ⟨i1, i2⟩, hD, ⟨q1, q2, q3⟩, a1, hR⟩ rfl (Or.inl ⟨rfl, 10, Or.inr rfl, rfl, rfl, ?_⟩)
      · unfold wM_M_readData_30 wM_M_readData_53
        refine hM_add 0 e20 (by decide) ?_
        refine hM_add 1 rfl (by decide) ?_
        refine bn_f (by decide) (bn_f (by decide) ?_)
        exact hM_rd (r0 := r0) hr0 er rfl hQ
      · show ∀ i, i < 10 → lay (upd (A 3) 1 2) 2 8 (fun j => A 0 (48 * r0 + j)) i = lay (upd (upd (B 2) 0 98) 1 2) 2 8 (fun j => B 0 (48 * r0 + j)) i
        intro i hi
        by_cases h2 : i < 2
        · rw [lay_out (by omega), lay_out (by omega)]
          exact wa_s (wa_1 hA0) 2 i h2
        · obtain ⟨j, rfl⟩ : ∃ j, i = 2 + j := ⟨i - 2, by omega⟩
          rw [lay_in (by omega), lay_in (by omega), hF.1]
  exact ⟨fun h => hpos (Or.inl h), fun h => ⟨fun h2 => hpos (Or.inr h2), fun h2 => hneg h2 h⟩⟩
theorem sv_39 {n L : Nat} {S : SS} {A : AA} {T : SS} {B : AA} (hW : Wk n S A T B) (e7 : S 7 = nI L) (hL : L ≤ 34) (e11 : S 11 = nI 1) (e20 : T 20 = nI 0) (hs : B 1 0 = 39) (hA0 : A 3 0 = 103) (hn : n < 2 ^ 20) (hl : 2 ≤ L) (h12 : B 1 1 = 1 ∨ B 1 1 = 2) (h3 : B 1 1 = 2 → L = 3) {P : Int32 → SS → AA → Prop} (hP : Dn n P (fun Q => wM_M_workOn Q T B) B) : wX_T_serve P S A 39 := by
  obtain ⟨hF, ⟨c1, c2, c3, c4, c5, c6, c7, c8, c9, c10, c11, c12, c13, c14, c15, c16, c17⟩, ⟨i1, i2⟩, hD, ⟨q1, q2, q3⟩, a1, hR⟩ := hW.step
  obtain ⟨g, hg, eg⟩ : ∃ g : Nat, g ≤ n ∧ T 7 = nI g := hW.2.1.2.2.2.2.2.2.2.2.2.2.1
  obtain ⟨b, hb, eb⟩ := c13
  have ex1 : A 1 1 = B 1 1 := by rw [q1]
  have ex2 : A 1 2 = B 1 2 := by rw [q1]
  unfold wX_T_serve
  refine br_f (by decide) (br_f (by decide) (br_t rfl (?_)))
  refine hX_atY 1 e7 hL (by omega) ?_
  rw [ex1]
  rcases h12 with h1 | h2
  · refine bn_t h1 ?_
    have ref : ∀ Q : Int32 → SS → AA → Prop, ((T 10 = 0 → ((¬ T 4 = 0 → (wM_M_seeds_65 Q (va_up T 8 0) B)) ∧ (T 4 = 0 → (wM_M_seeds_65 Q (va_up (va_up (va_up T 8 0) 8 (((17 : Int32) + ((73 : Int32) * T 7)) - ((17 : Int32) + ((73 : Int32) * T 7)) / (256 : Int32) * (256 : Int32))) 7 (T 7 + 1)) B)))) ∧ (¬ T 10 = 0 → (Q 55 (va_up T 8 0) B))) → wM_M_workOn Q T B := by
      intro Q hQ
      unfold wM_M_workOn
      rw [cl_0, hs]
      refine ⟨vl_0 (by decide) (by decide), br_f (by decide) (br_f (by decide) (br_f (by decide) (br_t rfl (?_))))⟩
      unfold wM_M_seeds
      rw [cl_1, cl_2]
      exact ⟨vl_1 (by decide) (by decide), bn_t h1 hQ⟩
    unfold wX_T_giveSeed wX_Lk_takeOpenSeed
    refine ⟨fun d0 => ?_, fun d0 => ?_⟩
    · have d0 : T 10 = 0 := c16.symm.trans d0
      refine hX_sadd 1 e11 (by decide) ?_
      unfold wX_T_giveSeed_51 wX_Lk_nextSeed
      refine ⟨fun u0 => ?_, fun u0 => ?_⟩
      · have u0 : T 4 = 0 := c5.symm.trans u0
        have es : ((17 : Int32) + ((73 : Int32) * S 20)) &&& (255 : Int32) = nI ((17 + 73 * g) % 256) := by
          rw [c10, eg, show (73 : Int32) * nI g = nI (73 * g) from pk_mul 73 g, show (17 : Int32) + nI (73 * g) = nI (17 + 73 * g) from nI_add 17 _]
          exact pk_andN (by omega) 8 (by decide +kernel)
        have et : ((17 : Int32) + ((73 : Int32) * T 7)) - ((17 : Int32) + ((73 : Int32) * T 7)) / (256 : Int32) * (256 : Int32) = nI ((17 + 73 * g) % 256) := by
          rw [eg, show (73 : Int32) * nI g = nI (73 * g) from pk_mul 73 g, show (17 : Int32) + nI (73 * g) = nI (17 + 73 * g) from nI_add 17 _]
          exact pk_rem (d := 256) (by omega) (by decide) (by decide)
        rw [et] at ref
        refine hX_done 2 rfl (by decide) ?_
        refine hP.1 0 _ _ (va_up (va_up (va_up (va_up (va_up (va_up T 8 0) 8 (nI ((17 + 73 * g) % 256))) 7 (T 7 + 1)) 20 (nI 1)) 20 (nI 2)) 20 (nI 3)) (va_up (va_up (va_up B 2 (upd (B 2) 0 103)) 2 (upd (upd (B 2) 0 103) 1 1)) 2 (upd (upd (upd (B 2) 0 103) 1 1) 2 (nI ((17 + 73 * g) % 256)))) (fun Q hQ => ref Q ?_) ⟨hF, ⟨c1, c2, c3, c4, c5, c6, c7, c8, c9, ?_, ⟨g + 1, by omega, ?_⟩, es, ⟨(17 + 73 * g) % 256, Nat.mod_lt _ (by decide), rfl⟩, c14, c15, c16, c17⟩, ⟨i1, i2⟩, hD, ⟨q1, q2, q3⟩, a1, hR⟩ rfl (Or.inl ⟨rfl, 3, Or.inl (by decide), rfl, rfl, ?_⟩)
        · refine br_t d0 (bn_t u0 ?_)
          unfold wM_M_seeds_65
          refine hM_add 0 e20 (by decide) ?_
          refine hM_add 1 rfl (by decide) ?_
          refine hM_add 2 rfl (by decide) ?_
          exact hQ
        · show S 20 + 1 = T 7 + 1
          rw [c10]
        · show T 7 + 1 = nI (g + 1)
          rw [eg]
          exact pz_inc g
        · show ∀ i, i < 3 → upd (upd (A 3) 1 1) 2 (((17 : Int32) + ((73 : Int32) * S 20)) &&& (255 : Int32)) i = upd (upd (upd (B 2) 0 103) 1 1) 2 (nI ((17 + 73 * g) % 256)) i
          rw [es]
          exact wa_s (wa_s (wa_1 hA0) 1) _
      · have u0 : ¬ T 4 = 0 := fun q => u0 (c5.trans q)
        refine hX_done 2 rfl (by decide) ?_
        refine hP.1 0 _ _ (va_up (va_up (va_up (va_up T 8 0) 20 (nI 1)) 20 (nI 2)) 20 (nI 3)) (va_up (va_up (va_up B 2 (upd (B 2) 0 103)) 2 (upd (upd (B 2) 0 103) 1 1)) 2 (upd (upd (upd (B 2) 0 103) 1 1) 2 0)) (fun Q hQ => ref Q ?_) ⟨hF, ⟨c1, c2, c3, c4, c5, c6, c7, c8, c9, c10, c11, rfl, ⟨0, by decide, rfl⟩, c14, c15, c16, c17⟩, ⟨i1, i2⟩, hD, ⟨q1, q2, q3⟩, a1, hR⟩ rfl (Or.inl ⟨rfl, 3, Or.inl (by decide), rfl, rfl, wa_s (wa_s (wa_1 hA0) 1) 0⟩)
        refine br_t d0 (bn_f u0 ?_)
        unfold wM_M_seeds_65
        refine hM_add 0 e20 (by decide) ?_
        refine hM_add 1 rfl (by decide) ?_
        refine hM_add 2 rfl (by decide) ?_
        exact hQ
    · have d0 : ¬ T 10 = 0 := fun q => d0 (c16.trans q)
      exact hP.1 55 _ _ (va_up T 8 0) B (fun Q hQ => ref Q (br_f d0 hQ)) ⟨hF, ⟨c1, c2, c3, c4, c5, c6, c7, c8, c9, c10, c11, rfl, ⟨0, by decide, rfl⟩, c14, c15, c16, c17⟩, ⟨i1, i2⟩, hD, ⟨q1, q2, q3⟩, a1, hR⟩ rfl (Or.inr ⟨by show ¬ B 1 0 = 17; rw [hs]; decide, 55, by decide, by decide, rfl⟩)
  · refine bn_f (by rw [h2]; decide) ?_
    refine hX_atY 2 e7 hL (by rw [h3 h2]; decide) ?_
    rw [ex2]
    have ex : (((5 : Int32) * T 8) + (3 : Int32)) &&& (255 : Int32) = nI ((5 * b + 3) % 256) := by
      rw [eb, show (5 : Int32) * nI b = nI (5 * b) from pk_mul 5 b, show nI (5 * b) + (3 : Int32) = nI (5 * b + 3) from nI_add _ 3]
      exact pk_andN (by omega) 8 (by decide +kernel)
    have em : (((5 : Int32) * T 8) + (3 : Int32)) - (((5 : Int32) * T 8) + (3 : Int32)) / (256 : Int32) * (256 : Int32) = nI ((5 * b + 3) % 256) := by
      rw [eb, show (5 : Int32) * nI b = nI (5 * b) from pk_mul 5 b, show nI (5 * b) + (3 : Int32) = nI (5 * b + 3) from nI_add _ 3]
      exact pk_rem (d := 256) (by omega) (by decide) (by decide)
    have ref : ∀ Q : Int32 → SS → AA → Prop, ((¬ T 8 = 0 → (vp_in (2 : Int32) 34 ∧ ((¬ B 1 2 = nI ((5 * b + 3) % 256) → ((¬ ((1 : Int32) - T 9) = (1 : Int32) → (Q (54 : Int32) (va_up (va_up (va_up T 8 (0 : Int32)) 9 ((1 : Int32) - T 9)) 10 (8 : Int32)) B)) ∧ (((1 : Int32) - T 9) = (1 : Int32) → (Q (53 : Int32) (va_up (va_up T 8 (0 : Int32)) 9 ((1 : Int32) - T 9)) B)))) ∧ (B 1 2 = nI ((5 * b + 3) % 256) → (wM_M_add (fun S124 A124 => (wM_M_add (fun S129 A129 => (Q (0 : Int32) S129 A129)) S124 A124 (2 : Int32))) (va_up (va_up (va_up T 8 (0 : Int32)) 4 (1 : Int32)) 9 (0 : Int32)) B (103 : Int32)))))) ∧ (T 8 = 0 → (Q (36 : Int32) (va_up T 8 (0 : Int32)) B))) → wM_M_workOn Q T B := by
      intro Q hQ
      unfold wM_M_workOn
      rw [cl_0, hs]
      refine ⟨vl_0 (by decide) (by decide), br_f (by decide) (br_f (by decide) (br_f (by decide) (br_t rfl (?_))))⟩
      unfold wM_M_seeds
      rw [cl_1, cl_2, em]
      exact ⟨vl_1 (by decide) (by decide), bn_f (by rw [h2]; decide) hQ⟩
    unfold wX_T_tryKey wX_Lk_takeOpenSeed
    rw [c12]
    refine ⟨fun n8 => ⟨fun nk => ?_, fun yk => ?_⟩, fun y8 => ?_⟩
    · rw [ex] at nk
      unfold wX_Lk_countWrongKey
      have e21 : (va_up S 19 0) 21 = T 9 := c14
      rw [e21]
      rcases c15 with z | z
      · refine br_f (by rw [z]; decide) (br_t rfl ?_)
        exact hP.1 53 _ _ (va_up (va_up T 8 0) 9 ((1 : Int32) - T 9)) B (fun Q hQ => ref Q (bn_f n8 ⟨vl_2 (by decide) (by decide), bn_f nk (bn_t (by rw [z]; decide) hQ)⟩)) ⟨hF, ⟨c1, c2, c3, c4, c5, c6, c7, c8, c9, c10, c11, rfl, ⟨0, by decide, rfl⟩, (by show T 9 + 1 = (1 : Int32) - T 9; rw [z]; decide), (by show tl_z ((1 : Int32) - T 9); rw [z]; exact Or.inr (by decide)), c16, c17⟩, ⟨i1, i2⟩, hD, ⟨q1, q2, q3⟩, a1, hR⟩ rfl (Or.inr ⟨by show ¬ B 1 0 = 17; rw [hs]; decide, 53, by decide, by decide, rfl⟩)
      · refine br_t (by rw [z]; decide) (br_f (by decide) ?_)
        exact hP.1 54 _ _ (va_up (va_up (va_up T 8 0) 9 ((1 : Int32) - T 9)) 10 8) B (fun Q hQ => ref Q (bn_f n8 ⟨vl_2 (by decide) (by decide), bn_f nk (bn_f (by rw [z]; decide) hQ)⟩)) ⟨hF, ⟨c1, c2, c3, c4, c5, c6, c7, c8, c9, c10, c11, rfl, ⟨0, by decide, rfl⟩, (by show (0 : Int32) = (1 : Int32) - T 9; rw [z]; decide), (by show tl_z ((1 : Int32) - T 9); rw [z]; exact Or.inl (by decide)), rfl, ⟨8, by decide, rfl⟩⟩, ⟨i1, i2⟩, hD, ⟨q1, q2, q3⟩, a1, hR⟩ rfl (Or.inr ⟨by show ¬ B 1 0 = 17; rw [hs]; decide, 54, by decide, by decide, rfl⟩)
    · rw [ex] at yk
      unfold wX_Lk_open
      refine hX_done 1 e11 (by decide) ?_
      refine hP.1 0 _ _ (va_up (va_up (va_up (va_up (va_up T 8 0) 4 1) 9 0) 20 (nI 1)) 20 (nI 2)) (va_up (va_up B 2 (upd (B 2) 0 103)) 2 (upd (upd (B 2) 0 103) 1 2)) (fun Q hQ => ref Q (bn_f n8 ⟨vl_2 (by decide) (by decide), bn_t yk ?_⟩)) ⟨hF, ⟨c1, c2, c3, c4, rfl, Or.inr rfl, c7, c8, c9, c10, c11, rfl, ⟨0, by decide, rfl⟩, rfl, Or.inl rfl, c16, c17⟩, ⟨i1, i2⟩, hD, ⟨q1, q2, q3⟩, a1, hR⟩ rfl (Or.inl ⟨rfl, 2, Or.inl (by decide), rfl, rfl, wa_s (wa_1 hA0) 2⟩)
      refine hM_add 0 e20 (by decide) ?_
      refine hM_add 1 rfl (by decide) ?_
      exact hQ
    · exact hP.1 36 _ _ (va_up T 8 0) B (fun Q hQ => ref Q (bn_t y8 hQ)) ⟨hF, ⟨c1, c2, c3, c4, c5, c6, c7, c8, c9, c10, c11, rfl, ⟨0, by decide, rfl⟩, c14, c15, c16, c17⟩, ⟨i1, i2⟩, hD, ⟨q1, q2, q3⟩, a1, hR⟩ rfl (Or.inr ⟨by show ¬ B 1 0 = 17; rw [hs]; decide, 36, by decide, by decide, rfl⟩)
theorem sv_54 {n L : Nat} {S : SS} {A : AA} {T : SS} {B : AA} (hW : Wk n S A T B) (e7 : S 7 = nI L) (hL : L ≤ 34) (e11 : S 11 = nI 1) (e20 : T 20 = nI 0) (hs : B 1 0 = 54) (hA0 : A 3 0 = 118) (hn : n < 2 ^ 20) (e17 : T 17 = nI L) (hl : 3 ≤ L ∧ L ≤ 10) {P : Int32 → SS → AA → Prop} (hP : Dn n P (fun Q => wM_M_workOn Q T B) B) : wX_T_serve P S A 54 := by
  obtain ⟨hF, ⟨c1, c2, c3, c4, c5, c6, c7, c8, c9, c10, c11, c12, c13, c14, c15, c16, c17⟩, ⟨i1, i2⟩, hD, ⟨q1, q2, q3⟩, a1, hR⟩ := hW.step
  have hD0 := hW.2.2.2.1
  obtain ⟨f1, f2, f3, f4, f5⟩ := hF
  have ex1 : A 1 1 = B 1 1 := by rw [q1]
  have esz : S 7 - (2 : Int32) = nI (L - 2) := by rw [e7]; exact pk_sub (b := 2) (by omega)
  have etz : T 17 - (2 : Int32) = nI (L - 2) := by rw [e17]; exact pk_sub (b := 2) (by omega)
  -- the reference's road into the block
  have ref : ∀ Q : Int32 → SS → AA → Prop, wM_M_toCome (fun r15 S15 A15 => ((0 < r15 → (((S15 15) ≤ 0 → (wM_M_block_47 Q S15 A15 (B 1 1) (nI (L - 2)))) ∧ (¬ (S15 15) ≤ 0 → ((¬ B 1 1 = ((S15 15) - (S15 15) / (256 : Int32) * (256 : Int32)) → (wM_M_block_47 Q S15 A15 (B 1 1) (nI (L - 2)))) ∧ (B 1 1 = ((S15 15) - (S15 15) / (256 : Int32) * (256 : Int32)) → (wM_M_block_48 Q S15 A15 (B 1 1) (nI (L - 2)) (1 : Int32))))))) ∧ (¬ 0 < r15 → (Q (36 : Int32) S15 A15)))) T B → wM_M_workOn Q T B := by
    intro Q hQ
    unfold wM_M_workOn
    rw [cl_0, hs]
    refine ⟨vl_0 (by decide) (by decide), br_f (by decide) (br_f (by decide) (br_f (by decide) (br_f (by decide) (br_f (by decide) (br_f (by decide) (br_f (by decide) (br_t rfl (?_))))))))⟩
    unfold wM_M_block
    rw [cl_1, etz]
    exact ⟨vl_1 (by decide) (by decide), hQ⟩
  unfold wX_T_serve
  refine br_f (by decide) (br_f (by decide) (br_f (by decide) (br_f (by decide) (br_f (by decide) (br_f (by decide) (br_t rfl (?_)))))))
  refine hX_atY 1 e7 hL (by omega) ?_
  show wX_T_takeBlock (fun r224 S224 A224 => (P r224 S224 A224)) S A (A 1 1) (S 7 - (2 : Int32))
  rw [ex1, esz]
  unfold wX_T_takeBlock
  refine toc_X hD0 (fun d1 d2 => br_f (by decide) ?_) (fun sz ca bl sl d1 d2 d3 d4 d5 d6 d7 d8 d9 d10 g1 g2 g3 => ⟨fun z => ?_, fun z => ?_⟩)
  · exact hP.1 36 _ _ T B (fun Q hQ => ref Q (toc_M0 d2 (br_f (by decide) hQ))) hW.step rfl (Or.inr ⟨by show ¬ B 1 0 = 17; rw [hs]; decide, 36, by decide, by decide, rfl⟩)
  · have hz : 0 < sz - ca := (pz_lt (a := 0) (by decide) (by omega)).mp z
    have e255 : S 27 &&& (255 : Int32) = nI (bl % 256) := by rw [d9]; exact pk_andN (by omega) 8 (by decide +kernel)
    have m255 : T 15 - T 15 / (256 : Int32) * (256 : Int32) = nI (bl % 256) := by rw [d10]; exact pk_rem (d := 256) (by omega) (by decide) (by decide)
    have n255 : (S 27 + (1 : Int32)) &&& (255 : Int32) = nI ((bl + 1) % 256) := by rw [d9, pz_inc]; exact pk_andN (by omega) 8 (by decide +kernel)
    have k255 : (T 15 + (1 : Int32)) - (T 15 + (1 : Int32)) / (256 : Int32) * (256 : Int32) = nI ((bl + 1) % 256) := by rw [d10, pz_inc]; exact pk_rem (d := 256) (by omega) (by decide) (by decide)
    have refz : ∀ Q : Int32 → SS → AA → Prop, ((T 15 ≤ 0 → (wM_M_block_47 Q T B (B 1 1) (nI (L - 2)))) ∧ (¬ T 15 ≤ 0 → ((¬ B 1 1 = nI (bl % 256) → (wM_M_block_47 Q T B (B 1 1) (nI (L - 2)))) ∧ (B 1 1 = nI (bl % 256) → (wM_M_block_48 Q T B (B 1 1) (nI (L - 2)) (1 : Int32)))))) → wM_M_workOn Q T B := by
      intro Q hQ
      refine ref Q (toc_M1 d3 d4 d6 d8 g1 (br_t z ?_))
      rw [m255]
      exact hQ
    have hle : S 27 ≤ 0 ↔ T 15 ≤ 0 := by rw [d9, d10]
    -- the block that came latest, once more
    have again : B 1 1 = nI (bl % 256) → ¬ T 15 ≤ 0 → wX_T_doneWith (fun r26 S26 A26 => (P r26 S26 A26)) S A (B 1 1) := by
      intro he h0
      refine hX_done 1 e11 (by decide) ?_
      refine hP.1 0 _ _ (va_up (va_up T 20 (nI 1)) 20 (nI 2)) (va_up (va_up B 2 (upd (B 2) 0 118)) 2 (upd (upd (B 2) 0 118) 1 (B 1 1))) (fun Q hQ => refz Q (br_f h0 (bn_t he ?_))) ⟨⟨f1, f2, f3, f4, f5⟩, ⟨c1, c2, c3, c4, c5, c6, c7, c8, c9, c10, c11, c12, c13, c14, c15, c16, c17⟩, ⟨i1, i2⟩, hD, ⟨q1, q2, q3⟩, a1, hR⟩ rfl (Or.inl ⟨rfl, 2, Or.inl (by decide), rfl, rfl, wa_s (wa_1 hA0) (B 1 1)⟩)
      unfold wM_M_block_48 wM_M_block_210
      refine bn_f (by decide) ?_
      refine hM_add 0 e20 (by decide) ?_
      refine hM_add 1 rfl (by decide) ?_
      exact hQ
    -- any other block
    have other : (∀ Q : Int32 → SS → AA → Prop, wM_M_block_47 Q T B (B 1 1) (nI (L - 2)) → wM_M_workOn Q T B) → wX_Dl_isNext (fun r35 S35 A35 => ((¬ r35 = 0 → (wX_Dl_toCome (fun r49 S49 A49 => ((nI (L - 2) ≤ r49 → (wX_Mm_imageOf (fun r65 S65 A65 => (wX_Dl_addBlock (fun S82 A82 => (wX_Mm_write_4 (fun r99 S99 A99 => ((¬ r99 = 0 → (wX_Mm_holds_4 (fun r121 S121 A121 => ((r121 = 0 → (P (114 : Int32) S121 A121)) ∧ (¬ r121 = 0 → (wX_T_doneWith (fun r129 S129 A129 => (P r129 S129 A129)) S121 A121 (B 1 1))))) S99 A99 (r65 + (S65 26)) (2 : Int32) (nI (L - 2)))) ∧ (r99 = 0 → (P (-1 : Int32) S99 A99)))) S82 A82 (r65 + (S65 26)) (2 : Int32) (nI (L - 2)))) S65 A65 (nI (L - 2)))) S49 A49 (S49 24))) ∧ (¬ nI (L - 2) ≤ r49 → (P (49 : Int32) S49 A49)))) S35 A35)) ∧ (r35 = 0 → (P (115 : Int32) S35 A35)))) S A (B 1 1) := by
      intro r47
      unfold wX_Dl_isNext
      rw [n255]
      refine ⟨fun hne => bn_t rfl ?_, fun he => bn_f (by decide) ?_⟩
      · refine hP.1 115 _ _ T B (fun Q hQ => r47 Q ?_) hW.step rfl (Or.inr ⟨by show ¬ B 1 0 = 17; rw [hs]; decide, 115, by decide, by decide, rfl⟩)
        unfold wM_M_block_47 wM_M_block_48
        rw [k255]
        exact bn_t rfl (br_f hne hQ)
      · unfold wX_Dl_toCome
        have etc : S 25 - S 26 = nI (sz - ca) := by rw [d5, d7]; exact pk_sub g1
        rw [etc]
        refine br_f (by rw [d1]; decide) ⟨fun hsz => ?_, fun hsz => ?_⟩
        · have hsz : L - 2 ≤ sz - ca := (pz_le (by omega) (by omega)).mp hsz
          have eat : S 24 * (48 : Int32) + S 26 = nI (48 * sl + ca) := by
            rw [d2, d7, show nI sl * (48 : Int32) = nI (sl * 48) from pk_mul sl 48, Nat.mul_comm, nI_add]
          have mat : (48 : Int32) * T 12 + T 14 = nI (48 * sl + ca) := by
            rw [d3, d8, show (48 : Int32) * nI sl = nI (48 * sl) from pk_mul 48 sl, nI_add]
          unfold wX_Mm_imageOf wX_Dl_addBlock
          show wX_Mm_write_4 _ (va_up (va_up S 26 (S 26 + nI (L - 2))) 27 (S 27 + 1)) A (S 24 * (48 : Int32) + S 26) (2 : Int32) (nI (L - 2))
          rw [eat, d7, d9, nI_add, pz_inc]
          -- the reference's road to the writing
          have ref98 : ∀ Q : Int32 → SS → AA → Prop, wM_M_block_98 Q T B (B 1 1) (nI (L - 2)) (nI (48 * sl + ca)) 0 → wM_M_workOn Q T B := by
            intro Q hQ
            refine r47 Q ?_
            unfold wM_M_block_47 wM_M_block_48
            rw [k255]
            refine bn_t rfl (br_t he (toc_M1 d3 d4 d6 d8 g1 (br_t (nI_le hsz (by omega)) ?_)))
            rw [mat]
            exact hQ
          have ew : wr (S 5) (S 6) (A 0) (48 * sl + ca) (L - 2) (fun j => A 0 (48 * sl + ca + j) &&& A 1 (2 + j)) = wr (T 0) (T 1) (B 0) (48 * sl + ca) (L - 2) (fun j => B 0 (48 * sl + ca + j) &&& B 1 (2 + j)) := by rw [f3, f4, f1, q1]
          have hby : by8 (wr (T 0) (T 1) (B 0) (48 * sl + ca) (L - 2) (fun j => B 0 (48 * sl + ca + j) &&& B 1 (2 + j))) := by8_wr f2 (fun j => and_byte f2 q2 _ _)
          refine hX_write4 (at0 := 48 * sl + ca) (m := L - 2) (by omega) (by omega) (fun o0 => bn_f (by decide) ?_) (fun o1 => bn_t rfl ?_)
          · have o0 : S 5 = 0 := o0
            have t0 : T 0 = 0 := f3.symm.trans o0
            refine hX_holds (at0 := 48 * sl + ca) (m := L - 2) (by omega) (by omega) (fun hall => br_f (by decide) ?_) (fun hall => br_t rfl ?_)
            · refine hX_done 1 e11 (by decide) ?_
              refine hP.1 0 _ _ (va_up (va_up (va_up (va_up (va_up T 0 0) 14 (T 14 + nI (L - 2))) 15 (T 15 + 1)) 20 (nI 1)) 20 (nI 2)) (va_up (va_up (va_up B 0 (wr (T 0) (T 1) (B 0) (48 * sl + ca) (L - 2) (fun j => B 0 (48 * sl + ca + j) &&& B 1 (2 + j)))) 2 (upd (B 2) 0 118)) 2 (upd (upd (B 2) 0 118) 1 (B 1 1))) (fun Q hQ => ref98 Q ?_) ⟨⟨ew, hby, rfl, f4, Or.inl rfl⟩, ⟨c1, c2, c3, c4, c5, c6, c7, c8, c9, c10, c11, c12, c13, c14, c15, c16, c17⟩, ⟨i1, i2⟩, Or.inr ⟨d1, d2.trans d3.symm, ?_, d5.trans d6.symm, ?_, ?_, sz, ca + (L - 2), bl + 1, d6, ?_, ?_, by omega, g2, by omega⟩, ⟨q1, q2, q3⟩, a1, hR⟩ rfl (Or.inl ⟨rfl, 2, Or.inl (by decide), rfl, rfl, wa_s (wa_1 hA0) (B 1 1)⟩)
              · refine hM_write (by omega) (by omega) f2 q2 f5 (fun _ => ?_) (fun q => absurd t0 q)
                refine hM_cmp (by omega) (by omega) (fun _ => ?_) (fun q => absurd ?_ q)
                · unfold wM_M_block_210
                  refine hM_add 0 e20 (by decide) ?_
                  refine hM_add 1 rfl (by decide) ?_
                  exact hQ
                · intro j hj
                  have h := hall j hj
                  show wr (T 0) (T 1) (B 0) (48 * sl + ca) (L - 2) (fun j => B 0 (48 * sl + ca + j) &&& B 1 (2 + j)) (48 * sl + ca + j) = B 1 (2 + j)
                  rw [← ew, ← q1]
                  exact h
              · show T 12 = 0 ∨ T 12 = 1
                rw [d3]
                have : sl = 0 ∨ sl = 1 := by omega
                rcases this with q | q
                · exact Or.inl (by rw [q]; rfl)
                · exact Or.inr (by rw [q]; rfl)
              · show nI (ca + (L - 2)) = T 14 + nI (L - 2)
                rw [d8, nI_add]
              · show nI (bl + 1) = T 15 + 1
                rw [d10, pz_inc]
              · show T 14 + nI (L - 2) = nI (ca + (L - 2))
                rw [d8, nI_add]
              · show T 15 + 1 = nI (bl + 1)
                rw [d10, pz_inc]
            · refine hP.1 114 _ _ (va_up (va_up (va_up T 0 0) 14 (T 14 + nI (L - 2))) 15 (T 15 + 1)) (va_up B 0 (wr (T 0) (T 1) (B 0) (48 * sl + ca) (L - 2) (fun j => B 0 (48 * sl + ca + j) &&& B 1 (2 + j)))) (fun Q hQ => ref98 Q ?_) ⟨⟨ew, hby, rfl, f4, Or.inl rfl⟩, ⟨c1, c2, c3, c4, c5, c6, c7, c8, c9, c10, c11, c12, c13, c14, c15, c16, c17⟩, ⟨i1, i2⟩, Or.inr ⟨d1, d2.trans d3.symm, ?_, d5.trans d6.symm, ?_, ?_, sz, ca + (L - 2), bl + 1, d6, ?_, ?_, by omega, g2, by omega⟩, ⟨q1, q2, q3⟩, a1, hR⟩ rfl (Or.inr ⟨by show ¬ B 1 0 = 17; rw [hs]; decide, 114, by decide, by decide, rfl⟩)
              · refine hM_write (by omega) (by omega) f2 q2 f5 (fun _ => ?_) (fun q => absurd t0 q)
                refine hM_cmp (by omega) (by omega) (fun q => absurd ?_ hall) (fun _ => hQ)
                intro j hj
                have h : wr (T 0) (T 1) (B 0) (48 * sl + ca) (L - 2) (fun j => B 0 (48 * sl + ca + j) &&& B 1 (2 + j)) (48 * sl + ca + j) = B 1 (2 + j) := q j hj
                rw [← ew, ← q1] at h
                exact h
              · show T 12 = 0 ∨ T 12 = 1
                rw [d3]
                have : sl = 0 ∨ sl = 1 := by omega
                rcases this with q | q
                · exact Or.inl (by rw [q]; rfl)
                · exact Or.inr (by rw [q]; rfl)
              · show nI (ca + (L - 2)) = T 14 + nI (L - 2)
                rw [d8, nI_add]
              · show nI (bl + 1) = T 15 + 1
                rw [d10, pz_inc]
              · show T 14 + nI (L - 2) = nI (ca + (L - 2))
                rw [d8, nI_add]
              · show T 15 + 1 = nI (bl + 1)
                rw [d10, pz_inc]
          · have o1 : ¬ S 5 = 0 := o1
            refine hP.2 _ _ (va_up T 0 0) (va_up B 0 (wr (T 0) (T 1) (B 0) (48 * sl + ca) (L - 2) (fun j => B 0 (48 * sl + ca + j) &&& B 1 (2 + j)))) (fun Q hQ => ref98 Q ?_) ⟨⟨ew, hby, rfl, f4, Or.inl rfl⟩, ⟨c10, c11⟩, i2, ⟨q1, q2⟩, hR⟩
            exact hM_write (by omega) (by omega) f2 q2 f5 (fun q => absurd (f3.trans q) o1) (fun _ => hQ)
        · refine hP.1 49 _ _ T B (fun Q hQ => r47 Q ?_) hW.step rfl (Or.inr ⟨by show ¬ B 1 0 = 17; rw [hs]; decide, 49, by decide, by decide, rfl⟩)
          unfold wM_M_block_47 wM_M_block_48
          rw [k255]
          exact bn_t rfl (br_t he (toc_M1 d3 d4 d6 d8 g1 (br_f hsz hQ)))
    unfold wX_Dl_isLatest
    rw [e255]
    refine ⟨fun h0 => br_t rfl (other (fun Q hQ => refz Q (br_t (hle.mp h0) hQ))), fun h0 => ⟨fun hne => br_t rfl (other (fun Q hQ => refz Q (br_f (fun q => h0 (hle.mpr q)) (bn_f hne hQ)))), fun he => br_f (by decide) (again he (fun q => h0 (hle.mpr q)))⟩⟩
  · exact hP.1 36 _ _ T B (fun Q hQ => ref Q (toc_M1 d3 d4 d6 d8 g1 (br_f z hQ))) hW.step rfl (Or.inr ⟨by show ¬ B 1 0 = 17; rw [hs]; decide, 36, by decide, by decide, rfl⟩)
/-! the serial that a slot gets when it is made to run -/
theorem ser_eq {f : Nat → Int32} (hf : by8 f) : (tl_mx (gs f 0) (gs f 1) = -1 ∧ best f = -1) ∨ ∃ b r0 : Nat, r0 ≤ 1 ∧ b < 256 ∧ best f = nI r0 ∧ f (48 * r0 + 33) = nI b ∧ tl_mx (gs f 0) (gs f 1) = nI b := by
  have low : ∀ s, (-1 : Int32) ≤ gs f s := by
    intro s
    rcases gd_em f s with h | h
    · rw [gs_y h]; exact (byte_neg hf _).2.1
    · rw [gs_n h]; exact Int32.le_refl _
  unfold tl_mx best
  by_cases h : gs f 1 ≤ gs f 0
  · rw [if_pos h, if_neg (Int32.not_lt.mpr h)]
    by_cases h0 : gs f 0 = -1
    · rw [if_pos h0]
      exact Or.inl ⟨h0, rfl⟩
    · rw [if_neg h0]
      rcases gd_em f 0 with g | g
      · obtain ⟨b, hb, eb⟩ := hf (48 * 0 + 33)
        exact Or.inr ⟨b, 0, by decide, hb, rfl, eb, (gs_y g).trans eb⟩
      · exact absurd (gs_n g) h0
  · rw [if_neg h, if_pos (Int32.not_le.mp h)]
    rcases gd_em f 1 with g | g
    · obtain ⟨b, hb, eb⟩ := hf (48 * 1 + 33)
      exact Or.inr ⟨b, 1, by decide, hb, rfl, eb, (gs_y g).trans eb⟩
    · exact absurd (by rw [gs_n g]; exact low 0) h
/-- a header written: three bytes from st on, towards a, b, c -/
def hdW (o num : Int32) (f : Nat → Int32) (st : Nat) (a b c : Int32) : Nat → Int32 := upd (upd (upd f st (chg o num 0 (f st) (f st &&& a))) (st + 1) (chg o num 1 (f (st + 1)) (f (st + 1) &&& b))) (st + 2) (chg o num 2 (f (st + 2)) (f (st + 2) &&& c))
/-- a mark written -/
def hdM (num : Int32) (f : Nat → Int32) (st : Nat) : Nat → Int32 := upd f st (chg 0 num 0 (f st) 0)
theorem wr3 {o num a b c : Int32} {f v : Nat → Int32} {st : Nat} (h0 : v 0 = f st &&& a) (h1 : v 1 = f (st + 1) &&& b) (h2 : v 2 = f (st + 2) &&& c) : wr o num f st 3 v = hdW o num f st a b c := by
  rw [show wr o num f st 3 v = _ from (wr_s o num f st 2 v).symm, wr_at, show wr o num f st 2 v = _ from (wr_s o num f st 1 v).symm, wr_at, show wr o num f st 1 v = _ from (wr_s o num f st 0 v).symm, wr_0, h0, h1, h2, Nat.add_zero]
  rfl
theorem wr1 {num : Int32} {f v : Nat → Int32} {st : Nat} (h0 : v 0 = 0) : wr 0 num f st 1 v = hdM num f st := by
  rw [show wr 0 num f st 1 v = _ from (wr_s 0 num f st 0 v).symm, wr_0, h0, Nat.add_zero]
  rfl
theorem by8_hdW {o num a b c : Int32} {f : Nat → Int32} {st : Nat} (hf : by8 f) (ha : ∃ k : Nat, k < 256 ∧ f st &&& a = nI k) (hb : ∃ k : Nat, k < 256 ∧ f (st + 1) &&& b = nI k) (hc : ∃ k : Nat, k < 256 ∧ f (st + 2) &&& c = nI k) : by8 (hdW o num f st a b c) := by
  obtain ⟨u, hu, eu⟩ := chg_by (o := o) (num := num) hf st 0 ha
  obtain ⟨v, hv, ev⟩ := chg_by (o := o) (num := num) hf (st + 1) 1 hb
  obtain ⟨w, hw, ew⟩ := chg_by (o := o) (num := num) hf (st + 2) 2 hc
  exact by8_upd (by8_upd (by8_upd hf hu eu) hv ev) hw ew
theorem by8_hdM {num : Int32} {f : Nat → Int32} {st : Nat} (hf : by8 f) : by8 (hdM num f st) := by
  obtain ⟨u, hu, eu⟩ := chg_by (o := 0) (num := num) hf st 0 ⟨0, by decide, (rfl : (0 : Int32) = nI 0)⟩
  exact by8_upd hf hu eu
theorem and_by {f : Nat → Int32} (hf : by8 f) (i : Nat) {b : Nat} (hb : b < 256) : ∃ k : Nat, k < 256 ∧ f i &&& nI b = nI k := by
  obtain ⟨a, ha, ea⟩ := hf i
  refine ⟨a &&& b, Nat.lt_of_le_of_lt Nat.and_le_left ha, ?_⟩
  rw [ea]
  exact nx_and a b
/-- the reference changes one byte -/
theorem hM_ch0 {X : SS → AA → Prop} {T : SS} {B : AA} {a k : Nat} {x : Int32} (ha : a < 96) (hk : k < 2 ^ 20) (hf : by8 (B 0)) (hx : ∃ b : Nat, b < 256 ∧ x = nI b) (hX : ∀ g : Nat → Int32, g = upd (B 0) a (chg (T 0) (T 1) k (B 0 a) x) → by8 g → X T (va_up B 0 g)) : wM_M_change X T B (nI a) (nI k) x := by
  obtain ⟨u, hu, eu⟩ := chg_by (o := T 0) (num := T 1) hf a k hx
  have hg := hX _ rfl (by8_upd hf hu eu)
  obtain ⟨b, hb, eb⟩ := hx
  rw [eb] at hg ⊢
  exact hM_change ha hk hb hf hg
theorem hM_ch {X : SS → AA → Prop} {T : SS} {B : AA} {f : Nat → Int32} {a k : Nat} {x y : Int32} (ha : a < 96) (hk : k < 2 ^ 20) (hf : by8 f) (hx : ∃ b : Nat, b < 256 ∧ x = nI b) (hy : f a = y) (hX : ∀ g : Nat → Int32, g = upd f a (chg (T 0) (T 1) k y x) → by8 g → X T (va_up B 0 g)) : wM_M_change X T (va_up B 0 f) (nI a) (nI k) x := by
  refine hM_ch0 ha hk (by rw [pz_us]; exact hf) hx (fun g hg hb => ?_)
  rw [pz_us, hy] at hg
  rw [pz_upup]
  exact hX g hg hb
/-- the reference writes a header: three bytes, then the mark -/
theorem hM_head {post : Int32 → SS → AA → Prop} {T : SS} {B : AA} {sl m sr : Nat} (hsl : sl ≤ 1) (hB : by8 (B 0)) (hz : tl_z (T 0)) (hm : m < 65536) (hsr : sr < 256) (em : sumF (B 0) (48 * sl) 32 = nI m)
    (h1 : ¬ T 0 = 0 → post (-1) (va_up T 0 0) (va_up B 0 (hdW (T 0) (T 1) (B 0) (48 * sl + 33) (nI sr) (nI (m / 256)) (nI (m % 256)))))
    (h0 : T 0 = 0 → post 0 (va_up (va_up T 0 0) 0 0) (va_up B 0 (hdM (T 1) (hdW (T 0) (T 1) (B 0) (48 * sl + 33) (nI sr) (nI (m / 256)) (nI (m % 256))) (48 * sl + 32)))) : wM_M_activate_50 post T B (nI sl) (nI sr) := by
  have e48 : (48 : Int32) * nI sl + (32 : Int32) = nI (48 * sl + 32) := by rw [show (48 : Int32) * nI sl = nI (48 * sl) from pk_mul 48 sl]; exact nI_add _ 32
  have ed : nI m / (256 : Int32) = nI (m / 256) := pk_div (d := 256) (by omega) (by decide) (by decide)
  have er : nI m - nI m / (256 : Int32) * (256 : Int32) = nI (m % 256) := pk_rem (d := 256) (by omega) (by decide) (by decide)
  have e1 : nI (48 * sl + 32) + (1 : Int32) = nI (48 * sl + 33) := nI_add _ 1
  have e2 : nI (48 * sl + 32) + (2 : Int32) = nI (48 * sl + 34) := nI_add _ 2
  have e3 : nI (48 * sl + 32) + (3 : Int32) = nI (48 * sl + 35) := nI_add _ 3
  unfold wM_M_activate_50
  refine hM_sumOf hsl ?_
  rw [em, e48, er, ed, e1, e2, e3, nI_clamp (n := 48 * sl + 33) (by omega), nI_clamp (n := 48 * sl + 34) (by omega), nI_clamp (n := 48 * sl + 35) (by omega)]
  refine ⟨vp_in_nI (by omega) (by decide), ?_⟩
  refine hM_ch0 (a := 48 * sl + 33) (k := 0) (by omega) (by decide) hB (and_by hB _ hsr) (fun g1 hg1 b1 => ⟨vp_in_nI (by omega) (by decide), ?_⟩)
  have y1 : g1 (48 * sl + 34) = B 0 (48 * sl + 34) := by rw [hg1]; exact pk_un (by omega)
  rw [pz_us, y1]
  refine hM_ch (a := 48 * sl + 34) (k := 1) (by omega) (by decide) b1 (and_by hB _ (by omega)) y1 (fun g2 hg2 b2 => ⟨vp_in_nI (by omega) (by decide), ?_⟩)
  have y2 : g2 (48 * sl + 35) = B 0 (48 * sl + 35) := by rw [hg2, pk_un (by omega), hg1]; exact pk_un (by omega)
  rw [pz_us, y2]
  refine hM_ch (a := 48 * sl + 35) (k := 2) (by omega) (by decide) b2 (and_by hB _ (by omega)) y2 (fun g3 hg3 b3 => ?_)
  have eg : g3 = hdW (T 0) (T 1) (B 0) (48 * sl + 33) (nI sr) (nI (m / 256)) (nI (m % 256)) := by rw [hg3, hg2, hg1]; rfl
  unfold wM_M_torn
  refine ⟨hz, fun t0 => ?_, fun t0 => ?_⟩
  · refine hM_ch (a := 48 * sl + 32) (k := 0) (by omega) (by decide) b3 ⟨0, by decide, rfl⟩ rfl (fun g4 hg4 _ => ⟨Or.inl rfl, br_t rfl ?_⟩)
    have e4 : g4 = hdM (T 1) g3 (48 * sl + 32) := hg4
    rw [e4, eg]
    exact h0 t0
  · rw [eg]
    exact h1 t0
theorem sv_49 {n L : Nat} {S : SS} {A : AA} {T : SS} {B : AA} (hW : Wk n S A T B) (e7 : S 7 = nI L) (hL : L ≤ 34) (e11 : S 11 = nI 1) (e20 : T 20 = nI 0) (hs : B 1 0 = 49) (hA0 : A 3 0 = 113) (hl : 4 ≤ L) (h6 : B 1 2 = 2 → L = 6) (r1 : ¬ B 1 2 < (1 : Int32)) (r2 : ¬ (3 : Int32) < B 1 2) (r3 : ¬ (1 : Int32) < B 1 3) {P : Int32 → SS → AA → Prop} (hP : Dn n P (fun Q => wM_M_workOn Q T B) B) : wX_T_serve P S A 49 := by
  obtain ⟨hF, ⟨c1, c2, c3, c4, c5, c6, c7, c8, c9, c10, c11, c12, c13, c14, c15, c16, c17⟩, ⟨i1, i2⟩, hD, ⟨q1, q2, q3⟩, a1, hR⟩ := hW.step
  obtain ⟨f1, f2, f3, f4, f5⟩ := hF
  obtain ⟨u, hu, eu⟩ := q2 2
  obtain ⟨sl, hsl0, esl⟩ := q2 3
  have hsl : sl ≤ 1 := Nat.le_of_not_lt (fun q => r3 (by rw [esl]; exact nI_lt (a := 1) q (by omega)))
  have hu1 : 1 ≤ u := Nat.le_of_not_lt (fun q => r1 (by rw [eu]; exact nI_lt (b := 1) q (by decide)))
  have hu3 : u ≤ 3 := Nat.le_of_not_lt (fun q => r2 (by rw [eu]; exact nI_lt (a := 3) q (by omega)))
  have ex2 : A 1 2 = B 1 2 := by rw [q1]
  have ex3 : A 1 3 = B 1 3 := by rw [q1]
  have hA0' : by8 (A 0) := by rw [f1]; exact f2
  have ref : ∀ Q : Int32 → SS → AA → Prop, ((¬ B 1 2 = (1 : Int32) → ((¬ B 1 2 = (3 : Int32) → (wM_M_routine_59 Q T B (B 1 2) (nI sl) (0 : Int32))) ∧ (B 1 2 = (3 : Int32) → (wM_M_activate (fun r52 S52 A52 => (wM_M_routine_59 Q S52 A52 (B 1 2) (nI sl) r52)) T B (nI sl))))) ∧ (B 1 2 = (1 : Int32) → (wM_M_eraseSlot (fun r39 S39 A39 => (wM_M_routine_59 Q S39 A39 (B 1 2) (nI sl) r39)) T B (nI sl)))) → wM_M_workOn Q T B := by
    intro Q hQ
    unfold wM_M_workOn
    rw [cl_0, hs]
    refine ⟨vl_0 (by decide) (by decide), br_f (by decide) (br_f (by decide) (br_f (by decide) (br_f (by decide) (br_f (by decide) (br_t rfl (?_))))))⟩
    unfold wM_M_routine
    rw [cl_2, cl_3, esl]
    rw [esl] at r3
    exact ⟨vl_2 (by decide) (by decide), vl_3 (by decide) (by decide), br_f r1 (br_f r2 (br_t (Int32.not_lt.mp r3) hQ))⟩
  have sW : Wk (n + 1) (va_up (va_up S 11 (nI (1 + 1))) 11 (nI (2 + 1))) (va_up (va_up A 3 (upd (A 3) 1 1)) 3 (upd ((va_up A 3 (upd (A 3) 1 1)) 3) 2 (B 1 2))) T B := ⟨⟨f1, f2, f3, f4, f5⟩, ⟨c1, c2, c3, c4, c5, c6, c7, c8, c9, c10, c11, c12, c13, c14, c15, c16, c17⟩, ⟨i1, i2⟩, hD, ⟨q1, q2, q3⟩, a1, hR⟩
  unfold wX_T_serve
  refine br_f (by decide) (br_f (by decide) (br_f (by decide) (br_f (by decide) (br_t rfl (?_)))))
  refine hX_atY 2 e7 hL (by omega) ?_
  refine hX_atY 3 e7 hL (by omega) ?_
  rw [ex2, ex3, esl]
  unfold wX_T_runRoutine
  refine hX_sadd 1 e11 (by decide) ?_
  refine hX_sadd 2 rfl (by decide) ?_
  have e3 : u = 1 ∨ u = 2 ∨ u = 3 := by omega
  rcases e3 with q | q | q
  · -- a slot is erased
    have ed : B 1 2 = 1 := by rw [eu, q]; rfl
    refine bn_t ed ?_
    unfold wX_T_eraseSlot wX_T_eraseSlot_61 wX_T_eraseSlot_62
    have e0 : (va_up (va_up S 11 (nI (1 + 1))) 11 (nI (2 + 1))) 0 = T 2 := c1
    rw [e0]
    refine ⟨fun hne => ?_, fun he => ?_⟩
    · have x2 : (3 : Int32) * nI sl + (2 : Int32) = nI (3 * sl + 2) := by rw [show (3 : Int32) * nI sl = nI (3 * sl) from pk_mul 3 sl]; exact nI_add _ 2
      have x1 : (3 : Int32) * nI sl + (1 : Int32) = nI (3 * sl + 1) := by rw [show (3 : Int32) * nI sl = nI (3 * sl) from pk_mul 3 sl]; exact nI_add _ 1
      have x0 : (3 : Int32) * nI sl = nI (3 * sl) := pk_mul 3 sl
      rw [x2, x1, x0]
      have er1 : er (S 5) (S 6) (A 0) (3 * sl + 2) = er (T 0) (T 1) (B 0) (3 * sl + 2) := by rw [f3, f4, f1]
      have er3 : er 0 (S 6) (er 0 (S 6) (er (S 5) (S 6) (A 0) (3 * sl + 2)) (3 * sl)) (3 * sl + 1) = er 0 (T 1) (er 0 (T 1) (er (T 0) (T 1) (B 0) (3 * sl + 2)) (3 * sl)) (3 * sl + 1) := by rw [f3, f4, f1]
      refine hX_erase (sec := 3 * sl + 2) (by omega) (fun o0 => br_f (by decide) ?_) (fun o1 => br_t rfl (br_t rfl ?_))
      · have t0 : T 0 = 0 := f3.symm.trans o0
        refine hX_erase (sec := 3 * sl) (by omega) (fun _ => br_f (by decide) ?_) (fun q => absurd rfl q)
        refine hX_erase (sec := 3 * sl + 1) (by omega) (fun _ => br_f (by decide) (br_f (by decide) ?_)) (fun q => absurd rfl q)
        refine hP.1 0 _ _ (va_up (va_up (va_up (va_up (va_up (va_up (va_up T 5 (-1)) 0 0) 0 0) 0 0) 20 (nI 1)) 20 (nI 2)) 20 (nI 3)) (va_up (va_up (va_up (va_up (va_up (va_up B 0 (er (T 0) (T 1) (B 0) (3 * sl + 2))) 0 (er 0 (T 1) (er (T 0) (T 1) (B 0) (3 * sl + 2)) (3 * sl))) 0 (er 0 (T 1) (er 0 (T 1) (er (T 0) (T 1) (B 0) (3 * sl + 2)) (3 * sl)) (3 * sl + 1))) 2 (upd (B 2) 0 113)) 2 (upd (upd (B 2) 0 113) 1 1)) 2 (upd (upd (upd (B 2) 0 113) 1 1) 2 (B 1 2))) (fun Q hQ => ref Q (bn_t ed ?_)) ⟨⟨er3, by8_er (by8_er (by8_er f2)), rfl, f4, Or.inl rfl⟩, ⟨c1, c2, c3, c4, c5, c6, rfl, Or.inl rfl, c9, c10, c11, c12, c13, c14, c15, c16, c17⟩, ⟨i1, i2⟩, hD, ⟨q1, q2, q3⟩, a1, hR⟩ rfl (Or.inl ⟨rfl, 3, Or.inl (by decide), rfl, rfl, wa_s (wa_s (wa_1 hA0) 1) (B 1 2)⟩)
        unfold wM_M_eraseSlot
        rw [x2, x1, x0]
        refine bn_f hne ?_
        refine hM_erase (sec := 3 * sl + 2) (by omega) f2 f5 (br_t t0 ?_)
        refine hM_erase (sec := 3 * sl) (by omega) (by8_er f2) (Or.inl rfl) (br_t rfl ?_)
        refine hM_erase (sec := 3 * sl + 1) (by omega) (by8_er (by8_er f2)) (Or.inl rfl) (br_t rfl ?_)
        unfold wM_M_routine_59
        refine br_t rfl ?_
        refine hM_add 0 e20 (by decide) ?_
        refine hM_add 1 rfl (by decide) ?_
        refine hM_add 2 rfl (by decide) ?_
        exact bn_f (by rw [ed]; decide) hQ
      · refine hP.2 _ _ (va_up (va_up T 5 (-1)) 0 0) (va_up B 0 (er (T 0) (T 1) (B 0) (3 * sl + 2))) (fun Q hQ => ref Q (bn_t ed ?_)) ⟨⟨er1, by8_er f2, rfl, f4, Or.inl rfl⟩, ⟨c10, c11⟩, i2, ⟨q1, q2⟩, hR⟩
        unfold wM_M_eraseSlot
        rw [x2, x1, x0]
        refine bn_f hne ?_
        refine hM_erase (sec := 3 * sl + 2) (by omega) f2 f5 (br_f (fun q => o1 (f3.trans q)) ?_)
        unfold wM_M_routine_59
        exact br_f (by decide) hQ
    · refine hP.1 34 _ _ T B (fun Q hQ => ref Q (bn_t ed ?_)) sW rfl (Or.inr ⟨by show ¬ B 1 0 = 17; rw [hs]; decide, 34, by decide, by decide, rfl⟩)
      unfold wM_M_eraseSlot wM_M_routine_59
      exact bn_t he (br_f (by decide) hQ)
  · -- a slot is checked
    have ed : B 1 2 = 2 := by rw [eu, q]; rfl
    have hL6 := h6 ed
    refine bn_f (by rw [ed]; decide) (bn_t ed ?_)
    unfold wX_T_checkSlot wX_T_checkSlot_37 wX_T_checkSlot_63 wX_T_checkSlot_73
    refine hX_sumOf ?_ hsl ?_
    · exact hA0'
    refine hX_atY 4 e7 hL (by omega) ?_
    refine hX_atY 5 e7 hL (by omega) ?_
    have ex4 : (va_up (va_up A 3 (upd (A 3) 1 1)) 3 (upd ((va_up A 3 (upd (A 3) 1 1)) 3) 2 (B 1 2))) 1 4 = B 1 4 := by show A 1 4 = B 1 4; rw [q1]
    have ex5 : (va_up (va_up A 3 (upd (A 3) 1 1)) 3 (upd ((va_up A 3 (upd (A 3) 1 1)) 3) 2 (B 1 2))) 1 5 = B 1 5 := by show A 1 5 = B 1 5; rw [q1]
    have exs : sumF ((va_up (va_up A 3 (upd (A 3) 1 1)) 3 (upd ((va_up A 3 (upd (A 3) 1 1)) 3) 2 (B 1 2))) 0) (48 * sl) 32 = sumF (B 0) (48 * sl) 32 := by show sumF (A 0) (48 * sl) 32 = _; rw [f1]
    rw [ex4, ex5, exs]
    -- the reference's road
    have rr : ∀ Q : Int32 → SS → AA → Prop, ((¬ sumF (B 0) (48 * sl) 32 = (((256 : Int32) * B 1 4) + B 1 5) → (wM_M_routine_117 Q (va_up (va_up (va_up T 20 (nI 1)) 20 (nI 2)) 20 (nI 3)) (va_up (va_up (va_up B 2 (upd (B 2) 0 113)) 2 (upd (upd (B 2) 0 113) 1 1)) 2 (upd (upd (upd (B 2) 0 113) 1 1) 2 (B 1 2))) (nI sl) (0 : Int32))) ∧ (sumF (B 0) (48 * sl) 32 = (((256 : Int32) * B 1 4) + B 1 5) → (wM_M_routine_117 Q (va_up (va_up (va_up T 20 (nI 1)) 20 (nI 2)) 20 (nI 3)) (va_up (va_up (va_up B 2 (upd (B 2) 0 113)) 2 (upd (upd (B 2) 0 113) 1 1)) 2 (upd (upd (upd (B 2) 0 113) 1 1) 2 (B 1 2))) (nI sl) (1 : Int32)))) → wM_M_workOn Q T B := by
      intro Q hQ
      refine ref Q (bn_f (by rw [ed]; decide) (bn_f (by rw [ed]; decide) ?_))
      unfold wM_M_routine_59
      refine br_t rfl ?_
      refine hM_add 0 e20 (by decide) ?_
      refine hM_add 1 rfl (by decide) ?_
      refine hM_add 2 rfl (by decide) ?_
      refine bn_t ed ?_
      refine hM_sumOf hsl ⟨vl_4 (by decide) (by decide), vl_5 (by decide) (by decide), ?_⟩
      rw [cl_4, cl_5]
      exact hQ
    have c2' : (va_up (va_up S 11 (nI (1 + 1))) 11 (nI (2 + 1))) 2 = T 5 := c7
    rw [c2']
    refine ⟨fun hne => br_t rfl ⟨fun h5 => br_t rfl ?_, fun h5 => br_t rfl ?_⟩, fun he => br_f (by decide) (br_f (by decide) ?_)⟩
    · refine hX_done 3 rfl (by decide) ?_
      refine hP.1 0 _ _ (va_up (va_up (va_up (va_up (va_up T 20 (nI 1)) 20 (nI 2)) 20 (nI 3)) 5 (T 5)) 20 (nI 4)) (va_up (va_up (va_up (va_up B 2 (upd (B 2) 0 113)) 2 (upd (upd (B 2) 0 113) 1 1)) 2 (upd (upd (upd (B 2) 0 113) 1 1) 2 (B 1 2))) 2 (upd (upd (upd (upd (B 2) 0 113) 1 1) 2 (B 1 2)) 3 0)) (fun Q hQ => rr Q (bn_f hne ?_)) ⟨⟨f1, f2, f3, f4, f5⟩, ⟨c1, c2, c3, c4, c5, c6, c7, c8, c9, c10, c11, c12, c13, c14, c15, c16, c17⟩, ⟨i1, i2⟩, hD, ⟨q1, q2, q3⟩, a1, hR⟩ rfl (Or.inl ⟨rfl, 4, Or.inl (by decide), rfl, rfl, wa_s (wa_s (wa_s (wa_1 hA0) 1) (B 1 2)) 0⟩)
      unfold wM_M_routine_117 wM_M_routine_145 wM_M_routine_159
      refine br_t rfl (bn_f h5 (br_t rfl ?_))
      refine hM_add 3 rfl (by decide) ?_
      exact hQ
    · refine hX_done 3 rfl (by decide) ?_
      refine hP.1 0 _ _ (va_up (va_up (va_up (va_up (va_up T 20 (nI 1)) 20 (nI 2)) 20 (nI 3)) 5 (-1)) 20 (nI 4)) (va_up (va_up (va_up (va_up B 2 (upd (B 2) 0 113)) 2 (upd (upd (B 2) 0 113) 1 1)) 2 (upd (upd (upd (B 2) 0 113) 1 1) 2 (B 1 2))) 2 (upd (upd (upd (upd (B 2) 0 113) 1 1) 2 (B 1 2)) 3 0)) (fun Q hQ => rr Q (bn_f hne ?_)) ⟨⟨f1, f2, f3, f4, f5⟩, ⟨c1, c2, c3, c4, c5, c6, rfl, Or.inl rfl, c9, c10, c11, c12, c13, c14, c15, c16, c17⟩, ⟨i1, i2⟩, hD, ⟨q1, q2, q3⟩, a1, hR⟩ rfl (Or.inl ⟨rfl, 4, Or.inl (by decide), rfl, rfl, wa_s (wa_s (wa_s (wa_1 hA0) 1) (B 1 2)) 0⟩)
      unfold wM_M_routine_117 wM_M_routine_145 wM_M_routine_159
      refine br_t rfl (bn_t h5 (br_t rfl ?_))
      refine hM_add 3 rfl (by decide) ?_
      exact hQ
    · refine hX_done 3 rfl (by decide) ?_
      have hs01 : nI sl = -1 ∨ nI sl = 0 ∨ nI sl = 1 := by
        have : sl = 0 ∨ sl = 1 := by omega
        rcases this with q | q
        · exact Or.inr (Or.inl (by rw [q]; rfl))
        · exact Or.inr (Or.inr (by rw [q]; rfl))
      refine hP.1 0 _ _ (va_up (va_up (va_up (va_up (va_up T 20 (nI 1)) 20 (nI 2)) 20 (nI 3)) 5 (nI sl)) 20 (nI 4)) (va_up (va_up (va_up (va_up B 2 (upd (B 2) 0 113)) 2 (upd (upd (B 2) 0 113) 1 1)) 2 (upd (upd (upd (B 2) 0 113) 1 1) 2 (B 1 2))) 2 (upd (upd (upd (upd (B 2) 0 113) 1 1) 2 (B 1 2)) 3 1)) (fun Q hQ => rr Q (bn_t he ?_)) ⟨⟨f1, f2, f3, f4, f5⟩, ⟨c1, c2, c3, c4, c5, c6, rfl, hs01, c9, c10, c11, c12, c13, c14, c15, c16, c17⟩, ⟨i1, i2⟩, hD, ⟨q1, q2, q3⟩, a1, hR⟩ rfl (Or.inl ⟨rfl, 4, Or.inl (by decide), rfl, rfl, wa_s (wa_s (wa_s (wa_1 hA0) 1) (B 1 2)) 1⟩)
      unfold wM_M_routine_117 wM_M_routine_145 wM_M_routine_159
      refine br_f (by decide) (br_f (by decide) ?_)
      refine hM_add 3 rfl (by decide) ?_
      exact hQ
  · -- a slot is made to run
    have ed : B 1 2 = 3 := by rw [eu, q]; rfl
    refine bn_f (by rw [ed]; decide) (bn_f (by rw [ed]; decide) ?_)
    unfold wX_T_releaseSlot
    have e0 : (va_up (va_up S 11 (nI (1 + 1))) 11 (nI (2 + 1))) 0 = T 2 := c1
    have c2' : (va_up (va_up S 11 (nI (1 + 1))) 11 (nI (2 + 1))) 2 = T 5 := c7
    rw [e0, c2']
    have no : (nI sl = T 2 ∨ ¬ nI sl = T 5) → P 34 (va_up (va_up S 11 (nI (1 + 1))) 11 (nI (2 + 1))) (va_up (va_up A 3 (upd (A 3) 1 1)) 3 (upd ((va_up A 3 (upd (A 3) 1 1)) 3) 2 (B 1 2))) := by
      intro hno
      refine hP.1 34 _ _ T B (fun Q hQ => ref Q (bn_f (by rw [ed]; decide) (bn_t ed ?_))) sW rfl (Or.inr ⟨by show ¬ B 1 0 = 17; rw [hs]; decide, 34, by decide, by decide, rfl⟩)
      unfold wM_M_activate wM_M_routine_59
      refine ⟨fun _ => br_f (by decide) hQ, fun h1 => ⟨fun h2 => ?_, fun _ => br_f (by decide) hQ⟩⟩
      rcases hno with hno | hno
      · exact absurd hno h1
      · exact absurd h2 hno
    refine ⟨fun he => no (Or.inl he), fun hne => ⟨fun hc => ?_, fun hc => no (Or.inr hc)⟩⟩
    obtain ⟨m, hm, em⟩ := sumF_in f2 (48 * sl) 32
    refine hX_goodSerial (s0 := 0) ?_ (by decide) ?_
    · exact hA0'
    refine hX_goodSerial (s0 := 1) ?_ (by decide) ?_
    · exact hA0'
    refine hX_sumOf ?_ hsl ?_
    · exact hA0'
    unfold wX_Mm_headerOf
    have eA : (va_up (va_up A 3 (upd (A 3) 1 1)) 3 (upd ((va_up A 3 (upd (A 3) 1 1)) 3) 2 (B 1 2))) 0 = B 0 := f1
    have eh : nI sl * (48 : Int32) + (32 : Int32) = nI (48 * sl + 32) := by
      rw [show nI sl * (48 : Int32) = nI (sl * 48) from pk_mul sl 48, Nat.mul_comm]
      exact nI_add _ 32
    rw [eA, em, eh]
    -- both know the serial
    have main : ∀ sr : Nat, sr < 256 → (∀ Q : Int32 → SS → AA → Prop, wM_M_activate_50 Q T B (nI sl) (nI sr) → wM_M_activate Q T B (nI sl)) → wX_T_releaseSlot_75 (fun r42 S42 A42 => (P r42 S42 A42)) (va_up (va_up S 11 (nI (1 + 1))) 11 (nI (2 + 1))) (va_up (va_up A 3 (upd (A 3) 1 1)) 3 (upd ((va_up A 3 (upd (A 3) 1 1)) 3) 2 (B 1 2))) (nI m) (nI (48 * sl + 32)) (nI sr) 0 := by
      intro sr hsr hact
      unfold wX_T_releaseSlot_75
      have h8 : ((nI m).toUInt32 >>> ((8 : Int32).toUInt32 &&& Int32.toUInt32 31)).toInt32 = nI (m / 256) := pk_ushrN (by omega) 8 8 (by decide +kernel)
      have h25 : nI m &&& (255 : Int32) = nI (m % 256) := pk_andN (by omega) 8 (by decide +kernel)
      rw [cl_0, cl_1, cl_2, h8, h25, pz_upup, pz_upup, show nI (48 * sl + 32) + (1 : Int32) = nI (48 * sl + 33) from nI_add _ 1]
      refine ⟨vl_0 (by decide) (by decide), vl_1 (by decide) (by decide), vl_2 (by decide) (by decide), ?_⟩
      have ew : wr (S 5) (S 6) (A 0) (48 * sl + 33) 3 (fun j => A 0 (48 * sl + 33 + j) &&& (upd (upd (upd (A 5) 0 (nI sr)) 1 (nI (m / 256))) 2 (nI (m % 256))) j) = (hdW (T 0) (T 1) (B 0) (48 * sl + 33) (nI sr) (nI (m / 256)) (nI (m % 256))) := by
        rw [f3, f4, f1]
        exact wr3 rfl rfl rfl
      have hby : by8 (hdW (T 0) (T 1) (B 0) (48 * sl + 33) (nI sr) (nI (m / 256)) (nI (m % 256))) := by8_hdW f2 (and_by f2 _ hsr) (and_by f2 _ (by omega)) (and_by f2 _ (by omega))
      refine hX_write12g (at0 := 48 * sl + 33) (m := 3) (by omega) (by decide) (fun g hg => ⟨fun o0 => bn_f (by decide) ⟨vl_0 (by decide) (by decide), ?_⟩, fun o1 => bn_t rfl ?_⟩)
      · have o0 : S 5 = 0 := o0
        have t0 : T 0 = 0 := f3.symm.trans o0
        have eg : g = (hdW (T 0) (T 1) (B 0) (48 * sl + 33) (nI sr) (nI (m / 256)) (nI (m % 256))) := hg.trans ew
        refine hX_write12g (at0 := 48 * sl + 32) (m := 1) (by omega) (by decide) (fun g2 hg2 => ⟨fun _ => br_f (by decide) ?_, fun q => absurd rfl q⟩)
        have eg2 : g2 = (hdM (T 1) (hdW (T 0) (T 1) (B 0) (48 * sl + 33) (nI sr) (nI (m / 256)) (nI (m % 256))) (48 * sl + 32)) := by
          rw [hg2]
          show wr 0 (S 6) g (48 * sl + 32) 1 (fun j => g (48 * sl + 32 + j) &&& upd (upd (upd (upd (A 5) 0 (nI sr)) 1 (nI (m / 256))) 2 (nI (m % 256))) 0 0 j) = _
          rw [f4, eg]
          refine wr1 ?_
          show _ &&& (0 : Int32) = 0
          exact Int32.and_zero
        refine hP.1 0 _ _ (va_up (va_up (va_up (va_up (va_up T 0 0) 0 0) 20 (nI 1)) 20 (nI 2)) 20 (nI 3)) (va_up (va_up (va_up (va_up B 0 (hdM (T 1) (hdW (T 0) (T 1) (B 0) (48 * sl + 33) (nI sr) (nI (m / 256)) (nI (m % 256))) (48 * sl + 32))) 2 (upd (B 2) 0 113)) 2 (upd (upd (B 2) 0 113) 1 1)) 2 (upd (upd (upd (B 2) 0 113) 1 1) 2 (B 1 2))) (fun Q hQ => ref Q (bn_f (by rw [ed]; decide) (bn_t ed (hact _ (hM_head hsl f2 f5 hm hsr em (fun q => absurd t0 q) (fun _ => ?_)))))) ⟨⟨eg2, by8_hdM hby, rfl, f4, Or.inl rfl⟩, ⟨c1, c2, c3, c4, c5, c6, c7, c8, c9, c10, c11, c12, c13, c14, c15, c16, c17⟩, ⟨i1, i2⟩, hD, ⟨q1, q2, q3⟩, a1, hR⟩ rfl (Or.inl ⟨rfl, 3, Or.inl (by decide), rfl, rfl, wa_s (wa_s (wa_1 hA0) 1) (B 1 2)⟩)
        unfold wM_M_routine_59
        refine br_t rfl ?_
        refine hM_add 0 e20 (by decide) ?_
        refine hM_add 1 rfl (by decide) ?_
        refine hM_add 2 rfl (by decide) ?_
        exact bn_f (by rw [ed]; decide) hQ
      · have o1 : ¬ S 5 = 0 := o1
        have eg : g = (hdW (T 0) (T 1) (B 0) (48 * sl + 33) (nI sr) (nI (m / 256)) (nI (m % 256))) := hg.trans ew
        refine hP.2 _ _ (va_up T 0 0) (va_up B 0 (hdW (T 0) (T 1) (B 0) (48 * sl + 33) (nI sr) (nI (m / 256)) (nI (m % 256)))) (fun Q hQ => ref Q (bn_f (by rw [ed]; decide) (bn_t ed (hact _ (hM_head hsl f2 f5 hm hsr em (fun _ => ?_) (fun q => absurd (f3.trans q) o1)))))) ⟨⟨eg, hby, rfl, f4, Or.inl rfl⟩, ⟨c10, c11⟩, i2, ⟨q1, q2⟩, hR⟩
        unfold wM_M_routine_59
        exact br_f (by decide) hQ
    rcases ser_eq f2 with ⟨g1, g2⟩ | ⟨b, r0, hr0, hb, g1, g2, g3⟩
    · refine bn_t g1 (main 1 (by decide) (fun Q hQ => ?_))
      unfold wM_M_activate
      refine br_f hne (br_t hc (hM_bestSlot f2 ?_))
      rw [g2]
      exact br_f (by decide) hQ
    · have hnm : ¬ nI b = (-1 : Int32) := fun q => (byte_neg f2 (48 * r0 + 33)).1 (g2.trans q)
      rw [g3]
      refine bn_f hnm ?_
      have es : (nI b + (1 : Int32)) &&& (255 : Int32) = nI ((b + 1) % 256) := by rw [pz_inc]; exact pk_andN (by omega) 8 (by decide +kernel)
      rw [es]
      refine main ((b + 1) % 256) (Nat.mod_lt _ (by decide)) (fun Q hQ => ?_)
      unfold wM_M_activate
      refine br_f hne (br_t hc (hM_bestSlot f2 ?_))
      have e33 : (48 : Int32) * nI r0 + (33 : Int32) = nI (48 * r0 + 33) := by rw [show (48 : Int32) * nI r0 = nI (48 * r0) from pk_mul 48 r0]; exact nI_add _ 33
      rw [g1, e33, nI_clamp (n := 48 * r0 + 33) (by omega), g2, pz_inc, show nI (b + 1) - nI (b + 1) / (256 : Int32) * (256 : Int32) = nI ((b + 1) % 256) from pk_rem (d := 256) (by omega) (by decide) (by decide)]
      exact br_t (nI_pos' (by omega)) ⟨vp_in_nI (by omega) (by decide), hQ⟩
theorem hM_range {T : SS} {B : AA} (h : ¬ rngF (B 1) (B 1 0)) {Q : Int32 → SS → AA → Prop} (hQ : Q 49 T B) : wM_M_workOn Q T B := by
  unfold rngF at h
  by_cases a : B 1 0 = 34
  · rw [if_pos a] at h
    unfold wM_M_workOn
    rw [cl_0, a]
    refine ⟨vl_0 (by decide) (by decide), br_f (by decide) (br_f (by decide) (br_t rfl (?_)))⟩
    unfold wM_M_readData
    rw [cl_1]
    exact ⟨vl_1 (by decide) (by decide), br_f (fun q => h (Int32.not_lt.mpr q)) hQ⟩
  rw [if_neg a] at h
  clear a
  by_cases a : B 1 0 = 46
  · rw [if_pos a] at h
    unfold wM_M_workOn
    rw [cl_0, a]
    refine ⟨vl_0 (by decide) (by decide), br_f (by decide) (br_f (by decide) (br_f (by decide) (br_f (by decide) (br_t rfl (?_)))))⟩
    unfold wM_M_writeData
    rw [cl_1, cl_2]
    exact ⟨vl_1 (by decide) (by decide), br_f h hQ⟩
  rw [if_neg a] at h
  clear a
  by_cases a : B 1 0 = 49
  · rw [if_pos a] at h
    unfold wM_M_workOn
    rw [cl_0, a]
    refine ⟨vl_0 (by decide) (by decide), br_f (by decide) (br_f (by decide) (br_f (by decide) (br_f (by decide) (br_f (by decide) (br_t rfl (?_))))))⟩
    unfold wM_M_routine
    rw [cl_2, cl_3]
    exact ⟨vl_2 (by decide) (by decide), vl_3 (by decide) (by decide), fun _ => hQ, fun x => ⟨fun _ => hQ, fun y => ⟨fun z => absurd ⟨x, y, Int32.not_lt.mpr z⟩ h, fun _ => hQ⟩⟩⟩
  rw [if_neg a] at h
  clear a
  by_cases a : B 1 0 = 52
  · rw [if_pos a] at h
    unfold wM_M_workOn
    rw [cl_0, a]
    refine ⟨vl_0 (by decide) (by decide), br_f (by decide) (br_f (by decide) (br_f (by decide) (br_f (by decide) (br_f (by decide) (br_f (by decide) (br_t rfl (?_)))))))⟩
    unfold wM_M_download
    rw [cl_1, cl_2]
    exact ⟨vl_1 (by decide) (by decide), vl_2 (by decide) (by decide), fun _ => hQ, fun x => ⟨fun _ => hQ, fun y => ⟨fun z => absurd ⟨x, y, Int32.not_lt.mpr z⟩ h, fun _ => hQ⟩⟩⟩
  rw [if_neg a] at h
  exact absurd trivial h
theorem ok_work {n L : Nat} (hn : n < 2 ^ 20) {S : SS} {A : AA} {T : SS} {B : AA} (h : Rel n S A T B) (e7 : S 7 = nI L) (e17 : T 17 = nI L) (e16 : T 16 = nI L) (hL : 1 ≤ L ∧ L ≤ 34) (e15 : S 15 = 0) {P : SS → AA → Prop} (hP : ∀ (S1 : SS) (A1 : AA), OkV n S1 A1 (fun Q => wM_M_complete Q T B) → P S1 A1) : wX_T_workOnRequest P S A := by
  obtain ⟨hF, hC, hI, hD, ⟨q1, q2, L', G', q3, q4, q5, q6, q7, q8⟩, hA, hR⟩ := h
  have e8 : S 8 = 0 := by
    have a : L' = L := (nI_eq (by omega) (by omega)).mp (q3.symm.trans e16)
    have b : G' = L := (nI_eq (by omega) (by omega)).mp (q4.symm.trans e17)
    rw [q7, a, b, Nat.sub_self]
    rfl
  have ex0 : A 1 0 = B 1 0 := by rw [q1]
  unfold wX_T_workOnRequest
  refine hX_atY 0 e7 hL.2 (by omega) ?_
  unfold wX_Sd_begin
  rw [ex0]
  refine hX_sadd 0 rfl (by decide) ?_
  have hW : Wk n (va_up (va_up (va_up S 4 0) 11 0) 11 (nI (0 + 1))) (va_up A 3 (upd (A 3) 0 (B 1 0 + 64))) (va_up (va_up (va_up T 11 0) 20 0) 21 0) B := ⟨hF, hC, ⟨rfl, rfl⟩, hD, ⟨q1, q2, e8⟩, e15, hR⟩
  have ag : agF ((va_up A 3 (upd (A 3) 0 (B 1 0 + 64))) 1) L (B 1 0) ((va_up (va_up (va_up S 4 0) 11 0) 11 (nI (0 + 1))) 1) ((va_up (va_up (va_up S 4 0) 11 0) 11 (nI (0 + 1))) 18) = agF (B 1) L (B 1 0) ((va_up (va_up (va_up T 11 0) 20 0) 21 0) 3) ((va_up (va_up (va_up T 11 0) 20 0) 21 0) 4) := by
    show agF (A 1) L (B 1 0) (S 1) (S 18) = agF (B 1) L (B 1 0) (T 3) (T 4)
    rw [q1, hC.2.2.1, hC.2.2.2.2.1]
  refine hX_refusal (L := L) e7 hL.2 (fun k hk0 hk => ?_) (fun hok => ?_)
  · have hk2 : k < 256 := by rw [← hk]; exact agF_lt _ _ _ _ _
    refine bn_f (nI_ne0 hk0 (by omega)) ?_
    refine sim_neg (n := n + 1) (k := k) hW.step hk0 hk2 (fun S2 A2 hr => hP S2 A2 (fun Q hQ => ?_))
    show wM_M_complete Q T B
    unfold wM_M_complete wM_M_dropAnswer
    refine hM_against (L := L) e17 hL.2 ?_
    rw [← ag, hk]
    refine bn_f (nI_ne0 hk0 (by omega)) ?_
    unfold wM_M_complete_33 wM_M_complete_34
    exact bn_f (nI_ne0 hk0 (by omega)) (hr Q hQ)
  · have ho : okF (B 1) L (B 1 0) (S 1) (S 18) := by
      have t : okF (A 1) L (B 1 0) (S 1) (S 18) := hok
      rw [q1] at t
      exact t
    have rok : ∀ Q : SS → AA → Prop, (B 1 0 = 17 → wM_M_workOn (fun r40 S40 A40 => (wM_M_complete_44 Q S40 A40 r40 1)) (va_up (va_up (va_up T 11 0) 20 0) 21 0) B) → (¬ B 1 0 = 17 → wM_M_workOn (fun r40 S40 A40 => (wM_M_complete_44 Q S40 A40 r40 0)) (va_up (va_up (va_up T 11 0) 20 0) 21 0) B) → wM_M_complete Q T B := by
      intro Q g1 g0
      unfold wM_M_complete wM_M_dropAnswer
      refine hM_against (L := L) e17 hL.2 ?_
      rw [← ag, agF_ok hok]
      rw [cl_0]
      refine bn_t rfl ⟨vl_0 (by decide) (by decide), fun n17 => ?_, fun y17 => ?_⟩
      · unfold wM_M_complete_33 wM_M_complete_34
        exact bn_t rfl (g0 n17)
      · unfold wM_M_complete_34
        exact bn_t rfl (g1 y17)
    unfold wX_T_refusal_75
    refine hX_range (L := L) e7 hL.2 hok.2.1 (fun hrg => br_f (by decide) (bn_t rfl ?_)) (fun hrg => br_t rfl (bn_f (by decide) ?_))
    · have hr : rngF (B 1) (B 1 0) := by
        have t : rngF (A 1) (B 1 0) := hrg
        rw [q1] at t
        exact t
      have serve : ∀ Pp : Int32 → SS → AA → Prop, Dn n Pp (fun Q => wM_M_workOn Q (va_up (va_up (va_up T 11 0) 20 0) 21 0) B) B → wX_T_serve Pp (va_up (va_up (va_up S 4 0) 11 0) 11 (nI (0 + 1))) (va_up A 3 (upd (A 3) 0 (B 1 0 + 64))) (B 1 0) := by
        intro Pp hDn
        suffices hh : ∀ s : Int32, s = B 1 0 → wX_T_serve Pp (va_up (va_up (va_up S 4 0) 11 0) 11 (nI (0 + 1))) (va_up A 3 (upd (A 3) 0 (B 1 0 + 64))) s from hh _ rfl
        intro s es
        have hk := ho.1
        rw [← es] at hk
        unfold known at hk
        rcases hk with hs | hs | hs | hs | hs | hs | hs | hs | hs | hs
        · subst hs
          have hs := es.symm
          rw [hs] at ho hr
          exact sv_16 hW e7 hL.2 rfl rfl hs (by show B 1 0 + 64 = (80 : Int32); rw [hs]; decide) (long_2 ho.2.1 (by decide)) (by have p := ho.2.2.1; unfold partF at p; rw [if_pos rfl] at p; exact p) hDn
        · subst hs
          have hs := es.symm
          rw [hs] at ho hr
          exact sv_17 hW e7 hL.2 rfl rfl hs (by show B 1 0 + 64 = (81 : Int32); rw [hs]; decide) (long_2 ho.2.1 (by decide)) (by have p := ho.2.2.1; unfold partF at p; rw [if_neg (by decide), if_pos rfl] at p; exact p) hDn
        · subst hs
          have hs := es.symm
          rw [hs] at ho hr
          exact sv_34 hW e7 hL.2 rfl rfl hs (by show B 1 0 + 64 = (98 : Int32); rw [hs]; decide) (long_2 ho.2.1 (by decide)) (by have p := hr; unfold rngF at p; rw [if_pos rfl] at p; exact p) hDn
        · subst hs
          have hs := es.symm
          rw [hs] at ho hr
          exact sv_39 hW e7 hL.2 rfl rfl hs (by show B 1 0 + 64 = (103 : Int32); rw [hs]; decide) hn (long_39 ho.2.1 rfl).1 (by have p := ho.2.2.1; unfold partF at p; rw [if_neg (by decide), if_neg (by decide), if_pos rfl] at p; exact p) (long_39 ho.2.1 rfl).2 hDn
        · subst hs
          have hs := es.symm
          rw [hs] at ho hr
          exact sv_62 hW e7 hL.2 rfl rfl hs (by show B 1 0 + 64 = (126 : Int32); rw [hs]; decide) (long_2 ho.2.1 (by decide)) (by have p := ho.2.2.1; unfold partF at p; rw [if_neg (by decide), if_neg (by decide), if_neg (by decide), if_neg (by decide), if_pos rfl] at p; exact p) hDn
        · subst hs
          have hs := es.symm
          rw [hs] at ho hr
          exact sv_46 hW e7 hL.2 rfl rfl hs (by show B 1 0 + 64 = (110 : Int32); rw [hs]; decide) (by rw [long_46 ho.2.1 rfl]; decide) (by have p := hr; unfold rngF at p; rw [if_neg (by decide), if_pos rfl] at p; exact p) hDn
        · subst hs
          have hs := es.symm
          rw [hs] at ho hr
          exact sv_49 hW e7 hL.2 rfl rfl hs (by show B 1 0 + 64 = (113 : Int32); rw [hs]; decide) (long_49 ho.2.1 rfl).1 (long_49 ho.2.1 rfl).2 (by have p := hr; unfold rngF at p; rw [if_neg (by decide), if_neg (by decide), if_pos rfl] at p; exact p.1) (by have p := hr; unfold rngF at p; rw [if_neg (by decide), if_neg (by decide), if_pos rfl] at p; exact p.2.1) (by have p := hr; unfold rngF at p; rw [if_neg (by decide), if_neg (by decide), if_pos rfl] at p; exact p.2.2) hDn
        · subst hs
          have hs := es.symm
          rw [hs] at ho hr
          exact sv_52 hW e7 hL.2 rfl rfl hs (by show B 1 0 + 64 = (116 : Int32); rw [hs]; decide) (by rw [long_52 ho.2.1 rfl]; decide) (by have p := hr; unfold rngF at p; rw [if_neg (by decide), if_neg (by decide), if_neg (by decide), if_pos rfl] at p; exact p.1) (by have p := hr; unfold rngF at p; rw [if_neg (by decide), if_neg (by decide), if_neg (by decide), if_pos rfl] at p; exact p.2.1) (by have p := hr; unfold rngF at p; rw [if_neg (by decide), if_neg (by decide), if_neg (by decide), if_pos rfl] at p; exact p.2.2) hDn
        · subst hs
          have hs := es.symm
          rw [hs] at ho hr
          exact sv_54 hW e7 hL.2 rfl rfl hs (by show B 1 0 + 64 = (118 : Int32); rw [hs]; decide) hn e17 (long_54 ho.2.1 rfl) hDn
        · subst hs
          have hs := es.symm
          rw [hs] at ho hr
          exact sv_55 hW e7 hL.2 rfl rfl hs (by show B 1 0 + 64 = (119 : Int32); rw [hs]; decide)  hDn
      refine serve _ ⟨fun c S2 A2 T2 B2 hrun hW2 hB2 hc => ?_, fun S2 A2 T2 B2 hrun hT2 => ?_⟩
      · rcases hc with ⟨rfl, cnt, hcnt, ha⟩ | ⟨n17, k, hk0, hk2, rfl⟩
        · unfold wX_T_workOnRequest_41
          refine bn_f (by decide) (br_t rfl ?_)
          by_cases h17 : B 1 0 = 17
          · refine sim_answer (n := n + 1) (y := 1) hW2 ha hcnt (Or.inl ⟨h17, rfl, by decide⟩) (fun S3 A3 hr3 => hP S3 A3 (fun Q hQ => rok Q (fun _ => hrun _ ?_) (fun q => absurd h17 q)))
            unfold wM_M_complete_44
            exact br_t (Int32.le_refl _) (br_t (Int32.le_refl _) (hr3 Q hQ))
          · refine sim_answer (n := n + 1) (y := 0) hW2 ha hcnt (Or.inr ⟨fun q => h17 q.1, rfl⟩) (fun S3 A3 hr3 => hP S3 A3 (fun Q hQ => rok Q (fun q => absurd q h17) (fun _ => hrun _ ?_)))
            unfold wM_M_complete_44
            exact br_t (Int32.le_refl _) (br_t (Int32.le_refl _) (hr3 Q hQ))
        · have eb : B 1 0 = B2 1 0 := by rw [hB2]
          have n17' : ¬ B 1 0 = 17 := by rw [eb]; exact n17
          show wX_T_workOnRequest_41 P S2 A2 (B 1 0) (nI k)
          rw [eb]
          exact sim_neg (n := n + 1) (k := k) hW2 hk0 hk2 (fun S3 A3 hr3 => hP S3 A3 (fun Q hQ => rok Q (fun q => absurd q n17') (fun _ => hrun _ (hr3 Q hQ))))
      · by_cases h17 : B 1 0 = 17
        · exact sim_torn (n := n + 1) (y := 1) hT2 (fun S3 A3 hr3 => hP S3 A3 (fun Q hQ => rok Q (fun _ => hrun _ (hr3 Q hQ)) (fun q => absurd h17 q)))
        · exact sim_torn (n := n + 1) (y := 0) hT2 (fun S3 A3 hr3 => hP S3 A3 (fun Q hQ => rok Q (fun q => absurd q h17) (fun _ => hrun _ (hr3 Q hQ))))
    · have hr : ¬ rngF (B 1) (B 1 0) := by
        have t : ¬ rngF (A 1) (B 1 0) := hrg
        rw [q1] at t
        exact t
      have n17 : ¬ B 1 0 = 17 := by
        intro q
        refine hr ?_
        rw [q]
        unfold rngF
        rw [if_neg (by decide), if_neg (by decide), if_neg (by decide), if_neg (by decide)]
        exact trivial
      exact sim_neg (n := n + 1) (k := 49) hW.step (by decide) (by decide) (fun S2 A2 hr2 => hP S2 A2 (fun Q hQ => rok Q (fun q => absurd q n17) (fun _ => hM_range hr (hr2 Q hQ))))
/-! a frame comes -/
theorem hX_accept {post : Int32 → SS → AA → Prop} {S : SS} {A : AA} {f r : Int32} {kd sd w g nr : Nat} (hkd : kd < 256) (hsd : sd < 256) (ek : frb f r 0 = nI kd) (es : frb f r 1 = nI sd) (e8 : S 8 = nI w) (hw : w ≤ 34) (hg : 0 < w → S 7 = nI g ∧ g + w ≤ 34 ∧ S 9 = nI nr ∧ nr < 16)
    (c1 : 1 ≤ kd → kd ≤ 7 → post 2 (va_up (va_up (va_up (va_up (va_up (va_up S 7 0) 8 (nI kd)) 9 1) 10 0) 7 (nI (0 + min (8 - 1) kd))) 8 (nI (kd - min (8 - 1) kd))) (va_up A 1 (lay (A 1) 0 (min (8 - 1) kd) (fun i => frb f r (1 + i)))))
    (c2 : kd = 16 → 8 ≤ sd → sd ≤ 34 → post 1 (va_up (va_up (va_up (va_up (va_up (va_up S 7 0) 8 (nI sd)) 9 1) 10 0) 7 (nI (0 + min (8 - 2) sd))) 8 (nI (sd - min (8 - 2) sd))) (va_up A 1 (lay (A 1) 0 (min (8 - 2) sd) (fun i => frb f r (2 + i)))))
    (c3 : 32 ≤ kd → kd ≤ 47 → 0 < w → ¬ kd - 32 = nr → post 0 (va_up (va_up S 7 0) 8 0) A)
    (c4 : 32 ≤ kd → kd ≤ 47 → 0 < w → kd - 32 = nr → (w ≤ 7 → post 2 (va_up (va_up (va_up (va_up S 9 (nI ((nr + 1) % 16))) 10 0) 7 (nI (g + min (8 - 1) w))) 8 (nI (w - min (8 - 1) w))) (va_up A 1 (lay (A 1) g (min (8 - 1) w) (fun i => frb f r (1 + i))))) ∧
      (7 < w → nr % 2 = 0 → post 1 (va_up (va_up (va_up (va_up S 9 (nI ((nr + 1) % 16))) 10 0) 7 (nI (g + min (8 - 1) w))) 8 (nI (w - min (8 - 1) w))) (va_up A 1 (lay (A 1) g (min (8 - 1) w) (fun i => frb f r (1 + i))))) ∧
      (7 < w → ¬ nr % 2 = 0 → post 0 (va_up (va_up (va_up (va_up S 9 (nI ((nr + 1) % 16))) 10 0) 7 (nI (g + min (8 - 1) w))) 8 (nI (w - min (8 - 1) w))) (va_up A 1 (lay (A 1) g (min (8 - 1) w) (fun i => frb f r (1 + i))))))
    (c5 : (kd < 1 ∨ 7 < kd) → (¬ kd = 16 ∨ sd < 8 ∨ 34 < sd) → (kd < 32 ∨ 47 < kd ∨ w = 0) → post 0 S A) : wX_Rc_accept post S A f r := by
  have a75 : (kd < 1 ∨ 7 < kd) → (¬ kd = 16 ∨ sd < 8 ∨ 34 < sd) → wX_Rc_accept_75 post S A f r (nI kd) := by
    intro k1 k2
    unfold wX_Rc_accept_75
    refine ⟨fun h => c5 k1 k2 (Or.inl ((pz_lt (b := 32) (by omega) (by decide)).mp h)), fun h32 => ⟨fun h => c5 k1 k2 (Or.inr (Or.inl ?_)), fun h48 => ⟨fun h => c5 k1 k2 (Or.inr (Or.inr ?_)), fun h0 => ?_⟩⟩⟩
    · have := (pz_le (a := 48) (by decide) (by omega)).mp h
      omega
    · rw [e8] at h
      have := (pz_le (a := w) (b := 0) (by omega) (by decide)).mp h
      omega
    · have k3 : 32 ≤ kd := Nat.le_of_not_lt (fun q => h32 ((pz_lt (b := 32) (by omega) (by decide)).mpr q))
      have k4 : kd ≤ 47 := by
        have : ¬ 48 ≤ kd := fun q => h48 ((pz_le (a := 48) (by decide) (by omega)).mpr q)
        omega
      have k5 : 0 < w := by
        have : ¬ w = 0 := fun q => h0 (by rw [e8, q]; exact Int32.le_refl _)
        omega
      obtain ⟨e7, hgw, e9, hnr⟩ := hg k5
      unfold wX_Rc_acceptNext
      have em : ((nI kd - (32 : Int32)) = S 9) ↔ kd - 32 = nr := by
        rw [e9, show nI kd - (32 : Int32) = nI (kd - 32) from pk_sub (b := 32) k3]
        exact nI_eq (by omega) (by omega)
      refine hX_byteOf (j := 0) (by decide) ⟨fun h1 => ?_, fun h1 => ?_⟩
      · rw [ek] at h1
        have k6 := em.mp h1
        obtain ⟨d1, d2, d3⟩ := c4 k3 k4 k5 k6
        have er : (S 9 - S 9 / (2 : Int32) * (2 : Int32)) = nI (nr % 2) := by rw [e9]; exact pk_rem (d := 2) (by omega) (by decide) (by decide)
        have er16 : ((S 9 + (1 : Int32)) - (S 9 + (1 : Int32)) / (16 : Int32) * (16 : Int32)) = nI ((nr + 1) % 16) := by
          rw [e9, pz_inc]; exact pk_rem (d := 16) (by omega) (by decide) (by decide)
        have a36 : ∀ y : Int32, (nr % 2 = 0 → y = 1) → (¬ nr % 2 = 0 → y = 0) → wX_Rc_acceptNext_36 post S A f r y := by
          intro y y1 y0
          unfold wX_Rc_acceptNext_36
          rw [er16]
          refine hX_add (g := g) (w := w) (fr := 1) e7 e8 hgw (by decide) ⟨fun n0 => ?_, fun z0 => d1 ?_⟩
          · have k7 : 7 < w := by
              have : ¬ w - min (8 - 1) w = 0 := fun q => n0 (show nI (w - min (8 - 1) w) = 0 by rw [q]; rfl)
              omega
            refine ⟨fun hy => d3 k7 (fun q => ?_), fun hy => d2 k7 ?_⟩
            · rw [y1 q] at hy; exact absurd hy (by decide)
            · rcases Nat.mod_two_eq_zero_or_one nr with q | q
              · exact q
              · exact absurd (y0 (by omega)) hy
          · have z1 : nI (w - min (8 - 1) w) = nI 0 := z0
            have := (nI_eq (b := 0) (by omega) (by decide)).mp z1
            omega
        refine ⟨fun hn => a36 0 (fun q => ?_) (fun _ => rfl), fun hz => a36 1 (fun _ => rfl) (fun q => ?_)⟩
        · rw [er, q] at hn; exact absurd rfl hn
        · rw [er] at hz
          exact absurd ((nI_eq (b := 0) (by omega) (by decide)).mp hz) q
      · rw [ek] at h1
        unfold wX_Rc_drop
        exact c3 k3 k4 k5 (fun q => h1 (em.mpr q))
  have a32 : (kd < 1 ∨ 7 < kd) → wX_Rc_accept_32 post S A f r (nI kd) := by
    intro k1
    unfold wX_Rc_accept_32
    refine hX_byteOf (j := 1) (by decide) ⟨fun h => a75 k1 (Or.inl (fun q => h (by rw [q]; rfl))), fun h => ⟨fun h2 => a75 k1 (Or.inr (Or.inl ?_)), fun h2 => ⟨fun h3 => a75 k1 (Or.inr (Or.inr ?_)), fun h3 => ?_⟩⟩⟩
    · rw [es] at h2; exact (pz_lt (b := 8) (by omega) (by decide)).mp h2
    · rw [es] at h3; exact (pz_lt (a := 34) (by decide) (by omega)).mp h3
    · rw [es] at h2 h3
      rw [es]
      have k2 : kd = 16 := (nI_eq (b := 16) (by omega) (by decide)).mp h
      have k3 : 8 ≤ sd := Nat.le_of_not_lt (fun q => h2 ((pz_lt (b := 8) (by omega) (by decide)).mpr q))
      have k4 : sd ≤ 34 := Nat.le_of_not_lt (fun q => h3 ((pz_lt (a := 34) (by decide) (by omega)).mpr q))
      unfold wX_Rc_begin
      exact hX_add (g := 0) (w := sd) (fr := 2) rfl rfl (by omega) (by decide) (c2 k2 k3 k4)
  unfold wX_Rc_accept
  refine hX_byteOf (j := 0) (by decide) ⟨fun h => ?_, fun h => ⟨fun h2 => ?_, fun h2 => ?_⟩⟩
  · rw [ek] at h; rw [ek]
    exact a32 (Or.inl ((pz_lt (b := 1) (by omega) (by decide)).mp h))
  · rw [ek] at h2; rw [ek]
    exact a32 (Or.inr ((pz_lt (a := 7) (by decide) (by omega)).mp h2))
  · rw [ek] at h h2; rw [ek]
    have k1 : 1 ≤ kd := Nat.le_of_not_lt (fun q => h ((pz_lt (b := 1) (by omega) (by decide)).mpr q))
    have k2 : kd ≤ 7 := Nat.le_of_not_lt (fun q => h2 ((pz_lt (a := 7) (by decide) (by omega)).mpr q))
    unfold wX_Rc_begin
    exact hX_add (g := 0) (w := kd) (fr := 1) rfl rfl (by omega) (by decide) (c1 k1 k2)
/-! the reference's looking at a frame -/
theorem dsp_148 {Q : Int32 → SS → AA → Prop} {T : SS} {B : AA} {kd : Nat} (hkd : kd < 256) (h3 : kd < 32 ∨ 47 < kd ∨ T 16 ≤ T 17) (q : wM_M_frame_179 Q T B) : wM_M_frame_148 Q T B (nI kd) := by
  unfold wM_M_frame_148
  refine ⟨fun _ => q, fun a => ⟨fun _ => q, fun b => ⟨fun _ => q, fun c => ?_⟩⟩⟩
  exfalso
  rcases h3 with h3 | h3 | h3
  · exact a ((pz_lt (b := 32) (by omega) (by decide)).mpr h3)
  · exact b ((pz_lt (a := 47) (by decide) (by omega)).mpr h3)
  · exact c h3
theorem dsp_148g {Q : Int32 → SS → AA → Prop} {T : SS} {B : AA} {kd : Nat} (k1 : 32 ≤ kd) (k2 : kd ≤ 47) (h3 : ¬ T 16 ≤ T 17) (q : wM_M_furtherFrame (fun S176 A176 => (wM_M_frame_179 Q S176 A176)) T B (nI (kd - 32))) : wM_M_frame_148 Q T B (nI kd) := by
  unfold wM_M_frame_148
  refine ⟨fun a => absurd ((pz_lt (b := 32) (by omega) (by decide)).mp a) (by omega), fun _ => ⟨fun a => absurd ((pz_lt (a := 47) (by decide) (by omega)).mp a) (by omega), fun _ => ⟨fun a => absurd a h3, fun _ => ?_⟩⟩⟩
  rw [show nI kd - (32 : Int32) = nI (kd - 32) from pk_sub (b := 32) k1]
  exact q
theorem dsp_102 {Q : Int32 → SS → AA → Prop} {T : SS} {B : AA} {kd sd : Nat} (hkd : kd < 256) (hsd : sd < 256) (e41 : B 4 1 = nI sd) (h2 : ¬ kd = 16 ∨ sd < 8 ∨ 34 < sd) (q : wM_M_frame_148 Q T B (nI kd)) : wM_M_frame_102 Q T B (nI kd) := by
  unfold wM_M_frame_102
  rw [cl_1, e41]
  refine ⟨fun _ => q, fun a => ⟨vl_1 (by decide) (by decide), fun _ => q, fun b => ⟨vl_1 (by decide) (by decide), fun _ => q, fun c => ?_⟩⟩⟩
  exfalso
  have k := (nI_eq (a := kd) (b := 16) (by omega) (by decide)).mp a
  rcases h2 with h2 | h2 | h2
  · exact h2 k
  · exact b ((pz_lt (b := 8) (by omega) (by decide)).mpr h2)
  · exact c ((pz_lt (a := 34) (by decide) (by omega)).mpr h2)
theorem dsp_go {Q : Int32 → SS → AA → Prop} {T : SS} {B : AA} {kd : Nat} (hkd : kd < 256) (hle : T 20 ≤ T 21) (e40 : B 4 0 = nI kd) (h1 : kd < 1 ∨ 7 < kd) (q : wM_M_frame_102 Q T B (nI kd)) : dsp Q T B := by
  unfold dsp
  rw [e40]
  refine ⟨fun _ => ⟨fun _ => q, fun a => ⟨fun _ => q, fun b => ?_⟩⟩, fun a => absurd hle a⟩
  exfalso
  rcases h1 with h1 | h1
  · exact a ((pz_lt (b := 1) (by omega) (by decide)).mpr h1)
  · exact b ((pz_lt (a := 7) (by decide) (by omega)).mpr h1)
theorem dsp_idle {Q : Int32 → SS → AA → Prop} {T : SS} {B : AA} {kd sd : Nat} (hkd : kd < 256) (hsd : sd < 256) (hle : T 20 ≤ T 21) (e40 : B 4 0 = nI kd) (e41 : B 4 1 = nI sd) (h1 : kd < 1 ∨ 7 < kd) (h2 : ¬ kd = 16 ∨ sd < 8 ∨ 34 < sd) (h3 : kd < 32 ∨ 47 < kd ∨ T 16 ≤ T 17) (q : wM_M_frame_179 Q T B) : dsp Q T B := dsp_go hkd hle e40 h1 (dsp_102 hkd hsd e41 h2 (dsp_148 hkd h3 q))
theorem dsp_ans {Q : Int32 → SS → AA → Prop} {T : SS} {B : AA} {kd sd : Nat} (hkd : kd < 256) (hle : ¬ T 20 ≤ T 21) (e40 : B 4 0 = nI kd) (e41 : B 4 1 = nI sd) (h48 : kd = 48 → wM_M_sendMore (fun S18 A18 => (wM_M_frame_179 Q S18 A18)) T B (nI sd)) (h49 : kd = 49 → wM_M_frame_179 Q (va_up T 23 0) B) (h50 : kd = 50 → wM_M_frame_179 Q (va_up (va_up T 20 0) 21 0) B) (h0 : ¬ (48 ≤ kd ∧ kd ≤ 50) → wM_M_frame_179 Q T B) : dsp Q T B := by
  unfold dsp
  refine ⟨fun a => absurd a hle, fun _ => ?_⟩
  unfold wM_M_answerFrame wM_M_dropAnswer
  rw [cl_0, cl_1, e40, e41]
  have e : ∀ m : Nat, m < 256 → (nI kd = nI m ↔ kd = m) := fun m hm => nI_eq (by omega) (by omega)
  refine ⟨vl_0 (by decide) (by decide), fun a => ⟨vl_0 (by decide) (by decide), fun b => ⟨vl_0 (by decide) (by decide), fun c => h0 ?_, fun c => h50 ((e 50 (by decide)).mp c)⟩, fun b => h49 ((e 49 (by decide)).mp b)⟩, fun a => ⟨vl_1 (by decide) (by decide), h48 ((e 48 (by decide)).mp a)⟩⟩
  intro k
  have n1 : ¬ kd = 48 := fun q => a ((e 48 (by decide)).mpr q)
  have n2 : ¬ kd = 49 := fun q => b ((e 49 (by decide)).mpr q)
  have n3 : ¬ kd = 50 := fun q => c ((e 50 (by decide)).mpr q)
  omega
theorem ok_frame {n : Nat} (hn : n < 2 ^ 20) {S : SS} {A : AA} {T : SS} {B : AA} (h : Rel n S A T B) {f r : Int32} {P : Int32 → SS → AA → Prop} (hP : ∀ (r1 : Int32) (S1 : SS) (A1 : AA), OkI n r1 S1 A1 (fun Q => wM_M_frame Q T B f r) → P r1 S1 A1) : wX_T_frame P S A f r := by
  obtain ⟨kd, hkd, ek⟩ := frb_byte f r 0
  obtain ⟨sd, hsd, es⟩ := frb_byte f r 1
  have e40 : (va_up B 4 (fr8 (B 4) f r)) 4 0 = nI kd := (fr8_in (b := B 4) (f := f) (r := r) (j := 0) (by decide)).trans ek
  have e41 : (va_up B 4 (fr8 (B 4) f r)) 4 1 = nI sd := (fr8_in (b := B 4) (f := f) (r := r) (j := 1) (by decide)).trans es
  have leaf : ∀ (S1 : SS) (A1 : AA), (∀ Q : Int32 → SS → AA → Prop, (∀ (T1 : SS) (B1 : AA), Rel (n + 1) S1 A1 T1 B1 → wM_M_frame_179 Q T1 B1) → dsp Q T (va_up B 4 (fr8 (B 4) f r))) → wX_T_frame_80 P S1 A1 := by
    intro S1 A1 hd
    unfold wX_T_frame_80
    refine hP _ _ _ (fun Q hQ => hM_fill (hd Q (fun T1 B1 hr => ?_)))
    unfold wM_M_frame_179
    have e : T1 24 = S1 17 := by
      obtain ⟨_, _, _, _, _, _, c, fi, r1, r2, _⟩ := hr
      rw [r1, r2]
    rw [e]
    exact hQ _ _ hr
  have hs := h.step
  have hB : Rel n S A T (va_up B 4 (fr8 (B 4) f r)) := h
  have hsB : Rel (n + 1) S A T (va_up B 4 (fr8 (B 4) f r)) := hs
  have p33 : (kd < 48 ∨ 50 < kd) → wX_T_frame_33 P S A f r := by
    intro hk
    unfold wX_T_frame_33
    refine ⟨fun n15 => ?_, fun e15 => ?_⟩
    · refine leaf S A (fun Q hQ => dsp_ans hkd ?_ e40 e41 (fun q => absurd q (by omega)) (fun q => absurd q (by omega)) (fun q => absurd q (by omega)) (fun _ => hQ _ _ hsB))
      obtain ⟨_, _, _, _, _, hA, _⟩ := h
      rcases hA with ⟨a1, _⟩ | ⟨a1, a2, a3, a4, a5, a6, _⟩
      · exact absurd a1 n15
      · rw [a5, a6]; decide
    · obtain ⟨hF, hC, hI, hD, ⟨q1, q2, L, G, q3, q4, q5, q6, q7, q8⟩, hA, hR⟩ := h
      have hle : T 20 ≤ T 21 := by
        rcases hA with ⟨_, a2, a3⟩ | ⟨a1, _⟩
        · rw [a2, a3]; exact Int32.le_refl _
        · rw [a1] at e15; exact absurd e15 (by decide)
      have hA0 : T 20 = 0 ∧ T 21 = 0 := by
        rcases hA with ⟨_, a2, a3⟩ | ⟨a1, _⟩
        · exact ⟨a2, a3⟩
        · rw [a1] at e15; exact absurd e15 (by decide)
      have hw : T 16 ≤ T 17 ↔ L - G = 0 := by
        rw [q3, q4, pz_le (by omega) (by omega)]
        omega
      obtain ⟨nr, hnr⟩ : ∃ nr : Nat, 0 < L - G → S 9 = nI nr ∧ nr < 16 ∧ ∃ lt : Nat, lt < 16 ∧ T 18 = nI lt ∧ nr = (lt + 1) % 16 := by
        by_cases h0 : 0 < L - G
        · obtain ⟨_, _, _, lt, hlt, elt, e9⟩ := q8 (by omega)
          exact ⟨(lt + 1) % 16, fun _ => ⟨e9, Nat.mod_lt _ (by decide), lt, hlt, elt, rfl⟩⟩
        · exact ⟨0, fun q => absurd q h0⟩
      refine hX_accept (kd := kd) (sd := sd) (w := L - G) (g := G) (nr := nr) hkd hsd ek es q7 (by omega) (fun h0 => ⟨(q8 (by omega)).1, by omega, (hnr h0).1, (hnr h0).2.1⟩) (fun k1 k2 => ?_) (fun k1 k2 k3 => ?_) (fun k1 k2 k3 k4 => ?_) (fun k1 k2 k3 k4 => ?_) (fun k1 k2 k3 => ?_)
      · refine ⟨fun _ => ⟨fun q => absurd rfl q, fun _ => ?_⟩, fun q => absurd q (by decide)⟩
        have he := bytes_eq q1 q2 f r (B 4) (g := 0) (t := min (8 - 1) kd) (fr := 1) (by omega)
        refine ok_work hn (n := n) (L := kd) (T := va_up (va_up (va_up (va_up (va_up T 16 (nI kd)) 17 0) 18 0) 17 (nI (0 + min (8 - 1) (kd - 0)))) 19 0) (B := va_up (va_up B 4 (fr8 (B 4) f r)) 1 (lay (B 1) 0 (min (8 - 1) (kd - 0)) (fun i => fr8 (B 4) f r (1 + i))))
          ?_ ?_ ?_ rfl ⟨k1, by omega⟩ (by exact e15) (fun S2 A2 hok => leaf S2 A2 (fun Q hQ => ?_))
        · refine Rel.bytes (g := 0) (w := kd) (t := min (8 - 1) kd) ?_ ?_ ?_ ?_ ?_ ?_ he.1 he.2 (by show nI kd = nI (0 + kd); rw [Nat.zero_add]) rfl rfl rfl rfl rfl (by omega) (by omega) (fun q => absurd q (by omega))
          · exact hF
          · exact hC
          · exact hI
          · exact hD
          · exact hA
          · exact hR
        · show nI (0 + min (8 - 1) kd) = nI kd
          congr 1
          omega
        · show nI (0 + min (8 - 1) (kd - 0)) = nI kd
          congr 1
          omega
        · unfold dsp
          rw [e40]
          refine ⟨fun _ => ⟨fun q => absurd ((pz_lt (b := 1) (by omega) (by decide)).mp q) (by omega), fun _ => ⟨fun q => absurd ((pz_lt (a := 7) (by decide) (by omega)).mp q) (by omega), fun _ => ?_⟩⟩, fun q => absurd hle q⟩
          unfold wM_M_beginRequest
          exact hM_takeBytes (g := 0) (L := kd) (fr := 1) rfl rfl (by omega) (by omega) (by decide) (hok (fun S96 A96 => wM_M_frame_179 Q S96 A96) hQ)
      · refine ⟨fun q => absurd rfl q, fun _ => ?_⟩
        have he := bytes_eq q1 q2 f r (B 4) (g := 0) (t := min (8 - 2) sd) (fr := 2) (by omega)
        refine ok_ask (n := n) (T := va_up (va_up (va_up (va_up (va_up T 16 (nI sd)) 17 0) 18 0) 17 (nI (0 + min (8 - 2) (sd - 0)))) 19 0) (B := va_up (va_up B 4 (fr8 (B 4) f r)) 1 (lay (B 1) 0 (min (8 - 2) (sd - 0)) (fun i => fr8 (B 4) f r (2 + i))))
          ?_ (by exact e15) (fun S2 A2 hok => leaf S2 A2 (fun Q hQ => ?_))
        · refine Rel.bytes (g := 0) (w := sd) (t := min (8 - 2) sd) ?_ ?_ ?_ ?_ ?_ ?_ he.1 he.2 (by show nI sd = nI (0 + sd); rw [Nat.zero_add]) rfl rfl rfl rfl rfl (by omega) (by omega) (fun _ => ⟨0, by decide, rfl, rfl⟩)
          · exact hF
          · exact hC
          · exact hI
          · exact hD
          · exact hA
          · exact hR
        refine dsp_go hkd hle e40 (by omega) ?_
        unfold wM_M_frame_102
        rw [cl_1, e41]
        refine ⟨fun q => absurd (show nI kd = 16 by rw [k1]; rfl) q, fun _ => ⟨vl_1 (by decide) (by decide), fun q => absurd ((pz_lt (b := 8) (by omega) (by decide)).mp q) (by omega), fun _ => ⟨vl_1 (by decide) (by decide), fun q => absurd ((pz_lt (a := 34) (by decide) (by omega)).mp q) (by omega), fun _ => ⟨vl_1 (by decide) (by decide), ?_⟩⟩⟩⟩
        unfold wM_M_beginRequest
        exact hM_takeBytes (g := 0) (L := sd) (fr := 2) rfl rfl (by omega) (by omega) (by decide) (hok (fun S142 A142 => wM_M_frame_179 Q S142 A142) hQ)
      · refine ⟨fun _ => ⟨fun _ => ?_, fun q => absurd q (by decide)⟩, fun q => absurd q (by decide)⟩
        obtain ⟨_, _, lt, hlt, elt, enr⟩ := hnr k3
        refine leaf _ _ (fun Q hQ => dsp_go hkd hle e40 (by omega) (dsp_102 hkd hsd e41 (Or.inl (by omega)) (dsp_148g k1 k2 (fun q => absurd (hw.mp q) (by omega)) ?_)))
        unfold wM_M_furtherFrame wM_M_dropRequest
        have e18 : ((T 18 + (1 : Int32)) - (T 18 + (1 : Int32)) / (16 : Int32) * (16 : Int32)) = nI nr := by
          rw [elt, pz_inc, enr]
          exact pk_rem (d := 16) (by omega) (by decide) (by decide)
        rw [e18]
        refine ⟨fun q => absurd ((nI_eq (by omega) (by omega)).mp q) k4, fun _ => hQ _ _ ?_⟩
        obtain ⟨hF', hC', hI', hD', _, hA', hR'⟩ := hs
        exact ⟨hF', hC', hI', hD', ⟨q1, q2, 0, 0, rfl, rfl, Nat.le_refl _, by decide, rfl, fun q => absurd q (Nat.lt_irrefl 0)⟩, hA', hR'⟩
      · obtain ⟨e9, hnr16, lt, hlt, elt, enr⟩ := hnr k3
        have e18 : ((T 18 + (1 : Int32)) - (T 18 + (1 : Int32)) / (16 : Int32) * (16 : Int32)) = nI nr := by
          rw [elt, pz_inc, enr]
          exact pk_rem (d := 16) (by omega) (by decide) (by decide)
        have he := bytes_eq q1 q2 f r (B 4) (g := G) (t := min (8 - 1) (L - G)) (fr := 1) (by omega)
        have hrel : ∀ m : Nat, Rel m S A T B → Rel m (va_up (va_up (va_up (va_up S 9 (nI ((nr + 1) % 16))) 10 0) 7 (nI (G + min (8 - 1) (L - G)))) 8 (nI (L - G - min (8 - 1) (L - G)))) (va_up A 1 (lay (A 1) G (min (8 - 1) (L - G)) (fun i => frb f r (1 + i)))) (va_up (va_up (va_up T 18 (nI nr)) 17 (nI (G + min (8 - 1) (L - G)))) 19 0) (va_up (va_up B 4 (fr8 (B 4) f r)) 1 (lay (B 1) G (min (8 - 1) (L - G)) (fun i => fr8 (B 4) f r (1 + i)))) := by
          intro m hm
          obtain ⟨hF', hC', hI', hD', _, hA', hR'⟩ := hm
          exact Rel.bytes (g := G) (w := L - G) (t := min (8 - 1) (L - G)) hF' hC' hI' hD' hA' hR' he.1 he.2 (by show T 16 = _; rw [q3]; congr 1; omega) rfl rfl rfl rfl rfl (by omega) (by omega) (fun _ => ⟨nr, hnr16, rfl, rfl⟩)
        have hAA : Rel n S A T B := ⟨hF, hC, hI, hD, ⟨q1, q2, L, G, q3, q4, q5, q6, q7, q8⟩, hA, hR⟩
        -- what the reference does with it
        have ref : ∀ (Q : Int32 → SS → AA → Prop), wM_M_takeBytes (fun S28 A28 => ((¬ (S28 17) = (S28 16) → ((¬ ((S28 18) - (S28 18) / (2 : Int32) * (2 : Int32)) = 0 → (wM_M_frame_179 Q S28 A28)) ∧ (((S28 18) - (S28 18) / (2 : Int32) * (2 : Int32)) = 0 → (wM_M_askMore (fun S59 A59 => (wM_M_frame_179 Q S59 A59)) S28 A28)))) ∧ ((S28 17) = (S28 16) → (wM_M_complete (fun S43 A43 => (wM_M_frame_179 Q S43 A43)) S28 A28)))) (va_up T 18 (nI nr)) (va_up B 4 (fr8 (B 4) f r)) (1 : Int32) → dsp Q T (va_up B 4 (fr8 (B 4) f r)) := by
          intro Q ht
          refine dsp_go hkd hle e40 (by omega) (dsp_102 hkd hsd e41 (Or.inl (by omega)) (dsp_148g k1 k2 (fun q => absurd (hw.mp q) (by omega)) ?_))
          unfold wM_M_furtherFrame
          rw [e18]
          exact ⟨fun _ => ht, fun q => absurd (by rw [k4]) q⟩
        have e18r : (nI nr - nI nr / (2 : Int32) * (2 : Int32)) = nI (nr % 2) := pk_rem (d := 2) (by omega) (by decide) (by decide)
        have e17 : (nI (G + min (8 - 1) (L - G)) = T 16) ↔ L - G ≤ 7 := by
          rw [q3, nI_eq (by omega) (by omega)]
          omega
        refine ⟨fun k7 => ⟨fun _ => ⟨fun q => absurd rfl q, fun _ => ?_⟩, fun q => absurd q (by decide)⟩, fun k7 ke => ⟨fun q => absurd rfl q, fun _ => ?_⟩, fun k7 ke => ⟨fun _ => ⟨fun _ => ?_, fun q => absurd q (by decide)⟩, fun q => absurd q (by decide)⟩⟩
        · refine ok_work hn (n := n) (L := L) (hrel n hAA) ?_ ?_ q3 ⟨by omega, q6⟩ e15 (fun S2 A2 hok => leaf S2 A2 (fun Q hQ => ref Q ?_))
          · show nI (G + min (8 - 1) (L - G)) = nI L
            congr 1
            omega
          · show nI (G + min (8 - 1) (L - G)) = nI L
            congr 1
            omega
          · refine hM_takeBytes (g := G) (L := L) (fr := 1) q4 q3 q5 q6 (by decide) ⟨fun q => absurd (e17.mpr k7) q, fun _ => hok (fun S43 A43 => wM_M_frame_179 Q S43 A43) hQ⟩
        · refine ok_ask (n := n) (hrel n hAA) e15 (fun S2 A2 hok => leaf S2 A2 (fun Q hQ => ref Q ?_))
          refine hM_takeBytes (g := G) (L := L) (fr := 1) q4 q3 q5 q6 (by decide) ⟨fun _ => ⟨fun q => absurd (show (nI nr - nI nr / (2 : Int32) * (2 : Int32)) = 0 by rw [e18r, ke]; rfl) q, fun _ => hok (fun S59 A59 => wM_M_frame_179 Q S59 A59) hQ⟩, fun q => absurd (e17.mp q) (by omega)⟩
        · refine leaf _ _ (fun Q hQ => ref Q ?_)
          refine hM_takeBytes (g := G) (L := L) (fr := 1) q4 q3 q5 q6 (by decide) ⟨fun _ => ⟨fun _ => hQ _ _ (hrel (n + 1) hs), fun q => ?_⟩, fun q => absurd (e17.mp q) (by omega)⟩
          have q' : (nI nr - nI nr / (2 : Int32) * (2 : Int32)) = 0 := q
          rw [e18r] at q'
          exact absurd ((nI_eq (b := 0) (by omega) (by decide)).mp q') ke
      · refine ⟨fun _ => ⟨fun _ => ?_, fun q => absurd q (by decide)⟩, fun q => absurd q (by decide)⟩
        refine leaf S A (fun Q hQ => dsp_idle hkd hsd hle e40 e41 k1 k2 ?_ (hQ _ _ hsB))
        rcases k3 with k3 | k3 | k3
        · exact Or.inl k3
        · exact Or.inr (Or.inl k3)
        · exact Or.inr (Or.inr (hw.mpr k3))
  have p48 : 48 ≤ kd → kd ≤ 50 → wX_T_steerAnswer (fun S27 A27 => (wX_T_frame_80 P S27 A27)) S A (nI kd) (nI sd) := by
    intro k1 k2
    unfold wX_T_steerAnswer
    refine ⟨fun n15 => ?_, fun e15 => ?_⟩
    · have hA := h.2.2.2.2.2.1
      rcases hA with ⟨a1, _⟩ | ⟨a1, a2, a3, a4, a5, a6, a7, a8, a9, a10⟩
      · exact absurd a1 n15
      have hle : ¬ T 20 ≤ T 21 := by rw [a5, a6]; decide
      obtain ⟨hF', hC', hI', hD', hQ', hA', hR'⟩ := hs
      refine ⟨fun h48 => ⟨fun h49 => ?_, fun h49 => ?_⟩, fun h48 => ?_⟩
      · have n1 : ¬ kd = 48 := fun q => h48 (by rw [q]; rfl)
        have n2 : ¬ kd = 49 := fun q => h49 (by rw [q]; rfl)
        unfold wX_Sd_drop
        exact leaf _ _ (fun Q hQ => dsp_ans hkd hle e40 e41 (fun q => absurd q n1) (fun q => absurd q n2) (fun _ => hQ _ _ ⟨hF', hC', hI', hD', hQ', Or.inl ⟨rfl, rfl, rfl⟩, hR'⟩) (fun q => absurd ⟨k1, k2⟩ q))
      · have n1 : kd = 49 := (nI_eq (b := 49) (by omega) (by decide)).mp h49
        unfold wX_Sd_waitAnew
        exact leaf _ _ (fun Q hQ => dsp_ans hkd hle e40 e41 (fun q => absurd q (by omega)) (fun _ => hQ _ _ ⟨hF', hC', hI', hD', hQ', Or.inr ⟨a1, a2, a3, a4, a5, a6, a7, rfl, ⟨0, by decide, rfl⟩, a10⟩, hR'⟩) (fun q => absurd q (by omega)) (fun q => absurd ⟨k1, k2⟩ q))
      · have n1 : kd = 48 := (nI_eq (b := 48) (by omega) (by decide)).mp h48
        refine ok_goOn (n := n) hB n15 hsd (fun S2 A2 hok => leaf S2 A2 (fun Q hQ => dsp_ans hkd hle e40 e41 (fun _ => hok (fun S18 A18 => wM_M_frame_179 Q S18 A18) hQ) (fun q => absurd q (by omega)) (fun q => absurd q (by omega)) (fun q => absurd ⟨k1, k2⟩ q)))
    · refine leaf S A (fun Q hQ => dsp_idle hkd hsd ?_ e40 e41 (by omega) (Or.inl (by omega)) (by omega) (hQ _ _ hsB))
      have hA := h.2.2.2.2.2.1
      rcases hA with ⟨_, a2, a3⟩ | ⟨a1, _⟩
      · rw [a2, a3]; exact Int32.le_refl _
      · rw [a1] at e15; exact absurd e15 (by decide)
  unfold wX_T_frame
  refine hX_byteOf (j := 0) (by decide) ⟨fun h1 => p33 (Or.inl ?_), fun h1 => ⟨fun h2 => p33 (Or.inr ?_), fun h2 => hX_byteOf (j := 1) (by decide) ?_⟩⟩
  · rw [ek] at h1; exact (pz_lt (b := 48) (by omega) (by decide)).mp h1
  · rw [ek] at h2; exact (pz_lt (a := 50) (by decide) (by omega)).mp h2
  · rw [ek] at h1 h2
    show wX_T_steerAnswer (fun S27 A27 => (wX_T_frame_80 P S27 A27)) S A (frb f r 0) (frb f r 1)
    rw [ek, es]
    exact p48 (Nat.le_of_not_lt (fun q => h1 ((pz_lt (b := 48) (by omega) (by decide)).mpr q))) (Nat.le_of_not_lt (fun q => h2 ((pz_lt (a := 50) (by decide) (by omega)).mpr q)))
/-! the start, and the law's loop -/
def f0 (k : Nat) : Nat → Int32 := fun i => if i < k then (if i < 32 then nI i else 255) else 0
theorem f0_0 : f0 0 = fun _ => (0 : Int32) := by
  funext i
  exact if_neg (Nat.not_lt_zero i)
theorem f0_s {k : Nat} {v : Int32} (hv : v = if k < 32 then nI k else 255) : upd (f0 k) k v = f0 (k + 1) := by
  funext i
  unfold upd f0
  by_cases h : i = k
  · subst h
    rw [if_pos rfl, if_pos (by omega), hv]
  · rw [if_neg h]
    by_cases h2 : i < k
    · rw [if_pos h2, if_pos (show i < k + 1 by omega)]
    · rw [if_neg h2, if_neg (by omega)]
theorem by8_f0 (k : Nat) : by8 (f0 k) := by
  intro i
  unfold f0
  split
  · split
    · exact ⟨i, by omega, rfl⟩
    · exact ⟨255, by decide, rfl⟩
  · exact ⟨0, by decide, rfl⟩
def f1 (m : Nat) : Nat → Int32 := upd (upd (upd (upd (f0 96) 32 0) 33 1) 34 (nI (m / 256))) 35 (nI (m % 256))
theorem by8_f1 {m : Nat} (hm : m < 65536) : by8 (f1 m) := by8_upd (by8_upd (by8_upd (by8_upd (by8_f0 96) (b := 0) (by decide) rfl) (b := 1) (by decide) rfl) (b := m / 256) (by omega) rfl) (b := m % 256) (by omega) rfl
theorem cl_32 : (32 : Int32).toNatClampNeg = 32 := by decide
theorem cl_33 : (33 : Int32).toNatClampNeg = 33 := by decide
theorem cl_34 : (34 : Int32).toNatClampNeg = 34 := by decide
theorem cl_35 : (35 : Int32).toNatClampNeg = 35 := by decide
theorem hN_init {post : SS → AA → Prop} (hp : ∀ m : Nat, m < 65536 → sumF (f0 96) 0 32 = nI m → post (fun _ => 0) (va_up (fun _ _ => 0) 0 (f1 m))) : wN_Mm_init post (fun _ => 0) (fun _ _ => 0) := by
  unfold wN_Mm_init wN_Mm_init_14
  intro X hX
  have key : ∀ d k : Nat, k + d = 96 → X (fun _ => 0) (va_up (fun _ _ => 0) 0 (f0 k)) (nI k) := by
    intro d
    induction d with
    | zero =>
      intro k hk
      have hk : k = 96 := by omega
      subst hk
      apply hX
      unfold wN_Mm_init_14B
      refine ⟨fun _ => ?_, fun q => absurd (show (96 : Int32) ≤ nI 96 from Int32.le_refl _) q⟩
      refine hN_sumOf (s0 := 0) (by8_f0 96) (by decide) ?_
      obtain ⟨m, hm, em⟩ := sumF_in (by8_f0 96) 0 32
      have em' : sumF ((va_up (fun _ _ => (0 : Int32)) 0 (f0 96)) 0) (48 * 0) 32 = nI m := em
      rw [em']
      unfold wN_Mm_headerOf
      show vp_in ((0 : Int32) * (48 : Int32) + (32 : Int32)) 96 ∧ _
      have h8 : ((nI m).toUInt32 >>> ((8 : Int32).toUInt32 &&& Int32.toUInt32 31)).toInt32 = nI (m / 256) := pk_ushrN (by omega) 8 8 (by decide +kernel)
      have h25 : nI m &&& (255 : Int32) = nI (m % 256) := pk_andN (by omega) 8 (by decide +kernel)
      rw [show ((0 : Int32) * (48 : Int32)) + (32 : Int32) = 32 by decide, show (32 : Int32) + 1 = 33 by decide, show (32 : Int32) + 2 = 34 by decide, show (32 : Int32) + 3 = 35 by decide, cl_32, cl_33, cl_34, cl_35, h8, h25, pz_upup, pz_upup, pz_upup, pz_upup]
      exact ⟨vp_in_nI (n := 32) (by decide) (by decide), vp_in_nI (n := 33) (by decide) (by decide), vp_in_nI (n := 34) (by decide) (by decide), vp_in_nI (n := 35) (by decide) (by decide), hp m hm em⟩
    | succ d ih =>
      intro k hk
      apply hX
      unfold wN_Mm_init_14B wN_Mm_init_38
      have e0 : (va_up (fun _ _ => (0 : Int32)) 0 (f0 k)) 0 = f0 k := rfl
      have h2 := ih (k + 1) (by omega)
      rw [e0, nI_clamp (n := k) (by omega), pz_upup, pz_upup, pz_inc]
      refine ⟨fun q => absurd q (nI_ge (b := 96) (by omega) (by decide)), fun _ => ⟨fun h => ⟨vp_in_nI (by omega) (by decide), ?_⟩, fun h => ⟨vp_in_nI (by omega) (by decide), ?_⟩⟩⟩
      · have h32 : 32 ≤ k := (pz_le (a := 32) (by decide) (by omega)).mp h
        rw [f0_s (by rw [if_neg (by omega)])]
        exact h2
      · have h32 : k < 32 := Nat.lt_of_not_le (fun q => h (nI_le (a := 32) q (by omega)))
        rw [f0_s (by rw [if_pos h32])]
        exact h2
  have h2 := key 96 0 rfl
  rw [f0_0, show va_up (fun _ _ => (0 : Int32)) 0 (fun _ => (0 : Int32)) = (fun _ _ => (0 : Int32)) from pz_up (fun _ _ => (0 : Int32)) 0] at h2
  exact h2
theorem hM_init {post : SS → AA → Prop} {T : SS} (hp : ∀ m : Nat, m < 65536 → sumF (f0 96) 0 32 = nI m → post (va_up (btM T (best (f1 m))) 24 0) (va_up (fun _ _ => 0) 0 (f1 m))) : wM_M_init post T (fun _ _ => 0) := by
  unfold wM_M_init wM_M_init_51
  intro X hX
  have key : ∀ d k : Nat, k + d = 96 → X T (va_up (fun _ _ => 0) 0 (f0 k)) (nI k) := by
    intro d
    induction d with
    | zero =>
      intro k hk
      have hk : k = 96 := by omega
      subst hk
      apply hX
      unfold wM_M_init_51B
      refine ⟨fun _ => ?_, fun q => absurd (show (96 : Int32) ≤ nI 96 from Int32.le_refl _) q⟩
      refine hM_sumOf (s0 := 0) (by decide) ?_
      obtain ⟨m, hm, em⟩ := sumF_in (by8_f0 96) 0 32
      have em' : sumF ((va_up (fun _ _ => (0 : Int32)) 0 (f0 96)) 0) (48 * 0) 32 = nI m := em
      rw [em']
      have ed : nI m / (256 : Int32) = nI (m / 256) := pk_div (d := 256) (by omega) (by decide) (by decide)
      have er : nI m - nI m / (256 : Int32) * (256 : Int32) = nI (m % 256) := pk_rem (d := 256) (by omega) (by decide) (by decide)
      rw [er, ed, cl_32, cl_33, cl_34, cl_35, pz_upup, pz_upup, pz_upup, pz_upup]
      refine ⟨vp_in_nI (n := 32) (by decide) (by decide), vp_in_nI (n := 33) (by decide) (by decide), vp_in_nI (n := 34) (by decide) (by decide), vp_in_nI (n := 35) (by decide) (by decide), ?_⟩
      exact hM_boot (by8_f1 hm) (hp m hm em)
    | succ d ih =>
      intro k hk
      apply hX
      unfold wM_M_init_51B wM_M_init_75
      have e0 : (va_up (fun _ _ => (0 : Int32)) 0 (f0 k)) 0 = f0 k := rfl
      have h2 := ih (k + 1) (by omega)
      rw [e0, nI_clamp (n := k) (by omega), pz_upup, pz_upup, pz_inc]
      refine ⟨fun q => absurd q (nI_ge (b := 96) (by omega) (by decide)), fun _ => ⟨fun h => ⟨vp_in_nI (by omega) (by decide), ?_⟩, fun h => ⟨vp_in_nI (by omega) (by decide), ?_⟩⟩⟩
      · have h32 : 32 ≤ k := (pz_le (a := 32) (by decide) (by omega)).mp h
        rw [f0_s (by rw [if_neg (by omega)])]
        exact h2
      · have h32 : k < 32 := Nat.lt_of_not_le (fun q => h (nI_le (a := 32) q (by omega)))
        rw [f0_s (by rw [if_pos h32])]
        exact h2
  have h2 := key 96 0 rfl
  rw [f0_0, show va_up (fun _ _ => (0 : Int32)) 0 (fun _ => (0 : Int32)) = (fun _ _ => (0 : Int32)) from pz_up (fun _ _ => (0 : Int32)) 0] at h2
  exact h2
theorem law_ok {L : Nat} {xs : Nat → Int32} (hL : L ≤ 1536) {S : SS} {A : AA} {T : SS} {B : AA} (h : Rel 0 S A T B) : wL_law L xs S A T B := by
  unfold wL_law wL_law_18
  intro X hX
  have key : ∀ d j : Nat, j + d = L / 3 → ∀ (S : SS) (A : AA) (T : SS) (B : AA), Rel j S A T B → X S A T B (nI (3 * j)) := by
    intro d
    induction d with
    | zero =>
      intro j hj S A T B _
      apply hX
      unfold wL_law_18B
      refine ⟨fun _ => rfl, fun q => absurd ?_ q⟩
      rw [Int32.lt_iff_toInt_lt, show (Int32.ofNat L - 3).toInt = (L : Int) - (3 : Nat) from pk_sub_toInt (a := L) (b := 3) (by omega) (by decide), nI_toInt (by omega)]
      omega
    | succ d ih =>
      intro j hj S A T B h
      have hn : j < 2 ^ 20 := by omega
      apply hX
      unfold wL_law_18B
      have e1 : nI (3 * j) + (1 : Int32) = nI (3 * j + 1) := nI_add _ 1
      have e2 : nI (3 * j) + (2 : Int32) = nI (3 * j + 2) := nI_add _ 2
      rw [e1, e2]
      have nxt : ∀ (S : SS) (A : AA) (T : SS) (B : AA), Rel (j + 1) S A T B → wL_law_265 L xs X S A T B (nI (3 * j)) := by
        intro S A T B hr
        unfold wL_law_265
        rw [show nI (3 * j) + (3 : Int32) = nI (3 * (j + 1)) from nI_add (3 * j) 3]
        exact ih (j + 1) (by omega) S A T B hr
      have i0 : vp_in (nI (3 * j)) L := vp_in_nI (by omega) (by omega)
      have i1 : vp_in (nI (3 * j + 1)) L := vp_in_nI (by omega) (by omega)
      have i2 : vp_in (nI (3 * j + 2)) L := vp_in_nI (by omega) (by omega)
      refine ⟨fun _ => rfl, fun _ => ⟨i0, fun _ => ⟨i1, i2, ?_⟩, fun _ => ⟨fun _ => ⟨i1, ?_⟩, fun _ => ⟨fun _ => ?_, fun _ => ⟨fun _ => ?_, fun _ => ⟨fun _ => ⟨i1, ?_⟩, fun _ => ⟨fun _ => ?_, fun _ => ⟨fun _ => ⟨i1, ?_⟩, fun _ => ⟨fun _ => ⟨i1, ?_⟩, fun _ => ⟨fun _ => ⟨i1, ?_⟩, fun _ => nxt S A T B h.step⟩⟩⟩⟩⟩⟩⟩⟩⟩⟩
      · exact ok_frame hn h (fun r1 S1 A1 hok => ⟨i1, i2, hok _ (fun T1 B1 hr => br_t rfl (nxt S1 A1 T1 B1 hr))⟩)
      · exact ok_peek h (fun r1 S1 A1 hok => ⟨i1, hok _ (fun T1 B1 hr => br_t rfl (nxt S1 A1 T1 B1 hr))⟩)
      · exact ok_take h (fun r1 S1 A1 hok => hok _ (fun T1 B1 hr => br_t rfl (nxt S1 A1 T1 B1 hr)))
      · exact ok_tick hn h (fun S1 A1 hok => hok _ (fun T1 B1 hr => nxt S1 A1 T1 B1 hr))
      · exact ok_cut h (fun S1 A1 hok => ⟨i1, hok _ (fun T1 B1 hr => nxt S1 A1 T1 B1 hr)⟩)
      · exact ok_restart h (fun S1 A1 hok => hok _ (fun T1 B1 hr => nxt S1 A1 T1 B1 hr))
      · exact ok_flash h (fun r1 S1 A1 hok => ⟨i1, hok _ (fun T1 B1 hr => br_t rfl (nxt S1 A1 T1 B1 hr))⟩)
      · exact ok_word h (fun r1 S1 A1 hok => ⟨i1, hok _ (fun T1 B1 hr => br_t rfl (nxt S1 A1 T1 B1 hr))⟩)
      · exact ok_state h (fun r1 S1 A1 hok => ⟨i1, hok _ (fun T1 B1 hr => br_t rfl (nxt S1 A1 T1 B1 hr))⟩)
  exact key (L / 3) 0 (by omega) S A T B h
theorem tl_pure (L : Nat) (xs : Nat → Int32) (hL : L ≤ 1536) : wN_Mm_init (fun S A => wX_T_init (fun S1 A1 => wM_M_init (fun T B => wL_law L xs S1 A1 T B) (fun i => if i = 12 then (-1 : Int32) else 0) (fun _ _ => 0)) (tl_S0 S) (tl_A0 A)) (fun _ => 0) (fun _ _ => 0) := by
  refine hN_init (fun m hm em => ?_)
  unfold wX_T_init
  refine hX_boot (by8_f1 hm) ?_
  refine hM_init (fun m2 hm2 em2 => ?_)
  have e : m2 = m := (nI_eq (by omega) (by omega)).mp (em2.symm.trans em)
  subst e
  refine law_ok hL ?_
  have hb := Rel.boot (n := 0) (S := tl_S0 (fun _ => 0)) (A := tl_A0 (va_up (fun _ _ => 0) 0 (f1 m2))) (T := fun i => if i = 12 then (-1 : Int32) else 0) (B := va_up (fun _ _ => 0) 0 (f1 m2)) ⟨rfl, by8_f1 hm, rfl, rfl, Or.inl rfl⟩ ⟨rfl, 0, Nat.le_refl _, rfl⟩ ⟨0, Nat.le_refl _, rfl⟩ ⟨rfl, fun _ => ⟨0, by decide, rfl⟩⟩ ⟨0, 0, rfl, rfl, by decide, rfl, by decide, fun j hj => absurd hj (Nat.not_lt_zero j)⟩
  obtain ⟨hF, hC, hI, hD, hQ, hA, hR⟩ := hb
  exact ⟨hF, hC, hI, hD, hQ, hA, 0, 0, rfl, rfl, by decide, rfl, by decide, fun j hj => absurd hj (Nat.not_lt_zero j)⟩
end
