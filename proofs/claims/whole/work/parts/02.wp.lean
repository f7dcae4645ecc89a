def wX_T_byteOf_10 (post : Int32 → SS → AA → Prop) (S : SS) (A : AA) (x2 y0 : Int32) : Prop :=
  (post ((y0.toUInt32 >>> (((24 : Int32) - ((8 : Int32) * (x2 &&& (3 : Int32)))).toUInt32 &&& Int32.toUInt32 31)).toInt32 &&& (255 : Int32)) S A)
def wX_T_byteOf (post : Int32 → SS → AA → Prop) (S : SS) (A : AA) (x0 x1 x2 : Int32) : Prop :=
  (((4 : Int32) ≤ x2 → (wX_T_byteOf_10 post S A x2 x1)) ∧ (¬ (4 : Int32) ≤ x2 → (wX_T_byteOf_10 post S A x2 x0)))
def wX_Rc_add_8B (post : SS → AA → Prop) (X8 : SS → AA → Int32 → Int32 → Int32 → Prop) (S : SS) (A : AA) (x1 x2 x4 : Int32) : Prop :=
  (((8 : Int32) ≤ x4 → (post S A)) ∧ (¬ (8 : Int32) ≤ x4 → (((S 8) ≤ 0 → (post S A)) ∧ (¬ (S 8) ≤ 0 → (((34 : Int32) ≤ (S 7) → (post S A)) ∧ (¬ (34 : Int32) ≤ (S 7) → (wX_T_byteOf (fun r43 S43 A43 => (vp_in (S 7) 34 ∧ (X8 (va_up (va_up S43 7 ((S43 7) + (1 : Int32))) 8 ((S43 8) - (1 : Int32))) (va_up A43 1 (upd (A43 1) (S 7).toNatClampNeg r43)) x1 x2 (x4 + (1 : Int32))))) S A x1 x2 x4)))))))
def wX_Rc_add_8 (post : SS → AA → Prop) (S : SS) (A : AA) (x1 x2 x4 : Int32) : Prop :=
  ∀ X8 : SS → AA → Int32 → Int32 → Int32 → Prop, (∀ (S : SS) (A : AA) (x1 x2 x4 : Int32), wX_Rc_add_8B post X8 S A x1 x2 x4 → X8 S A x1 x2 x4) → X8 S A x1 x2 x4
def wX_Rc_add (post : SS → AA → Prop) (S : SS) (A : AA) (x1 x2 x3 : Int32) : Prop :=
  (wX_Rc_add_8 post (va_up S 10 (0 : Int32)) A x1 x2 x3)
def wX_Rc_drop (post : SS → AA → Prop) (S : SS) (A : AA) : Prop :=
  (post (va_up (va_up S 7 (0 : Int32)) 8 (0 : Int32)) A)
def wX_Rc_acceptNext_36 (post : Int32 → SS → AA → Prop) (S : SS) (A : AA) (x1 x2 y0 : Int32) : Prop :=
  (wX_Rc_add (fun S54 A54 => ((¬ (S54 8) = 0 → ((y0 = 0 → (post (0 : Int32) S54 A54)) ∧ (¬ y0 = 0 → (post (1 : Int32) S54 A54)))) ∧ ((S54 8) = 0 → (post (2 : Int32) S54 A54)))) (va_up S 9 (((S 9) + (1 : Int32)) - ((S 9) + (1 : Int32)) / (16 : Int32) * (16 : Int32))) A x1 x2 (1 : Int32))
def wX_Rc_acceptNext (post : Int32 → SS → AA → Prop) (S : SS) (A : AA) (x1 x2 : Int32) : Prop :=
  (wX_T_byteOf (fun r3 S3 A3 => (((r3 - (32 : Int32)) = (S3 9) → ((¬ ((S3 9) - (S3 9) / (2 : Int32) * (2 : Int32)) = 0 → (wX_Rc_acceptNext_36 post S3 A3 x1 x2 (0 : Int32))) ∧ (((S3 9) - (S3 9) / (2 : Int32) * (2 : Int32)) = 0 → (wX_Rc_acceptNext_36 post S3 A3 x1 x2 (1 : Int32))))) ∧ (¬ (r3 - (32 : Int32)) = (S3 9) → (wX_Rc_drop (fun S17 A17 => (post (0 : Int32) S17 A17)) S3 A3)))) S A x1 x2 (0 : Int32))
def wX_Rc_begin (post : SS → AA → Prop) (S : SS) (A : AA) (x1 : Int32) : Prop :=
  (post (va_up (va_up (va_up S 7 (0 : Int32)) 8 x1) 9 (1 : Int32)) A)
def wX_Rc_accept_75 (post : Int32 → SS → AA → Prop) (S : SS) (A : AA) (x1 x2 x3 : Int32) : Prop :=
  ((x3 < (32 : Int32) → (post (0 : Int32) S A)) ∧ (¬ x3 < (32 : Int32) → (((48 : Int32) ≤ x3 → (post (0 : Int32) S A)) ∧ (¬ (48 : Int32) ≤ x3 → (((S 8) ≤ 0 → (post (0 : Int32) S A)) ∧ (¬ (S 8) ≤ 0 → (wX_Rc_acceptNext (fun r97 S97 A97 => (post r97 S97 A97)) S A x1 x2)))))))
def wX_Rc_accept_32 (post : Int32 → SS → AA → Prop) (S : SS) (A : AA) (x1 x2 x3 : Int32) : Prop :=
  (wX_T_byteOf (fun r35 S35 A35 => ((¬ x3 = (16 : Int32) → (wX_Rc_accept_75 post S35 A35 x1 x2 x3)) ∧ (x3 = (16 : Int32) → ((r35 < (8 : Int32) → (wX_Rc_accept_75 post S35 A35 x1 x2 x3)) ∧ (¬ r35 < (8 : Int32) → (((34 : Int32) < r35 → (wX_Rc_accept_75 post S35 A35 x1 x2 x3)) ∧ (¬ (34 : Int32) < r35 → (wX_Rc_begin (fun S63 A63 => (wX_Rc_add (fun S70 A70 => (post (1 : Int32) S70 A70)) S63 A63 x1 x2 (2 : Int32))) S35 A35 r35)))))))) S A x1 x2 (1 : Int32))
def wX_Rc_accept (post : Int32 → SS → AA → Prop) (S : SS) (A : AA) (x1 x2 : Int32) : Prop :=
  (wX_T_byteOf (fun r3 S3 A3 => ((r3 < (1 : Int32) → (wX_Rc_accept_32 post S3 A3 x1 x2 r3)) ∧ (¬ r3 < (1 : Int32) → (((7 : Int32) < r3 → (wX_Rc_accept_32 post S3 A3 x1 x2 r3)) ∧ (¬ (7 : Int32) < r3 → (wX_Rc_begin (fun S20 A20 => (wX_Rc_add (fun S27 A27 => (post (2 : Int32) S27 A27)) S20 A20 x1 x2 (1 : Int32))) S3 A3 r3)))))) S A x1 x2 (0 : Int32))
def wX_Rw_put_9_35B (post : SS → AA → Prop) (X35 : SS → AA → Int32 → Int32 → Prop) (S : SS) (A : AA) (x2 x3 : Int32) : Prop :=
  (((8 : Int32) ≤ x3 → (post (va_up S 17 ((S 17) + (1 : Int32))) A)) ∧ (¬ (8 : Int32) ≤ x3 → (vp_in x3 8 ∧ (vp_in (x2 + x3) 96 ∧ (X35 S (va_up A 2 (upd (A 2) (x2 + x3).toNatClampNeg ((A 4) x3.toNatClampNeg))) x2 (x3 + (1 : Int32)))))))
def wX_Rw_put_9_35 (post : SS → AA → Prop) (S : SS) (A : AA) (x2 x3 : Int32) : Prop :=
  ∀ X35 : SS → AA → Int32 → Int32 → Prop, (∀ (S : SS) (A : AA) (x2 x3 : Int32), wX_Rw_put_9_35B post X35 S A x2 x3 → X35 S A x2 x3) → X35 S A x2 x3
def wX_Rw_put_9 (post : SS → AA → Prop) (S : SS) (A : AA) : Prop :=
  (((S 17) = (12 : Int32) → (post S A)) ∧ (¬ (S 17) = (12 : Int32) → (wX_Rw_put_9_35 post S A ((((S 16) + (S 17)) - ((S 16) + (S 17)) / (12 : Int32) * (12 : Int32)) * (8 : Int32)) (0 : Int32))))
def wX_Sd_putFrom_71 (post : SS → AA → Prop) (X2 : SS → AA → Int32 → Prop) (S : SS) (A : AA) (x2 y0 y1 : Int32) : Prop :=
  (X2 (va_up S 12 (y1 + y0)) A (x2 + (1 : Int32)))
def wX_Sd_putFrom_56 (post : SS → AA → Prop) (X2 : SS → AA → Int32 → Prop) (S : SS) (A : AA) (x2 x3 y0 y1 : Int32) : Prop :=
  (vp_in y1 8 ∧ ((x3 = 0 → (wX_Sd_putFrom_71 post X2 S (va_up A 4 (upd (A 4) y1.toNatClampNeg y0)) x2 (0 : Int32) (S 12))) ∧ (¬ x3 = 0 → (wX_Sd_putFrom_71 post X2 S (va_up A 4 (upd (A 4) y1.toNatClampNeg y0)) x2 (1 : Int32) (S 12)))))
def wX_Sd_putFrom_33 (post : SS → AA → Prop) (X2 : SS → AA → Int32 → Prop) (S : SS) (A : AA) (x2 y0 : Int32) : Prop :=
  ((y0 = 0 → (wX_Sd_putFrom_56 post X2 S A x2 y0 (0 : Int32) x2)) ∧ (¬ y0 = 0 → (vp_in (S 12) 10 ∧ (wX_Sd_putFrom_56 post X2 S A x2 y0 ((A 3) (S 12).toNatClampNeg) x2))))
def wX_Sd_putFrom_32 (post : SS → AA → Prop) (X2 : SS → AA → Int32 → Prop) (S : SS) (A : AA) (x2 : Int32) : Prop :=
  (wX_Sd_putFrom_33 post X2 S A x2 (0 : Int32))
def wX_Sd_putFrom_2B (post : SS → AA → Prop) (X2 : SS → AA → Int32 → Prop) (S : SS) (A : AA) (x2 : Int32) : Prop :=
  (((8 : Int32) ≤ x2 → (wX_Rw_put_9 (fun S89 A89 => (post S89 A89)) S A)) ∧ (¬ (8 : Int32) ≤ x2 → (((S 11) ≤ (S 12) → (wX_Sd_putFrom_32 post X2 S A x2)) ∧ (¬ (S 11) ≤ (S 12) → (((10 : Int32) ≤ (S 12) → (wX_Sd_putFrom_32 post X2 S A x2)) ∧ (¬ (10 : Int32) ≤ (S 12) → (wX_Sd_putFrom_33 post X2 S A x2 (1 : Int32))))))))
def wX_Sd_putFrom_2 (post : SS → AA → Prop) (S : SS) (A : AA) (x2 : Int32) : Prop :=
  ∀ X2 : SS → AA → Int32 → Prop, (∀ (S : SS) (A : AA) (x2 : Int32), wX_Sd_putFrom_2B post X2 S A x2 → X2 S A x2) → X2 S A x2
def wX_Sd_putFrom (post : SS → AA → Prop) (S : SS) (A : AA) (x1 : Int32) : Prop :=
  (wX_Sd_putFrom_2 post S A x1)
def wX_Sd_askForMore (post : SS → AA → Prop) (S : SS) (A : AA) : Prop :=
  (vp_in (0 : Int32) 8 ∧ (vp_in (1 : Int32) 8 ∧ (wX_Sd_putFrom (fun S27 A27 => (post S27 A27)) (va_up (va_up S 12 (0 : Int32)) 11 (0 : Int32)) (va_up (va_up A 4 (upd (A 4) (0 : Int32).toNatClampNeg (48 : Int32))) 4 (upd (upd (A 4) (0 : Int32).toNatClampNeg (48 : Int32)) (1 : Int32).toNatClampNeg (2 : Int32))) (2 : Int32))))
def wX_Sd_drop (post : SS → AA → Prop) (S : SS) (A : AA) : Prop :=
  (post (va_up S 15 (0 : Int32)) A)
def wX_Sd_goOn_83 (post : SS → AA → Prop) (S : SS) (A : AA) (y0 : Int32) : Prop :=
  (tl_z y0 ∧ (post (va_up (va_up S 15 y0) 14 (0 : Int32)) A))
def wX_Sd_goOn_66 (post : SS → AA → Prop) (S : SS) (A : AA) : Prop :=
  (((S 11) ≤ (S 12) → (wX_Sd_goOn_83 post S A (0 : Int32))) ∧ (¬ (S 11) ≤ (S 12) → (wX_Sd_goOn_83 post S A (1 : Int32))))
def wX_Sd_goOn_13B (post : SS → AA → Prop) (X13 : SS → AA → Int32 → Int32 → Prop) (S : SS) (A : AA) (x2 x3 : Int32) : Prop :=
  ((x2 ≤ x3 → (wX_Sd_goOn_66 post S A)) ∧ (¬ x2 ≤ x3 → (((S 11) ≤ (S 12) → (wX_Sd_goOn_66 post S A)) ∧ (¬ (S 11) ≤ (S 12) → (vp_in (0 : Int32) 8 ∧ (wX_Sd_putFrom (fun S57 A57 => (X13 S57 A57 x2 (x3 + (1 : Int32)))) (va_up S 13 (((S 13) + (1 : Int32)) - ((S 13) + (1 : Int32)) / (16 : Int32) * (16 : Int32))) (va_up A 4 (upd (A 4) (0 : Int32).toNatClampNeg ((32 : Int32) + (S 13)))) (1 : Int32)))))))
def wX_Sd_goOn_13 (post : SS → AA → Prop) (S : SS) (A : AA) (x2 x3 : Int32) : Prop :=
  ∀ X13 : SS → AA → Int32 → Int32 → Prop, (∀ (S : SS) (A : AA) (x2 x3 : Int32), wX_Sd_goOn_13B post X13 S A x2 x3 → X13 S A x2 x3) → X13 S A x2 x3
def wX_Sd_goOn_10 (post : SS → AA → Prop) (S : SS) (A : AA) (y0 : Int32) : Prop :=
  (wX_Sd_goOn_13 post S A y0 (0 : Int32))
def wX_Sd_goOn (post : SS → AA → Prop) (S : SS) (A : AA) (x1 : Int32) : Prop :=
  ((¬ x1 = 0 → (wX_Sd_goOn_10 post S A x1)) ∧ (x1 = 0 → (wX_Sd_goOn_10 post S A (10 : Int32))))
def wX_Sd_waitAnew (post : SS → AA → Prop) (S : SS) (A : AA) : Prop :=
  (post (va_up S 14 (0 : Int32)) A)
def wX_T_steerAnswer (post : SS → AA → Prop) (S : SS) (A : AA) (x1 x2 : Int32) : Prop :=
  ((¬ (S 15) = 0 → ((¬ x1 = (48 : Int32) → ((¬ x1 = (49 : Int32) → (wX_Sd_drop (fun S48 A48 => (post S48 A48)) S A)) ∧ (x1 = (49 : Int32) → (wX_Sd_waitAnew (fun S38 A38 => (post S38 A38)) S A)))) ∧ (x1 = (48 : Int32) → (wX_Sd_goOn (fun S22 A22 => (post S22 A22)) S A x2)))) ∧ ((S 15) = 0 → (post S A)))
def wX_Rc_at (post : Int32 → SS → AA → Prop) (S : SS) (A : AA) (x1 : Int32) : Prop :=
  ((x1 < 0 → (post (0 : Int32) S A)) ∧ (¬ x1 < 0 → (((S 7) ≤ x1 → (post (0 : Int32) S A)) ∧ (¬ (S 7) ≤ x1 → (((34 : Int32) ≤ x1 → (post (0 : Int32) S A)) ∧ (¬ (34 : Int32) ≤ x1 → (vp_in x1 34 ∧ (post ((A 1) x1.toNatClampNeg) S A))))))))
def wX_Sd_add (post : SS → AA → Prop) (S : SS) (A : AA) (x1 : Int32) : Prop :=
  (((10 : Int32) ≤ (S 11) → (post S A)) ∧ (¬ (10 : Int32) ≤ (S 11) → (vp_in (S 11) 10 ∧ (post (va_up S 11 ((S 11) + (1 : Int32))) (va_up A 3 (upd (A 3) (S 11).toNatClampNeg x1))))))
def wX_Sd_begin (post : SS → AA → Prop) (S : SS) (A : AA) (x1 : Int32) : Prop :=
  (wX_Sd_add (fun S7 A7 => (post S7 A7)) (va_up S 11 (0 : Int32)) A x1)
def wX_Sd_send (post : SS → AA → Prop) (S : SS) (A : AA) : Prop :=
  (((7 : Int32) < (S 11) → (vp_in (0 : Int32) 8 ∧ (vp_in (1 : Int32) 8 ∧ (wX_Sd_putFrom (fun S50 A50 => (post (va_up (va_up (va_up S50 13 (1 : Int32)) 15 (1 : Int32)) 14 (0 : Int32)) A50)) (va_up S 12 (0 : Int32)) (va_up (va_up A 4 (upd (A 4) (0 : Int32).toNatClampNeg (16 : Int32))) 4 (upd (upd (A 4) (0 : Int32).toNatClampNeg (16 : Int32)) (1 : Int32).toNatClampNeg (S 11))) (2 : Int32))))) ∧ (¬ (7 : Int32) < (S 11) → (vp_in (0 : Int32) 8 ∧ (wX_Sd_putFrom (fun S26 A26 => (post S26 A26)) (va_up S 12 (0 : Int32)) (va_up A 4 (upd (A 4) (0 : Int32).toNatClampNeg (S 11))) (1 : Int32)))))
def wX_Dl_end (post : SS → AA → Prop) (S : SS) (A : AA) : Prop :=
  (post (va_up S 23 (0 : Int32)) A)
def wX_Lk_close (post : SS → AA → Prop) (S : SS) (A : AA) : Prop :=
  (post (va_up (va_up S 18 (0 : Int32)) 19 (0 : Int32)) A)
def wX_Lk_reset (post : SS → AA → Prop) (S : SS) (A : AA) : Prop :=
  (wX_Lk_close (fun S1 A1 => (post (va_up (va_up S1 21 (0 : Int32)) 22 (0 : Int32)) A1)) S A)
def wX_Mm_byteAt (post : Int32 → SS → AA → Prop) (S : SS) (A : AA) (x1 : Int32) : Prop :=
  ((x1 < 0 → (post (0 : Int32) S A)) ∧ (¬ x1 < 0 → (((96 : Int32) ≤ x1 → (post (0 : Int32) S A)) ∧ (¬ (96 : Int32) ≤ x1 → (vp_in x1 96 ∧ (post ((A 0) x1.toNatClampNeg) S A))))))
def wX_Mm_headerOf (post : Int32 → SS → AA → Prop) (S : SS) (A : AA) (x0 : Int32) : Prop :=
  (post ((x0 * (48 : Int32)) + (32 : Int32)) S A)
def wX_Mm_sumOf_76 (post : Int32 → SS → AA → Prop) (X18 : SS → AA → Int32 → Int32 → Int32 → Prop) (X43 : SS → AA → Int32 → Int32 → Int32 → Int32 → Prop) (S : SS) (A : AA) (x2 x4 x5 y0 : Int32) : Prop :=
  (X43 S A x2 y0 x4 (x5 + (1 : Int32)))
def wX_Mm_sumOf_43B (post : Int32 → SS → AA → Prop) (X18 : SS → AA → Int32 → Int32 → Int32 → Prop) (X43 : SS → AA → Int32 → Int32 → Int32 → Int32 → Prop) (S : SS) (A : AA) (x2 x3 x4 x5 : Int32) : Prop :=
  (((8 : Int32) ≤ x5 → (X18 S A x2 x3 (x4 + (1 : Int32)))) ∧ (¬ (8 : Int32) ≤ x5 → (((x3 &&& (32768 : Int32)) = 0 → (wX_Mm_sumOf_76 post X18 X43 S A x2 x4 x5 ((x3 <<< ((1 : Int32) &&& 31)) &&& (65535 : Int32)))) ∧ (¬ (x3 &&& (32768 : Int32)) = 0 → (wX_Mm_sumOf_76 post X18 X43 S A x2 x4 x5 (((x3 <<< ((1 : Int32) &&& 31)) &&& (65535 : Int32)) ^^^ (4129 : Int32)))))))
def wX_Mm_sumOf_43 (post : Int32 → SS → AA → Prop) (X18 : SS → AA → Int32 → Int32 → Int32 → Prop) (S : SS) (A : AA) (x2 x3 x4 x5 : Int32) : Prop :=
  ∀ X43 : SS → AA → Int32 → Int32 → Int32 → Int32 → Prop, (∀ (S : SS) (A : AA) (x2 x3 x4 x5 : Int32), wX_Mm_sumOf_43B post X18 X43 S A x2 x3 x4 x5 → X43 S A x2 x3 x4 x5) → X43 S A x2 x3 x4 x5
def wX_Mm_sumOf_18B (post : Int32 → SS → AA → Prop) (X18 : SS → AA → Int32 → Int32 → Int32 → Prop) (S : SS) (A : AA) (x2 x3 x4 : Int32) : Prop :=
  (((x2 + (32 : Int32)) ≤ x4 → (post x3 S A)) ∧ (¬ (x2 + (32 : Int32)) ≤ x4 → (vp_in x4 96 ∧ (wX_Mm_sumOf_43 post X18 S A x2 (x3 ^^^ (((A 0) x4.toNatClampNeg) <<< ((8 : Int32) &&& 31))) x4 (0 : Int32)))))
def wX_Mm_sumOf_18 (post : Int32 → SS → AA → Prop) (S : SS) (A : AA) (x2 x3 x4 : Int32) : Prop :=
  ∀ X18 : SS → AA → Int32 → Int32 → Int32 → Prop, (∀ (S : SS) (A : AA) (x2 x3 x4 : Int32), wX_Mm_sumOf_18B post X18 S A x2 x3 x4 → X18 S A x2 x3 x4) → X18 S A x2 x3 x4
def wX_Mm_sumOf_11 (post : Int32 → SS → AA → Prop) (S : SS) (A : AA) (y0 : Int32) : Prop :=
  (wX_Mm_sumOf_18 post S A y0 (65535 : Int32) y0)
def wX_Mm_sumOf (post : Int32 → SS → AA → Prop) (S : SS) (A : AA) (x1 : Int32) : Prop :=
  ((¬ x1 = (1 : Int32) → (wX_Mm_sumOf_11 post S A (0 : Int32))) ∧ (x1 = (1 : Int32) → (wX_Mm_sumOf_11 post S A (48 : Int32))))
def wX_Mm_goodSerial (post : Int32 → SS → AA → Prop) (S : SS) (A : AA) (x1 : Int32) : Prop :=
  (wX_Mm_headerOf (fun r1 S1 A1 => (wX_Mm_byteAt (fun r9 S9 A9 => (wX_Mm_byteAt (fun r19 S19 A19 => (wX_Mm_byteAt (fun r26 S26 A26 => ((¬ r26 = 0 → (post (-1 : Int32) S26 A26)) ∧ (r26 = 0 → (wX_Mm_sumOf (fun r35 S35 A35 => ((¬ ((r9 <<< ((8 : Int32) &&& 31)) ||| r19) = r35 → (post (-1 : Int32) S35 A35)) ∧ (((r9 <<< ((8 : Int32) &&& 31)) ||| r19) = r35 → (wX_Mm_byteAt (fun r45 S45 A45 => (post r45 S45 A45)) S35 A35 (r1 + (1 : Int32)))))) S26 A26 x1)))) S19 A19 r1)) S9 A9 (r1 + (3 : Int32)))) S1 A1 (r1 + (2 : Int32)))) S A x1)
def wX_Mm_bestSlot (post : Int32 → SS → AA → Prop) (S : SS) (A : AA) : Prop :=
  (wX_Mm_goodSerial (fun r2 S2 A2 => (wX_Mm_goodSerial (fun r8 S8 A8 => ((r8 ≤ r2 → ((¬ r2 = (-1 : Int32) → (post (0 : Int32) S8 A8)) ∧ (r2 = (-1 : Int32) → (post (-1 : Int32) S8 A8)))) ∧ (¬ r8 ≤ r2 → (post (1 : Int32) S8 A8)))) S2 A2 (1 : Int32))) S A (0 : Int32))
def wX_T_boot (post : SS → AA → Prop) (S : SS) (A : AA) : Prop :=
  (wX_Mm_bestSlot (fun r5 S5 A5 => (wX_Lk_reset (fun S35 A35 => (wX_Dl_end (fun S42 A42 => (wX_Rc_drop (fun S49 A49 => (wX_Sd_drop (fun S56 A56 => (post S56 A56)) S49 A49)) S42 A42)) S35 A35)) (va_up (va_up (va_up (va_up (va_up S5 0 r5) 1 (1 : Int32)) 2 (-1 : Int32)) 3 (0 : Int32)) 4 (0 : Int32)) A5)) S A)
def wX_Rw_clear (post : SS → AA → Prop) (S : SS) (A : AA) : Prop :=
  (post (va_up S 17 (0 : Int32)) A)
def wX_T_bootAfresh (post : SS → AA → Prop) (S : SS) (A : AA) : Prop :=
  (wX_T_boot (fun S1 A1 => (wX_Rw_clear (fun S8 A8 => (post S8 A8)) S1 A1)) S A)
def wX_T_hasKnownKind_76 (post : Int32 → SS → AA → Prop) (S : SS) (A : AA) (x2 : Int32) : Prop :=
  ((¬ x2 = (1 : Int32) → (post (0 : Int32) S A)) ∧ (x2 = (1 : Int32) → (post (1 : Int32) S A)))
def wX_T_hasKnownKind_70 (post : Int32 → SS → AA → Prop) (S : SS) (A : AA) : Prop :=
  (post (1 : Int32) S A)
def wX_T_hasKnownKind_60 (post : Int32 → SS → AA → Prop) (S : SS) (A : AA) (x2 : Int32) : Prop :=
  ((x2 = (1 : Int32) → (wX_T_hasKnownKind_70 post S A)) ∧ (¬ x2 = (1 : Int32) → ((¬ x2 = (2 : Int32) → (post (0 : Int32) S A)) ∧ (x2 = (2 : Int32) → (wX_T_hasKnownKind_70 post S A)))))
def wX_T_hasKnownKind (post : Int32 → SS → AA → Prop) (S : SS) (A : AA) (x1 : Int32) : Prop :=
  (wX_Rc_at (fun r5 S5 A5 => ((x1 = (16 : Int32) → (wX_T_hasKnownKind_60 post S5 A5 r5)) ∧ (¬ x1 = (16 : Int32) → ((x1 = (17 : Int32) → (wX_T_hasKnownKind_76 post S5 A5 r5)) ∧ (¬ x1 = (17 : Int32) → ((x1 = (39 : Int32) → (wX_T_hasKnownKind_60 post S5 A5 r5)) ∧ (¬ x1 = (39 : Int32) → ((x1 = (49 : Int32) → (wX_T_hasKnownKind_76 post S5 A5 r5)) ∧ (¬ x1 = (49 : Int32) → ((x1 = (62 : Int32) → ((¬ r5 = 0 → (post (0 : Int32) S5 A5)) ∧ (r5 = 0 → (post (1 : Int32) S5 A5)))) ∧ (¬ x1 = (62 : Int32) → (post (1 : Int32) S5 A5)))))))))))) S A (1 : Int32))
def wX_T_hasRightLength_149 (post : Int32 → SS → AA → Prop) (S : SS) (A : AA) (y0 y1 : Int32) : Prop :=
  ((¬ y1 = y0 → (post (0 : Int32) S A)) ∧ (y1 = y0 → (post (1 : Int32) S A)))
def wX_T_hasRightLength_119 (post : Int32 → SS → AA → Prop) (S : SS) (A : AA) (x2 : Int32) : Prop :=
  ((¬ x2 = (3 : Int32) → (post (0 : Int32) S A)) ∧ (x2 = (3 : Int32) → (post (1 : Int32) S A)))
def wX_T_hasRightLength_110 (post : Int32 → SS → AA → Prop) (S : SS) (A : AA) (y0 y1 : Int32) : Prop :=
  ((¬ y1 = y0 → (post (0 : Int32) S A)) ∧ (y1 = y0 → (post (1 : Int32) S A)))
def wX_T_hasRightLength (post : Int32 → SS → AA → Prop) (S : SS) (A : AA) (x1 : Int32) : Prop :=
  ((x1 = (39 : Int32) → (wX_Rc_at (fun r98 S98 A98 => ((¬ r98 = (2 : Int32) → (wX_T_hasRightLength_110 post S98 A98 (2 : Int32) (S 7))) ∧ (r98 = (2 : Int32) → (wX_T_hasRightLength_110 post S98 A98 (3 : Int32) (S 7))))) S A (1 : Int32))) ∧ (¬ x1 = (39 : Int32) → ((x1 = (46 : Int32) → (wX_T_hasRightLength_119 post S A (S 7))) ∧ (¬ x1 = (46 : Int32) → ((x1 = (49 : Int32) → (wX_Rc_at (fun r136 S136 A136 => ((¬ r136 = (2 : Int32) → (wX_T_hasRightLength_149 post S136 A136 (4 : Int32) (S 7))) ∧ (r136 = (2 : Int32) → (wX_T_hasRightLength_149 post S136 A136 (6 : Int32) (S 7))))) S A (2 : Int32))) ∧ (¬ x1 = (49 : Int32) → ((x1 = (52 : Int32) → (wX_T_hasRightLength_119 post S A (S 7))) ∧ (¬ x1 = (52 : Int32) → ((x1 = (54 : Int32) → (((S 7) < (3 : Int32) → (post (0 : Int32) S A)) ∧ (¬ (S 7) < (3 : Int32) → (((10 : Int32) < (S 7) → (post (0 : Int32) S A)) ∧ (¬ (10 : Int32) < (S 7) → (post (1 : Int32) S A)))))) ∧ (¬ x1 = (54 : Int32) → ((x1 = (55 : Int32) → ((¬ (S 7) = (1 : Int32) → (post (0 : Int32) S A)) ∧ ((S 7) = (1 : Int32) → (post (1 : Int32) S A)))) ∧ (¬ x1 = (55 : Int32) → ((¬ (S 7) = (2 : Int32) → (post (0 : Int32) S A)) ∧ ((S 7) = (2 : Int32) → (post (1 : Int32) S A)))))))))))))))
def wX_T_isInRange (post : Int32 → SS → AA → Prop) (S : SS) (A : AA) (x1 : Int32) : Prop :=
  (wX_Rc_at (fun r5 S5 A5 => (wX_Rc_at (fun r14 S14 A14 => ((x1 = (34 : Int32) → (((2 : Int32) < r5 → (post (0 : Int32) S14 A14)) ∧ (¬ (2 : Int32) < r5 → (post (1 : Int32) S14 A14)))) ∧ (¬ x1 = (34 : Int32) → ((x1 = (46 : Int32) → ((¬ r5 = (1 : Int32) → (post (0 : Int32) S14 A14)) ∧ (r5 = (1 : Int32) → (post (1 : Int32) S14 A14)))) ∧ (¬ x1 = (46 : Int32) → ((x1 = (49 : Int32) → ((r14 < (1 : Int32) → (post (0 : Int32) S14 A14)) ∧ (¬ r14 < (1 : Int32) → (((3 : Int32) < r14 → (post (0 : Int32) S14 A14)) ∧ (¬ (3 : Int32) < r14 → (wX_Rc_at (fun r97 S97 A97 => (((1 : Int32) < r97 → (post (0 : Int32) S97 A97)) ∧ (¬ (1 : Int32) < r97 → (post (1 : Int32) S97 A97)))) S14 A14 (3 : Int32))))))) ∧ (¬ x1 = (49 : Int32) → ((x1 = (52 : Int32) → (((1 : Int32) < r5 → (post (0 : Int32) S14 A14)) ∧ (¬ (1 : Int32) < r5 → ((r14 < (1 : Int32) → (post (0 : Int32) S14 A14)) ∧ (¬ r14 < (1 : Int32) → (((32 : Int32) < r14 → (post (0 : Int32) S14 A14)) ∧ (¬ (32 : Int32) < r14 → (post (1 : Int32) S14 A14)))))))) ∧ (¬ x1 = (52 : Int32) → (post (1 : Int32) S14 A14)))))))))) S5 A5 (2 : Int32))) S A (1 : Int32))
def wX_T_needsUnlocking_30 (post : Int32 → SS → AA → Prop) (S : SS) (A : AA) : Prop :=
  (post (1 : Int32) S A)
def wX_T_needsUnlocking (post : Int32 → SS → AA → Prop) (S : SS) (A : AA) (x0 : Int32) : Prop :=
  ((x0 = (46 : Int32) → (wX_T_needsUnlocking_30 post S A)) ∧ (¬ x0 = (46 : Int32) → ((x0 = (49 : Int32) → (wX_T_needsUnlocking_30 post S A)) ∧ (¬ x0 = (49 : Int32) → ((x0 = (52 : Int32) → (wX_T_needsUnlocking_30 post S A)) ∧ (¬ x0 = (52 : Int32) → ((x0 = (54 : Int32) → (wX_T_needsUnlocking_30 post S A)) ∧ (¬ x0 = (54 : Int32) → ((¬ x0 = (55 : Int32) → (post (0 : Int32) S A)) ∧ (x0 = (55 : Int32) → (wX_T_needsUnlocking_30 post S A)))))))))))
def wX_T_isKnown_37 (post : Int32 → SS → AA → Prop) (S : SS) (A : AA) : Prop :=
  (post (1 : Int32) S A)
def wX_T_isKnown (post : Int32 → SS → AA → Prop) (S : SS) (A : AA) (x0 : Int32) : Prop :=
  ((x0 = (16 : Int32) → (wX_T_isKnown_37 post S A)) ∧ (¬ x0 = (16 : Int32) → ((x0 = (17 : Int32) → (wX_T_isKnown_37 post S A)) ∧ (¬ x0 = (17 : Int32) → ((x0 = (34 : Int32) → (wX_T_isKnown_37 post S A)) ∧ (¬ x0 = (34 : Int32) → ((x0 = (39 : Int32) → (wX_T_isKnown_37 post S A)) ∧ (¬ x0 = (39 : Int32) → ((x0 = (62 : Int32) → (wX_T_isKnown_37 post S A)) ∧ (¬ x0 = (62 : Int32) → (wX_T_needsUnlocking (fun r31 S31 A31 => ((r31 = 0 → (post (0 : Int32) S31 A31)) ∧ (¬ r31 = 0 → (wX_T_isKnown_37 post S31 A31)))) S A x0)))))))))))
def wX_T_refusal_75 (post : Int32 → SS → AA → Prop) (S : SS) (A : AA) (x1 : Int32) : Prop :=
  (wX_T_isInRange (fun r77 S77 A77 => ((r77 = 0 → (post (49 : Int32) S77 A77)) ∧ (¬ r77 = 0 → (post (0 : Int32) S77 A77)))) S A x1)
def wX_T_refusal_58 (post : Int32 → SS → AA → Prop) (S : SS) (A : AA) (x1 x2 : Int32) : Prop :=
  ((x2 = 0 → (wX_T_refusal_75 post S A x1)) ∧ (¬ x2 = 0 → ((¬ (S 18) = 0 → (wX_T_refusal_75 post S A x1)) ∧ ((S 18) = 0 → (post (51 : Int32) S A)))))
def wX_T_refusal (post : Int32 → SS → AA → Prop) (S : SS) (A : AA) (x1 : Int32) : Prop :=
  (wX_T_isKnown (fun r1 S1 A1 => ((¬ r1 = 0 → (wX_T_hasRightLength (fun r12 S12 A12 => ((¬ r12 = 0 → (wX_T_hasKnownKind (fun r23 S23 A23 => ((¬ r23 = 0 → (wX_T_needsUnlocking (fun r33 S33 A33 => ((¬ (S33 1) = (1 : Int32) → (wX_T_refusal_58 post S33 A33 x1 r33)) ∧ ((S33 1) = (1 : Int32) → ((¬ r33 = 0 → (post (127 : Int32) S33 A33)) ∧ (r33 = 0 → ((¬ x1 = (39 : Int32) → (wX_T_refusal_58 post S33 A33 x1 r33)) ∧ (x1 = (39 : Int32) → (post (127 : Int32) S33 A33)))))))) S23 A23 x1)) ∧ (r23 = 0 → (post (18 : Int32) S23 A23)))) S12 A12 x1)) ∧ (r12 = 0 → (post (19 : Int32) S12 A12)))) S1 A1 x1)) ∧ (r1 = 0 → (post (17 : Int32) S1 A1)))) S A x1)
def wX_Dl_begin (post : SS → AA → Prop) (S : SS) (A : AA) (x1 x2 : Int32) : Prop :=
  (post (va_up (va_up (va_up (va_up (va_up S 23 (1 : Int32)) 24 x1) 25 x2) 26 (0 : Int32)) 27 (0 : Int32)) A)
def wX_T_doneWith (post : Int32 → SS → AA → Prop) (S : SS) (A : AA) (x1 : Int32) : Prop :=
  (wX_Sd_add (fun S5 A5 => (post (0 : Int32) S5 A5)) S A x1)
def wX_T_beginDownload (post : Int32 → SS → AA → Prop) (S : SS) (A : AA) (x1 x2 : Int32) : Prop :=
  ((¬ x1 = (S 0) → (wX_Dl_begin (fun S17 A17 => (wX_T_doneWith (fun r28 S28 A28 => (post r28 S28 A28)) (va_up S17 2 (-1 : Int32)) A17 (8 : Int32))) S A x1 x2)) ∧ (x1 = (S 0) → (post (34 : Int32) S A)))
def wX_T_changeSession (post : SS → AA → Prop) (S : SS) (A : AA) (x1 : Int32) : Prop :=
  (wX_Lk_close (fun S9 A9 => (wX_Dl_end (fun S16 A16 => (post S16 A16)) S9 A9)) (va_up S 1 x1) A)
def wX_Dl_toCome (post : Int32 → SS → AA → Prop) (S : SS) (A : AA) : Prop :=
  (((S 23) = 0 → (post (-1 : Int32) S A)) ∧ (¬ (S 23) = 0 → (post ((S 25) - (S 26)) S A)))
def wX_T_endDownload (post : Int32 → SS → AA → Prop) (S : SS) (A : AA) : Prop :=
  (wX_Dl_toCome (fun r4 S4 A4 => ((r4 = 0 → (wX_Dl_end (fun S17 A17 => (post (0 : Int32) S17 A17)) S4 A4)) ∧ (¬ r4 = 0 → (post (36 : Int32) S4 A4)))) S A)
def wX_Lk_nextSeed (post : Int32 → SS → AA → Prop) (S : SS) (A : AA) : Prop :=
  (post (((17 : Int32) + ((73 : Int32) * (S 20))) &&& (255 : Int32)) (va_up (va_up S 19 (((17 : Int32) + ((73 : Int32) * (S 20))) &&& (255 : Int32))) 20 ((S 20) + (1 : Int32))) A)
def wX_Lk_takeOpenSeed (post : Int32 → SS → AA → Prop) (S : SS) (A : AA) : Prop :=
  (post (S 19) (va_up S 19 (0 : Int32)) A)
def wX_T_giveSeed_51 (post : Int32 → SS → AA → Prop) (S : SS) (A : AA) (y0 : Int32) : Prop :=
  (wX_T_doneWith (fun r51 S51 A51 => (post r51 S51 A51)) S A y0)
def wX_T_giveSeed (post : Int32 → SS → AA → Prop) (S : SS) (A : AA) : Prop :=
  (wX_Lk_takeOpenSeed (fun r4 S4 A4 => (((S4 22) = 0 → (wX_Sd_add (fun S26 A26 => (((S26 18) = 0 → (wX_Lk_nextSeed (fun r48 S48 A48 => (wX_T_giveSeed_51 post S48 A48 r48)) S26 A26)) ∧ (¬ (S26 18) = 0 → (wX_T_giveSeed_51 post S26 A26 (0 : Int32))))) S4 A4 (1 : Int32))) ∧ (¬ (S4 22) = 0 → (post (55 : Int32) S4 A4)))) S A)
def wX_Mm_imageOf (post : Int32 → SS → AA → Prop) (S : SS) (A : AA) (x0 : Int32) : Prop :=
  (post (x0 * (48 : Int32)) S A)
def wX_T_read_61B (post : Int32 → SS → AA → Prop) (X61 : SS → AA → Int32 → Int32 → Prop) (S : SS) (A : AA) (x2 x3 : Int32) : Prop :=
  (((8 : Int32) ≤ x3 → (post (0 : Int32) S A)) ∧ (¬ (8 : Int32) ≤ x3 → (wX_Mm_byteAt (fun r78 S78 A78 => (wX_Sd_add (fun S81 A81 => (X61 S81 A81 x2 (x3 + (1 : Int32)))) S78 A78 r78)) S A (x2 + x3))))
def wX_T_read_61 (post : Int32 → SS → AA → Prop) (S : SS) (A : AA) (x2 x3 : Int32) : Prop :=
  ∀ X61 : SS → AA → Int32 → Int32 → Prop, (∀ (S : SS) (A : AA) (x2 x3 : Int32), wX_T_read_61B post X61 S A x2 x3 → X61 S A x2 x3) → X61 S A x2 x3
def wX_T_read_16 (post : Int32 → SS → AA → Prop) (S : SS) (A : AA) (x1 : Int32) : Prop :=
  (wX_Sd_add (fun S21 A21 => ((¬ x1 = 0 → ((¬ x1 = (1 : Int32) → (wX_Mm_imageOf (fun r55 S55 A55 => (wX_T_read_61 post S55 A55 r55 (0 : Int32))) S21 A21 (S21 0))) ∧ (x1 = (1 : Int32) → (wX_T_doneWith (fun r47 S47 A47 => (post r47 S47 A47)) S21 A21 (S21 3))))) ∧ (x1 = 0 → (wX_T_doneWith (fun r33 S33 A33 => (post r33 S33 A33)) S21 A21 (S21 0))))) S A x1)
def wX_T_read (post : Int32 → SS → AA → Prop) (S : SS) (A : AA) (x1 : Int32) : Prop :=
  ((x1 = (1 : Int32) → (wX_T_read_16 post S A x1)) ∧ (¬ x1 = (1 : Int32) → ((¬ (S 0) = (-1 : Int32) → (wX_T_read_16 post S A x1)) ∧ ((S 0) = (-1 : Int32) → (post (34 : Int32) S A)))))
def wX_T_checkSlot_73 (post : Int32 → SS → AA → Prop) (S : SS) (A : AA) (y0 : Int32) : Prop :=
  (wX_T_doneWith (fun r73 S73 A73 => (post r73 S73 A73)) S A y0)
def wX_T_checkSlot_63 (post : Int32 → SS → AA → Prop) (S : SS) (A : AA) (x2 : Int32) : Prop :=
  ((x2 = 0 → (wX_T_checkSlot_73 post S A (0 : Int32))) ∧ (¬ x2 = 0 → (wX_T_checkSlot_73 post S A (1 : Int32))))
def wX_T_checkSlot_37 (post : Int32 → SS → AA → Prop) (S : SS) (A : AA) (x1 y0 : Int32) : Prop :=
  ((y0 = 0 → ((¬ (S 2) = x1 → (wX_T_checkSlot_63 post S A y0)) ∧ ((S 2) = x1 → (wX_T_checkSlot_63 post (va_up S 2 (-1 : Int32)) A y0)))) ∧ (¬ y0 = 0 → (wX_T_checkSlot_63 post (va_up S 2 x1) A y0)))
def wX_T_checkSlot (post : Int32 → SS → AA → Prop) (S : SS) (A : AA) (x1 : Int32) : Prop :=
  (wX_Mm_sumOf (fun r5 S5 A5 => (wX_Rc_at (fun r16 S16 A16 => (wX_Rc_at (fun r25 S25 A25 => ((¬ r5 = (((256 : Int32) * r16) + r25) → (wX_T_checkSlot_37 post S25 A25 x1 (0 : Int32))) ∧ (r5 = (((256 : Int32) * r16) + r25) → (wX_T_checkSlot_37 post S25 A25 x1 (1 : Int32))))) S16 A16 (5 : Int32))) S5 A5 (4 : Int32))) S A x1)
def wX_Mm_change_24 (post : SS → AA → Prop) (S : SS) (A : AA) (x1 x3 y0 : Int32) : Prop :=
  (vp_in x1 96 ∧ (vp_in x1 96 ∧ (vp_in x1 96 ∧ (post S (va_up A 0 (upd (A 0) x1.toNatClampNeg (((A 0) x1.toNatClampNeg) ^^^ ((((A 0) x1.toNatClampNeg) ^^^ x3) &&& y0))))))))
def wX_Mm_change (post : SS → AA → Prop) (S : SS) (A : AA) (x1 x2 x3 : Int32) : Prop :=
  (((S 5) = 0 → (wX_Mm_change_24 post S A x1 x3 (255 : Int32))) ∧ (¬ (S 5) = 0 → (wX_Mm_change_24 post S A x1 x3 ((S 6).toUInt32 >>> (((8 : Int32) * (x2 &&& (3 : Int32))).toUInt32 &&& Int32.toUInt32 31)).toInt32)))
def wX_Mm_endChange_12 (post : Int32 → SS → AA → Prop) (S : SS) (A : AA) (y0 : Int32) : Prop :=
  (tl_z y0 ∧ post y0 (va_up S 5 (0 : Int32)) A)
def wX_Mm_endChange (post : Int32 → SS → AA → Prop) (S : SS) (A : AA) : Prop :=
  ((¬ (S 5) = 0 → (wX_Mm_endChange_12 post S A (0 : Int32))) ∧ ((S 5) = 0 → (wX_Mm_endChange_12 post S A (1 : Int32))))
def wX_Mm_has (post : Int32 → SS → AA → Prop) (S : SS) (A : AA) (x1 x2 : Int32) : Prop :=
  ((x1 < 0 → (post (0 : Int32) S A)) ∧ (¬ x1 < 0 → ((((96 : Int32) - x2) < x1 → (post (0 : Int32) S A)) ∧ (¬ ((96 : Int32) - x2) < x1 → (post (1 : Int32) S A)))))
def wX_Mm_erase_19B (post : Int32 → SS → AA → Prop) (X19 : SS → AA → Int32 → Int32 → Prop) (S : SS) (A : AA) (x2 x3 : Int32) : Prop :=
  (((16 : Int32) ≤ x3 → (wX_Mm_endChange (fun r43 S43 A43 => (tl_z r43 ∧ post r43 S43 A43)) S A)) ∧ (¬ (16 : Int32) ≤ x3 → (wX_Mm_change (fun S33 A33 => (X19 S33 A33 x2 (x3 + (1 : Int32)))) S A (x2 + x3) x3 (255 : Int32))))
def wX_Mm_erase_19 (post : Int32 → SS → AA → Prop) (S : SS) (A : AA) (x2 x3 : Int32) : Prop :=
  ∀ X19 : SS → AA → Int32 → Int32 → Prop, (∀ (S : SS) (A : AA) (x2 x3 : Int32), wX_Mm_erase_19B post X19 S A x2 x3 → X19 S A x2 x3) → X19 S A x2 x3
def wX_Mm_erase (post : Int32 → SS → AA → Prop) (S : SS) (A : AA) (x1 : Int32) : Prop :=
  (wX_Mm_has (fun r9 S9 A9 => ((¬ r9 = 0 → (wX_Mm_erase_19 post S9 A9 (x1 * (16 : Int32)) (0 : Int32))) ∧ (r9 = 0 → (post (1 : Int32) S9 A9)))) S A (x1 * (16 : Int32)) (16 : Int32))
def wX_T_eraseSlot_62 (post : Int32 → SS → AA → Prop) (S : SS) (A : AA) (y0 : Int32) : Prop :=
  ((y0 = 0 → (post (-1 : Int32) S A)) ∧ (¬ y0 = 0 → (post (0 : Int32) S A)))
def wX_T_eraseSlot_61 (post : Int32 → SS → AA → Prop) (S : SS) (A : AA) : Prop :=
  (wX_T_eraseSlot_62 post S A (0 : Int32))
def wX_T_eraseSlot (post : Int32 → SS → AA → Prop) (S : SS) (A : AA) (x1 : Int32) : Prop :=
  ((¬ x1 = (S 0) → (wX_Mm_erase (fun r27 S27 A27 => ((r27 = 0 → (wX_T_eraseSlot_61 post S27 A27)) ∧ (¬ r27 = 0 → (wX_Mm_erase (fun r38 S38 A38 => ((r38 = 0 → (wX_T_eraseSlot_61 post S38 A38)) ∧ (¬ r38 = 0 → (wX_Mm_erase (fun r51 S51 A51 => ((r51 = 0 → (wX_T_eraseSlot_61 post S51 A51)) ∧ (¬ r51 = 0 → (wX_T_eraseSlot_62 post S51 A51 (1 : Int32))))) S38 A38 (((3 : Int32) * x1) + (1 : Int32)))))) S27 A27 ((3 : Int32) * x1))))) (va_up S 2 (-1 : Int32)) A (((3 : Int32) * x1) + (2 : Int32)))) ∧ (x1 = (S 0) → (post (34 : Int32) S A)))
def wX_Mm_write_12_24B (post : Int32 → SS → AA → Prop) (X24 : SS → AA → Int32 → Int32 → Int32 → Int32 → Prop) (S : SS) (A : AA) (x1 x3 x4 x5 : Int32) : Prop :=
  ((x4 ≤ x5 → (wX_Mm_endChange (fun r64 S64 A64 => (tl_z r64 ∧ post r64 S64 A64)) S A)) ∧ (¬ x4 ≤ x5 → (vp_in (x1 + x5) 96 ∧ (vp_in (x3 + x5) 3 ∧ (wX_Mm_change (fun S54 A54 => (X24 S54 A54 x1 x3 x4 (x5 + (1 : Int32)))) S A (x1 + x5) x5 (((A 0) (x1 + x5).toNatClampNeg) &&& ((A 5) (x3 + x5).toNatClampNeg)))))))
def wX_Mm_write_12_24 (post : Int32 → SS → AA → Prop) (S : SS) (A : AA) (x1 x3 x4 x5 : Int32) : Prop :=
  ∀ X24 : SS → AA → Int32 → Int32 → Int32 → Int32 → Prop, (∀ (S : SS) (A : AA) (x1 x3 x4 x5 : Int32), wX_Mm_write_12_24B post X24 S A x1 x3 x4 x5 → X24 S A x1 x3 x4 x5) → X24 S A x1 x3 x4 x5
def wX_Mm_write_12 (post : Int32 → SS → AA → Prop) (S : SS) (A : AA) (x1 x3 x4 : Int32) : Prop :=
  (wX_Mm_has (fun r4 S4 A4 => ((r4 = 0 → (post (1 : Int32) S4 A4)) ∧ (¬ r4 = 0 → ((x3 ≤ ((3 : Int32) - x4) → (wX_Mm_write_12_24 post S4 A4 x1 x3 x4 (0 : Int32))) ∧ (¬ x3 ≤ ((3 : Int32) - x4) → (post (1 : Int32) S4 A4)))))) S A x1 x4)
def wX_T_releaseSlot_75 (post : Int32 → SS → AA → Prop) (S : SS) (A : AA) (x3 x4 y0 y1 : Int32) : Prop :=
  (vp_in y1 3 ∧ (vp_in (1 : Int32) 3 ∧ (vp_in (2 : Int32) 3 ∧ (wX_Mm_write_12 (fun r111 S111 A111 => ((¬ r111 = 0 → (vp_in (0 : Int32) 3 ∧ (wX_Mm_write_12 (fun r138 S138 A138 => ((r138 = 0 → (post (-1 : Int32) S138 A138)) ∧ (¬ r138 = 0 → (post (0 : Int32) S138 A138)))) S111 (va_up A111 5 (upd (A111 5) (0 : Int32).toNatClampNeg (0 : Int32))) x4 (0 : Int32) (1 : Int32)))) ∧ (r111 = 0 → (post (-1 : Int32) S111 A111)))) S (va_up (va_up (va_up A 5 (upd (A 5) y1.toNatClampNeg y0)) 5 (upd (upd (A 5) y1.toNatClampNeg y0) (1 : Int32).toNatClampNeg (x3.toUInt32 >>> ((8 : Int32).toUInt32 &&& Int32.toUInt32 31)).toInt32)) 5 (upd (upd (upd (A 5) y1.toNatClampNeg y0) (1 : Int32).toNatClampNeg (x3.toUInt32 >>> ((8 : Int32).toUInt32 &&& Int32.toUInt32 31)).toInt32) (2 : Int32).toNatClampNeg (x3 &&& (255 : Int32)))) (x4 + (1 : Int32)) (0 : Int32) (3 : Int32)))))
def wX_T_releaseSlot (post : Int32 → SS → AA → Prop) (S : SS) (A : AA) (x1 : Int32) : Prop :=
  ((x1 = (S 0) → (post (34 : Int32) S A)) ∧ (¬ x1 = (S 0) → ((x1 = (S 2) → (wX_Mm_goodSerial (fun r24 S24 A24 => (wX_Mm_goodSerial (fun r32 S32 A32 => (wX_Mm_sumOf (fun r44 S44 A44 => (wX_Mm_headerOf (fun r49 S49 A49 => ((¬ (tl_mx r24 r32) = (-1 : Int32) → (wX_T_releaseSlot_75 post S49 A49 r44 r49 (((tl_mx r24 r32) + (1 : Int32)) &&& (255 : Int32)) (0 : Int32))) ∧ ((tl_mx r24 r32) = (-1 : Int32) → (wX_T_releaseSlot_75 post S49 A49 r44 r49 (1 : Int32) (0 : Int32))))) S44 A44 x1)) S32 A32 x1)) S24 A24 (1 : Int32))) S A (0 : Int32))) ∧ (¬ x1 = (S 2) → (post (34 : Int32) S A)))))
def wX_T_runRoutine (post : Int32 → SS → AA → Prop) (S : SS) (A : AA) (x1 x2 : Int32) : Prop :=
  (wX_Sd_add (fun S5 A5 => (wX_Sd_add (fun S13 A13 => ((¬ x1 = (1 : Int32) → ((¬ x1 = (2 : Int32) → (wX_T_releaseSlot (fun r42 S42 A42 => (post r42 S42 A42)) S13 A13 x2)) ∧ (x1 = (2 : Int32) → (wX_T_checkSlot (fun r34 S34 A34 => (post r34 S34 A34)) S13 A13 x2)))) ∧ (x1 = (1 : Int32) → (wX_T_eraseSlot (fun r23 S23 A23 => (post r23 S23 A23)) S13 A13 x2)))) S5 A5 x1)) S A (1 : Int32))
def wX_Dl_addBlock (post : SS → AA → Prop) (S : SS) (A : AA) (x1 : Int32) : Prop :=
  (post (va_up (va_up S 26 ((S 26) + x1)) 27 ((S 27) + (1 : Int32))) A)
def wX_Dl_isLatest (post : Int32 → SS → AA → Prop) (S : SS) (A : AA) (x1 : Int32) : Prop :=
  (((S 27) ≤ 0 → (post (0 : Int32) S A)) ∧ (¬ (S 27) ≤ 0 → ((¬ x1 = ((S 27) &&& (255 : Int32)) → (post (0 : Int32) S A)) ∧ (x1 = ((S 27) &&& (255 : Int32)) → (post (1 : Int32) S A)))))
def wX_Dl_isNext (post : Int32 → SS → AA → Prop) (S : SS) (A : AA) (x1 : Int32) : Prop :=
  ((¬ x1 = (((S 27) + (1 : Int32)) &&& (255 : Int32)) → (post (0 : Int32) S A)) ∧ (x1 = (((S 27) + (1 : Int32)) &&& (255 : Int32)) → (post (1 : Int32) S A)))
def wX_Mm_holds_4_24B (post : Int32 → SS → AA → Prop) (X24 : SS → AA → Int32 → Int32 → Int32 → Int32 → Prop) (S : SS) (A : AA) (x1 x3 x4 x5 : Int32) : Prop :=
  ((x4 ≤ x5 → (post (1 : Int32) S A)) ∧ (¬ x4 ≤ x5 → (vp_in (x1 + x5) 96 ∧ (vp_in (x3 + x5) 34 ∧ ((((A 0) (x1 + x5).toNatClampNeg) = ((A 1) (x3 + x5).toNatClampNeg) → (X24 S A x1 x3 x4 (x5 + (1 : Int32)))) ∧ (¬ ((A 0) (x1 + x5).toNatClampNeg) = ((A 1) (x3 + x5).toNatClampNeg) → (post (0 : Int32) S A)))))))
def wX_Mm_holds_4_24 (post : Int32 → SS → AA → Prop) (S : SS) (A : AA) (x1 x3 x4 x5 : Int32) : Prop :=
  ∀ X24 : SS → AA → Int32 → Int32 → Int32 → Int32 → Prop, (∀ (S : SS) (A : AA) (x1 x3 x4 x5 : Int32), wX_Mm_holds_4_24B post X24 S A x1 x3 x4 x5 → X24 S A x1 x3 x4 x5) → X24 S A x1 x3 x4 x5
def wX_Mm_holds_4 (post : Int32 → SS → AA → Prop) (S : SS) (A : AA) (x1 x3 x4 : Int32) : Prop :=
  (wX_Mm_has (fun r4 S4 A4 => ((r4 = 0 → (post (0 : Int32) S4 A4)) ∧ (¬ r4 = 0 → ((x3 ≤ ((34 : Int32) - x4) → (wX_Mm_holds_4_24 post S4 A4 x1 x3 x4 (0 : Int32))) ∧ (¬ x3 ≤ ((34 : Int32) - x4) → (post (0 : Int32) S4 A4)))))) S A x1 x4)
def wX_Mm_write_4_24B (post : Int32 → SS → AA → Prop) (X24 : SS → AA → Int32 → Int32 → Int32 → Int32 → Prop) (S : SS) (A : AA) (x1 x3 x4 x5 : Int32) : Prop :=
  ((x4 ≤ x5 → (wX_Mm_endChange (fun r64 S64 A64 => (tl_z r64 ∧ post r64 S64 A64)) S A)) ∧ (¬ x4 ≤ x5 → (vp_in (x1 + x5) 96 ∧ (vp_in (x3 + x5) 34 ∧ (wX_Mm_change (fun S54 A54 => (X24 S54 A54 x1 x3 x4 (x5 + (1 : Int32)))) S A (x1 + x5) x5 (((A 0) (x1 + x5).toNatClampNeg) &&& ((A 1) (x3 + x5).toNatClampNeg)))))))
def wX_Mm_write_4_24 (post : Int32 → SS → AA → Prop) (S : SS) (A : AA) (x1 x3 x4 x5 : Int32) : Prop :=
  ∀ X24 : SS → AA → Int32 → Int32 → Int32 → Int32 → Prop, (∀ (S : SS) (A : AA) (x1 x3 x4 x5 : Int32), wX_Mm_write_4_24B post X24 S A x1 x3 x4 x5 → X24 S A x1 x3 x4 x5) → X24 S A x1 x3 x4 x5
def wX_Mm_write_4 (post : Int32 → SS → AA → Prop) (S : SS) (A : AA) (x1 x3 x4 : Int32) : Prop :=
  (wX_Mm_has (fun r4 S4 A4 => ((r4 = 0 → (post (1 : Int32) S4 A4)) ∧ (¬ r4 = 0 → ((x3 ≤ ((34 : Int32) - x4) → (wX_Mm_write_4_24 post S4 A4 x1 x3 x4 (0 : Int32))) ∧ (¬ x3 ≤ ((34 : Int32) - x4) → (post (1 : Int32) S4 A4)))))) S A x1 x4)
def wX_T_takeBlock (post : Int32 → SS → AA → Prop) (S : SS) (A : AA) (x1 x2 : Int32) : Prop :=
  (wX_Dl_toCome (fun r4 S4 A4 => ((0 < r4 → (wX_Dl_isLatest (fun r18 S18 A18 => ((r18 = 0 → (wX_Dl_isNext (fun r35 S35 A35 => ((¬ r35 = 0 → (wX_Dl_toCome (fun r49 S49 A49 => ((x2 ≤ r49 → (wX_Mm_imageOf (fun r65 S65 A65 => (wX_Dl_addBlock (fun S82 A82 => (wX_Mm_write_4 (fun r99 S99 A99 => ((¬ r99 = 0 → (wX_Mm_holds_4 (fun r121 S121 A121 => ((r121 = 0 → (post (114 : Int32) S121 A121)) ∧ (¬ r121 = 0 → (wX_T_doneWith (fun r129 S129 A129 => (post r129 S129 A129)) S121 A121 x1)))) S99 A99 (r65 + (S65 26)) (2 : Int32) x2)) ∧ (r99 = 0 → (post (-1 : Int32) S99 A99)))) S82 A82 (r65 + (S65 26)) (2 : Int32) x2)) S65 A65 x2)) S49 A49 (S49 24))) ∧ (¬ x2 ≤ r49 → (post (49 : Int32) S49 A49)))) S35 A35)) ∧ (r35 = 0 → (post (115 : Int32) S35 A35)))) S18 A18 x1)) ∧ (¬ r18 = 0 → (wX_T_doneWith (fun r26 S26 A26 => (post r26 S26 A26)) S18 A18 x1)))) S4 A4 x1)) ∧ (¬ 0 < r4 → (post (36 : Int32) S4 A4)))) S A)
def wX_Lk_countWrongKey (post : Int32 → SS → AA → Prop) (S : SS) (A : AA) : Prop :=
  (((2 : Int32) ≤ ((S 21) + (1 : Int32)) → (post (1 : Int32) (va_up (va_up (va_up S 21 ((S 21) + (1 : Int32))) 21 (0 : Int32)) 22 (8 : Int32)) A)) ∧ (¬ (2 : Int32) ≤ ((S 21) + (1 : Int32)) → (post (0 : Int32) (va_up S 21 ((S 21) + (1 : Int32))) A)))
def wX_Lk_open (post : SS → AA → Prop) (S : SS) (A : AA) : Prop :=
  (post (va_up (va_up S 18 (1 : Int32)) 21 (0 : Int32)) A)
def wX_T_tryKey (post : Int32 → SS → AA → Prop) (S : SS) (A : AA) (x1 : Int32) : Prop :=
  (wX_Lk_takeOpenSeed (fun r4 S4 A4 => ((¬ r4 = 0 → ((¬ x1 = ((((5 : Int32) * r4) + (3 : Int32)) &&& (255 : Int32)) → (wX_Lk_countWrongKey (fun r45 S45 A45 => ((r45 = 0 → (post (53 : Int32) S45 A45)) ∧ (¬ r45 = 0 → (post (54 : Int32) S45 A45)))) S4 A4)) ∧ (x1 = ((((5 : Int32) * r4) + (3 : Int32)) &&& (255 : Int32)) → (wX_Lk_open (fun S32 A32 => (wX_T_doneWith (fun r37 S37 A37 => (post r37 S37 A37)) S32 A32 (2 : Int32))) S4 A4)))) ∧ (r4 = 0 → (post (36 : Int32) S4 A4)))) S A)
def wX_T_serve (post : Int32 → SS → AA → Prop) (S : SS) (A : AA) (x1 : Int32) : Prop :=
  ((x1 = (16 : Int32) → (wX_Rc_at (fun r82 S82 A82 => (wX_T_changeSession (fun S85 A85 => (wX_Rc_at (fun r94 S94 A94 => (wX_T_doneWith (fun r97 S97 A97 => (post r97 S97 A97)) S94 A94 r94)) S85 A85 (1 : Int32))) S82 A82 r82)) S A (1 : Int32))) ∧ (¬ x1 = (16 : Int32) → ((x1 = (34 : Int32) → (wX_Rc_at (fun r139 S139 A139 => (wX_T_read (fun r142 S142 A142 => (post r142 S142 A142)) S139 A139 r139)) S A (1 : Int32))) ∧ (¬ x1 = (34 : Int32) → ((x1 = (39 : Int32) → (wX_Rc_at (fun r106 S106 A106 => ((¬ r106 = (1 : Int32) → (wX_Rc_at (fun r126 S126 A126 => (wX_T_tryKey (fun r129 S129 A129 => (post r129 S129 A129)) S126 A126 r126)) S106 A106 (2 : Int32))) ∧ (r106 = (1 : Int32) → (wX_T_giveSeed (fun r114 S114 A114 => (post r114 S114 A114)) S106 A106)))) S A (1 : Int32))) ∧ (¬ x1 = (39 : Int32) → ((x1 = (46 : Int32) → (wX_Rc_at (fun r152 S152 A152 => (wX_T_doneWith (fun r160 S160 A160 => (post r160 S160 A160)) (va_up S152 3 r152) A152 (1 : Int32))) S A (2 : Int32))) ∧ (¬ x1 = (46 : Int32) → ((x1 = (49 : Int32) → (wX_Rc_at (fun r170 S170 A170 => (wX_Rc_at (fun r178 S178 A178 => (wX_T_runRoutine (fun r181 S181 A181 => (post r181 S181 A181)) S178 A178 r170 r178)) S170 A170 (3 : Int32))) S A (2 : Int32))) ∧ (¬ x1 = (49 : Int32) → ((x1 = (52 : Int32) → (wX_Rc_at (fun r191 S191 A191 => (wX_Rc_at (fun r199 S199 A199 => (wX_T_beginDownload (fun r202 S202 A202 => (post r202 S202 A202)) S199 A199 r191 r199)) S191 A191 (2 : Int32))) S A (1 : Int32))) ∧ (¬ x1 = (52 : Int32) → ((x1 = (54 : Int32) → (wX_Rc_at (fun r212 S212 A212 => (wX_T_takeBlock (fun r224 S224 A224 => (post r224 S224 A224)) S212 A212 r212 ((S212 7) - (2 : Int32)))) S A (1 : Int32))) ∧ (¬ x1 = (54 : Int32) → ((x1 = (55 : Int32) → (wX_T_endDownload (fun r229 S229 A229 => (post r229 S229 A229)) S A)) ∧ (¬ x1 = (55 : Int32) → (wX_Rc_at (fun r239 S239 A239 => (wX_T_doneWith (fun r242 S242 A242 => (post r242 S242 A242)) S239 A239 r239)) S A (1 : Int32))))))))))))))))))
def wX_T_workOnRequest_80 (post : SS → AA → Prop) (S : SS) (A : AA) (x1 x2 : Int32) : Prop :=
  (wX_Sd_send (fun S84 A84 => ((¬ x1 = (17 : Int32) → (post S84 A84)) ∧ (x1 = (17 : Int32) → ((¬ x2 = 0 → (post S84 A84)) ∧ (x2 = 0 → (wX_T_boot (fun S98 A98 => (post S98 A98)) S84 A84)))))) S A)
def wX_T_workOnRequest_41 (post : SS → AA → Prop) (S : SS) (A : AA) (x1 x2 : Int32) : Prop :=
  ((¬ x2 = (-1 : Int32) → ((x2 = 0 → (wX_T_workOnRequest_80 post S A x1 x2)) ∧ (¬ x2 = 0 → (wX_Sd_begin (fun S61 A61 => (wX_Sd_add (fun S69 A69 => (wX_Sd_add (fun S77 A77 => (wX_T_workOnRequest_80 post S77 A77 x1 x2)) S69 A69 x2)) S61 A61 x1)) S A (127 : Int32))))) ∧ (x2 = (-1 : Int32) → (wX_T_bootAfresh (fun S47 A47 => (post S47 A47)) S A)))
def wX_T_workOnRequest (post : SS → AA → Prop) (S : SS) (A : AA) : Prop :=
  (wX_Rc_at (fun r10 S10 A10 => (wX_Sd_begin (fun S22 A22 => (wX_T_refusal (fun r27 S27 A27 => ((¬ r27 = 0 → (wX_T_workOnRequest_41 post S27 A27 r10 r27)) ∧ (r27 = 0 → (wX_T_serve (fun r37 S37 A37 => (wX_T_workOnRequest_41 post S37 A37 r10 r37)) S27 A27 r10)))) S22 A22 r10)) S10 A10 (r10 + (64 : Int32)))) (va_up S 4 (0 : Int32)) A (0 : Int32))
def wX_T_frame_80 (post : Int32 → SS → AA → Prop) (S : SS) (A : AA) : Prop :=
  (post (S 17) S A)
def wX_T_frame_33 (post : Int32 → SS → AA → Prop) (S : SS) (A : AA) (x1 x2 : Int32) : Prop :=
  ((¬ (S 15) = 0 → (wX_T_frame_80 post S A)) ∧ ((S 15) = 0 → (wX_Rc_accept (fun r49 S49 A49 => ((¬ r49 = (1 : Int32) → ((¬ r49 = (2 : Int32) → (wX_T_frame_80 post S49 A49)) ∧ (r49 = (2 : Int32) → (wX_T_workOnRequest (fun S77 A77 => (wX_T_frame_80 post S77 A77)) S49 A49)))) ∧ (r49 = (1 : Int32) → (wX_Sd_askForMore (fun S64 A64 => (wX_T_frame_80 post S64 A64)) S49 A49)))) S A x1 x2)))
def wX_T_frame (post : Int32 → SS → AA → Prop) (S : SS) (A : AA) (x1 x2 : Int32) : Prop :=
  (wX_T_byteOf (fun r3 S3 A3 => ((r3 < (48 : Int32) → (wX_T_frame_33 post S3 A3 x1 x2)) ∧ (¬ r3 < (48 : Int32) → (((50 : Int32) < r3 → (wX_T_frame_33 post S3 A3 x1 x2)) ∧ (¬ (50 : Int32) < r3 → (wX_T_byteOf (fun r24 S24 A24 => (wX_T_steerAnswer (fun S27 A27 => (wX_T_frame_80 post S27 A27)) S24 A24 r3 r24)) S3 A3 x1 x2 (1 : Int32))))))) S A x1 x2 (0 : Int32))
def wX_Rw_byteOfFirst (post : Int32 → SS → AA → Prop) (S : SS) (A : AA) (x1 : Int32) : Prop :=
  (vp_in (((S 16) * (8 : Int32)) + x1) 96 ∧ (post ((A 2) (((S 16) * (8 : Int32)) + x1).toNatClampNeg) S A))
def wX_T_peek (post : Int32 → SS → AA → Prop) (S : SS) (A : AA) (x1 : Int32) : Prop :=
  ((x1 < 0 → (post (-1 : Int32) S A)) ∧ (¬ x1 < 0 → (((8 : Int32) ≤ x1 → (post (-1 : Int32) S A)) ∧ (¬ (8 : Int32) ≤ x1 → ((¬ (S 17) = 0 → (wX_Rw_byteOfFirst (fun r27 S27 A27 => (post r27 S27 A27)) S A x1)) ∧ ((S 17) = 0 → (post (-1 : Int32) S A)))))))
def wX_Rw_dropFirst (post : SS → AA → Prop) (S : SS) (A : AA) : Prop :=
  (post (va_up (va_up S 16 (((S 16) + (1 : Int32)) - ((S 16) + (1 : Int32)) / (12 : Int32) * (12 : Int32))) 17 ((S 17) - (1 : Int32))) A)
def wX_T_take (post : Int32 → SS → AA → Prop) (S : SS) (A : AA) : Prop :=
  ((¬ (S 17) = 0 → (wX_Rw_dropFirst (fun S16 A16 => (post (1 : Int32) S16 A16)) S A)) ∧ ((S 17) = 0 → (post (0 : Int32) S A)))
def wX_Lk_shortenDelay (post : SS → AA → Prop) (S : SS) (A : AA) : Prop :=
  (((S 22) = 0 → (post S A)) ∧ (¬ (S 22) = 0 → (post (va_up S 22 ((S 22) - (1 : Int32))) A)))
def wX_Rc_age (post : SS → AA → Prop) (S : SS) (A : AA) : Prop :=
  ((¬ (S 8) = 0 → ((((S 10) + (1 : Int32)) < (4 : Int32) → (post (va_up S 10 ((S 10) + (1 : Int32))) A)) ∧ (¬ ((S 10) + (1 : Int32)) < (4 : Int32) → (wX_Rc_drop (fun S27 A27 => (post S27 A27)) (va_up S 10 ((S 10) + (1 : Int32))) A)))) ∧ ((S 8) = 0 → (post S A)))
def wX_Sd_age (post : SS → AA → Prop) (S : SS) (A : AA) : Prop :=
  ((¬ (S 15) = 0 → ((((S 14) + (1 : Int32)) < (4 : Int32) → (post (va_up S 14 ((S 14) + (1 : Int32))) A)) ∧ (¬ ((S 14) + (1 : Int32)) < (4 : Int32) → (wX_Sd_drop (fun S27 A27 => (post S27 A27)) (va_up S 14 ((S 14) + (1 : Int32))) A)))) ∧ ((S 15) = 0 → (post S A)))
def wX_T_tick_66 (post : SS → AA → Prop) (S : SS) (A : AA) : Prop :=
  (wX_Lk_shortenDelay (fun S70 A70 => (post S70 A70)) S A)
def wX_T_tick (post : SS → AA → Prop) (S : SS) (A : AA) : Prop :=
  (wX_Rc_age (fun S4 A4 => (wX_Sd_age (fun S11 A11 => ((¬ (S11 1) = (2 : Int32) → (wX_T_tick_66 post (va_up S11 4 ((S11 4) + (1 : Int32))) A11)) ∧ ((S11 1) = (2 : Int32) → ((((S11 4) + (1 : Int32)) < (10 : Int32) → (wX_T_tick_66 post (va_up S11 4 ((S11 4) + (1 : Int32))) A11)) ∧ (¬ ((S11 4) + (1 : Int32)) < (10 : Int32) → ((¬ (S11 8) = 0 → (wX_T_tick_66 post (va_up S11 4 ((S11 4) + (1 : Int32))) A11)) ∧ ((S11 8) = 0 → ((¬ (S11 15) = 0 → (wX_T_tick_66 post (va_up S11 4 ((S11 4) + (1 : Int32))) A11)) ∧ ((S11 15) = 0 → (wX_T_changeSession (fun S63 A63 => (wX_T_tick_66 post S63 A63)) (va_up S11 4 ((S11 4) + (1 : Int32))) A11 (1 : Int32))))))))))) S4 A4)) S A)
def wX_Mm_orderCut (post : SS → AA → Prop) (S : SS) (A : AA) (x1 : Int32) : Prop :=
  (post (va_up (va_up S 5 (1 : Int32)) 6 x1) A)
def wX_T_cut (post : SS → AA → Prop) (S : SS) (A : AA) (x1 : Int32) : Prop :=
  (wX_Mm_orderCut (fun S5 A5 => (post S5 A5)) S A x1)
def wX_T_restart (post : SS → AA → Prop) (S : SS) (A : AA) : Prop :=
  (wX_T_bootAfresh (fun S1 A1 => (post S1 A1)) S A)
def wX_T_flash (post : Int32 → SS → AA → Prop) (S : SS) (A : AA) (x1 : Int32) : Prop :=
  (wX_Mm_has (fun r6 S6 A6 => ((r6 = 0 → (post (-1 : Int32) S6 A6)) ∧ (¬ r6 = 0 → (vp_in x1 96 ∧ (post ((A6 0) x1.toNatClampNeg) S6 A6))))) S A x1 (1 : Int32))
def wX_T_word_18B (post : Int32 → SS → AA → Prop) (X18 : SS → AA → Int32 → Int32 → Int32 → Prop) (S : SS) (A : AA) (x1 x2 x3 : Int32) : Prop :=
  (((4 : Int32) ≤ x3 → (post x2 S A)) ∧ (¬ (4 : Int32) ≤ x3 → (vp_in (x1 + x3) 96 ∧ (X18 S A x1 ((x2 <<< ((8 : Int32) &&& 31)) ||| ((A 0) (x1 + x3).toNatClampNeg)) (x3 + (1 : Int32))))))
def wX_T_word_18 (post : Int32 → SS → AA → Prop) (S : SS) (A : AA) (x1 x2 x3 : Int32) : Prop :=
  ∀ X18 : SS → AA → Int32 → Int32 → Int32 → Prop, (∀ (S : SS) (A : AA) (x1 x2 x3 : Int32), wX_T_word_18B post X18 S A x1 x2 x3 → X18 S A x1 x2 x3) → X18 S A x1 x2 x3
def wX_T_word (post : Int32 → SS → AA → Prop) (S : SS) (A : AA) (x1 : Int32) : Prop :=
  (wX_Mm_has (fun r6 S6 A6 => ((¬ r6 = 0 → (wX_T_word_18 post S6 A6 x1 (0 : Int32) (0 : Int32))) ∧ (r6 = 0 → (post (0 : Int32) S6 A6)))) S A x1 (4 : Int32))
def wX_Sd_toSend (post : Int32 → SS → AA → Prop) (S : SS) (A : AA) : Prop :=
  (((S 15) = 0 → (post (0 : Int32) S A)) ∧ (¬ (S 15) = 0 → (post ((S 11) - (S 12)) S A)))
def wX_T_state (post : Int32 → SS → AA → Prop) (S : SS) (A : AA) (x1 : Int32) : Prop :=
  ((x1 = (0 : Int32) → (post (S 0) S A)) ∧ (¬ x1 = (0 : Int32) → ((x1 = (1 : Int32) → (post (S 1) S A)) ∧ (¬ x1 = (1 : Int32) → ((x1 = (2 : Int32) → (((S 18) = 0 → (post (0 : Int32) S A)) ∧ (¬ (S 18) = 0 → (post (1 : Int32) S A)))) ∧ (¬ x1 = (2 : Int32) → ((x1 = (3 : Int32) → (wX_Dl_toCome (fun r82 S82 A82 => (post r82 S82 A82)) S A)) ∧ (¬ x1 = (3 : Int32) → ((x1 = (4 : Int32) → (((S 5) = 0 → (post (0 : Int32) S A)) ∧ (¬ (S 5) = 0 → (post (1 : Int32) S A)))) ∧ (¬ x1 = (4 : Int32) → ((x1 = (5 : Int32) → (post (S 2) S A)) ∧ (¬ x1 = (5 : Int32) → ((x1 = (6 : Int32) → (post (S 8) S A)) ∧ (¬ x1 = (6 : Int32) → ((x1 = (7 : Int32) → (wX_Sd_toSend (fun r119 S119 A119 => (post r119 S119 A119)) S A)) ∧ (¬ x1 = (7 : Int32) → ((x1 = (8 : Int32) → (post (S 22) S A)) ∧ (¬ x1 = (8 : Int32) → (post (-1 : Int32) S A)))))))))))))))))))
def wM_M_dropAnswer (post : SS → AA → Prop) (S : SS) (A : AA) : Prop :=
  (post (va_up (va_up S 20 (0 : Int32)) 21 (0 : Int32)) A)
def wM_M_emit_152 (post : SS → AA → Prop) (S : SS) (A : AA) (x4 : Int32) : Prop :=
  (post (va_up S 21 ((S 21) + x4)) A)
def wM_M_emit_107B (post : SS → AA → Prop) (X107 : SS → AA → Int32 → Int32 → Int32 → Prop) (S : SS) (A : AA) (x4 x5 x6 : Int32) : Prop :=
  ((x4 ≤ x6 → (wM_M_emit_152 post (va_up S 24 ((S 24) + (1 : Int32))) A x4)) ∧ (¬ x4 ≤ x6 → (vp_in ((S 21) + x6) 20 ∧ (vp_in (x5 + x6) 96 ∧ (X107 S (va_up A 3 (upd (A 3) (x5 + x6).toNatClampNeg ((A 2) ((S 21) + x6).toNatClampNeg))) x4 x5 (x6 + (1 : Int32)))))))
def wM_M_emit_107 (post : SS → AA → Prop) (S : SS) (A : AA) (x4 x5 x6 : Int32) : Prop :=
  ∀ X107 : SS → AA → Int32 → Int32 → Int32 → Prop, (∀ (S : SS) (A : AA) (x4 x5 x6 : Int32), wM_M_emit_107B post X107 S A x4 x5 x6 → X107 S A x4 x5 x6) → X107 S A x4 x5 x6
def wM_M_emit_104 (post : SS → AA → Prop) (S : SS) (A : AA) (x4 x5 : Int32) : Prop :=
  (wM_M_emit_107 post S A x4 x5 (0 : Int32))
def wM_M_emit_40B (post : SS → AA → Prop) (X40 : SS → AA → Int32 → Int32 → Int32 → Int32 → Prop) (S : SS) (A : AA) (x1 x2 x4 x5 : Int32) : Prop :=
  (((8 : Int32) ≤ x5 → (vp_in ((8 : Int32) * (S 24)) 96 ∧ ((x2 < 0 → (wM_M_emit_104 post S (va_up A 3 (upd (A 3) ((8 : Int32) * (S 24)).toNatClampNeg x1)) x4 (((8 : Int32) * (S 24)) + (1 : Int32)))) ∧ (¬ x2 < 0 → (vp_in (((8 : Int32) * (S 24)) + (1 : Int32)) 96 ∧ (wM_M_emit_104 post S (va_up (va_up A 3 (upd (A 3) ((8 : Int32) * (S 24)).toNatClampNeg x1)) 3 (upd (upd (A 3) ((8 : Int32) * (S 24)).toNatClampNeg x1) (((8 : Int32) * (S 24)) + (1 : Int32)).toNatClampNeg x2)) x4 ((((8 : Int32) * (S 24)) + (1 : Int32)) + (1 : Int32)))))))) ∧ (¬ (8 : Int32) ≤ x5 → (vp_in (((8 : Int32) * (S 24)) + x5) 96 ∧ (X40 S (va_up A 3 (upd (A 3) (((8 : Int32) * (S 24)) + x5).toNatClampNeg (0 : Int32))) x1 x2 x4 (x5 + (1 : Int32))))))
def wM_M_emit_40 (post : SS → AA → Prop) (S : SS) (A : AA) (x1 x2 x4 x5 : Int32) : Prop :=
  ∀ X40 : SS → AA → Int32 → Int32 → Int32 → Int32 → Prop, (∀ (S : SS) (A : AA) (x1 x2 x4 x5 : Int32), wM_M_emit_40B post X40 S A x1 x2 x4 x5 → X40 S A x1 x2 x4 x5) → X40 S A x1 x2 x4 x5
def wM_M_emit_26 (post : SS → AA → Prop) (S : SS) (A : AA) (x1 x2 y0 : Int32) : Prop :=
  (((12 : Int32) ≤ (S 24) → (wM_M_emit_152 post S A y0)) ∧ (¬ (12 : Int32) ≤ (S 24) → (wM_M_emit_40 post S A x1 x2 y0 (0 : Int32))))
def wM_M_emit (post : SS → AA → Prop) (S : SS) (A : AA) (x1 x2 x3 : Int32) : Prop :=
  ((x3 ≤ ((S 20) - (S 21)) → (wM_M_emit_26 post S A x1 x2 x3)) ∧ (¬ x3 ≤ ((S 20) - (S 21)) → (wM_M_emit_26 post S A x1 x2 ((S 20) - (S 21)))))
def wM_M_sendMore_55 (post : SS → AA → Prop) (S : SS) (A : AA) : Prop :=
  ((¬ (S 21) = (S 20) → (post (va_up S 23 (0 : Int32)) A)) ∧ ((S 21) = (S 20) → (wM_M_dropAnswer (fun S72 A72 => (post S72 A72)) (va_up S 23 (0 : Int32)) A)))
def wM_M_sendMore_22 (post : SS → AA → Prop) (X2 : SS → AA → Int32 → Int32 → Prop) (S : SS) (A : AA) (x1 x2 : Int32) : Prop :=
  (wM_M_emit (fun S46 A46 => (X2 S46 A46 x1 (x2 + (1 : Int32)))) (va_up S 22 (((S 22) + (1 : Int32)) - ((S 22) + (1 : Int32)) / (16 : Int32) * (16 : Int32))) A ((32 : Int32) + (((S 22) + (1 : Int32)) - ((S 22) + (1 : Int32)) / (16 : Int32) * (16 : Int32))) (-1 : Int32) (7 : Int32))
def wM_M_sendMore_2B (post : SS → AA → Prop) (X2 : SS → AA → Int32 → Int32 → Prop) (S : SS) (A : AA) (x1 x2 : Int32) : Prop :=
  (((S 20) ≤ (S 21) → (wM_M_sendMore_55 post S A)) ∧ (¬ (S 20) ≤ (S 21) → ((x1 = 0 → (wM_M_sendMore_22 post X2 S A x1 x2)) ∧ (¬ x1 = 0 → ((x1 ≤ x2 → (wM_M_sendMore_55 post S A)) ∧ (¬ x1 ≤ x2 → (wM_M_sendMore_22 post X2 S A x1 x2)))))))
def wM_M_sendMore_2 (post : SS → AA → Prop) (S : SS) (A : AA) (x1 x2 : Int32) : Prop :=
  ∀ X2 : SS → AA → Int32 → Int32 → Prop, (∀ (S : SS) (A : AA) (x1 x2 : Int32), wM_M_sendMore_2B post X2 S A x1 x2 → X2 S A x1 x2) → X2 S A x1 x2
def wM_M_sendMore (post : SS → AA → Prop) (S : SS) (A : AA) (x1 : Int32) : Prop :=
  (wM_M_sendMore_2 post S A x1 (0 : Int32))
def wM_M_answerFrame (post : SS → AA → Prop) (S : SS) (A : AA) : Prop :=
  (vp_in (0 : Int32) 8 ∧ ((¬ ((A 4) (0 : Int32).toNatClampNeg) = (48 : Int32) → (vp_in (0 : Int32) 8 ∧ ((¬ ((A 4) (0 : Int32).toNatClampNeg) = (49 : Int32) → (vp_in (0 : Int32) 8 ∧ ((¬ ((A 4) (0 : Int32).toNatClampNeg) = (50 : Int32) → (post S A)) ∧ (((A 4) (0 : Int32).toNatClampNeg) = (50 : Int32) → (wM_M_dropAnswer (fun S55 A55 => (post S55 A55)) S A))))) ∧ (((A 4) (0 : Int32).toNatClampNeg) = (49 : Int32) → (post (va_up S 23 (0 : Int32)) A))))) ∧ (((A 4) (0 : Int32).toNatClampNeg) = (48 : Int32) → (vp_in (1 : Int32) 8 ∧ (wM_M_sendMore (fun S18 A18 => (post S18 A18)) S A ((A 4) (1 : Int32).toNatClampNeg))))))
def wM_M_askMore (post : SS → AA → Prop) (S : SS) (A : AA) : Prop :=
  (wM_M_dropAnswer (fun S1 A1 => (wM_M_emit (fun S9 A9 => (post S9 A9)) S1 A1 (48 : Int32) (2 : Int32) (0 : Int32))) S A)
def wM_M_takeBytes_50 (post : SS → AA → Prop) (S : SS) (A : AA) : Prop :=
  (post (va_up S 19 (0 : Int32)) A)
def wM_M_takeBytes_2B (post : SS → AA → Prop) (X2 : SS → AA → Int32 → Prop) (S : SS) (A : AA) (x2 : Int32) : Prop :=
  (((8 : Int32) ≤ x2 → (wM_M_takeBytes_50 post S A)) ∧ (¬ (8 : Int32) ≤ x2 → (((S 16) ≤ (S 17) → (wM_M_takeBytes_50 post S A)) ∧ (¬ (S 16) ≤ (S 17) → (vp_in x2 8 ∧ (vp_in (S 17) 34 ∧ (X2 (va_up S 17 ((S 17) + (1 : Int32))) (va_up A 1 (upd (A 1) (S 17).toNatClampNeg ((A 4) x2.toNatClampNeg))) (x2 + (1 : Int32)))))))))
def wM_M_takeBytes_2 (post : SS → AA → Prop) (S : SS) (A : AA) (x2 : Int32) : Prop :=
  ∀ X2 : SS → AA → Int32 → Prop, (∀ (S : SS) (A : AA) (x2 : Int32), wM_M_takeBytes_2B post X2 S A x2 → X2 S A x2) → X2 S A x2
def wM_M_takeBytes (post : SS → AA → Prop) (S : SS) (A : AA) (x1 : Int32) : Prop :=
  (wM_M_takeBytes_2 post S A x1)
def wM_M_beginRequest (post : SS → AA → Prop) (S : SS) (A : AA) (x1 x2 : Int32) : Prop :=
  (wM_M_takeBytes (fun S17 A17 => (post S17 A17)) (va_up (va_up (va_up S 16 x1) 17 (0 : Int32)) 18 (0 : Int32)) A x2)
def wM_M_add (post : SS → AA → Prop) (S : SS) (A : AA) (x1 : Int32) : Prop :=
  (vp_in (S 20) 20 ∧ (post (va_up S 20 ((S 20) + (1 : Int32))) (va_up A 2 (upd (A 2) (S 20).toNatClampNeg x1))))
def wM_M_hasPart_68 (post : Int32 → SS → AA → Prop) (S : SS) (A : AA) : Prop :=
  (post (1 : Int32) S A)
def wM_M_hasPart_63 (post : Int32 → SS → AA → Prop) (S : SS) (A : AA) (x2 : Int32) : Prop :=
  ((¬ x2 = (1 : Int32) → (post (0 : Int32) S A)) ∧ (x2 = (1 : Int32) → (wM_M_hasPart_68 post S A)))
def wM_M_hasPart_29 (post : Int32 → SS → AA → Prop) (S : SS) (A : AA) : Prop :=
  (post (1 : Int32) S A)
def wM_M_hasPart_19 (post : Int32 → SS → AA → Prop) (S : SS) (A : AA) (x2 : Int32) : Prop :=
  ((x2 = (1 : Int32) → (wM_M_hasPart_29 post S A)) ∧ (¬ x2 = (1 : Int32) → ((¬ x2 = (2 : Int32) → (post (0 : Int32) S A)) ∧ (x2 = (2 : Int32) → (wM_M_hasPart_29 post S A)))))
def wM_M_hasPart (post : Int32 → SS → AA → Prop) (S : SS) (A : AA) (x1 : Int32) : Prop :=
  (vp_in (1 : Int32) 34 ∧ ((x1 = (16 : Int32) → (wM_M_hasPart_19 post S A ((A 1) (1 : Int32).toNatClampNeg))) ∧ (¬ x1 = (16 : Int32) → ((¬ x1 = (39 : Int32) → ((¬ x1 = (62 : Int32) → ((x1 = (17 : Int32) → (wM_M_hasPart_63 post S A ((A 1) (1 : Int32).toNatClampNeg))) ∧ (¬ x1 = (17 : Int32) → ((¬ x1 = (49 : Int32) → (wM_M_hasPart_68 post S A)) ∧ (x1 = (49 : Int32) → (wM_M_hasPart_63 post S A ((A 1) (1 : Int32).toNatClampNeg))))))) ∧ (x1 = (62 : Int32) → ((¬ ((A 1) (1 : Int32).toNatClampNeg) = 0 → (post (0 : Int32) S A)) ∧ (((A 1) (1 : Int32).toNatClampNeg) = 0 → (post (1 : Int32) S A)))))) ∧ (x1 = (39 : Int32) → (wM_M_hasPart_19 post S A ((A 1) (1 : Int32).toNatClampNeg)))))))
def wM_M_isLong_162 (post : Int32 → SS → AA → Prop) (S : SS) (A : AA) (y0 y1 : Int32) : Prop :=
  ((¬ y1 = y0 → (post (0 : Int32) S A)) ∧ (y1 = y0 → (post (1 : Int32) S A)))
def wM_M_isLong_161 (post : Int32 → SS → AA → Prop) (S : SS) (A : AA) (y0 : Int32) : Prop :=
  (wM_M_isLong_162 post S A (4 : Int32) y0)
def wM_M_isLong_120 (post : Int32 → SS → AA → Prop) (S : SS) (A : AA) : Prop :=
  ((¬ (S 17) = (3 : Int32) → (post (0 : Int32) S A)) ∧ ((S 17) = (3 : Int32) → (post (1 : Int32) S A)))
def wM_M_isLong_111 (post : Int32 → SS → AA → Prop) (S : SS) (A : AA) (y0 y1 : Int32) : Prop :=
  ((¬ y1 = y0 → (post (0 : Int32) S A)) ∧ (y1 = y0 → (post (1 : Int32) S A)))
def wM_M_isLong_110 (post : Int32 → SS → AA → Prop) (S : SS) (A : AA) (y0 : Int32) : Prop :=
  (wM_M_isLong_111 post S A (2 : Int32) y0)
def wM_M_isLong (post : Int32 → SS → AA → Prop) (S : SS) (A : AA) (x1 : Int32) : Prop :=
  ((x1 = (39 : Int32) → (((S 17) ≤ (1 : Int32) → (wM_M_isLong_110 post S A (S 17))) ∧ (¬ (S 17) ≤ (1 : Int32) → (vp_in (1 : Int32) 34 ∧ ((¬ ((A 1) (1 : Int32).toNatClampNeg) = (2 : Int32) → (wM_M_isLong_110 post S A (S 17))) ∧ (((A 1) (1 : Int32).toNatClampNeg) = (2 : Int32) → (wM_M_isLong_111 post S A (3 : Int32) (S 17)))))))) ∧ (¬ x1 = (39 : Int32) → ((x1 = (46 : Int32) → (wM_M_isLong_120 post S A)) ∧ (¬ x1 = (46 : Int32) → ((x1 = (49 : Int32) → (((S 17) ≤ (2 : Int32) → (wM_M_isLong_161 post S A (S 17))) ∧ (¬ (S 17) ≤ (2 : Int32) → (vp_in (2 : Int32) 34 ∧ ((¬ ((A 1) (2 : Int32).toNatClampNeg) = (2 : Int32) → (wM_M_isLong_161 post S A (S 17))) ∧ (((A 1) (2 : Int32).toNatClampNeg) = (2 : Int32) → (wM_M_isLong_162 post S A (6 : Int32) (S 17)))))))) ∧ (¬ x1 = (49 : Int32) → ((x1 = (52 : Int32) → (wM_M_isLong_120 post S A)) ∧ (¬ x1 = (52 : Int32) → ((x1 = (54 : Int32) → (((S 17) < (3 : Int32) → (post (0 : Int32) S A)) ∧ (¬ (S 17) < (3 : Int32) → (((10 : Int32) < (S 17) → (post (0 : Int32) S A)) ∧ (¬ (10 : Int32) < (S 17) → (post (1 : Int32) S A)))))) ∧ (¬ x1 = (54 : Int32) → ((x1 = (55 : Int32) → ((¬ (S 17) = (1 : Int32) → (post (0 : Int32) S A)) ∧ ((S 17) = (1 : Int32) → (post (1 : Int32) S A)))) ∧ (¬ x1 = (55 : Int32) → ((¬ (S 17) = (2 : Int32) → (post (0 : Int32) S A)) ∧ ((S 17) = (2 : Int32) → (post (1 : Int32) S A)))))))))))))))
def wM_M_isService_60 (post : Int32 → SS → AA → Prop) (S : SS) (A : AA) : Prop :=
  (post (1 : Int32) S A)
def wM_M_isService (post : Int32 → SS → AA → Prop) (S : SS) (A : AA) (x1 : Int32) : Prop :=
  ((x1 = (16 : Int32) → (wM_M_isService_60 post S A)) ∧ (¬ x1 = (16 : Int32) → ((x1 = (62 : Int32) → (wM_M_isService_60 post S A)) ∧ (¬ x1 = (62 : Int32) → ((x1 = (17 : Int32) → (wM_M_isService_60 post S A)) ∧ (¬ x1 = (17 : Int32) → ((x1 = (39 : Int32) → (wM_M_isService_60 post S A)) ∧ (¬ x1 = (39 : Int32) → ((x1 = (34 : Int32) → (wM_M_isService_60 post S A)) ∧ (¬ x1 = (34 : Int32) → ((x1 = (46 : Int32) → (wM_M_isService_60 post S A)) ∧ (¬ x1 = (46 : Int32) → ((x1 = (49 : Int32) → (wM_M_isService_60 post S A)) ∧ (¬ x1 = (49 : Int32) → ((x1 = (52 : Int32) → (wM_M_isService_60 post S A)) ∧ (¬ x1 = (52 : Int32) → ((x1 = (54 : Int32) → (wM_M_isService_60 post S A)) ∧ (¬ x1 = (54 : Int32) → ((¬ x1 = (55 : Int32) → (post (0 : Int32) S A)) ∧ (x1 = (55 : Int32) → (wM_M_isService_60 post S A)))))))))))))))))))))
def wM_M_against_97 (post : Int32 → SS → AA → Prop) (S : SS) (A : AA) (x2 : Int32) : Prop :=
  ((¬ (S 4) = 0 → (post (0 : Int32) S A)) ∧ ((S 4) = 0 → ((x2 = 0 → (post (0 : Int32) S A)) ∧ (¬ x2 = 0 → (post (51 : Int32) S A)))))
def wM_M_against_75 (post : Int32 → SS → AA → Prop) (S : SS) (A : AA) (x1 y0 : Int32) : Prop :=
  ((¬ (S 3) = (1 : Int32) → (wM_M_against_97 post S A y0)) ∧ ((S 3) = (1 : Int32) → ((¬ y0 = 0 → (post (127 : Int32) S A)) ∧ (y0 = 0 → ((¬ x1 = (39 : Int32) → (wM_M_against_97 post S A y0)) ∧ (x1 = (39 : Int32) → (post (127 : Int32) S A)))))))
def wM_M_against_70 (post : Int32 → SS → AA → Prop) (S : SS) (A : AA) (x1 : Int32) : Prop :=
  (wM_M_against_75 post S A x1 (1 : Int32))
def wM_M_against (post : Int32 → SS → AA → Prop) (S : SS) (A : AA) : Prop :=
  (vp_in (0 : Int32) 34 ∧ (wM_M_isService (fun r9 S9 A9 => ((¬ r9 = 0 → (wM_M_isLong (fun r20 S20 A20 => ((¬ r20 = 0 → (wM_M_hasPart (fun r31 S31 A31 => ((¬ r31 = 0 → ((((A 1) (0 : Int32).toNatClampNeg) = (46 : Int32) → (wM_M_against_70 post S31 A31 ((A 1) (0 : Int32).toNatClampNeg))) ∧ (¬ ((A 1) (0 : Int32).toNatClampNeg) = (46 : Int32) → ((((A 1) (0 : Int32).toNatClampNeg) = (49 : Int32) → (wM_M_against_70 post S31 A31 ((A 1) (0 : Int32).toNatClampNeg))) ∧ (¬ ((A 1) (0 : Int32).toNatClampNeg) = (49 : Int32) → ((((A 1) (0 : Int32).toNatClampNeg) = (52 : Int32) → (wM_M_against_70 post S31 A31 ((A 1) (0 : Int32).toNatClampNeg))) ∧ (¬ ((A 1) (0 : Int32).toNatClampNeg) = (52 : Int32) → ((((A 1) (0 : Int32).toNatClampNeg) = (54 : Int32) → (wM_M_against_70 post S31 A31 ((A 1) (0 : Int32).toNatClampNeg))) ∧ (¬ ((A 1) (0 : Int32).toNatClampNeg) = (54 : Int32) → ((¬ ((A 1) (0 : Int32).toNatClampNeg) = (55 : Int32) → (wM_M_against_75 post S31 A31 ((A 1) (0 : Int32).toNatClampNeg) (0 : Int32))) ∧ (((A 1) (0 : Int32).toNatClampNeg) = (55 : Int32) → (wM_M_against_70 post S31 A31 ((A 1) (0 : Int32).toNatClampNeg))))))))))))) ∧ (r31 = 0 → (post (18 : Int32) S31 A31)))) S20 A20 ((A 1) (0 : Int32).toNatClampNeg))) ∧ (r20 = 0 → (post (19 : Int32) S20 A20)))) S9 A9 ((A 1) (0 : Int32).toNatClampNeg))) ∧ (r9 = 0 → (post (17 : Int32) S9 A9)))) S A ((A 1) (0 : Int32).toNatClampNeg)))
def wM_M_sumOf_64 (post : Int32 → SS → AA → Prop) (X8 : SS → AA → Int32 → Int32 → Int32 → Prop) (X35 : SS → AA → Int32 → Int32 → Int32 → Int32 → Prop) (S : SS) (A : AA) (x1 x3 x4 y0 : Int32) : Prop :=
  (X35 S A x1 y0 x3 (x4 + (1 : Int32)))
def wM_M_sumOf_35B (post : Int32 → SS → AA → Prop) (X8 : SS → AA → Int32 → Int32 → Int32 → Prop) (X35 : SS → AA → Int32 → Int32 → Int32 → Int32 → Prop) (S : SS) (A : AA) (x1 x2 x3 x4 : Int32) : Prop :=
  (((8 : Int32) ≤ x4 → (X8 S A x1 x2 (x3 + (1 : Int32)))) ∧ (¬ (8 : Int32) ≤ x4 → ((x2 < (32768 : Int32) → (wM_M_sumOf_64 post X8 X35 S A x1 x3 x4 (x2 * (2 : Int32)))) ∧ (¬ x2 < (32768 : Int32) → (wM_M_sumOf_64 post X8 X35 S A x1 x3 x4 (((x2 * (2 : Int32)) - (65536 : Int32)) ^^^ (4129 : Int32)))))))
def wM_M_sumOf_35 (post : Int32 → SS → AA → Prop) (X8 : SS → AA → Int32 → Int32 → Int32 → Prop) (S : SS) (A : AA) (x1 x2 x3 x4 : Int32) : Prop :=
  ∀ X35 : SS → AA → Int32 → Int32 → Int32 → Int32 → Prop, (∀ (S : SS) (A : AA) (x1 x2 x3 x4 : Int32), wM_M_sumOf_35B post X8 X35 S A x1 x2 x3 x4 → X35 S A x1 x2 x3 x4) → X35 S A x1 x2 x3 x4
def wM_M_sumOf_8B (post : Int32 → SS → AA → Prop) (X8 : SS → AA → Int32 → Int32 → Int32 → Prop) (S : SS) (A : AA) (x1 x2 x3 : Int32) : Prop :=
  (((((48 : Int32) * x1) + (32 : Int32)) ≤ x3 → (post x2 S A)) ∧ (¬ (((48 : Int32) * x1) + (32 : Int32)) ≤ x3 → (vp_in x3 96 ∧ (wM_M_sumOf_35 post X8 S A x1 (x2 ^^^ (((A 0) x3.toNatClampNeg) * (256 : Int32))) x3 (0 : Int32)))))
def wM_M_sumOf_8 (post : Int32 → SS → AA → Prop) (S : SS) (A : AA) (x1 x2 x3 : Int32) : Prop :=
  ∀ X8 : SS → AA → Int32 → Int32 → Int32 → Prop, (∀ (S : SS) (A : AA) (x1 x2 x3 : Int32), wM_M_sumOf_8B post X8 S A x1 x2 x3 → X8 S A x1 x2 x3) → X8 S A x1 x2 x3
def wM_M_sumOf (post : Int32 → SS → AA → Prop) (S : SS) (A : AA) (x1 : Int32) : Prop :=
  (wM_M_sumOf_8 post S A x1 (65535 : Int32) ((48 : Int32) * x1))
def wM_M_isGood (post : Int32 → SS → AA → Prop) (S : SS) (A : AA) (x1 : Int32) : Prop :=
  (vp_in (((48 : Int32) * x1) + (32 : Int32)) 96 ∧ ((¬ ((A 0) (((48 : Int32) * x1) + (32 : Int32)).toNatClampNeg) = 0 → (post (0 : Int32) S A)) ∧ (((A 0) (((48 : Int32) * x1) + (32 : Int32)).toNatClampNeg) = 0 → (vp_in ((((48 : Int32) * x1) + (32 : Int32)) + (2 : Int32)) 96 ∧ (vp_in ((((48 : Int32) * x1) + (32 : Int32)) + (3 : Int32)) 96 ∧ (wM_M_sumOf (fun r40 S40 A40 => ((¬ ((((A 0) ((((48 : Int32) * x1) + (32 : Int32)) + (2 : Int32)).toNatClampNeg) * (256 : Int32)) + ((A 0) ((((48 : Int32) * x1) + (32 : Int32)) + (3 : Int32)).toNatClampNeg)) = r40 → (post (0 : Int32) S40 A40)) ∧ (((((A 0) ((((48 : Int32) * x1) + (32 : Int32)) + (2 : Int32)).toNatClampNeg) * (256 : Int32)) + ((A 0) ((((48 : Int32) * x1) + (32 : Int32)) + (3 : Int32)).toNatClampNeg)) = r40 → (post (1 : Int32) S40 A40)))) S A x1))))))
def wM_M_bestSlot_47 (post : Int32 → SS → AA → Prop) (S : SS) (A : AA) : Prop :=
  (post (1 : Int32) S A)
def wM_M_bestSlot_22 (post : Int32 → SS → AA → Prop) (S : SS) (A : AA) (x1 x2 : Int32) : Prop :=
  ((x1 = 0 → (wM_M_bestSlot_47 post S A)) ∧ (¬ x1 = 0 → ((x2 = 0 → (post (0 : Int32) S A)) ∧ (¬ x2 = 0 → (vp_in (81 : Int32) 96 ∧ (vp_in (33 : Int32) 96 ∧ ((((A 0) (81 : Int32).toNatClampNeg) ≤ ((A 0) (33 : Int32).toNatClampNeg) → (post (0 : Int32) S A)) ∧ (¬ ((A 0) (81 : Int32).toNatClampNeg) ≤ ((A 0) (33 : Int32).toNatClampNeg) → (wM_M_bestSlot_47 post S A)))))))))
def wM_M_bestSlot (post : Int32 → SS → AA → Prop) (S : SS) (A : AA) : Prop :=
  (wM_M_isGood (fun r2 S2 A2 => (wM_M_isGood (fun r8 S8 A8 => ((¬ r2 = 0 → (wM_M_bestSlot_22 post S8 A8 r2 r8)) ∧ (r2 = 0 → ((¬ r8 = 0 → (wM_M_bestSlot_22 post S8 A8 r2 r8)) ∧ (r8 = 0 → (post (-1 : Int32) S8 A8)))))) S2 A2 (1 : Int32))) S A (0 : Int32))
def wM_M_changeSession (post : SS → AA → Prop) (S : SS) (A : AA) (x1 : Int32) : Prop :=
  (post (va_up (va_up (va_up (va_up S 3 x1) 4 (0 : Int32)) 8 (0 : Int32)) 12 (-1 : Int32)) A)
def wM_M_dropRequest (post : SS → AA → Prop) (S : SS) (A : AA) : Prop :=
  (post (va_up (va_up S 16 (0 : Int32)) 17 (0 : Int32)) A)
def wM_M_boot (post : SS → AA → Prop) (S : SS) (A : AA) : Prop :=
  (wM_M_bestSlot (fun r2 S2 A2 => (wM_M_changeSession (fun S10 A10 => (wM_M_dropRequest (fun S14 A14 => (wM_M_dropAnswer (fun S18 A18 => (post (va_up (va_up (va_up (va_up S18 5 (-1 : Int32)) 9 (0 : Int32)) 10 (0 : Int32)) 6 (0 : Int32)) A18)) S14 A14)) S10 A10)) (va_up S2 2 r2) A2 (1 : Int32))) S A)
def wM_M_restart (post : SS → AA → Prop) (S : SS) (A : AA) : Prop :=
  (wM_M_boot (fun S1 A1 => (post (va_up S1 24 (0 : Int32)) A1)) S A)
def wM_M_sendAnswer_50 (post : SS → AA → Prop) (S : SS) (A : AA) : Prop :=
  ((¬ (S 21) = (S 20) → (post S A)) ∧ ((S 21) = (S 20) → (wM_M_dropAnswer (fun S62 A62 => (post S62 A62)) S A)))
def wM_M_sendAnswer (post : SS → AA → Prop) (S : SS) (A : AA) : Prop :=
  (((7 : Int32) < (S 20) → (wM_M_emit (fun S47 A47 => (wM_M_sendAnswer_50 post S47 A47)) (va_up (va_up (va_up S 21 (0 : Int32)) 22 (0 : Int32)) 23 (0 : Int32)) A (16 : Int32) (S 20) (6 : Int32))) ∧ (¬ (7 : Int32) < (S 20) → (wM_M_emit (fun S32 A32 => (wM_M_sendAnswer_50 post S32 A32)) (va_up (va_up (va_up S 21 (0 : Int32)) 22 (0 : Int32)) 23 (0 : Int32)) A (S 20) (-1 : Int32) (7 : Int32))))
def wM_M_change_99 (post : SS → AA → Prop) (X3 : SS → AA → Int32 → Int32 → Int32 → Int32 → Prop) (S : SS) (A : AA) (x1 x2 x3 x4 : Int32) : Prop :=
  (X3 S A x1 x2 x3 (x4 + (1 : Int32)))
def wM_M_change_70 (post : SS → AA → Prop) (X3 : SS → AA → Int32 → Int32 → Int32 → Int32 → Prop) (S : SS) (A : AA) (x1 x2 x3 x4 x5 y0 : Int32) : Prop :=
  ((x5 = 0 → (wM_M_change_99 post X3 S A x1 x2 x3 x4)) ∧ (¬ x5 = 0 → ((y0 = 0 → (wM_M_change_99 post X3 S A x1 x2 x3 x4)) ∧ (¬ y0 = 0 → (vp_in x1 96 ∧ (vp_in x1 96 ∧ (wM_M_change_99 post X3 S (va_up A 0 (upd (A 0) x1.toNatClampNeg (((A 0) x1.toNatClampNeg) ^^^ ((1 : Int32) <<< (x4 &&& 31))))) x1 x2 x3 x4)))))))
def wM_M_change_65 (post : SS → AA → Prop) (X3 : SS → AA → Int32 → Int32 → Int32 → Int32 → Prop) (S : SS) (A : AA) (x1 x2 x3 x4 x5 : Int32) : Prop :=
  (wM_M_change_70 post X3 S A x1 x2 x3 x4 x5 (1 : Int32))
def wM_M_change_35 (post : SS → AA → Prop) (X3 : SS → AA → Int32 → Int32 → Int32 → Int32 → Prop) (S : SS) (A : AA) (x1 x2 x3 x4 y0 : Int32) : Prop :=
  (((S 0) = 0 → (wM_M_change_65 post X3 S A x1 x2 x3 x4 y0)) ∧ (¬ (S 0) = 0 → ((¬ (((S 1).toUInt32 >>> (((((8 : Int32) * x2) + x4) - (((8 : Int32) * x2) + x4) / (32 : Int32) * (32 : Int32)).toUInt32 &&& Int32.toUInt32 31)).toInt32 &&& (1 : Int32)) = (1 : Int32) → (wM_M_change_70 post X3 S A x1 x2 x3 x4 y0 (0 : Int32))) ∧ ((((S 1).toUInt32 >>> (((((8 : Int32) * x2) + x4) - (((8 : Int32) * x2) + x4) / (32 : Int32) * (32 : Int32)).toUInt32 &&& Int32.toUInt32 31)).toInt32 &&& (1 : Int32)) = (1 : Int32) → (wM_M_change_65 post X3 S A x1 x2 x3 x4 y0)))))
def wM_M_change_3B (post : SS → AA → Prop) (X3 : SS → AA → Int32 → Int32 → Int32 → Int32 → Prop) (S : SS) (A : AA) (x1 x2 x3 x4 : Int32) : Prop :=
  (((8 : Int32) ≤ x4 → (post S A)) ∧ (¬ (8 : Int32) ≤ x4 → (vp_in x1 96 ∧ ((((((A 0) x1.toNatClampNeg) >>> (x4 &&& 31)) &&& (1 : Int32)) = ((x3 >>> (x4 &&& 31)) &&& (1 : Int32)) → (wM_M_change_35 post X3 S A x1 x2 x3 x4 (0 : Int32))) ∧ (¬ ((((A 0) x1.toNatClampNeg) >>> (x4 &&& 31)) &&& (1 : Int32)) = ((x3 >>> (x4 &&& 31)) &&& (1 : Int32)) → (wM_M_change_35 post X3 S A x1 x2 x3 x4 (1 : Int32)))))))
def wM_M_change_3 (post : SS → AA → Prop) (S : SS) (A : AA) (x1 x2 x3 x4 : Int32) : Prop :=
  ∀ X3 : SS → AA → Int32 → Int32 → Int32 → Int32 → Prop, (∀ (S : SS) (A : AA) (x1 x2 x3 x4 : Int32), wM_M_change_3B post X3 S A x1 x2 x3 x4 → X3 S A x1 x2 x3 x4) → X3 S A x1 x2 x3 x4
def wM_M_change (post : SS → AA → Prop) (S : SS) (A : AA) (x1 x2 x3 : Int32) : Prop :=
  (wM_M_change_3 post S A x1 x2 x3 (0 : Int32))
def wM_M_toCome (post : Int32 → SS → AA → Prop) (S : SS) (A : AA) : Prop :=
  ((0 ≤ (S 12) → (post ((S 13) - (S 14)) S A)) ∧ (¬ 0 ≤ (S 12) → (post (-1 : Int32) S A)))
def wM_M_torn (post : Int32 → SS → AA → Prop) (S : SS) (A : AA) : Prop :=
  (tl_z (S 0) ∧ post (S 0) (va_up S 0 (0 : Int32)) A)
def wM_M_block_210 (post : Int32 → SS → AA → Prop) (S : SS) (A : AA) (x1 : Int32) : Prop :=
  (wM_M_add (fun S213 A213 => (wM_M_add (fun S218 A218 => (post (0 : Int32) S218 A218)) S213 A213 x1)) S A (118 : Int32))
def wM_M_block_173B (post : Int32 → SS → AA → Prop) (X173 : SS → AA → Int32 → Int32 → Int32 → Int32 → Prop) (S : SS) (A : AA) (x1 x2 x4 x5 : Int32) : Prop :=
  ((x2 ≤ x5 → (wM_M_block_210 post S A x1)) ∧ (¬ x2 ≤ x5 → (vp_in (x4 + x5) 96 ∧ (vp_in ((2 : Int32) + x5) 34 ∧ ((((A 0) (x4 + x5).toNatClampNeg) = ((A 1) ((2 : Int32) + x5).toNatClampNeg) → (X173 S A x1 x2 x4 (x5 + (1 : Int32)))) ∧ (¬ ((A 0) (x4 + x5).toNatClampNeg) = ((A 1) ((2 : Int32) + x5).toNatClampNeg) → (post (114 : Int32) S A)))))))
def wM_M_block_173 (post : Int32 → SS → AA → Prop) (S : SS) (A : AA) (x1 x2 x4 x5 : Int32) : Prop :=
  ∀ X173 : SS → AA → Int32 → Int32 → Int32 → Int32 → Prop, (∀ (S : SS) (A : AA) (x1 x2 x4 x5 : Int32), wM_M_block_173B post X173 S A x1 x2 x4 x5 → X173 S A x1 x2 x4 x5) → X173 S A x1 x2 x4 x5
def wM_M_block_98B (post : Int32 → SS → AA → Prop) (X98 : SS → AA → Int32 → Int32 → Int32 → Int32 → Prop) (S : SS) (A : AA) (x1 x2 x4 x5 : Int32) : Prop :=
  ((x2 ≤ x5 → (wM_M_torn (fun r142 S142 A142 => ((r142 = 0 → (wM_M_block_173 post (va_up (va_up S142 14 ((S142 14) + x2)) 15 ((S142 15) + (1 : Int32))) A142 x1 x2 x4 (0 : Int32))) ∧ (¬ r142 = 0 → (post (-1 : Int32) S142 A142)))) S A)) ∧ (¬ x2 ≤ x5 → (vp_in (x4 + x5) 96 ∧ (vp_in ((2 : Int32) + x5) 34 ∧ (wM_M_change (fun S132 A132 => (X98 S132 A132 x1 x2 x4 (x5 + (1 : Int32)))) S A (x4 + x5) x5 (((A 0) (x4 + x5).toNatClampNeg) &&& ((A 1) ((2 : Int32) + x5).toNatClampNeg)))))))
def wM_M_block_98 (post : Int32 → SS → AA → Prop) (S : SS) (A : AA) (x1 x2 x4 x5 : Int32) : Prop :=
  ∀ X98 : SS → AA → Int32 → Int32 → Int32 → Int32 → Prop, (∀ (S : SS) (A : AA) (x1 x2 x4 x5 : Int32), wM_M_block_98B post X98 S A x1 x2 x4 x5 → X98 S A x1 x2 x4 x5) → X98 S A x1 x2 x4 x5
def wM_M_block_48 (post : Int32 → SS → AA → Prop) (S : SS) (A : AA) (x1 x2 y0 : Int32) : Prop :=
  ((¬ y0 = 0 → (wM_M_block_210 post S A x1)) ∧ (y0 = 0 → ((x1 = (((S 15) + (1 : Int32)) - ((S 15) + (1 : Int32)) / (256 : Int32) * (256 : Int32)) → (wM_M_toCome (fun r72 S72 A72 => ((x2 ≤ r72 → (wM_M_block_98 post S72 A72 x1 x2 (((48 : Int32) * (S72 12)) + (S72 14)) (0 : Int32))) ∧ (¬ x2 ≤ r72 → (post (49 : Int32) S72 A72)))) S A)) ∧ (¬ x1 = (((S 15) + (1 : Int32)) - ((S 15) + (1 : Int32)) / (256 : Int32) * (256 : Int32)) → (post (115 : Int32) S A)))))
def wM_M_block_47 (post : Int32 → SS → AA → Prop) (S : SS) (A : AA) (x1 x2 : Int32) : Prop :=
  (wM_M_block_48 post S A x1 x2 (0 : Int32))
def wM_M_block (post : Int32 → SS → AA → Prop) (S : SS) (A : AA) : Prop :=
  (vp_in (1 : Int32) 34 ∧ (wM_M_toCome (fun r15 S15 A15 => ((0 < r15 → (((S15 15) ≤ 0 → (wM_M_block_47 post S15 A15 ((A 1) (1 : Int32).toNatClampNeg) ((S 17) - (2 : Int32)))) ∧ (¬ (S15 15) ≤ 0 → ((¬ ((A 1) (1 : Int32).toNatClampNeg) = ((S15 15) - (S15 15) / (256 : Int32) * (256 : Int32)) → (wM_M_block_47 post S15 A15 ((A 1) (1 : Int32).toNatClampNeg) ((S 17) - (2 : Int32)))) ∧ (((A 1) (1 : Int32).toNatClampNeg) = ((S15 15) - (S15 15) / (256 : Int32) * (256 : Int32)) → (wM_M_block_48 post S15 A15 ((A 1) (1 : Int32).toNatClampNeg) ((S 17) - (2 : Int32)) (1 : Int32))))))) ∧ (¬ 0 < r15 → (post (36 : Int32) S15 A15)))) S A))
def wM_M_download (post : Int32 → SS → AA → Prop) (S : SS) (A : AA) : Prop :=
  (vp_in (1 : Int32) 34 ∧ (vp_in (2 : Int32) 34 ∧ (((1 : Int32) < ((A 1) (1 : Int32).toNatClampNeg) → (post (49 : Int32) S A)) ∧ (¬ (1 : Int32) < ((A 1) (1 : Int32).toNatClampNeg) → ((((A 1) (2 : Int32).toNatClampNeg) < (1 : Int32) → (post (49 : Int32) S A)) ∧ (¬ ((A 1) (2 : Int32).toNatClampNeg) < (1 : Int32) → ((((A 1) (2 : Int32).toNatClampNeg) ≤ (32 : Int32) → ((¬ ((A 1) (1 : Int32).toNatClampNeg) = (S 2) → (wM_M_add (fun S72 A72 => (wM_M_add (fun S78 A78 => (post (0 : Int32) S78 A78)) S72 A72 (8 : Int32))) (va_up (va_up (va_up (va_up (va_up S 12 ((A 1) (1 : Int32).toNatClampNeg)) 13 ((A 1) (2 : Int32).toNatClampNeg)) 14 (0 : Int32)) 15 (0 : Int32)) 5 (-1 : Int32)) A (116 : Int32))) ∧ (((A 1) (1 : Int32).toNatClampNeg) = (S 2) → (post (34 : Int32) S A)))) ∧ (¬ ((A 1) (2 : Int32).toNatClampNeg) ≤ (32 : Int32) → (post (49 : Int32) S A)))))))))
def wM_M_leave (post : Int32 → SS → AA → Prop) (S : SS) (A : AA) : Prop :=
  (wM_M_toCome (fun r1 S1 A1 => ((r1 = 0 → (wM_M_add (fun S18 A18 => (post (0 : Int32) S18 A18)) (va_up S1 12 (-1 : Int32)) A1 (119 : Int32))) ∧ (¬ r1 = 0 → (post (36 : Int32) S1 A1)))) S A)
def wM_M_readData_68B (post : Int32 → SS → AA → Prop) (X68 : SS → AA → Int32 → Int32 → Prop) (S : SS) (A : AA) (x1 x2 : Int32) : Prop :=
  (((8 : Int32) ≤ x2 → (post (0 : Int32) S A)) ∧ (¬ (8 : Int32) ≤ x2 → ((¬ x1 = (2 : Int32) → (post (0 : Int32) S A)) ∧ (x1 = (2 : Int32) → (vp_in (((48 : Int32) * (S 2)) + x2) 96 ∧ (wM_M_add (fun S94 A94 => (X68 S94 A94 x1 (x2 + (1 : Int32)))) S A ((A 0) (((48 : Int32) * (S 2)) + x2).toNatClampNeg)))))))
def wM_M_readData_68 (post : Int32 → SS → AA → Prop) (S : SS) (A : AA) (x1 x2 : Int32) : Prop :=
  ∀ X68 : SS → AA → Int32 → Int32 → Prop, (∀ (S : SS) (A : AA) (x1 x2 : Int32), wM_M_readData_68B post X68 S A x1 x2 → X68 S A x1 x2) → X68 S A x1 x2
def wM_M_readData_66 (post : Int32 → SS → AA → Prop) (S : SS) (A : AA) (x1 : Int32) : Prop :=
  (wM_M_readData_68 post S A x1 (0 : Int32))
def wM_M_readData_53 (post : Int32 → SS → AA → Prop) (S : SS) (A : AA) (x1 : Int32) : Prop :=
  ((¬ x1 = (1 : Int32) → (wM_M_readData_66 post S A x1)) ∧ (x1 = (1 : Int32) → (wM_M_add (fun S63 A63 => (wM_M_readData_66 post S63 A63 x1)) S A (S 6))))
def wM_M_readData_30 (post : Int32 → SS → AA → Prop) (S : SS) (A : AA) (x1 : Int32) : Prop :=
  (wM_M_add (fun S33 A33 => (wM_M_add (fun S38 A38 => ((¬ x1 = 0 → (wM_M_readData_53 post S38 A38 x1)) ∧ (x1 = 0 → (wM_M_add (fun S50 A50 => (wM_M_readData_53 post S50 A50 x1)) S38 A38 (S38 2))))) S33 A33 x1)) S A (98 : Int32))
def wM_M_readData (post : Int32 → SS → AA → Prop) (S : SS) (A : AA) : Prop :=
  (vp_in (1 : Int32) 34 ∧ ((((A 1) (1 : Int32).toNatClampNeg) ≤ (2 : Int32) → ((((A 1) (1 : Int32).toNatClampNeg) = (1 : Int32) → (wM_M_readData_30 post S A ((A 1) (1 : Int32).toNatClampNeg))) ∧ (¬ ((A 1) (1 : Int32).toNatClampNeg) = (1 : Int32) → ((0 ≤ (S 2) → (wM_M_readData_30 post S A ((A 1) (1 : Int32).toNatClampNeg))) ∧ (¬ 0 ≤ (S 2) → (post (34 : Int32) S A)))))) ∧ (¬ ((A 1) (1 : Int32).toNatClampNeg) ≤ (2 : Int32) → (post (49 : Int32) S A))))
def wM_M_activate_50 (post : Int32 → SS → AA → Prop) (S : SS) (A : AA) (x1 y0 : Int32) : Prop :=
  (wM_M_sumOf (fun r53 S53 A53 => (vp_in ((((48 : Int32) * x1) + (32 : Int32)) + (1 : Int32)) 96 ∧ (wM_M_change (fun S84 A84 => (vp_in ((((48 : Int32) * x1) + (32 : Int32)) + (2 : Int32)) 96 ∧ (wM_M_change (fun S109 A109 => (vp_in ((((48 : Int32) * x1) + (32 : Int32)) + (3 : Int32)) 96 ∧ (wM_M_change (fun S134 A134 => (wM_M_torn (fun r138 S138 A138 => ((r138 = 0 → (wM_M_change (fun S151 A151 => (wM_M_torn (fun r155 S155 A155 => ((r155 = 0 → (post (0 : Int32) S155 A155)) ∧ (¬ r155 = 0 → (post (-1 : Int32) S155 A155)))) S151 A151)) S138 A138 (((48 : Int32) * x1) + (32 : Int32)) (0 : Int32) (0 : Int32))) ∧ (¬ r138 = 0 → (post (-1 : Int32) S138 A138)))) S134 A134)) S109 A109 ((((48 : Int32) * x1) + (32 : Int32)) + (3 : Int32)) (2 : Int32) (((A109 0) ((((48 : Int32) * x1) + (32 : Int32)) + (3 : Int32)).toNatClampNeg) &&& (r53 - r53 / (256 : Int32) * (256 : Int32)))))) S84 A84 ((((48 : Int32) * x1) + (32 : Int32)) + (2 : Int32)) (1 : Int32) (((A84 0) ((((48 : Int32) * x1) + (32 : Int32)) + (2 : Int32)).toNatClampNeg) &&& (r53 / (256 : Int32)))))) S53 A53 ((((48 : Int32) * x1) + (32 : Int32)) + (1 : Int32)) (0 : Int32) (((A53 0) ((((48 : Int32) * x1) + (32 : Int32)) + (1 : Int32)).toNatClampNeg) &&& y0)))) S A x1)
def wM_M_activate (post : Int32 → SS → AA → Prop) (S : SS) (A : AA) (x1 : Int32) : Prop :=
  ((x1 = (S 2) → (post (34 : Int32) S A)) ∧ (¬ x1 = (S 2) → ((x1 = (S 5) → (wM_M_bestSlot (fun r20 S20 A20 => ((0 ≤ r20 → (vp_in (((48 : Int32) * r20) + (33 : Int32)) 96 ∧ (wM_M_activate_50 post S20 A20 x1 ((((A20 0) (((48 : Int32) * r20) + (33 : Int32)).toNatClampNeg) + (1 : Int32)) - (((A20 0) (((48 : Int32) * r20) + (33 : Int32)).toNatClampNeg) + (1 : Int32)) / (256 : Int32) * (256 : Int32))))) ∧ (¬ 0 ≤ r20 → (wM_M_activate_50 post S20 A20 x1 (1 : Int32))))) S A)) ∧ (¬ x1 = (S 5) → (post (34 : Int32) S A)))))
def wM_M_erase_2B (post : Int32 → SS → AA → Prop) (X2 : SS → AA → Int32 → Int32 → Prop) (S : SS) (A : AA) (x1 x2 : Int32) : Prop :=
  (((16 : Int32) ≤ x2 → (wM_M_torn (fun r29 S29 A29 => (tl_z r29 ∧ post r29 S29 A29)) S A)) ∧ (¬ (16 : Int32) ≤ x2 → (wM_M_change (fun S19 A19 => (X2 S19 A19 x1 (x2 + (1 : Int32)))) S A (((16 : Int32) * x1) + x2) x2 (255 : Int32))))
def wM_M_erase_2 (post : Int32 → SS → AA → Prop) (S : SS) (A : AA) (x1 x2 : Int32) : Prop :=
  ∀ X2 : SS → AA → Int32 → Int32 → Prop, (∀ (S : SS) (A : AA) (x1 x2 : Int32), wM_M_erase_2B post X2 S A x1 x2 → X2 S A x1 x2) → X2 S A x1 x2
def wM_M_erase (post : Int32 → SS → AA → Prop) (S : SS) (A : AA) (x1 : Int32) : Prop :=
  (wM_M_erase_2 post S A x1 (0 : Int32))
def wM_M_eraseSlot (post : Int32 → SS → AA → Prop) (S : SS) (A : AA) (x1 : Int32) : Prop :=
  ((¬ x1 = (S 2) → (wM_M_erase (fun r22 S22 A22 => ((r22 = 0 → (wM_M_erase (fun r34 S34 A34 => ((r34 = 0 → (wM_M_erase (fun r48 S48 A48 => ((r48 = 0 → (post (0 : Int32) S48 A48)) ∧ (¬ r48 = 0 → (post (-1 : Int32) S48 A48)))) S34 A34 (((3 : Int32) * x1) + (1 : Int32)))) ∧ (¬ r34 = 0 → (post (-1 : Int32) S34 A34)))) S22 A22 ((3 : Int32) * x1))) ∧ (¬ r22 = 0 → (post (-1 : Int32) S22 A22)))) (va_up S 5 (-1 : Int32)) A (((3 : Int32) * x1) + (2 : Int32)))) ∧ (x1 = (S 2) → (post (34 : Int32) S A)))
def wM_M_routine_159 (post : Int32 → SS → AA → Prop) (S : SS) (A : AA) (y0 : Int32) : Prop :=
  (wM_M_add (fun S159 A159 => (post (0 : Int32) S159 A159)) S A y0)
def wM_M_routine_145 (post : Int32 → SS → AA → Prop) (S : SS) (A : AA) (x4 y0 : Int32) : Prop :=
  ((x4 = 0 → (wM_M_routine_159 post (va_up S 5 y0) A (0 : Int32))) ∧ (¬ x4 = 0 → (wM_M_routine_159 post (va_up S 5 y0) A (1 : Int32))))
def wM_M_routine_117 (post : Int32 → SS → AA → Prop) (S : SS) (A : AA) (x2 y0 : Int32) : Prop :=
  ((y0 = 0 → ((¬ (S 5) = x2 → (wM_M_routine_145 post S A y0 (S 5))) ∧ ((S 5) = x2 → (wM_M_routine_145 post S A y0 (-1 : Int32))))) ∧ (¬ y0 = 0 → (wM_M_routine_145 post S A y0 x2)))
def wM_M_routine_59 (post : Int32 → SS → AA → Prop) (S : SS) (A : AA) (x1 x2 y0 : Int32) : Prop :=
  ((y0 = 0 → (wM_M_add (fun S69 A69 => (wM_M_add (fun S74 A74 => (wM_M_add (fun S79 A79 => ((¬ x1 = (2 : Int32) → (post (0 : Int32) S79 A79)) ∧ (x1 = (2 : Int32) → (wM_M_sumOf (fun r89 S89 A89 => (vp_in (4 : Int32) 34 ∧ (vp_in (5 : Int32) 34 ∧ ((¬ r89 = (((256 : Int32) * ((A89 1) (4 : Int32).toNatClampNeg)) + ((A89 1) (5 : Int32).toNatClampNeg)) → (wM_M_routine_117 post S89 A89 x2 (0 : Int32))) ∧ (r89 = (((256 : Int32) * ((A89 1) (4 : Int32).toNatClampNeg)) + ((A89 1) (5 : Int32).toNatClampNeg)) → (wM_M_routine_117 post S89 A89 x2 (1 : Int32))))))) S79 A79 x2)))) S74 A74 x1)) S69 A69 (1 : Int32))) S A (113 : Int32))) ∧ (¬ y0 = 0 → (post y0 S A)))
def wM_M_routine (post : Int32 → SS → AA → Prop) (S : SS) (A : AA) : Prop :=
  (vp_in (2 : Int32) 34 ∧ (vp_in (3 : Int32) 34 ∧ ((((A 1) (2 : Int32).toNatClampNeg) < (1 : Int32) → (post (49 : Int32) S A)) ∧ (¬ ((A 1) (2 : Int32).toNatClampNeg) < (1 : Int32) → (((3 : Int32) < ((A 1) (2 : Int32).toNatClampNeg) → (post (49 : Int32) S A)) ∧ (¬ (3 : Int32) < ((A 1) (2 : Int32).toNatClampNeg) → ((((A 1) (3 : Int32).toNatClampNeg) ≤ (1 : Int32) → ((¬ ((A 1) (2 : Int32).toNatClampNeg) = (1 : Int32) → ((¬ ((A 1) (2 : Int32).toNatClampNeg) = (3 : Int32) → (wM_M_routine_59 post S A ((A 1) (2 : Int32).toNatClampNeg) ((A 1) (3 : Int32).toNatClampNeg) (0 : Int32))) ∧ (((A 1) (2 : Int32).toNatClampNeg) = (3 : Int32) → (wM_M_activate (fun r52 S52 A52 => (wM_M_routine_59 post S52 A52 ((A 1) (2 : Int32).toNatClampNeg) ((A 1) (3 : Int32).toNatClampNeg) r52)) S A ((A 1) (3 : Int32).toNatClampNeg))))) ∧ (((A 1) (2 : Int32).toNatClampNeg) = (1 : Int32) → (wM_M_eraseSlot (fun r39 S39 A39 => (wM_M_routine_59 post S39 A39 ((A 1) (2 : Int32).toNatClampNeg) ((A 1) (3 : Int32).toNatClampNeg) r39)) S A ((A 1) (3 : Int32).toNatClampNeg))))) ∧ (¬ ((A 1) (3 : Int32).toNatClampNeg) ≤ (1 : Int32) → (post (49 : Int32) S A)))))))))
def wM_M_seeds_65 (post : Int32 → SS → AA → Prop) (S : SS) (A : AA) : Prop :=
  (wM_M_add (fun S68 A68 => (wM_M_add (fun S73 A73 => (wM_M_add (fun S81 A81 => (post (0 : Int32) S81 A81)) S73 A73 (S73 8))) S68 A68 (1 : Int32))) S A (103 : Int32))
def wM_M_seeds (post : Int32 → SS → AA → Prop) (S : SS) (A : AA) : Prop :=
  (vp_in (1 : Int32) 34 ∧ ((¬ ((A 1) (1 : Int32).toNatClampNeg) = (1 : Int32) → ((¬ (S 8) = 0 → (vp_in (2 : Int32) 34 ∧ ((¬ ((A 1) (2 : Int32).toNatClampNeg) = ((((5 : Int32) * (S 8)) + (3 : Int32)) - (((5 : Int32) * (S 8)) + (3 : Int32)) / (256 : Int32) * (256 : Int32)) → ((¬ ((1 : Int32) - (S 9)) = (1 : Int32) → (post (54 : Int32) (va_up (va_up (va_up S 8 (0 : Int32)) 9 ((1 : Int32) - (S 9))) 10 (8 : Int32)) A)) ∧ (((1 : Int32) - (S 9)) = (1 : Int32) → (post (53 : Int32) (va_up (va_up S 8 (0 : Int32)) 9 ((1 : Int32) - (S 9))) A)))) ∧ (((A 1) (2 : Int32).toNatClampNeg) = ((((5 : Int32) * (S 8)) + (3 : Int32)) - (((5 : Int32) * (S 8)) + (3 : Int32)) / (256 : Int32) * (256 : Int32)) → (wM_M_add (fun S124 A124 => (wM_M_add (fun S129 A129 => (post (0 : Int32) S129 A129)) S124 A124 (2 : Int32))) (va_up (va_up (va_up S 8 (0 : Int32)) 4 (1 : Int32)) 9 (0 : Int32)) A (103 : Int32)))))) ∧ ((S 8) = 0 → (post (36 : Int32) (va_up S 8 (0 : Int32)) A)))) ∧ (((A 1) (1 : Int32).toNatClampNeg) = (1 : Int32) → (((S 10) = 0 → ((¬ (S 4) = 0 → (wM_M_seeds_65 post (va_up S 8 (0 : Int32)) A)) ∧ ((S 4) = 0 → (wM_M_seeds_65 post (va_up (va_up (va_up S 8 (0 : Int32)) 8 (((17 : Int32) + ((73 : Int32) * (S 7))) - ((17 : Int32) + ((73 : Int32) * (S 7))) / (256 : Int32) * (256 : Int32))) 7 ((S 7) + (1 : Int32))) A)))) ∧ (¬ (S 10) = 0 → (post (55 : Int32) (va_up S 8 (0 : Int32)) A))))))
def wM_M_writeData (post : Int32 → SS → AA → Prop) (S : SS) (A : AA) : Prop :=
  (vp_in (1 : Int32) 34 ∧ ((((A 1) (1 : Int32).toNatClampNeg) = (1 : Int32) → (vp_in (2 : Int32) 34 ∧ (wM_M_add (fun S26 A26 => (wM_M_add (fun S31 A31 => (post (0 : Int32) S31 A31)) S26 A26 (1 : Int32))) (va_up S 6 ((A 1) (2 : Int32).toNatClampNeg)) A (110 : Int32)))) ∧ (¬ ((A 1) (1 : Int32).toNatClampNeg) = (1 : Int32) → (post (49 : Int32) S A))))
def wM_M_workOn (post : Int32 → SS → AA → Prop) (S : SS) (A : AA) : Prop :=
  (vp_in (0 : Int32) 34 ∧ ((((A 1) (0 : Int32).toNatClampNeg) = (16 : Int32) → (vp_in (1 : Int32) 34 ∧ (wM_M_changeSession (fun S95 A95 => (wM_M_add (fun S101 A101 => (vp_in (1 : Int32) 34 ∧ (wM_M_add (fun S111 A111 => (post (0 : Int32) S111 A111)) S101 A101 ((A101 1) (1 : Int32).toNatClampNeg)))) S95 A95 (80 : Int32))) S A ((A 1) (1 : Int32).toNatClampNeg)))) ∧ (¬ ((A 1) (0 : Int32).toNatClampNeg) = (16 : Int32) → ((((A 1) (0 : Int32).toNatClampNeg) = (17 : Int32) → (wM_M_add (fun S132 A132 => (wM_M_add (fun S137 A137 => (post (0 : Int32) S137 A137)) S132 A132 (1 : Int32))) S A (81 : Int32))) ∧ (¬ ((A 1) (0 : Int32).toNatClampNeg) = (17 : Int32) → ((((A 1) (0 : Int32).toNatClampNeg) = (34 : Int32) → (wM_M_readData (fun r148 S148 A148 => (post r148 S148 A148)) S A)) ∧ (¬ ((A 1) (0 : Int32).toNatClampNeg) = (34 : Int32) → ((((A 1) (0 : Int32).toNatClampNeg) = (39 : Int32) → (wM_M_seeds (fun r143 S143 A143 => (post r143 S143 A143)) S A)) ∧ (¬ ((A 1) (0 : Int32).toNatClampNeg) = (39 : Int32) → ((((A 1) (0 : Int32).toNatClampNeg) = (46 : Int32) → (wM_M_writeData (fun r153 S153 A153 => (post r153 S153 A153)) S A)) ∧ (¬ ((A 1) (0 : Int32).toNatClampNeg) = (46 : Int32) → ((((A 1) (0 : Int32).toNatClampNeg) = (49 : Int32) → (wM_M_routine (fun r158 S158 A158 => (post r158 S158 A158)) S A)) ∧ (¬ ((A 1) (0 : Int32).toNatClampNeg) = (49 : Int32) → ((((A 1) (0 : Int32).toNatClampNeg) = (52 : Int32) → (wM_M_download (fun r163 S163 A163 => (post r163 S163 A163)) S A)) ∧ (¬ ((A 1) (0 : Int32).toNatClampNeg) = (52 : Int32) → ((((A 1) (0 : Int32).toNatClampNeg) = (54 : Int32) → (wM_M_block (fun r168 S168 A168 => (post r168 S168 A168)) S A)) ∧ (¬ ((A 1) (0 : Int32).toNatClampNeg) = (54 : Int32) → ((((A 1) (0 : Int32).toNatClampNeg) = (62 : Int32) → (wM_M_add (fun S119 A119 => (wM_M_add (fun S124 A124 => (post (0 : Int32) S124 A124)) S119 A119 (0 : Int32))) S A (126 : Int32))) ∧ (¬ ((A 1) (0 : Int32).toNatClampNeg) = (62 : Int32) → (wM_M_leave (fun r173 S173 A173 => (post r173 S173 A173)) S A))))))))))))))))))))
def wM_M_complete_83 (post : SS → AA → Prop) (S : SS) (A : AA) (x2 : Int32) : Prop :=
  (wM_M_dropRequest (fun S84 A84 => (wM_M_sendAnswer (fun S88 A88 => ((x2 = 0 → (post S88 A88)) ∧ (¬ x2 = 0 → (wM_M_boot (fun S96 A96 => (post S96 A96)) S88 A88)))) S84 A84)) S A)
def wM_M_complete_44 (post : SS → AA → Prop) (S : SS) (A : AA) (x1 x2 : Int32) : Prop :=
  ((0 ≤ x1 → ((x1 ≤ 0 → (wM_M_complete_83 post S A x2)) ∧ (¬ x1 ≤ 0 → (wM_M_add (fun S65 A65 => (vp_in (0 : Int32) 34 ∧ (wM_M_add (fun S75 A75 => (wM_M_add (fun S80 A80 => (wM_M_complete_83 post S80 A80 x2)) S75 A75 x1)) S65 A65 ((A65 1) (0 : Int32).toNatClampNeg)))) (va_up S 20 (0 : Int32)) A (127 : Int32))))) ∧ (¬ 0 ≤ x1 → (wM_M_restart (fun S49 A49 => (post S49 A49)) S A)))
def wM_M_complete_34 (post : SS → AA → Prop) (S : SS) (A : AA) (x1 y0 : Int32) : Prop :=
  ((¬ x1 = 0 → (wM_M_complete_44 post S A x1 y0)) ∧ (x1 = 0 → (wM_M_workOn (fun r40 S40 A40 => (wM_M_complete_44 post S40 A40 r40 y0)) S A)))
def wM_M_complete_33 (post : SS → AA → Prop) (S : SS) (A : AA) (x1 : Int32) : Prop :=
  (wM_M_complete_34 post S A x1 (0 : Int32))
def wM_M_complete (post : SS → AA → Prop) (S : SS) (A : AA) : Prop :=
  (wM_M_dropAnswer (fun S6 A6 => (wM_M_against (fun r10 S10 A10 => ((¬ r10 = 0 → (wM_M_complete_33 post S10 A10 r10)) ∧ (r10 = 0 → (vp_in (0 : Int32) 34 ∧ ((¬ ((A10 1) (0 : Int32).toNatClampNeg) = (17 : Int32) → (wM_M_complete_33 post S10 A10 r10)) ∧ (((A10 1) (0 : Int32).toNatClampNeg) = (17 : Int32) → (wM_M_complete_34 post S10 A10 r10 (1 : Int32)))))))) S6 A6)) (va_up S 11 (0 : Int32)) A)
def wM_M_furtherFrame (post : SS → AA → Prop) (S : SS) (A : AA) (x1 : Int32) : Prop :=
  ((x1 = (((S 18) + (1 : Int32)) - ((S 18) + (1 : Int32)) / (16 : Int32) * (16 : Int32)) → (wM_M_takeBytes (fun S28 A28 => ((¬ (S28 17) = (S28 16) → ((¬ ((S28 18) - (S28 18) / (2 : Int32) * (2 : Int32)) = 0 → (post S28 A28)) ∧ (((S28 18) - (S28 18) / (2 : Int32) * (2 : Int32)) = 0 → (wM_M_askMore (fun S59 A59 => (post S59 A59)) S28 A28)))) ∧ ((S28 17) = (S28 16) → (wM_M_complete (fun S43 A43 => (post S43 A43)) S28 A28)))) (va_up S 18 (((S 18) + (1 : Int32)) - ((S 18) + (1 : Int32)) / (16 : Int32) * (16 : Int32))) A (1 : Int32))) ∧ (¬ x1 = (((S 18) + (1 : Int32)) - ((S 18) + (1 : Int32)) / (16 : Int32) * (16 : Int32)) → (wM_M_dropRequest (fun S22 A22 => (post S22 A22)) (va_up S 18 (((S 18) + (1 : Int32)) - ((S 18) + (1 : Int32)) / (16 : Int32) * (16 : Int32))) A)))
def wM_M_frame_179 (post : Int32 → SS → AA → Prop) (S : SS) (A : AA) : Prop :=
  (post (S 24) S A)
def wM_M_frame_148 (post : Int32 → SS → AA → Prop) (S : SS) (A : AA) (x3 : Int32) : Prop :=
  ((x3 < (32 : Int32) → (wM_M_frame_179 post S A)) ∧ (¬ x3 < (32 : Int32) → (((47 : Int32) < x3 → (wM_M_frame_179 post S A)) ∧ (¬ (47 : Int32) < x3 → (((S 16) ≤ (S 17) → (wM_M_frame_179 post S A)) ∧ (¬ (S 16) ≤ (S 17) → (wM_M_furtherFrame (fun S176 A176 => (wM_M_frame_179 post S176 A176)) S A (x3 - (32 : Int32)))))))))
def wM_M_frame_102 (post : Int32 → SS → AA → Prop) (S : SS) (A : AA) (x3 : Int32) : Prop :=
  ((¬ x3 = (16 : Int32) → (wM_M_frame_148 post S A x3)) ∧ (x3 = (16 : Int32) → (vp_in (1 : Int32) 8 ∧ ((((A 4) (1 : Int32).toNatClampNeg) < (8 : Int32) → (wM_M_frame_148 post S A x3)) ∧ (¬ ((A 4) (1 : Int32).toNatClampNeg) < (8 : Int32) → (vp_in (1 : Int32) 8 ∧ (((34 : Int32) < ((A 4) (1 : Int32).toNatClampNeg) → (wM_M_frame_148 post S A x3)) ∧ (¬ (34 : Int32) < ((A 4) (1 : Int32).toNatClampNeg) → (vp_in (1 : Int32) 8 ∧ (wM_M_beginRequest (fun S138 A138 => (wM_M_askMore (fun S142 A142 => (wM_M_frame_179 post S142 A142)) S138 A138)) S A ((A 4) (1 : Int32).toNatClampNeg) (2 : Int32)))))))))))
def wM_M_frame_2B (post : Int32 → SS → AA → Prop) (X2 : SS → AA → Int32 → Int32 → Int32 → Prop) (S : SS) (A : AA) (x1 x2 x3 : Int32) : Prop :=
  (((4 : Int32) ≤ x3 → (vp_in (0 : Int32) 8 ∧ (((S 20) ≤ (S 21) → ((((A 4) (0 : Int32).toNatClampNeg) < (1 : Int32) → (wM_M_frame_102 post S A ((A 4) (0 : Int32).toNatClampNeg))) ∧ (¬ ((A 4) (0 : Int32).toNatClampNeg) < (1 : Int32) → (((7 : Int32) < ((A 4) (0 : Int32).toNatClampNeg) → (wM_M_frame_102 post S A ((A 4) (0 : Int32).toNatClampNeg))) ∧ (¬ (7 : Int32) < ((A 4) (0 : Int32).toNatClampNeg) → (wM_M_beginRequest (fun S92 A92 => (wM_M_complete (fun S96 A96 => (wM_M_frame_179 post S96 A96)) S92 A92)) S A ((A 4) (0 : Int32).toNatClampNeg) (1 : Int32))))))) ∧ (¬ (S 20) ≤ (S 21) → (wM_M_answerFrame (fun S72 A72 => (wM_M_frame_179 post S72 A72)) S A))))) ∧ (¬ (4 : Int32) ≤ x3 → (vp_in x3 8 ∧ (vp_in ((4 : Int32) + x3) 8 ∧ (X2 S (va_up (va_up A 4 (upd (A 4) x3.toNatClampNeg ((x1.toUInt32 >>> (((24 : Int32) - ((8 : Int32) * x3)).toUInt32 &&& Int32.toUInt32 31)).toInt32 &&& (255 : Int32)))) 4 (upd (upd (A 4) x3.toNatClampNeg ((x1.toUInt32 >>> (((24 : Int32) - ((8 : Int32) * x3)).toUInt32 &&& Int32.toUInt32 31)).toInt32 &&& (255 : Int32))) ((4 : Int32) + x3).toNatClampNeg ((x2.toUInt32 >>> (((24 : Int32) - ((8 : Int32) * x3)).toUInt32 &&& Int32.toUInt32 31)).toInt32 &&& (255 : Int32)))) x1 x2 (x3 + (1 : Int32)))))))
def wM_M_frame_2 (post : Int32 → SS → AA → Prop) (S : SS) (A : AA) (x1 x2 x3 : Int32) : Prop :=
  ∀ X2 : SS → AA → Int32 → Int32 → Int32 → Prop, (∀ (S : SS) (A : AA) (x1 x2 x3 : Int32), wM_M_frame_2B post X2 S A x1 x2 x3 → X2 S A x1 x2 x3) → X2 S A x1 x2 x3
def wM_M_frame (post : Int32 → SS → AA → Prop) (S : SS) (A : AA) (x1 x2 : Int32) : Prop :=
  (wM_M_frame_2 post S A x1 x2 (0 : Int32))
def wM_M_peek (post : Int32 → SS → AA → Prop) (S : SS) (A : AA) (x1 : Int32) : Prop :=
  (((S 24) ≤ 0 → (post (-1 : Int32) S A)) ∧ (¬ (S 24) ≤ 0 → ((x1 < 0 → (post (-1 : Int32) S A)) ∧ (¬ x1 < 0 → (((8 : Int32) ≤ x1 → (post (-1 : Int32) S A)) ∧ (¬ (8 : Int32) ≤ x1 → (vp_in x1 96 ∧ (post ((A 3) x1.toNatClampNeg) S A))))))))
def wM_M_take_21B (post : Int32 → SS → AA → Prop) (X21 : SS → AA → Int32 → Prop) (S : SS) (A : AA) (x1 : Int32) : Prop :=
  ((((8 : Int32) * (S 24)) ≤ x1 → (post (1 : Int32) S A)) ∧ (¬ ((8 : Int32) * (S 24)) ≤ x1 → (vp_in (x1 + (8 : Int32)) 96 ∧ (vp_in x1 96 ∧ (X21 S (va_up A 3 (upd (A 3) x1.toNatClampNeg ((A 3) (x1 + (8 : Int32)).toNatClampNeg))) (x1 + (1 : Int32)))))))
def wM_M_take_21 (post : Int32 → SS → AA → Prop) (S : SS) (A : AA) (x1 : Int32) : Prop :=
  ∀ X21 : SS → AA → Int32 → Prop, (∀ (S : SS) (A : AA) (x1 : Int32), wM_M_take_21B post X21 S A x1 → X21 S A x1) → X21 S A x1
def wM_M_take (post : Int32 → SS → AA → Prop) (S : SS) (A : AA) : Prop :=
  ((¬ (S 24) = 0 → (wM_M_take_21 post (va_up S 24 ((S 24) - (1 : Int32))) A (0 : Int32))) ∧ ((S 24) = 0 → (post (0 : Int32) S A)))
def wM_M_tick_138 (post : SS → AA → Prop) (S : SS) (A : AA) (y0 : Int32) : Prop :=
  (post (va_up S 10 y0) A)
def wM_M_tick_120 (post : SS → AA → Prop) (S : SS) (A : AA) : Prop :=
  (((S 10) ≤ 0 → (wM_M_tick_138 post S A (0 : Int32))) ∧ (¬ (S 10) ≤ 0 → (wM_M_tick_138 post S A ((S 10) - (1 : Int32)))))
def wM_M_tick_66 (post : SS → AA → Prop) (S : SS) (A : AA) : Prop :=
  ((¬ (S 3) = (2 : Int32) → (wM_M_tick_120 post (va_up S 11 ((S 11) + (1 : Int32))) A)) ∧ ((S 3) = (2 : Int32) → ((((S 11) + (1 : Int32)) < (10 : Int32) → (wM_M_tick_120 post (va_up S 11 ((S 11) + (1 : Int32))) A)) ∧ (¬ ((S 11) + (1 : Int32)) < (10 : Int32) → ((¬ (S 17) = (S 16) → (wM_M_tick_120 post (va_up S 11 ((S 11) + (1 : Int32))) A)) ∧ ((S 17) = (S 16) → ((¬ (S 21) = (S 20) → (wM_M_tick_120 post (va_up S 11 ((S 11) + (1 : Int32))) A)) ∧ ((S 21) = (S 20) → (wM_M_changeSession (fun S117 A117 => (wM_M_tick_120 post S117 A117)) (va_up S 11 ((S 11) + (1 : Int32))) A (1 : Int32))))))))))
def wM_M_tick_33 (post : SS → AA → Prop) (S : SS) (A : AA) : Prop :=
  (((S 20) ≤ (S 21) → (wM_M_tick_66 post S A)) ∧ (¬ (S 20) ≤ (S 21) → ((¬ ((S 23) + (1 : Int32)) = (4 : Int32) → (wM_M_tick_66 post (va_up S 23 ((S 23) + (1 : Int32))) A)) ∧ (((S 23) + (1 : Int32)) = (4 : Int32) → (wM_M_dropAnswer (fun S63 A63 => (wM_M_tick_66 post S63 A63)) (va_up S 23 ((S 23) + (1 : Int32))) A)))))
def wM_M_tick (post : SS → AA → Prop) (S : SS) (A : AA) : Prop :=
  (((S 16) ≤ (S 17) → (wM_M_tick_33 post S A)) ∧ (¬ (S 16) ≤ (S 17) → ((¬ ((S 19) + (1 : Int32)) = (4 : Int32) → (wM_M_tick_33 post (va_up S 19 ((S 19) + (1 : Int32))) A)) ∧ (((S 19) + (1 : Int32)) = (4 : Int32) → (wM_M_dropRequest (fun S30 A30 => (wM_M_tick_33 post S30 A30)) (va_up S 19 ((S 19) + (1 : Int32))) A)))))
def wM_M_cut (post : SS → AA → Prop) (S : SS) (A : AA) (x1 : Int32) : Prop :=
  (post (va_up (va_up S 0 (1 : Int32)) 1 x1) A)
def wM_M_flash_10 (post : Int32 → SS → AA → Prop) (S : SS) (A : AA) : Prop :=
  (post (-1 : Int32) S A)
def wM_M_flash (post : Int32 → SS → AA → Prop) (S : SS) (A : AA) (x1 : Int32) : Prop :=
  ((x1 < 0 → (wM_M_flash_10 post S A)) ∧ (¬ x1 < 0 → ((x1 ≤ (95 : Int32) → (vp_in x1 96 ∧ (post ((A 0) x1.toNatClampNeg) S A))) ∧ (¬ x1 ≤ (95 : Int32) → (wM_M_flash_10 post S A)))))
def wM_M_word (post : Int32 → SS → AA → Prop) (S : SS) (A : AA) (x1 : Int32) : Prop :=
  ((x1 < 0 → (post (0 : Int32) S A)) ∧ (¬ x1 < 0 → ((x1 ≤ (92 : Int32) → (vp_in x1 96 ∧ (vp_in (x1 + (1 : Int32)) 96 ∧ (vp_in (x1 + (2 : Int32)) 96 ∧ (vp_in (x1 + (3 : Int32)) 96 ∧ (post ((((((A 0) x1.toNatClampNeg) <<< ((24 : Int32) &&& 31)) ||| (((A 0) (x1 + (1 : Int32)).toNatClampNeg) <<< ((16 : Int32) &&& 31))) ||| (((A 0) (x1 + (2 : Int32)).toNatClampNeg) <<< ((8 : Int32) &&& 31))) ||| ((A 0) (x1 + (3 : Int32)).toNatClampNeg)) S A)))))) ∧ (¬ x1 ≤ (92 : Int32) → (post (0 : Int32) S A)))))
def wM_M_state (post : Int32 → SS → AA → Prop) (S : SS) (A : AA) (x1 : Int32) : Prop :=
  ((x1 = (0 : Int32) → (post (S 2) S A)) ∧ (¬ x1 = (0 : Int32) → ((x1 = (1 : Int32) → (post (S 3) S A)) ∧ (¬ x1 = (1 : Int32) → ((x1 = (2 : Int32) → (((S 4) = 0 → (post (0 : Int32) S A)) ∧ (¬ (S 4) = 0 → (post (1 : Int32) S A)))) ∧ (¬ x1 = (2 : Int32) → ((x1 = (3 : Int32) → (wM_M_toCome (fun r76 S76 A76 => (post r76 S76 A76)) S A)) ∧ (¬ x1 = (3 : Int32) → ((x1 = (4 : Int32) → (((S 0) = 0 → (post (0 : Int32) S A)) ∧ (¬ (S 0) = 0 → (post (1 : Int32) S A)))) ∧ (¬ x1 = (4 : Int32) → ((x1 = (5 : Int32) → (post (S 5) S A)) ∧ (¬ x1 = (5 : Int32) → ((x1 = (6 : Int32) → (post ((S 16) - (S 17)) S A)) ∧ (¬ x1 = (6 : Int32) → ((x1 = (7 : Int32) → (post ((S 20) - (S 21)) S A)) ∧ (¬ x1 = (7 : Int32) → ((x1 = (8 : Int32) → (post (S 10) S A)) ∧ (¬ x1 = (8 : Int32) → (post (-1 : Int32) S A)))))))))))))))))))
def wN_Mm_sumOf_76 (post : Int32 → SS → AA → Prop) (X18 : SS → AA → Int32 → Int32 → Int32 → Prop) (X43 : SS → AA → Int32 → Int32 → Int32 → Int32 → Prop) (S : SS) (A : AA) (x2 x4 x5 y0 : Int32) : Prop :=
  (X43 S A x2 y0 x4 (x5 + (1 : Int32)))
def wN_Mm_sumOf_43B (post : Int32 → SS → AA → Prop) (X18 : SS → AA → Int32 → Int32 → Int32 → Prop) (X43 : SS → AA → Int32 → Int32 → Int32 → Int32 → Prop) (S : SS) (A : AA) (x2 x3 x4 x5 : Int32) : Prop :=
  (((8 : Int32) ≤ x5 → (X18 S A x2 x3 (x4 + (1 : Int32)))) ∧ (¬ (8 : Int32) ≤ x5 → (((x3 &&& (32768 : Int32)) = 0 → (wN_Mm_sumOf_76 post X18 X43 S A x2 x4 x5 ((x3 <<< ((1 : Int32) &&& 31)) &&& (65535 : Int32)))) ∧ (¬ (x3 &&& (32768 : Int32)) = 0 → (wN_Mm_sumOf_76 post X18 X43 S A x2 x4 x5 (((x3 <<< ((1 : Int32) &&& 31)) &&& (65535 : Int32)) ^^^ (4129 : Int32)))))))
def wN_Mm_sumOf_43 (post : Int32 → SS → AA → Prop) (X18 : SS → AA → Int32 → Int32 → Int32 → Prop) (S : SS) (A : AA) (x2 x3 x4 x5 : Int32) : Prop :=
  ∀ X43 : SS → AA → Int32 → Int32 → Int32 → Int32 → Prop, (∀ (S : SS) (A : AA) (x2 x3 x4 x5 : Int32), wN_Mm_sumOf_43B post X18 X43 S A x2 x3 x4 x5 → X43 S A x2 x3 x4 x5) → X43 S A x2 x3 x4 x5
def wN_Mm_sumOf_18B (post : Int32 → SS → AA → Prop) (X18 : SS → AA → Int32 → Int32 → Int32 → Prop) (S : SS) (A : AA) (x2 x3 x4 : Int32) : Prop :=
  (((x2 + (32 : Int32)) ≤ x4 → (post x3 S A)) ∧ (¬ (x2 + (32 : Int32)) ≤ x4 → (vp_in x4 96 ∧ (wN_Mm_sumOf_43 post X18 S A x2 (x3 ^^^ (((A 0) x4.toNatClampNeg) <<< ((8 : Int32) &&& 31))) x4 (0 : Int32)))))
def wN_Mm_sumOf_18 (post : Int32 → SS → AA → Prop) (S : SS) (A : AA) (x2 x3 x4 : Int32) : Prop :=
  ∀ X18 : SS → AA → Int32 → Int32 → Int32 → Prop, (∀ (S : SS) (A : AA) (x2 x3 x4 : Int32), wN_Mm_sumOf_18B post X18 S A x2 x3 x4 → X18 S A x2 x3 x4) → X18 S A x2 x3 x4
def wN_Mm_sumOf_11 (post : Int32 → SS → AA → Prop) (S : SS) (A : AA) (y0 : Int32) : Prop :=
  (wN_Mm_sumOf_18 post S A y0 (65535 : Int32) y0)
def wN_Mm_sumOf (post : Int32 → SS → AA → Prop) (S : SS) (A : AA) (x1 : Int32) : Prop :=
  ((¬ x1 = (1 : Int32) → (wN_Mm_sumOf_11 post S A (0 : Int32))) ∧ (x1 = (1 : Int32) → (wN_Mm_sumOf_11 post S A (48 : Int32))))
def wN_Mm_headerOf (post : Int32 → SS → AA → Prop) (S : SS) (A : AA) (x0 : Int32) : Prop :=
  (post ((x0 * (48 : Int32)) + (32 : Int32)) S A)
def wN_Mm_init_38 (post : SS → AA → Prop) (X14 : SS → AA → Int32 → Prop) (S : SS) (A : AA) (x1 y0 y1 : Int32) : Prop :=
  (vp_in y1 96 ∧ (X14 S (va_up A 0 (upd (A 0) y1.toNatClampNeg y0)) (x1 + (1 : Int32))))
def wN_Mm_init_14B (post : SS → AA → Prop) (X14 : SS → AA → Int32 → Prop) (S : SS) (A : AA) (x1 : Int32) : Prop :=
  (((96 : Int32) ≤ x1 → (wN_Mm_sumOf (fun r47 S47 A47 => (wN_Mm_headerOf (fun r52 S52 A52 => (vp_in r52 96 ∧ (vp_in (r52 + (1 : Int32)) 96 ∧ (vp_in (r52 + (2 : Int32)) 96 ∧ (vp_in (r52 + (3 : Int32)) 96 ∧ (post S52 (va_up (va_up (va_up (va_up A52 0 (upd (A52 0) r52.toNatClampNeg (0 : Int32))) 0 (upd (upd (A52 0) r52.toNatClampNeg (0 : Int32)) (r52 + (1 : Int32)).toNatClampNeg (1 : Int32))) 0 (upd (upd (upd (A52 0) r52.toNatClampNeg (0 : Int32)) (r52 + (1 : Int32)).toNatClampNeg (1 : Int32)) (r52 + (2 : Int32)).toNatClampNeg (r47.toUInt32 >>> ((8 : Int32).toUInt32 &&& Int32.toUInt32 31)).toInt32)) 0 (upd (upd (upd (upd (A52 0) r52.toNatClampNeg (0 : Int32)) (r52 + (1 : Int32)).toNatClampNeg (1 : Int32)) (r52 + (2 : Int32)).toNatClampNeg (r47.toUInt32 >>> ((8 : Int32).toUInt32 &&& Int32.toUInt32 31)).toInt32) (r52 + (3 : Int32)).toNatClampNeg (r47 &&& (255 : Int32)))))))))) S47 A47 (0 : Int32))) S A (0 : Int32))) ∧ (¬ (96 : Int32) ≤ x1 → (((32 : Int32) ≤ x1 → (wN_Mm_init_38 post X14 S A x1 (255 : Int32) x1)) ∧ (¬ (32 : Int32) ≤ x1 → (wN_Mm_init_38 post X14 S A x1 x1 x1)))))
def wN_Mm_init_14 (post : SS → AA → Prop) (S : SS) (A : AA) (x1 : Int32) : Prop :=
  ∀ X14 : SS → AA → Int32 → Prop, (∀ (S : SS) (A : AA) (x1 : Int32), wN_Mm_init_14B post X14 S A x1 → X14 S A x1) → X14 S A x1
def wN_Mm_init (post : SS → AA → Prop) (S : SS) (A : AA) : Prop :=
  (wN_Mm_init_14 post S A (0 : Int32))
def wX_T_init (post : SS → AA → Prop) (S : SS) (A : AA) : Prop :=
  (wX_T_boot (fun S78 A78 => (post S78 A78)) S A)
def wM_M_init_75 (post : SS → AA → Prop) (X51 : SS → AA → Int32 → Prop) (S : SS) (A : AA) (x1 y0 y1 : Int32) : Prop :=
  (vp_in y1 96 ∧ (X51 S (va_up A 0 (upd (A 0) y1.toNatClampNeg y0)) (x1 + (1 : Int32))))
def wM_M_init_51B (post : SS → AA → Prop) (X51 : SS → AA → Int32 → Prop) (S : SS) (A : AA) (x1 : Int32) : Prop :=
  (((96 : Int32) ≤ x1 → (wM_M_sumOf (fun r84 S84 A84 => (vp_in (32 : Int32) 96 ∧ (vp_in (33 : Int32) 96 ∧ (vp_in (34 : Int32) 96 ∧ (vp_in (35 : Int32) 96 ∧ (wM_M_boot (fun S129 A129 => (post (va_up S129 24 (0 : Int32)) A129)) S84 (va_up (va_up (va_up (va_up A84 0 (upd (A84 0) (32 : Int32).toNatClampNeg (0 : Int32))) 0 (upd (upd (A84 0) (32 : Int32).toNatClampNeg (0 : Int32)) (33 : Int32).toNatClampNeg (1 : Int32))) 0 (upd (upd (upd (A84 0) (32 : Int32).toNatClampNeg (0 : Int32)) (33 : Int32).toNatClampNeg (1 : Int32)) (34 : Int32).toNatClampNeg (r84 / (256 : Int32)))) 0 (upd (upd (upd (upd (A84 0) (32 : Int32).toNatClampNeg (0 : Int32)) (33 : Int32).toNatClampNeg (1 : Int32)) (34 : Int32).toNatClampNeg (r84 / (256 : Int32))) (35 : Int32).toNatClampNeg (r84 - r84 / (256 : Int32) * (256 : Int32)))))))))) S A (0 : Int32))) ∧ (¬ (96 : Int32) ≤ x1 → (((32 : Int32) ≤ x1 → (wM_M_init_75 post X51 S A x1 (255 : Int32) x1)) ∧ (¬ (32 : Int32) ≤ x1 → (wM_M_init_75 post X51 S A x1 x1 x1)))))
def wM_M_init_51 (post : SS → AA → Prop) (S : SS) (A : AA) (x1 : Int32) : Prop :=
  ∀ X51 : SS → AA → Int32 → Prop, (∀ (S : SS) (A : AA) (x1 : Int32), wM_M_init_51B post X51 S A x1 → X51 S A x1) → X51 S A x1
def wM_M_init (post : SS → AA → Prop) (S : SS) (A : AA) : Prop :=
  (wM_M_init_51 post S A (0 : Int32))
