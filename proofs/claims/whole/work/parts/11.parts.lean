/-! Town.add, Town.become, Sheets, Tape's small methods, Arrays.fill -/
def wSh (cI : ClassId) (h : Nat) (b : Nat → Nat) (s1 s2 s3 : Nat → Int32) : va_W := [(h, .inr (0, [.ref (b 0), .ref (b 1), .ref (b 2)])), (b 0, .inl (cI, 4, .inl s1)), (b 1, .inl (cI, 4, .inl s2)), (b 2, .inl (cI, 160, .inl s3))]
def wTp (cI : ClassId) (h b : Nat) (f : Nat → Int32) (n : Nat) (tk : Int32) (bg en : Nat) (nm : Int32) : va_W := [(h, .inr (1, [.ref b, .int (nI n), .int tk, .int (nI bg), .int (nI en), .int nm])), (b, .inl (cI, 120, .inl f))]
def fillF (f : Nat → Int32) (lo hi : Nat) (v : Int32) : Nat → Int32 := fun j => if lo ≤ j ∧ j < hi then v else f j
theorem fillF_s (f : Nat → Int32) (lo i : Nat) (v : Int32) : upd (fillF f lo (lo + i) v) (lo + i) v = fillF f lo (lo + (i + 1)) v := by
  funext j
  unfold upd fillF
  by_cases h : j = lo + i
  · rw [if_pos h, if_pos (by omega)]
  · rw [if_neg h]
    by_cases h2 : lo ≤ j ∧ j < lo + i
    · rw [if_pos h2, if_pos (by omega)]
    · rw [if_neg h2, if_neg (by omega)]
theorem fillF_0 (f : Nat → Int32) (lo : Nat) (v : Int32) : fillF f lo (lo + 0) v = f := by
  funext j
  unfold fillF
  rw [if_neg (by omega)]
theorem cpy0 {f g : Nat → Int32} {n j : Nat} (h : j < n) : va_cpy f g 0 0 n j = f j := by
  unfold va_cpy
  rw [if_pos (by omega)]
  congr 1
  omega
theorem ix40 (s i : Nat) : nI s * 40 + nI i = nI (s * 40 + i) := by
  rw [show (40 : Int32) = nI 40 from rfl, pk_mul, nI_add]
theorem ix4 (s : Nat) : nI s * 40 = nI (s * 40) := by rw [show (40 : Int32) = nI 40 from rfl, pk_mul]
theorem ix41 (s : Nat) : (nI s + 1) * 40 = nI (s * 40 + 40) := by
  rw [show (40 : Int32) = nI 40 from rfl, show (1 : Int32) = nI 1 from rfl, nI_add, pk_mul, Nat.succ_mul]
def lowB (b v : Int32) : Int32 := if b = 8 then v.toInt8.toInt32 else if b = 16 then v.toInt16.toInt32 else v
theorem aw_lowO {x : Int32} (h1 : ¬ x = 8) (h2 : ¬ x = 16) : Op.lookupswitch.offset [((8 : Int), (27 : Int)), (16, 30)] 33 x.toInt = 33 := by
  have q1 := ne_toInt h1 (z := 8) rfl
  have q2 := ne_toInt h2 (z := 16) rfl
  simp [Op.lookupswitch.offset, Ne.symm q1, Ne.symm q2, q1, q2]

abbrev r_X3_add : Room := { frames := 2, cells := 0, slots := 0, locals := 44 }
theorem cv_X3_add : cV yX3_add cX3_add 4 (some .int) 2 := ⟨k1_156, k1_157, k1_158, k1_2, by decide, by decide, by decide +kernel⟩
set_option maxHeartbeats 4000000 in
set_option maxRecDepth 100000 in
theorem c_X3_add (l : Launch) (D : va_G) (cI cC : ClassId) (adK adV : Nat → Nat) (h : Nat) (a : Nat → Nat) (T : Tw) (k : Int32) (c : Int32) (hl : T.1 < 8) : FC l yX3_add (wW yX3_add cX3_add 4 (some .int)) r_X3_add D (tyC cI cC) adK adV (wTo cI h a T) [.ref h, .int k, .int c] 0 0 (fQ (some (.int (nI T.1))) (wTo cI h a (tAdd T k c))) := by
  refine FC.of (own := RX3) (by decide) rfl (Nat.le_of_ble_eq_true rfl) ?_
  intro p9 e9 s9 m9 args9 below9 meth9 c9 A9 C hr hlk hmn
  show AW p9 l e9 r_X3_add s9 m9 args9 below9 meth9 c9 D A9 4 0 0 _ 0 [(0, .ref h), (1, .int k), (2, .int c)] [] _
  refine aw_aload_n C dX3_add_0 rfl ?_
  refine aw_callVp C (As := []) (c_X3_isFull l D cI cC adK adV h a T ) k1_159 cv_X3_isFull 0 2 rfl rfl rfl [0, 1, 2, 3, 4, 5, 6, 7, 8] (by decide) rfl ⟨by decide, by decide⟩ rfl rfl ⟨by decide, by decide⟩ rfl rfl (Nat.le_of_ble_eq_true rfl) dX3_add_1 ?_
  refine aw_ifeq_b C 9 dX3_add_4 (by decide) (fun c_4 => ?_) (fun c_4 => absurd c_4 ((by simp only [Bool.not_eq_true', decide_eq_false_iff_not]; exact fun z => z (nI_lt (b := 8) hl (by decide)))))
  refine aw_aload_n C dX3_add_9 rfl ?_
  refine aw_getf C 0 2 0 12 inX3 rfl (by decide) rfl k1_32 rfl rfl dX3_add_10 ?_
  refine aw_istore_n C true (lv' := [(0, .ref h), (1, .int k), (2, .int c), (3, .int (nI T.1))]) dX3_add_13 (by decide) rfl rfl ?_
  refine aw_aload_n C dX3_add_14 rfl ?_
  refine aw_dup C dX3_add_15 rfl ?_
  refine aw_getf C 0 2 0 12 inX3 rfl (by decide) rfl k1_32 rfl rfl dX3_add_16 ?_
  refine aw_pc 19 rfl ?_
  refine aw_iconst C (1 : Int32) dX3_add_19 (by decide) ?_
  refine aw_iadd C dX3_add_20 ?_
  refine aw_top (y := (nI (T.1 + 1))) (by exact nI_1 _) ?_
  refine aw_putf C 0 2 0 12 tyX3 inX3 tyX3_ok nmX3 rfl (by decide) rfl k1_32 rfl rfl rfl rfl rfl (Nat.le_of_ble_eq_true rfl) (ws' := wTo cI h a (sN T (T.1 + 1))) rfl dX3_add_21 ?_
  refine aw_aload_n C dX3_add_24 rfl ?_
  refine aw_iload_n C dX3_add_25 rfl ?_
  refine aw_iconst C (0 : Int32) dX3_add_26 (by decide) ?_
  refine aw_iload_n C dX3_add_27 rfl ?_
  refine aw_callVdv C (As := [.int (nI T.1), .int (0 : Int32), .int k]) (c_X3_put l D cI cC adK adV h a (sN T (T.1 + 1)) T.1 (0 : Int32) k (by show T.1 + 1 ≤ 8; omega) (by show T.1 < T.1 + 1; omega)) k1_160 cv_X3_put 0 2 rfl rfl rfl [0, 1, 2, 3, 4, 5, 6, 7, 8] (by decide) rfl (wr := ([] : va_W)) [] rfl (by decide) (by decide) [0, 1, 2, 3, 4, 5, 6, 7, 8] (by decide) (ws' := wTo cI h a (mPut (sN T (T.1 + 1)) T.1 (0 : Int32) k)) rfl ⟨by decide, by decide⟩ rfl rfl ⟨by decide, by decide⟩ rfl rfl (Nat.le_of_ble_eq_true rfl) dX3_add_28 ?_
  refine aw_aload_n C dX3_add_31 rfl ?_
  refine aw_iload_n C dX3_add_32 rfl ?_
  refine aw_pc 33 rfl ?_
  refine aw_iconst C (1 : Int32) dX3_add_33 (by decide) ?_
  refine aw_iload_n C dX3_add_34 rfl ?_
  refine aw_callVdv C (As := [.int (nI T.1), .int (1 : Int32), .int c]) (c_X3_put l D cI cC adK adV h a (mPut (sN T (T.1 + 1)) T.1 (0 : Int32) k) T.1 (1 : Int32) c (by show T.1 + 1 ≤ 8; omega) (by show T.1 < T.1 + 1; omega)) k1_160 cv_X3_put 0 2 rfl rfl rfl [0, 1, 2, 3, 4, 5, 6, 7, 8] (by decide) rfl (wr := ([] : va_W)) [] rfl (by decide) (by decide) [0, 1, 2, 3, 4, 5, 6, 7, 8] (by decide) (ws' := wTo cI h a (mPut (mPut (sN T (T.1 + 1)) T.1 (0 : Int32) k) T.1 (1 : Int32) c)) rfl ⟨by decide, by decide⟩ rfl rfl ⟨by decide, by decide⟩ rfl rfl (Nat.le_of_ble_eq_true rfl) dX3_add_35 ?_
  refine aw_iload_n C dX3_add_38 rfl ?_
  exact aw_iret C hr hlk dX3_add_39 ⟨ri (by rfl), by rfl⟩
abbrev r_X3_become : Room := { frames := 1, cells := 0, slots := 0, locals := 18 }
theorem cv_X3_become : cV yX3_become cX3_become 2 none 1 := ⟨k2_114, k2_115, k2_116, k1_2, by decide, by decide, by decide +kernel⟩
set_option maxHeartbeats 4000000 in
set_option maxRecDepth 100000 in
theorem c_X3_become (l : Launch) (D : va_G) (cI cC : ClassId) (adK adV : Nat → Nat) (h g : Nat) (a b : Nat → Nat) (T U : Tw) : FC l yX3_become (wW yX3_become cX3_become 2 none) r_X3_become D (tyC cI cC) adK adV (wTo cI h a T ++ wTo cI g b U) [.ref h, .ref g] 0 0 (fQ none (wTo cI h a U ++ wTo cI g b U)) := by
  refine FC.of (own := RX3) (by decide) rfl (Nat.le_of_ble_eq_true rfl) ?_
  intro p9 e9 s9 m9 args9 below9 meth9 c9 A9 C hr hlk hmn
  show AW p9 l e9 r_X3_become s9 m9 args9 below9 meth9 c9 D A9 2 0 0 _ 0 [(0, .ref h), (1, .ref g)] [] _
  refine aw_eq (lv' := [(0, .ref h), (1, .ref g)]) (ws' := [(h, .inr (2, [.int (nI T.1), .int (T.2.1 0), .int (T.2.1 3), .int (T.2.1 2), .ref (a 0), .ref (a 1), .ref (a 2), .ref (a 3), .ref (a 4), .ref (a 5), .ref (a 6), .ref (a 7)])), (a 0, .inl (cI, 10, .inl T.2.2.2)), (a 1, .inl (cI, 8, .inl (T.2.2.1 0))), (a 2, .inl (cI, 8, .inl (T.2.2.1 1))), (a 3, .inl (cI, 8, .inl (T.2.2.1 2))), (a 4, .inl (cI, 8, .inl (T.2.2.1 3))), (a 5, .inl (cI, 8, .inl (T.2.2.1 4))), (a 6, .inl (cI, 8, .inl (T.2.2.1 5))), (a 7, .inl (cI, 8, .inl (T.2.2.1 6)))] ++ wTo cI g b U) rfl rfl rfl ?_
  refine aw_aload_n C dX3_become_0 rfl ?_
  refine aw_aload_n C dX3_become_1 rfl ?_
  refine aw_getf C 9 2 0 12 inX3 rfl (by decide) rfl k1_32 rfl rfl dX3_become_2 ?_
  refine aw_putf C 0 2 0 12 tyX3 inX3 tyX3_ok nmX3 rfl (by decide) rfl k1_32 rfl rfl rfl rfl rfl (Nat.le_of_ble_eq_true rfl) (ws' := [(h, .inr (2, [.int (nI U.1), .int (T.2.1 0), .int (T.2.1 3), .int (T.2.1 2), .ref (a 0), .ref (a 1), .ref (a 2), .ref (a 3), .ref (a 4), .ref (a 5), .ref (a 6), .ref (a 7)])), (a 0, .inl (cI, 10, .inl T.2.2.2)), (a 1, .inl (cI, 8, .inl (T.2.2.1 0))), (a 2, .inl (cI, 8, .inl (T.2.2.1 1))), (a 3, .inl (cI, 8, .inl (T.2.2.1 2))), (a 4, .inl (cI, 8, .inl (T.2.2.1 3))), (a 5, .inl (cI, 8, .inl (T.2.2.1 4))), (a 6, .inl (cI, 8, .inl (T.2.2.1 5))), (a 7, .inl (cI, 8, .inl (T.2.2.1 6)))] ++ wTo cI g b U) rfl dX3_become_5 ?_
  refine aw_aload_n C dX3_become_8 rfl ?_
  refine aw_aload_n C dX3_become_9 rfl ?_
  refine aw_getf C 9 2 1 12 inX3 rfl (by decide) rfl k1_35 rfl rfl dX3_become_10 ?_
  refine aw_putf C 0 2 1 12 tyX3 inX3 tyX3_ok nmX3 rfl (by decide) rfl k1_35 rfl rfl rfl rfl rfl (Nat.le_of_ble_eq_true rfl) (ws' := [(h, .inr (2, [.int (nI U.1), .int (U.2.1 0), .int (T.2.1 3), .int (T.2.1 2), .ref (a 0), .ref (a 1), .ref (a 2), .ref (a 3), .ref (a 4), .ref (a 5), .ref (a 6), .ref (a 7)])), (a 0, .inl (cI, 10, .inl T.2.2.2)), (a 1, .inl (cI, 8, .inl (T.2.2.1 0))), (a 2, .inl (cI, 8, .inl (T.2.2.1 1))), (a 3, .inl (cI, 8, .inl (T.2.2.1 2))), (a 4, .inl (cI, 8, .inl (T.2.2.1 3))), (a 5, .inl (cI, 8, .inl (T.2.2.1 4))), (a 6, .inl (cI, 8, .inl (T.2.2.1 5))), (a 7, .inl (cI, 8, .inl (T.2.2.1 6)))] ++ wTo cI g b U) rfl dX3_become_13 ?_
  refine aw_aload_n C dX3_become_16 rfl ?_
  refine aw_pc 17 rfl ?_
  refine aw_aload_n C dX3_become_17 rfl ?_
  refine aw_getf C 9 2 2 12 inX3 rfl (by decide) rfl k1_37 rfl rfl dX3_become_18 ?_
  refine aw_putf C 0 2 2 12 tyX3 inX3 tyX3_ok nmX3 rfl (by decide) rfl k1_37 rfl rfl rfl rfl rfl (Nat.le_of_ble_eq_true rfl) (ws' := [(h, .inr (2, [.int (nI U.1), .int (U.2.1 0), .int (U.2.1 3), .int (T.2.1 2), .ref (a 0), .ref (a 1), .ref (a 2), .ref (a 3), .ref (a 4), .ref (a 5), .ref (a 6), .ref (a 7)])), (a 0, .inl (cI, 10, .inl T.2.2.2)), (a 1, .inl (cI, 8, .inl (T.2.2.1 0))), (a 2, .inl (cI, 8, .inl (T.2.2.1 1))), (a 3, .inl (cI, 8, .inl (T.2.2.1 2))), (a 4, .inl (cI, 8, .inl (T.2.2.1 3))), (a 5, .inl (cI, 8, .inl (T.2.2.1 4))), (a 6, .inl (cI, 8, .inl (T.2.2.1 5))), (a 7, .inl (cI, 8, .inl (T.2.2.1 6)))] ++ wTo cI g b U) rfl dX3_become_21 ?_
  refine aw_aload_n C dX3_become_24 rfl ?_
  refine aw_aload_n C dX3_become_25 rfl ?_
  refine aw_getf C 9 2 3 12 inX3 rfl (by decide) rfl k1_39 rfl rfl dX3_become_26 ?_
  refine aw_putf C 0 2 3 12 tyX3 inX3 tyX3_ok nmX3 rfl (by decide) rfl k1_39 rfl rfl rfl rfl rfl (Nat.le_of_ble_eq_true rfl) (ws' := [(h, .inr (2, [.int (nI U.1), .int (U.2.1 0), .int (U.2.1 3), .int (U.2.1 2), .ref (a 0), .ref (a 1), .ref (a 2), .ref (a 3), .ref (a 4), .ref (a 5), .ref (a 6), .ref (a 7)])), (a 0, .inl (cI, 10, .inl T.2.2.2)), (a 1, .inl (cI, 8, .inl (T.2.2.1 0))), (a 2, .inl (cI, 8, .inl (T.2.2.1 1))), (a 3, .inl (cI, 8, .inl (T.2.2.1 2))), (a 4, .inl (cI, 8, .inl (T.2.2.1 3))), (a 5, .inl (cI, 8, .inl (T.2.2.1 4))), (a 6, .inl (cI, 8, .inl (T.2.2.1 5))), (a 7, .inl (cI, 8, .inl (T.2.2.1 6)))] ++ wTo cI g b U) rfl dX3_become_29 ?_
  refine aw_aload_n C dX3_become_32 rfl ?_
  refine aw_getf C 9 2 4 12 inX3 rfl (by decide) rfl k1_41 rfl rfl dX3_become_33 ?_
  refine aw_iconst C (0 : Int32) dX3_become_36 (by decide) ?_
  refine aw_pc 37 rfl ?_
  refine aw_aload_n C dX3_become_37 rfl ?_
  refine aw_getf C 0 2 4 12 inX3 rfl (by decide) rfl k1_41 rfl rfl dX3_become_38 ?_
  refine aw_iconst C (0 : Int32) dX3_become_41 (by decide) ?_
  refine aw_bipush C (10 : Int32) dX3_become_42 (by decide) ?_
  refine aw_copy C 10 1 0 0 0 0 10 k2_117 rfl rfl rfl rfl rfl rfl rfl (by decide) (by decide) (by decide) (by decide) (by decide) (Nat.le_of_ble_eq_true rfl) (ws' := [(h, .inr (2, [.int (nI U.1), .int (U.2.1 0), .int (U.2.1 3), .int (U.2.1 2), .ref (a 0), .ref (a 1), .ref (a 2), .ref (a 3), .ref (a 4), .ref (a 5), .ref (a 6), .ref (a 7)])), (a 0, .inl (cI, 10, .inl (va_cpy (U.2.2.2) T.2.2.2 0 0 10))), (a 1, .inl (cI, 8, .inl (T.2.2.1 0))), (a 2, .inl (cI, 8, .inl (T.2.2.1 1))), (a 3, .inl (cI, 8, .inl (T.2.2.1 2))), (a 4, .inl (cI, 8, .inl (T.2.2.1 3))), (a 5, .inl (cI, 8, .inl (T.2.2.1 4))), (a 6, .inl (cI, 8, .inl (T.2.2.1 5))), (a 7, .inl (cI, 8, .inl (T.2.2.1 6)))] ++ wTo cI g b U) rfl dX3_become_44 ?_
  refine aw_ext 1 rfl (fun j hj => cpy0 hj) (ws' := [(h, .inr (2, [.int (nI U.1), .int (U.2.1 0), .int (U.2.1 3), .int (U.2.1 2), .ref (a 0), .ref (a 1), .ref (a 2), .ref (a 3), .ref (a 4), .ref (a 5), .ref (a 6), .ref (a 7)])), (a 0, .inl (cI, 10, .inl (U.2.2.2))), (a 1, .inl (cI, 8, .inl (T.2.2.1 0))), (a 2, .inl (cI, 8, .inl (T.2.2.1 1))), (a 3, .inl (cI, 8, .inl (T.2.2.1 2))), (a 4, .inl (cI, 8, .inl (T.2.2.1 3))), (a 5, .inl (cI, 8, .inl (T.2.2.1 4))), (a 6, .inl (cI, 8, .inl (T.2.2.1 5))), (a 7, .inl (cI, 8, .inl (T.2.2.1 6)))] ++ wTo cI g b U) rfl ?_
  refine aw_aload_n C dX3_become_47 rfl ?_
  refine aw_getf C 9 2 5 12 inX3 rfl (by decide) rfl k1_43 rfl rfl dX3_become_48 ?_
  refine aw_iconst C (0 : Int32) dX3_become_51 (by decide) ?_
  refine aw_aload_n C dX3_become_52 rfl ?_
  refine aw_getf C 0 2 5 12 inX3 rfl (by decide) rfl k1_43 rfl rfl dX3_become_53 ?_
  refine aw_pc 56 rfl ?_
  refine aw_iconst C (0 : Int32) dX3_become_56 (by decide) ?_
  refine aw_bipush C (8 : Int32) dX3_become_57 (by decide) ?_
  refine aw_copy C 11 2 0 0 0 0 8 k2_117 rfl rfl rfl rfl rfl rfl rfl (by decide) (by decide) (by decide) (by decide) (by decide) (Nat.le_of_ble_eq_true rfl) (ws' := [(h, .inr (2, [.int (nI U.1), .int (U.2.1 0), .int (U.2.1 3), .int (U.2.1 2), .ref (a 0), .ref (a 1), .ref (a 2), .ref (a 3), .ref (a 4), .ref (a 5), .ref (a 6), .ref (a 7)])), (a 0, .inl (cI, 10, .inl (U.2.2.2))), (a 1, .inl (cI, 8, .inl (va_cpy (U.2.2.1 0) (T.2.2.1 0) 0 0 8))), (a 2, .inl (cI, 8, .inl (T.2.2.1 1))), (a 3, .inl (cI, 8, .inl (T.2.2.1 2))), (a 4, .inl (cI, 8, .inl (T.2.2.1 3))), (a 5, .inl (cI, 8, .inl (T.2.2.1 4))), (a 6, .inl (cI, 8, .inl (T.2.2.1 5))), (a 7, .inl (cI, 8, .inl (T.2.2.1 6)))] ++ wTo cI g b U) rfl dX3_become_59 ?_
  refine aw_ext 2 rfl (fun j hj => cpy0 hj) (ws' := [(h, .inr (2, [.int (nI U.1), .int (U.2.1 0), .int (U.2.1 3), .int (U.2.1 2), .ref (a 0), .ref (a 1), .ref (a 2), .ref (a 3), .ref (a 4), .ref (a 5), .ref (a 6), .ref (a 7)])), (a 0, .inl (cI, 10, .inl (U.2.2.2))), (a 1, .inl (cI, 8, .inl (U.2.2.1 0))), (a 2, .inl (cI, 8, .inl (T.2.2.1 1))), (a 3, .inl (cI, 8, .inl (T.2.2.1 2))), (a 4, .inl (cI, 8, .inl (T.2.2.1 3))), (a 5, .inl (cI, 8, .inl (T.2.2.1 4))), (a 6, .inl (cI, 8, .inl (T.2.2.1 5))), (a 7, .inl (cI, 8, .inl (T.2.2.1 6)))] ++ wTo cI g b U) rfl ?_
  refine aw_aload_n C dX3_become_62 rfl ?_
  refine aw_getf C 9 2 6 12 inX3 rfl (by decide) rfl k1_44 rfl rfl dX3_become_63 ?_
  refine aw_iconst C (0 : Int32) dX3_become_66 (by decide) ?_
  refine aw_aload_n C dX3_become_67 rfl ?_
  refine aw_getf C 0 2 6 12 inX3 rfl (by decide) rfl k1_44 rfl rfl dX3_become_68 ?_
  refine aw_iconst C (0 : Int32) dX3_become_71 (by decide) ?_
  refine aw_bipush C (8 : Int32) dX3_become_72 (by decide) ?_
  refine aw_pc 74 rfl ?_
  refine aw_copy C 12 3 0 0 0 0 8 k2_117 rfl rfl rfl rfl rfl rfl rfl (by decide) (by decide) (by decide) (by decide) (by decide) (Nat.le_of_ble_eq_true rfl) (ws' := [(h, .inr (2, [.int (nI U.1), .int (U.2.1 0), .int (U.2.1 3), .int (U.2.1 2), .ref (a 0), .ref (a 1), .ref (a 2), .ref (a 3), .ref (a 4), .ref (a 5), .ref (a 6), .ref (a 7)])), (a 0, .inl (cI, 10, .inl (U.2.2.2))), (a 1, .inl (cI, 8, .inl (U.2.2.1 0))), (a 2, .inl (cI, 8, .inl (va_cpy (U.2.2.1 1) (T.2.2.1 1) 0 0 8))), (a 3, .inl (cI, 8, .inl (T.2.2.1 2))), (a 4, .inl (cI, 8, .inl (T.2.2.1 3))), (a 5, .inl (cI, 8, .inl (T.2.2.1 4))), (a 6, .inl (cI, 8, .inl (T.2.2.1 5))), (a 7, .inl (cI, 8, .inl (T.2.2.1 6)))] ++ wTo cI g b U) rfl dX3_become_74 ?_
  refine aw_ext 3 rfl (fun j hj => cpy0 hj) (ws' := [(h, .inr (2, [.int (nI U.1), .int (U.2.1 0), .int (U.2.1 3), .int (U.2.1 2), .ref (a 0), .ref (a 1), .ref (a 2), .ref (a 3), .ref (a 4), .ref (a 5), .ref (a 6), .ref (a 7)])), (a 0, .inl (cI, 10, .inl (U.2.2.2))), (a 1, .inl (cI, 8, .inl (U.2.2.1 0))), (a 2, .inl (cI, 8, .inl (U.2.2.1 1))), (a 3, .inl (cI, 8, .inl (T.2.2.1 2))), (a 4, .inl (cI, 8, .inl (T.2.2.1 3))), (a 5, .inl (cI, 8, .inl (T.2.2.1 4))), (a 6, .inl (cI, 8, .inl (T.2.2.1 5))), (a 7, .inl (cI, 8, .inl (T.2.2.1 6)))] ++ wTo cI g b U) rfl ?_
  refine aw_aload_n C dX3_become_77 rfl ?_
  refine aw_getf C 9 2 7 12 inX3 rfl (by decide) rfl k1_45 rfl rfl dX3_become_78 ?_
  refine aw_iconst C (0 : Int32) dX3_become_81 (by decide) ?_
  refine aw_aload_n C dX3_become_82 rfl ?_
  refine aw_getf C 0 2 7 12 inX3 rfl (by decide) rfl k1_45 rfl rfl dX3_become_83 ?_
  refine aw_iconst C (0 : Int32) dX3_become_86 (by decide) ?_
  refine aw_bipush C (8 : Int32) dX3_become_87 (by decide) ?_
  refine aw_copy C 13 4 0 0 0 0 8 k2_117 rfl rfl rfl rfl rfl rfl rfl (by decide) (by decide) (by decide) (by decide) (by decide) (Nat.le_of_ble_eq_true rfl) (ws' := [(h, .inr (2, [.int (nI U.1), .int (U.2.1 0), .int (U.2.1 3), .int (U.2.1 2), .ref (a 0), .ref (a 1), .ref (a 2), .ref (a 3), .ref (a 4), .ref (a 5), .ref (a 6), .ref (a 7)])), (a 0, .inl (cI, 10, .inl (U.2.2.2))), (a 1, .inl (cI, 8, .inl (U.2.2.1 0))), (a 2, .inl (cI, 8, .inl (U.2.2.1 1))), (a 3, .inl (cI, 8, .inl (va_cpy (U.2.2.1 2) (T.2.2.1 2) 0 0 8))), (a 4, .inl (cI, 8, .inl (T.2.2.1 3))), (a 5, .inl (cI, 8, .inl (T.2.2.1 4))), (a 6, .inl (cI, 8, .inl (T.2.2.1 5))), (a 7, .inl (cI, 8, .inl (T.2.2.1 6)))] ++ wTo cI g b U) rfl dX3_become_89 ?_
  refine aw_ext 4 rfl (fun j hj => cpy0 hj) (ws' := [(h, .inr (2, [.int (nI U.1), .int (U.2.1 0), .int (U.2.1 3), .int (U.2.1 2), .ref (a 0), .ref (a 1), .ref (a 2), .ref (a 3), .ref (a 4), .ref (a 5), .ref (a 6), .ref (a 7)])), (a 0, .inl (cI, 10, .inl (U.2.2.2))), (a 1, .inl (cI, 8, .inl (U.2.2.1 0))), (a 2, .inl (cI, 8, .inl (U.2.2.1 1))), (a 3, .inl (cI, 8, .inl (U.2.2.1 2))), (a 4, .inl (cI, 8, .inl (T.2.2.1 3))), (a 5, .inl (cI, 8, .inl (T.2.2.1 4))), (a 6, .inl (cI, 8, .inl (T.2.2.1 5))), (a 7, .inl (cI, 8, .inl (T.2.2.1 6)))] ++ wTo cI g b U) rfl ?_
  refine aw_aload_n C dX3_become_92 rfl ?_
  refine aw_pc 93 rfl ?_
  refine aw_getf C 9 2 8 12 inX3 rfl (by decide) rfl k1_46 rfl rfl dX3_become_93 ?_
  refine aw_iconst C (0 : Int32) dX3_become_96 (by decide) ?_
  refine aw_aload_n C dX3_become_97 rfl ?_
  refine aw_getf C 0 2 8 12 inX3 rfl (by decide) rfl k1_46 rfl rfl dX3_become_98 ?_
  refine aw_iconst C (0 : Int32) dX3_become_101 (by decide) ?_
  refine aw_bipush C (8 : Int32) dX3_become_102 (by decide) ?_
  refine aw_copy C 14 5 0 0 0 0 8 k2_117 rfl rfl rfl rfl rfl rfl rfl (by decide) (by decide) (by decide) (by decide) (by decide) (Nat.le_of_ble_eq_true rfl) (ws' := [(h, .inr (2, [.int (nI U.1), .int (U.2.1 0), .int (U.2.1 3), .int (U.2.1 2), .ref (a 0), .ref (a 1), .ref (a 2), .ref (a 3), .ref (a 4), .ref (a 5), .ref (a 6), .ref (a 7)])), (a 0, .inl (cI, 10, .inl (U.2.2.2))), (a 1, .inl (cI, 8, .inl (U.2.2.1 0))), (a 2, .inl (cI, 8, .inl (U.2.2.1 1))), (a 3, .inl (cI, 8, .inl (U.2.2.1 2))), (a 4, .inl (cI, 8, .inl (va_cpy (U.2.2.1 3) (T.2.2.1 3) 0 0 8))), (a 5, .inl (cI, 8, .inl (T.2.2.1 4))), (a 6, .inl (cI, 8, .inl (T.2.2.1 5))), (a 7, .inl (cI, 8, .inl (T.2.2.1 6)))] ++ wTo cI g b U) rfl dX3_become_104 ?_
  refine aw_ext 5 rfl (fun j hj => cpy0 hj) (ws' := [(h, .inr (2, [.int (nI U.1), .int (U.2.1 0), .int (U.2.1 3), .int (U.2.1 2), .ref (a 0), .ref (a 1), .ref (a 2), .ref (a 3), .ref (a 4), .ref (a 5), .ref (a 6), .ref (a 7)])), (a 0, .inl (cI, 10, .inl (U.2.2.2))), (a 1, .inl (cI, 8, .inl (U.2.2.1 0))), (a 2, .inl (cI, 8, .inl (U.2.2.1 1))), (a 3, .inl (cI, 8, .inl (U.2.2.1 2))), (a 4, .inl (cI, 8, .inl (U.2.2.1 3))), (a 5, .inl (cI, 8, .inl (T.2.2.1 4))), (a 6, .inl (cI, 8, .inl (T.2.2.1 5))), (a 7, .inl (cI, 8, .inl (T.2.2.1 6)))] ++ wTo cI g b U) rfl ?_
  refine aw_aload_n C dX3_become_107 rfl ?_
  refine aw_getf C 9 2 9 12 inX3 rfl (by decide) rfl k1_47 rfl rfl dX3_become_108 ?_
  refine aw_iconst C (0 : Int32) dX3_become_111 (by decide) ?_
  refine aw_pc 112 rfl ?_
  refine aw_aload_n C dX3_become_112 rfl ?_
  refine aw_getf C 0 2 9 12 inX3 rfl (by decide) rfl k1_47 rfl rfl dX3_become_113 ?_
  refine aw_iconst C (0 : Int32) dX3_become_116 (by decide) ?_
  refine aw_bipush C (8 : Int32) dX3_become_117 (by decide) ?_
  refine aw_copy C 15 6 0 0 0 0 8 k2_117 rfl rfl rfl rfl rfl rfl rfl (by decide) (by decide) (by decide) (by decide) (by decide) (Nat.le_of_ble_eq_true rfl) (ws' := [(h, .inr (2, [.int (nI U.1), .int (U.2.1 0), .int (U.2.1 3), .int (U.2.1 2), .ref (a 0), .ref (a 1), .ref (a 2), .ref (a 3), .ref (a 4), .ref (a 5), .ref (a 6), .ref (a 7)])), (a 0, .inl (cI, 10, .inl (U.2.2.2))), (a 1, .inl (cI, 8, .inl (U.2.2.1 0))), (a 2, .inl (cI, 8, .inl (U.2.2.1 1))), (a 3, .inl (cI, 8, .inl (U.2.2.1 2))), (a 4, .inl (cI, 8, .inl (U.2.2.1 3))), (a 5, .inl (cI, 8, .inl (va_cpy (U.2.2.1 4) (T.2.2.1 4) 0 0 8))), (a 6, .inl (cI, 8, .inl (T.2.2.1 5))), (a 7, .inl (cI, 8, .inl (T.2.2.1 6)))] ++ wTo cI g b U) rfl dX3_become_119 ?_
  refine aw_ext 6 rfl (fun j hj => cpy0 hj) (ws' := [(h, .inr (2, [.int (nI U.1), .int (U.2.1 0), .int (U.2.1 3), .int (U.2.1 2), .ref (a 0), .ref (a 1), .ref (a 2), .ref (a 3), .ref (a 4), .ref (a 5), .ref (a 6), .ref (a 7)])), (a 0, .inl (cI, 10, .inl (U.2.2.2))), (a 1, .inl (cI, 8, .inl (U.2.2.1 0))), (a 2, .inl (cI, 8, .inl (U.2.2.1 1))), (a 3, .inl (cI, 8, .inl (U.2.2.1 2))), (a 4, .inl (cI, 8, .inl (U.2.2.1 3))), (a 5, .inl (cI, 8, .inl (U.2.2.1 4))), (a 6, .inl (cI, 8, .inl (T.2.2.1 5))), (a 7, .inl (cI, 8, .inl (T.2.2.1 6)))] ++ wTo cI g b U) rfl ?_
  refine aw_aload_n C dX3_become_122 rfl ?_
  refine aw_getf C 9 2 10 12 inX3 rfl (by decide) rfl k1_48 rfl rfl dX3_become_123 ?_
  refine aw_iconst C (0 : Int32) dX3_become_126 (by decide) ?_
  refine aw_aload_n C dX3_become_127 rfl ?_
  refine aw_getf C 0 2 10 12 inX3 rfl (by decide) rfl k1_48 rfl rfl dX3_become_128 ?_
  refine aw_pc 131 rfl ?_
  refine aw_iconst C (0 : Int32) dX3_become_131 (by decide) ?_
  refine aw_bipush C (8 : Int32) dX3_become_132 (by decide) ?_
  refine aw_copy C 16 7 0 0 0 0 8 k2_117 rfl rfl rfl rfl rfl rfl rfl (by decide) (by decide) (by decide) (by decide) (by decide) (Nat.le_of_ble_eq_true rfl) (ws' := [(h, .inr (2, [.int (nI U.1), .int (U.2.1 0), .int (U.2.1 3), .int (U.2.1 2), .ref (a 0), .ref (a 1), .ref (a 2), .ref (a 3), .ref (a 4), .ref (a 5), .ref (a 6), .ref (a 7)])), (a 0, .inl (cI, 10, .inl (U.2.2.2))), (a 1, .inl (cI, 8, .inl (U.2.2.1 0))), (a 2, .inl (cI, 8, .inl (U.2.2.1 1))), (a 3, .inl (cI, 8, .inl (U.2.2.1 2))), (a 4, .inl (cI, 8, .inl (U.2.2.1 3))), (a 5, .inl (cI, 8, .inl (U.2.2.1 4))), (a 6, .inl (cI, 8, .inl (va_cpy (U.2.2.1 5) (T.2.2.1 5) 0 0 8))), (a 7, .inl (cI, 8, .inl (T.2.2.1 6)))] ++ wTo cI g b U) rfl dX3_become_134 ?_
  refine aw_ext 7 rfl (fun j hj => cpy0 hj) (ws' := [(h, .inr (2, [.int (nI U.1), .int (U.2.1 0), .int (U.2.1 3), .int (U.2.1 2), .ref (a 0), .ref (a 1), .ref (a 2), .ref (a 3), .ref (a 4), .ref (a 5), .ref (a 6), .ref (a 7)])), (a 0, .inl (cI, 10, .inl (U.2.2.2))), (a 1, .inl (cI, 8, .inl (U.2.2.1 0))), (a 2, .inl (cI, 8, .inl (U.2.2.1 1))), (a 3, .inl (cI, 8, .inl (U.2.2.1 2))), (a 4, .inl (cI, 8, .inl (U.2.2.1 3))), (a 5, .inl (cI, 8, .inl (U.2.2.1 4))), (a 6, .inl (cI, 8, .inl (U.2.2.1 5))), (a 7, .inl (cI, 8, .inl (T.2.2.1 6)))] ++ wTo cI g b U) rfl ?_
  refine aw_aload_n C dX3_become_137 rfl ?_
  refine aw_getf C 9 2 11 12 inX3 rfl (by decide) rfl k1_49 rfl rfl dX3_become_138 ?_
  refine aw_iconst C (0 : Int32) dX3_become_141 (by decide) ?_
  refine aw_aload_n C dX3_become_142 rfl ?_
  refine aw_getf C 0 2 11 12 inX3 rfl (by decide) rfl k1_49 rfl rfl dX3_become_143 ?_
  refine aw_iconst C (0 : Int32) dX3_become_146 (by decide) ?_
  refine aw_bipush C (8 : Int32) dX3_become_147 (by decide) ?_
  refine aw_pc 149 rfl ?_
  refine aw_copy C 17 8 0 0 0 0 8 k2_117 rfl rfl rfl rfl rfl rfl rfl (by decide) (by decide) (by decide) (by decide) (by decide) (Nat.le_of_ble_eq_true rfl) (ws' := [(h, .inr (2, [.int (nI U.1), .int (U.2.1 0), .int (U.2.1 3), .int (U.2.1 2), .ref (a 0), .ref (a 1), .ref (a 2), .ref (a 3), .ref (a 4), .ref (a 5), .ref (a 6), .ref (a 7)])), (a 0, .inl (cI, 10, .inl (U.2.2.2))), (a 1, .inl (cI, 8, .inl (U.2.2.1 0))), (a 2, .inl (cI, 8, .inl (U.2.2.1 1))), (a 3, .inl (cI, 8, .inl (U.2.2.1 2))), (a 4, .inl (cI, 8, .inl (U.2.2.1 3))), (a 5, .inl (cI, 8, .inl (U.2.2.1 4))), (a 6, .inl (cI, 8, .inl (U.2.2.1 5))), (a 7, .inl (cI, 8, .inl (va_cpy (U.2.2.1 6) (T.2.2.1 6) 0 0 8)))] ++ wTo cI g b U) rfl dX3_become_149 ?_
  refine aw_ext 8 rfl (fun j hj => cpy0 hj) (ws' := [(h, .inr (2, [.int (nI U.1), .int (U.2.1 0), .int (U.2.1 3), .int (U.2.1 2), .ref (a 0), .ref (a 1), .ref (a 2), .ref (a 3), .ref (a 4), .ref (a 5), .ref (a 6), .ref (a 7)])), (a 0, .inl (cI, 10, .inl (U.2.2.2))), (a 1, .inl (cI, 8, .inl (U.2.2.1 0))), (a 2, .inl (cI, 8, .inl (U.2.2.1 1))), (a 3, .inl (cI, 8, .inl (U.2.2.1 2))), (a 4, .inl (cI, 8, .inl (U.2.2.1 3))), (a 5, .inl (cI, 8, .inl (U.2.2.1 4))), (a 6, .inl (cI, 8, .inl (U.2.2.1 5))), (a 7, .inl (cI, 8, .inl (U.2.2.1 6)))] ++ wTo cI g b U) rfl ?_
  exact aw_vret C hr hlk dX3_become_152 ⟨rfl, by rfl⟩
abbrev r_J7_rangeCheck_23922 : Room := { frames := 0, cells := 0, slots := 0, locals := 0 }
theorem cs_J7_rangeCheck_23922 : cS yJ7_rangeCheck_23922 cJ7_rangeCheck_23922 3 none 3 := ⟨k3_165, k3_166, k1_3, by decide, by decide, by decide +kernel⟩
set_option maxHeartbeats 4000000 in
set_option maxRecDepth 100000 in
theorem c_J7_rangeCheck_23922 (l : Launch) (D : va_G) (cI cC : ClassId) (adK adV : Nat → Nat) (n : Nat) (lo : Nat) (hi : Nat) (h1 : lo ≤ hi) (h2 : hi ≤ n) (h3 : n < 2 ^ 31) : FC l yJ7_rangeCheck_23922 (wW yJ7_rangeCheck_23922 cJ7_rangeCheck_23922 3 none) r_J7_rangeCheck_23922 D (tyC cI cC) adK adV (([] : va_W)) [.int (nI n), .int (nI lo), .int (nI hi)] 0 0 (fQ none (([] : va_W))) := by
  refine FC.of (own := RJ7) (by decide) rfl (Nat.le_of_ble_eq_true rfl) ?_
  intro p9 e9 s9 m9 args9 below9 meth9 c9 A9 C hr hlk hmn
  show AW p9 l e9 r_J7_rangeCheck_23922 s9 m9 args9 below9 meth9 c9 D A9 3 0 0 _ 0 [(0, .int (nI n)), (1, .int (nI lo)), (2, .int (nI hi))] [] _
  refine aw_iload_n C dJ7_rangeCheck_23922_0 rfl ?_
  refine aw_iload_n C dJ7_rangeCheck_23922_1 rfl ?_
  refine aw_icmp_le C 46 dJ7_rangeCheck_23922_2 (by decide) (fun c_2 => ?_) (fun c_2 => absurd c_2 (fun z => z (nI_le h1 (by omega))))
  refine aw_iload_n C dJ7_rangeCheck_23922_46 rfl ?_
  refine aw_if_ge C 59 dJ7_rangeCheck_23922_47 (by decide) (fun c_47 => ?_) (fun c_47 => absurd c_47 (fun z => nI_pos (by omega) (Int32.not_le.mp z)))
  refine aw_iload_n C dJ7_rangeCheck_23922_59 rfl ?_
  refine aw_iload_n C dJ7_rangeCheck_23922_60 rfl ?_
  refine aw_icmp_le C 73 dJ7_rangeCheck_23922_61 (by decide) (fun c_61 => ?_) (fun c_61 => absurd c_61 (fun z => z (nI_le h2 (by omega))))
  exact aw_vret C hr hlk dJ7_rangeCheck_23922_73 ⟨rfl, by rfl⟩
abbrev r_J7_fill_fda19 : Room := { frames := 1, cells := 0, slots := 0, locals := 22 }
theorem cs_J7_fill_fda19 : cS yJ7_fill_fda19 cJ7_fill_fda19 5 none 4 := ⟨k3_162, k3_163, k1_3, by decide, by decide, by decide +kernel⟩
set_option maxHeartbeats 4000000 in
set_option maxRecDepth 100000 in
theorem c_J7_fill_fda19 (l : Launch) (D : va_G) (cI cC : ClassId) (adK adV : Nat → Nat) (h : Nat) (f : Nat → Int32) (n lo hi : Nat) (v : Int32) (h1 : lo ≤ hi) (h2 : hi ≤ n) (h3 : n < 2 ^ 31) : FC l yJ7_fill_fda19 (wW yJ7_fill_fda19 cJ7_fill_fda19 5 none) r_J7_fill_fda19 D (tyC cI cC) adK adV ([(h, .inl (cI, n, .inl f))]) [.ref h, .int (nI lo), .int (nI hi), .int v] 0 0 (fQ none ([(h, .inl (cI, n, .inl (fillF f lo hi v)))])) := by
  refine FC.of (own := RJ7) (by decide) rfl (Nat.le_of_ble_eq_true rfl) ?_
  intro p9 e9 s9 m9 args9 below9 meth9 c9 A9 C hr hlk hmn
  show AW p9 l e9 r_J7_fill_fda19 s9 m9 args9 below9 meth9 c9 D A9 5 0 0 _ 0 [(0, .ref h), (1, .int (nI lo)), (2, .int (nI hi)), (3, .int v)] [] _
  refine aw_aload_n C dJ7_fill_fda19_0 rfl ?_
  refine aw_alen C 0 0 rfl rfl dJ7_fill_fda19_1 ?_
  refine aw_iload_n C dJ7_fill_fda19_2 rfl ?_
  refine aw_iload_n C dJ7_fill_fda19_3 rfl ?_
  refine aw_callSpv C (As := [.int (nI n), .int (nI lo), .int (nI hi)]) (c_J7_rangeCheck_23922 l D cI cC adK adV n lo hi (by omega) (by omega) (by omega)) k3_164 cs_J7_rangeCheck_23922 [] (by decide) rfl ⟨by decide, by decide⟩ rfl rfl ⟨by decide, by decide⟩ rfl rfl (Nat.le_of_ble_eq_true rfl) dJ7_fill_fda19_4 ?_
  refine aw_iload_n C dJ7_fill_fda19_7 rfl ?_
  refine aw_istore C true (lv' := [(0, .ref h), (1, .int (nI lo)), (2, .int (nI hi)), (3, .int v), (4, .int (nI lo))]) dJ7_fill_fda19_8 (by decide) rfl rfl ?_
  refine aw_eq (lv' := [(0, .ref h), (1, .int (nI lo)), (2, .int (nI hi)), (3, .int v), (4, .int (nI (lo + 0)))]) (ws' := [(h, .inl (cI, n, .inl (fillF f lo (lo + 0) v)))]) (by first | rfl | (simp only [itr])) rfl (by rw [fillF_0]) ?_
  refine aw_loop (LV := fun i => [(0, .ref h), (1, .int (nI lo)), (2, .int (nI hi)), (3, .int v), (4, .int (nI (lo + i)))]) (WS := fun i => [(h, .inl (cI, n, .inl (fillF f lo (lo + i) v)))]) (hi - lo) (Inv := fun _ => True) trivial ?_ ?_
  · intro hv10
    refine aw_iload C dJ7_fill_fda19_10 rfl ?_
    refine aw_iload_n C dJ7_fill_fda19_12 rfl ?_
    refine aw_pc 13 rfl ?_
    refine aw_icmp_ge C 27 dJ7_fill_fda19_13 (by decide) (fun c_13 => ?_) (fun c_13 => absurd c_13 (fun z => z (nI_le (by omega) (by omega))))
    exact aw_vret C hr hlk dJ7_fill_fda19_27 ⟨rfl, by rw [show lo + (hi - lo) = hi by omega]⟩
  · intro i hi10 hv10 ih10
    refine aw_iload C dJ7_fill_fda19_10 rfl ?_
    refine aw_iload_n C dJ7_fill_fda19_12 rfl ?_
    refine aw_icmp_ge C 27 dJ7_fill_fda19_13 (by decide) (fun c_13 => absurd c_13 (nI_ge (by omega) (by omega))) (fun c_13 => ?_)
    refine aw_aload_n C dJ7_fill_fda19_16 rfl ?_
    refine aw_iload C dJ7_fill_fda19_17 rfl ?_
    refine aw_iload_n C dJ7_fill_fda19_19 rfl ?_
    refine aw_iastN C 0 0 (lo + i) rfl rfl rfl (by omega) (by omega) (ws' := [(h, .inl (cI, n, .inl (upd (fillF f lo (lo + i) v) (lo + i) v)))]) rfl dJ7_fill_fda19_20 ?_
    refine aw_iinc C (nI ((lo + i) + 1)) dJ7_fill_fda19_21 rfl (inc_nI _ 1) (by decide) rfl (lv' := [(0, .ref h), (1, .int (nI lo)), (2, .int (nI hi)), (3, .int v), (4, .int (nI ((lo + i) + 1)))]) rfl ?_
    refine aw_pc 24 rfl ?_
    refine aw_goto C 10 dJ7_fill_fda19_24 (by decide) ?_
    exact aw_eq (by first | rfl | (simp only [itr])) rfl (by rw [fillF_s]) (ih10 trivial)
abbrev r_X1_isMissing : Room := { frames := 0, cells := 0, slots := 0, locals := 0 }
theorem cv_X1_isMissing : cV yX1_isMissing cX1_isMissing 2 (some .boolean) 1 := ⟨k2_187, k2_188, k2_189, k1_5, by decide, by decide, by decide +kernel⟩
set_option maxHeartbeats 4000000 in
set_option maxRecDepth 100000 in
theorem c_X1_isMissing (l : Launch) (D : va_G) (cI cC : ClassId) (adK adV : Nat → Nat) (h : Nat) (b : Nat → Nat) (s1 s2 s3 : Nat → Int32) (s : Nat) (hs : s < 4) : FC l yX1_isMissing (wW yX1_isMissing cX1_isMissing 2 (some .boolean)) r_X1_isMissing D (tyC cI cC) adK adV (wSh cI h b s1 s2 s3) [.ref h, .int (nI s)] 0 0 (fQ (some (.int (b2 (decide (s1 s = 0))))) (wSh cI h b s1 s2 s3)) := by
  refine FC.of (own := RX1) (by decide) rfl (Nat.le_of_ble_eq_true rfl) ?_
  intro p9 e9 s9 m9 args9 below9 meth9 c9 A9 C hr hlk hmn
  show AW p9 l e9 r_X1_isMissing s9 m9 args9 below9 meth9 c9 D A9 2 0 0 _ 0 [(0, .ref h), (1, .int (nI s))] [] _
  refine aw_aload_n C dX1_isMissing_0 rfl ?_
  refine aw_getf C 0 0 0 3 inX1 rfl (by decide) rfl k1_107 rfl rfl dX1_isMissing_1 ?_
  refine aw_iload_n C dX1_isMissing_4 rfl ?_
  refine aw_ialdN C 1 0 s rfl rfl rfl (by omega) (by decide) dX1_isMissing_5 ?_
  refine aw_if_ne C 13 dX1_isMissing_6 (by decide) (fun c_6 => ?_) (fun c_6 => ?_)
  · skip
    refine aw_iconst C (0 : Int32) dX1_isMissing_13 (by decide) ?_
    exact aw_bret C (b := false) hr hlk dX1_isMissing_14 rfl ⟨rb (by simp [*]), by rfl⟩
  · skip
    refine aw_iconst C (1 : Int32) dX1_isMissing_9 (by decide) ?_
    refine aw_goto C 14 dX1_isMissing_10 (by decide) ?_
    refine aw_pc 14 rfl ?_
    exact aw_bret C (b := true) hr hlk dX1_isMissing_14 rfl ⟨rb (by simp [*]), by rfl⟩
abbrev r_X1_bits : Room := { frames := 0, cells := 0, slots := 0, locals := 0 }
theorem cv_X1_bits : cV yX1_bits cX1_bits 2 (some .int) 1 := ⟨k3_183, k3_184, k3_185, k1_5, by decide, by decide, by decide +kernel⟩
set_option maxHeartbeats 4000000 in
set_option maxRecDepth 100000 in
theorem c_X1_bits (l : Launch) (D : va_G) (cI cC : ClassId) (adK adV : Nat → Nat) (h : Nat) (b : Nat → Nat) (s1 s2 s3 : Nat → Int32) (s : Nat) (hs : s < 4) : FC l yX1_bits (wW yX1_bits cX1_bits 2 (some .int)) r_X1_bits D (tyC cI cC) adK adV (wSh cI h b s1 s2 s3) [.ref h, .int (nI s)] 0 0 (fQ (some (.int (s1 s))) (wSh cI h b s1 s2 s3)) := by
  refine FC.of (own := RX1) (by decide) rfl (Nat.le_of_ble_eq_true rfl) ?_
  intro p9 e9 s9 m9 args9 below9 meth9 c9 A9 C hr hlk hmn
  show AW p9 l e9 r_X1_bits s9 m9 args9 below9 meth9 c9 D A9 2 0 0 _ 0 [(0, .ref h), (1, .int (nI s))] [] _
  refine aw_aload_n C dX1_bits_0 rfl ?_
  refine aw_getf C 0 0 0 3 inX1 rfl (by decide) rfl k1_107 rfl rfl dX1_bits_1 ?_
  refine aw_iload_n C dX1_bits_4 rfl ?_
  refine aw_ialdN C 1 0 s rfl rfl rfl (by omega) (by decide) dX1_bits_5 ?_
  exact aw_iret C hr hlk dX1_bits_6 ⟨ri (by first | rfl | (simp only [])), by rfl⟩
abbrev r_X1_length : Room := { frames := 0, cells := 0, slots := 0, locals := 0 }
theorem cv_X1_length : cV yX1_length cX1_length 2 (some .int) 1 := ⟨k2_195, k2_196, k2_197, k1_5, by decide, by decide, by decide +kernel⟩
set_option maxHeartbeats 4000000 in
set_option maxRecDepth 100000 in
theorem c_X1_length (l : Launch) (D : va_G) (cI cC : ClassId) (adK adV : Nat → Nat) (h : Nat) (b : Nat → Nat) (s1 s2 s3 : Nat → Int32) (s : Nat) (hs : s < 4) : FC l yX1_length (wW yX1_length cX1_length 2 (some .int)) r_X1_length D (tyC cI cC) adK adV (wSh cI h b s1 s2 s3) [.ref h, .int (nI s)] 0 0 (fQ (some (.int (s2 s))) (wSh cI h b s1 s2 s3)) := by
  refine FC.of (own := RX1) (by decide) rfl (Nat.le_of_ble_eq_true rfl) ?_
  intro p9 e9 s9 m9 args9 below9 meth9 c9 A9 C hr hlk hmn
  show AW p9 l e9 r_X1_length s9 m9 args9 below9 meth9 c9 D A9 2 0 0 _ 0 [(0, .ref h), (1, .int (nI s))] [] _
  refine aw_aload_n C dX1_length_0 rfl ?_
  refine aw_getf C 0 0 1 3 inX1 rfl (by decide) rfl k1_108 rfl rfl dX1_length_1 ?_
  refine aw_iload_n C dX1_length_4 rfl ?_
  refine aw_ialdN C 2 0 s rfl rfl rfl (by omega) (by decide) dX1_length_5 ?_
  exact aw_iret C hr hlk dX1_length_6 ⟨ri (by first | rfl | (simp only [])), by rfl⟩
abbrev r_X1_number : Room := { frames := 0, cells := 0, slots := 0, locals := 0 }
theorem cv_X1_number : cV yX1_number cX1_number 3 (some .int) 2 := ⟨k2_199, k2_200, k2_201, k1_5, by decide, by decide, by decide +kernel⟩
set_option maxHeartbeats 4000000 in
set_option maxRecDepth 100000 in
theorem c_X1_number (l : Launch) (D : va_G) (cI cC : ClassId) (adK adV : Nat → Nat) (h : Nat) (b : Nat → Nat) (s1 s2 s3 : Nat → Int32) (s : Nat) (i : Nat) (hs : s < 4) (hi : i < 40) : FC l yX1_number (wW yX1_number cX1_number 3 (some .int)) r_X1_number D (tyC cI cC) adK adV (wSh cI h b s1 s2 s3) [.ref h, .int (nI s), .int (nI i)] 0 0 (fQ (some (.int (s3 (s * 40 + i)))) (wSh cI h b s1 s2 s3)) := by
  refine FC.of (own := RX1) (by decide) rfl (Nat.le_of_ble_eq_true rfl) ?_
  intro p9 e9 s9 m9 args9 below9 meth9 c9 A9 C hr hlk hmn
  show AW p9 l e9 r_X1_number s9 m9 args9 below9 meth9 c9 D A9 3 0 0 _ 0 [(0, .ref h), (1, .int (nI s)), (2, .int (nI i))] [] _
  refine aw_aload_n C dX1_number_0 rfl ?_
  refine aw_getf C 0 0 2 3 inX1 rfl (by decide) rfl k1_109 rfl rfl dX1_number_1 ?_
  refine aw_iload_n C dX1_number_4 rfl ?_
  refine aw_bipush C (40 : Int32) dX1_number_5 (by decide) ?_
  refine aw_imul C dX1_number_7 ?_
  refine aw_iload_n C dX1_number_8 rfl ?_
  refine aw_iadd C dX1_number_9 ?_
  refine aw_ialdN C 3 0 (s * 40 + i) rfl rfl (ix40 s i) (by omega) (by decide) dX1_number_10 ?_
  exact aw_iret C hr hlk dX1_number_11 ⟨ri (by first | rfl | (simp only [])), by rfl⟩
abbrev r_X1_lowest : Room := { frames := 0, cells := 0, slots := 0, locals := 0 }
theorem cs_X1_lowest : cS yX1_lowest cX1_lowest 2 (some .int) 2 := ⟨k3_176, k3_177, k1_5, by decide, by decide, by decide +kernel⟩
set_option maxHeartbeats 4000000 in
set_option maxRecDepth 100000 in
theorem c_X1_lowest (l : Launch) (D : va_G) (cI cC : ClassId) (adK adV : Nat → Nat) (k : Int32) (v : Int32) : FC l yX1_lowest (wW yX1_lowest cX1_lowest 2 (some .int)) r_X1_lowest D (tyC cI cC) adK adV (([] : va_W)) [.int k, .int v] 0 0 (fQ (some (.int (lowB k v))) (([] : va_W))) := by
  refine FC.of (own := RX1) (by decide) rfl (Nat.le_of_ble_eq_true rfl) ?_
  intro p9 e9 s9 m9 args9 below9 meth9 c9 A9 C hr hlk hmn
  show AW p9 l e9 r_X1_lowest s9 m9 args9 below9 meth9 c9 D A9 2 0 0 _ 0 [(0, .int k), (1, .int v)] [] _
  refine aw_iload_n C dX1_lowest_0 rfl ?_
  by_cases q8 : k = 8
  · skip
    refine aw_look C 28 dX1_lowest_1 (by decide) (by rw [q8]) (by decide) ?_
    refine aw_iload_n C dX1_lowest_28 rfl ?_
    refine aw_i2b C dX1_lowest_29 ?_
    exact aw_iret C hr hlk dX1_lowest_30 ⟨ri (by simp only [lowB, if_pos q8]), by rfl⟩
  by_cases q16 : k = 16
  · skip
    refine aw_look C 31 dX1_lowest_1 (by decide) (by rw [q16]) (by decide) ?_
    refine aw_iload_n C dX1_lowest_31 rfl ?_
    refine aw_i2s C dX1_lowest_32 ?_
    exact aw_iret C hr hlk dX1_lowest_33 ⟨ri (by simp only [lowB, if_pos q16, if_neg q8]), by rfl⟩
  refine aw_look C 34 dX1_lowest_1 (by decide) (aw_lowO q8 q16) (by decide) ?_
  refine aw_iload_n C dX1_lowest_34 rfl ?_
  refine aw_pc 35 rfl ?_
  exact aw_iret C hr hlk dX1_lowest_35 ⟨ri (by simp only [lowB, if_neg q8, if_neg q16]), by rfl⟩
abbrev r_X1_put : Room := { frames := 1, cells := 0, slots := 0, locals := 21 }
theorem cv_X1_put : cV yX1_put cX1_put 4 none 3 := ⟨k3_172, k3_173, k3_174, k1_5, by decide, by decide, by decide +kernel⟩
set_option maxHeartbeats 4000000 in
set_option maxRecDepth 100000 in
theorem c_X1_put (l : Launch) (D : va_G) (cI cC : ClassId) (adK adV : Nat → Nat) (h : Nat) (b : Nat → Nat) (s1 s2 s3 : Nat → Int32) (s : Nat) (i : Nat) (v : Int32) (hs : s < 4) (hi : i < 40) : FC l yX1_put (wW yX1_put cX1_put 4 none) r_X1_put D (tyC cI cC) adK adV (wSh cI h b s1 s2 s3) [.ref h, .int (nI s), .int (nI i), .int v] 0 0 (fQ none (wSh cI h b s1 s2 (upd s3 (s * 40 + i) (lowB (s1 s) v)))) := by
  refine FC.of (own := RX1) (by decide) rfl (Nat.le_of_ble_eq_true rfl) ?_
  intro p9 e9 s9 m9 args9 below9 meth9 c9 A9 C hr hlk hmn
  show AW p9 l e9 r_X1_put s9 m9 args9 below9 meth9 c9 D A9 4 0 0 _ 0 [(0, .ref h), (1, .int (nI s)), (2, .int (nI i)), (3, .int v)] [] _
  refine aw_aload_n C dX1_put_0 rfl ?_
  refine aw_getf C 0 0 2 3 inX1 rfl (by decide) rfl k1_109 rfl rfl dX1_put_1 ?_
  refine aw_iload_n C dX1_put_4 rfl ?_
  refine aw_bipush C (40 : Int32) dX1_put_5 (by decide) ?_
  refine aw_imul C dX1_put_7 ?_
  refine aw_iload_n C dX1_put_8 rfl ?_
  refine aw_iadd C dX1_put_9 ?_
  refine aw_aload_n C dX1_put_10 rfl ?_
  refine aw_getf C 0 0 0 3 inX1 rfl (by decide) rfl k1_107 rfl rfl dX1_put_11 ?_
  refine aw_pc 14 rfl ?_
  refine aw_iload_n C dX1_put_14 rfl ?_
  refine aw_ialdN C 1 0 s rfl rfl rfl (by omega) (by decide) dX1_put_15 ?_
  refine aw_iload_n C dX1_put_16 rfl ?_
  refine aw_callSp C (As := [.int (s1 s), .int v]) (c_X1_lowest l D cI cC adK adV (s1 s) v) k3_175 cs_X1_lowest [] (by decide) rfl ⟨by decide, by decide⟩ rfl rfl ⟨by decide, by decide⟩ rfl rfl (Nat.le_of_ble_eq_true rfl) dX1_put_17 ?_
  refine aw_iastN C 3 0 (s * 40 + i) rfl rfl (ix40 s i) (by omega) (by decide) (ws' := wSh cI h b s1 s2 (upd s3 (s * 40 + i) (lowB (s1 s) v))) rfl dX1_put_20 ?_
  exact aw_vret C hr hlk dX1_put_21 ⟨rfl, by rfl⟩
abbrev r_X1_hasPart : Room := { frames := 0, cells := 0, slots := 0, locals := 0 }
theorem cv_X1_hasPart : cV yX1_hasPart cX1_hasPart 4 (some .boolean) 3 := ⟨k3_187, k3_188, k3_189, k1_5, by decide, by decide, by decide +kernel⟩
set_option maxHeartbeats 4000000 in
set_option maxRecDepth 100000 in
theorem c_X1_hasPart (l : Launch) (D : va_G) (cI cC : ClassId) (adK adV : Nat → Nat) (h : Nat) (b : Nat → Nat) (s1 s2 s3 : Nat → Int32) (s : Nat) (i : Int32) (k : Int32) (hs : s < 4) : FC l yX1_hasPart (wW yX1_hasPart cX1_hasPart 4 (some .boolean)) r_X1_hasPart D (tyC cI cC) adK adV (wSh cI h b s1 s2 s3) [.ref h, .int (nI s), .int i, .int k] 0 0 (fQ (some (.int (b2 (!decide (i < 0) && (!decide (k < 0) && !decide (s2 s - k < i)))))) (wSh cI h b s1 s2 s3)) := by
  refine FC.of (own := RX1) (by decide) rfl (Nat.le_of_ble_eq_true rfl) ?_
  intro p9 e9 s9 m9 args9 below9 meth9 c9 A9 C hr hlk hmn
  show AW p9 l e9 r_X1_hasPart s9 m9 args9 below9 meth9 c9 D A9 4 0 0 _ 0 [(0, .ref h), (1, .int (nI s)), (2, .int i), (3, .int k)] [] _
  refine aw_iload_n C dX1_hasPart_0 rfl ?_
  refine aw_if_lt C 24 dX1_hasPart_1 (by decide) (fun c_1 => ?_) (fun c_1 => ?_)
  · skip
    refine aw_iconst C (0 : Int32) dX1_hasPart_24 (by decide) ?_
    exact aw_bret C (b := false) hr hlk dX1_hasPart_25 rfl ⟨rb (by simp only [c_1, decide_true, decide_false, Bool.not_true, Bool.not_false, Bool.true_and, Bool.false_and, Bool.and_true, Bool.and_false, Bool.true_or, Bool.false_or, Bool.or_true, Bool.or_false, cond_true, cond_false, eq_self, if_true, if_false, ite_true, ite_false]), by rfl⟩
  · skip
    refine aw_iload_n C dX1_hasPart_4 rfl ?_
    refine aw_if_lt C 24 dX1_hasPart_5 (by decide) (fun c_5 => ?_) (fun c_5 => ?_)
    · skip
      refine aw_iconst C (0 : Int32) dX1_hasPart_24 (by decide) ?_
      exact aw_bret C (b := false) hr hlk dX1_hasPart_25 rfl ⟨rb (by simp only [c_1, c_5, decide_true, decide_false, Bool.not_true, Bool.not_false, Bool.true_and, Bool.false_and, Bool.and_true, Bool.and_false, Bool.true_or, Bool.false_or, Bool.or_true, Bool.or_false, cond_true, cond_false, eq_self, if_true, if_false, ite_true, ite_false]), by rfl⟩
    · skip
      refine aw_iload_n C dX1_hasPart_8 rfl ?_
      refine aw_pc 9 rfl ?_
      refine aw_aload_n C dX1_hasPart_9 rfl ?_
      refine aw_getf C 0 0 1 3 inX1 rfl (by decide) rfl k1_108 rfl rfl dX1_hasPart_10 ?_
      refine aw_iload_n C dX1_hasPart_13 rfl ?_
      refine aw_ialdN C 2 0 s rfl rfl rfl (by omega) (by decide) dX1_hasPart_14 ?_
      refine aw_iload_n C dX1_hasPart_15 rfl ?_
      refine aw_isub C dX1_hasPart_16 ?_
      refine aw_icmp_gt C 24 dX1_hasPart_17 (by decide) (fun c_17 => ?_) (fun c_17 => ?_)
      · skip
        refine aw_iconst C (0 : Int32) dX1_hasPart_24 (by decide) ?_
        exact aw_bret C (b := false) hr hlk dX1_hasPart_25 rfl ⟨rb (by simp only [c_1, c_5, c_17, decide_true, decide_false, Bool.not_true, Bool.not_false, Bool.true_and, Bool.false_and, Bool.and_true, Bool.and_false, Bool.true_or, Bool.false_or, Bool.or_true, Bool.or_false, cond_true, cond_false, eq_self, if_true, if_false, ite_true, ite_false]), by rfl⟩
      · skip
        refine aw_iconst C (1 : Int32) dX1_hasPart_20 (by decide) ?_
        refine aw_pc 21 rfl ?_
        refine aw_goto C 25 dX1_hasPart_21 (by decide) ?_
        exact aw_bret C (b := true) hr hlk dX1_hasPart_25 rfl ⟨rb (by simp only [c_1, c_5, c_17, decide_true, decide_false, Bool.not_true, Bool.not_false, Bool.true_and, Bool.false_and, Bool.and_true, Bool.and_false, Bool.true_or, Bool.false_or, Bool.or_true, Bool.or_false, cond_true, cond_false, eq_self, if_true, if_false, ite_true, ite_false]), by rfl⟩
abbrev r_X1_lay : Room := { frames := 2, cells := 0, slots := 0, locals := 46 }
theorem cv_X1_lay : cV yX1_lay cX1_lay 4 none 3 := ⟨k3_158, k3_159, k3_160, k1_5, by decide, by decide, by decide +kernel⟩
set_option maxHeartbeats 4000000 in
set_option maxRecDepth 100000 in
theorem c_X1_lay (l : Launch) (D : va_G) (cI cC : ClassId) (adK adV : Nat → Nat) (h : Nat) (b : Nat → Nat) (s1 s2 s3 : Nat → Int32) (s : Nat) (k : Int32) (v : Int32) (hs : s < 4) : FC l yX1_lay (wW yX1_lay cX1_lay 4 none) r_X1_lay D (tyC cI cC) adK adV (wSh cI h b s1 s2 s3) [.ref h, .int (nI s), .int k, .int v] 0 0 (fQ none (wSh cI h b (upd s1 s k) (upd s2 s v) (fillF s3 (s * 40) (s * 40 + 40) 0))) := by
  refine FC.of (own := RX1) (by decide) rfl (Nat.le_of_ble_eq_true rfl) ?_
  intro p9 e9 s9 m9 args9 below9 meth9 c9 A9 C hr hlk hmn
  show AW p9 l e9 r_X1_lay s9 m9 args9 below9 meth9 c9 D A9 4 0 0 _ 0 [(0, .ref h), (1, .int (nI s)), (2, .int k), (3, .int v)] [] _
  refine aw_aload_n C dX1_lay_0 rfl ?_
  refine aw_getf C 0 0 0 3 inX1 rfl (by decide) rfl k1_107 rfl rfl dX1_lay_1 ?_
  refine aw_iload_n C dX1_lay_4 rfl ?_
  refine aw_iload_n C dX1_lay_5 rfl ?_
  refine aw_iastN C 1 0 s rfl rfl rfl (by omega) (by decide) (ws' := wSh cI h b (upd s1 s k) s2 s3) rfl dX1_lay_6 ?_
  refine aw_aload_n C dX1_lay_7 rfl ?_
  refine aw_getf C 0 0 1 3 inX1 rfl (by decide) rfl k1_108 rfl rfl dX1_lay_8 ?_
  refine aw_iload_n C dX1_lay_11 rfl ?_
  refine aw_iload_n C dX1_lay_12 rfl ?_
  refine aw_pc 13 rfl ?_
  refine aw_iastN C 2 0 s rfl rfl rfl (by omega) (by decide) (ws' := wSh cI h b (upd s1 s k) (upd s2 s v) s3) rfl dX1_lay_13 ?_
  refine aw_aload_n C dX1_lay_14 rfl ?_
  refine aw_getf C 0 0 2 3 inX1 rfl (by decide) rfl k1_109 rfl rfl dX1_lay_15 ?_
  refine aw_iload_n C dX1_lay_18 rfl ?_
  refine aw_bipush C (40 : Int32) dX1_lay_19 (by decide) ?_
  refine aw_imul C dX1_lay_21 ?_
  refine aw_top (y := (nI (s * 40))) (by exact ix4 s) ?_
  refine aw_iload_n C dX1_lay_22 rfl ?_
  refine aw_iconst C (1 : Int32) dX1_lay_23 (by decide) ?_
  refine aw_iadd C dX1_lay_24 ?_
  refine aw_bipush C (40 : Int32) dX1_lay_25 (by decide) ?_
  refine aw_pc 27 rfl ?_
  refine aw_imul C dX1_lay_27 ?_
  refine aw_top (y := (nI (s * 40 + 40))) (by exact ix41 s) ?_
  refine aw_iconst C (0 : Int32) dX1_lay_28 (by decide) ?_
  refine aw_callSdv C (As := [.ref (b 2), .int (nI (s * 40)), .int (nI (s * 40 + 40)), .int (0 : Int32)]) (c_J7_fill_fda19 l D cI cC adK adV (b 2) s3 160 (s * 40) (s * 40 + 40) (0 : Int32) (by omega) (by omega) (by decide)) k3_161 cs_J7_fill_fda19 [3] (by decide) rfl (wr := ([(h, .inr (0, [.ref (b 0), .ref (b 1), .ref (b 2)])), (b 0, .inl (cI, 4, .inl (upd s1 s k))), (b 1, .inl (cI, 4, .inl (upd s2 s v)))] : va_W)) [0, 1, 2] rfl (by decide) (by decide) [0, 1, 2, 3] (by decide) (ws' := wSh cI h b (upd s1 s k) (upd s2 s v) (fillF s3 (s * 40) (s * 40 + 40) (0 : Int32))) rfl ⟨by decide, by decide⟩ rfl rfl ⟨by decide, by decide⟩ rfl rfl (Nat.le_of_ble_eq_true rfl) dX1_lay_29 ?_
  exact aw_vret C hr hlk dX1_lay_32 ⟨rfl, by rfl⟩
abbrev r_X1_move : Room := { frames := 1, cells := 0, slots := 0, locals := 18 }
theorem cv_X1_move : cV yX1_move cX1_move 6 none 5 := ⟨k3_191, k3_192, k3_193, k1_5, by decide, by decide, by decide +kernel⟩
set_option maxHeartbeats 4000000 in
set_option maxRecDepth 100000 in
theorem c_X1_move (l : Launch) (D : va_G) (cI cC : ClassId) (adK adV : Nat → Nat) (h : Nat) (b : Nat → Nat) (s1 s2 s3 : Nat → Int32) (s : Nat) (i : Nat) (t : Nat) (j : Nat) (k : Nat) (hs : s < 4) (ht : t < 4) (h1 : i + k ≤ 40) (h2 : j + k ≤ 40) : FC l yX1_move (wW yX1_move cX1_move 6 none) r_X1_move D (tyC cI cC) adK adV (wSh cI h b s1 s2 s3) [.ref h, .int (nI s), .int (nI i), .int (nI t), .int (nI j), .int (nI k)] 0 0 (fQ none (wSh cI h b s1 s2 (va_cpy s3 s3 (s * 40 + i) (t * 40 + j) k))) := by
  refine FC.of (own := RX1) (by decide) rfl (Nat.le_of_ble_eq_true rfl) ?_
  intro p9 e9 s9 m9 args9 below9 meth9 c9 A9 C hr hlk hmn
  show AW p9 l e9 r_X1_move s9 m9 args9 below9 meth9 c9 D A9 6 0 0 _ 0 [(0, .ref h), (1, .int (nI s)), (2, .int (nI i)), (3, .int (nI t)), (4, .int (nI j)), (5, .int (nI k))] [] _
  refine aw_aload_n C dX1_move_0 rfl ?_
  refine aw_getf C 0 0 2 3 inX1 rfl (by decide) rfl k1_109 rfl rfl dX1_move_1 ?_
  refine aw_iload_n C dX1_move_4 rfl ?_
  refine aw_bipush C (40 : Int32) dX1_move_5 (by decide) ?_
  refine aw_imul C dX1_move_7 ?_
  refine aw_iload_n C dX1_move_8 rfl ?_
  refine aw_iadd C dX1_move_9 ?_
  refine aw_aload_n C dX1_move_10 rfl ?_
  refine aw_getf C 0 0 2 3 inX1 rfl (by decide) rfl k1_109 rfl rfl dX1_move_11 ?_
  refine aw_pc 14 rfl ?_
  refine aw_iload_n C dX1_move_14 rfl ?_
  refine aw_bipush C (40 : Int32) dX1_move_15 (by decide) ?_
  refine aw_imul C dX1_move_17 ?_
  refine aw_iload C dX1_move_18 rfl ?_
  refine aw_iadd C dX1_move_20 ?_
  refine aw_iload C dX1_move_21 rfl ?_
  refine aw_copy C 3 3 0 0 (s * 40 + i) (t * 40 + j) k k3_194 rfl rfl rfl rfl (ix40 s i) (ix40 t j) rfl (by omega) (by omega) (by decide) (by decide) (by decide) (Nat.le_of_ble_eq_true rfl) (ws' := wSh cI h b s1 s2 (va_cpy s3 s3 (s * 40 + i) (t * 40 + j) k)) rfl dX1_move_23 ?_
  exact aw_vret C hr hlk dX1_move_26 ⟨rfl, by rfl⟩
abbrev r_X2_length : Room := { frames := 0, cells := 0, slots := 0, locals := 0 }
theorem cv_X2_length : cV yX2_length cX2_length 1 (some .int) 0 := ⟨k3_3, k3_4, k3_5, k1_4, by decide, by decide, by decide +kernel⟩
set_option maxHeartbeats 4000000 in
set_option maxRecDepth 100000 in
theorem c_X2_length (l : Launch) (D : va_G) (cI cC : ClassId) (adK adV : Nat → Nat) (h b : Nat) (f : Nat → Int32) (n : Nat) (tk : Int32) (bg en : Nat) (nm : Int32) : FC l yX2_length (wW yX2_length cX2_length 1 (some .int)) r_X2_length D (tyC cI cC) adK adV (wTp cI h b f n tk bg en nm) [.ref h] 0 0 (fQ (some (.int (nI n))) (wTp cI h b f n tk bg en nm)) := by
  refine FC.of (own := RX2) (by decide) rfl (Nat.le_of_ble_eq_true rfl) ?_
  intro p9 e9 s9 m9 args9 below9 meth9 c9 A9 C hr hlk hmn
  show AW p9 l e9 r_X2_length s9 m9 args9 below9 meth9 c9 D A9 1 0 0 _ 0 [(0, .ref h)] [] _
  refine aw_aload_n C dX2_length_0 rfl ?_
  refine aw_getf C 0 1 1 6 inX2 rfl (by decide) rfl k1_83 rfl rfl dX2_length_1 ?_
  exact aw_iret C hr hlk dX2_length_4 ⟨ri (by first | rfl | (simp only [])), by rfl⟩
abbrev r_X2_room : Room := { frames := 0, cells := 0, slots := 0, locals := 0 }
theorem cv_X2_room : cV yX2_room cX2_room 1 (some .int) 0 := ⟨k2_235, k2_236, k2_237, k1_4, by decide, by decide, by decide +kernel⟩
set_option maxHeartbeats 4000000 in
set_option maxRecDepth 100000 in
theorem c_X2_room (l : Launch) (D : va_G) (cI cC : ClassId) (adK adV : Nat → Nat) (h b : Nat) (f : Nat → Int32) (n : Nat) (tk : Int32) (bg en : Nat) (nm : Int32) : FC l yX2_room (wW yX2_room cX2_room 1 (some .int)) r_X2_room D (tyC cI cC) adK adV (wTp cI h b f n tk bg en nm) [.ref h] 0 0 (fQ (some (.int ((120 : Int32) - nI n))) (wTp cI h b f n tk bg en nm)) := by
  refine FC.of (own := RX2) (by decide) rfl (Nat.le_of_ble_eq_true rfl) ?_
  intro p9 e9 s9 m9 args9 below9 meth9 c9 A9 C hr hlk hmn
  show AW p9 l e9 r_X2_room s9 m9 args9 below9 meth9 c9 D A9 1 0 0 _ 0 [(0, .ref h)] [] _
  refine aw_bipush C (120 : Int32) dX2_room_0 (by decide) ?_
  refine aw_aload_n C dX2_room_2 rfl ?_
  refine aw_getf C 0 1 1 6 inX2 rfl (by decide) rfl k1_83 rfl rfl dX2_room_3 ?_
  refine aw_isub C dX2_room_6 ?_
  exact aw_iret C hr hlk dX2_room_7 ⟨ri (by first | rfl | (simp only [])), by rfl⟩
abbrev r_X2_empty : Room := { frames := 0, cells := 0, slots := 0, locals := 0 }
theorem cv_X2_empty : cV yX2_empty cX2_empty 2 (some .int) 0 := ⟨k3_11, k3_12, k3_13, k1_4, by decide, by decide, by decide +kernel⟩
set_option maxHeartbeats 4000000 in
set_option maxRecDepth 100000 in
theorem c_X2_empty (l : Launch) (D : va_G) (cI cC : ClassId) (adK adV : Nat → Nat) (h b : Nat) (f : Nat → Int32) (n : Nat) (tk : Int32) (bg en : Nat) (nm : Int32) : FC l yX2_empty (wW yX2_empty cX2_empty 2 (some .int)) r_X2_empty D (tyC cI cC) adK adV (wTp cI h b f n tk bg en nm) [.ref h] 0 0 (fQ (some (.int (nI n))) (wTp cI h b f 0 tk bg en nm)) := by
  refine FC.of (own := RX2) (by decide) rfl (Nat.le_of_ble_eq_true rfl) ?_
  intro p9 e9 s9 m9 args9 below9 meth9 c9 A9 C hr hlk hmn
  show AW p9 l e9 r_X2_empty s9 m9 args9 below9 meth9 c9 D A9 2 0 0 _ 0 [(0, .ref h)] [] _
  refine aw_aload_n C dX2_empty_0 rfl ?_
  refine aw_getf C 0 1 1 6 inX2 rfl (by decide) rfl k1_83 rfl rfl dX2_empty_1 ?_
  refine aw_istore_n C true (lv' := [(0, .ref h), (1, .int (nI n))]) dX2_empty_4 (by decide) rfl rfl ?_
  refine aw_aload_n C dX2_empty_5 rfl ?_
  refine aw_iconst C (0 : Int32) dX2_empty_6 (by decide) ?_
  refine aw_putf C 0 1 1 6 tyX2 inX2 tyX2_ok nmX2 rfl (by decide) rfl k1_83 rfl rfl rfl rfl rfl (Nat.le_of_ble_eq_true rfl) (ws' := wTp cI h b f 0 tk bg en nm) rfl dX2_empty_7 ?_
  refine aw_iload_n C dX2_empty_10 rfl ?_
  exact aw_iret C hr hlk dX2_empty_11 ⟨ri (by first | rfl | (simp only [])), by rfl⟩
abbrev r_X2_add : Room := { frames := 0, cells := 0, slots := 0, locals := 0 }
theorem cv_X2_add : cV yX2_add cX2_add 2 none 1 := ⟨k2_239, k3_0, k3_1, k1_4, by decide, by decide, by decide +kernel⟩
set_option maxHeartbeats 4000000 in
set_option maxRecDepth 100000 in
theorem c_X2_add (l : Launch) (D : va_G) (cI cC : ClassId) (adK adV : Nat → Nat) (h b : Nat) (f : Nat → Int32) (n : Nat) (tk : Int32) (bg en : Nat) (nm : Int32) (v : Int32) (hn : n < 120) : FC l yX2_add (wW yX2_add cX2_add 2 none) r_X2_add D (tyC cI cC) adK adV (wTp cI h b f n tk bg en nm) [.ref h, .int v] 0 0 (fQ none (wTp cI h b (upd f n v) (n + 1) tk bg en nm)) := by
  refine FC.of (own := RX2) (by decide) rfl (Nat.le_of_ble_eq_true rfl) ?_
  intro p9 e9 s9 m9 args9 below9 meth9 c9 A9 C hr hlk hmn
  show AW p9 l e9 r_X2_add s9 m9 args9 below9 meth9 c9 D A9 2 0 0 _ 0 [(0, .ref h), (1, .int v)] [] _
  refine aw_aload_n C dX2_add_0 rfl ?_
  refine aw_getf C 0 1 1 6 inX2 rfl (by decide) rfl k1_83 rfl rfl dX2_add_1 ?_
  refine aw_bipush C (120 : Int32) dX2_add_4 (by decide) ?_
  refine aw_icmp_ge C 29 dX2_add_6 (by decide) (fun c_6 => absurd c_6 (nI_ge (b := 120) hn (by omega))) (fun c_6 => ?_)
  refine aw_aload_n C dX2_add_9 rfl ?_
  refine aw_getf C 0 1 0 6 inX2 rfl (by decide) rfl k1_82 rfl rfl dX2_add_10 ?_
  refine aw_aload_n C dX2_add_13 rfl ?_
  refine aw_getf C 0 1 1 6 inX2 rfl (by decide) rfl k1_83 rfl rfl dX2_add_14 ?_
  refine aw_iload_n C dX2_add_17 rfl ?_
  refine aw_pc 18 rfl ?_
  refine aw_iastN C 1 0 n rfl rfl rfl (by omega) (by decide) (ws' := wTp cI h b (upd f n v) n tk bg en nm) rfl dX2_add_18 ?_
  refine aw_aload_n C dX2_add_19 rfl ?_
  refine aw_dup C dX2_add_20 rfl ?_
  refine aw_getf C 0 1 1 6 inX2 rfl (by decide) rfl k1_83 rfl rfl dX2_add_21 ?_
  refine aw_iconst C (1 : Int32) dX2_add_24 (by decide) ?_
  refine aw_iadd C dX2_add_25 ?_
  refine aw_top (y := (nI (n + 1))) (by exact nI_1 _) ?_
  refine aw_putf C 0 1 1 6 tyX2 inX2 tyX2_ok nmX2 rfl (by decide) rfl k1_83 rfl rfl rfl rfl rfl (Nat.le_of_ble_eq_true rfl) (ws' := wTp cI h b (upd f n v) (n + 1) tk bg en nm) rfl dX2_add_26 ?_
  exact aw_vret C hr hlk dX2_add_29 ⟨rfl, by rfl⟩
abbrev r_X2_isLetter : Room := { frames := 0, cells := 0, slots := 0, locals := 0 }
theorem cs_X2_isLetter : cS yX2_isLetter cX2_isLetter 1 (some .boolean) 1 := ⟨k3_27, k3_28, k1_4, by decide, by decide, by decide +kernel⟩
set_option maxHeartbeats 4000000 in
set_option maxRecDepth 100000 in
theorem c_X2_isLetter (l : Launch) (D : va_G) (cI cC : ClassId) (adK adV : Nat → Nat) (v : Int32) : FC l yX2_isLetter (wW yX2_isLetter cX2_isLetter 1 (some .boolean)) r_X2_isLetter D (tyC cI cC) adK adV (([] : va_W)) [.int v] 0 0 (fQ (some (.int (b2 (!decide (v < 97) && !decide (122 < v))))) (([] : va_W))) := by
  refine FC.of (own := RX2) (by decide) rfl (Nat.le_of_ble_eq_true rfl) ?_
  intro p9 e9 s9 m9 args9 below9 meth9 c9 A9 C hr hlk hmn
  show AW p9 l e9 r_X2_isLetter s9 m9 args9 below9 meth9 c9 D A9 1 0 0 _ 0 [(0, .int v)] [] _
  refine aw_iload_n C dX2_isLetter_0 rfl ?_
  refine aw_bipush C (97 : Int32) dX2_isLetter_1 (by decide) ?_
  refine aw_icmp_lt C 16 dX2_isLetter_3 (by decide) (fun c_3 => ?_) (fun c_3 => ?_)
  · skip
    refine aw_iconst C (0 : Int32) dX2_isLetter_16 (by decide) ?_
    exact aw_bret C (b := false) hr hlk dX2_isLetter_17 rfl ⟨rb (by simp only [c_3, decide_true, decide_false, Bool.not_true, Bool.not_false, Bool.true_and, Bool.false_and, Bool.and_true, Bool.and_false, Bool.true_or, Bool.false_or, Bool.or_true, Bool.or_false, cond_true, cond_false, eq_self, if_true, if_false, ite_true, ite_false]), by rfl⟩
  · skip
    refine aw_iload_n C dX2_isLetter_6 rfl ?_
    refine aw_bipush C (122 : Int32) dX2_isLetter_7 (by decide) ?_
    refine aw_icmp_gt C 16 dX2_isLetter_9 (by decide) (fun c_9 => ?_) (fun c_9 => ?_)
    · skip
      refine aw_iconst C (0 : Int32) dX2_isLetter_16 (by decide) ?_
      refine aw_pc 17 rfl ?_
      exact aw_bret C (b := false) hr hlk dX2_isLetter_17 rfl ⟨rb (by simp only [c_3, c_9, decide_true, decide_false, Bool.not_true, Bool.not_false, Bool.true_and, Bool.false_and, Bool.and_true, Bool.and_false, Bool.true_or, Bool.false_or, Bool.or_true, Bool.or_false, cond_true, cond_false, eq_self, if_true, if_false, ite_true, ite_false]), by rfl⟩
    · skip
      refine aw_iconst C (1 : Int32) dX2_isLetter_12 (by decide) ?_
      refine aw_goto C 17 dX2_isLetter_13 (by decide) ?_
      exact aw_bret C (b := true) hr hlk dX2_isLetter_17 rfl ⟨rb (by simp only [c_3, c_9, decide_true, decide_false, Bool.not_true, Bool.not_false, Bool.true_and, Bool.false_and, Bool.and_true, Bool.and_false, Bool.true_or, Bool.false_or, Bool.or_true, Bool.or_false, cond_true, cond_false, eq_self, if_true, if_false, ite_true, ite_false]), by rfl⟩
abbrev r_X2_isDigit : Room := { frames := 0, cells := 0, slots := 0, locals := 0 }
theorem cs_X2_isDigit : cS yX2_isDigit cX2_isDigit 1 (some .boolean) 1 := ⟨k3_34, k3_35, k1_4, by decide, by decide, by decide +kernel⟩
set_option maxHeartbeats 4000000 in
set_option maxRecDepth 100000 in
theorem c_X2_isDigit (l : Launch) (D : va_G) (cI cC : ClassId) (adK adV : Nat → Nat) (v : Int32) : FC l yX2_isDigit (wW yX2_isDigit cX2_isDigit 1 (some .boolean)) r_X2_isDigit D (tyC cI cC) adK adV (([] : va_W)) [.int v] 0 0 (fQ (some (.int (b2 (!decide (v < 48) && !decide (57 < v))))) (([] : va_W))) := by
  refine FC.of (own := RX2) (by decide) rfl (Nat.le_of_ble_eq_true rfl) ?_
  intro p9 e9 s9 m9 args9 below9 meth9 c9 A9 C hr hlk hmn
  show AW p9 l e9 r_X2_isDigit s9 m9 args9 below9 meth9 c9 D A9 1 0 0 _ 0 [(0, .int v)] [] _
  refine aw_iload_n C dX2_isDigit_0 rfl ?_
  refine aw_bipush C (48 : Int32) dX2_isDigit_1 (by decide) ?_
  refine aw_icmp_lt C 16 dX2_isDigit_3 (by decide) (fun c_3 => ?_) (fun c_3 => ?_)
  · skip
    refine aw_iconst C (0 : Int32) dX2_isDigit_16 (by decide) ?_
    exact aw_bret C (b := false) hr hlk dX2_isDigit_17 rfl ⟨rb (by simp only [c_3, decide_true, decide_false, Bool.not_true, Bool.not_false, Bool.true_and, Bool.false_and, Bool.and_true, Bool.and_false, Bool.true_or, Bool.false_or, Bool.or_true, Bool.or_false, cond_true, cond_false, eq_self, if_true, if_false, ite_true, ite_false]), by rfl⟩
  · skip
    refine aw_iload_n C dX2_isDigit_6 rfl ?_
    refine aw_bipush C (57 : Int32) dX2_isDigit_7 (by decide) ?_
    refine aw_icmp_gt C 16 dX2_isDigit_9 (by decide) (fun c_9 => ?_) (fun c_9 => ?_)
    · skip
      refine aw_iconst C (0 : Int32) dX2_isDigit_16 (by decide) ?_
      refine aw_pc 17 rfl ?_
      exact aw_bret C (b := false) hr hlk dX2_isDigit_17 rfl ⟨rb (by simp only [c_3, c_9, decide_true, decide_false, Bool.not_true, Bool.not_false, Bool.true_and, Bool.false_and, Bool.and_true, Bool.and_false, Bool.true_or, Bool.false_or, Bool.or_true, Bool.or_false, cond_true, cond_false, eq_self, if_true, if_false, ite_true, ite_false]), by rfl⟩
    · skip
      refine aw_iconst C (1 : Int32) dX2_isDigit_12 (by decide) ?_
      refine aw_goto C 17 dX2_isDigit_13 (by decide) ?_
      exact aw_bret C (b := true) hr hlk dX2_isDigit_17 rfl ⟨rb (by simp only [c_3, c_9, decide_true, decide_false, Bool.not_true, Bool.not_false, Bool.true_and, Bool.false_and, Bool.and_true, Bool.and_false, Bool.true_or, Bool.false_or, Bool.or_true, Bool.or_false, cond_true, cond_false, eq_self, if_true, if_false, ite_true, ite_false]), by rfl⟩
