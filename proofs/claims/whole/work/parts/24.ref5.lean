/-! the reference: what is looked for -/
theorem le_2 {w : Int32} (h : (!decide (w < 0) && decide (w ≤ 2)) = true) : w = 0 ∨ w = 1 ∨ w = 2 := by
  have h0 := le_0 h
  have h2 : ix w ≤ 2 := le_b (b := 2) h h0 (by decide)
  have e := ix_eq h0
  rcases (by omega : ix w = 0 ∨ ix w = 1 ∨ ix w = 2) with q | q | q
  · exact Or.inl (by rw [e, q]; rfl)
  · exact Or.inr (Or.inl (by rw [e, q]; rfl))
  · exact Or.inr (Or.inr (by rw [e, q]; rfl))
theorem mut_kno (T : Tw) (p q : Nat) : tMut T 4 p q = (tKno T p q && tKno T q p) := rfl
theorem ab_0 {x y : Int32} : decide (mn (ab (x - y)) (16 - ab (x - y)) = 0) = decide (mFar x y = 0) := rfl
theorem far_0 : ∀ x, x < 16 → ∀ z, z < 16 → decide (mFar (nI x) (nI z) = 0) = decide (nI x = nI z) := by decide +kernel
theorem far_at {T : Tw} (h : gOk T) (p q : Nat) : decide (tFar T p q = 0) = decide (T.2.2.1 1 p = T.2.2.1 1 q) := by
  obtain ⟨x, hx, e1⟩ := h.f 1 (by decide) p
  obtain ⟨z, hz, e2⟩ := h.f 1 (by decide) q
  unfold tFar
  rw [e1, e2]
  exact far_0 x hx z hz

abbrev r_X5_whoKnow : Room := { frames := 1, cells := 0, slots := 0, locals := 22 }
theorem cv_X5_whoKnow : cV yX5_whoKnow cX5_whoKnow 3 (some .int) 0 := ⟨k4_201, k0_45, k4_202, k1_6, by decide, by decide, by decide +kernel⟩
set_option maxHeartbeats 4000000 in
set_option maxRecDepth 100000 in
theorem c_X5_whoKnow (l : Launch) (D : va_G) (cI cC : ClassId) (adK adV : Nat → Nat) (y : Nat → Nat) (T : Tw) (X : Mr) (ho : gOk T) : FC l yX5_whoKnow (wW yX5_whoKnow cX5_whoKnow 3 (some .int)) r_X5_whoKnow D (tyC cI cC) adK adV (wMo cI cC y (rowOf T) X) [.ref (y 0)] 0 0 (fQ (some (.int (mKnowers T))) (wMo cI cC y (rowOf T) X)) := by
  refine FC.of (own := RX5) (by decide) rfl (Nat.le_of_ble_eq_true rfl) ?_
  intro p9 e9 s9 m9 args9 below9 meth9 c9 A9 C hr hlk hmn
  show AW p9 l e9 r_X5_whoKnow s9 m9 args9 below9 meth9 c9 D A9 3 0 0 _ 0 [(0, .ref (y 0))] [] _
  have hn := ho.n
  refine aw_iconst C (0 : Int32) dX5_whoKnow_0 (by decide) ?_
  refine aw_istore_n C true (lv' := [(0, .ref (y 0)), (1, .int (0 : Int32))]) dX5_whoKnow_1 (by decide) rfl rfl ?_
  refine aw_iconst C (0 : Int32) dX5_whoKnow_2 (by decide) ?_
  refine aw_istore_n C true (lv' := [(0, .ref (y 0)), (1, .int (0 : Int32)), (2, .int (0 : Int32))]) dX5_whoKnow_3 (by decide) rfl rfl ?_
  refine aw_eq (lv' := [(0, .ref (y 0)), (1, .int (setBy (fun p => !decide (T.2.2.1 4 p = 0)) 0)), (2, .int (nI 0))]) (ws' := wMo cI cC y (rowOf T) X) (by first | rfl | (simp only [itr])) rfl (by rfl) ?_
  refine aw_loop (LV := fun i => [(0, .ref (y 0)), (1, .int (setBy (fun p => !decide (T.2.2.1 4 p = 0)) i)), (2, .int (nI i))]) (WS := fun i => wMo cI cC y (rowOf T) X) T.1 (Inv := fun _ => True) trivial ?_ ?_
  · intro hv4
    refine aw_iload_n C dX5_whoKnow_4 rfl ?_
    refine aw_aload_n C dX5_whoKnow_5 rfl ?_
    refine aw_getf C 0 4 0 18 inX5 rfl (by decide) rfl k3_234 rfl rfl dX5_whoKnow_6 ?_
    refine aw_iconst C (1 : Int32) dX5_whoKnow_9 (by decide) ?_
    refine aw_ialdN C 1 0 1 rfl rfl rfl (by decide) (by decide) dX5_whoKnow_10 ?_
    refine aw_top (y := (nI T.1)) rfl ?_
    refine aw_pc 11 rfl ?_
    refine aw_icmp_ge C 39 dX5_whoKnow_11 (by decide) (fun c_11 => ?_) (fun c_11 => absurd c_11 (fun z => z (Int32.le_refl _)))
    refine aw_iload_n C dX5_whoKnow_39 rfl ?_
    exact aw_iret C hr hlk dX5_whoKnow_40 ⟨ri (by first | rfl | (simp only [])), by rfl⟩
  · intro i hi4 hv4 ih4
    refine aw_iload_n C dX5_whoKnow_4 rfl ?_
    refine aw_aload_n C dX5_whoKnow_5 rfl ?_
    refine aw_getf C 0 4 0 18 inX5 rfl (by decide) rfl k3_234 rfl rfl dX5_whoKnow_6 ?_
    refine aw_iconst C (1 : Int32) dX5_whoKnow_9 (by decide) ?_
    refine aw_ialdN C 1 0 1 rfl rfl rfl (by decide) (by decide) dX5_whoKnow_10 ?_
    refine aw_top (y := (nI T.1)) rfl ?_
    refine aw_icmp_ge C 39 dX5_whoKnow_11 (by decide) (fun c_11 => absurd c_11 (nI_ge hi4 (by omega))) (fun c_11 => ?_)
    refine aw_iload_n C dX5_whoKnow_14 rfl ?_
    refine aw_pc 15 rfl ?_
    refine aw_aload_n C dX5_whoKnow_15 rfl ?_
    refine aw_iload_n C dX5_whoKnow_16 rfl ?_
    refine aw_iconst C (4 : Int32) dX5_whoKnow_17 (by decide) ?_
    refine aw_callVp C (As := [.int (nI i), .int (4 : Int32)]) (c_X5_get l D cI cC adK adV y T X i 4 (by omega) (by decide)) k4_85 cv_X5_get 0 4 rfl rfl rfl [0, 1, 2, 3, 4, 5, 6, 7, 8, 9, 10, 11, 12] (by decide) rfl ⟨by decide, by decide⟩ rfl rfl ⟨by decide, by decide⟩ rfl rfl (Nat.le_of_ble_eq_true rfl) dX5_whoKnow_18 ?_
    refine aw_if_eq C 30 dX5_whoKnow_21 (by decide) (fun c_21 => ?_) (fun c_21 => ?_)
    · skip
      refine aw_iconst C (0 : Int32) dX5_whoKnow_30 (by decide) ?_
      refine aw_ior C dX5_whoKnow_31 ?_
      refine aw_istore_n C false (lv' := [(0, .ref (y 0)), (1, .int ((setBy (fun p => !decide (T.2.2.1 4 p = 0)) i) ||| (0 : Int32))), (2, .int (nI i))]) dX5_whoKnow_32 (by decide) rfl rfl ?_
      refine aw_iinc C (nI (i + 1)) dX5_whoKnow_33 rfl (inc_nI _ 1) (by decide) rfl (lv' := [(0, .ref (y 0)), (1, .int ((setBy (fun p => !decide (T.2.2.1 4 p = 0)) i) ||| (0 : Int32))), (2, .int (nI (i + 1)))]) rfl ?_
      refine aw_goto C 4 dX5_whoKnow_36 (by decide) ?_
      exact aw_eq (by simp [setBy, itr, bitOf, *]) rfl (by first | rfl | (simp only [itr, c_21] <;> first | done | rfl)) (ih4 trivial)
    · skip
      refine aw_pc 24 rfl ?_
      refine aw_iconst C (1 : Int32) dX5_whoKnow_24 (by decide) ?_
      refine aw_iload_n C dX5_whoKnow_25 rfl ?_
      refine aw_ishl C dX5_whoKnow_26 ?_
      refine aw_goto C 31 dX5_whoKnow_27 (by decide) ?_
      refine aw_ior C dX5_whoKnow_31 ?_
      refine aw_istore_n C false (lv' := [(0, .ref (y 0)), (1, .int ((setBy (fun p => !decide (T.2.2.1 4 p = 0)) i) ||| ((1 : Int32) <<< ((nI i) &&& 31)))), (2, .int (nI i))]) dX5_whoKnow_32 (by decide) rfl rfl ?_
      refine aw_iinc C (nI (i + 1)) dX5_whoKnow_33 rfl (inc_nI _ 1) (by decide) rfl (lv' := [(0, .ref (y 0)), (1, .int ((setBy (fun p => !decide (T.2.2.1 4 p = 0)) i) ||| ((1 : Int32) <<< ((nI i) &&& 31)))), (2, .int (nI (i + 1)))]) rfl ?_
      refine aw_goto C 4 dX5_whoKnow_36 (by decide) ?_
      exact aw_eq (by simp [setBy, itr, bitOf, *]) rfl (by first | rfl | (simp only [itr, c_21] <;> first | done | rfl)) (ih4 trivial)
abbrev r_X5_worn : Room := { frames := 1, cells := 0, slots := 0, locals := 22 }
theorem cv_X5_worn : cV yX5_worn cX5_worn 3 (some .int) 0 := ⟨k4_209, k0_47, k4_210, k1_6, by decide, by decide, by decide +kernel⟩
set_option maxHeartbeats 4000000 in
set_option maxRecDepth 100000 in
theorem c_X5_worn (l : Launch) (D : va_G) (cI cC : ClassId) (adK adV : Nat → Nat) (y : Nat → Nat) (T : Tw) (X : Mr) (ho : gOk T) : FC l yX5_worn (wW yX5_worn cX5_worn 3 (some .int)) r_X5_worn D (tyC cI cC) adK adV (wMo cI cC y (rowOf T) X) [.ref (y 0)] 0 0 (fQ (some (.int (mWorn T))) (wMo cI cC y (rowOf T) X)) := by
  refine FC.of (own := RX5) (by decide) rfl (Nat.le_of_ble_eq_true rfl) ?_
  intro p9 e9 s9 m9 args9 below9 meth9 c9 A9 C hr hlk hmn
  show AW p9 l e9 r_X5_worn s9 m9 args9 below9 meth9 c9 D A9 3 0 0 _ 0 [(0, .ref (y 0))] [] _
  have hn := ho.n
  refine aw_iconst C (0 : Int32) dX5_worn_0 (by decide) ?_
  refine aw_istore_n C true (lv' := [(0, .ref (y 0)), (1, .int (0 : Int32))]) dX5_worn_1 (by decide) rfl rfl ?_
  refine aw_iconst C (0 : Int32) dX5_worn_2 (by decide) ?_
  refine aw_istore_n C true (lv' := [(0, .ref (y 0)), (1, .int (0 : Int32)), (2, .int (0 : Int32))]) dX5_worn_3 (by decide) rfl rfl ?_
  refine aw_eq (lv' := [(0, .ref (y 0)), (1, .int (itr (fun p x => x ||| bitOf (T.2.2.1 2 p)) 0 0)), (2, .int (nI 0))]) (ws' := wMo cI cC y (rowOf T) X) (by first | rfl | (simp only [itr])) rfl (by rfl) ?_
  refine aw_loop (LV := fun i => [(0, .ref (y 0)), (1, .int (itr (fun p x => x ||| bitOf (T.2.2.1 2 p)) i 0)), (2, .int (nI i))]) (WS := fun i => wMo cI cC y (rowOf T) X) T.1 (Inv := fun _ => True) trivial ?_ ?_
  · intro hv4
    refine aw_iload_n C dX5_worn_4 rfl ?_
    refine aw_aload_n C dX5_worn_5 rfl ?_
    refine aw_getf C 0 4 0 18 inX5 rfl (by decide) rfl k3_234 rfl rfl dX5_worn_6 ?_
    refine aw_iconst C (1 : Int32) dX5_worn_9 (by decide) ?_
    refine aw_ialdN C 1 0 1 rfl rfl rfl (by decide) (by decide) dX5_worn_10 ?_
    refine aw_top (y := (nI T.1)) rfl ?_
    refine aw_pc 11 rfl ?_
    refine aw_icmp_ge C 31 dX5_worn_11 (by decide) (fun c_11 => ?_) (fun c_11 => absurd c_11 (fun z => z (Int32.le_refl _)))
    refine aw_iload_n C dX5_worn_31 rfl ?_
    exact aw_iret C hr hlk dX5_worn_32 ⟨ri (by first | rfl | (simp only [])), by rfl⟩
  · intro i hi4 hv4 ih4
    refine aw_iload_n C dX5_worn_4 rfl ?_
    refine aw_aload_n C dX5_worn_5 rfl ?_
    refine aw_getf C 0 4 0 18 inX5 rfl (by decide) rfl k3_234 rfl rfl dX5_worn_6 ?_
    refine aw_iconst C (1 : Int32) dX5_worn_9 (by decide) ?_
    refine aw_ialdN C 1 0 1 rfl rfl rfl (by decide) (by decide) dX5_worn_10 ?_
    refine aw_top (y := (nI T.1)) rfl ?_
    refine aw_icmp_ge C 31 dX5_worn_11 (by decide) (fun c_11 => absurd c_11 (nI_ge hi4 (by omega))) (fun c_11 => ?_)
    refine aw_iload_n C dX5_worn_14 rfl ?_
    refine aw_pc 15 rfl ?_
    refine aw_iconst C (1 : Int32) dX5_worn_15 (by decide) ?_
    refine aw_aload_n C dX5_worn_16 rfl ?_
    refine aw_iload_n C dX5_worn_17 rfl ?_
    refine aw_iconst C (2 : Int32) dX5_worn_18 (by decide) ?_
    refine aw_callVp C (As := [.int (nI i), .int (2 : Int32)]) (c_X5_get l D cI cC adK adV y T X i 2 (by omega) (by decide)) k4_85 cv_X5_get 0 4 rfl rfl rfl [0, 1, 2, 3, 4, 5, 6, 7, 8, 9, 10, 11, 12] (by decide) rfl ⟨by decide, by decide⟩ rfl rfl ⟨by decide, by decide⟩ rfl rfl (Nat.le_of_ble_eq_true rfl) dX5_worn_19 ?_
    refine aw_ishl C dX5_worn_22 ?_
    refine aw_ior C dX5_worn_23 ?_
    refine aw_istore_n C false (lv' := [(0, .ref (y 0)), (1, .int ((itr (fun p x => x ||| bitOf (T.2.2.1 2 p)) i 0) ||| ((1 : Int32) <<< ((T.2.2.1 2 i) &&& 31)))), (2, .int (nI i))]) dX5_worn_24 (by decide) rfl rfl ?_
    refine aw_iinc C (nI (i + 1)) dX5_worn_25 rfl (inc_nI _ 1) (by decide) rfl (lv' := [(0, .ref (y 0)), (1, .int ((itr (fun p x => x ||| bitOf (T.2.2.1 2 p)) i 0) ||| ((1 : Int32) <<< ((T.2.2.1 2 i) &&& 31)))), (2, .int (nI (i + 1)))]) rfl ?_
    refine aw_goto C 4 dX5_worn_28 (by decide) ?_
    exact aw_eq (by first | rfl | (simp only [itr])) rfl (by first | rfl | (simp only [itr] <;> first | done | rfl)) (ih4 trivial)
abbrev r_X5_passedAll : Room := { frames := 1, cells := 0, slots := 0, locals := 22 }
theorem cv_X5_passedAll : cV yX5_passedAll cX5_passedAll 3 (some .int) 0 := ⟨k4_213, k0_48, k4_214, k1_6, by decide, by decide, by decide +kernel⟩
set_option maxHeartbeats 4000000 in
set_option maxRecDepth 100000 in
theorem c_X5_passedAll (l : Launch) (D : va_G) (cI cC : ClassId) (adK adV : Nat → Nat) (y : Nat → Nat) (T : Tw) (X : Mr) (ho : gOk T) : FC l yX5_passedAll (wW yX5_passedAll cX5_passedAll 3 (some .int)) r_X5_passedAll D (tyC cI cC) adK adV (wMo cI cC y (rowOf T) X) [.ref (y 0)] 0 0 (fQ (some (.int (mPassed T))) (wMo cI cC y (rowOf T) X)) := by
  refine FC.of (own := RX5) (by decide) rfl (Nat.le_of_ble_eq_true rfl) ?_
  intro p9 e9 s9 m9 args9 below9 meth9 c9 A9 C hr hlk hmn
  show AW p9 l e9 r_X5_passedAll s9 m9 args9 below9 meth9 c9 D A9 3 0 0 _ 0 [(0, .ref (y 0))] [] _
  have hn := ho.n
  refine aw_iconst C (0 : Int32) dX5_passedAll_0 (by decide) ?_
  refine aw_istore_n C true (lv' := [(0, .ref (y 0)), (1, .int (0 : Int32))]) dX5_passedAll_1 (by decide) rfl rfl ?_
  refine aw_iconst C (0 : Int32) dX5_passedAll_2 (by decide) ?_
  refine aw_istore_n C true (lv' := [(0, .ref (y 0)), (1, .int (0 : Int32)), (2, .int (0 : Int32))]) dX5_passedAll_3 (by decide) rfl rfl ?_
  refine aw_eq (lv' := [(0, .ref (y 0)), (1, .int (itr (fun p x => x + T.2.2.1 6 p) 0 0)), (2, .int (nI 0))]) (ws' := wMo cI cC y (rowOf T) X) (by first | rfl | (simp only [itr])) rfl (by rfl) ?_
  refine aw_loop (LV := fun i => [(0, .ref (y 0)), (1, .int (itr (fun p x => x + T.2.2.1 6 p) i 0)), (2, .int (nI i))]) (WS := fun i => wMo cI cC y (rowOf T) X) T.1 (Inv := fun _ => True) trivial ?_ ?_
  · intro hv4
    refine aw_iload_n C dX5_passedAll_4 rfl ?_
    refine aw_aload_n C dX5_passedAll_5 rfl ?_
    refine aw_getf C 0 4 0 18 inX5 rfl (by decide) rfl k3_234 rfl rfl dX5_passedAll_6 ?_
    refine aw_iconst C (1 : Int32) dX5_passedAll_9 (by decide) ?_
    refine aw_ialdN C 1 0 1 rfl rfl rfl (by decide) (by decide) dX5_passedAll_10 ?_
    refine aw_top (y := (nI T.1)) rfl ?_
    refine aw_pc 11 rfl ?_
    refine aw_icmp_ge C 30 dX5_passedAll_11 (by decide) (fun c_11 => ?_) (fun c_11 => absurd c_11 (fun z => z (Int32.le_refl _)))
    refine aw_iload_n C dX5_passedAll_30 rfl ?_
    exact aw_iret C hr hlk dX5_passedAll_31 ⟨ri (by first | rfl | (simp only [])), by rfl⟩
  · intro i hi4 hv4 ih4
    refine aw_iload_n C dX5_passedAll_4 rfl ?_
    refine aw_aload_n C dX5_passedAll_5 rfl ?_
    refine aw_getf C 0 4 0 18 inX5 rfl (by decide) rfl k3_234 rfl rfl dX5_passedAll_6 ?_
    refine aw_iconst C (1 : Int32) dX5_passedAll_9 (by decide) ?_
    refine aw_ialdN C 1 0 1 rfl rfl rfl (by decide) (by decide) dX5_passedAll_10 ?_
    refine aw_top (y := (nI T.1)) rfl ?_
    refine aw_icmp_ge C 30 dX5_passedAll_11 (by decide) (fun c_11 => absurd c_11 (nI_ge hi4 (by omega))) (fun c_11 => ?_)
    refine aw_iload_n C dX5_passedAll_14 rfl ?_
    refine aw_pc 15 rfl ?_
    refine aw_aload_n C dX5_passedAll_15 rfl ?_
    refine aw_iload_n C dX5_passedAll_16 rfl ?_
    refine aw_bipush C (6 : Int32) dX5_passedAll_17 (by decide) ?_
    refine aw_callVp C (As := [.int (nI i), .int (6 : Int32)]) (c_X5_get l D cI cC adK adV y T X i 6 (by omega) (by decide)) k4_85 cv_X5_get 0 4 rfl rfl rfl [0, 1, 2, 3, 4, 5, 6, 7, 8, 9, 10, 11, 12] (by decide) rfl ⟨by decide, by decide⟩ rfl rfl ⟨by decide, by decide⟩ rfl rfl (Nat.le_of_ble_eq_true rfl) dX5_passedAll_19 ?_
    refine aw_iadd C dX5_passedAll_22 ?_
    refine aw_istore_n C false (lv' := [(0, .ref (y 0)), (1, .int ((itr (fun p x => x + T.2.2.1 6 p) i 0) + (T.2.2.1 6 i))), (2, .int (nI i))]) dX5_passedAll_23 (by decide) rfl rfl ?_
    refine aw_iinc C (nI (i + 1)) dX5_passedAll_24 rfl (inc_nI _ 1) (by decide) rfl (lv' := [(0, .ref (y 0)), (1, .int ((itr (fun p x => x + T.2.2.1 6 p) i 0) + (T.2.2.1 6 i))), (2, .int (nI (i + 1)))]) rfl ?_
    refine aw_goto C 4 dX5_passedAll_27 (by decide) ?_
    exact aw_eq (by first | rfl | (simp only [itr])) rfl (by first | rfl | (simp only [itr] <;> first | done | rfl)) (ih4 trivial)
abbrev r_X5_who : Room := { frames := 2, cells := 0, slots := 0, locals := 42 }
theorem cv_X5_who : cV yX5_who cX5_who 4 (some .int) 1 := ⟨k4_143, k4_144, k4_145, k1_6, by decide, by decide, by decide +kernel⟩
set_option maxHeartbeats 4000000 in
set_option maxRecDepth 100000 in
theorem c_X5_who (l : Launch) (D : va_G) (cI cC : ClassId) (adK adV : Nat → Nat) (y : Nat → Nat) (T K : Tw) (ik : Bool) (F f : Nat → Int32) (n : Nat) (s1 s2 s3 kr ar : Nat → Int32) (tk : Int32) (bg en : Nat) (vl : Int64) (cr : Nat → Int32) (hk : ik = true → kr = rowOf K) (ho : gOk T) (c : Int32) : FC l yX5_who (wW yX5_who cX5_who 4 (some .int)) r_X5_who D (tyC cI cC) adK adV (wMo cI cC y (rowOf T) (kr, ar, ik, F, f, n, tk, bg, en, vl, s1, s2, s3, cr)) [.ref (y 0), .int c] 0 0 (pMo cI cC y (m_who (T, K, ik, F, f, n, s1, s2, s3) c)) := by
  refine FC.of (own := RX5) (by decide) rfl (Nat.le_of_ble_eq_true rfl) ?_
  intro p9 e9 s9 m9 args9 below9 meth9 c9 A9 C hr hlk hmn
  show AW p9 l e9 r_X5_who s9 m9 args9 below9 meth9 c9 D A9 4 0 0 _ 0 [(0, .ref (y 0)), (1, .int c)] [] _
  have hn := ho.n
  refine aw_iload_n C dX5_who_0 rfl ?_
  refine aw_callSp C (As := [.int c]) (c_X5_isCell l D cI cC adK adV c) k4_57 cs_X5_isCell [] (by decide) rfl ⟨by decide, by decide⟩ rfl rfl ⟨by decide, by decide⟩ rfl rfl (Nat.le_of_ble_eq_true rfl) dX5_who_1 ?_
  refine aw_ifne_b C 13 dX5_who_4 (by decide) (fun c_4 => ?_) (fun c_4 => ?_)
  · skip
    refine aw_iconst C (0 : Int32) dX5_who_13 (by decide) ?_
    refine aw_istore_n C true (lv' := [(0, .ref (y 0)), (1, .int c), (2, .int (0 : Int32))]) dX5_who_14 (by decide) rfl rfl ?_
    refine aw_iconst C (0 : Int32) dX5_who_15 (by decide) ?_
    refine aw_istore_n C true (lv' := [(0, .ref (y 0)), (1, .int c), (2, .int (0 : Int32)), (3, .int (0 : Int32))]) dX5_who_16 (by decide) rfl rfl ?_
    refine aw_eq (lv' := [(0, .ref (y 0)), (1, .int c), (2, .int (setBy (fun p => decide (T.2.2.1 1 p = c)) 0)), (3, .int (nI 0))]) (ws' := wMo cI cC y (rowOf T) (kr, ar, ik, F, f, n, tk, bg, en, vl, s1, s2, s3, cr)) (by first | rfl | (simp only [itr, c_4])) rfl (by rfl) ?_
    refine aw_loop (LV := fun i => [(0, .ref (y 0)), (1, .int c), (2, .int (setBy (fun p => decide (T.2.2.1 1 p = c)) i)), (3, .int (nI i))]) (WS := fun i => wMo cI cC y (rowOf T) (kr, ar, ik, F, f, n, tk, bg, en, vl, s1, s2, s3, cr)) T.1 (Inv := fun _ => True) trivial ?_ ?_
    · intro hv17
      refine aw_iload_n C dX5_who_17 rfl ?_
      refine aw_aload_n C dX5_who_18 rfl ?_
      refine aw_pc 19 rfl ?_
      refine aw_getf C 0 4 0 18 inX5 rfl (by decide) rfl k3_234 rfl rfl dX5_who_19 ?_
      refine aw_iconst C (1 : Int32) dX5_who_22 (by decide) ?_
      refine aw_ialdN C 1 0 1 rfl rfl rfl (by decide) (by decide) dX5_who_23 ?_
      refine aw_top (y := (nI T.1)) rfl ?_
      refine aw_icmp_ge C 53 dX5_who_24 (by decide) (fun c_24 => ?_) (fun c_24 => absurd c_24 (fun z => z (Int32.le_refl _)))
      refine aw_iload_n C dX5_who_53 rfl ?_
      have hm : m_who (T, K, ik, F, f, n, s1, s2, s3) c = ((setBy (fun p => decide (T.2.2.1 1 p = c)) T.1), (T, K, ik, F, f, n, s1, s2, s3)) := by simp only [m_who, c_4, decide_true, decide_false, Bool.not_true, Bool.not_false, Bool.true_and, Bool.false_and, Bool.and_true, Bool.and_false, Bool.true_or, Bool.false_or, Bool.or_true, Bool.or_false, cond_true, cond_false, eq_self, if_true, if_false, ite_true, ite_false] <;> rfl
      exact aw_iret C hr hlk dX5_who_54 ⟨ri (by rw [hm]), kr, ar, tk, bg, en, vl, cr, by first | (rw [hm]; done) | (rw [hm]; rfl), by rw [hm]; exact hk⟩
    · intro i hi17 hv17 ih17
      refine aw_iload_n C dX5_who_17 rfl ?_
      refine aw_aload_n C dX5_who_18 rfl ?_
      refine aw_getf C 0 4 0 18 inX5 rfl (by decide) rfl k3_234 rfl rfl dX5_who_19 ?_
      refine aw_iconst C (1 : Int32) dX5_who_22 (by decide) ?_
      refine aw_pc 23 rfl ?_
      refine aw_ialdN C 1 0 1 rfl rfl rfl (by decide) (by decide) dX5_who_23 ?_
      refine aw_top (y := (nI T.1)) rfl ?_
      refine aw_icmp_ge C 53 dX5_who_24 (by decide) (fun c_24 => absurd c_24 (nI_ge hi17 (by omega))) (fun c_24 => ?_)
      refine aw_iload_n C dX5_who_27 rfl ?_
      refine aw_aload_n C dX5_who_28 rfl ?_
      refine aw_iload_n C dX5_who_29 rfl ?_
      refine aw_iconst C (1 : Int32) dX5_who_30 (by decide) ?_
      refine aw_callVp C (As := [.int (nI i), .int (1 : Int32)]) (c_X5_get l D cI cC adK adV y T (kr, ar, ik, F, f, n, tk, bg, en, vl, s1, s2, s3, cr) i 1 (by omega) (by decide)) k4_85 cv_X5_get 0 4 rfl rfl rfl [0, 1, 2, 3, 4, 5, 6, 7, 8, 9, 10, 11, 12] (by decide) rfl ⟨by decide, by decide⟩ rfl rfl ⟨by decide, by decide⟩ rfl rfl (Nat.le_of_ble_eq_true rfl) dX5_who_31 ?_
      refine aw_iload_n C dX5_who_34 rfl ?_
      refine aw_icmp_ne C 44 dX5_who_35 (by decide) (fun c_35 => ?_) (fun c_35 => ?_)
      · skip
        refine aw_iconst C (0 : Int32) dX5_who_44 (by decide) ?_
        refine aw_pc 45 rfl ?_
        refine aw_ior C dX5_who_45 ?_
        refine aw_istore_n C false (lv' := [(0, .ref (y 0)), (1, .int c), (2, .int ((setBy (fun p => decide (T.2.2.1 1 p = c)) i) ||| (0 : Int32))), (3, .int (nI i))]) dX5_who_46 (by decide) rfl rfl ?_
        refine aw_iinc C (nI (i + 1)) dX5_who_47 rfl (inc_nI _ 1) (by decide) rfl (lv' := [(0, .ref (y 0)), (1, .int c), (2, .int ((setBy (fun p => decide (T.2.2.1 1 p = c)) i) ||| (0 : Int32))), (3, .int (nI (i + 1)))]) rfl ?_
        refine aw_goto C 17 dX5_who_50 (by decide) ?_
        exact aw_eq (by simp [setBy, itr, bitOf, *]) rfl (by first | rfl | (simp only [itr, c_4, c_35] <;> first | done | rfl)) (ih17 trivial)
      · skip
        refine aw_iconst C (1 : Int32) dX5_who_38 (by decide) ?_
        refine aw_iload_n C dX5_who_39 rfl ?_
        refine aw_ishl C dX5_who_40 ?_
        refine aw_goto C 45 dX5_who_41 (by decide) ?_
        refine aw_ior C dX5_who_45 ?_
        refine aw_istore_n C false (lv' := [(0, .ref (y 0)), (1, .int c), (2, .int ((setBy (fun p => decide (T.2.2.1 1 p = c)) i) ||| ((1 : Int32) <<< ((nI i) &&& 31)))), (3, .int (nI i))]) dX5_who_46 (by decide) rfl rfl ?_
        refine aw_pc 47 rfl ?_
        refine aw_iinc C (nI (i + 1)) dX5_who_47 rfl (inc_nI _ 1) (by decide) rfl (lv' := [(0, .ref (y 0)), (1, .int c), (2, .int ((setBy (fun p => decide (T.2.2.1 1 p = c)) i) ||| ((1 : Int32) <<< ((nI i) &&& 31)))), (3, .int (nI (i + 1)))]) rfl ?_
        refine aw_goto C 17 dX5_who_50 (by decide) ?_
        exact aw_eq (by simp [setBy, itr, bitOf, *]) rfl (by first | rfl | (simp only [itr, c_4, c_35] <;> first | done | rfl)) (ih17 trivial)
  · skip
    refine aw_aload_n C dX5_who_7 rfl ?_
    refine aw_iconst C (0 : Int32) dX5_who_8 (by decide) ?_
    refine aw_callVd C (As := [.int (0 : Int32)]) (c_X5_no l D cI cC adK adV y T (kr, ar, ik, F, f, n, tk, bg, en, vl, s1, s2, s3, cr) 0 (by decide)) k4_60 cv_X5_no 0 4 rfl rfl rfl [0, 1, 2, 3, 4, 5, 6, 7, 8, 9, 10, 11, 12] (by decide) rfl (wr := ([] : va_W)) [] rfl (by decide) (by decide) [0, 1, 2, 3, 4, 5, 6, 7, 8, 9, 10, 11, 12] (by decide) (ws' := wMo cI cC y (rowOf T) (kr, ar, ik, (upd F 0 (F 0 + 1)), f, n, tk, bg, en, vl, s1, s2, s3, cr)) rfl ⟨by decide, by decide⟩ rfl rfl ⟨by decide, by decide⟩ rfl rfl (Nat.le_of_ble_eq_true rfl) dX5_who_9 ?_
    have hm : m_who (T, K, ik, F, f, n, s1, s2, s3) c = ((fno 0), (T, K, ik, (upd F 0 (F 0 + 1)), f, n, s1, s2, s3)) := by simp only [m_who, c_4, decide_true, decide_false, Bool.not_true, Bool.not_false, Bool.true_and, Bool.false_and, Bool.and_true, Bool.and_false, Bool.true_or, Bool.false_or, Bool.or_true, Bool.or_false, cond_true, cond_false, eq_self, if_true, if_false, ite_true, ite_false] <;> rfl
    exact aw_iret C hr hlk dX5_who_12 ⟨ri (by rw [hm]), kr, ar, tk, bg, en, vl, cr, by first | (rw [hm]; done) | (rw [hm]; rfl), by rw [hm]; exact hk⟩
abbrev r_X5_isSo_0 : Room := { frames := 2, cells := 0, slots := 0, locals := 44 }
theorem cv_X5_isSo_0 : cV yX5_isSo cX5_isSo 4 (some .boolean) 3 := ⟨k5_5, k0_53, k5_6, k1_6, by decide, by decide, by decide +kernel⟩
set_option maxHeartbeats 4000000 in
set_option maxRecDepth 100000 in
theorem c_X5_isSo_0 (l : Launch) (D : va_G) (cI cC : ClassId) (adK adV : Nat → Nat) (y : Nat → Nat) (T : Tw) (X : Mr) (u : Nat) (v : Nat) (ho : gOk T) (hu : u < 8) (hv : v < 8) : FC l yX5_isSo (wW yX5_isSo cX5_isSo 4 (some .boolean)) r_X5_isSo_0 D (tyC cI cC) adK adV (wMo cI cC y (rowOf T) X) [.ref (y 0), .int (0 : Int32), .int (nI u), .int (nI v)] 0 0 (fQ (some (.int (b2 (tMut T 3 u v)))) (wMo cI cC y (rowOf T) X)) := by
  refine FC.of (own := RX5) (by decide) rfl (Nat.le_of_ble_eq_true rfl) ?_
  intro p9 e9 s9 m9 args9 below9 meth9 c9 A9 C hr hlk hmn
  show AW p9 l e9 r_X5_isSo_0 s9 m9 args9 below9 meth9 c9 D A9 4 0 0 _ 0 [(0, .ref (y 0)), (1, .int (0 : Int32)), (2, .int (nI u)), (3, .int (nI v))] [] _
  refine aw_iload_n C dX5_isSo_0 rfl ?_
  refine aw_tabIn C (0) 32 dX5_isSo_1 rfl (by decide) (by decide) rfl (by decide) ?_
  refine aw_aload_n C dX5_isSo_32 rfl ?_
  refine aw_iload_n C dX5_isSo_33 rfl ?_
  refine aw_iload_n C dX5_isSo_34 rfl ?_
  refine aw_callVp C (As := [.int (nI u), .int (nI v)]) (c_X5_hasMet l D cI cC adK adV y T X u v (by omega)) k4_150 cv_X5_hasMet 0 4 rfl rfl rfl [0, 1, 2, 3, 4, 5, 6, 7, 8, 9, 10, 11, 12] (by decide) rfl ⟨by decide, by decide⟩ rfl rfl ⟨by decide, by decide⟩ rfl rfl (Nat.le_of_ble_eq_true rfl) dX5_isSo_35 ?_
  refine aw_ifeq_b C 54 dX5_isSo_38 (by decide) (fun c_38 => ?_) (fun c_38 => ?_)
  · skip
    refine aw_iconst C (0 : Int32) dX5_isSo_54 (by decide) ?_
    exact aw_bret C (b := false) hr hlk dX5_isSo_55 rfl ⟨rb (by simp only [mut_met, c_38, decide_true, decide_false, Bool.not_true, Bool.not_false, Bool.true_and, Bool.false_and, Bool.and_true, Bool.and_false, Bool.true_or, Bool.false_or, Bool.or_true, Bool.or_false, cond_true, cond_false, eq_self, if_true, if_false, ite_true, ite_false]), by rfl⟩
  · skip
    refine aw_pc 41 rfl ?_
    refine aw_aload_n C dX5_isSo_41 rfl ?_
    refine aw_iload_n C dX5_isSo_42 rfl ?_
    refine aw_iload_n C dX5_isSo_43 rfl ?_
    refine aw_callVp C (As := [.int (nI v), .int (nI u)]) (c_X5_hasMet l D cI cC adK adV y T X v u (by omega)) k4_150 cv_X5_hasMet 0 4 rfl rfl rfl [0, 1, 2, 3, 4, 5, 6, 7, 8, 9, 10, 11, 12] (by decide) rfl ⟨by decide, by decide⟩ rfl rfl ⟨by decide, by decide⟩ rfl rfl (Nat.le_of_ble_eq_true rfl) dX5_isSo_44 ?_
    refine aw_ifeq_b C 54 dX5_isSo_47 (by decide) (fun c_47 => ?_) (fun c_47 => ?_)
    · skip
      refine aw_iconst C (0 : Int32) dX5_isSo_54 (by decide) ?_
      exact aw_bret C (b := false) hr hlk dX5_isSo_55 rfl ⟨rb (by simp only [mut_met, c_38, c_47, decide_true, decide_false, Bool.not_true, Bool.not_false, Bool.true_and, Bool.false_and, Bool.and_true, Bool.and_false, Bool.true_or, Bool.false_or, Bool.or_true, Bool.or_false, cond_true, cond_false, eq_self, if_true, if_false, ite_true, ite_false]), by rfl⟩
    · skip
      refine aw_iconst C (1 : Int32) dX5_isSo_50 (by decide) ?_
      refine aw_goto C 55 dX5_isSo_51 (by decide) ?_
      exact aw_bret C (b := true) hr hlk dX5_isSo_55 rfl ⟨rb (by simp only [mut_met, c_38, c_47, decide_true, decide_false, Bool.not_true, Bool.not_false, Bool.true_and, Bool.false_and, Bool.and_true, Bool.and_false, Bool.true_or, Bool.false_or, Bool.or_true, Bool.or_false, cond_true, cond_false, eq_self, if_true, if_false, ite_true, ite_false]), by rfl⟩
abbrev r_X5_isSo_1 : Room := { frames := 2, cells := 0, slots := 0, locals := 44 }
theorem cv_X5_isSo_1 : cV yX5_isSo cX5_isSo 4 (some .boolean) 3 := ⟨k5_5, k0_53, k5_6, k1_6, by decide, by decide, by decide +kernel⟩
set_option maxHeartbeats 4000000 in
set_option maxRecDepth 100000 in
theorem c_X5_isSo_1 (l : Launch) (D : va_G) (cI cC : ClassId) (adK adV : Nat → Nat) (y : Nat → Nat) (T : Tw) (X : Mr) (u : Nat) (v : Nat) (ho : gOk T) (hu : u < 8) (hv : v < 8) : FC l yX5_isSo (wW yX5_isSo cX5_isSo 4 (some .boolean)) r_X5_isSo_1 D (tyC cI cC) adK adV (wMo cI cC y (rowOf T) X) [.ref (y 0), .int (1 : Int32), .int (nI u), .int (nI v)] 0 0 (fQ (some (.int (b2 (tMut T 4 u v)))) (wMo cI cC y (rowOf T) X)) := by
  refine FC.of (own := RX5) (by decide) rfl (Nat.le_of_ble_eq_true rfl) ?_
  intro p9 e9 s9 m9 args9 below9 meth9 c9 A9 C hr hlk hmn
  show AW p9 l e9 r_X5_isSo_1 s9 m9 args9 below9 meth9 c9 D A9 4 0 0 _ 0 [(0, .ref (y 0)), (1, .int (1 : Int32)), (2, .int (nI u)), (3, .int (nI v))] [] _
  refine aw_iload_n C dX5_isSo_0 rfl ?_
  refine aw_tabIn C (1) 56 dX5_isSo_1 rfl (by decide) (by decide) rfl (by decide) ?_
  refine aw_aload_n C dX5_isSo_56 rfl ?_
  refine aw_iload_n C dX5_isSo_57 rfl ?_
  refine aw_iload_n C dX5_isSo_58 rfl ?_
  refine aw_callVp C (As := [.int (nI u), .int (nI v)]) (c_X5_doesKnow l D cI cC adK adV y T X u v (by omega)) k4_154 cv_X5_doesKnow 0 4 rfl rfl rfl [0, 1, 2, 3, 4, 5, 6, 7, 8, 9, 10, 11, 12] (by decide) rfl ⟨by decide, by decide⟩ rfl rfl ⟨by decide, by decide⟩ rfl rfl (Nat.le_of_ble_eq_true rfl) dX5_isSo_59 ?_
  refine aw_ifeq_b C 78 dX5_isSo_62 (by decide) (fun c_62 => ?_) (fun c_62 => ?_)
  · skip
    refine aw_iconst C (0 : Int32) dX5_isSo_78 (by decide) ?_
    exact aw_bret C (b := false) hr hlk dX5_isSo_79 rfl ⟨rb (by simp only [mut_kno, c_62, decide_true, decide_false, Bool.not_true, Bool.not_false, Bool.true_and, Bool.false_and, Bool.and_true, Bool.and_false, Bool.true_or, Bool.false_or, Bool.or_true, Bool.or_false, cond_true, cond_false, eq_self, if_true, if_false, ite_true, ite_false]), by rfl⟩
  · skip
    refine aw_pc 65 rfl ?_
    refine aw_aload_n C dX5_isSo_65 rfl ?_
    refine aw_iload_n C dX5_isSo_66 rfl ?_
    refine aw_iload_n C dX5_isSo_67 rfl ?_
    refine aw_callVp C (As := [.int (nI v), .int (nI u)]) (c_X5_doesKnow l D cI cC adK adV y T X v u (by omega)) k4_154 cv_X5_doesKnow 0 4 rfl rfl rfl [0, 1, 2, 3, 4, 5, 6, 7, 8, 9, 10, 11, 12] (by decide) rfl ⟨by decide, by decide⟩ rfl rfl ⟨by decide, by decide⟩ rfl rfl (Nat.le_of_ble_eq_true rfl) dX5_isSo_68 ?_
    refine aw_ifeq_b C 78 dX5_isSo_71 (by decide) (fun c_71 => ?_) (fun c_71 => ?_)
    · skip
      refine aw_iconst C (0 : Int32) dX5_isSo_78 (by decide) ?_
      exact aw_bret C (b := false) hr hlk dX5_isSo_79 rfl ⟨rb (by simp only [mut_kno, c_62, c_71, decide_true, decide_false, Bool.not_true, Bool.not_false, Bool.true_and, Bool.false_and, Bool.and_true, Bool.and_false, Bool.true_or, Bool.false_or, Bool.or_true, Bool.or_false, cond_true, cond_false, eq_self, if_true, if_false, ite_true, ite_false]), by rfl⟩
    · skip
      refine aw_iconst C (1 : Int32) dX5_isSo_74 (by decide) ?_
      refine aw_goto C 79 dX5_isSo_75 (by decide) ?_
      exact aw_bret C (b := true) hr hlk dX5_isSo_79 rfl ⟨rb (by simp only [mut_kno, c_62, c_71, decide_true, decide_false, Bool.not_true, Bool.not_false, Bool.true_and, Bool.false_and, Bool.and_true, Bool.and_false, Bool.true_or, Bool.false_or, Bool.or_true, Bool.or_false, cond_true, cond_false, eq_self, if_true, if_false, ite_true, ite_false]), by rfl⟩
abbrev r_X5_isSo_2 : Room := { frames := 1, cells := 0, slots := 0, locals := 22 }
theorem cv_X5_isSo_2 : cV yX5_isSo cX5_isSo 4 (some .boolean) 3 := ⟨k5_5, k0_53, k5_6, k1_6, by decide, by decide, by decide +kernel⟩
set_option maxHeartbeats 4000000 in
set_option maxRecDepth 100000 in
theorem c_X5_isSo_2 (l : Launch) (D : va_G) (cI cC : ClassId) (adK adV : Nat → Nat) (y : Nat → Nat) (T : Tw) (X : Mr) (u : Nat) (v : Nat) (ho : gOk T) (hu : u < 8) (hv : v < 8) : FC l yX5_isSo (wW yX5_isSo cX5_isSo 4 (some .boolean)) r_X5_isSo_2 D (tyC cI cC) adK adV (wMo cI cC y (rowOf T) X) [.ref (y 0), .int (2 : Int32), .int (nI u), .int (nI v)] 0 0 (fQ (some (.int (b2 (decide (T.2.2.1 1 u = T.2.2.1 1 v))))) (wMo cI cC y (rowOf T) X)) := by
  refine FC.of (own := RX5) (by decide) rfl (Nat.le_of_ble_eq_true rfl) ?_
  intro p9 e9 s9 m9 args9 below9 meth9 c9 A9 C hr hlk hmn
  show AW p9 l e9 r_X5_isSo_2 s9 m9 args9 below9 meth9 c9 D A9 4 0 0 _ 0 [(0, .ref (y 0)), (1, .int (2 : Int32)), (2, .int (nI u)), (3, .int (nI v))] [] _
  refine aw_iload_n C dX5_isSo_0 rfl ?_
  refine aw_tabIn C (2) 80 dX5_isSo_1 rfl (by decide) (by decide) rfl (by decide) ?_
  refine aw_aload_n C dX5_isSo_80 rfl ?_
  refine aw_iload_n C dX5_isSo_81 rfl ?_
  refine aw_iconst C (1 : Int32) dX5_isSo_82 (by decide) ?_
  refine aw_callVp C (As := [.int (nI u), .int (1 : Int32)]) (c_X5_get l D cI cC adK adV y T X u 1 (by omega) (by decide)) k4_85 cv_X5_get 0 4 rfl rfl rfl [0, 1, 2, 3, 4, 5, 6, 7, 8, 9, 10, 11, 12] (by decide) rfl ⟨by decide, by decide⟩ rfl rfl ⟨by decide, by decide⟩ rfl rfl (Nat.le_of_ble_eq_true rfl) dX5_isSo_83 ?_
  refine aw_aload_n C dX5_isSo_86 rfl ?_
  refine aw_iload_n C dX5_isSo_87 rfl ?_
  refine aw_iconst C (1 : Int32) dX5_isSo_88 (by decide) ?_
  refine aw_pc 89 rfl ?_
  refine aw_callVp C (As := [.int (nI v), .int (1 : Int32)]) (c_X5_get l D cI cC adK adV y T X v 1 (by omega) (by decide)) k4_85 cv_X5_get 0 4 rfl rfl rfl [0, 1, 2, 3, 4, 5, 6, 7, 8, 9, 10, 11, 12] (by decide) rfl ⟨by decide, by decide⟩ rfl rfl ⟨by decide, by decide⟩ rfl rfl (Nat.le_of_ble_eq_true rfl) dX5_isSo_89 ?_
  refine aw_icmp_ne C 99 dX5_isSo_92 (by decide) (fun c_92 => ?_) (fun c_92 => ?_)
  · skip
    refine aw_iconst C (0 : Int32) dX5_isSo_99 (by decide) ?_
    exact aw_bret C (b := false) hr hlk dX5_isSo_100 rfl ⟨rb (by simp only [c_92, decide_true, decide_false, Bool.not_true, Bool.not_false, Bool.true_and, Bool.false_and, Bool.and_true, Bool.and_false, Bool.true_or, Bool.false_or, Bool.or_true, Bool.or_false, cond_true, cond_false, eq_self, if_true, if_false, ite_true, ite_false]), by rfl⟩
  · skip
    refine aw_iconst C (1 : Int32) dX5_isSo_95 (by decide) ?_
    refine aw_goto C 100 dX5_isSo_96 (by decide) ?_
    exact aw_bret C (b := true) hr hlk dX5_isSo_100 rfl ⟨rb (by simp only [c_92, decide_true, decide_false, Bool.not_true, Bool.not_false, Bool.true_and, Bool.false_and, Bool.and_true, Bool.and_false, Bool.true_or, Bool.false_or, Bool.or_true, Bool.or_false, cond_true, cond_false, eq_self, if_true, if_false, ite_true, ite_false]), by rfl⟩
abbrev r_X5_isSo_3 : Room := { frames := 2, cells := 0, slots := 0, locals := 44 }
theorem cv_X5_isSo_3 : cV yX5_isSo cX5_isSo 4 (some .boolean) 3 := ⟨k5_5, k0_53, k5_6, k1_6, by decide, by decide, by decide +kernel⟩
set_option maxHeartbeats 4000000 in
set_option maxRecDepth 100000 in
theorem c_X5_isSo_3 (l : Launch) (D : va_G) (cI cC : ClassId) (adK adV : Nat → Nat) (y : Nat → Nat) (T : Tw) (X : Mr) (ho : gOk T) : FC l yX5_isSo (wW yX5_isSo cX5_isSo 4 (some .boolean)) r_X5_isSo_3 D (tyC cI cC) adK adV (wMo cI cC y (rowOf T) X) [.ref (y 0), .int (3 : Int32), .int (0 : Int32), .int (0 : Int32)] 0 0 (fQ (some (.int (b2 (!decide (mKnowers T = 0))))) (wMo cI cC y (rowOf T) X)) := by
  refine FC.of (own := RX5) (by decide) rfl (Nat.le_of_ble_eq_true rfl) ?_
  intro p9 e9 s9 m9 args9 below9 meth9 c9 A9 C hr hlk hmn
  show AW p9 l e9 r_X5_isSo_3 s9 m9 args9 below9 meth9 c9 D A9 4 0 0 _ 0 [(0, .ref (y 0)), (1, .int (3 : Int32)), (2, .int (0 : Int32)), (3, .int (0 : Int32))] [] _
  refine aw_iload_n C dX5_isSo_0 rfl ?_
  refine aw_tabIn C (3) 101 dX5_isSo_1 rfl (by decide) (by decide) rfl (by decide) ?_
  refine aw_aload_n C dX5_isSo_101 rfl ?_
  refine aw_callVp C (As := []) (c_X5_whoKnow l D cI cC adK adV y T X  ho) k4_199 cv_X5_whoKnow 0 4 rfl rfl rfl [0, 1, 2, 3, 4, 5, 6, 7, 8, 9, 10, 11, 12] (by decide) rfl ⟨by decide, by decide⟩ rfl rfl ⟨by decide, by decide⟩ rfl rfl (Nat.le_of_ble_eq_true rfl) dX5_isSo_102 ?_
  refine aw_if_eq C 112 dX5_isSo_105 (by decide) (fun c_105 => ?_) (fun c_105 => ?_)
  · skip
    refine aw_iconst C (0 : Int32) dX5_isSo_112 (by decide) ?_
    exact aw_bret C (b := false) hr hlk dX5_isSo_113 rfl ⟨rb (by simp only [c_105, decide_true, decide_false, Bool.not_true, Bool.not_false, Bool.true_and, Bool.false_and, Bool.and_true, Bool.and_false, Bool.true_or, Bool.false_or, Bool.or_true, Bool.or_false, cond_true, cond_false, eq_self, if_true, if_false, ite_true, ite_false]), by rfl⟩
  · skip
    refine aw_iconst C (1 : Int32) dX5_isSo_108 (by decide) ?_
    refine aw_goto C 113 dX5_isSo_109 (by decide) ?_
    refine aw_pc 113 rfl ?_
    exact aw_bret C (b := true) hr hlk dX5_isSo_113 rfl ⟨rb (by simp only [c_105, decide_true, decide_false, Bool.not_true, Bool.not_false, Bool.true_and, Bool.false_and, Bool.and_true, Bool.and_false, Bool.true_or, Bool.false_or, Bool.or_true, Bool.or_false, cond_true, cond_false, eq_self, if_true, if_false, ite_true, ite_false]), by rfl⟩
abbrev r_X5_isSo_4 : Room := { frames := 1, cells := 0, slots := 0, locals := 22 }
theorem cv_X5_isSo_4 : cV yX5_isSo cX5_isSo 4 (some .boolean) 3 := ⟨k5_5, k0_53, k5_6, k1_6, by decide, by decide, by decide +kernel⟩
set_option maxHeartbeats 4000000 in
set_option maxRecDepth 100000 in
theorem c_X5_isSo_4 (l : Launch) (D : va_G) (cI cC : ClassId) (adK adV : Nat → Nat) (y : Nat → Nat) (T : Tw) (X : Mr) (u : Nat) (v : Int32) (ho : gOk T) (hu : u < 8) : FC l yX5_isSo (wW yX5_isSo cX5_isSo 4 (some .boolean)) r_X5_isSo_4 D (tyC cI cC) adK adV (wMo cI cC y (rowOf T) X) [.ref (y 0), .int (4 : Int32), .int (nI u), .int v] 0 0 (fQ (some (.int (b2 (!decide (T.2.2.1 6 u < v))))) (wMo cI cC y (rowOf T) X)) := by
  refine FC.of (own := RX5) (by decide) rfl (Nat.le_of_ble_eq_true rfl) ?_
  intro p9 e9 s9 m9 args9 below9 meth9 c9 A9 C hr hlk hmn
  show AW p9 l e9 r_X5_isSo_4 s9 m9 args9 below9 meth9 c9 D A9 4 0 0 _ 0 [(0, .ref (y 0)), (1, .int (4 : Int32)), (2, .int (nI u)), (3, .int v)] [] _
  refine aw_iload_n C dX5_isSo_0 rfl ?_
  refine aw_tabOut C 114 dX5_isSo_1 (by decide) (by decide) ?_
  refine aw_aload_n C dX5_isSo_114 rfl ?_
  refine aw_iload_n C dX5_isSo_115 rfl ?_
  refine aw_bipush C (6 : Int32) dX5_isSo_116 (by decide) ?_
  refine aw_callVp C (As := [.int (nI u), .int (6 : Int32)]) (c_X5_get l D cI cC adK adV y T X u 6 (by omega) (by decide)) k4_85 cv_X5_get 0 4 rfl rfl rfl [0, 1, 2, 3, 4, 5, 6, 7, 8, 9, 10, 11, 12] (by decide) rfl ⟨by decide, by decide⟩ rfl rfl ⟨by decide, by decide⟩ rfl rfl (Nat.le_of_ble_eq_true rfl) dX5_isSo_118 ?_
  refine aw_iload_n C dX5_isSo_121 rfl ?_
  refine aw_icmp_lt C 129 dX5_isSo_122 (by decide) (fun c_122 => ?_) (fun c_122 => ?_)
  · skip
    refine aw_iconst C (0 : Int32) dX5_isSo_129 (by decide) ?_
    refine aw_pc 130 rfl ?_
    exact aw_bret C (b := false) hr hlk dX5_isSo_130 rfl ⟨rb (by simp only [c_122, decide_true, decide_false, Bool.not_true, Bool.not_false, Bool.true_and, Bool.false_and, Bool.and_true, Bool.and_false, Bool.true_or, Bool.false_or, Bool.or_true, Bool.or_false, cond_true, cond_false, eq_self, if_true, if_false, ite_true, ite_false]), by rfl⟩
  · skip
    refine aw_iconst C (1 : Int32) dX5_isSo_125 (by decide) ?_
    refine aw_goto C 130 dX5_isSo_126 (by decide) ?_
    exact aw_bret C (b := true) hr hlk dX5_isSo_130 rfl ⟨rb (by simp only [c_122, decide_true, decide_false, Bool.not_true, Bool.not_false, Bool.true_and, Bool.false_and, Bool.and_true, Bool.and_false, Bool.true_or, Bool.false_or, Bool.or_true, Bool.or_false, cond_true, cond_false, eq_self, if_true, if_false, ite_true, ite_false]), by rfl⟩
abbrev r_X5_firstBy_0 : Room := { frames := 5, cells := 0, slots := 0, locals := 112 }
theorem cv_X5_firstBy_0 : cV yX5_firstBy cX5_firstBy 5 (some .int) 3 := ⟨k5_1, k0_52, k5_2, k1_6, by decide, by decide, by decide +kernel⟩
set_option maxHeartbeats 4000000 in
set_option maxRecDepth 100000 in
theorem c_X5_firstBy_0 (l : Launch) (D : va_G) (cI cC : ClassId) (adK adV : Nat → Nat) (y : Nat → Nat) (T K : Tw) (ik : Bool) (F f : Nat → Int32) (n : Nat) (s1 s2 s3 kr ar : Nat → Int32) (tk : Int32) (bg en : Nat) (vl : Int64) (cr : Nat → Int32) (hk : ik = true → kr = rowOf K) (ho : gOk T) (u : Nat) (v : Nat) (hu : u < 8) (hv : v < 8) : FC l yX5_firstBy (wW yX5_firstBy cX5_firstBy 5 (some .int)) r_X5_firstBy_0 D (tyC cI cC) adK adV (wMo cI cC y (rowOf T) (kr, ar, ik, F, f, n, tk, bg, en, vl, s1, s2, s3, cr)) [.ref (y 0), .int (0 : Int32), .int (nI u), .int (nI v)] 0 0 (pMo cI cC y (mFirst (T, K, ik, F, f, n, s1, s2, s3) (fun k9 => tMut (tDays k9 T) 3 u v))) := by
  refine FC.of (own := RX5) (by decide) rfl (Nat.le_of_ble_eq_true rfl) ?_
  intro p9 e9 s9 m9 args9 below9 meth9 c9 A9 C hr hlk hmn
  show AW p9 l e9 r_X5_firstBy_0 s9 m9 args9 below9 meth9 c9 D A9 5 0 0 _ 0 [(0, .ref (y 0)), (1, .int (0 : Int32)), (2, .int (nI u)), (3, .int (nI v))] [] _
  have hn := ho.n
  refine aw_aload_n C dX5_firstBy_0 rfl ?_
  refine aw_callVdv C (As := []) (c_X5_setsAside l D cI cC adK adV y T (kr, ar, ik, F, f, n, tk, bg, en, vl, s1, s2, s3, cr) ) k4_223 cv_X5_setsAside 0 4 rfl rfl rfl [0, 1, 2, 3, 4, 5, 6, 7, 8, 9, 10, 11, 12] (by decide) rfl (wr := ([] : va_W)) [] rfl (by decide) (by decide) [0, 1, 2, 3, 4, 5, 6, 7, 8, 9, 10, 11, 12] (by decide) (ws' := wMo cI cC y (rowOf T) (kr, (rowOf T), ik, F, f, n, tk, bg, en, vl, s1, s2, s3, cr)) rfl ⟨by decide, by decide⟩ rfl rfl ⟨by decide, by decide⟩ rfl rfl (Nat.le_of_ble_eq_true rfl) dX5_firstBy_1 ?_
  refine aw_iconst C (0 : Int32) dX5_firstBy_4 (by decide) ?_
  refine aw_istore C true (lv' := [(0, .ref (y 0)), (1, .int (0 : Int32)), (2, .int (nI u)), (3, .int (nI v)), (4, .int (0 : Int32))]) dX5_firstBy_5 (by decide) rfl rfl ?_
  refine aw_eq (lv' := [(0, .ref (y 0)), (1, .int (0 : Int32)), (2, .int (nI u)), (3, .int (nI v)), (4, .int (nI 0))]) (ws' := wMo cI cC y (rowOf (tDays 0 T)) (kr, (rowOf T), ik, F, f, n, tk, bg, en, vl, s1, s2, s3, cr)) (by first | rfl | (simp only [itr])) rfl (by rfl) ?_
  refine aw_loop (LV := fun i => [(0, .ref (y 0)), (1, .int (0 : Int32)), (2, .int (nI u)), (3, .int (nI v)), (4, .int (nI i))]) (WS := fun i => wMo cI cC y (rowOf (tDays i T)) (kr, (rowOf T), ik, F, f, n, tk, bg, en, vl, s1, s2, s3, cr)) 201 (Inv := fun i => ∀ k9, k9 < i → tMut (tDays k9 T) 3 u v = false) (fun k9 hk9 => absurd hk9 (Nat.not_lt_zero k9)) ?_ ?_
  · intro hv7
    refine aw_iload C dX5_firstBy_7 rfl ?_
    refine aw_sipush C (200 : Int32) dX5_firstBy_9 (by decide) ?_
    refine aw_icmp_gt C 35 dX5_firstBy_12 (by decide) (fun c_12 => ?_) (fun c_12 => absurd c_12 (fun z => z (by decide)))
    refine aw_aload_n C dX5_firstBy_35 rfl ?_
    refine aw_callVdv C (As := []) (c_X5_laysBack l D cI cC adK adV y (tDays 201 T) (kr, (rowOf T), ik, F, f, n, tk, bg, en, vl, s1, s2, s3, cr) ) k4_227 cv_X5_laysBack 0 4 rfl rfl rfl [0, 1, 2, 3, 4, 5, 6, 7, 8, 9, 10, 11, 12] (by decide) rfl (wr := ([] : va_W)) [] rfl (by decide) (by decide) [0, 1, 2, 3, 4, 5, 6, 7, 8, 9, 10, 11, 12] (by decide) (ws' := wMo cI cC y (rowOf T) (kr, (rowOf T), ik, F, f, n, tk, bg, en, vl, s1, s2, s3, cr)) rfl ⟨by decide, by decide⟩ rfl rfl ⟨by decide, by decide⟩ rfl rfl (Nat.le_of_ble_eq_true rfl) dX5_firstBy_36 ?_
    refine aw_pc 39 rfl ?_
    refine aw_iload C dX5_firstBy_39 rfl ?_
    refine aw_sipush C (200 : Int32) dX5_firstBy_41 (by decide) ?_
    refine aw_icmp_le C 55 dX5_firstBy_44 (by decide) (fun c_44 => ?_) (fun c_44 => ?_)
    · skip
      refine aw_iload C dX5_firstBy_55 rfl ?_
      have hm : mFirst (T, K, ik, F, f, n, s1, s2, s3) (fun k9 => tMut (tDays k9 T) 3 u v) = ((nI 201), (T, K, ik, F, f, n, s1, s2, s3)) := by first | exact mFirst_no hv7 | exact mFirst_at hv7 c_22 hi7 | exact absurd c_44 (by decide) | exact absurd (nI_le (by omega) (by decide) : nI i ≤ nI 200) c_44
      exact aw_iret C hr hlk dX5_firstBy_57 ⟨ri (by rw [hm]), kr, (rowOf T), tk, bg, en, vl, cr, by first | (rw [hm]; done) | (rw [hm]; rfl), by rw [hm]; exact hk⟩
    · skip
      refine aw_aload_n C dX5_firstBy_47 rfl ?_
      refine aw_iconst C (3 : Int32) dX5_firstBy_48 (by decide) ?_
      refine aw_callVd C (As := [.int (3 : Int32)]) (c_X5_no l D cI cC adK adV y T (kr, (rowOf T), ik, F, f, n, tk, bg, en, vl, s1, s2, s3, cr) 3 (by decide)) k4_60 cv_X5_no 0 4 rfl rfl rfl [0, 1, 2, 3, 4, 5, 6, 7, 8, 9, 10, 11, 12] (by decide) rfl (wr := ([] : va_W)) [] rfl (by decide) (by decide) [0, 1, 2, 3, 4, 5, 6, 7, 8, 9, 10, 11, 12] (by decide) (ws' := wMo cI cC y (rowOf T) (kr, (rowOf T), ik, (upd F 3 (F 3 + 1)), f, n, tk, bg, en, vl, s1, s2, s3, cr)) rfl ⟨by decide, by decide⟩ rfl rfl ⟨by decide, by decide⟩ rfl rfl (Nat.le_of_ble_eq_true rfl) dX5_firstBy_49 ?_
      refine aw_goto C 57 dX5_firstBy_52 (by decide) ?_
      have hm : mFirst (T, K, ik, F, f, n, s1, s2, s3) (fun k9 => tMut (tDays k9 T) 3 u v) = ((fno 3), (T, K, ik, (upd F 3 (F 3 + 1)), f, n, s1, s2, s3)) := by first | exact mFirst_no hv7 | exact mFirst_at hv7 c_22 hi7 | exact absurd c_44 (by decide) | exact absurd (nI_le (by omega) (by decide) : nI i ≤ nI 200) c_44
      exact aw_iret C hr hlk dX5_firstBy_57 ⟨ri (by rw [hm]), kr, (rowOf T), tk, bg, en, vl, cr, by first | (rw [hm]; done) | (rw [hm]; rfl), by rw [hm]; exact hk⟩
  · intro i hi7 hv7 ih7
    refine aw_pc 7 rfl ?_
    refine aw_iload C dX5_firstBy_7 rfl ?_
    refine aw_sipush C (200 : Int32) dX5_firstBy_9 (by decide) ?_
    refine aw_icmp_gt C 35 dX5_firstBy_12 (by decide) (fun c_12 => absurd c_12 (nI_nlt (a := 200) (by omega) (by decide))) (fun c_12 => ?_)
    refine aw_aload_n C dX5_firstBy_15 rfl ?_
    refine aw_iload_n C dX5_firstBy_16 rfl ?_
    refine aw_iload_n C dX5_firstBy_17 rfl ?_
    refine aw_iload_n C dX5_firstBy_18 rfl ?_
    refine aw_callVp C (As := [.int (0 : Int32), .int (nI u), .int (nI v)]) (c_X5_isSo_0 l D cI cC adK adV y (tDays i T) (kr, (rowOf T), ik, F, f, n, tk, bg, en, vl, s1, s2, s3, cr) u v (days_ok ho i) (by omega) (by omega)) k5_3 cv_X5_isSo_0 0 4 rfl rfl rfl [0, 1, 2, 3, 4, 5, 6, 7, 8, 9, 10, 11, 12] (by decide) rfl ⟨by decide, by decide⟩ rfl rfl ⟨by decide, by decide⟩ rfl rfl (Nat.le_of_ble_eq_true rfl) dX5_firstBy_19 ?_
    refine aw_ifne_b C 35 dX5_firstBy_22 (by decide) (fun c_22 => ?_) (fun c_22 => ?_)
    · skip
      refine aw_aload_n C dX5_firstBy_35 rfl ?_
      refine aw_pc 36 rfl ?_
      refine aw_callVdv C (As := []) (c_X5_laysBack l D cI cC adK adV y (tDays i T) (kr, (rowOf T), ik, F, f, n, tk, bg, en, vl, s1, s2, s3, cr) ) k4_227 cv_X5_laysBack 0 4 rfl rfl rfl [0, 1, 2, 3, 4, 5, 6, 7, 8, 9, 10, 11, 12] (by decide) rfl (wr := ([] : va_W)) [] rfl (by decide) (by decide) [0, 1, 2, 3, 4, 5, 6, 7, 8, 9, 10, 11, 12] (by decide) (ws' := wMo cI cC y (rowOf T) (kr, (rowOf T), ik, F, f, n, tk, bg, en, vl, s1, s2, s3, cr)) rfl ⟨by decide, by decide⟩ rfl rfl ⟨by decide, by decide⟩ rfl rfl (Nat.le_of_ble_eq_true rfl) dX5_firstBy_36 ?_
      refine aw_iload C dX5_firstBy_39 rfl ?_
      refine aw_sipush C (200 : Int32) dX5_firstBy_41 (by decide) ?_
      refine aw_icmp_le C 55 dX5_firstBy_44 (by decide) (fun c_44 => ?_) (fun c_44 => ?_)
      · skip
        refine aw_iload C dX5_firstBy_55 rfl ?_
        have hm : mFirst (T, K, ik, F, f, n, s1, s2, s3) (fun k9 => tMut (tDays k9 T) 3 u v) = ((nI i), (T, K, ik, F, f, n, s1, s2, s3)) := by first | exact mFirst_no hv7 | exact mFirst_at hv7 c_22 hi7 | exact absurd c_44 (by decide) | exact absurd (nI_le (by omega) (by decide) : nI i ≤ nI 200) c_44
        exact aw_iret C hr hlk dX5_firstBy_57 ⟨ri (by rw [hm]), kr, (rowOf T), tk, bg, en, vl, cr, by first | (rw [hm]; done) | (rw [hm]; rfl), by rw [hm]; exact hk⟩
      · skip
        refine aw_aload_n C dX5_firstBy_47 rfl ?_
        refine aw_iconst C (3 : Int32) dX5_firstBy_48 (by decide) ?_
        refine aw_callVd C (As := [.int (3 : Int32)]) (c_X5_no l D cI cC adK adV y T (kr, (rowOf T), ik, F, f, n, tk, bg, en, vl, s1, s2, s3, cr) 3 (by decide)) k4_60 cv_X5_no 0 4 rfl rfl rfl [0, 1, 2, 3, 4, 5, 6, 7, 8, 9, 10, 11, 12] (by decide) rfl (wr := ([] : va_W)) [] rfl (by decide) (by decide) [0, 1, 2, 3, 4, 5, 6, 7, 8, 9, 10, 11, 12] (by decide) (ws' := wMo cI cC y (rowOf T) (kr, (rowOf T), ik, (upd F 3 (F 3 + 1)), f, n, tk, bg, en, vl, s1, s2, s3, cr)) rfl ⟨by decide, by decide⟩ rfl rfl ⟨by decide, by decide⟩ rfl rfl (Nat.le_of_ble_eq_true rfl) dX5_firstBy_49 ?_
        refine aw_goto C 57 dX5_firstBy_52 (by decide) ?_
        refine aw_pc 57 rfl ?_
        have hm : mFirst (T, K, ik, F, f, n, s1, s2, s3) (fun k9 => tMut (tDays k9 T) 3 u v) = ((fno 3), (T, K, ik, (upd F 3 (F 3 + 1)), f, n, s1, s2, s3)) := by first | exact mFirst_no hv7 | exact mFirst_at hv7 c_22 hi7 | exact absurd c_44 (by decide) | exact absurd (nI_le (by omega) (by decide) : nI i ≤ nI 200) c_44
        exact aw_iret C hr hlk dX5_firstBy_57 ⟨ri (by rw [hm]), kr, (rowOf T), tk, bg, en, vl, cr, by first | (rw [hm]; done) | (rw [hm]; rfl), by rw [hm]; exact hk⟩
    · skip
      refine aw_aload_n C dX5_firstBy_25 rfl ?_
      refine aw_callVdv C (As := []) (c_X5_day l D cI cC adK adV y (tDays i T) (kr, (rowOf T), ik, F, f, n, tk, bg, en, vl, s1, s2, s3, cr)  (days_ok ho i)) k4_171 cv_X5_day 0 4 rfl rfl rfl [0, 1, 2, 3, 4, 5, 6, 7, 8, 9, 10, 11, 12] (by decide) rfl (wr := ([] : va_W)) [] rfl (by decide) (by decide) [0, 1, 2, 3, 4, 5, 6, 7, 8, 9, 10, 11, 12] (by decide) (ws' := wMo cI cC y (rowOf (tDay (tDays i T))) (kr, (rowOf T), ik, F, f, n, tk, bg, en, vl, s1, s2, s3, cr)) rfl ⟨by decide, by decide⟩ rfl rfl ⟨by decide, by decide⟩ rfl rfl (Nat.le_of_ble_eq_true rfl) dX5_firstBy_26 ?_
      refine aw_iinc C (nI (i + 1)) dX5_firstBy_29 rfl (inc_nI _ 1) (by decide) rfl (lv' := [(0, .ref (y 0)), (1, .int (0 : Int32)), (2, .int (nI u)), (3, .int (nI v)), (4, .int (nI (i + 1)))]) rfl ?_
      refine aw_goto C 7 dX5_firstBy_32 (by decide) ?_
      exact aw_eq (by first | rfl | (simp only [itr, c_22])) rfl (by first | rfl | (simp only [itr, c_22] <;> first | done | rfl)) (ih7 (all_s hv7 c_22))
abbrev r_X5_firstBy_1 : Room := { frames := 5, cells := 0, slots := 0, locals := 112 }
theorem cv_X5_firstBy_1 : cV yX5_firstBy cX5_firstBy 5 (some .int) 3 := ⟨k5_1, k0_52, k5_2, k1_6, by decide, by decide, by decide +kernel⟩
set_option maxHeartbeats 4000000 in
set_option maxRecDepth 100000 in
theorem c_X5_firstBy_1 (l : Launch) (D : va_G) (cI cC : ClassId) (adK adV : Nat → Nat) (y : Nat → Nat) (T K : Tw) (ik : Bool) (F f : Nat → Int32) (n : Nat) (s1 s2 s3 kr ar : Nat → Int32) (tk : Int32) (bg en : Nat) (vl : Int64) (cr : Nat → Int32) (hk : ik = true → kr = rowOf K) (ho : gOk T) (u : Nat) (v : Nat) (hu : u < 8) (hv : v < 8) : FC l yX5_firstBy (wW yX5_firstBy cX5_firstBy 5 (some .int)) r_X5_firstBy_1 D (tyC cI cC) adK adV (wMo cI cC y (rowOf T) (kr, ar, ik, F, f, n, tk, bg, en, vl, s1, s2, s3, cr)) [.ref (y 0), .int (1 : Int32), .int (nI u), .int (nI v)] 0 0 (pMo cI cC y (mFirst (T, K, ik, F, f, n, s1, s2, s3) (fun k9 => tMut (tDays k9 T) 4 u v))) := by
  refine FC.of (own := RX5) (by decide) rfl (Nat.le_of_ble_eq_true rfl) ?_
  intro p9 e9 s9 m9 args9 below9 meth9 c9 A9 C hr hlk hmn
  show AW p9 l e9 r_X5_firstBy_1 s9 m9 args9 below9 meth9 c9 D A9 5 0 0 _ 0 [(0, .ref (y 0)), (1, .int (1 : Int32)), (2, .int (nI u)), (3, .int (nI v))] [] _
  have hn := ho.n
  refine aw_aload_n C dX5_firstBy_0 rfl ?_
  refine aw_callVdv C (As := []) (c_X5_setsAside l D cI cC adK adV y T (kr, ar, ik, F, f, n, tk, bg, en, vl, s1, s2, s3, cr) ) k4_223 cv_X5_setsAside 0 4 rfl rfl rfl [0, 1, 2, 3, 4, 5, 6, 7, 8, 9, 10, 11, 12] (by decide) rfl (wr := ([] : va_W)) [] rfl (by decide) (by decide) [0, 1, 2, 3, 4, 5, 6, 7, 8, 9, 10, 11, 12] (by decide) (ws' := wMo cI cC y (rowOf T) (kr, (rowOf T), ik, F, f, n, tk, bg, en, vl, s1, s2, s3, cr)) rfl ⟨by decide, by decide⟩ rfl rfl ⟨by decide, by decide⟩ rfl rfl (Nat.le_of_ble_eq_true rfl) dX5_firstBy_1 ?_
  refine aw_iconst C (0 : Int32) dX5_firstBy_4 (by decide) ?_
  refine aw_istore C true (lv' := [(0, .ref (y 0)), (1, .int (1 : Int32)), (2, .int (nI u)), (3, .int (nI v)), (4, .int (0 : Int32))]) dX5_firstBy_5 (by decide) rfl rfl ?_
  refine aw_eq (lv' := [(0, .ref (y 0)), (1, .int (1 : Int32)), (2, .int (nI u)), (3, .int (nI v)), (4, .int (nI 0))]) (ws' := wMo cI cC y (rowOf (tDays 0 T)) (kr, (rowOf T), ik, F, f, n, tk, bg, en, vl, s1, s2, s3, cr)) (by first | rfl | (simp only [itr])) rfl (by rfl) ?_
  refine aw_loop (LV := fun i => [(0, .ref (y 0)), (1, .int (1 : Int32)), (2, .int (nI u)), (3, .int (nI v)), (4, .int (nI i))]) (WS := fun i => wMo cI cC y (rowOf (tDays i T)) (kr, (rowOf T), ik, F, f, n, tk, bg, en, vl, s1, s2, s3, cr)) 201 (Inv := fun i => ∀ k9, k9 < i → tMut (tDays k9 T) 4 u v = false) (fun k9 hk9 => absurd hk9 (Nat.not_lt_zero k9)) ?_ ?_
  · intro hv7
    refine aw_iload C dX5_firstBy_7 rfl ?_
    refine aw_sipush C (200 : Int32) dX5_firstBy_9 (by decide) ?_
    refine aw_icmp_gt C 35 dX5_firstBy_12 (by decide) (fun c_12 => ?_) (fun c_12 => absurd c_12 (fun z => z (by decide)))
    refine aw_aload_n C dX5_firstBy_35 rfl ?_
    refine aw_callVdv C (As := []) (c_X5_laysBack l D cI cC adK adV y (tDays 201 T) (kr, (rowOf T), ik, F, f, n, tk, bg, en, vl, s1, s2, s3, cr) ) k4_227 cv_X5_laysBack 0 4 rfl rfl rfl [0, 1, 2, 3, 4, 5, 6, 7, 8, 9, 10, 11, 12] (by decide) rfl (wr := ([] : va_W)) [] rfl (by decide) (by decide) [0, 1, 2, 3, 4, 5, 6, 7, 8, 9, 10, 11, 12] (by decide) (ws' := wMo cI cC y (rowOf T) (kr, (rowOf T), ik, F, f, n, tk, bg, en, vl, s1, s2, s3, cr)) rfl ⟨by decide, by decide⟩ rfl rfl ⟨by decide, by decide⟩ rfl rfl (Nat.le_of_ble_eq_true rfl) dX5_firstBy_36 ?_
    refine aw_pc 39 rfl ?_
    refine aw_iload C dX5_firstBy_39 rfl ?_
    refine aw_sipush C (200 : Int32) dX5_firstBy_41 (by decide) ?_
    refine aw_icmp_le C 55 dX5_firstBy_44 (by decide) (fun c_44 => ?_) (fun c_44 => ?_)
    · skip
      refine aw_iload C dX5_firstBy_55 rfl ?_
      have hm : mFirst (T, K, ik, F, f, n, s1, s2, s3) (fun k9 => tMut (tDays k9 T) 4 u v) = ((nI 201), (T, K, ik, F, f, n, s1, s2, s3)) := by first | exact mFirst_no hv7 | exact mFirst_at hv7 c_22 hi7 | exact absurd c_44 (by decide) | exact absurd (nI_le (by omega) (by decide) : nI i ≤ nI 200) c_44
      exact aw_iret C hr hlk dX5_firstBy_57 ⟨ri (by rw [hm]), kr, (rowOf T), tk, bg, en, vl, cr, by first | (rw [hm]; done) | (rw [hm]; rfl), by rw [hm]; exact hk⟩
    · skip
      refine aw_aload_n C dX5_firstBy_47 rfl ?_
      refine aw_iconst C (3 : Int32) dX5_firstBy_48 (by decide) ?_
      refine aw_callVd C (As := [.int (3 : Int32)]) (c_X5_no l D cI cC adK adV y T (kr, (rowOf T), ik, F, f, n, tk, bg, en, vl, s1, s2, s3, cr) 3 (by decide)) k4_60 cv_X5_no 0 4 rfl rfl rfl [0, 1, 2, 3, 4, 5, 6, 7, 8, 9, 10, 11, 12] (by decide) rfl (wr := ([] : va_W)) [] rfl (by decide) (by decide) [0, 1, 2, 3, 4, 5, 6, 7, 8, 9, 10, 11, 12] (by decide) (ws' := wMo cI cC y (rowOf T) (kr, (rowOf T), ik, (upd F 3 (F 3 + 1)), f, n, tk, bg, en, vl, s1, s2, s3, cr)) rfl ⟨by decide, by decide⟩ rfl rfl ⟨by decide, by decide⟩ rfl rfl (Nat.le_of_ble_eq_true rfl) dX5_firstBy_49 ?_
      refine aw_goto C 57 dX5_firstBy_52 (by decide) ?_
      have hm : mFirst (T, K, ik, F, f, n, s1, s2, s3) (fun k9 => tMut (tDays k9 T) 4 u v) = ((fno 3), (T, K, ik, (upd F 3 (F 3 + 1)), f, n, s1, s2, s3)) := by first | exact mFirst_no hv7 | exact mFirst_at hv7 c_22 hi7 | exact absurd c_44 (by decide) | exact absurd (nI_le (by omega) (by decide) : nI i ≤ nI 200) c_44
      exact aw_iret C hr hlk dX5_firstBy_57 ⟨ri (by rw [hm]), kr, (rowOf T), tk, bg, en, vl, cr, by first | (rw [hm]; done) | (rw [hm]; rfl), by rw [hm]; exact hk⟩
  · intro i hi7 hv7 ih7
    refine aw_pc 7 rfl ?_
    refine aw_iload C dX5_firstBy_7 rfl ?_
    refine aw_sipush C (200 : Int32) dX5_firstBy_9 (by decide) ?_
    refine aw_icmp_gt C 35 dX5_firstBy_12 (by decide) (fun c_12 => absurd c_12 (nI_nlt (a := 200) (by omega) (by decide))) (fun c_12 => ?_)
    refine aw_aload_n C dX5_firstBy_15 rfl ?_
    refine aw_iload_n C dX5_firstBy_16 rfl ?_
    refine aw_iload_n C dX5_firstBy_17 rfl ?_
    refine aw_iload_n C dX5_firstBy_18 rfl ?_
    refine aw_callVp C (As := [.int (1 : Int32), .int (nI u), .int (nI v)]) (c_X5_isSo_1 l D cI cC adK adV y (tDays i T) (kr, (rowOf T), ik, F, f, n, tk, bg, en, vl, s1, s2, s3, cr) u v (days_ok ho i) (by omega) (by omega)) k5_3 cv_X5_isSo_1 0 4 rfl rfl rfl [0, 1, 2, 3, 4, 5, 6, 7, 8, 9, 10, 11, 12] (by decide) rfl ⟨by decide, by decide⟩ rfl rfl ⟨by decide, by decide⟩ rfl rfl (Nat.le_of_ble_eq_true rfl) dX5_firstBy_19 ?_
    refine aw_ifne_b C 35 dX5_firstBy_22 (by decide) (fun c_22 => ?_) (fun c_22 => ?_)
    · skip
      refine aw_aload_n C dX5_firstBy_35 rfl ?_
      refine aw_pc 36 rfl ?_
      refine aw_callVdv C (As := []) (c_X5_laysBack l D cI cC adK adV y (tDays i T) (kr, (rowOf T), ik, F, f, n, tk, bg, en, vl, s1, s2, s3, cr) ) k4_227 cv_X5_laysBack 0 4 rfl rfl rfl [0, 1, 2, 3, 4, 5, 6, 7, 8, 9, 10, 11, 12] (by decide) rfl (wr := ([] : va_W)) [] rfl (by decide) (by decide) [0, 1, 2, 3, 4, 5, 6, 7, 8, 9, 10, 11, 12] (by decide) (ws' := wMo cI cC y (rowOf T) (kr, (rowOf T), ik, F, f, n, tk, bg, en, vl, s1, s2, s3, cr)) rfl ⟨by decide, by decide⟩ rfl rfl ⟨by decide, by decide⟩ rfl rfl (Nat.le_of_ble_eq_true rfl) dX5_firstBy_36 ?_
      refine aw_iload C dX5_firstBy_39 rfl ?_
      refine aw_sipush C (200 : Int32) dX5_firstBy_41 (by decide) ?_
      refine aw_icmp_le C 55 dX5_firstBy_44 (by decide) (fun c_44 => ?_) (fun c_44 => ?_)
      · skip
        refine aw_iload C dX5_firstBy_55 rfl ?_
        have hm : mFirst (T, K, ik, F, f, n, s1, s2, s3) (fun k9 => tMut (tDays k9 T) 4 u v) = ((nI i), (T, K, ik, F, f, n, s1, s2, s3)) := by first | exact mFirst_no hv7 | exact mFirst_at hv7 c_22 hi7 | exact absurd c_44 (by decide) | exact absurd (nI_le (by omega) (by decide) : nI i ≤ nI 200) c_44
        exact aw_iret C hr hlk dX5_firstBy_57 ⟨ri (by rw [hm]), kr, (rowOf T), tk, bg, en, vl, cr, by first | (rw [hm]; done) | (rw [hm]; rfl), by rw [hm]; exact hk⟩
      · skip
        refine aw_aload_n C dX5_firstBy_47 rfl ?_
        refine aw_iconst C (3 : Int32) dX5_firstBy_48 (by decide) ?_
        refine aw_callVd C (As := [.int (3 : Int32)]) (c_X5_no l D cI cC adK adV y T (kr, (rowOf T), ik, F, f, n, tk, bg, en, vl, s1, s2, s3, cr) 3 (by decide)) k4_60 cv_X5_no 0 4 rfl rfl rfl [0, 1, 2, 3, 4, 5, 6, 7, 8, 9, 10, 11, 12] (by decide) rfl (wr := ([] : va_W)) [] rfl (by decide) (by decide) [0, 1, 2, 3, 4, 5, 6, 7, 8, 9, 10, 11, 12] (by decide) (ws' := wMo cI cC y (rowOf T) (kr, (rowOf T), ik, (upd F 3 (F 3 + 1)), f, n, tk, bg, en, vl, s1, s2, s3, cr)) rfl ⟨by decide, by decide⟩ rfl rfl ⟨by decide, by decide⟩ rfl rfl (Nat.le_of_ble_eq_true rfl) dX5_firstBy_49 ?_
        refine aw_goto C 57 dX5_firstBy_52 (by decide) ?_
        refine aw_pc 57 rfl ?_
        have hm : mFirst (T, K, ik, F, f, n, s1, s2, s3) (fun k9 => tMut (tDays k9 T) 4 u v) = ((fno 3), (T, K, ik, (upd F 3 (F 3 + 1)), f, n, s1, s2, s3)) := by first | exact mFirst_no hv7 | exact mFirst_at hv7 c_22 hi7 | exact absurd c_44 (by decide) | exact absurd (nI_le (by omega) (by decide) : nI i ≤ nI 200) c_44
        exact aw_iret C hr hlk dX5_firstBy_57 ⟨ri (by rw [hm]), kr, (rowOf T), tk, bg, en, vl, cr, by first | (rw [hm]; done) | (rw [hm]; rfl), by rw [hm]; exact hk⟩
    · skip
      refine aw_aload_n C dX5_firstBy_25 rfl ?_
      refine aw_callVdv C (As := []) (c_X5_day l D cI cC adK adV y (tDays i T) (kr, (rowOf T), ik, F, f, n, tk, bg, en, vl, s1, s2, s3, cr)  (days_ok ho i)) k4_171 cv_X5_day 0 4 rfl rfl rfl [0, 1, 2, 3, 4, 5, 6, 7, 8, 9, 10, 11, 12] (by decide) rfl (wr := ([] : va_W)) [] rfl (by decide) (by decide) [0, 1, 2, 3, 4, 5, 6, 7, 8, 9, 10, 11, 12] (by decide) (ws' := wMo cI cC y (rowOf (tDay (tDays i T))) (kr, (rowOf T), ik, F, f, n, tk, bg, en, vl, s1, s2, s3, cr)) rfl ⟨by decide, by decide⟩ rfl rfl ⟨by decide, by decide⟩ rfl rfl (Nat.le_of_ble_eq_true rfl) dX5_firstBy_26 ?_
      refine aw_iinc C (nI (i + 1)) dX5_firstBy_29 rfl (inc_nI _ 1) (by decide) rfl (lv' := [(0, .ref (y 0)), (1, .int (1 : Int32)), (2, .int (nI u)), (3, .int (nI v)), (4, .int (nI (i + 1)))]) rfl ?_
      refine aw_goto C 7 dX5_firstBy_32 (by decide) ?_
      exact aw_eq (by first | rfl | (simp only [itr, c_22])) rfl (by first | rfl | (simp only [itr, c_22] <;> first | done | rfl)) (ih7 (all_s hv7 c_22))
abbrev r_X5_firstBy_2 : Room := { frames := 5, cells := 0, slots := 0, locals := 112 }
theorem cv_X5_firstBy_2 : cV yX5_firstBy cX5_firstBy 5 (some .int) 3 := ⟨k5_1, k0_52, k5_2, k1_6, by decide, by decide, by decide +kernel⟩
set_option maxHeartbeats 4000000 in
set_option maxRecDepth 100000 in
theorem c_X5_firstBy_2 (l : Launch) (D : va_G) (cI cC : ClassId) (adK adV : Nat → Nat) (y : Nat → Nat) (T K : Tw) (ik : Bool) (F f : Nat → Int32) (n : Nat) (s1 s2 s3 kr ar : Nat → Int32) (tk : Int32) (bg en : Nat) (vl : Int64) (cr : Nat → Int32) (hk : ik = true → kr = rowOf K) (ho : gOk T) (u : Nat) (v : Nat) (hu : u < 8) (hv : v < 8) : FC l yX5_firstBy (wW yX5_firstBy cX5_firstBy 5 (some .int)) r_X5_firstBy_2 D (tyC cI cC) adK adV (wMo cI cC y (rowOf T) (kr, ar, ik, F, f, n, tk, bg, en, vl, s1, s2, s3, cr)) [.ref (y 0), .int (2 : Int32), .int (nI u), .int (nI v)] 0 0 (pMo cI cC y (mFirst (T, K, ik, F, f, n, s1, s2, s3) (fun k9 => decide ((tDays k9 T).2.2.1 1 u = (tDays k9 T).2.2.1 1 v)))) := by
  refine FC.of (own := RX5) (by decide) rfl (Nat.le_of_ble_eq_true rfl) ?_
  intro p9 e9 s9 m9 args9 below9 meth9 c9 A9 C hr hlk hmn
  show AW p9 l e9 r_X5_firstBy_2 s9 m9 args9 below9 meth9 c9 D A9 5 0 0 _ 0 [(0, .ref (y 0)), (1, .int (2 : Int32)), (2, .int (nI u)), (3, .int (nI v))] [] _
  have hn := ho.n
  refine aw_aload_n C dX5_firstBy_0 rfl ?_
  refine aw_callVdv C (As := []) (c_X5_setsAside l D cI cC adK adV y T (kr, ar, ik, F, f, n, tk, bg, en, vl, s1, s2, s3, cr) ) k4_223 cv_X5_setsAside 0 4 rfl rfl rfl [0, 1, 2, 3, 4, 5, 6, 7, 8, 9, 10, 11, 12] (by decide) rfl (wr := ([] : va_W)) [] rfl (by decide) (by decide) [0, 1, 2, 3, 4, 5, 6, 7, 8, 9, 10, 11, 12] (by decide) (ws' := wMo cI cC y (rowOf T) (kr, (rowOf T), ik, F, f, n, tk, bg, en, vl, s1, s2, s3, cr)) rfl ⟨by decide, by decide⟩ rfl rfl ⟨by decide, by decide⟩ rfl rfl (Nat.le_of_ble_eq_true rfl) dX5_firstBy_1 ?_
  refine aw_iconst C (0 : Int32) dX5_firstBy_4 (by decide) ?_
  refine aw_istore C true (lv' := [(0, .ref (y 0)), (1, .int (2 : Int32)), (2, .int (nI u)), (3, .int (nI v)), (4, .int (0 : Int32))]) dX5_firstBy_5 (by decide) rfl rfl ?_
  refine aw_eq (lv' := [(0, .ref (y 0)), (1, .int (2 : Int32)), (2, .int (nI u)), (3, .int (nI v)), (4, .int (nI 0))]) (ws' := wMo cI cC y (rowOf (tDays 0 T)) (kr, (rowOf T), ik, F, f, n, tk, bg, en, vl, s1, s2, s3, cr)) (by first | rfl | (simp only [itr])) rfl (by rfl) ?_
  refine aw_loop (LV := fun i => [(0, .ref (y 0)), (1, .int (2 : Int32)), (2, .int (nI u)), (3, .int (nI v)), (4, .int (nI i))]) (WS := fun i => wMo cI cC y (rowOf (tDays i T)) (kr, (rowOf T), ik, F, f, n, tk, bg, en, vl, s1, s2, s3, cr)) 201 (Inv := fun i => ∀ k9, k9 < i → decide ((tDays k9 T).2.2.1 1 u = (tDays k9 T).2.2.1 1 v) = false) (fun k9 hk9 => absurd hk9 (Nat.not_lt_zero k9)) ?_ ?_
  · intro hv7
    refine aw_iload C dX5_firstBy_7 rfl ?_
    refine aw_sipush C (200 : Int32) dX5_firstBy_9 (by decide) ?_
    refine aw_icmp_gt C 35 dX5_firstBy_12 (by decide) (fun c_12 => ?_) (fun c_12 => absurd c_12 (fun z => z (by decide)))
    refine aw_aload_n C dX5_firstBy_35 rfl ?_
    refine aw_callVdv C (As := []) (c_X5_laysBack l D cI cC adK adV y (tDays 201 T) (kr, (rowOf T), ik, F, f, n, tk, bg, en, vl, s1, s2, s3, cr) ) k4_227 cv_X5_laysBack 0 4 rfl rfl rfl [0, 1, 2, 3, 4, 5, 6, 7, 8, 9, 10, 11, 12] (by decide) rfl (wr := ([] : va_W)) [] rfl (by decide) (by decide) [0, 1, 2, 3, 4, 5, 6, 7, 8, 9, 10, 11, 12] (by decide) (ws' := wMo cI cC y (rowOf T) (kr, (rowOf T), ik, F, f, n, tk, bg, en, vl, s1, s2, s3, cr)) rfl ⟨by decide, by decide⟩ rfl rfl ⟨by decide, by decide⟩ rfl rfl (Nat.le_of_ble_eq_true rfl) dX5_firstBy_36 ?_
    refine aw_pc 39 rfl ?_
    refine aw_iload C dX5_firstBy_39 rfl ?_
    refine aw_sipush C (200 : Int32) dX5_firstBy_41 (by decide) ?_
    refine aw_icmp_le C 55 dX5_firstBy_44 (by decide) (fun c_44 => ?_) (fun c_44 => ?_)
    · skip
      refine aw_iload C dX5_firstBy_55 rfl ?_
      have hm : mFirst (T, K, ik, F, f, n, s1, s2, s3) (fun k9 => decide ((tDays k9 T).2.2.1 1 u = (tDays k9 T).2.2.1 1 v)) = ((nI 201), (T, K, ik, F, f, n, s1, s2, s3)) := by first | exact mFirst_no hv7 | exact mFirst_at hv7 c_22 hi7 | exact absurd c_44 (by decide) | exact absurd (nI_le (by omega) (by decide) : nI i ≤ nI 200) c_44
      exact aw_iret C hr hlk dX5_firstBy_57 ⟨ri (by rw [hm]), kr, (rowOf T), tk, bg, en, vl, cr, by first | (rw [hm]; done) | (rw [hm]; rfl), by rw [hm]; exact hk⟩
    · skip
      refine aw_aload_n C dX5_firstBy_47 rfl ?_
      refine aw_iconst C (3 : Int32) dX5_firstBy_48 (by decide) ?_
      refine aw_callVd C (As := [.int (3 : Int32)]) (c_X5_no l D cI cC adK adV y T (kr, (rowOf T), ik, F, f, n, tk, bg, en, vl, s1, s2, s3, cr) 3 (by decide)) k4_60 cv_X5_no 0 4 rfl rfl rfl [0, 1, 2, 3, 4, 5, 6, 7, 8, 9, 10, 11, 12] (by decide) rfl (wr := ([] : va_W)) [] rfl (by decide) (by decide) [0, 1, 2, 3, 4, 5, 6, 7, 8, 9, 10, 11, 12] (by decide) (ws' := wMo cI cC y (rowOf T) (kr, (rowOf T), ik, (upd F 3 (F 3 + 1)), f, n, tk, bg, en, vl, s1, s2, s3, cr)) rfl ⟨by decide, by decide⟩ rfl rfl ⟨by decide, by decide⟩ rfl rfl (Nat.le_of_ble_eq_true rfl) dX5_firstBy_49 ?_
      refine aw_goto C 57 dX5_firstBy_52 (by decide) ?_
      have hm : mFirst (T, K, ik, F, f, n, s1, s2, s3) (fun k9 => decide ((tDays k9 T).2.2.1 1 u = (tDays k9 T).2.2.1 1 v)) = ((fno 3), (T, K, ik, (upd F 3 (F 3 + 1)), f, n, s1, s2, s3)) := by first | exact mFirst_no hv7 | exact mFirst_at hv7 c_22 hi7 | exact absurd c_44 (by decide) | exact absurd (nI_le (by omega) (by decide) : nI i ≤ nI 200) c_44
      exact aw_iret C hr hlk dX5_firstBy_57 ⟨ri (by rw [hm]), kr, (rowOf T), tk, bg, en, vl, cr, by first | (rw [hm]; done) | (rw [hm]; rfl), by rw [hm]; exact hk⟩
  · intro i hi7 hv7 ih7
    refine aw_pc 7 rfl ?_
    refine aw_iload C dX5_firstBy_7 rfl ?_
    refine aw_sipush C (200 : Int32) dX5_firstBy_9 (by decide) ?_
    refine aw_icmp_gt C 35 dX5_firstBy_12 (by decide) (fun c_12 => absurd c_12 (nI_nlt (a := 200) (by omega) (by decide))) (fun c_12 => ?_)
    refine aw_aload_n C dX5_firstBy_15 rfl ?_
    refine aw_iload_n C dX5_firstBy_16 rfl ?_
    refine aw_iload_n C dX5_firstBy_17 rfl ?_
    refine aw_iload_n C dX5_firstBy_18 rfl ?_
    refine aw_callVp C (As := [.int (2 : Int32), .int (nI u), .int (nI v)]) (c_X5_isSo_2 l D cI cC adK adV y (tDays i T) (kr, (rowOf T), ik, F, f, n, tk, bg, en, vl, s1, s2, s3, cr) u v (days_ok ho i) (by omega) (by omega)) k5_3 cv_X5_isSo_2 0 4 rfl rfl rfl [0, 1, 2, 3, 4, 5, 6, 7, 8, 9, 10, 11, 12] (by decide) rfl ⟨by decide, by decide⟩ rfl rfl ⟨by decide, by decide⟩ rfl rfl (Nat.le_of_ble_eq_true rfl) dX5_firstBy_19 ?_
    refine aw_ifne_b C 35 dX5_firstBy_22 (by decide) (fun c_22 => ?_) (fun c_22 => ?_)
    · skip
      refine aw_aload_n C dX5_firstBy_35 rfl ?_
      refine aw_pc 36 rfl ?_
      refine aw_callVdv C (As := []) (c_X5_laysBack l D cI cC adK adV y (tDays i T) (kr, (rowOf T), ik, F, f, n, tk, bg, en, vl, s1, s2, s3, cr) ) k4_227 cv_X5_laysBack 0 4 rfl rfl rfl [0, 1, 2, 3, 4, 5, 6, 7, 8, 9, 10, 11, 12] (by decide) rfl (wr := ([] : va_W)) [] rfl (by decide) (by decide) [0, 1, 2, 3, 4, 5, 6, 7, 8, 9, 10, 11, 12] (by decide) (ws' := wMo cI cC y (rowOf T) (kr, (rowOf T), ik, F, f, n, tk, bg, en, vl, s1, s2, s3, cr)) rfl ⟨by decide, by decide⟩ rfl rfl ⟨by decide, by decide⟩ rfl rfl (Nat.le_of_ble_eq_true rfl) dX5_firstBy_36 ?_
      refine aw_iload C dX5_firstBy_39 rfl ?_
      refine aw_sipush C (200 : Int32) dX5_firstBy_41 (by decide) ?_
      refine aw_icmp_le C 55 dX5_firstBy_44 (by decide) (fun c_44 => ?_) (fun c_44 => ?_)
      · skip
        refine aw_iload C dX5_firstBy_55 rfl ?_
        have hm : mFirst (T, K, ik, F, f, n, s1, s2, s3) (fun k9 => decide ((tDays k9 T).2.2.1 1 u = (tDays k9 T).2.2.1 1 v)) = ((nI i), (T, K, ik, F, f, n, s1, s2, s3)) := by first | exact mFirst_no hv7 | exact mFirst_at hv7 c_22 hi7 | exact absurd c_44 (by decide) | exact absurd (nI_le (by omega) (by decide) : nI i ≤ nI 200) c_44
        exact aw_iret C hr hlk dX5_firstBy_57 ⟨ri (by rw [hm]), kr, (rowOf T), tk, bg, en, vl, cr, by first | (rw [hm]; done) | (rw [hm]; rfl), by rw [hm]; exact hk⟩
      · skip
        refine aw_aload_n C dX5_firstBy_47 rfl ?_
        refine aw_iconst C (3 : Int32) dX5_firstBy_48 (by decide) ?_
        refine aw_callVd C (As := [.int (3 : Int32)]) (c_X5_no l D cI cC adK adV y T (kr, (rowOf T), ik, F, f, n, tk, bg, en, vl, s1, s2, s3, cr) 3 (by decide)) k4_60 cv_X5_no 0 4 rfl rfl rfl [0, 1, 2, 3, 4, 5, 6, 7, 8, 9, 10, 11, 12] (by decide) rfl (wr := ([] : va_W)) [] rfl (by decide) (by decide) [0, 1, 2, 3, 4, 5, 6, 7, 8, 9, 10, 11, 12] (by decide) (ws' := wMo cI cC y (rowOf T) (kr, (rowOf T), ik, (upd F 3 (F 3 + 1)), f, n, tk, bg, en, vl, s1, s2, s3, cr)) rfl ⟨by decide, by decide⟩ rfl rfl ⟨by decide, by decide⟩ rfl rfl (Nat.le_of_ble_eq_true rfl) dX5_firstBy_49 ?_
        refine aw_goto C 57 dX5_firstBy_52 (by decide) ?_
        refine aw_pc 57 rfl ?_
        have hm : mFirst (T, K, ik, F, f, n, s1, s2, s3) (fun k9 => decide ((tDays k9 T).2.2.1 1 u = (tDays k9 T).2.2.1 1 v)) = ((fno 3), (T, K, ik, (upd F 3 (F 3 + 1)), f, n, s1, s2, s3)) := by first | exact mFirst_no hv7 | exact mFirst_at hv7 c_22 hi7 | exact absurd c_44 (by decide) | exact absurd (nI_le (by omega) (by decide) : nI i ≤ nI 200) c_44
        exact aw_iret C hr hlk dX5_firstBy_57 ⟨ri (by rw [hm]), kr, (rowOf T), tk, bg, en, vl, cr, by first | (rw [hm]; done) | (rw [hm]; rfl), by rw [hm]; exact hk⟩
    · skip
      refine aw_aload_n C dX5_firstBy_25 rfl ?_
      refine aw_callVdv C (As := []) (c_X5_day l D cI cC adK adV y (tDays i T) (kr, (rowOf T), ik, F, f, n, tk, bg, en, vl, s1, s2, s3, cr)  (days_ok ho i)) k4_171 cv_X5_day 0 4 rfl rfl rfl [0, 1, 2, 3, 4, 5, 6, 7, 8, 9, 10, 11, 12] (by decide) rfl (wr := ([] : va_W)) [] rfl (by decide) (by decide) [0, 1, 2, 3, 4, 5, 6, 7, 8, 9, 10, 11, 12] (by decide) (ws' := wMo cI cC y (rowOf (tDay (tDays i T))) (kr, (rowOf T), ik, F, f, n, tk, bg, en, vl, s1, s2, s3, cr)) rfl ⟨by decide, by decide⟩ rfl rfl ⟨by decide, by decide⟩ rfl rfl (Nat.le_of_ble_eq_true rfl) dX5_firstBy_26 ?_
      refine aw_iinc C (nI (i + 1)) dX5_firstBy_29 rfl (inc_nI _ 1) (by decide) rfl (lv' := [(0, .ref (y 0)), (1, .int (2 : Int32)), (2, .int (nI u)), (3, .int (nI v)), (4, .int (nI (i + 1)))]) rfl ?_
      refine aw_goto C 7 dX5_firstBy_32 (by decide) ?_
      exact aw_eq (by first | rfl | (simp only [itr, c_22])) rfl (by first | rfl | (simp only [itr, c_22] <;> first | done | rfl)) (ih7 (all_s hv7 c_22))
abbrev r_X5_firstBy_3 : Room := { frames := 5, cells := 0, slots := 0, locals := 112 }
theorem cv_X5_firstBy_3 : cV yX5_firstBy cX5_firstBy 5 (some .int) 3 := ⟨k5_1, k0_52, k5_2, k1_6, by decide, by decide, by decide +kernel⟩
set_option maxHeartbeats 4000000 in
set_option maxRecDepth 100000 in
theorem c_X5_firstBy_3 (l : Launch) (D : va_G) (cI cC : ClassId) (adK adV : Nat → Nat) (y : Nat → Nat) (T K : Tw) (ik : Bool) (F f : Nat → Int32) (n : Nat) (s1 s2 s3 kr ar : Nat → Int32) (tk : Int32) (bg en : Nat) (vl : Int64) (cr : Nat → Int32) (hk : ik = true → kr = rowOf K) (ho : gOk T)  : FC l yX5_firstBy (wW yX5_firstBy cX5_firstBy 5 (some .int)) r_X5_firstBy_3 D (tyC cI cC) adK adV (wMo cI cC y (rowOf T) (kr, ar, ik, F, f, n, tk, bg, en, vl, s1, s2, s3, cr)) [.ref (y 0), .int (3 : Int32), .int (0 : Int32), .int (0 : Int32)] 0 0 (pMo cI cC y (mFirst (T, K, ik, F, f, n, s1, s2, s3) (fun k9 => (!decide (mKnowers (tDays k9 T) = 0))))) := by
  refine FC.of (own := RX5) (by decide) rfl (Nat.le_of_ble_eq_true rfl) ?_
  intro p9 e9 s9 m9 args9 below9 meth9 c9 A9 C hr hlk hmn
  show AW p9 l e9 r_X5_firstBy_3 s9 m9 args9 below9 meth9 c9 D A9 5 0 0 _ 0 [(0, .ref (y 0)), (1, .int (3 : Int32)), (2, .int (0 : Int32)), (3, .int (0 : Int32))] [] _
  have hn := ho.n
  refine aw_aload_n C dX5_firstBy_0 rfl ?_
  refine aw_callVdv C (As := []) (c_X5_setsAside l D cI cC adK adV y T (kr, ar, ik, F, f, n, tk, bg, en, vl, s1, s2, s3, cr) ) k4_223 cv_X5_setsAside 0 4 rfl rfl rfl [0, 1, 2, 3, 4, 5, 6, 7, 8, 9, 10, 11, 12] (by decide) rfl (wr := ([] : va_W)) [] rfl (by decide) (by decide) [0, 1, 2, 3, 4, 5, 6, 7, 8, 9, 10, 11, 12] (by decide) (ws' := wMo cI cC y (rowOf T) (kr, (rowOf T), ik, F, f, n, tk, bg, en, vl, s1, s2, s3, cr)) rfl ⟨by decide, by decide⟩ rfl rfl ⟨by decide, by decide⟩ rfl rfl (Nat.le_of_ble_eq_true rfl) dX5_firstBy_1 ?_
  refine aw_iconst C (0 : Int32) dX5_firstBy_4 (by decide) ?_
  refine aw_istore C true (lv' := [(0, .ref (y 0)), (1, .int (3 : Int32)), (2, .int (0 : Int32)), (3, .int (0 : Int32)), (4, .int (0 : Int32))]) dX5_firstBy_5 (by decide) rfl rfl ?_
  refine aw_eq (lv' := [(0, .ref (y 0)), (1, .int (3 : Int32)), (2, .int (0 : Int32)), (3, .int (0 : Int32)), (4, .int (nI 0))]) (ws' := wMo cI cC y (rowOf (tDays 0 T)) (kr, (rowOf T), ik, F, f, n, tk, bg, en, vl, s1, s2, s3, cr)) (by first | rfl | (simp only [itr])) rfl (by rfl) ?_
  refine aw_loop (LV := fun i => [(0, .ref (y 0)), (1, .int (3 : Int32)), (2, .int (0 : Int32)), (3, .int (0 : Int32)), (4, .int (nI i))]) (WS := fun i => wMo cI cC y (rowOf (tDays i T)) (kr, (rowOf T), ik, F, f, n, tk, bg, en, vl, s1, s2, s3, cr)) 201 (Inv := fun i => ∀ k9, k9 < i → (!decide (mKnowers (tDays k9 T) = 0)) = false) (fun k9 hk9 => absurd hk9 (Nat.not_lt_zero k9)) ?_ ?_
  · intro hv7
    refine aw_iload C dX5_firstBy_7 rfl ?_
    refine aw_sipush C (200 : Int32) dX5_firstBy_9 (by decide) ?_
    refine aw_icmp_gt C 35 dX5_firstBy_12 (by decide) (fun c_12 => ?_) (fun c_12 => absurd c_12 (fun z => z (by decide)))
    refine aw_aload_n C dX5_firstBy_35 rfl ?_
    refine aw_callVdv C (As := []) (c_X5_laysBack l D cI cC adK adV y (tDays 201 T) (kr, (rowOf T), ik, F, f, n, tk, bg, en, vl, s1, s2, s3, cr) ) k4_227 cv_X5_laysBack 0 4 rfl rfl rfl [0, 1, 2, 3, 4, 5, 6, 7, 8, 9, 10, 11, 12] (by decide) rfl (wr := ([] : va_W)) [] rfl (by decide) (by decide) [0, 1, 2, 3, 4, 5, 6, 7, 8, 9, 10, 11, 12] (by decide) (ws' := wMo cI cC y (rowOf T) (kr, (rowOf T), ik, F, f, n, tk, bg, en, vl, s1, s2, s3, cr)) rfl ⟨by decide, by decide⟩ rfl rfl ⟨by decide, by decide⟩ rfl rfl (Nat.le_of_ble_eq_true rfl) dX5_firstBy_36 ?_
    refine aw_pc 39 rfl ?_
    refine aw_iload C dX5_firstBy_39 rfl ?_
    refine aw_sipush C (200 : Int32) dX5_firstBy_41 (by decide) ?_
    refine aw_icmp_le C 55 dX5_firstBy_44 (by decide) (fun c_44 => ?_) (fun c_44 => ?_)
    · skip
      refine aw_iload C dX5_firstBy_55 rfl ?_
      have hm : mFirst (T, K, ik, F, f, n, s1, s2, s3) (fun k9 => (!decide (mKnowers (tDays k9 T) = 0))) = ((nI 201), (T, K, ik, F, f, n, s1, s2, s3)) := by first | exact mFirst_no hv7 | exact mFirst_at hv7 c_22 hi7 | exact absurd c_44 (by decide) | exact absurd (nI_le (by omega) (by decide) : nI i ≤ nI 200) c_44
      exact aw_iret C hr hlk dX5_firstBy_57 ⟨ri (by rw [hm]), kr, (rowOf T), tk, bg, en, vl, cr, by first | (rw [hm]; done) | (rw [hm]; rfl), by rw [hm]; exact hk⟩
    · skip
      refine aw_aload_n C dX5_firstBy_47 rfl ?_
      refine aw_iconst C (3 : Int32) dX5_firstBy_48 (by decide) ?_
      refine aw_callVd C (As := [.int (3 : Int32)]) (c_X5_no l D cI cC adK adV y T (kr, (rowOf T), ik, F, f, n, tk, bg, en, vl, s1, s2, s3, cr) 3 (by decide)) k4_60 cv_X5_no 0 4 rfl rfl rfl [0, 1, 2, 3, 4, 5, 6, 7, 8, 9, 10, 11, 12] (by decide) rfl (wr := ([] : va_W)) [] rfl (by decide) (by decide) [0, 1, 2, 3, 4, 5, 6, 7, 8, 9, 10, 11, 12] (by decide) (ws' := wMo cI cC y (rowOf T) (kr, (rowOf T), ik, (upd F 3 (F 3 + 1)), f, n, tk, bg, en, vl, s1, s2, s3, cr)) rfl ⟨by decide, by decide⟩ rfl rfl ⟨by decide, by decide⟩ rfl rfl (Nat.le_of_ble_eq_true rfl) dX5_firstBy_49 ?_
      refine aw_goto C 57 dX5_firstBy_52 (by decide) ?_
      have hm : mFirst (T, K, ik, F, f, n, s1, s2, s3) (fun k9 => (!decide (mKnowers (tDays k9 T) = 0))) = ((fno 3), (T, K, ik, (upd F 3 (F 3 + 1)), f, n, s1, s2, s3)) := by first | exact mFirst_no hv7 | exact mFirst_at hv7 c_22 hi7 | exact absurd c_44 (by decide) | exact absurd (nI_le (by omega) (by decide) : nI i ≤ nI 200) c_44
      exact aw_iret C hr hlk dX5_firstBy_57 ⟨ri (by rw [hm]), kr, (rowOf T), tk, bg, en, vl, cr, by first | (rw [hm]; done) | (rw [hm]; rfl), by rw [hm]; exact hk⟩
  · intro i hi7 hv7 ih7
    refine aw_pc 7 rfl ?_
    refine aw_iload C dX5_firstBy_7 rfl ?_
    refine aw_sipush C (200 : Int32) dX5_firstBy_9 (by decide) ?_
    refine aw_icmp_gt C 35 dX5_firstBy_12 (by decide) (fun c_12 => absurd c_12 (nI_nlt (a := 200) (by omega) (by decide))) (fun c_12 => ?_)
    refine aw_aload_n C dX5_firstBy_15 rfl ?_
    refine aw_iload_n C dX5_firstBy_16 rfl ?_
    refine aw_iload_n C dX5_firstBy_17 rfl ?_
    refine aw_iload_n C dX5_firstBy_18 rfl ?_
    refine aw_callVp C (As := [.int (3 : Int32), .int (0 : Int32), .int (0 : Int32)]) (c_X5_isSo_3 l D cI cC adK adV y (tDays i T) (kr, (rowOf T), ik, F, f, n, tk, bg, en, vl, s1, s2, s3, cr)  (days_ok ho i)) k5_3 cv_X5_isSo_3 0 4 rfl rfl rfl [0, 1, 2, 3, 4, 5, 6, 7, 8, 9, 10, 11, 12] (by decide) rfl ⟨by decide, by decide⟩ rfl rfl ⟨by decide, by decide⟩ rfl rfl (Nat.le_of_ble_eq_true rfl) dX5_firstBy_19 ?_
    refine aw_ifne_b C 35 dX5_firstBy_22 (by decide) (fun c_22 => ?_) (fun c_22 => ?_)
    · skip
      refine aw_aload_n C dX5_firstBy_35 rfl ?_
      refine aw_pc 36 rfl ?_
      refine aw_callVdv C (As := []) (c_X5_laysBack l D cI cC adK adV y (tDays i T) (kr, (rowOf T), ik, F, f, n, tk, bg, en, vl, s1, s2, s3, cr) ) k4_227 cv_X5_laysBack 0 4 rfl rfl rfl [0, 1, 2, 3, 4, 5, 6, 7, 8, 9, 10, 11, 12] (by decide) rfl (wr := ([] : va_W)) [] rfl (by decide) (by decide) [0, 1, 2, 3, 4, 5, 6, 7, 8, 9, 10, 11, 12] (by decide) (ws' := wMo cI cC y (rowOf T) (kr, (rowOf T), ik, F, f, n, tk, bg, en, vl, s1, s2, s3, cr)) rfl ⟨by decide, by decide⟩ rfl rfl ⟨by decide, by decide⟩ rfl rfl (Nat.le_of_ble_eq_true rfl) dX5_firstBy_36 ?_
      refine aw_iload C dX5_firstBy_39 rfl ?_
      refine aw_sipush C (200 : Int32) dX5_firstBy_41 (by decide) ?_
      refine aw_icmp_le C 55 dX5_firstBy_44 (by decide) (fun c_44 => ?_) (fun c_44 => ?_)
      · skip
        refine aw_iload C dX5_firstBy_55 rfl ?_
        have hm : mFirst (T, K, ik, F, f, n, s1, s2, s3) (fun k9 => (!decide (mKnowers (tDays k9 T) = 0))) = ((nI i), (T, K, ik, F, f, n, s1, s2, s3)) := by first | exact mFirst_no hv7 | exact mFirst_at hv7 c_22 hi7 | exact absurd c_44 (by decide) | exact absurd (nI_le (by omega) (by decide) : nI i ≤ nI 200) c_44
        exact aw_iret C hr hlk dX5_firstBy_57 ⟨ri (by rw [hm]), kr, (rowOf T), tk, bg, en, vl, cr, by first | (rw [hm]; done) | (rw [hm]; rfl), by rw [hm]; exact hk⟩
      · skip
        refine aw_aload_n C dX5_firstBy_47 rfl ?_
        refine aw_iconst C (3 : Int32) dX5_firstBy_48 (by decide) ?_
        refine aw_callVd C (As := [.int (3 : Int32)]) (c_X5_no l D cI cC adK adV y T (kr, (rowOf T), ik, F, f, n, tk, bg, en, vl, s1, s2, s3, cr) 3 (by decide)) k4_60 cv_X5_no 0 4 rfl rfl rfl [0, 1, 2, 3, 4, 5, 6, 7, 8, 9, 10, 11, 12] (by decide) rfl (wr := ([] : va_W)) [] rfl (by decide) (by decide) [0, 1, 2, 3, 4, 5, 6, 7, 8, 9, 10, 11, 12] (by decide) (ws' := wMo cI cC y (rowOf T) (kr, (rowOf T), ik, (upd F 3 (F 3 + 1)), f, n, tk, bg, en, vl, s1, s2, s3, cr)) rfl ⟨by decide, by decide⟩ rfl rfl ⟨by decide, by decide⟩ rfl rfl (Nat.le_of_ble_eq_true rfl) dX5_firstBy_49 ?_
        refine aw_goto C 57 dX5_firstBy_52 (by decide) ?_
        refine aw_pc 57 rfl ?_
        have hm : mFirst (T, K, ik, F, f, n, s1, s2, s3) (fun k9 => (!decide (mKnowers (tDays k9 T) = 0))) = ((fno 3), (T, K, ik, (upd F 3 (F 3 + 1)), f, n, s1, s2, s3)) := by first | exact mFirst_no hv7 | exact mFirst_at hv7 c_22 hi7 | exact absurd c_44 (by decide) | exact absurd (nI_le (by omega) (by decide) : nI i ≤ nI 200) c_44
        exact aw_iret C hr hlk dX5_firstBy_57 ⟨ri (by rw [hm]), kr, (rowOf T), tk, bg, en, vl, cr, by first | (rw [hm]; done) | (rw [hm]; rfl), by rw [hm]; exact hk⟩
    · skip
      refine aw_aload_n C dX5_firstBy_25 rfl ?_
      refine aw_callVdv C (As := []) (c_X5_day l D cI cC adK adV y (tDays i T) (kr, (rowOf T), ik, F, f, n, tk, bg, en, vl, s1, s2, s3, cr)  (days_ok ho i)) k4_171 cv_X5_day 0 4 rfl rfl rfl [0, 1, 2, 3, 4, 5, 6, 7, 8, 9, 10, 11, 12] (by decide) rfl (wr := ([] : va_W)) [] rfl (by decide) (by decide) [0, 1, 2, 3, 4, 5, 6, 7, 8, 9, 10, 11, 12] (by decide) (ws' := wMo cI cC y (rowOf (tDay (tDays i T))) (kr, (rowOf T), ik, F, f, n, tk, bg, en, vl, s1, s2, s3, cr)) rfl ⟨by decide, by decide⟩ rfl rfl ⟨by decide, by decide⟩ rfl rfl (Nat.le_of_ble_eq_true rfl) dX5_firstBy_26 ?_
      refine aw_iinc C (nI (i + 1)) dX5_firstBy_29 rfl (inc_nI _ 1) (by decide) rfl (lv' := [(0, .ref (y 0)), (1, .int (3 : Int32)), (2, .int (0 : Int32)), (3, .int (0 : Int32)), (4, .int (nI (i + 1)))]) rfl ?_
      refine aw_goto C 7 dX5_firstBy_32 (by decide) ?_
      exact aw_eq (by first | rfl | (simp only [itr, c_22])) rfl (by first | rfl | (simp only [itr, c_22] <;> first | done | rfl)) (ih7 (all_s hv7 c_22))
abbrev r_X5_firstBy_4 : Room := { frames := 5, cells := 0, slots := 0, locals := 112 }
theorem cv_X5_firstBy_4 : cV yX5_firstBy cX5_firstBy 5 (some .int) 3 := ⟨k5_1, k0_52, k5_2, k1_6, by decide, by decide, by decide +kernel⟩
set_option maxHeartbeats 4000000 in
set_option maxRecDepth 100000 in
theorem c_X5_firstBy_4 (l : Launch) (D : va_G) (cI cC : ClassId) (adK adV : Nat → Nat) (y : Nat → Nat) (T K : Tw) (ik : Bool) (F f : Nat → Int32) (n : Nat) (s1 s2 s3 kr ar : Nat → Int32) (tk : Int32) (bg en : Nat) (vl : Int64) (cr : Nat → Int32) (hk : ik = true → kr = rowOf K) (ho : gOk T) (u : Nat) (v : Int32) (hu : u < 8) : FC l yX5_firstBy (wW yX5_firstBy cX5_firstBy 5 (some .int)) r_X5_firstBy_4 D (tyC cI cC) adK adV (wMo cI cC y (rowOf T) (kr, ar, ik, F, f, n, tk, bg, en, vl, s1, s2, s3, cr)) [.ref (y 0), .int (4 : Int32), .int (nI u), .int v] 0 0 (pMo cI cC y (mFirst (T, K, ik, F, f, n, s1, s2, s3) (fun k9 => (!decide ((tDays k9 T).2.2.1 6 u < v))))) := by
  refine FC.of (own := RX5) (by decide) rfl (Nat.le_of_ble_eq_true rfl) ?_
  intro p9 e9 s9 m9 args9 below9 meth9 c9 A9 C hr hlk hmn
  show AW p9 l e9 r_X5_firstBy_4 s9 m9 args9 below9 meth9 c9 D A9 5 0 0 _ 0 [(0, .ref (y 0)), (1, .int (4 : Int32)), (2, .int (nI u)), (3, .int v)] [] _
  have hn := ho.n
  refine aw_aload_n C dX5_firstBy_0 rfl ?_
  refine aw_callVdv C (As := []) (c_X5_setsAside l D cI cC adK adV y T (kr, ar, ik, F, f, n, tk, bg, en, vl, s1, s2, s3, cr) ) k4_223 cv_X5_setsAside 0 4 rfl rfl rfl [0, 1, 2, 3, 4, 5, 6, 7, 8, 9, 10, 11, 12] (by decide) rfl (wr := ([] : va_W)) [] rfl (by decide) (by decide) [0, 1, 2, 3, 4, 5, 6, 7, 8, 9, 10, 11, 12] (by decide) (ws' := wMo cI cC y (rowOf T) (kr, (rowOf T), ik, F, f, n, tk, bg, en, vl, s1, s2, s3, cr)) rfl ⟨by decide, by decide⟩ rfl rfl ⟨by decide, by decide⟩ rfl rfl (Nat.le_of_ble_eq_true rfl) dX5_firstBy_1 ?_
  refine aw_iconst C (0 : Int32) dX5_firstBy_4 (by decide) ?_
  refine aw_istore C true (lv' := [(0, .ref (y 0)), (1, .int (4 : Int32)), (2, .int (nI u)), (3, .int v), (4, .int (0 : Int32))]) dX5_firstBy_5 (by decide) rfl rfl ?_
  refine aw_eq (lv' := [(0, .ref (y 0)), (1, .int (4 : Int32)), (2, .int (nI u)), (3, .int v), (4, .int (nI 0))]) (ws' := wMo cI cC y (rowOf (tDays 0 T)) (kr, (rowOf T), ik, F, f, n, tk, bg, en, vl, s1, s2, s3, cr)) (by first | rfl | (simp only [itr])) rfl (by rfl) ?_
  refine aw_loop (LV := fun i => [(0, .ref (y 0)), (1, .int (4 : Int32)), (2, .int (nI u)), (3, .int v), (4, .int (nI i))]) (WS := fun i => wMo cI cC y (rowOf (tDays i T)) (kr, (rowOf T), ik, F, f, n, tk, bg, en, vl, s1, s2, s3, cr)) 201 (Inv := fun i => ∀ k9, k9 < i → (!decide ((tDays k9 T).2.2.1 6 u < v)) = false) (fun k9 hk9 => absurd hk9 (Nat.not_lt_zero k9)) ?_ ?_
  · intro hv7
    refine aw_iload C dX5_firstBy_7 rfl ?_
    refine aw_sipush C (200 : Int32) dX5_firstBy_9 (by decide) ?_
    refine aw_icmp_gt C 35 dX5_firstBy_12 (by decide) (fun c_12 => ?_) (fun c_12 => absurd c_12 (fun z => z (by decide)))
    refine aw_aload_n C dX5_firstBy_35 rfl ?_
    refine aw_callVdv C (As := []) (c_X5_laysBack l D cI cC adK adV y (tDays 201 T) (kr, (rowOf T), ik, F, f, n, tk, bg, en, vl, s1, s2, s3, cr) ) k4_227 cv_X5_laysBack 0 4 rfl rfl rfl [0, 1, 2, 3, 4, 5, 6, 7, 8, 9, 10, 11, 12] (by decide) rfl (wr := ([] : va_W)) [] rfl (by decide) (by decide) [0, 1, 2, 3, 4, 5, 6, 7, 8, 9, 10, 11, 12] (by decide) (ws' := wMo cI cC y (rowOf T) (kr, (rowOf T), ik, F, f, n, tk, bg, en, vl, s1, s2, s3, cr)) rfl ⟨by decide, by decide⟩ rfl rfl ⟨by decide, by decide⟩ rfl rfl (Nat.le_of_ble_eq_true rfl) dX5_firstBy_36 ?_
    refine aw_pc 39 rfl ?_
    refine aw_iload C dX5_firstBy_39 rfl ?_
    refine aw_sipush C (200 : Int32) dX5_firstBy_41 (by decide) ?_
    refine aw_icmp_le C 55 dX5_firstBy_44 (by decide) (fun c_44 => ?_) (fun c_44 => ?_)
    · skip
      refine aw_iload C dX5_firstBy_55 rfl ?_
      have hm : mFirst (T, K, ik, F, f, n, s1, s2, s3) (fun k9 => (!decide ((tDays k9 T).2.2.1 6 u < v))) = ((nI 201), (T, K, ik, F, f, n, s1, s2, s3)) := by first | exact mFirst_no hv7 | exact mFirst_at hv7 c_22 hi7 | exact absurd c_44 (by decide) | exact absurd (nI_le (by omega) (by decide) : nI i ≤ nI 200) c_44
      exact aw_iret C hr hlk dX5_firstBy_57 ⟨ri (by rw [hm]), kr, (rowOf T), tk, bg, en, vl, cr, by first | (rw [hm]; done) | (rw [hm]; rfl), by rw [hm]; exact hk⟩
    · skip
      refine aw_aload_n C dX5_firstBy_47 rfl ?_
      refine aw_iconst C (3 : Int32) dX5_firstBy_48 (by decide) ?_
      refine aw_callVd C (As := [.int (3 : Int32)]) (c_X5_no l D cI cC adK adV y T (kr, (rowOf T), ik, F, f, n, tk, bg, en, vl, s1, s2, s3, cr) 3 (by decide)) k4_60 cv_X5_no 0 4 rfl rfl rfl [0, 1, 2, 3, 4, 5, 6, 7, 8, 9, 10, 11, 12] (by decide) rfl (wr := ([] : va_W)) [] rfl (by decide) (by decide) [0, 1, 2, 3, 4, 5, 6, 7, 8, 9, 10, 11, 12] (by decide) (ws' := wMo cI cC y (rowOf T) (kr, (rowOf T), ik, (upd F 3 (F 3 + 1)), f, n, tk, bg, en, vl, s1, s2, s3, cr)) rfl ⟨by decide, by decide⟩ rfl rfl ⟨by decide, by decide⟩ rfl rfl (Nat.le_of_ble_eq_true rfl) dX5_firstBy_49 ?_
      refine aw_goto C 57 dX5_firstBy_52 (by decide) ?_
      have hm : mFirst (T, K, ik, F, f, n, s1, s2, s3) (fun k9 => (!decide ((tDays k9 T).2.2.1 6 u < v))) = ((fno 3), (T, K, ik, (upd F 3 (F 3 + 1)), f, n, s1, s2, s3)) := by first | exact mFirst_no hv7 | exact mFirst_at hv7 c_22 hi7 | exact absurd c_44 (by decide) | exact absurd (nI_le (by omega) (by decide) : nI i ≤ nI 200) c_44
      exact aw_iret C hr hlk dX5_firstBy_57 ⟨ri (by rw [hm]), kr, (rowOf T), tk, bg, en, vl, cr, by first | (rw [hm]; done) | (rw [hm]; rfl), by rw [hm]; exact hk⟩
  · intro i hi7 hv7 ih7
    refine aw_pc 7 rfl ?_
    refine aw_iload C dX5_firstBy_7 rfl ?_
    refine aw_sipush C (200 : Int32) dX5_firstBy_9 (by decide) ?_
    refine aw_icmp_gt C 35 dX5_firstBy_12 (by decide) (fun c_12 => absurd c_12 (nI_nlt (a := 200) (by omega) (by decide))) (fun c_12 => ?_)
    refine aw_aload_n C dX5_firstBy_15 rfl ?_
    refine aw_iload_n C dX5_firstBy_16 rfl ?_
    refine aw_iload_n C dX5_firstBy_17 rfl ?_
    refine aw_iload_n C dX5_firstBy_18 rfl ?_
    refine aw_callVp C (As := [.int (4 : Int32), .int (nI u), .int v]) (c_X5_isSo_4 l D cI cC adK adV y (tDays i T) (kr, (rowOf T), ik, F, f, n, tk, bg, en, vl, s1, s2, s3, cr) u v (days_ok ho i) (by omega)) k5_3 cv_X5_isSo_4 0 4 rfl rfl rfl [0, 1, 2, 3, 4, 5, 6, 7, 8, 9, 10, 11, 12] (by decide) rfl ⟨by decide, by decide⟩ rfl rfl ⟨by decide, by decide⟩ rfl rfl (Nat.le_of_ble_eq_true rfl) dX5_firstBy_19 ?_
    refine aw_ifne_b C 35 dX5_firstBy_22 (by decide) (fun c_22 => ?_) (fun c_22 => ?_)
    · skip
      refine aw_aload_n C dX5_firstBy_35 rfl ?_
      refine aw_pc 36 rfl ?_
      refine aw_callVdv C (As := []) (c_X5_laysBack l D cI cC adK adV y (tDays i T) (kr, (rowOf T), ik, F, f, n, tk, bg, en, vl, s1, s2, s3, cr) ) k4_227 cv_X5_laysBack 0 4 rfl rfl rfl [0, 1, 2, 3, 4, 5, 6, 7, 8, 9, 10, 11, 12] (by decide) rfl (wr := ([] : va_W)) [] rfl (by decide) (by decide) [0, 1, 2, 3, 4, 5, 6, 7, 8, 9, 10, 11, 12] (by decide) (ws' := wMo cI cC y (rowOf T) (kr, (rowOf T), ik, F, f, n, tk, bg, en, vl, s1, s2, s3, cr)) rfl ⟨by decide, by decide⟩ rfl rfl ⟨by decide, by decide⟩ rfl rfl (Nat.le_of_ble_eq_true rfl) dX5_firstBy_36 ?_
      refine aw_iload C dX5_firstBy_39 rfl ?_
      refine aw_sipush C (200 : Int32) dX5_firstBy_41 (by decide) ?_
      refine aw_icmp_le C 55 dX5_firstBy_44 (by decide) (fun c_44 => ?_) (fun c_44 => ?_)
      · skip
        refine aw_iload C dX5_firstBy_55 rfl ?_
        have hm : mFirst (T, K, ik, F, f, n, s1, s2, s3) (fun k9 => (!decide ((tDays k9 T).2.2.1 6 u < v))) = ((nI i), (T, K, ik, F, f, n, s1, s2, s3)) := by first | exact mFirst_no hv7 | exact mFirst_at hv7 c_22 hi7 | exact absurd c_44 (by decide) | exact absurd (nI_le (by omega) (by decide) : nI i ≤ nI 200) c_44
        exact aw_iret C hr hlk dX5_firstBy_57 ⟨ri (by rw [hm]), kr, (rowOf T), tk, bg, en, vl, cr, by first | (rw [hm]; done) | (rw [hm]; rfl), by rw [hm]; exact hk⟩
      · skip
        refine aw_aload_n C dX5_firstBy_47 rfl ?_
        refine aw_iconst C (3 : Int32) dX5_firstBy_48 (by decide) ?_
        refine aw_callVd C (As := [.int (3 : Int32)]) (c_X5_no l D cI cC adK adV y T (kr, (rowOf T), ik, F, f, n, tk, bg, en, vl, s1, s2, s3, cr) 3 (by decide)) k4_60 cv_X5_no 0 4 rfl rfl rfl [0, 1, 2, 3, 4, 5, 6, 7, 8, 9, 10, 11, 12] (by decide) rfl (wr := ([] : va_W)) [] rfl (by decide) (by decide) [0, 1, 2, 3, 4, 5, 6, 7, 8, 9, 10, 11, 12] (by decide) (ws' := wMo cI cC y (rowOf T) (kr, (rowOf T), ik, (upd F 3 (F 3 + 1)), f, n, tk, bg, en, vl, s1, s2, s3, cr)) rfl ⟨by decide, by decide⟩ rfl rfl ⟨by decide, by decide⟩ rfl rfl (Nat.le_of_ble_eq_true rfl) dX5_firstBy_49 ?_
        refine aw_goto C 57 dX5_firstBy_52 (by decide) ?_
        refine aw_pc 57 rfl ?_
        have hm : mFirst (T, K, ik, F, f, n, s1, s2, s3) (fun k9 => (!decide ((tDays k9 T).2.2.1 6 u < v))) = ((fno 3), (T, K, ik, (upd F 3 (F 3 + 1)), f, n, s1, s2, s3)) := by first | exact mFirst_no hv7 | exact mFirst_at hv7 c_22 hi7 | exact absurd c_44 (by decide) | exact absurd (nI_le (by omega) (by decide) : nI i ≤ nI 200) c_44
        exact aw_iret C hr hlk dX5_firstBy_57 ⟨ri (by rw [hm]), kr, (rowOf T), tk, bg, en, vl, cr, by first | (rw [hm]; done) | (rw [hm]; rfl), by rw [hm]; exact hk⟩
    · skip
      refine aw_aload_n C dX5_firstBy_25 rfl ?_
      refine aw_callVdv C (As := []) (c_X5_day l D cI cC adK adV y (tDays i T) (kr, (rowOf T), ik, F, f, n, tk, bg, en, vl, s1, s2, s3, cr)  (days_ok ho i)) k4_171 cv_X5_day 0 4 rfl rfl rfl [0, 1, 2, 3, 4, 5, 6, 7, 8, 9, 10, 11, 12] (by decide) rfl (wr := ([] : va_W)) [] rfl (by decide) (by decide) [0, 1, 2, 3, 4, 5, 6, 7, 8, 9, 10, 11, 12] (by decide) (ws' := wMo cI cC y (rowOf (tDay (tDays i T))) (kr, (rowOf T), ik, F, f, n, tk, bg, en, vl, s1, s2, s3, cr)) rfl ⟨by decide, by decide⟩ rfl rfl ⟨by decide, by decide⟩ rfl rfl (Nat.le_of_ble_eq_true rfl) dX5_firstBy_26 ?_
      refine aw_iinc C (nI (i + 1)) dX5_firstBy_29 rfl (inc_nI _ 1) (by decide) rfl (lv' := [(0, .ref (y 0)), (1, .int (4 : Int32)), (2, .int (nI u)), (3, .int v), (4, .int (nI (i + 1)))]) rfl ?_
      refine aw_goto C 7 dX5_firstBy_32 (by decide) ?_
      exact aw_eq (by first | rfl | (simp only [itr, c_22])) rfl (by first | rfl | (simp only [itr, c_22] <;> first | done | rfl)) (ih7 (all_s hv7 c_22))
