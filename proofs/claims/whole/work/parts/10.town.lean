/-! Town: sets, pairs, a day -/
abbrev r_X3_isMutual : Room := { frames := 1, cells := 0, slots := 0, locals := 21 }
theorem cs_X3_isMutual : cS yX3_isMutual cX3_isMutual 3 (some .boolean) 3 := ⟨k2_25, k2_26, k1_2, by decide, by decide, by decide +kernel⟩
set_option maxHeartbeats 4000000 in
set_option maxRecDepth 100000 in
theorem c_X3_isMutual (l : Launch) (D : va_G) (cI cC : ClassId) (adK adV : Nat → Nat) (h : Nat) (f : Nat → Int32) (u : Nat) (v : Nat) (hu : u < 8) (hv : v < 8) : FC l yX3_isMutual (wW yX3_isMutual cX3_isMutual 3 (some .boolean)) r_X3_isMutual D (tyC cI cC) adK adV ([(h, .inl (cI, 8, .inl f))]) [.ref h, .int (nI u), .int (nI v)] 0 0 (fQ (some (.int (b2 (hol (f u) (nI v) && hol (f v) (nI u))))) ([(h, .inl (cI, 8, .inl f))])) := by
  refine FC.of (own := RX3) (by decide) rfl (Nat.le_of_ble_eq_true rfl) ?_
  intro p9 e9 s9 m9 args9 below9 meth9 c9 A9 C hr hlk hmn
  show AW p9 l e9 r_X3_isMutual s9 m9 args9 below9 meth9 c9 D A9 3 0 0 _ 0 [(0, .ref h), (1, .int (nI u)), (2, .int (nI v))] [] _
  refine aw_aload_n C dX3_isMutual_0 rfl ?_
  refine aw_iload_n C dX3_isMutual_1 rfl ?_
  refine aw_ialdN C 0 0 u rfl rfl rfl (by omega) (by decide) dX3_isMutual_2 ?_
  refine aw_iload_n C dX3_isMutual_3 rfl ?_
  refine aw_callSp C (As := [.int (f u), .int (nI v)]) (c_X3_holds l D cI cC adK adV (f u) (nI v)) k2_27 cs_X3_holds [] (by decide) rfl ⟨by decide, by decide⟩ rfl rfl ⟨by decide, by decide⟩ rfl rfl (Nat.le_of_ble_eq_true rfl) dX3_isMutual_4 ?_
  refine aw_ifeq_b C 24 dX3_isMutual_7 (by decide) (fun c_7 => ?_) (fun c_7 => ?_)
  · skip
    refine aw_iconst C (0 : Int32) dX3_isMutual_24 (by decide) ?_
    exact aw_bret C (b := false) hr hlk dX3_isMutual_25 rfl ⟨rb (by simp [*]), by rfl⟩
  · skip
    refine aw_aload_n C dX3_isMutual_10 rfl ?_
    refine aw_pc 11 rfl ?_
    refine aw_iload_n C dX3_isMutual_11 rfl ?_
    refine aw_ialdN C 0 0 v rfl rfl rfl (by omega) (by decide) dX3_isMutual_12 ?_
    refine aw_iload_n C dX3_isMutual_13 rfl ?_
    refine aw_callSp C (As := [.int (f v), .int (nI u)]) (c_X3_holds l D cI cC adK adV (f v) (nI u)) k2_27 cs_X3_holds [] (by decide) rfl ⟨by decide, by decide⟩ rfl rfl ⟨by decide, by decide⟩ rfl rfl (Nat.le_of_ble_eq_true rfl) dX3_isMutual_14 ?_
    refine aw_ifeq_b C 24 dX3_isMutual_17 (by decide) (fun c_17 => ?_) (fun c_17 => ?_)
    · skip
      refine aw_iconst C (0 : Int32) dX3_isMutual_24 (by decide) ?_
      exact aw_bret C (b := false) hr hlk dX3_isMutual_25 rfl ⟨rb (by simp [*]), by rfl⟩
    · skip
      refine aw_iconst C (1 : Int32) dX3_isMutual_20 (by decide) ?_
      refine aw_goto C 25 dX3_isMutual_21 (by decide) ?_
      exact aw_bret C (b := true) hr hlk dX3_isMutual_25 rfl ⟨rb (by simp [*]), by rfl⟩
abbrev r_X3_bothMet : Room := { frames := 2, cells := 0, slots := 0, locals := 43 }
theorem cv_X3_bothMet : cV yX3_bothMet cX3_bothMet 3 (some .boolean) 2 := ⟨k2_21, k2_22, k2_23, k1_2, by decide, by decide, by decide +kernel⟩
set_option maxHeartbeats 4000000 in
set_option maxRecDepth 100000 in
theorem c_X3_bothMet (l : Launch) (D : va_G) (cI cC : ClassId) (adK adV : Nat → Nat) (h : Nat) (a : Nat → Nat) (T : Tw) (u : Nat) (v : Nat) (hu : u < 8) (hv : v < 8) : FC l yX3_bothMet (wW yX3_bothMet cX3_bothMet 3 (some .boolean)) r_X3_bothMet D (tyC cI cC) adK adV (wTo cI h a T) [.ref h, .int (nI u), .int (nI v)] 0 0 (fQ (some (.int (b2 (tMut T 3 u v)))) (wTo cI h a T)) := by
  refine FC.of (own := RX3) (by decide) rfl (Nat.le_of_ble_eq_true rfl) ?_
  intro p9 e9 s9 m9 args9 below9 meth9 c9 A9 C hr hlk hmn
  show AW p9 l e9 r_X3_bothMet s9 m9 args9 below9 meth9 c9 D A9 3 0 0 _ 0 [(0, .ref h), (1, .int (nI u)), (2, .int (nI v))] [] _
  refine aw_aload_n C dX3_bothMet_0 rfl ?_
  refine aw_getf C 0 2 8 12 inX3 rfl (by decide) rfl k1_46 rfl rfl dX3_bothMet_1 ?_
  refine aw_iload_n C dX3_bothMet_4 rfl ?_
  refine aw_iload_n C dX3_bothMet_5 rfl ?_
  refine aw_callSp C (As := [.ref (a 4), .int (nI u), .int (nI v)]) (c_X3_isMutual l D cI cC adK adV (a 4) (T.2.2.1 3) u v (by omega) (by omega)) k2_24 cs_X3_isMutual [5] (by decide) rfl ⟨by decide, by decide⟩ rfl rfl ⟨by decide, by decide⟩ rfl rfl (Nat.le_of_ble_eq_true rfl) dX3_bothMet_6 ?_
  exact aw_bret C (b := (hol ((T.2.2.1 3) u) (nI v) && hol ((T.2.2.1 3) v) (nI u))) hr hlk dX3_bothMet_9 rfl ⟨rb (by first | rfl | (simp only [])), by rfl⟩
abbrev r_X3_bothKnow : Room := { frames := 2, cells := 0, slots := 0, locals := 43 }
theorem cv_X3_bothKnow : cV yX3_bothKnow cX3_bothKnow 3 (some .boolean) 2 := ⟨k2_31, k2_32, k2_33, k1_2, by decide, by decide, by decide +kernel⟩
set_option maxHeartbeats 4000000 in
set_option maxRecDepth 100000 in
theorem c_X3_bothKnow (l : Launch) (D : va_G) (cI cC : ClassId) (adK adV : Nat → Nat) (h : Nat) (a : Nat → Nat) (T : Tw) (u : Nat) (v : Nat) (hu : u < 8) (hv : v < 8) : FC l yX3_bothKnow (wW yX3_bothKnow cX3_bothKnow 3 (some .boolean)) r_X3_bothKnow D (tyC cI cC) adK adV (wTo cI h a T) [.ref h, .int (nI u), .int (nI v)] 0 0 (fQ (some (.int (b2 (tMut T 4 u v)))) (wTo cI h a T)) := by
  refine FC.of (own := RX3) (by decide) rfl (Nat.le_of_ble_eq_true rfl) ?_
  intro p9 e9 s9 m9 args9 below9 meth9 c9 A9 C hr hlk hmn
  show AW p9 l e9 r_X3_bothKnow s9 m9 args9 below9 meth9 c9 D A9 3 0 0 _ 0 [(0, .ref h), (1, .int (nI u)), (2, .int (nI v))] [] _
  refine aw_aload_n C dX3_bothKnow_0 rfl ?_
  refine aw_getf C 0 2 9 12 inX3 rfl (by decide) rfl k1_47 rfl rfl dX3_bothKnow_1 ?_
  refine aw_iload_n C dX3_bothKnow_4 rfl ?_
  refine aw_iload_n C dX3_bothKnow_5 rfl ?_
  refine aw_callSp C (As := [.ref (a 5), .int (nI u), .int (nI v)]) (c_X3_isMutual l D cI cC adK adV (a 5) (T.2.2.1 4) u v (by omega) (by omega)) k2_24 cs_X3_isMutual [6] (by decide) rfl ⟨by decide, by decide⟩ rfl rfl ⟨by decide, by decide⟩ rfl rfl (Nat.le_of_ble_eq_true rfl) dX3_bothKnow_6 ?_
  exact aw_bret C (b := (hol ((T.2.2.1 4) u) (nI v) && hol ((T.2.2.1 4) v) (nI u))) hr hlk dX3_bothKnow_9 rfl ⟨rb (by first | rfl | (simp only [])), by rfl⟩
abbrev r_X3_wouldSee : Room := { frames := 2, cells := 0, slots := 0, locals := 36 }
theorem cv_X3_wouldSee : cV yX3_wouldSee cX3_wouldSee 3 (some .boolean) 2 := ⟨k2_35, k2_36, k2_37, k1_2, by decide, by decide, by decide +kernel⟩
set_option maxHeartbeats 4000000 in
set_option maxRecDepth 100000 in
theorem c_X3_wouldSee (l : Launch) (D : va_G) (cI cC : ClassId) (adK adV : Nat → Nat) (h : Nat) (a : Nat → Nat) (T : Tw) (u : Nat) (v : Nat) (hu : u < 8) (hv : v < 8) : FC l yX3_wouldSee (wW yX3_wouldSee cX3_wouldSee 3 (some .boolean)) r_X3_wouldSee D (tyC cI cC) adK adV (wTo cI h a T) [.ref h, .int (nI u), .int (nI v)] 0 0 (fQ (some (.int (b2 (tSee T u v)))) (wTo cI h a T)) := by
  refine FC.of (own := RX3) (by decide) rfl (Nat.le_of_ble_eq_true rfl) ?_
  intro p9 e9 s9 m9 args9 below9 meth9 c9 A9 C hr hlk hmn
  show AW p9 l e9 r_X3_wouldSee s9 m9 args9 below9 meth9 c9 D A9 3 0 0 _ 0 [(0, .ref h), (1, .int (nI u)), (2, .int (nI v))] [] _
  refine aw_aload_n C dX3_wouldSee_0 rfl ?_
  refine aw_getf C 0 2 10 12 inX3 rfl (by decide) rfl k1_48 rfl rfl dX3_wouldSee_1 ?_
  refine aw_iload_n C dX3_wouldSee_4 rfl ?_
  refine aw_ialdN C 7 0 u rfl rfl rfl (by omega) (by decide) dX3_wouldSee_5 ?_
  refine aw_if_ne C 52 dX3_wouldSee_6 (by decide) (fun c_6 => ?_) (fun c_6 => ?_)
  · skip
    refine aw_iconst C (0 : Int32) dX3_wouldSee_52 (by decide) ?_
    exact aw_bret C (b := false) hr hlk dX3_wouldSee_53 rfl ⟨rb (by simp [tSee, *]), by rfl⟩
  · skip
    refine aw_aload_n C dX3_wouldSee_9 rfl ?_
    refine aw_getf C 0 2 10 12 inX3 rfl (by decide) rfl k1_48 rfl rfl dX3_wouldSee_10 ?_
    refine aw_pc 13 rfl ?_
    refine aw_iload_n C dX3_wouldSee_13 rfl ?_
    refine aw_ialdN C 7 0 v rfl rfl rfl (by omega) (by decide) dX3_wouldSee_14 ?_
    refine aw_if_ne C 52 dX3_wouldSee_15 (by decide) (fun c_15 => ?_) (fun c_15 => ?_)
    · skip
      refine aw_iconst C (0 : Int32) dX3_wouldSee_52 (by decide) ?_
      exact aw_bret C (b := false) hr hlk dX3_wouldSee_53 rfl ⟨rb (by simp [tSee, *]), by rfl⟩
    · skip
      refine aw_aload_n C dX3_wouldSee_18 rfl ?_
      refine aw_iload_n C dX3_wouldSee_19 rfl ?_
      refine aw_iload_n C dX3_wouldSee_20 rfl ?_
      refine aw_callVp C (As := [.int (nI u), .int (nI v)]) (c_X3_distance l D cI cC adK adV h a T u v (by omega) (by omega)) k2_38 cv_X3_distance 0 2 rfl rfl rfl [0, 1, 2, 3, 4, 5, 6, 7, 8] (by decide) rfl ⟨by decide, by decide⟩ rfl rfl ⟨by decide, by decide⟩ rfl rfl (Nat.le_of_ble_eq_true rfl) dX3_wouldSee_21 ?_
      refine aw_aload_n C dX3_wouldSee_24 rfl ?_
      refine aw_pc 25 rfl ?_
      refine aw_getf C 0 2 5 12 inX3 rfl (by decide) rfl k1_43 rfl rfl dX3_wouldSee_25 ?_
      refine aw_iload_n C dX3_wouldSee_28 rfl ?_
      refine aw_ialdN C 2 0 u rfl rfl rfl (by omega) (by decide) dX3_wouldSee_29 ?_
      refine aw_callSp C (As := [.int (T.2.2.1 0 u)]) (c_X0_shine l D cI cC adK adV (T.2.2.1 0 u)) k1_186 cs_X0_shine [] (by decide) rfl ⟨by decide, by decide⟩ rfl rfl ⟨by decide, by decide⟩ rfl rfl (Nat.le_of_ble_eq_true rfl) dX3_wouldSee_30 ?_
      refine aw_aload_n C dX3_wouldSee_33 rfl ?_
      refine aw_getf C 0 2 5 12 inX3 rfl (by decide) rfl k1_43 rfl rfl dX3_wouldSee_34 ?_
      refine aw_iload_n C dX3_wouldSee_37 rfl ?_
      refine aw_ialdN C 2 0 v rfl rfl rfl (by omega) (by decide) dX3_wouldSee_38 ?_
      refine aw_callSp C (As := [.int (T.2.2.1 0 v)]) (c_X0_shine l D cI cC adK adV (T.2.2.1 0 v)) k1_186 cs_X0_shine [] (by decide) rfl ⟨by decide, by decide⟩ rfl rfl ⟨by decide, by decide⟩ rfl rfl (Nat.le_of_ble_eq_true rfl) dX3_wouldSee_39 ?_
      refine aw_mmin C k2_5 (by decide) (Nat.le_of_ble_eq_true rfl) (by decide) (by decide) dX3_wouldSee_42 ?_
      refine aw_pc 45 rfl ?_
      refine aw_icmp_gt C 52 dX3_wouldSee_45 (by decide) (fun c_45 => ?_) (fun c_45 => ?_)
      · skip
        refine aw_iconst C (0 : Int32) dX3_wouldSee_52 (by decide) ?_
        exact aw_bret C (b := false) hr hlk dX3_wouldSee_53 rfl ⟨rb (by simp [tSee, *]), by rfl⟩
      · skip
        refine aw_iconst C (1 : Int32) dX3_wouldSee_48 (by decide) ?_
        refine aw_goto C 53 dX3_wouldSee_49 (by decide) ?_
        exact aw_bret C (b := true) hr hlk dX3_wouldSee_53 rfl ⟨rb (by simp [tSee, *]), by rfl⟩
abbrev r_X3_peopleAt : Room := { frames := 0, cells := 0, slots := 0, locals := 0 }
theorem cv_X3_peopleAt : cV yX3_peopleAt cX3_peopleAt 4 (some .int) 1 := ⟨k2_13, k2_14, k2_15, k1_2, by decide, by decide, by decide +kernel⟩
set_option maxHeartbeats 4000000 in
set_option maxRecDepth 100000 in
theorem c_X3_peopleAt (l : Launch) (D : va_G) (cI cC : ClassId) (adK adV : Nat → Nat) (h : Nat) (a : Nat → Nat) (T : Tw) (c : Int32) (hn : T.1 ≤ 8) : FC l yX3_peopleAt (wW yX3_peopleAt cX3_peopleAt 4 (some .int)) r_X3_peopleAt D (tyC cI cC) adK adV (wTo cI h a T) [.ref h, .int c] 0 0 (fQ (some (.int (mWho T c))) (wTo cI h a T)) := by
  refine FC.of (own := RX3) (by decide) rfl (Nat.le_of_ble_eq_true rfl) ?_
  intro p9 e9 s9 m9 args9 below9 meth9 c9 A9 C hr hlk hmn
  show AW p9 l e9 r_X3_peopleAt s9 m9 args9 below9 meth9 c9 D A9 4 0 0 _ 0 [(0, .ref h), (1, .int c)] [] _
  refine aw_iconst C (0 : Int32) dX3_peopleAt_0 (by decide) ?_
  refine aw_istore_n C true (lv' := [(0, .ref h), (1, .int c), (2, .int (0 : Int32))]) dX3_peopleAt_1 (by decide) rfl rfl ?_
  refine aw_iconst C (0 : Int32) dX3_peopleAt_2 (by decide) ?_
  refine aw_istore_n C true (lv' := [(0, .ref h), (1, .int c), (2, .int (0 : Int32)), (3, .int (0 : Int32))]) dX3_peopleAt_3 (by decide) rfl rfl ?_
  refine aw_eq (lv' := [(0, .ref h), (1, .int c), (2, .int (setBy (fun p => decide (T.2.2.1 1 p = c)) 0)), (3, .int (nI 0))]) (ws' := wTo cI h a T) (by first | rfl | (simp only [itr])) rfl (by rfl) ?_
  refine aw_loop (LV := fun i => [(0, .ref h), (1, .int c), (2, .int (setBy (fun p => decide (T.2.2.1 1 p = c)) i)), (3, .int (nI i))]) (WS := fun i => wTo cI h a T) T.1 (Inv := fun _ => True) trivial ?_ ?_
  · intro hv4
    refine aw_iload_n C dX3_peopleAt_4 rfl ?_
    refine aw_aload_n C dX3_peopleAt_5 rfl ?_
    refine aw_getf C 0 2 0 12 inX3 rfl (by decide) rfl k1_32 rfl rfl dX3_peopleAt_6 ?_
    refine aw_icmp_ge C 34 dX3_peopleAt_9 (by decide) (fun c_9 => ?_) (fun c_9 => absurd c_9 (fun z => z (Int32.le_refl _)))
    refine aw_iload_n C dX3_peopleAt_34 rfl ?_
    refine aw_pc 35 rfl ?_
    exact aw_iret C hr hlk dX3_peopleAt_35 ⟨ri (by first | rfl | (simp only [])), by rfl⟩
  · intro i hi4 hv4 ih4
    refine aw_iload_n C dX3_peopleAt_4 rfl ?_
    refine aw_aload_n C dX3_peopleAt_5 rfl ?_
    refine aw_getf C 0 2 0 12 inX3 rfl (by decide) rfl k1_32 rfl rfl dX3_peopleAt_6 ?_
    refine aw_icmp_ge C 34 dX3_peopleAt_9 (by decide) (fun c_9 => absurd c_9 (nI_ge hi4 (by omega))) (fun c_9 => ?_)
    refine aw_aload_n C dX3_peopleAt_12 rfl ?_
    refine aw_getf C 0 2 6 12 inX3 rfl (by decide) rfl k1_44 rfl rfl dX3_peopleAt_13 ?_
    refine aw_iload_n C dX3_peopleAt_16 rfl ?_
    refine aw_ialdN C 3 0 i rfl rfl rfl (by omega) (by decide) dX3_peopleAt_17 ?_
    refine aw_iload_n C dX3_peopleAt_18 rfl ?_
    refine aw_pc 19 rfl ?_
    refine aw_icmp_ne C 28 dX3_peopleAt_19 (by decide) (fun c_19 => ?_) (fun c_19 => ?_)
    · skip
      refine aw_iinc C (nI (i + 1)) dX3_peopleAt_28 rfl (inc_nI _ 1) (by decide) rfl (lv' := [(0, .ref h), (1, .int c), (2, .int (setBy (fun p => decide (T.2.2.1 1 p = c)) i)), (3, .int (nI (i + 1)))]) rfl ?_
      refine aw_goto C 4 dX3_peopleAt_31 (by decide) ?_
      exact aw_eq (by simp [setBy, itr, bitOf, *]) rfl (by first | rfl | (simp only [itr, c_19] <;> first | done | rfl)) (ih4 trivial)
    · skip
      refine aw_iload_n C dX3_peopleAt_22 rfl ?_
      refine aw_iconst C (1 : Int32) dX3_peopleAt_23 (by decide) ?_
      refine aw_iload_n C dX3_peopleAt_24 rfl ?_
      refine aw_ishl C dX3_peopleAt_25 ?_
      refine aw_ior C dX3_peopleAt_26 ?_
      refine aw_istore_n C false (lv' := [(0, .ref h), (1, .int c), (2, .int ((setBy (fun p => decide (T.2.2.1 1 p = c)) i) ||| ((1 : Int32) <<< ((nI i) &&& 31)))), (3, .int (nI i))]) dX3_peopleAt_27 (by decide) rfl rfl ?_
      refine aw_iinc C (nI (i + 1)) dX3_peopleAt_28 rfl (inc_nI _ 1) (by decide) rfl (lv' := [(0, .ref h), (1, .int c), (2, .int ((setBy (fun p => decide (T.2.2.1 1 p = c)) i) ||| ((1 : Int32) <<< ((nI i) &&& 31)))), (3, .int (nI (i + 1)))]) rfl ?_
      refine aw_pc 31 rfl ?_
      refine aw_goto C 4 dX3_peopleAt_31 (by decide) ?_
      exact aw_eq (by simp [setBy, itr, bitOf, *]) rfl (by first | rfl | (simp only [itr, c_19] <;> first | done | rfl)) (ih4 trivial)
abbrev r_X3_knowers : Room := { frames := 0, cells := 0, slots := 0, locals := 0 }
theorem cv_X3_knowers : cV yX3_knowers cX3_knowers 3 (some .int) 0 := ⟨k2_85, k2_86, k2_87, k1_2, by decide, by decide, by decide +kernel⟩
set_option maxHeartbeats 4000000 in
set_option maxRecDepth 100000 in
theorem c_X3_knowers (l : Launch) (D : va_G) (cI cC : ClassId) (adK adV : Nat → Nat) (h : Nat) (a : Nat → Nat) (T : Tw) (hn : T.1 ≤ 8) : FC l yX3_knowers (wW yX3_knowers cX3_knowers 3 (some .int)) r_X3_knowers D (tyC cI cC) adK adV (wTo cI h a T) [.ref h] 0 0 (fQ (some (.int (mKnowers T))) (wTo cI h a T)) := by
  refine FC.of (own := RX3) (by decide) rfl (Nat.le_of_ble_eq_true rfl) ?_
  intro p9 e9 s9 m9 args9 below9 meth9 c9 A9 C hr hlk hmn
  show AW p9 l e9 r_X3_knowers s9 m9 args9 below9 meth9 c9 D A9 3 0 0 _ 0 [(0, .ref h)] [] _
  refine aw_iconst C (0 : Int32) dX3_knowers_0 (by decide) ?_
  refine aw_istore_n C true (lv' := [(0, .ref h), (1, .int (0 : Int32))]) dX3_knowers_1 (by decide) rfl rfl ?_
  refine aw_iconst C (0 : Int32) dX3_knowers_2 (by decide) ?_
  refine aw_istore_n C true (lv' := [(0, .ref h), (1, .int (0 : Int32)), (2, .int (0 : Int32))]) dX3_knowers_3 (by decide) rfl rfl ?_
  refine aw_eq (lv' := [(0, .ref h), (1, .int (setBy (fun p => !decide (T.2.2.1 4 p = 0)) 0)), (2, .int (nI 0))]) (ws' := wTo cI h a T) (by first | rfl | (simp only [itr])) rfl (by rfl) ?_
  refine aw_loop (LV := fun i => [(0, .ref h), (1, .int (setBy (fun p => !decide (T.2.2.1 4 p = 0)) i)), (2, .int (nI i))]) (WS := fun i => wTo cI h a T) T.1 (Inv := fun _ => True) trivial ?_ ?_
  · intro hv4
    refine aw_iload_n C dX3_knowers_4 rfl ?_
    refine aw_aload_n C dX3_knowers_5 rfl ?_
    refine aw_getf C 0 2 0 12 inX3 rfl (by decide) rfl k1_32 rfl rfl dX3_knowers_6 ?_
    refine aw_icmp_ge C 33 dX3_knowers_9 (by decide) (fun c_9 => ?_) (fun c_9 => absurd c_9 (fun z => z (Int32.le_refl _)))
    refine aw_iload_n C dX3_knowers_33 rfl ?_
    refine aw_pc 34 rfl ?_
    exact aw_iret C hr hlk dX3_knowers_34 ⟨ri (by first | rfl | (simp only [])), by rfl⟩
  · intro i hi4 hv4 ih4
    refine aw_iload_n C dX3_knowers_4 rfl ?_
    refine aw_aload_n C dX3_knowers_5 rfl ?_
    refine aw_getf C 0 2 0 12 inX3 rfl (by decide) rfl k1_32 rfl rfl dX3_knowers_6 ?_
    refine aw_icmp_ge C 33 dX3_knowers_9 (by decide) (fun c_9 => absurd c_9 (nI_ge hi4 (by omega))) (fun c_9 => ?_)
    refine aw_aload_n C dX3_knowers_12 rfl ?_
    refine aw_getf C 0 2 9 12 inX3 rfl (by decide) rfl k1_47 rfl rfl dX3_knowers_13 ?_
    refine aw_iload_n C dX3_knowers_16 rfl ?_
    refine aw_ialdN C 6 0 i rfl rfl rfl (by omega) (by decide) dX3_knowers_17 ?_
    refine aw_if_eq C 27 dX3_knowers_18 (by decide) (fun c_18 => ?_) (fun c_18 => ?_)
    · skip
      refine aw_pc 27 rfl ?_
      refine aw_iinc C (nI (i + 1)) dX3_knowers_27 rfl (inc_nI _ 1) (by decide) rfl (lv' := [(0, .ref h), (1, .int (setBy (fun p => !decide (T.2.2.1 4 p = 0)) i)), (2, .int (nI (i + 1)))]) rfl ?_
      refine aw_goto C 4 dX3_knowers_30 (by decide) ?_
      exact aw_eq (by simp [setBy, itr, bitOf, *]) rfl (by first | rfl | (simp only [itr, c_18] <;> first | done | rfl)) (ih4 trivial)
    · skip
      refine aw_iload_n C dX3_knowers_21 rfl ?_
      refine aw_iconst C (1 : Int32) dX3_knowers_22 (by decide) ?_
      refine aw_iload_n C dX3_knowers_23 rfl ?_
      refine aw_ishl C dX3_knowers_24 ?_
      refine aw_ior C dX3_knowers_25 ?_
      refine aw_istore_n C false (lv' := [(0, .ref h), (1, .int ((setBy (fun p => !decide (T.2.2.1 4 p = 0)) i) ||| ((1 : Int32) <<< ((nI i) &&& 31)))), (2, .int (nI i))]) dX3_knowers_26 (by decide) rfl rfl ?_
      refine aw_iinc C (nI (i + 1)) dX3_knowers_27 rfl (inc_nI _ 1) (by decide) rfl (lv' := [(0, .ref h), (1, .int ((setBy (fun p => !decide (T.2.2.1 4 p = 0)) i) ||| ((1 : Int32) <<< ((nI i) &&& 31)))), (2, .int (nI (i + 1)))]) rfl ?_
      refine aw_goto C 4 dX3_knowers_30 (by decide) ?_
      exact aw_eq (by simp [setBy, itr, bitOf, *]) rfl (by first | rfl | (simp only [itr, c_18] <;> first | done | rfl)) (ih4 trivial)
abbrev r_X3_mindedGuises : Room := { frames := 2, cells := 0, slots := 0, locals := 47 }
theorem cv_X3_mindedGuises : cV yX3_mindedGuises cX3_mindedGuises 4 (some .int) 1 := ⟨k2_220, k2_221, k2_222, k1_2, by decide, by decide, by decide +kernel⟩
set_option maxHeartbeats 4000000 in
set_option maxRecDepth 100000 in
theorem c_X3_mindedGuises (l : Launch) (D : va_G) (cI cC : ClassId) (adK adV : Nat → Nat) (h : Nat) (a : Nat → Nat) (T : Tw) (q : Nat) (hq : q < 8) : FC l yX3_mindedGuises (wW yX3_mindedGuises cX3_mindedGuises 4 (some .int)) r_X3_mindedGuises D (tyC cI cC) adK adV (wTo cI h a T) [.ref h, .int (nI q)] 0 0 (fQ (some (.int (mMinded T q))) (wTo cI h a T)) := by
  refine FC.of (own := RX3) (by decide) rfl (Nat.le_of_ble_eq_true rfl) ?_
  intro p9 e9 s9 m9 args9 below9 meth9 c9 A9 C hr hlk hmn
  show AW p9 l e9 r_X3_mindedGuises s9 m9 args9 below9 meth9 c9 D A9 4 0 0 _ 0 [(0, .ref h), (1, .int (nI q))] [] _
  refine aw_iconst C (0 : Int32) dX3_mindedGuises_0 (by decide) ?_
  refine aw_istore_n C true (lv' := [(0, .ref h), (1, .int (nI q)), (2, .int (0 : Int32))]) dX3_mindedGuises_1 (by decide) rfl rfl ?_
  refine aw_iconst C (0 : Int32) dX3_mindedGuises_2 (by decide) ?_
  refine aw_istore_n C true (lv' := [(0, .ref h), (1, .int (nI q)), (2, .int (0 : Int32)), (3, .int (0 : Int32))]) dX3_mindedGuises_3 (by decide) rfl rfl ?_
  refine aw_eq (lv' := [(0, .ref h), (1, .int (nI q)), (2, .int (itr (fun g x => bif tMind T q (nI g) then x + 1 else x) 0 0)), (3, .int (nI 0))]) (ws' := wTo cI h a T) (by first | rfl | (simp only [itr])) rfl (by rfl) ?_
  refine aw_loop (LV := fun i => [(0, .ref h), (1, .int (nI q)), (2, .int (itr (fun g x => bif tMind T q (nI g) then x + 1 else x) i 0)), (3, .int (nI i))]) (WS := fun i => wTo cI h a T) 12 (Inv := fun _ => True) trivial ?_ ?_
  · intro hv4
    refine aw_iload_n C dX3_mindedGuises_4 rfl ?_
    refine aw_bipush C (12 : Int32) dX3_mindedGuises_5 (by decide) ?_
    refine aw_icmp_ge C 28 dX3_mindedGuises_7 (by decide) (fun c_7 => ?_) (fun c_7 => absurd c_7 (fun z => z (Int32.le_refl _)))
    refine aw_iload_n C dX3_mindedGuises_28 rfl ?_
    exact aw_iret C hr hlk dX3_mindedGuises_29 ⟨ri (by first | rfl | (simp only [])), by rfl⟩
  · intro i hi4 hv4 ih4
    refine aw_pc 4 rfl ?_
    refine aw_iload_n C dX3_mindedGuises_4 rfl ?_
    refine aw_bipush C (12 : Int32) dX3_mindedGuises_5 (by decide) ?_
    refine aw_icmp_ge C 28 dX3_mindedGuises_7 (by decide) (fun c_7 => absurd c_7 (nI_ge (b := 12) hi4 (by omega))) (fun c_7 => ?_)
    refine aw_aload_n C dX3_mindedGuises_10 rfl ?_
    refine aw_iload_n C dX3_mindedGuises_11 rfl ?_
    refine aw_iload_n C dX3_mindedGuises_12 rfl ?_
    refine aw_callVp C (As := [.int (nI q), .int (nI i)]) (c_X3_mindsGuise l D cI cC adK adV h a T q (nI i) (by omega)) k2_75 cv_X3_mindsGuise 0 2 rfl rfl rfl [0, 1, 2, 3, 4, 5, 6, 7, 8] (by decide) rfl ⟨by decide, by decide⟩ rfl rfl ⟨by decide, by decide⟩ rfl rfl (Nat.le_of_ble_eq_true rfl) dX3_mindedGuises_13 ?_
    refine aw_ifeq_b C 22 dX3_mindedGuises_16 (by decide) (fun c_16 => ?_) (fun c_16 => ?_)
    · skip
      refine aw_iinc C (nI (i + 1)) dX3_mindedGuises_22 rfl (inc_nI _ 1) (by decide) rfl (lv' := [(0, .ref h), (1, .int (nI q)), (2, .int (itr (fun g x => bif tMind T q (nI g) then x + 1 else x) i 0)), (3, .int (nI (i + 1)))]) rfl ?_
      refine aw_goto C 4 dX3_mindedGuises_25 (by decide) ?_
      exact aw_eq (by simp [itr, *] <;> rfl) rfl (by first | rfl | (simp only [itr, c_16] <;> first | done | rfl)) (ih4 trivial)
    · skip
      refine aw_pc 19 rfl ?_
      refine aw_iinc C ((itr (fun g x => bif tMind T q (nI g) then x + 1 else x) i 0) + Int32.ofInt (1)) dX3_mindedGuises_19 rfl rfl (by decide) rfl (lv' := [(0, .ref h), (1, .int (nI q)), (2, .int ((itr (fun g x => bif tMind T q (nI g) then x + 1 else x) i 0) + Int32.ofInt (1))), (3, .int (nI i))]) rfl ?_
      refine aw_iinc C (nI (i + 1)) dX3_mindedGuises_22 rfl (inc_nI _ 1) (by decide) rfl (lv' := [(0, .ref h), (1, .int (nI q)), (2, .int ((itr (fun g x => bif tMind T q (nI g) then x + 1 else x) i 0) + Int32.ofInt (1))), (3, .int (nI (i + 1)))]) rfl ?_
      refine aw_goto C 4 dX3_mindedGuises_25 (by decide) ?_
      exact aw_eq (by simp [itr, *] <;> rfl) rfl (by first | rfl | (simp only [itr, c_16] <;> first | done | rfl)) (ih4 trivial)
abbrev r_X3_wornGuises : Room := { frames := 0, cells := 0, slots := 0, locals := 0 }
theorem cv_X3_wornGuises : cV yX3_wornGuises cX3_wornGuises 3 (some .int) 0 := ⟨k2_101, k2_102, k2_103, k1_2, by decide, by decide, by decide +kernel⟩
set_option maxHeartbeats 4000000 in
set_option maxRecDepth 100000 in
theorem c_X3_wornGuises (l : Launch) (D : va_G) (cI cC : ClassId) (adK adV : Nat → Nat) (h : Nat) (a : Nat → Nat) (T : Tw) (hn : T.1 ≤ 8) : FC l yX3_wornGuises (wW yX3_wornGuises cX3_wornGuises 3 (some .int)) r_X3_wornGuises D (tyC cI cC) adK adV (wTo cI h a T) [.ref h] 0 0 (fQ (some (.int (mWorn T))) (wTo cI h a T)) := by
  refine FC.of (own := RX3) (by decide) rfl (Nat.le_of_ble_eq_true rfl) ?_
  intro p9 e9 s9 m9 args9 below9 meth9 c9 A9 C hr hlk hmn
  show AW p9 l e9 r_X3_wornGuises s9 m9 args9 below9 meth9 c9 D A9 3 0 0 _ 0 [(0, .ref h)] [] _
  refine aw_iconst C (0 : Int32) dX3_wornGuises_0 (by decide) ?_
  refine aw_istore_n C true (lv' := [(0, .ref h), (1, .int (0 : Int32))]) dX3_wornGuises_1 (by decide) rfl rfl ?_
  refine aw_iconst C (0 : Int32) dX3_wornGuises_2 (by decide) ?_
  refine aw_istore_n C true (lv' := [(0, .ref h), (1, .int (0 : Int32)), (2, .int (0 : Int32))]) dX3_wornGuises_3 (by decide) rfl rfl ?_
  refine aw_eq (lv' := [(0, .ref h), (1, .int (itr (fun p x => x ||| bitOf (T.2.2.1 2 p)) 0 0)), (2, .int (nI 0))]) (ws' := wTo cI h a T) (by first | rfl | (simp only [itr])) rfl (by rfl) ?_
  refine aw_loop (LV := fun i => [(0, .ref h), (1, .int (itr (fun p x => x ||| bitOf (T.2.2.1 2 p)) i 0)), (2, .int (nI i))]) (WS := fun i => wTo cI h a T) T.1 (Inv := fun _ => True) trivial ?_ ?_
  · intro hv4
    refine aw_iload_n C dX3_wornGuises_4 rfl ?_
    refine aw_aload_n C dX3_wornGuises_5 rfl ?_
    refine aw_getf C 0 2 0 12 inX3 rfl (by decide) rfl k1_32 rfl rfl dX3_wornGuises_6 ?_
    refine aw_icmp_ge C 29 dX3_wornGuises_9 (by decide) (fun c_9 => ?_) (fun c_9 => absurd c_9 (fun z => z (Int32.le_refl _)))
    refine aw_iload_n C dX3_wornGuises_29 rfl ?_
    refine aw_pc 30 rfl ?_
    exact aw_iret C hr hlk dX3_wornGuises_30 ⟨ri (by first | rfl | (simp only [])), by rfl⟩
  · intro i hi4 hv4 ih4
    refine aw_iload_n C dX3_wornGuises_4 rfl ?_
    refine aw_aload_n C dX3_wornGuises_5 rfl ?_
    refine aw_getf C 0 2 0 12 inX3 rfl (by decide) rfl k1_32 rfl rfl dX3_wornGuises_6 ?_
    refine aw_icmp_ge C 29 dX3_wornGuises_9 (by decide) (fun c_9 => absurd c_9 (nI_ge hi4 (by omega))) (fun c_9 => ?_)
    refine aw_iload_n C dX3_wornGuises_12 rfl ?_
    refine aw_iconst C (1 : Int32) dX3_wornGuises_13 (by decide) ?_
    refine aw_aload_n C dX3_wornGuises_14 rfl ?_
    refine aw_getf C 0 2 7 12 inX3 rfl (by decide) rfl k1_45 rfl rfl dX3_wornGuises_15 ?_
    refine aw_iload_n C dX3_wornGuises_18 rfl ?_
    refine aw_pc 19 rfl ?_
    refine aw_ialdN C 4 0 i rfl rfl rfl (by omega) (by decide) dX3_wornGuises_19 ?_
    refine aw_ishl C dX3_wornGuises_20 ?_
    refine aw_ior C dX3_wornGuises_21 ?_
    refine aw_istore_n C false (lv' := [(0, .ref h), (1, .int ((itr (fun p x => x ||| bitOf (T.2.2.1 2 p)) i 0) ||| ((1 : Int32) <<< ((T.2.2.1 2 i) &&& 31)))), (2, .int (nI i))]) dX3_wornGuises_22 (by decide) rfl rfl ?_
    refine aw_iinc C (nI (i + 1)) dX3_wornGuises_23 rfl (inc_nI _ 1) (by decide) rfl (lv' := [(0, .ref h), (1, .int ((itr (fun p x => x ||| bitOf (T.2.2.1 2 p)) i 0) ||| ((1 : Int32) <<< ((T.2.2.1 2 i) &&& 31)))), (2, .int (nI (i + 1)))]) rfl ?_
    refine aw_goto C 4 dX3_wornGuises_26 (by decide) ?_
    exact aw_eq (by first | rfl | (simp only [itr])) rfl (by first | rfl | (simp only [itr] <;> first | done | rfl)) (ih4 trivial)
abbrev r_X3_passedInAll : Room := { frames := 0, cells := 0, slots := 0, locals := 0 }
theorem cv_X3_passedInAll : cV yX3_passedInAll cX3_passedInAll 3 (some .int) 0 := ⟨k2_105, k2_106, k2_107, k1_2, by decide, by decide, by decide +kernel⟩
set_option maxHeartbeats 4000000 in
set_option maxRecDepth 100000 in
theorem c_X3_passedInAll (l : Launch) (D : va_G) (cI cC : ClassId) (adK adV : Nat → Nat) (h : Nat) (a : Nat → Nat) (T : Tw) (hn : T.1 ≤ 8) : FC l yX3_passedInAll (wW yX3_passedInAll cX3_passedInAll 3 (some .int)) r_X3_passedInAll D (tyC cI cC) adK adV (wTo cI h a T) [.ref h] 0 0 (fQ (some (.int (mPassed T))) (wTo cI h a T)) := by
  refine FC.of (own := RX3) (by decide) rfl (Nat.le_of_ble_eq_true rfl) ?_
  intro p9 e9 s9 m9 args9 below9 meth9 c9 A9 C hr hlk hmn
  show AW p9 l e9 r_X3_passedInAll s9 m9 args9 below9 meth9 c9 D A9 3 0 0 _ 0 [(0, .ref h)] [] _
  refine aw_iconst C (0 : Int32) dX3_passedInAll_0 (by decide) ?_
  refine aw_istore_n C true (lv' := [(0, .ref h), (1, .int (0 : Int32))]) dX3_passedInAll_1 (by decide) rfl rfl ?_
  refine aw_iconst C (0 : Int32) dX3_passedInAll_2 (by decide) ?_
  refine aw_istore_n C true (lv' := [(0, .ref h), (1, .int (0 : Int32)), (2, .int (0 : Int32))]) dX3_passedInAll_3 (by decide) rfl rfl ?_
  refine aw_eq (lv' := [(0, .ref h), (1, .int (itr (fun p x => x + T.2.2.1 6 p) 0 0)), (2, .int (nI 0))]) (ws' := wTo cI h a T) (by first | rfl | (simp only [itr])) rfl (by rfl) ?_
  refine aw_loop (LV := fun i => [(0, .ref h), (1, .int (itr (fun p x => x + T.2.2.1 6 p) i 0)), (2, .int (nI i))]) (WS := fun i => wTo cI h a T) T.1 (Inv := fun _ => True) trivial ?_ ?_
  · intro hv4
    refine aw_iload_n C dX3_passedInAll_4 rfl ?_
    refine aw_aload_n C dX3_passedInAll_5 rfl ?_
    refine aw_getf C 0 2 0 12 inX3 rfl (by decide) rfl k1_32 rfl rfl dX3_passedInAll_6 ?_
    refine aw_icmp_ge C 27 dX3_passedInAll_9 (by decide) (fun c_9 => ?_) (fun c_9 => absurd c_9 (fun z => z (Int32.le_refl _)))
    refine aw_iload_n C dX3_passedInAll_27 rfl ?_
    refine aw_pc 28 rfl ?_
    exact aw_iret C hr hlk dX3_passedInAll_28 ⟨ri (by first | rfl | (simp only [])), by rfl⟩
  · intro i hi4 hv4 ih4
    refine aw_iload_n C dX3_passedInAll_4 rfl ?_
    refine aw_aload_n C dX3_passedInAll_5 rfl ?_
    refine aw_getf C 0 2 0 12 inX3 rfl (by decide) rfl k1_32 rfl rfl dX3_passedInAll_6 ?_
    refine aw_icmp_ge C 27 dX3_passedInAll_9 (by decide) (fun c_9 => absurd c_9 (nI_ge hi4 (by omega))) (fun c_9 => ?_)
    refine aw_iload_n C dX3_passedInAll_12 rfl ?_
    refine aw_aload_n C dX3_passedInAll_13 rfl ?_
    refine aw_getf C 0 2 11 12 inX3 rfl (by decide) rfl k1_49 rfl rfl dX3_passedInAll_14 ?_
    refine aw_iload_n C dX3_passedInAll_17 rfl ?_
    refine aw_ialdN C 8 0 i rfl rfl rfl (by omega) (by decide) dX3_passedInAll_18 ?_
    refine aw_pc 19 rfl ?_
    refine aw_iadd C dX3_passedInAll_19 ?_
    refine aw_istore_n C false (lv' := [(0, .ref h), (1, .int ((itr (fun p x => x + T.2.2.1 6 p) i 0) + (T.2.2.1 6 i))), (2, .int (nI i))]) dX3_passedInAll_20 (by decide) rfl rfl ?_
    refine aw_iinc C (nI (i + 1)) dX3_passedInAll_21 rfl (inc_nI _ 1) (by decide) rfl (lv' := [(0, .ref h), (1, .int ((itr (fun p x => x + T.2.2.1 6 p) i 0) + (T.2.2.1 6 i))), (2, .int (nI (i + 1)))]) rfl ?_
    refine aw_goto C 4 dX3_passedInAll_24 (by decide) ?_
    exact aw_eq (by first | rfl | (simp only [itr])) rfl (by first | rfl | (simp only [itr] <;> first | done | rfl)) (ih4 trivial)
abbrev r_X3_heldSpots : Room := { frames := 0, cells := 0, slots := 0, locals := 0 }
theorem cv_X3_heldSpots : cV yX3_heldSpots cX3_heldSpots 3 (some .int) 0 := ⟨k3_221, k3_222, k3_223, k1_2, by decide, by decide, by decide +kernel⟩
set_option maxHeartbeats 4000000 in
set_option maxRecDepth 100000 in
theorem c_X3_heldSpots (l : Launch) (D : va_G) (cI cC : ClassId) (adK adV : Nat → Nat) (h : Nat) (a : Nat → Nat) (T : Tw) : FC l yX3_heldSpots (wW yX3_heldSpots cX3_heldSpots 3 (some .int)) r_X3_heldSpots D (tyC cI cC) adK adV (wTo cI h a T) [.ref h] 0 0 (fQ (some (.int (mHeld T))) (wTo cI h a T)) := by
  refine FC.of (own := RX3) (by decide) rfl (Nat.le_of_ble_eq_true rfl) ?_
  intro p9 e9 s9 m9 args9 below9 meth9 c9 A9 C hr hlk hmn
  show AW p9 l e9 r_X3_heldSpots s9 m9 args9 below9 meth9 c9 D A9 3 0 0 _ 0 [(0, .ref h)] [] _
  refine aw_iconst C (0 : Int32) dX3_heldSpots_0 (by decide) ?_
  refine aw_istore_n C true (lv' := [(0, .ref h), (1, .int (0 : Int32))]) dX3_heldSpots_1 (by decide) rfl rfl ?_
  refine aw_iconst C (0 : Int32) dX3_heldSpots_2 (by decide) ?_
  refine aw_istore_n C true (lv' := [(0, .ref h), (1, .int (0 : Int32)), (2, .int (0 : Int32))]) dX3_heldSpots_3 (by decide) rfl rfl ?_
  refine aw_eq (lv' := [(0, .ref h), (1, .int (itr (fun k x => bif decide (T.2.2.2 k = -1) then x else x + 1) 0 0)), (2, .int (nI 0))]) (ws' := wTo cI h a T) (by first | rfl | (simp only [itr])) rfl (by rfl) ?_
  refine aw_loop (LV := fun i => [(0, .ref h), (1, .int (itr (fun k x => bif decide (T.2.2.2 k = -1) then x else x + 1) i 0)), (2, .int (nI i))]) (WS := fun i => wTo cI h a T) 10 (Inv := fun _ => True) trivial ?_ ?_
  · intro hv4
    refine aw_iload_n C dX3_heldSpots_4 rfl ?_
    refine aw_bipush C (10 : Int32) dX3_heldSpots_5 (by decide) ?_
    refine aw_icmp_ge C 29 dX3_heldSpots_7 (by decide) (fun c_7 => ?_) (fun c_7 => absurd c_7 (fun z => z (Int32.le_refl _)))
    refine aw_iload_n C dX3_heldSpots_29 rfl ?_
    exact aw_iret C hr hlk dX3_heldSpots_30 ⟨ri (by first | rfl | (simp only [])), by rfl⟩
  · intro i hi4 hv4 ih4
    refine aw_pc 4 rfl ?_
    refine aw_iload_n C dX3_heldSpots_4 rfl ?_
    refine aw_bipush C (10 : Int32) dX3_heldSpots_5 (by decide) ?_
    refine aw_icmp_ge C 29 dX3_heldSpots_7 (by decide) (fun c_7 => absurd c_7 (nI_ge (b := 10) hi4 (by omega))) (fun c_7 => ?_)
    refine aw_aload_n C dX3_heldSpots_10 rfl ?_
    refine aw_getf C 0 2 4 12 inX3 rfl (by decide) rfl k1_41 rfl rfl dX3_heldSpots_11 ?_
    refine aw_iload_n C dX3_heldSpots_14 rfl ?_
    refine aw_ialdN C 1 0 i rfl rfl rfl (by omega) (by decide) dX3_heldSpots_15 ?_
    refine aw_iconst C (-1 : Int32) dX3_heldSpots_16 (by decide) ?_
    refine aw_icmp_eq C 23 dX3_heldSpots_17 (by decide) (fun c_17 => ?_) (fun c_17 => ?_)
    · skip
      refine aw_iinc C (nI (i + 1)) dX3_heldSpots_23 rfl (inc_nI _ 1) (by decide) rfl (lv' := [(0, .ref h), (1, .int (itr (fun k x => bif decide (T.2.2.2 k = -1) then x else x + 1) i 0)), (2, .int (nI (i + 1)))]) rfl ?_
      refine aw_pc 26 rfl ?_
      refine aw_goto C 4 dX3_heldSpots_26 (by decide) ?_
      exact aw_eq (by simp [itr, *] <;> rfl) rfl (by first | rfl | (simp only [itr, c_17] <;> first | done | rfl)) (ih4 trivial)
    · skip
      refine aw_iinc C ((itr (fun k x => bif decide (T.2.2.2 k = -1) then x else x + 1) i 0) + Int32.ofInt (1)) dX3_heldSpots_20 rfl rfl (by decide) rfl (lv' := [(0, .ref h), (1, .int ((itr (fun k x => bif decide (T.2.2.2 k = -1) then x else x + 1) i 0) + Int32.ofInt (1))), (2, .int (nI i))]) rfl ?_
      refine aw_iinc C (nI (i + 1)) dX3_heldSpots_23 rfl (inc_nI _ 1) (by decide) rfl (lv' := [(0, .ref h), (1, .int ((itr (fun k x => bif decide (T.2.2.2 k = -1) then x else x + 1) i 0) + Int32.ofInt (1))), (2, .int (nI (i + 1)))]) rfl ?_
      refine aw_goto C 4 dX3_heldSpots_26 (by decide) ?_
      exact aw_eq (by simp [itr, *] <;> rfl) rfl (by first | rfl | (simp only [itr, c_17] <;> first | done | rfl)) (ih4 trivial)
abbrev r_X3_putOut : Room := { frames := 1, cells := 0, slots := 0, locals := 21 }
theorem cv_X3_putOut : cV yX3_putOut cX3_putOut 3 none 1 := ⟨k2_167, k2_168, k2_169, k1_2, by decide, by decide, by decide +kernel⟩
set_option maxHeartbeats 4000000 in
set_option maxRecDepth 100000 in
theorem c_X3_putOut (l : Launch) (D : va_G) (cI cC : ClassId) (adK adV : Nat → Nat) (h : Nat) (a : Nat → Nat) (T : Tw) (x : Int32) (hn : T.1 ≤ 8) : FC l yX3_putOut (wW yX3_putOut cX3_putOut 3 none) r_X3_putOut D (tyC cI cC) adK adV (wTo cI h a T) [.ref h, .int x] 0 0 (fQ none (wTo cI h a (tPutOut T x))) := by
  refine FC.of (own := RX3) (by decide) rfl (Nat.le_of_ble_eq_true rfl) ?_
  intro p9 e9 s9 m9 args9 below9 meth9 c9 A9 C hr hlk hmn
  show AW p9 l e9 r_X3_putOut s9 m9 args9 below9 meth9 c9 D A9 3 0 0 _ 0 [(0, .ref h), (1, .int x)] [] _
  refine aw_iconst C (0 : Int32) dX3_putOut_0 (by decide) ?_
  refine aw_istore_n C true (lv' := [(0, .ref h), (1, .int x), (2, .int (0 : Int32))]) dX3_putOut_1 (by decide) rfl rfl ?_
  refine aw_eq (lv' := [(0, .ref h), (1, .int x), (2, .int (nI 0))]) (ws' := wTo cI h a (itr (fun p U => bif hol x (nI p) then sP U 5 p 1 else U) 0 T)) (by first | rfl | (simp only [itr])) rfl (by rfl) ?_
  refine aw_loop (LV := fun i => [(0, .ref h), (1, .int x), (2, .int (nI i))]) (WS := fun i => wTo cI h a (itr (fun p U => bif hol x (nI p) then sP U 5 p 1 else U) i T)) T.1 (Inv := fun _ => True) trivial ?_ ?_
  · intro hv2
    refine aw_iload_n C dX3_putOut_2 rfl ?_
    refine aw_aload_n C dX3_putOut_3 rfl ?_
    refine aw_getf C 0 2 0 12 inX3 rfl (by decide) rfl k1_32 rfl rfl dX3_putOut_4 ?_
    refine aw_top (y := (nI T.1)) (by rw [itr_n (fun p U => by cases hol x (nI p) <;> rfl)]) ?_
    refine aw_icmp_ge C 31 dX3_putOut_7 (by decide) (fun c_7 => ?_) (fun c_7 => absurd c_7 (fun z => z (Int32.le_refl _)))
    exact aw_vret C hr hlk dX3_putOut_31 ⟨rfl, by rfl⟩
  · intro i hi2 hv2 ih2
    refine aw_iload_n C dX3_putOut_2 rfl ?_
    refine aw_aload_n C dX3_putOut_3 rfl ?_
    refine aw_pc 4 rfl ?_
    refine aw_getf C 0 2 0 12 inX3 rfl (by decide) rfl k1_32 rfl rfl dX3_putOut_4 ?_
    refine aw_top (y := (nI T.1)) (by rw [itr_n (fun p U => by cases hol x (nI p) <;> rfl)]) ?_
    refine aw_icmp_ge C 31 dX3_putOut_7 (by decide) (fun c_7 => absurd c_7 (nI_ge hi2 (by omega))) (fun c_7 => ?_)
    refine aw_iload_n C dX3_putOut_10 rfl ?_
    refine aw_iload_n C dX3_putOut_11 rfl ?_
    refine aw_callSp C (As := [.int x, .int (nI i)]) (c_X3_holds l D cI cC adK adV x (nI i)) k2_27 cs_X3_holds [] (by decide) rfl ⟨by decide, by decide⟩ rfl rfl ⟨by decide, by decide⟩ rfl rfl (Nat.le_of_ble_eq_true rfl) dX3_putOut_12 ?_
    refine aw_ifeq_b C 25 dX3_putOut_15 (by decide) (fun c_15 => ?_) (fun c_15 => ?_)
    · skip
      refine aw_iinc C (nI (i + 1)) dX3_putOut_25 rfl (inc_nI _ 1) (by decide) rfl (lv' := [(0, .ref h), (1, .int x), (2, .int (nI (i + 1)))]) rfl ?_
      refine aw_goto C 2 dX3_putOut_28 (by decide) ?_
      exact aw_eq (by first | rfl | (simp only [itr, cond_true, cond_false, c_15])) rfl (by first | rfl | (simp only [itr, cond_true, cond_false, c_15] <;> first | done | rfl)) (ih2 trivial)
    · skip
      refine aw_aload_n C dX3_putOut_18 rfl ?_
      refine aw_getf C 0 2 10 12 inX3 rfl (by decide) rfl k1_48 rfl rfl dX3_putOut_19 ?_
      refine aw_pc 22 rfl ?_
      refine aw_iload_n C dX3_putOut_22 rfl ?_
      refine aw_iconst C (1 : Int32) dX3_putOut_23 (by decide) ?_
      refine aw_iastN C 7 0 i rfl rfl rfl (by omega) (by decide) (ws' := wTo cI h a (sP (itr (fun p U => bif hol x (nI p) then sP U 5 p 1 else U) i T) 5 i (1 : Int32))) rfl dX3_putOut_24 ?_
      refine aw_iinc C (nI (i + 1)) dX3_putOut_25 rfl (inc_nI _ 1) (by decide) rfl (lv' := [(0, .ref h), (1, .int x), (2, .int (nI (i + 1)))]) rfl ?_
      refine aw_goto C 2 dX3_putOut_28 (by decide) ?_
      exact aw_eq (by first | rfl | (simp only [itr, cond_true, cond_false, c_15])) rfl (by first | rfl | (simp only [itr, cond_true, cond_false, c_15] <;> first | done | rfl)) (ih2 trivial)
abbrev r_X3_mutualPairs_3 : Room := { frames := 2, cells := 0, slots := 0, locals := 43 }
theorem cv_X3_mutualPairs_3 : cV yX3_mutualPairs cX3_mutualPairs 5 (some .int) 1 := ⟨k2_94, k0_6, k2_95, k1_2, by decide, by decide, by decide +kernel⟩
set_option maxHeartbeats 4000000 in
set_option maxRecDepth 100000 in
theorem c_X3_mutualPairs_3 (l : Launch) (D : va_G) (cI cC : ClassId) (adK adV : Nat → Nat) (h : Nat) (a : Nat → Nat) (T : Tw) (hn : T.1 ≤ 8) : FC l yX3_mutualPairs (wW yX3_mutualPairs cX3_mutualPairs 5 (some .int)) r_X3_mutualPairs_3 D (tyC cI cC) adK adV (wTo cI h a T) [.ref h, .ref (a 4)] 0 0 (fQ (some (.int (mPairs T 3))) (wTo cI h a T)) := by
  refine FC.of (own := RX3) (by decide) rfl (Nat.le_of_ble_eq_true rfl) ?_
  intro p9 e9 s9 m9 args9 below9 meth9 c9 A9 C hr hlk hmn
  show AW p9 l e9 r_X3_mutualPairs_3 s9 m9 args9 below9 meth9 c9 D A9 5 0 0 _ 0 [(0, .ref h), (1, .ref (a 4))] [] _
  refine aw_iconst C (0 : Int32) dX3_mutualPairs_0 (by decide) ?_
  refine aw_istore_n C true (lv' := [(0, .ref h), (1, .ref (a 4)), (2, .int (0 : Int32))]) dX3_mutualPairs_1 (by decide) rfl rfl ?_
  refine aw_iconst C (0 : Int32) dX3_mutualPairs_2 (by decide) ?_
  refine aw_istore_n C true (lv' := [(0, .ref h), (1, .ref (a 4)), (2, .int (0 : Int32)), (3, .int (0 : Int32))]) dX3_mutualPairs_3 (by decide) rfl rfl ?_
  refine aw_eq (lv' := [(0, .ref h), (1, .ref (a 4)), (2, .int (itr (fun a x => itr (fun j x => bif tMut T 3 a (a + 1 + j) then x + 1 else x) (T.1 - (a + 1)) x) 0 0)), (3, .int (nI 0))]) (ws' := wTo cI h a T) (by first | rfl | (simp only [itr])) rfl (by rfl) ?_
  refine aw_loop (LV := fun i1 => [(0, .ref h), (1, .ref (a 4)), (2, .int (itr (fun a x => itr (fun j x => bif tMut T 3 a (a + 1 + j) then x + 1 else x) (T.1 - (a + 1)) x) i1 0)), (3, .int (nI i1))]) (WS := fun i1 => wTo cI h a T) T.1 (Inv := fun _ => True) trivial ?_ ?_
  · intro hv4
    refine aw_iload_n C dX3_mutualPairs_4 rfl ?_
    refine aw_aload_n C dX3_mutualPairs_5 rfl ?_
    refine aw_getf C 0 2 0 12 inX3 rfl (by decide) rfl k1_32 rfl rfl dX3_mutualPairs_6 ?_
    refine aw_icmp_ge C 51 dX3_mutualPairs_9 (by decide) (fun c_9 => ?_) (fun c_9 => absurd c_9 (fun z => z (Int32.le_refl _)))
    refine aw_iload_n C dX3_mutualPairs_51 rfl ?_
    refine aw_pc 52 rfl ?_
    exact aw_iret C hr hlk dX3_mutualPairs_52 ⟨ri (by first | rfl | (simp only [])), by rfl⟩
  · intro i1 hi4 hv4 ih4
    refine aw_iload_n C dX3_mutualPairs_4 rfl ?_
    refine aw_aload_n C dX3_mutualPairs_5 rfl ?_
    refine aw_getf C 0 2 0 12 inX3 rfl (by decide) rfl k1_32 rfl rfl dX3_mutualPairs_6 ?_
    refine aw_icmp_ge C 51 dX3_mutualPairs_9 (by decide) (fun c_9 => absurd c_9 (nI_ge hi4 (by omega))) (fun c_9 => ?_)
    refine aw_iload_n C dX3_mutualPairs_12 rfl ?_
    refine aw_iconst C (1 : Int32) dX3_mutualPairs_13 (by decide) ?_
    refine aw_iadd C dX3_mutualPairs_14 ?_
    refine aw_top (y := (nI (i1 + 1 + 0))) (by exact nI_1 _) ?_
    refine aw_istore C true (lv' := [(0, .ref h), (1, .ref (a 4)), (2, .int (itr (fun a x => itr (fun j x => bif tMut T 3 a (a + 1 + j) then x + 1 else x) (T.1 - (a + 1)) x) i1 0)), (3, .int (nI i1)), (4, .int (nI (i1 + 1 + 0)))]) dX3_mutualPairs_15 (by decide) rfl rfl ?_
    refine aw_eq (lv' := [(0, .ref h), (1, .ref (a 4)), (2, .int (itr (fun j x => bif tMut T 3 i1 (i1 + 1 + j) then x + 1 else x) 0 (itr (fun a x => itr (fun j x => bif tMut T 3 a (a + 1 + j) then x + 1 else x) (T.1 - (a + 1)) x) i1 0))), (3, .int (nI i1)), (4, .int (nI (i1 + 1 + 0)))]) (ws' := wTo cI h a T) (by first | rfl | (simp only [itr])) rfl (by rfl) ?_
    refine aw_loop (LV := fun j1 => [(0, .ref h), (1, .ref (a 4)), (2, .int (itr (fun j x => bif tMut T 3 i1 (i1 + 1 + j) then x + 1 else x) j1 (itr (fun a x => itr (fun j x => bif tMut T 3 a (a + 1 + j) then x + 1 else x) (T.1 - (a + 1)) x) i1 0))), (3, .int (nI i1)), (4, .int (nI (i1 + 1 + j1)))]) (WS := fun j1 => wTo cI h a T) (T.1 - (i1 + 1)) (Inv := fun _ => True) trivial ?_ ?_
    · intro hv17
      refine aw_iload C dX3_mutualPairs_17 rfl ?_
      refine aw_pc 19 rfl ?_
      refine aw_aload_n C dX3_mutualPairs_19 rfl ?_
      refine aw_getf C 0 2 0 12 inX3 rfl (by decide) rfl k1_32 rfl rfl dX3_mutualPairs_20 ?_
      refine aw_icmp_ge C 45 dX3_mutualPairs_23 (by decide) (fun c_23 => ?_) (fun c_23 => absurd c_23 (fun z => z (nI_le (by omega) (by omega))))
      refine aw_iinc C (nI (i1 + 1)) dX3_mutualPairs_45 rfl (inc_nI _ 1) (by decide) rfl (lv' := [(0, .ref h), (1, .ref (a 4)), (2, .int (itr (fun j x => bif tMut T 3 i1 (i1 + 1 + j) then x + 1 else x) (T.1 - (i1 + 1)) (itr (fun a x => itr (fun j x => bif tMut T 3 a (a + 1 + j) then x + 1 else x) (T.1 - (a + 1)) x) i1 0))), (3, .int (nI (i1 + 1))), (4, .int (nI (i1 + 1 + (T.1 - (i1 + 1)))))]) rfl ?_
      refine aw_goto C 4 dX3_mutualPairs_48 (by decide) ?_
      refine aw_sub (lv' := [(0, .ref h), (1, .ref (a 4)), (2, .int (itr (fun j x => bif tMut T 3 i1 (i1 + 1 + j) then x + 1 else x) (T.1 - (i1 + 1)) (itr (fun a x => itr (fun j x => bif tMut T 3 a (a + 1 + j) then x + 1 else x) (T.1 - (a + 1)) x) i1 0))), (3, .int (nI (i1 + 1)))]) [0, 1, 2, 3] rfl ?_
      exact aw_eq (by first | rfl | (simp only [itr])) rfl (by first | rfl | (simp only [itr] <;> first | done | rfl)) (ih4 trivial)
    · intro j1 hi17 hv17 ih17
      refine aw_iload C dX3_mutualPairs_17 rfl ?_
      refine aw_aload_n C dX3_mutualPairs_19 rfl ?_
      refine aw_getf C 0 2 0 12 inX3 rfl (by decide) rfl k1_32 rfl rfl dX3_mutualPairs_20 ?_
      refine aw_icmp_ge C 45 dX3_mutualPairs_23 (by decide) (fun c_23 => absurd c_23 (nI_ge (by omega) (by omega))) (fun c_23 => ?_)
      refine aw_aload_n C dX3_mutualPairs_26 rfl ?_
      refine aw_pc 27 rfl ?_
      refine aw_iload_n C dX3_mutualPairs_27 rfl ?_
      refine aw_iload C dX3_mutualPairs_28 rfl ?_
      refine aw_callSp C (As := [.ref (a 4), .int (nI i1), .int (nI (i1 + 1 + j1))]) (c_X3_isMutual l D cI cC adK adV (a 4) (T.2.2.1 3) i1 (i1 + 1 + j1) (by omega) (by omega)) k2_24 cs_X3_isMutual [5] (by decide) rfl ⟨by decide, by decide⟩ rfl rfl ⟨by decide, by decide⟩ rfl rfl (Nat.le_of_ble_eq_true rfl) dX3_mutualPairs_30 ?_
      refine aw_ifeq_b C 39 dX3_mutualPairs_33 (by decide) (fun c_33 => ?_) (fun c_33 => ?_)
      · skip
        refine aw_iinc C (nI ((i1 + 1 + j1) + 1)) dX3_mutualPairs_39 rfl (inc_nI _ 1) (by decide) rfl (lv' := [(0, .ref h), (1, .ref (a 4)), (2, .int (itr (fun j x => bif tMut T 3 i1 (i1 + 1 + j) then x + 1 else x) j1 (itr (fun a x => itr (fun j x => bif tMut T 3 a (a + 1 + j) then x + 1 else x) (T.1 - (a + 1)) x) i1 0))), (3, .int (nI i1)), (4, .int (nI ((i1 + 1 + j1) + 1)))]) rfl ?_
        refine aw_goto C 17 dX3_mutualPairs_42 (by decide) ?_
        exact aw_eq (by have cc : tMut T 3 i1 (i1 + 1 + j1) = _ := c_33; simp only [itr_s, cc, cond_true, cond_false] <;> rfl) rfl (by first | rfl | (simp only [itr, c_33] <;> first | done | rfl)) (ih17 trivial)
      · skip
        refine aw_iinc C ((itr (fun j x => bif tMut T 3 i1 (i1 + 1 + j) then x + 1 else x) j1 (itr (fun a x => itr (fun j x => bif tMut T 3 a (a + 1 + j) then x + 1 else x) (T.1 - (a + 1)) x) i1 0)) + Int32.ofInt (1)) dX3_mutualPairs_36 rfl rfl (by decide) rfl (lv' := [(0, .ref h), (1, .ref (a 4)), (2, .int ((itr (fun j x => bif tMut T 3 i1 (i1 + 1 + j) then x + 1 else x) j1 (itr (fun a x => itr (fun j x => bif tMut T 3 a (a + 1 + j) then x + 1 else x) (T.1 - (a + 1)) x) i1 0)) + Int32.ofInt (1))), (3, .int (nI i1)), (4, .int (nI (i1 + 1 + j1)))]) rfl ?_
        refine aw_iinc C (nI ((i1 + 1 + j1) + 1)) dX3_mutualPairs_39 rfl (inc_nI _ 1) (by decide) rfl (lv' := [(0, .ref h), (1, .ref (a 4)), (2, .int ((itr (fun j x => bif tMut T 3 i1 (i1 + 1 + j) then x + 1 else x) j1 (itr (fun a x => itr (fun j x => bif tMut T 3 a (a + 1 + j) then x + 1 else x) (T.1 - (a + 1)) x) i1 0)) + Int32.ofInt (1))), (3, .int (nI i1)), (4, .int (nI ((i1 + 1 + j1) + 1)))]) rfl ?_
        refine aw_goto C 17 dX3_mutualPairs_42 (by decide) ?_
        exact aw_eq (by have cc : tMut T 3 i1 (i1 + 1 + j1) = _ := c_33; simp only [itr_s, cc, cond_true, cond_false] <;> rfl) rfl (by first | rfl | (simp only [itr, c_33] <;> first | done | rfl)) (ih17 trivial)
abbrev r_X3_mutualPairs_4 : Room := { frames := 2, cells := 0, slots := 0, locals := 43 }
theorem cv_X3_mutualPairs_4 : cV yX3_mutualPairs cX3_mutualPairs 5 (some .int) 1 := ⟨k2_94, k0_6, k2_95, k1_2, by decide, by decide, by decide +kernel⟩
set_option maxHeartbeats 4000000 in
set_option maxRecDepth 100000 in
theorem c_X3_mutualPairs_4 (l : Launch) (D : va_G) (cI cC : ClassId) (adK adV : Nat → Nat) (h : Nat) (a : Nat → Nat) (T : Tw) (hn : T.1 ≤ 8) : FC l yX3_mutualPairs (wW yX3_mutualPairs cX3_mutualPairs 5 (some .int)) r_X3_mutualPairs_4 D (tyC cI cC) adK adV (wTo cI h a T) [.ref h, .ref (a 5)] 0 0 (fQ (some (.int (mPairs T 4))) (wTo cI h a T)) := by
  refine FC.of (own := RX3) (by decide) rfl (Nat.le_of_ble_eq_true rfl) ?_
  intro p9 e9 s9 m9 args9 below9 meth9 c9 A9 C hr hlk hmn
  show AW p9 l e9 r_X3_mutualPairs_4 s9 m9 args9 below9 meth9 c9 D A9 5 0 0 _ 0 [(0, .ref h), (1, .ref (a 5))] [] _
  refine aw_iconst C (0 : Int32) dX3_mutualPairs_0 (by decide) ?_
  refine aw_istore_n C true (lv' := [(0, .ref h), (1, .ref (a 5)), (2, .int (0 : Int32))]) dX3_mutualPairs_1 (by decide) rfl rfl ?_
  refine aw_iconst C (0 : Int32) dX3_mutualPairs_2 (by decide) ?_
  refine aw_istore_n C true (lv' := [(0, .ref h), (1, .ref (a 5)), (2, .int (0 : Int32)), (3, .int (0 : Int32))]) dX3_mutualPairs_3 (by decide) rfl rfl ?_
  refine aw_eq (lv' := [(0, .ref h), (1, .ref (a 5)), (2, .int (itr (fun a x => itr (fun j x => bif tMut T 4 a (a + 1 + j) then x + 1 else x) (T.1 - (a + 1)) x) 0 0)), (3, .int (nI 0))]) (ws' := wTo cI h a T) (by first | rfl | (simp only [itr])) rfl (by rfl) ?_
  refine aw_loop (LV := fun i1 => [(0, .ref h), (1, .ref (a 5)), (2, .int (itr (fun a x => itr (fun j x => bif tMut T 4 a (a + 1 + j) then x + 1 else x) (T.1 - (a + 1)) x) i1 0)), (3, .int (nI i1))]) (WS := fun i1 => wTo cI h a T) T.1 (Inv := fun _ => True) trivial ?_ ?_
  · intro hv4
    refine aw_iload_n C dX3_mutualPairs_4 rfl ?_
    refine aw_aload_n C dX3_mutualPairs_5 rfl ?_
    refine aw_getf C 0 2 0 12 inX3 rfl (by decide) rfl k1_32 rfl rfl dX3_mutualPairs_6 ?_
    refine aw_icmp_ge C 51 dX3_mutualPairs_9 (by decide) (fun c_9 => ?_) (fun c_9 => absurd c_9 (fun z => z (Int32.le_refl _)))
    refine aw_iload_n C dX3_mutualPairs_51 rfl ?_
    refine aw_pc 52 rfl ?_
    exact aw_iret C hr hlk dX3_mutualPairs_52 ⟨ri (by first | rfl | (simp only [])), by rfl⟩
  · intro i1 hi4 hv4 ih4
    refine aw_iload_n C dX3_mutualPairs_4 rfl ?_
    refine aw_aload_n C dX3_mutualPairs_5 rfl ?_
    refine aw_getf C 0 2 0 12 inX3 rfl (by decide) rfl k1_32 rfl rfl dX3_mutualPairs_6 ?_
    refine aw_icmp_ge C 51 dX3_mutualPairs_9 (by decide) (fun c_9 => absurd c_9 (nI_ge hi4 (by omega))) (fun c_9 => ?_)
    refine aw_iload_n C dX3_mutualPairs_12 rfl ?_
    refine aw_iconst C (1 : Int32) dX3_mutualPairs_13 (by decide) ?_
    refine aw_iadd C dX3_mutualPairs_14 ?_
    refine aw_top (y := (nI (i1 + 1 + 0))) (by exact nI_1 _) ?_
    refine aw_istore C true (lv' := [(0, .ref h), (1, .ref (a 5)), (2, .int (itr (fun a x => itr (fun j x => bif tMut T 4 a (a + 1 + j) then x + 1 else x) (T.1 - (a + 1)) x) i1 0)), (3, .int (nI i1)), (4, .int (nI (i1 + 1 + 0)))]) dX3_mutualPairs_15 (by decide) rfl rfl ?_
    refine aw_eq (lv' := [(0, .ref h), (1, .ref (a 5)), (2, .int (itr (fun j x => bif tMut T 4 i1 (i1 + 1 + j) then x + 1 else x) 0 (itr (fun a x => itr (fun j x => bif tMut T 4 a (a + 1 + j) then x + 1 else x) (T.1 - (a + 1)) x) i1 0))), (3, .int (nI i1)), (4, .int (nI (i1 + 1 + 0)))]) (ws' := wTo cI h a T) (by first | rfl | (simp only [itr])) rfl (by rfl) ?_
    refine aw_loop (LV := fun j1 => [(0, .ref h), (1, .ref (a 5)), (2, .int (itr (fun j x => bif tMut T 4 i1 (i1 + 1 + j) then x + 1 else x) j1 (itr (fun a x => itr (fun j x => bif tMut T 4 a (a + 1 + j) then x + 1 else x) (T.1 - (a + 1)) x) i1 0))), (3, .int (nI i1)), (4, .int (nI (i1 + 1 + j1)))]) (WS := fun j1 => wTo cI h a T) (T.1 - (i1 + 1)) (Inv := fun _ => True) trivial ?_ ?_
    · intro hv17
      refine aw_iload C dX3_mutualPairs_17 rfl ?_
      refine aw_pc 19 rfl ?_
      refine aw_aload_n C dX3_mutualPairs_19 rfl ?_
      refine aw_getf C 0 2 0 12 inX3 rfl (by decide) rfl k1_32 rfl rfl dX3_mutualPairs_20 ?_
      refine aw_icmp_ge C 45 dX3_mutualPairs_23 (by decide) (fun c_23 => ?_) (fun c_23 => absurd c_23 (fun z => z (nI_le (by omega) (by omega))))
      refine aw_iinc C (nI (i1 + 1)) dX3_mutualPairs_45 rfl (inc_nI _ 1) (by decide) rfl (lv' := [(0, .ref h), (1, .ref (a 5)), (2, .int (itr (fun j x => bif tMut T 4 i1 (i1 + 1 + j) then x + 1 else x) (T.1 - (i1 + 1)) (itr (fun a x => itr (fun j x => bif tMut T 4 a (a + 1 + j) then x + 1 else x) (T.1 - (a + 1)) x) i1 0))), (3, .int (nI (i1 + 1))), (4, .int (nI (i1 + 1 + (T.1 - (i1 + 1)))))]) rfl ?_
      refine aw_goto C 4 dX3_mutualPairs_48 (by decide) ?_
      refine aw_sub (lv' := [(0, .ref h), (1, .ref (a 5)), (2, .int (itr (fun j x => bif tMut T 4 i1 (i1 + 1 + j) then x + 1 else x) (T.1 - (i1 + 1)) (itr (fun a x => itr (fun j x => bif tMut T 4 a (a + 1 + j) then x + 1 else x) (T.1 - (a + 1)) x) i1 0))), (3, .int (nI (i1 + 1)))]) [0, 1, 2, 3] rfl ?_
      exact aw_eq (by first | rfl | (simp only [itr])) rfl (by first | rfl | (simp only [itr] <;> first | done | rfl)) (ih4 trivial)
    · intro j1 hi17 hv17 ih17
      refine aw_iload C dX3_mutualPairs_17 rfl ?_
      refine aw_aload_n C dX3_mutualPairs_19 rfl ?_
      refine aw_getf C 0 2 0 12 inX3 rfl (by decide) rfl k1_32 rfl rfl dX3_mutualPairs_20 ?_
      refine aw_icmp_ge C 45 dX3_mutualPairs_23 (by decide) (fun c_23 => absurd c_23 (nI_ge (by omega) (by omega))) (fun c_23 => ?_)
      refine aw_aload_n C dX3_mutualPairs_26 rfl ?_
      refine aw_pc 27 rfl ?_
      refine aw_iload_n C dX3_mutualPairs_27 rfl ?_
      refine aw_iload C dX3_mutualPairs_28 rfl ?_
      refine aw_callSp C (As := [.ref (a 5), .int (nI i1), .int (nI (i1 + 1 + j1))]) (c_X3_isMutual l D cI cC adK adV (a 5) (T.2.2.1 4) i1 (i1 + 1 + j1) (by omega) (by omega)) k2_24 cs_X3_isMutual [6] (by decide) rfl ⟨by decide, by decide⟩ rfl rfl ⟨by decide, by decide⟩ rfl rfl (Nat.le_of_ble_eq_true rfl) dX3_mutualPairs_30 ?_
      refine aw_ifeq_b C 39 dX3_mutualPairs_33 (by decide) (fun c_33 => ?_) (fun c_33 => ?_)
      · skip
        refine aw_iinc C (nI ((i1 + 1 + j1) + 1)) dX3_mutualPairs_39 rfl (inc_nI _ 1) (by decide) rfl (lv' := [(0, .ref h), (1, .ref (a 5)), (2, .int (itr (fun j x => bif tMut T 4 i1 (i1 + 1 + j) then x + 1 else x) j1 (itr (fun a x => itr (fun j x => bif tMut T 4 a (a + 1 + j) then x + 1 else x) (T.1 - (a + 1)) x) i1 0))), (3, .int (nI i1)), (4, .int (nI ((i1 + 1 + j1) + 1)))]) rfl ?_
        refine aw_goto C 17 dX3_mutualPairs_42 (by decide) ?_
        exact aw_eq (by have cc : tMut T 4 i1 (i1 + 1 + j1) = _ := c_33; simp only [itr_s, cc, cond_true, cond_false] <;> rfl) rfl (by first | rfl | (simp only [itr, c_33] <;> first | done | rfl)) (ih17 trivial)
      · skip
        refine aw_iinc C ((itr (fun j x => bif tMut T 4 i1 (i1 + 1 + j) then x + 1 else x) j1 (itr (fun a x => itr (fun j x => bif tMut T 4 a (a + 1 + j) then x + 1 else x) (T.1 - (a + 1)) x) i1 0)) + Int32.ofInt (1)) dX3_mutualPairs_36 rfl rfl (by decide) rfl (lv' := [(0, .ref h), (1, .ref (a 5)), (2, .int ((itr (fun j x => bif tMut T 4 i1 (i1 + 1 + j) then x + 1 else x) j1 (itr (fun a x => itr (fun j x => bif tMut T 4 a (a + 1 + j) then x + 1 else x) (T.1 - (a + 1)) x) i1 0)) + Int32.ofInt (1))), (3, .int (nI i1)), (4, .int (nI (i1 + 1 + j1)))]) rfl ?_
        refine aw_iinc C (nI ((i1 + 1 + j1) + 1)) dX3_mutualPairs_39 rfl (inc_nI _ 1) (by decide) rfl (lv' := [(0, .ref h), (1, .ref (a 5)), (2, .int ((itr (fun j x => bif tMut T 4 i1 (i1 + 1 + j) then x + 1 else x) j1 (itr (fun a x => itr (fun j x => bif tMut T 4 a (a + 1 + j) then x + 1 else x) (T.1 - (a + 1)) x) i1 0)) + Int32.ofInt (1))), (3, .int (nI i1)), (4, .int (nI ((i1 + 1 + j1) + 1)))]) rfl ?_
        refine aw_goto C 17 dX3_mutualPairs_42 (by decide) ?_
        exact aw_eq (by have cc : tMut T 4 i1 (i1 + 1 + j1) = _ := c_33; simp only [itr_s, cc, cond_true, cond_false] <;> rfl) rfl (by first | rfl | (simp only [itr, c_33] <;> first | done | rfl)) (ih17 trivial)
abbrev r_X3_knowingPairs : Room := { frames := 3, cells := 0, slots := 0, locals := 67 }
theorem cv_X3_knowingPairs : cV yX3_knowingPairs cX3_knowingPairs 1 (some .int) 0 := ⟨k2_89, k2_90, k2_91, k1_2, by decide, by decide, by decide +kernel⟩
set_option maxHeartbeats 4000000 in
set_option maxRecDepth 100000 in
theorem c_X3_knowingPairs (l : Launch) (D : va_G) (cI cC : ClassId) (adK adV : Nat → Nat) (h : Nat) (a : Nat → Nat) (T : Tw) (hn : T.1 ≤ 8) : FC l yX3_knowingPairs (wW yX3_knowingPairs cX3_knowingPairs 1 (some .int)) r_X3_knowingPairs D (tyC cI cC) adK adV (wTo cI h a T) [.ref h] 0 0 (fQ (some (.int (mPairs T 4))) (wTo cI h a T)) := by
  refine FC.of (own := RX3) (by decide) rfl (Nat.le_of_ble_eq_true rfl) ?_
  intro p9 e9 s9 m9 args9 below9 meth9 c9 A9 C hr hlk hmn
  show AW p9 l e9 r_X3_knowingPairs s9 m9 args9 below9 meth9 c9 D A9 1 0 0 _ 0 [(0, .ref h)] [] _
  refine aw_aload_n C dX3_knowingPairs_0 rfl ?_
  refine aw_aload_n C dX3_knowingPairs_1 rfl ?_
  refine aw_getf C 0 2 9 12 inX3 rfl (by decide) rfl k1_47 rfl rfl dX3_knowingPairs_2 ?_
  refine aw_callVp C (As := [.ref (a 5)]) (c_X3_mutualPairs_4 l D cI cC adK adV h a T hn) k2_92 cv_X3_mutualPairs_4 0 2 rfl rfl rfl [0, 1, 2, 3, 4, 5, 6, 7, 8] (by decide) rfl ⟨by decide, by decide⟩ rfl rfl ⟨by decide, by decide⟩ rfl rfl (Nat.le_of_ble_eq_true rfl) dX3_knowingPairs_5 ?_
  exact aw_iret C hr hlk dX3_knowingPairs_8 ⟨ri (by first | rfl | (simp only [])), by rfl⟩
abbrev r_X3_metPairs : Room := { frames := 3, cells := 0, slots := 0, locals := 67 }
theorem cv_X3_metPairs : cV yX3_metPairs cX3_metPairs 1 (some .int) 0 := ⟨k2_97, k2_98, k2_99, k1_2, by decide, by decide, by decide +kernel⟩
set_option maxHeartbeats 4000000 in
set_option maxRecDepth 100000 in
theorem c_X3_metPairs (l : Launch) (D : va_G) (cI cC : ClassId) (adK adV : Nat → Nat) (h : Nat) (a : Nat → Nat) (T : Tw) (hn : T.1 ≤ 8) : FC l yX3_metPairs (wW yX3_metPairs cX3_metPairs 1 (some .int)) r_X3_metPairs D (tyC cI cC) adK adV (wTo cI h a T) [.ref h] 0 0 (fQ (some (.int (mPairs T 3))) (wTo cI h a T)) := by
  refine FC.of (own := RX3) (by decide) rfl (Nat.le_of_ble_eq_true rfl) ?_
  intro p9 e9 s9 m9 args9 below9 meth9 c9 A9 C hr hlk hmn
  show AW p9 l e9 r_X3_metPairs s9 m9 args9 below9 meth9 c9 D A9 1 0 0 _ 0 [(0, .ref h)] [] _
  refine aw_aload_n C dX3_metPairs_0 rfl ?_
  refine aw_aload_n C dX3_metPairs_1 rfl ?_
  refine aw_getf C 0 2 8 12 inX3 rfl (by decide) rfl k1_46 rfl rfl dX3_metPairs_2 ?_
  refine aw_callVp C (As := [.ref (a 4)]) (c_X3_mutualPairs_3 l D cI cC adK adV h a T hn) k2_92 cv_X3_mutualPairs_3 0 2 rfl rfl rfl [0, 1, 2, 3, 4, 5, 6, 7, 8] (by decide) rfl ⟨by decide, by decide⟩ rfl rfl ⟨by decide, by decide⟩ rfl rfl (Nat.le_of_ble_eq_true rfl) dX3_metPairs_5 ?_
  exact aw_iret C hr hlk dX3_metPairs_8 ⟨ri (by first | rfl | (simp only [])), by rfl⟩
abbrev r_X3_isCircle : Room := { frames := 1, cells := 0, slots := 0, locals := 21 }
theorem cv_X3_isCircle : cV yX3_isCircle cX3_isCircle 5 (some .boolean) 2 := ⟨k2_175, k2_176, k2_177, k1_2, by decide, by decide, by decide +kernel⟩
set_option maxHeartbeats 4000000 in
set_option maxRecDepth 100000 in
theorem c_X3_isCircle (l : Launch) (D : va_G) (cI cC : ClassId) (adK adV : Nat → Nat) (h : Nat) (a : Nat → Nat) (T : Tw) (x : Int32) (k : Bool) (hn : T.1 ≤ 8) : FC l yX3_isCircle (wW yX3_isCircle cX3_isCircle 5 (some .boolean)) r_X3_isCircle D (tyC cI cC) adK adV (wTo cI h a T) [.ref h, .int x, .int (b2 k)] 0 0 (fQ (some (.int (b2 (mCirc T x (bif k then 4 else 3))))) (wTo cI h a T)) := by
  refine FC.of (own := RX3) (by decide) rfl (Nat.le_of_ble_eq_true rfl) ?_
  intro p9 e9 s9 m9 args9 below9 meth9 c9 A9 C hr hlk hmn
  show AW p9 l e9 r_X3_isCircle s9 m9 args9 below9 meth9 c9 D A9 5 0 0 _ 0 [(0, .ref h), (1, .int x), (2, .int (b2 k))] [] _
  refine aw_iload_n C dX3_isCircle_0 rfl ?_
  refine aw_ifeq_b C 11 dX3_isCircle_1 (by decide) (fun c_1 => ?_) (fun c_1 => ?_)
  · skip
    refine aw_aload_n C dX3_isCircle_11 rfl ?_
    refine aw_getf C 0 2 8 12 inX3 rfl (by decide) rfl k1_46 rfl rfl dX3_isCircle_12 ?_
    refine aw_astore_n C true (lv' := [(0, .ref h), (1, .int x), (2, .int (b2 k)), (3, .ref (a 4))]) dX3_isCircle_15 (by decide) rfl rfl ?_
    refine aw_iconst C (0 : Int32) dX3_isCircle_16 (by decide) ?_
    refine aw_istore C true (lv' := [(0, .ref h), (1, .int x), (2, .int (b2 k)), (3, .ref (a 4)), (4, .int (0 : Int32))]) dX3_isCircle_17 (by decide) rfl rfl ?_
    refine aw_eq (lv' := [(0, .ref h), (1, .int x), (2, .int (b2 k)), (3, .ref (a 4)), (4, .int (nI 0))]) (ws' := wTo cI h a T) (by first | rfl | (simp only [itr, c_1])) rfl (by rfl) ?_
    refine aw_loop (LV := fun i => [(0, .ref h), (1, .int x), (2, .int (b2 k)), (3, .ref (a 4)), (4, .int (nI i))]) (WS := fun i => wTo cI h a T) T.1 (Inv := fun i => allB (fun p => !cBad T x 3 p) i = true) rfl ?_ ?_
    · intro hv19
      refine aw_iload C dX3_isCircle_19 rfl ?_
      refine aw_aload_n C dX3_isCircle_21 rfl ?_
      refine aw_pc 22 rfl ?_
      refine aw_getf C 0 2 0 12 inX3 rfl (by decide) rfl k1_32 rfl rfl dX3_isCircle_22 ?_
      refine aw_icmp_ge C 61 dX3_isCircle_25 (by decide) (fun c_25 => ?_) (fun c_25 => absurd c_25 (fun z => z (Int32.le_refl _)))
      refine aw_iconst C (1 : Int32) dX3_isCircle_61 (by decide) ?_
      exact aw_bret C (b := true) hr hlk dX3_isCircle_62 rfl ⟨rb (by simp only [c_1, cond_true, cond_false]; exact hv19.symm), by rfl⟩
    · intro i hi19 hv19 ih19
      refine aw_iload C dX3_isCircle_19 rfl ?_
      refine aw_aload_n C dX3_isCircle_21 rfl ?_
      refine aw_getf C 0 2 0 12 inX3 rfl (by decide) rfl k1_32 rfl rfl dX3_isCircle_22 ?_
      refine aw_icmp_ge C 61 dX3_isCircle_25 (by decide) (fun c_25 => absurd c_25 (nI_ge hi19 (by omega))) (fun c_25 => ?_)
      refine aw_iload_n C dX3_isCircle_28 rfl ?_
      refine aw_iload C dX3_isCircle_29 rfl ?_
      refine aw_pc 31 rfl ?_
      refine aw_callSp C (As := [.int x, .int (nI i)]) (c_X3_holds l D cI cC adK adV x (nI i)) k2_27 cs_X3_holds [] (by decide) rfl ⟨by decide, by decide⟩ rfl rfl ⟨by decide, by decide⟩ rfl rfl (Nat.le_of_ble_eq_true rfl) dX3_isCircle_31 ?_
      refine aw_ifeq_b C 55 dX3_isCircle_34 (by decide) (fun c_34 => ?_) (fun c_34 => ?_)
      · skip
        refine aw_iinc C (nI (i + 1)) dX3_isCircle_55 rfl (inc_nI _ 1) (by decide) rfl (lv' := [(0, .ref h), (1, .int x), (2, .int (b2 k)), (3, .ref (a 4)), (4, .int (nI (i + 1)))]) rfl ?_
        refine aw_goto C 19 dX3_isCircle_58 (by decide) ?_
        exact aw_eq (by first | rfl | (simp only [itr, c_1, c_34])) rfl (by first | rfl | (simp only [itr, c_1, c_34] <;> first | done | rfl)) (ih19 (allB_s hv19 (by simp only [cBad, bitOf, itr, c_1, c_34, decide_true, decide_false, Bool.not_true, Bool.not_false, Bool.true_and, Bool.false_and, Bool.and_true, Bool.and_false, Bool.true_or, Bool.false_or, Bool.or_true, Bool.or_false, cond_true, cond_false, eq_self, if_true, if_false, ite_true, ite_false])))
      · skip
        refine aw_iload_n C dX3_isCircle_37 rfl ?_
        refine aw_aload_n C dX3_isCircle_38 rfl ?_
        refine aw_iload C dX3_isCircle_39 rfl ?_
        refine aw_ialdN C 5 0 i rfl rfl rfl (by omega) (by decide) dX3_isCircle_41 ?_
        refine aw_iconst C (1 : Int32) dX3_isCircle_42 (by decide) ?_
        refine aw_iload C dX3_isCircle_43 rfl ?_
        refine aw_pc 45 rfl ?_
        refine aw_ishl C dX3_isCircle_45 ?_
        refine aw_ior C dX3_isCircle_46 ?_
        refine aw_iconst C (-1 : Int32) dX3_isCircle_47 (by decide) ?_
        refine aw_ixor C dX3_isCircle_48 ?_
        refine aw_iand C dX3_isCircle_49 ?_
        refine aw_if_eq C 55 dX3_isCircle_50 (by decide) (fun c_50 => ?_) (fun c_50 => ?_)
        · skip
          refine aw_iinc C (nI (i + 1)) dX3_isCircle_55 rfl (inc_nI _ 1) (by decide) rfl (lv' := [(0, .ref h), (1, .int x), (2, .int (b2 k)), (3, .ref (a 4)), (4, .int (nI (i + 1)))]) rfl ?_
          refine aw_goto C 19 dX3_isCircle_58 (by decide) ?_
          exact aw_eq (by first | rfl | (simp only [itr, c_1, c_34, c_50])) rfl (by first | rfl | (simp only [itr, c_1, c_34, c_50] <;> first | done | rfl)) (ih19 (allB_s hv19 (by simp only [cBad, bitOf, itr, c_1, c_34, c_50, decide_true, decide_false, Bool.not_true, Bool.not_false, Bool.true_and, Bool.false_and, Bool.and_true, Bool.and_false, Bool.true_or, Bool.false_or, Bool.or_true, Bool.or_false, cond_true, cond_false, eq_self, if_true, if_false, ite_true, ite_false])))
        · skip
          refine aw_iconst C (0 : Int32) dX3_isCircle_53 (by decide) ?_
          exact aw_bret C (b := false) hr hlk dX3_isCircle_54 rfl ⟨rb (by have cc : (fun p => !cBad T x 3 p) i = false := by {simp only [cBad, bitOf, c_34, c_50, decide_true, decide_false, Bool.not_true, Bool.not_false, Bool.true_and, Bool.false_and, Bool.and_true, Bool.and_false, Bool.true_or, Bool.false_or, Bool.or_true, Bool.or_false, cond_true, cond_false, eq_self, if_true, if_false, ite_true, ite_false]}; simp only [c_1, cond_true, cond_false]; exact (allB_f cc hi19).symm), by rfl⟩
  · skip
    refine aw_pc 4 rfl ?_
    refine aw_aload_n C dX3_isCircle_4 rfl ?_
    refine aw_getf C 0 2 9 12 inX3 rfl (by decide) rfl k1_47 rfl rfl dX3_isCircle_5 ?_
    refine aw_goto C 15 dX3_isCircle_8 (by decide) ?_
    refine aw_astore_n C true (lv' := [(0, .ref h), (1, .int x), (2, .int (b2 k)), (3, .ref (a 5))]) dX3_isCircle_15 (by decide) rfl rfl ?_
    refine aw_iconst C (0 : Int32) dX3_isCircle_16 (by decide) ?_
    refine aw_istore C true (lv' := [(0, .ref h), (1, .int x), (2, .int (b2 k)), (3, .ref (a 5)), (4, .int (0 : Int32))]) dX3_isCircle_17 (by decide) rfl rfl ?_
    refine aw_eq (lv' := [(0, .ref h), (1, .int x), (2, .int (b2 k)), (3, .ref (a 5)), (4, .int (nI 0))]) (ws' := wTo cI h a T) (by first | rfl | (simp only [itr, c_1])) rfl (by rfl) ?_
    refine aw_loop (LV := fun i => [(0, .ref h), (1, .int x), (2, .int (b2 k)), (3, .ref (a 5)), (4, .int (nI i))]) (WS := fun i => wTo cI h a T) T.1 (Inv := fun i => allB (fun p => !cBad T x 4 p) i = true) rfl ?_ ?_
    · intro hv19
      refine aw_iload C dX3_isCircle_19 rfl ?_
      refine aw_aload_n C dX3_isCircle_21 rfl ?_
      refine aw_getf C 0 2 0 12 inX3 rfl (by decide) rfl k1_32 rfl rfl dX3_isCircle_22 ?_
      refine aw_icmp_ge C 61 dX3_isCircle_25 (by decide) (fun c_25 => ?_) (fun c_25 => absurd c_25 (fun z => z (Int32.le_refl _)))
      refine aw_pc 61 rfl ?_
      refine aw_iconst C (1 : Int32) dX3_isCircle_61 (by decide) ?_
      exact aw_bret C (b := true) hr hlk dX3_isCircle_62 rfl ⟨rb (by simp only [c_1, cond_true, cond_false]; exact hv19.symm), by rfl⟩
    · intro i hi19 hv19 ih19
      refine aw_iload C dX3_isCircle_19 rfl ?_
      refine aw_aload_n C dX3_isCircle_21 rfl ?_
      refine aw_getf C 0 2 0 12 inX3 rfl (by decide) rfl k1_32 rfl rfl dX3_isCircle_22 ?_
      refine aw_icmp_ge C 61 dX3_isCircle_25 (by decide) (fun c_25 => absurd c_25 (nI_ge hi19 (by omega))) (fun c_25 => ?_)
      refine aw_iload_n C dX3_isCircle_28 rfl ?_
      refine aw_iload C dX3_isCircle_29 rfl ?_
      refine aw_callSp C (As := [.int x, .int (nI i)]) (c_X3_holds l D cI cC adK adV x (nI i)) k2_27 cs_X3_holds [] (by decide) rfl ⟨by decide, by decide⟩ rfl rfl ⟨by decide, by decide⟩ rfl rfl (Nat.le_of_ble_eq_true rfl) dX3_isCircle_31 ?_
      refine aw_ifeq_b C 55 dX3_isCircle_34 (by decide) (fun c_34 => ?_) (fun c_34 => ?_)
      · skip
        refine aw_pc 55 rfl ?_
        refine aw_iinc C (nI (i + 1)) dX3_isCircle_55 rfl (inc_nI _ 1) (by decide) rfl (lv' := [(0, .ref h), (1, .int x), (2, .int (b2 k)), (3, .ref (a 5)), (4, .int (nI (i + 1)))]) rfl ?_
        refine aw_goto C 19 dX3_isCircle_58 (by decide) ?_
        exact aw_eq (by first | rfl | (simp only [itr, c_1, c_34])) rfl (by first | rfl | (simp only [itr, c_1, c_34] <;> first | done | rfl)) (ih19 (allB_s hv19 (by simp only [cBad, bitOf, itr, c_1, c_34, decide_true, decide_false, Bool.not_true, Bool.not_false, Bool.true_and, Bool.false_and, Bool.and_true, Bool.and_false, Bool.true_or, Bool.false_or, Bool.or_true, Bool.or_false, cond_true, cond_false, eq_self, if_true, if_false, ite_true, ite_false])))
      · skip
        refine aw_iload_n C dX3_isCircle_37 rfl ?_
        refine aw_aload_n C dX3_isCircle_38 rfl ?_
        refine aw_iload C dX3_isCircle_39 rfl ?_
        refine aw_ialdN C 6 0 i rfl rfl rfl (by omega) (by decide) dX3_isCircle_41 ?_
        refine aw_iconst C (1 : Int32) dX3_isCircle_42 (by decide) ?_
        refine aw_iload C dX3_isCircle_43 rfl ?_
        refine aw_ishl C dX3_isCircle_45 ?_
        refine aw_ior C dX3_isCircle_46 ?_
        refine aw_pc 47 rfl ?_
        refine aw_iconst C (-1 : Int32) dX3_isCircle_47 (by decide) ?_
        refine aw_ixor C dX3_isCircle_48 ?_
        refine aw_iand C dX3_isCircle_49 ?_
        refine aw_if_eq C 55 dX3_isCircle_50 (by decide) (fun c_50 => ?_) (fun c_50 => ?_)
        · skip
          refine aw_iinc C (nI (i + 1)) dX3_isCircle_55 rfl (inc_nI _ 1) (by decide) rfl (lv' := [(0, .ref h), (1, .int x), (2, .int (b2 k)), (3, .ref (a 5)), (4, .int (nI (i + 1)))]) rfl ?_
          refine aw_goto C 19 dX3_isCircle_58 (by decide) ?_
          exact aw_eq (by first | rfl | (simp only [itr, c_1, c_34, c_50])) rfl (by first | rfl | (simp only [itr, c_1, c_34, c_50] <;> first | done | rfl)) (ih19 (allB_s hv19 (by simp only [cBad, bitOf, itr, c_1, c_34, c_50, decide_true, decide_false, Bool.not_true, Bool.not_false, Bool.true_and, Bool.false_and, Bool.and_true, Bool.and_false, Bool.true_or, Bool.false_or, Bool.or_true, Bool.or_false, cond_true, cond_false, eq_self, if_true, if_false, ite_true, ite_false])))
        · skip
          refine aw_iconst C (0 : Int32) dX3_isCircle_53 (by decide) ?_
          exact aw_bret C (b := false) hr hlk dX3_isCircle_54 rfl ⟨rb (by have cc : (fun p => !cBad T x 4 p) i = false := by {simp only [cBad, bitOf, c_34, c_50, decide_true, decide_false, Bool.not_true, Bool.not_false, Bool.true_and, Bool.false_and, Bool.and_true, Bool.and_false, Bool.true_or, Bool.false_or, Bool.or_true, Bool.or_false, cond_true, cond_false, eq_self, if_true, if_false, ite_true, ite_false]}; simp only [c_1, cond_true, cond_false]; exact (allB_f cc hi19).symm), by rfl⟩
abbrev r_X3_isSetOfOthers : Room := { frames := 1, cells := 0, slots := 0, locals := 20 }
theorem cv_X3_isSetOfOthers : cV yX3_isSetOfOthers cX3_isSetOfOthers 4 (some .boolean) 2 := ⟨k1_209, k0_1, k1_210, k1_2, by decide, by decide, by decide +kernel⟩
set_option maxHeartbeats 4000000 in
set_option maxRecDepth 100000 in
theorem c_X3_isSetOfOthers (l : Launch) (D : va_G) (cI cC : ClassId) (adK adV : Nat → Nat) (h : Nat) (a : Nat → Nat) (T : Tw) (q : Nat) (x : Int32) : FC l yX3_isSetOfOthers (wW yX3_isSetOfOthers cX3_isSetOfOthers 4 (some .boolean)) r_X3_isSetOfOthers D (tyC cI cC) adK adV (wTo cI h a T) [.ref h, .int (nI q), .int x] 0 0 (fQ (some (.int (b2 (mOthers T q x)))) (wTo cI h a T)) := by
  refine FC.of (own := RX3) (by decide) rfl (Nat.le_of_ble_eq_true rfl) ?_
  intro p9 e9 s9 m9 args9 below9 meth9 c9 A9 C hr hlk hmn
  show AW p9 l e9 r_X3_isSetOfOthers s9 m9 args9 below9 meth9 c9 D A9 4 0 0 _ 0 [(0, .ref h), (1, .int (nI q)), (2, .int x)] [] _
  refine aw_aload_n C dX3_isSetOfOthers_0 rfl ?_
  refine aw_callVp C (As := []) (c_X3_everybody l D cI cC adK adV h a T ) k1_211 cv_X3_everybody 0 2 rfl rfl rfl [0, 1, 2, 3, 4, 5, 6, 7, 8] (by decide) rfl ⟨by decide, by decide⟩ rfl rfl ⟨by decide, by decide⟩ rfl rfl (Nat.le_of_ble_eq_true rfl) dX3_isSetOfOthers_1 ?_
  refine aw_iconst C (1 : Int32) dX3_isSetOfOthers_4 (by decide) ?_
  refine aw_iload_n C dX3_isSetOfOthers_5 rfl ?_
  refine aw_ishl C dX3_isSetOfOthers_6 ?_
  refine aw_iconst C (-1 : Int32) dX3_isSetOfOthers_7 (by decide) ?_
  refine aw_ixor C dX3_isSetOfOthers_8 ?_
  refine aw_iand C dX3_isSetOfOthers_9 ?_
  refine aw_istore_n C true (lv' := [(0, .ref h), (1, .int (nI q)), (2, .int x), (3, .int ((evb T) &&& (((1 : Int32) <<< ((nI q) &&& 31)) ^^^ (-1 : Int32))))]) dX3_isSetOfOthers_10 (by decide) rfl rfl ?_
  refine aw_pc 11 rfl ?_
  refine aw_iload_n C dX3_isSetOfOthers_11 rfl ?_
  refine aw_iload_n C dX3_isSetOfOthers_12 rfl ?_
  refine aw_iconst C (-1 : Int32) dX3_isSetOfOthers_13 (by decide) ?_
  refine aw_ixor C dX3_isSetOfOthers_14 ?_
  refine aw_iand C dX3_isSetOfOthers_15 ?_
  refine aw_if_ne C 23 dX3_isSetOfOthers_16 (by decide) (fun c_16 => ?_) (fun c_16 => ?_)
  · skip
    refine aw_iconst C (0 : Int32) dX3_isSetOfOthers_23 (by decide) ?_
    exact aw_bret C (b := false) hr hlk dX3_isSetOfOthers_24 rfl ⟨rb (by simp only [mOthers, bitOf, c_16, decide_true, decide_false, Bool.not_true, Bool.not_false, Bool.true_and, Bool.false_and, Bool.and_true, Bool.and_false, Bool.true_or, Bool.false_or, Bool.or_true, Bool.or_false, cond_true, cond_false, eq_self, if_true, if_false, ite_true, ite_false]), by rfl⟩
  · skip
    refine aw_iconst C (1 : Int32) dX3_isSetOfOthers_19 (by decide) ?_
    refine aw_goto C 24 dX3_isSetOfOthers_20 (by decide) ?_
    refine aw_pc 24 rfl ?_
    exact aw_bret C (b := true) hr hlk dX3_isSetOfOthers_24 rfl ⟨rb (by simp only [mOthers, bitOf, c_16, decide_true, decide_false, Bool.not_true, Bool.not_false, Bool.true_and, Bool.false_and, Bool.and_true, Bool.and_false, Bool.true_or, Bool.false_or, Bool.or_true, Bool.or_false, cond_true, cond_false, eq_self, if_true, if_false, ite_true, ite_false]), by rfl⟩
abbrev r_X3_canBecome : Room := { frames := 2, cells := 0, slots := 0, locals := 43 }
theorem cv_X3_canBecome : cV yX3_canBecome cX3_canBecome 4 (some .boolean) 3 := ⟨k1_203, k1_204, k1_205, k1_2, by decide, by decide, by decide +kernel⟩
set_option maxHeartbeats 4000000 in
set_option maxRecDepth 100000 in
theorem c_X3_canBecome (l : Launch) (D : va_G) (cI cC : ClassId) (adK adV : Nat → Nat) (h : Nat) (a : Nat → Nat) (T : Tw) (q : Nat) (w : Int32) (v : Int32) : FC l yX3_canBecome (wW yX3_canBecome cX3_canBecome 4 (some .boolean)) r_X3_canBecome D (tyC cI cC) adK adV (wTo cI h a T) [.ref h, .int (nI q), .int w, .int v] 0 0 (fQ (some (.int (b2 (mCan T q w v)))) (wTo cI h a T)) := by
  refine FC.of (own := RX3) (by decide) rfl (Nat.le_of_ble_eq_true rfl) ?_
  intro p9 e9 s9 m9 args9 below9 meth9 c9 A9 C hr hlk hmn
  show AW p9 l e9 r_X3_canBecome s9 m9 args9 below9 meth9 c9 D A9 4 0 0 _ 0 [(0, .ref h), (1, .int (nI q)), (2, .int w), (3, .int v)] [] _
  refine aw_iload_n C dX3_canBecome_0 rfl ?_
  by_cases s_1_0 : w = (0 : Int32)
  · skip
    refine aw_tabIn C (0) 44 dX3_canBecome_1 (by rw [s_1_0]; rfl) (by decide) (by decide) rfl (by decide) ?_
    refine aw_iload_n C dX3_canBecome_44 rfl ?_
    refine aw_bipush C (7 : Int32) dX3_canBecome_45 (by decide) ?_
    refine aw_callSNp C (As := [.int v, .int (7 : Int32)]) (c_X4_isIn l D cI cC adK adV v (7 : Int32)) C.2.2.2.2.2.2.1.2.2.1 cs_X4_isIn [] (by decide) rfl ⟨by decide, by decide⟩ rfl rfl ⟨by decide, by decide⟩ rfl rfl (Nat.le_of_ble_eq_true rfl) dX3_canBecome_47 ?_
    exact aw_bret C (b := (in0 v (7 : Int32))) hr hlk dX3_canBecome_50 rfl ⟨rb (by simp [mCan, *]), by rfl⟩
  by_cases s_1_1 : w = (1 : Int32)
  · skip
    refine aw_tabIn C (1) 51 dX3_canBecome_1 (by rw [s_1_1]; rfl) (by decide) (by decide) rfl (by decide) ?_
    refine aw_iload_n C dX3_canBecome_51 rfl ?_
    refine aw_bipush C (16 : Int32) dX3_canBecome_52 (by decide) ?_
    refine aw_callSNp C (As := [.int v, .int (16 : Int32)]) (c_X4_isIn l D cI cC adK adV v (16 : Int32)) C.2.2.2.2.2.2.1.2.2.1 cs_X4_isIn [] (by decide) rfl ⟨by decide, by decide⟩ rfl rfl ⟨by decide, by decide⟩ rfl rfl (Nat.le_of_ble_eq_true rfl) dX3_canBecome_54 ?_
    refine aw_pc 57 rfl ?_
    exact aw_bret C (b := (in0 v (16 : Int32))) hr hlk dX3_canBecome_57 rfl ⟨rb (by simp [mCan, *]), by rfl⟩
  by_cases s_1_2 : w = (2 : Int32)
  · skip
    refine aw_tabIn C (2) 58 dX3_canBecome_1 (by rw [s_1_2]; rfl) (by decide) (by decide) rfl (by decide) ?_
    refine aw_iload_n C dX3_canBecome_58 rfl ?_
    refine aw_bipush C (12 : Int32) dX3_canBecome_59 (by decide) ?_
    refine aw_callSNp C (As := [.int v, .int (12 : Int32)]) (c_X4_isIn l D cI cC adK adV v (12 : Int32)) C.2.2.2.2.2.2.1.2.2.1 cs_X4_isIn [] (by decide) rfl ⟨by decide, by decide⟩ rfl rfl ⟨by decide, by decide⟩ rfl rfl (Nat.le_of_ble_eq_true rfl) dX3_canBecome_61 ?_
    exact aw_bret C (b := (in0 v (12 : Int32))) hr hlk dX3_canBecome_64 rfl ⟨rb (by simp [mCan, *]), by rfl⟩
  by_cases s_1_3 : w = (3 : Int32)
  · skip
    refine aw_tabIn C (3) 65 dX3_canBecome_1 (by rw [s_1_3]; rfl) (by decide) (by decide) rfl (by decide) ?_
    refine aw_aload_n C dX3_canBecome_65 rfl ?_
    refine aw_iload_n C dX3_canBecome_66 rfl ?_
    refine aw_iload_n C dX3_canBecome_67 rfl ?_
    refine aw_callVp C (As := [.int (nI q), .int v]) (c_X3_isSetOfOthers l D cI cC adK adV h a T q v) k1_207 cv_X3_isSetOfOthers 0 2 rfl rfl rfl [0, 1, 2, 3, 4, 5, 6, 7, 8] (by decide) rfl ⟨by decide, by decide⟩ rfl rfl ⟨by decide, by decide⟩ rfl rfl (Nat.le_of_ble_eq_true rfl) dX3_canBecome_68 ?_
    exact aw_bret C (b := (mOthers T q v)) hr hlk dX3_canBecome_71 rfl ⟨rb (by simp [mCan, *]), by rfl⟩
  by_cases s_1_4 : w = (4 : Int32)
  · skip
    refine aw_tabIn C (4) 65 dX3_canBecome_1 (by rw [s_1_4]; rfl) (by decide) (by decide) rfl (by decide) ?_
    refine aw_pc 65 rfl ?_
    refine aw_aload_n C dX3_canBecome_65 rfl ?_
    refine aw_iload_n C dX3_canBecome_66 rfl ?_
    refine aw_iload_n C dX3_canBecome_67 rfl ?_
    refine aw_callVp C (As := [.int (nI q), .int v]) (c_X3_isSetOfOthers l D cI cC adK adV h a T q v) k1_207 cv_X3_isSetOfOthers 0 2 rfl rfl rfl [0, 1, 2, 3, 4, 5, 6, 7, 8] (by decide) rfl ⟨by decide, by decide⟩ rfl rfl ⟨by decide, by decide⟩ rfl rfl (Nat.le_of_ble_eq_true rfl) dX3_canBecome_68 ?_
    exact aw_bret C (b := (mOthers T q v)) hr hlk dX3_canBecome_71 rfl ⟨rb (by simp [mCan, *]), by rfl⟩
  by_cases s_1_5 : w = (5 : Int32)
  · skip
    refine aw_tabIn C (5) 72 dX3_canBecome_1 (by rw [s_1_5]; rfl) (by decide) (by decide) rfl (by decide) ?_
    refine aw_iload_n C dX3_canBecome_72 rfl ?_
    refine aw_iconst C (2 : Int32) dX3_canBecome_73 (by decide) ?_
    refine aw_callSNp C (As := [.int v, .int (2 : Int32)]) (c_X4_isIn l D cI cC adK adV v (2 : Int32)) C.2.2.2.2.2.2.1.2.2.1 cs_X4_isIn [] (by decide) rfl ⟨by decide, by decide⟩ rfl rfl ⟨by decide, by decide⟩ rfl rfl (Nat.le_of_ble_eq_true rfl) dX3_canBecome_74 ?_
    exact aw_bret C (b := (in0 v (2 : Int32))) hr hlk dX3_canBecome_77 rfl ⟨rb (by simp [mCan, *]), by rfl⟩
  by_cases s_1_6 : w = (6 : Int32)
  · skip
    refine aw_tabIn C (6) 78 dX3_canBecome_1 (by rw [s_1_6]; rfl) (by decide) (by decide) rfl (by decide) ?_
    refine aw_iload_n C dX3_canBecome_78 rfl ?_
    refine aw_pc 79 rfl ?_
    refine aw_if_lt C 93 dX3_canBecome_79 (by decide) (fun c_79 => ?_) (fun c_79 => ?_)
    · skip
      refine aw_iconst C (0 : Int32) dX3_canBecome_93 (by decide) ?_
      exact aw_bret C (b := false) hr hlk dX3_canBecome_94 rfl ⟨rb (by simp [mCan, *]), by rfl⟩
    · skip
      refine aw_iload_n C dX3_canBecome_82 rfl ?_
      refine aw_sipush C (9999 : Int32) dX3_canBecome_83 (by decide) ?_
      refine aw_icmp_gt C 93 dX3_canBecome_86 (by decide) (fun c_86 => ?_) (fun c_86 => ?_)
      · skip
        refine aw_iconst C (0 : Int32) dX3_canBecome_93 (by decide) ?_
        exact aw_bret C (b := false) hr hlk dX3_canBecome_94 rfl ⟨rb (by simp [mCan, *]), by rfl⟩
      · skip
        refine aw_iconst C (1 : Int32) dX3_canBecome_89 (by decide) ?_
        refine aw_goto C 94 dX3_canBecome_90 (by decide) ?_
        refine aw_pc 94 rfl ?_
        exact aw_bret C (b := true) hr hlk dX3_canBecome_94 rfl ⟨rb (by simp [mCan, *]), by rfl⟩
  refine aw_tabOut C 95 dX3_canBecome_1 (by have q0 := ne_toInt s_1_0 (z := 0) rfl; have q1 := ne_toInt s_1_1 (z := 1) rfl; have q2 := ne_toInt s_1_2 (z := 2) rfl; have q3 := ne_toInt s_1_3 (z := 3) rfl; have q4 := ne_toInt s_1_4 (z := 4) rfl; have q5 := ne_toInt s_1_5 (z := 5) rfl; have q6 := ne_toInt s_1_6 (z := 6) rfl; omega) (by decide) ?_
  refine aw_iconst C (0 : Int32) dX3_canBecome_95 (by decide) ?_
  exact aw_bret C (b := false) hr hlk dX3_canBecome_96 rfl ⟨rb (by simp [mCan, *]), by rfl⟩
abbrev r_X3_mingle : Room := { frames := 2, cells := 0, slots := 0, locals := 47 }
theorem cv_X3_mingle : cV yX3_mingle cX3_mingle 3 none 2 := ⟨k2_73, k0_5, k2_74, k1_2, by decide, by decide, by decide +kernel⟩
set_option maxHeartbeats 4000000 in
set_option maxRecDepth 100000 in
theorem c_X3_mingle (l : Launch) (D : va_G) (cI cC : ClassId) (adK adV : Nat → Nat) (h : Nat) (a : Nat → Nat) (T : Tw) (u : Nat) (v : Nat) (hu : u < 8) (hv : v < 8) : FC l yX3_mingle (wW yX3_mingle cX3_mingle 3 none) r_X3_mingle D (tyC cI cC) adK adV (wTo cI h a T) [.ref h, .int (nI u), .int (nI v)] 0 0 (fQ none (wTo cI h a (tMingle T u v))) := by
  refine FC.of (own := RX3) (by decide) rfl (Nat.le_of_ble_eq_true rfl) ?_
  intro p9 e9 s9 m9 args9 below9 meth9 c9 A9 C hr hlk hmn
  show AW p9 l e9 r_X3_mingle s9 m9 args9 below9 meth9 c9 D A9 3 0 0 _ 0 [(0, .ref h), (1, .int (nI u)), (2, .int (nI v))] [] _
  refine aw_aload_n C dX3_mingle_0 rfl ?_
  refine aw_iload_n C dX3_mingle_1 rfl ?_
  refine aw_aload_n C dX3_mingle_2 rfl ?_
  refine aw_getf C 0 2 7 12 inX3 rfl (by decide) rfl k1_45 rfl rfl dX3_mingle_3 ?_
  refine aw_iload_n C dX3_mingle_6 rfl ?_
  refine aw_ialdN C 4 0 v rfl rfl rfl (by omega) (by decide) dX3_mingle_7 ?_
  refine aw_callVp C (As := [.int (nI u), .int (T.2.2.1 2 v)]) (c_X3_mindsGuise l D cI cC adK adV h a T u (T.2.2.1 2 v) (by omega)) k2_75 cv_X3_mindsGuise 0 2 rfl rfl rfl [0, 1, 2, 3, 4, 5, 6, 7, 8] (by decide) rfl ⟨by decide, by decide⟩ rfl rfl ⟨by decide, by decide⟩ rfl rfl (Nat.le_of_ble_eq_true rfl) dX3_mingle_8 ?_
  refine aw_ifeq_b C 26 dX3_mingle_11 (by decide) (fun c_11 => ?_) (fun c_11 => ?_)
  · skip
    refine aw_aload_n C dX3_mingle_26 rfl ?_
    refine aw_pc 27 rfl ?_
    refine aw_iload_n C dX3_mingle_27 rfl ?_
    refine aw_aload_n C dX3_mingle_28 rfl ?_
    refine aw_getf C 0 2 7 12 inX3 rfl (by decide) rfl k1_45 rfl rfl dX3_mingle_29 ?_
    refine aw_iload_n C dX3_mingle_32 rfl ?_
    refine aw_ialdN C 4 0 u rfl rfl rfl (by omega) (by decide) dX3_mingle_33 ?_
    refine aw_callVp C (As := [.int (nI v), .int (T.2.2.1 2 u)]) (c_X3_mindsGuise l D cI cC adK adV h a T v (T.2.2.1 2 u) (by omega)) k2_75 cv_X3_mindsGuise 0 2 rfl rfl rfl [0, 1, 2, 3, 4, 5, 6, 7, 8] (by decide) rfl ⟨by decide, by decide⟩ rfl rfl ⟨by decide, by decide⟩ rfl rfl (Nat.le_of_ble_eq_true rfl) dX3_mingle_34 ?_
    refine aw_ifeq_b C 52 dX3_mingle_37 (by decide) (fun c_37 => ?_) (fun c_37 => ?_)
    · skip
      exact aw_vret C hr hlk dX3_mingle_52 ⟨rfl, by simp only [tMingle, tMeets, bitOf, cond_true, cond_false, c_11, c_37] <;> first | done | rfl⟩
    · skip
      refine aw_aload_n C dX3_mingle_40 rfl ?_
      refine aw_getf C 0 2 8 12 inX3 rfl (by decide) rfl k1_46 rfl rfl dX3_mingle_41 ?_
      refine aw_pc 44 rfl ?_
      refine aw_iload_n C dX3_mingle_44 rfl ?_
      refine aw_dup2 C dX3_mingle_45 rfl rfl ?_
      refine aw_ialdN C 5 0 v rfl rfl rfl (by omega) (by decide) dX3_mingle_46 ?_
      refine aw_iconst C (1 : Int32) dX3_mingle_47 (by decide) ?_
      refine aw_iload_n C dX3_mingle_48 rfl ?_
      refine aw_ishl C dX3_mingle_49 ?_
      refine aw_ior C dX3_mingle_50 ?_
      refine aw_iastN C 5 0 v rfl rfl rfl (by omega) (by decide) (ws' := wTo cI h a (sP T 3 v ((T.2.2.1 3 v) ||| ((1 : Int32) <<< ((nI u) &&& 31))))) rfl dX3_mingle_51 ?_
      exact aw_vret C hr hlk dX3_mingle_52 ⟨rfl, by simp only [tMingle, tMeets, bitOf, cond_true, cond_false, c_11, c_37] <;> first | done | rfl⟩
  · skip
    refine aw_aload_n C dX3_mingle_14 rfl ?_
    refine aw_pc 15 rfl ?_
    refine aw_getf C 0 2 8 12 inX3 rfl (by decide) rfl k1_46 rfl rfl dX3_mingle_15 ?_
    refine aw_iload_n C dX3_mingle_18 rfl ?_
    refine aw_dup2 C dX3_mingle_19 rfl rfl ?_
    refine aw_ialdN C 5 0 u rfl rfl rfl (by omega) (by decide) dX3_mingle_20 ?_
    refine aw_iconst C (1 : Int32) dX3_mingle_21 (by decide) ?_
    refine aw_iload_n C dX3_mingle_22 rfl ?_
    refine aw_ishl C dX3_mingle_23 ?_
    refine aw_ior C dX3_mingle_24 ?_
    refine aw_iastN C 5 0 u rfl rfl rfl (by omega) (by decide) (ws' := wTo cI h a (sP T 3 u ((T.2.2.1 3 u) ||| ((1 : Int32) <<< ((nI v) &&& 31))))) rfl dX3_mingle_25 ?_
    refine aw_aload_n C dX3_mingle_26 rfl ?_
    refine aw_pc 27 rfl ?_
    refine aw_iload_n C dX3_mingle_27 rfl ?_
    refine aw_aload_n C dX3_mingle_28 rfl ?_
    refine aw_getf C 0 2 7 12 inX3 rfl (by decide) rfl k1_45 rfl rfl dX3_mingle_29 ?_
    refine aw_iload_n C dX3_mingle_32 rfl ?_
    refine aw_ialdN C 4 0 u rfl rfl rfl (by omega) (by decide) dX3_mingle_33 ?_
    refine aw_callVp C (As := [.int (nI v), .int ((sP T 3 u ((T.2.2.1 3 u) ||| ((1 : Int32) <<< ((nI v) &&& 31)))).2.2.1 2 u)]) (c_X3_mindsGuise l D cI cC adK adV h a (sP T 3 u ((T.2.2.1 3 u) ||| ((1 : Int32) <<< ((nI v) &&& 31)))) v ((sP T 3 u ((T.2.2.1 3 u) ||| ((1 : Int32) <<< ((nI v) &&& 31)))).2.2.1 2 u) (by omega)) k2_75 cv_X3_mindsGuise 0 2 rfl rfl rfl [0, 1, 2, 3, 4, 5, 6, 7, 8] (by decide) rfl ⟨by decide, by decide⟩ rfl rfl ⟨by decide, by decide⟩ rfl rfl (Nat.le_of_ble_eq_true rfl) dX3_mingle_34 ?_
    refine aw_ifeq_b C 52 dX3_mingle_37 (by decide) (fun c_37 => ?_) (fun c_37 => ?_)
    · skip
      exact aw_vret C hr hlk dX3_mingle_52 ⟨rfl, by simp only [tMingle, tMeets, bitOf, cond_true, cond_false, c_11, c_37] <;> first | done | rfl⟩
    · skip
      refine aw_aload_n C dX3_mingle_40 rfl ?_
      refine aw_getf C 0 2 8 12 inX3 rfl (by decide) rfl k1_46 rfl rfl dX3_mingle_41 ?_
      refine aw_pc 44 rfl ?_
      refine aw_iload_n C dX3_mingle_44 rfl ?_
      refine aw_dup2 C dX3_mingle_45 rfl rfl ?_
      refine aw_ialdN C 5 0 v rfl rfl rfl (by omega) (by decide) dX3_mingle_46 ?_
      refine aw_iconst C (1 : Int32) dX3_mingle_47 (by decide) ?_
      refine aw_iload_n C dX3_mingle_48 rfl ?_
      refine aw_ishl C dX3_mingle_49 ?_
      refine aw_ior C dX3_mingle_50 ?_
      refine aw_iastN C 5 0 v rfl rfl rfl (by omega) (by decide) (ws' := wTo cI h a (sP (sP T 3 u ((T.2.2.1 3 u) ||| ((1 : Int32) <<< ((nI v) &&& 31)))) 3 v (((sP T 3 u ((T.2.2.1 3 u) ||| ((1 : Int32) <<< ((nI v) &&& 31)))).2.2.1 3 v) ||| ((1 : Int32) <<< ((nI u) &&& 31))))) rfl dX3_mingle_51 ?_
      exact aw_vret C hr hlk dX3_mingle_52 ⟨rfl, by simp only [tMingle, tMeets, bitOf, cond_true, cond_false, c_11, c_37] <;> first | done | rfl⟩
abbrev r_X3_comeToKnow : Room := { frames := 1, cells := 0, slots := 0, locals := 22 }
theorem cv_X3_comeToKnow : cV yX3_comeToKnow cX3_comeToKnow 4 none 2 := ⟨k2_65, k0_3, k2_66, k1_2, by decide, by decide, by decide +kernel⟩
set_option maxHeartbeats 4000000 in
set_option maxRecDepth 100000 in
theorem c_X3_comeToKnow (l : Launch) (D : va_G) (cI cC : ClassId) (adK adV : Nat → Nat) (h : Nat) (a : Nat → Nat) (T : Tw) (u : Nat) (v : Nat) (hu : u < 8) (hv : v < 8) : FC l yX3_comeToKnow (wW yX3_comeToKnow cX3_comeToKnow 4 none) r_X3_comeToKnow D (tyC cI cC) adK adV (wTo cI h a T) [.ref h, .int (nI u), .int (nI v)] 0 0 (fQ none (wTo cI h a (tCtk T u v))) := by
  refine FC.of (own := RX3) (by decide) rfl (Nat.le_of_ble_eq_true rfl) ?_
  intro p9 e9 s9 m9 args9 below9 meth9 c9 A9 C hr hlk hmn
  show AW p9 l e9 r_X3_comeToKnow s9 m9 args9 below9 meth9 c9 D A9 4 0 0 _ 0 [(0, .ref h), (1, .int (nI u)), (2, .int (nI v))] [] _
  refine aw_aload_n C dX3_comeToKnow_0 rfl ?_
  refine aw_getf C 0 2 9 12 inX3 rfl (by decide) rfl k1_47 rfl rfl dX3_comeToKnow_1 ?_
  refine aw_iload_n C dX3_comeToKnow_4 rfl ?_
  refine aw_ialdN C 6 0 u rfl rfl rfl (by omega) (by decide) dX3_comeToKnow_5 ?_
  refine aw_iload_n C dX3_comeToKnow_6 rfl ?_
  refine aw_callSp C (As := [.int (T.2.2.1 4 u), .int (nI v)]) (c_X3_holds l D cI cC adK adV (T.2.2.1 4 u) (nI v)) k2_27 cs_X3_holds [] (by decide) rfl ⟨by decide, by decide⟩ rfl rfl ⟨by decide, by decide⟩ rfl rfl (Nat.le_of_ble_eq_true rfl) dX3_comeToKnow_7 ?_
  refine aw_ifeq_b C 14 dX3_comeToKnow_10 (by decide) (fun c_10 => ?_) (fun c_10 => ?_)
  · skip
    refine aw_aload_n C dX3_comeToKnow_14 rfl ?_
    refine aw_getf C 0 2 5 12 inX3 rfl (by decide) rfl k1_43 rfl rfl dX3_comeToKnow_15 ?_
    refine aw_pc 18 rfl ?_
    refine aw_iload_n C dX3_comeToKnow_18 rfl ?_
    refine aw_ialdN C 2 0 u rfl rfl rfl (by omega) (by decide) dX3_comeToKnow_19 ?_
    refine aw_aload_n C dX3_comeToKnow_20 rfl ?_
    refine aw_getf C 0 2 9 12 inX3 rfl (by decide) rfl k1_47 rfl rfl dX3_comeToKnow_21 ?_
    refine aw_iload_n C dX3_comeToKnow_24 rfl ?_
    refine aw_ialdN C 6 0 u rfl rfl rfl (by omega) (by decide) dX3_comeToKnow_25 ?_
    refine aw_callSp C (As := [.int (T.2.2.1 4 u)]) (c_J6_bitCount_0f7a4 l D cI cC adK adV (T.2.2.1 4 u)) k1_189 cs_J6_bitCount_0f7a4 [] (by decide) rfl ⟨by decide, by decide⟩ rfl rfl ⟨by decide, by decide⟩ rfl rfl (Nat.le_of_ble_eq_true rfl) dX3_comeToKnow_26 ?_
    refine aw_callSp C (As := [.int (T.2.2.1 0 u), .int (bcE (T.2.2.1 4 u))]) (c_X0_gladden l D cI cC adK adV (T.2.2.1 0 u) (bcE (T.2.2.1 4 u))) k1_195 cs_X0_gladden [] (by decide) rfl ⟨by decide, by decide⟩ rfl rfl ⟨by decide, by decide⟩ rfl rfl (Nat.le_of_ble_eq_true rfl) dX3_comeToKnow_29 ?_
    refine aw_istore_n C true (lv' := [(0, .ref h), (1, .int (nI u)), (2, .int (nI v)), (3, .int (mGlad (T.2.2.1 0 u) (bcE (T.2.2.1 4 u))))]) dX3_comeToKnow_32 (by decide) rfl rfl ?_
    refine aw_aload_n C dX3_comeToKnow_33 rfl ?_
    refine aw_pc 34 rfl ?_
    refine aw_ldc C k2_47 dX3_comeToKnow_34 ?_
    refine aw_aload_n C dX3_comeToKnow_36 rfl ?_
    refine aw_getf C 0 2 2 12 inX3 rfl (by decide) rfl k1_37 rfl rfl dX3_comeToKnow_37 ?_
    refine aw_iload_n C dX3_comeToKnow_40 rfl ?_
    refine aw_iadd C dX3_comeToKnow_41 ?_
    refine aw_mmin C k2_5 (by decide) (Nat.le_of_ble_eq_true rfl) (by decide) (by decide) dX3_comeToKnow_42 ?_
    refine aw_putf C 0 2 2 12 tyX3 inX3 tyX3_ok nmX3 rfl (by decide) rfl k1_37 rfl rfl rfl rfl rfl (Nat.le_of_ble_eq_true rfl) (ws' := wTo cI h a (sG T 3 (mn (99999 : Int32) ((T.2.1 3) + (mGlad (T.2.2.1 0 u) (bcE (T.2.2.1 4 u))))))) rfl dX3_comeToKnow_45 ?_
    refine aw_aload_n C dX3_comeToKnow_48 rfl ?_
    refine aw_getf C 0 2 9 12 inX3 rfl (by decide) rfl k1_47 rfl rfl dX3_comeToKnow_49 ?_
    refine aw_iload_n C dX3_comeToKnow_52 rfl ?_
    refine aw_pc 53 rfl ?_
    refine aw_dup2 C dX3_comeToKnow_53 rfl rfl ?_
    refine aw_ialdN C 6 0 u rfl rfl rfl (by omega) (by decide) dX3_comeToKnow_54 ?_
    refine aw_iconst C (1 : Int32) dX3_comeToKnow_55 (by decide) ?_
    refine aw_iload_n C dX3_comeToKnow_56 rfl ?_
    refine aw_ishl C dX3_comeToKnow_57 ?_
    refine aw_ior C dX3_comeToKnow_58 ?_
    refine aw_iastN C 6 0 u rfl rfl rfl (by omega) (by decide) (ws' := wTo cI h a (sP (sG T 3 (mn (99999 : Int32) ((T.2.1 3) + (mGlad (T.2.2.1 0 u) (bcE (T.2.2.1 4 u)))))) 4 u (((sG T 3 (mn (99999 : Int32) ((T.2.1 3) + (mGlad (T.2.2.1 0 u) (bcE (T.2.2.1 4 u)))))).2.2.1 4 u) ||| ((1 : Int32) <<< ((nI v) &&& 31))))) rfl dX3_comeToKnow_59 ?_
    exact aw_vret C hr hlk dX3_comeToKnow_60 ⟨rfl, by have cc : tKno T u v = _ := c_10; simp only [tCtk, cc, cond_true, cond_false] <;> first | done | rfl⟩
  · skip
    exact aw_vret C hr hlk dX3_comeToKnow_13 ⟨rfl, by have cc : tKno T u v = _ := c_10; simp only [tCtk, cc, cond_true, cond_false] <;> first | done | rfl⟩
abbrev r_X3_goBy : Room := { frames := 1, cells := 0, slots := 0, locals := 15 }
theorem cv_X3_goBy : cV yX3_goBy cX3_goBy 2 none 1 := ⟨k2_69, k0_4, k2_70, k1_2, by decide, by decide, by decide +kernel⟩
set_option maxHeartbeats 4000000 in
set_option maxRecDepth 100000 in
theorem c_X3_goBy (l : Launch) (D : va_G) (cI cC : ClassId) (adK adV : Nat → Nat) (h : Nat) (a : Nat → Nat) (T : Tw) (u : Nat) (hu : u < 8) : FC l yX3_goBy (wW yX3_goBy cX3_goBy 2 none) r_X3_goBy D (tyC cI cC) adK adV (wTo cI h a T) [.ref h, .int (nI u)] 0 0 (fQ none (wTo cI h a (tPby T u))) := by
  refine FC.of (own := RX3) (by decide) rfl (Nat.le_of_ble_eq_true rfl) ?_
  intro p9 e9 s9 m9 args9 below9 meth9 c9 A9 C hr hlk hmn
  show AW p9 l e9 r_X3_goBy s9 m9 args9 below9 meth9 c9 D A9 2 0 0 _ 0 [(0, .ref h), (1, .int (nI u))] [] _
  refine aw_aload_n C dX3_goBy_0 rfl ?_
  refine aw_getf C 0 2 11 12 inX3 rfl (by decide) rfl k1_49 rfl rfl dX3_goBy_1 ?_
  refine aw_iload_n C dX3_goBy_4 rfl ?_
  refine aw_sipush C (9999 : Int32) dX3_goBy_5 (by decide) ?_
  refine aw_aload_n C dX3_goBy_8 rfl ?_
  refine aw_getf C 0 2 11 12 inX3 rfl (by decide) rfl k1_49 rfl rfl dX3_goBy_9 ?_
  refine aw_iload_n C dX3_goBy_12 rfl ?_
  refine aw_ialdN C 8 0 u rfl rfl rfl (by omega) (by decide) dX3_goBy_13 ?_
  refine aw_iconst C (1 : Int32) dX3_goBy_14 (by decide) ?_
  refine aw_pc 15 rfl ?_
  refine aw_iadd C dX3_goBy_15 ?_
  refine aw_mmin C k2_5 (by decide) (Nat.le_of_ble_eq_true rfl) (by decide) (by decide) dX3_goBy_16 ?_
  refine aw_iastN C 8 0 u rfl rfl rfl (by omega) (by decide) (ws' := wTo cI h a (sP T 6 u (mn (9999 : Int32) ((T.2.2.1 6 u) + (1 : Int32))))) rfl dX3_goBy_19 ?_
  exact aw_vret C hr hlk dX3_goBy_20 ⟨rfl, by rfl⟩
abbrev r_X3_seeEachOther : Room := { frames := 3, cells := 0, slots := 0, locals := 65 }
theorem cv_X3_seeEachOther : cV yX3_seeEachOther cX3_seeEachOther 3 none 2 := ⟨k2_59, k0_2, k2_60, k1_2, by decide, by decide, by decide +kernel⟩
set_option maxHeartbeats 4000000 in
set_option maxRecDepth 100000 in
theorem c_X3_seeEachOther (l : Launch) (D : va_G) (cI cC : ClassId) (adK adV : Nat → Nat) (h : Nat) (a : Nat → Nat) (T : Tw) (u : Nat) (v : Nat) (hu : u < 8) (hv : v < 8) : FC l yX3_seeEachOther (wW yX3_seeEachOther cX3_seeEachOther 3 none) r_X3_seeEachOther D (tyC cI cC) adK adV (wTo cI h a T) [.ref h, .int (nI u), .int (nI v)] 0 0 (fQ none (wTo cI h a (tBare T u v))) := by
  refine FC.of (own := RX3) (by decide) rfl (Nat.le_of_ble_eq_true rfl) ?_
  intro p9 e9 s9 m9 args9 below9 meth9 c9 A9 C hr hlk hmn
  show AW p9 l e9 r_X3_seeEachOther s9 m9 args9 below9 meth9 c9 D A9 3 0 0 _ 0 [(0, .ref h), (1, .int (nI u)), (2, .int (nI v))] [] _
  refine aw_aload_n C dX3_seeEachOther_0 rfl ?_
  refine aw_iload_n C dX3_seeEachOther_1 rfl ?_
  refine aw_iload_n C dX3_seeEachOther_2 rfl ?_
  refine aw_callVp C (As := [.int (nI u), .int (nI v)]) (c_X3_wouldSee l D cI cC adK adV h a T u v (by omega) (by omega)) k2_61 cv_X3_wouldSee 0 2 rfl rfl rfl [0, 1, 2, 3, 4, 5, 6, 7, 8] (by decide) rfl ⟨by decide, by decide⟩ rfl rfl ⟨by decide, by decide⟩ rfl rfl (Nat.le_of_ble_eq_true rfl) dX3_seeEachOther_3 ?_
  refine aw_ifne_b C 10 dX3_seeEachOther_6 (by decide) (fun c_6 => ?_) (fun c_6 => ?_)
  · skip
    refine aw_aload_n C dX3_seeEachOther_10 rfl ?_
    refine aw_iload_n C dX3_seeEachOther_11 rfl ?_
    refine aw_iload_n C dX3_seeEachOther_12 rfl ?_
    refine aw_callVp C (As := [.int (nI u), .int (nI v)]) (c_X3_bothMet l D cI cC adK adV h a T u v (by omega) (by omega)) k2_62 cv_X3_bothMet 0 2 rfl rfl rfl [0, 1, 2, 3, 4, 5, 6, 7, 8] (by decide) rfl ⟨by decide, by decide⟩ rfl rfl ⟨by decide, by decide⟩ rfl rfl (Nat.le_of_ble_eq_true rfl) dX3_seeEachOther_13 ?_
    refine aw_pc 16 rfl ?_
    refine aw_ifeq_b C 34 dX3_seeEachOther_16 (by decide) (fun c_16 => ?_) (fun c_16 => ?_)
    · skip
      refine aw_aload_n C dX3_seeEachOther_34 rfl ?_
      refine aw_iload_n C dX3_seeEachOther_35 rfl ?_
      refine aw_callVdv C (As := [.int (nI u)]) (c_X3_goBy l D cI cC adK adV h a T u (by omega)) k2_67 cv_X3_goBy 0 2 rfl rfl rfl [0, 1, 2, 3, 4, 5, 6, 7, 8] (by decide) rfl (wr := ([] : va_W)) [] rfl (by decide) (by decide) [0, 1, 2, 3, 4, 5, 6, 7, 8] (by decide) (ws' := wTo cI h a (tPby T u)) rfl ⟨by decide, by decide⟩ rfl rfl ⟨by decide, by decide⟩ rfl rfl (Nat.le_of_ble_eq_true rfl) dX3_seeEachOther_36 ?_
      refine aw_aload_n C dX3_seeEachOther_39 rfl ?_
      refine aw_iload_n C dX3_seeEachOther_40 rfl ?_
      refine aw_callVdv C (As := [.int (nI v)]) (c_X3_goBy l D cI cC adK adV h a (tPby T u) v (by omega)) k2_67 cv_X3_goBy 0 2 rfl rfl rfl [0, 1, 2, 3, 4, 5, 6, 7, 8] (by decide) rfl (wr := ([] : va_W)) [] rfl (by decide) (by decide) [0, 1, 2, 3, 4, 5, 6, 7, 8] (by decide) (ws' := wTo cI h a (tPby (tPby T u) v)) rfl ⟨by decide, by decide⟩ rfl rfl ⟨by decide, by decide⟩ rfl rfl (Nat.le_of_ble_eq_true rfl) dX3_seeEachOther_41 ?_
      exact aw_vret C hr hlk dX3_seeEachOther_44 ⟨rfl, by simp only [tBare, cond_true, cond_false, c_6, c_16] <;> first | done | rfl⟩
    · skip
      refine aw_aload_n C dX3_seeEachOther_19 rfl ?_
      refine aw_iload_n C dX3_seeEachOther_20 rfl ?_
      refine aw_pc 21 rfl ?_
      refine aw_iload_n C dX3_seeEachOther_21 rfl ?_
      refine aw_callVdv C (As := [.int (nI u), .int (nI v)]) (c_X3_comeToKnow l D cI cC adK adV h a T u v (by omega) (by omega)) k2_63 cv_X3_comeToKnow 0 2 rfl rfl rfl [0, 1, 2, 3, 4, 5, 6, 7, 8] (by decide) rfl (wr := ([] : va_W)) [] rfl (by decide) (by decide) [0, 1, 2, 3, 4, 5, 6, 7, 8] (by decide) (ws' := wTo cI h a (tCtk T u v)) rfl ⟨by decide, by decide⟩ rfl rfl ⟨by decide, by decide⟩ rfl rfl (Nat.le_of_ble_eq_true rfl) dX3_seeEachOther_22 ?_
      refine aw_aload_n C dX3_seeEachOther_25 rfl ?_
      refine aw_iload_n C dX3_seeEachOther_26 rfl ?_
      refine aw_iload_n C dX3_seeEachOther_27 rfl ?_
      refine aw_callVdv C (As := [.int (nI v), .int (nI u)]) (c_X3_comeToKnow l D cI cC adK adV h a (tCtk T u v) v u (by omega) (by omega)) k2_63 cv_X3_comeToKnow 0 2 rfl rfl rfl [0, 1, 2, 3, 4, 5, 6, 7, 8] (by decide) rfl (wr := ([] : va_W)) [] rfl (by decide) (by decide) [0, 1, 2, 3, 4, 5, 6, 7, 8] (by decide) (ws' := wTo cI h a (tCtk (tCtk T u v) v u)) rfl ⟨by decide, by decide⟩ rfl rfl ⟨by decide, by decide⟩ rfl rfl (Nat.le_of_ble_eq_true rfl) dX3_seeEachOther_28 ?_
      refine aw_goto C 44 dX3_seeEachOther_31 (by decide) ?_
      exact aw_vret C hr hlk dX3_seeEachOther_44 ⟨rfl, by simp only [tBare, cond_true, cond_false, c_6, c_16] <;> first | done | rfl⟩
  · skip
    exact aw_vret C hr hlk dX3_seeEachOther_9 ⟨rfl, by simp only [tBare, cond_true, cond_false, c_6] <;> first | done | rfl⟩
abbrev r_X3_passDay : Room := { frames := 4, cells := 0, slots := 0, locals := 87 }
theorem cv_X3_passDay : cV yX3_passDay cX3_passDay 4 none 0 := ⟨k2_53, k2_54, k2_55, k1_2, by decide, by decide, by decide +kernel⟩
set_option maxHeartbeats 4000000 in
set_option maxRecDepth 100000 in
theorem c_X3_passDay (l : Launch) (D : va_G) (cI cC : ClassId) (adK adV : Nat → Nat) (h : Nat) (a : Nat → Nat) (T : Tw) (hn : T.1 ≤ 8) : FC l yX3_passDay (wW yX3_passDay cX3_passDay 4 none) r_X3_passDay D (tyC cI cC) adK adV (wTo cI h a T) [.ref h] 0 0 (fQ none (wTo cI h a (tDay T))) := by
  refine FC.of (own := RX3) (by decide) rfl (Nat.le_of_ble_eq_true rfl) ?_
  intro p9 e9 s9 m9 args9 below9 meth9 c9 A9 C hr hlk hmn
  show AW p9 l e9 r_X3_passDay s9 m9 args9 below9 meth9 c9 D A9 4 0 0 _ 0 [(0, .ref h)] [] _
  refine aw_aload_n C dX3_passDay_0 rfl ?_
  refine aw_getf C 0 2 1 12 inX3 rfl (by decide) rfl k1_35 rfl rfl dX3_passDay_1 ?_
  refine aw_callSp C (As := [.int (T.2.1 0)]) (c_X3_isTheDay l D cI cC adK adV (T.2.1 0)) k2_56 cs_X3_isTheDay [] (by decide) rfl ⟨by decide, by decide⟩ rfl rfl ⟨by decide, by decide⟩ rfl rfl (Nat.le_of_ble_eq_true rfl) dX3_passDay_4 ?_
  refine aw_istore_n C true (lv' := [(0, .ref h), (1, .int (b2 (mBare (T.2.1 0))))]) dX3_passDay_7 (by decide) rfl rfl ?_
  refine aw_iconst C (0 : Int32) dX3_passDay_8 (by decide) ?_
  refine aw_istore_n C true (lv' := [(0, .ref h), (1, .int (b2 (mBare (T.2.1 0)))), (2, .int (0 : Int32))]) dX3_passDay_9 (by decide) rfl rfl ?_
  refine aw_eq (lv' := [(0, .ref h), (1, .int (b2 (mBare (T.2.1 0)))), (2, .int (nI 0))]) (ws' := wTo cI h a (itr (fun p U => tGoes U (mBare (T.2.1 0)) p) 0 T)) (by first | rfl | (simp only [itr])) rfl (by rfl) ?_
  refine aw_loop (LV := fun i0 => [(0, .ref h), (1, .int (b2 (mBare (T.2.1 0)))), (2, .int (nI i0))]) (WS := fun i0 => wTo cI h a (itr (fun p U => tGoes U (mBare (T.2.1 0)) p) i0 T)) T.1 (Inv := fun _ => True) trivial ?_ ?_
  · intro hv10
    refine aw_iload_n C dX3_passDay_10 rfl ?_
    refine aw_aload_n C dX3_passDay_11 rfl ?_
    refine aw_getf C 0 2 0 12 inX3 rfl (by decide) rfl k1_32 rfl rfl dX3_passDay_12 ?_
    refine aw_pc 15 rfl ?_
    refine aw_top (y := (nI T.1)) (by rw [itr_n (fun _ _ => goes_n _ _ _)]) ?_
    refine aw_icmp_ge C 86 dX3_passDay_15 (by decide) (fun c_15 => ?_) (fun c_15 => absurd c_15 (fun z => z (Int32.le_refl _)))
    refine aw_iconst C (0 : Int32) dX3_passDay_86 (by decide) ?_
    refine aw_istore_n C false (lv' := [(0, .ref h), (1, .int (b2 (mBare (T.2.1 0)))), (2, .int (0 : Int32))]) dX3_passDay_87 (by decide) rfl rfl ?_
    refine aw_eq (lv' := [(0, .ref h), (1, .int (b2 (mBare (T.2.1 0)))), (2, .int (nI 0))]) (ws' := wTo cI h a (itr (fun a U => tRow (mBare (T.2.1 0)) T.1 a (T.1 - (a + 1)) U) 0 (itr (fun p U => tGoes U (mBare (T.2.1 0)) p) T.1 T))) (by first | rfl | (simp only [itr])) rfl (by rfl) ?_
    refine aw_loop (LV := fun i1 => [(0, .ref h), (1, .int (b2 (mBare (T.2.1 0)))), (2, .int (nI i1))]) (WS := fun i1 => wTo cI h a (itr (fun a U => tRow (mBare (T.2.1 0)) T.1 a (T.1 - (a + 1)) U) i1 (itr (fun p U => tGoes U (mBare (T.2.1 0)) p) T.1 T))) T.1 (Inv := fun _ => True) trivial ?_ ?_
    · intro hv88
      refine aw_iload_n C dX3_passDay_88 rfl ?_
      refine aw_aload_n C dX3_passDay_89 rfl ?_
      refine aw_getf C 0 2 0 12 inX3 rfl (by decide) rfl k1_32 rfl rfl dX3_passDay_90 ?_
      refine aw_top (y := (nI T.1)) (by rw [itr_n (fun _ _ => row_n _ _ _ _ _), itr_n (fun _ _ => goes_n _ _ _)]) ?_
      refine aw_icmp_ge C 154 dX3_passDay_93 (by decide) (fun c_93 => ?_) (fun c_93 => absurd c_93 (fun z => z (Int32.le_refl _)))
      refine aw_aload_n C dX3_passDay_154 rfl ?_
      refine aw_iconst C (1 : Int32) dX3_passDay_155 (by decide) ?_
      refine aw_callVdv C (As := [.int (1 : Int32)]) (c_X3_skipDays l D cI cC adK adV h a (itr (fun a U => tRow (mBare (T.2.1 0)) T.1 a (T.1 - (a + 1)) U) T.1 (itr (fun p U => tGoes U (mBare (T.2.1 0)) p) T.1 T)) (1 : Int32)) k2_76 cv_X3_skipDays 0 2 rfl rfl rfl [0, 1, 2, 3, 4, 5, 6, 7, 8] (by decide) rfl (wr := ([] : va_W)) [] rfl (by decide) (by decide) [0, 1, 2, 3, 4, 5, 6, 7, 8] (by decide) (ws' := wTo cI h a (tSkip (itr (fun a U => tRow (mBare (T.2.1 0)) T.1 a (T.1 - (a + 1)) U) T.1 (itr (fun p U => tGoes U (mBare (T.2.1 0)) p) T.1 T)) (1 : Int32))) rfl ⟨by decide, by decide⟩ rfl rfl ⟨by decide, by decide⟩ rfl rfl (Nat.le_of_ble_eq_true rfl) dX3_passDay_156 ?_
      refine aw_pc 159 rfl ?_
      exact aw_vret C hr hlk dX3_passDay_159 ⟨rfl, by rfl⟩
    · intro i1 hi88 hv88 ih88
      refine aw_iload_n C dX3_passDay_88 rfl ?_
      refine aw_aload_n C dX3_passDay_89 rfl ?_
      refine aw_getf C 0 2 0 12 inX3 rfl (by decide) rfl k1_32 rfl rfl dX3_passDay_90 ?_
      refine aw_top (y := (nI T.1)) (by rw [itr_n (fun _ _ => row_n _ _ _ _ _), itr_n (fun _ _ => goes_n _ _ _)]) ?_
      refine aw_icmp_ge C 154 dX3_passDay_93 (by decide) (fun c_93 => absurd c_93 (nI_ge hi88 (by omega))) (fun c_93 => ?_)
      refine aw_iload_n C dX3_passDay_96 rfl ?_
      refine aw_iconst C (1 : Int32) dX3_passDay_97 (by decide) ?_
      refine aw_iadd C dX3_passDay_98 ?_
      refine aw_top (y := (nI (i1 + 1 + 0))) (by exact nI_1 _) ?_
      refine aw_istore_n C true (lv' := [(0, .ref h), (1, .int (b2 (mBare (T.2.1 0)))), (2, .int (nI i1)), (3, .int (nI (i1 + 1 + 0)))]) dX3_passDay_99 (by decide) rfl rfl ?_
      refine aw_eq (lv' := [(0, .ref h), (1, .int (b2 (mBare (T.2.1 0)))), (2, .int (nI i1)), (3, .int (nI (i1 + 1 + 0)))]) (ws' := wTo cI h a (itr (fun j U => tPair (mBare (T.2.1 0)) i1 (i1 + 1 + j) U) 0 (itr (fun a U => tRow (mBare (T.2.1 0)) T.1 a (T.1 - (a + 1)) U) i1 (itr (fun p U => tGoes U (mBare (T.2.1 0)) p) T.1 T)))) (by first | rfl | (simp only [itr])) rfl (by rfl) ?_
      refine aw_loop (LV := fun j1 => [(0, .ref h), (1, .int (b2 (mBare (T.2.1 0)))), (2, .int (nI i1)), (3, .int (nI (i1 + 1 + j1)))]) (WS := fun j1 => wTo cI h a (itr (fun j U => tPair (mBare (T.2.1 0)) i1 (i1 + 1 + j) U) j1 (itr (fun a U => tRow (mBare (T.2.1 0)) T.1 a (T.1 - (a + 1)) U) i1 (itr (fun p U => tGoes U (mBare (T.2.1 0)) p) T.1 T)))) (T.1 - (i1 + 1)) (Inv := fun _ => True) trivial ?_ ?_
      · intro hv100
        refine aw_iload_n C dX3_passDay_100 rfl ?_
        refine aw_pc 101 rfl ?_
        refine aw_aload_n C dX3_passDay_101 rfl ?_
        refine aw_getf C 0 2 0 12 inX3 rfl (by decide) rfl k1_32 rfl rfl dX3_passDay_102 ?_
        refine aw_top (y := (nI T.1)) (by rw [itr_n (fun _ _ => pair_n _ _ _ _), itr_n (fun _ _ => row_n _ _ _ _ _), itr_n (fun _ _ => goes_n _ _ _)]) ?_
        refine aw_icmp_ge C 148 dX3_passDay_105 (by decide) (fun c_105 => ?_) (fun c_105 => absurd c_105 (fun z => z (nI_le (by omega) (by omega))))
        refine aw_iinc C (nI (i1 + 1)) dX3_passDay_148 rfl (inc_nI _ 1) (by decide) rfl (lv' := [(0, .ref h), (1, .int (b2 (mBare (T.2.1 0)))), (2, .int (nI (i1 + 1))), (3, .int (nI (i1 + 1 + (T.1 - (i1 + 1)))))]) rfl ?_
        refine aw_goto C 88 dX3_passDay_151 (by decide) ?_
        refine aw_sub (lv' := [(0, .ref h), (1, .int (b2 (mBare (T.2.1 0)))), (2, .int (nI (i1 + 1)))]) [0, 1, 2] rfl ?_
        exact aw_eq (by first | rfl | (simp only [itr])) rfl (by first | rfl | (simp only [itr] <;> first | done | rfl)) (ih88 trivial)
      · intro j1 hi100 hv100 ih100
        refine aw_iload_n C dX3_passDay_100 rfl ?_
        refine aw_aload_n C dX3_passDay_101 rfl ?_
        refine aw_getf C 0 2 0 12 inX3 rfl (by decide) rfl k1_32 rfl rfl dX3_passDay_102 ?_
        refine aw_top (y := (nI T.1)) (by rw [itr_n (fun _ _ => pair_n _ _ _ _), itr_n (fun _ _ => row_n _ _ _ _ _), itr_n (fun _ _ => goes_n _ _ _)]) ?_
        refine aw_icmp_ge C 148 dX3_passDay_105 (by decide) (fun c_105 => absurd c_105 (nI_ge (by omega) (by omega))) (fun c_105 => ?_)
        refine aw_iload_n C dX3_passDay_108 rfl ?_
        refine aw_pc 109 rfl ?_
        refine aw_ifeq_b C 121 dX3_passDay_109 (by decide) (fun c_109 => ?_) (fun c_109 => ?_)
        · skip
          refine aw_aload_n C dX3_passDay_121 rfl ?_
          refine aw_getf C 0 2 6 12 inX3 rfl (by decide) rfl k1_44 rfl rfl dX3_passDay_122 ?_
          refine aw_iload_n C dX3_passDay_125 rfl ?_
          refine aw_ialdN C 3 0 i1 rfl rfl rfl (by omega) (by decide) dX3_passDay_126 ?_
          refine aw_aload_n C dX3_passDay_127 rfl ?_
          refine aw_getf C 0 2 6 12 inX3 rfl (by decide) rfl k1_44 rfl rfl dX3_passDay_128 ?_
          refine aw_iload_n C dX3_passDay_131 rfl ?_
          refine aw_ialdN C 3 0 (i1 + 1 + j1) rfl rfl rfl (by omega) (by decide) dX3_passDay_132 ?_
          refine aw_icmp_ne C 142 dX3_passDay_133 (by decide) (fun c_133 => ?_) (fun c_133 => ?_)
          · skip
            refine aw_pc 142 rfl ?_
            refine aw_iinc C (nI ((i1 + 1 + j1) + 1)) dX3_passDay_142 rfl (inc_nI _ 1) (by decide) rfl (lv' := [(0, .ref h), (1, .int (b2 (mBare (T.2.1 0)))), (2, .int (nI i1)), (3, .int (nI ((i1 + 1 + j1) + 1)))]) rfl ?_
            refine aw_goto C 100 dX3_passDay_145 (by decide) ?_
            exact aw_eq (by first | rfl | (simp only [itr, c_109, c_133])) rfl (by first | (rw [itr_s, pair_b c_109]) | (rw [itr_s, pair_m c_109 c_133]) | (rw [itr_s, pair_k c_109 c_133])) (ih100 trivial)
          · skip
            refine aw_aload_n C dX3_passDay_136 rfl ?_
            refine aw_iload_n C dX3_passDay_137 rfl ?_
            refine aw_iload_n C dX3_passDay_138 rfl ?_
            refine aw_callVdv C (As := [.int (nI i1), .int (nI (i1 + 1 + j1))]) (c_X3_mingle l D cI cC adK adV h a (itr (fun j U => tPair (mBare (T.2.1 0)) i1 (i1 + 1 + j) U) j1 (itr (fun a U => tRow (mBare (T.2.1 0)) T.1 a (T.1 - (a + 1)) U) i1 (itr (fun p U => tGoes U (mBare (T.2.1 0)) p) T.1 T))) i1 (i1 + 1 + j1) (by omega) (by omega)) k2_71 cv_X3_mingle 0 2 rfl rfl rfl [0, 1, 2, 3, 4, 5, 6, 7, 8] (by decide) rfl (wr := ([] : va_W)) [] rfl (by decide) (by decide) [0, 1, 2, 3, 4, 5, 6, 7, 8] (by decide) (ws' := wTo cI h a (tMingle (itr (fun j U => tPair (mBare (T.2.1 0)) i1 (i1 + 1 + j) U) j1 (itr (fun a U => tRow (mBare (T.2.1 0)) T.1 a (T.1 - (a + 1)) U) i1 (itr (fun p U => tGoes U (mBare (T.2.1 0)) p) T.1 T))) i1 (i1 + 1 + j1))) rfl ⟨by decide, by decide⟩ rfl rfl ⟨by decide, by decide⟩ rfl rfl (Nat.le_of_ble_eq_true rfl) dX3_passDay_139 ?_
            refine aw_iinc C (nI ((i1 + 1 + j1) + 1)) dX3_passDay_142 rfl (inc_nI _ 1) (by decide) rfl (lv' := [(0, .ref h), (1, .int (b2 (mBare (T.2.1 0)))), (2, .int (nI i1)), (3, .int (nI ((i1 + 1 + j1) + 1)))]) rfl ?_
            refine aw_goto C 100 dX3_passDay_145 (by decide) ?_
            exact aw_eq (by first | rfl | (simp only [itr, c_109, c_133])) rfl (by first | (rw [itr_s, pair_b c_109]) | (rw [itr_s, pair_m c_109 c_133]) | (rw [itr_s, pair_k c_109 c_133])) (ih100 trivial)
        · skip
          refine aw_aload_n C dX3_passDay_112 rfl ?_
          refine aw_iload_n C dX3_passDay_113 rfl ?_
          refine aw_pc 114 rfl ?_
          refine aw_iload_n C dX3_passDay_114 rfl ?_
          refine aw_callVdv C (As := [.int (nI i1), .int (nI (i1 + 1 + j1))]) (c_X3_seeEachOther l D cI cC adK adV h a (itr (fun j U => tPair (mBare (T.2.1 0)) i1 (i1 + 1 + j) U) j1 (itr (fun a U => tRow (mBare (T.2.1 0)) T.1 a (T.1 - (a + 1)) U) i1 (itr (fun p U => tGoes U (mBare (T.2.1 0)) p) T.1 T))) i1 (i1 + 1 + j1) (by omega) (by omega)) k2_57 cv_X3_seeEachOther 0 2 rfl rfl rfl [0, 1, 2, 3, 4, 5, 6, 7, 8] (by decide) rfl (wr := ([] : va_W)) [] rfl (by decide) (by decide) [0, 1, 2, 3, 4, 5, 6, 7, 8] (by decide) (ws' := wTo cI h a (tBare (itr (fun j U => tPair (mBare (T.2.1 0)) i1 (i1 + 1 + j) U) j1 (itr (fun a U => tRow (mBare (T.2.1 0)) T.1 a (T.1 - (a + 1)) U) i1 (itr (fun p U => tGoes U (mBare (T.2.1 0)) p) T.1 T))) i1 (i1 + 1 + j1))) rfl ⟨by decide, by decide⟩ rfl rfl ⟨by decide, by decide⟩ rfl rfl (Nat.le_of_ble_eq_true rfl) dX3_passDay_115 ?_
          refine aw_goto C 142 dX3_passDay_118 (by decide) ?_
          refine aw_iinc C (nI ((i1 + 1 + j1) + 1)) dX3_passDay_142 rfl (inc_nI _ 1) (by decide) rfl (lv' := [(0, .ref h), (1, .int (b2 (mBare (T.2.1 0)))), (2, .int (nI i1)), (3, .int (nI ((i1 + 1 + j1) + 1)))]) rfl ?_
          refine aw_goto C 100 dX3_passDay_145 (by decide) ?_
          exact aw_eq (by first | rfl | (simp only [itr, c_109])) rfl (by first | (rw [itr_s, pair_b c_109]) | (rw [itr_s, pair_m c_109 c_133]) | (rw [itr_s, pair_k c_109 c_133])) (ih100 trivial)
  · intro i0 hi10 hv10 ih10
    refine aw_iload_n C dX3_passDay_10 rfl ?_
    refine aw_aload_n C dX3_passDay_11 rfl ?_
    refine aw_getf C 0 2 0 12 inX3 rfl (by decide) rfl k1_32 rfl rfl dX3_passDay_12 ?_
    refine aw_top (y := (nI T.1)) (by rw [itr_n (fun _ _ => goes_n _ _ _)]) ?_
    refine aw_icmp_ge C 86 dX3_passDay_15 (by decide) (fun c_15 => absurd c_15 (nI_ge hi10 (by omega))) (fun c_15 => ?_)
    refine aw_aload_n C dX3_passDay_18 rfl ?_
    refine aw_pc 19 rfl ?_
    refine aw_getf C 0 2 6 12 inX3 rfl (by decide) rfl k1_44 rfl rfl dX3_passDay_19 ?_
    refine aw_iload_n C dX3_passDay_22 rfl ?_
    refine aw_aload_n C dX3_passDay_23 rfl ?_
    refine aw_getf C 0 2 6 12 inX3 rfl (by decide) rfl k1_44 rfl rfl dX3_passDay_24 ?_
    refine aw_iload_n C dX3_passDay_27 rfl ?_
    refine aw_ialdN C 3 0 i0 rfl rfl rfl (by omega) (by decide) dX3_passDay_28 ?_
    refine aw_aload_n C dX3_passDay_29 rfl ?_
    refine aw_getf C 0 2 5 12 inX3 rfl (by decide) rfl k1_43 rfl rfl dX3_passDay_30 ?_
    refine aw_iload_n C dX3_passDay_33 rfl ?_
    refine aw_ialdN C 2 0 i0 rfl rfl rfl (by omega) (by decide) dX3_passDay_34 ?_
    refine aw_pc 35 rfl ?_
    refine aw_aload_n C dX3_passDay_35 rfl ?_
    refine aw_getf C 0 2 1 12 inX3 rfl (by decide) rfl k1_35 rfl rfl dX3_passDay_36 ?_
    refine aw_callSp C (As := [.int ((itr (fun p U => tGoes U (mBare (T.2.1 0)) p) i0 T).2.2.1 0 i0), .int ((itr (fun p U => tGoes U (mBare (T.2.1 0)) p) i0 T).2.1 0)]) (c_X0_walk l D cI cC adK adV ((itr (fun p U => tGoes U (mBare (T.2.1 0)) p) i0 T).2.2.1 0 i0) ((itr (fun p U => tGoes U (mBare (T.2.1 0)) p) i0 T).2.1 0)) k1_177 cs_X0_walk [] (by decide) rfl ⟨by decide, by decide⟩ rfl rfl ⟨by decide, by decide⟩ rfl rfl (Nat.le_of_ble_eq_true rfl) dX3_passDay_39 ?_
    refine aw_iadd C dX3_passDay_42 ?_
    refine aw_bipush C (16 : Int32) dX3_passDay_43 (by decide) ?_
    refine aw_irem C dX3_passDay_45 (by decide) ?_
    refine aw_iastN C 3 0 i0 rfl rfl rfl (by omega) (by decide) (ws' := wTo cI h a (sP (itr (fun p U => tGoes U (mBare (T.2.1 0)) p) i0 T) 1 i0 (ir (((itr (fun p U => tGoes U (mBare (T.2.1 0)) p) i0 T).2.2.1 1 i0) + (mWalk ((itr (fun p U => tGoes U (mBare (T.2.1 0)) p) i0 T).2.2.1 0 i0) ((itr (fun p U => tGoes U (mBare (T.2.1 0)) p) i0 T).2.1 0))) (16 : Int32)))) rfl dX3_passDay_46 ?_
    refine aw_iload_n C dX3_passDay_47 rfl ?_
    refine aw_ifne_b C 80 dX3_passDay_48 (by decide) (fun c_48 => ?_) (fun c_48 => ?_)
    · skip
      refine aw_iinc C (nI (i0 + 1)) dX3_passDay_80 rfl (inc_nI _ 1) (by decide) rfl (lv' := [(0, .ref h), (1, .int (b2 (mBare (T.2.1 0)))), (2, .int (nI (i0 + 1)))]) rfl ?_
      refine aw_pc 83 rfl ?_
      refine aw_goto C 10 dX3_passDay_83 (by decide) ?_
      exact aw_eq (by first | rfl | (simp only [itr, c_48])) rfl (by simp only [itr_s, tGoes, c_48, cond_true, cond_false] <;> first | done | rfl) (ih10 trivial)
    · skip
      refine aw_aload_n C dX3_passDay_51 rfl ?_
      refine aw_getf C 0 2 7 12 inX3 rfl (by decide) rfl k1_45 rfl rfl dX3_passDay_52 ?_
      refine aw_iload_n C dX3_passDay_55 rfl ?_
      refine aw_aload_n C dX3_passDay_56 rfl ?_
      refine aw_getf C 0 2 7 12 inX3 rfl (by decide) rfl k1_45 rfl rfl dX3_passDay_57 ?_
      refine aw_iload_n C dX3_passDay_60 rfl ?_
      refine aw_ialdN C 4 0 i0 rfl rfl rfl (by omega) (by decide) dX3_passDay_61 ?_
      refine aw_aload_n C dX3_passDay_62 rfl ?_
      refine aw_getf C 0 2 5 12 inX3 rfl (by decide) rfl k1_43 rfl rfl dX3_passDay_63 ?_
      refine aw_pc 66 rfl ?_
      refine aw_iload_n C dX3_passDay_66 rfl ?_
      refine aw_ialdN C 2 0 i0 rfl rfl rfl (by omega) (by decide) dX3_passDay_67 ?_
      refine aw_aload_n C dX3_passDay_68 rfl ?_
      refine aw_getf C 0 2 1 12 inX3 rfl (by decide) rfl k1_35 rfl rfl dX3_passDay_69 ?_
      refine aw_callSp C (As := [.int ((sP (itr (fun p U => tGoes U (mBare (T.2.1 0)) p) i0 T) 1 i0 (ir (((itr (fun p U => tGoes U (mBare (T.2.1 0)) p) i0 T).2.2.1 1 i0) + (mWalk ((itr (fun p U => tGoes U (mBare (T.2.1 0)) p) i0 T).2.2.1 0 i0) ((itr (fun p U => tGoes U (mBare (T.2.1 0)) p) i0 T).2.1 0))) (16 : Int32))).2.2.1 0 i0), .int ((sP (itr (fun p U => tGoes U (mBare (T.2.1 0)) p) i0 T) 1 i0 (ir (((itr (fun p U => tGoes U (mBare (T.2.1 0)) p) i0 T).2.2.1 1 i0) + (mWalk ((itr (fun p U => tGoes U (mBare (T.2.1 0)) p) i0 T).2.2.1 0 i0) ((itr (fun p U => tGoes U (mBare (T.2.1 0)) p) i0 T).2.1 0))) (16 : Int32))).2.1 0)]) (c_X0_shift l D cI cC adK adV ((sP (itr (fun p U => tGoes U (mBare (T.2.1 0)) p) i0 T) 1 i0 (ir (((itr (fun p U => tGoes U (mBare (T.2.1 0)) p) i0 T).2.2.1 1 i0) + (mWalk ((itr (fun p U => tGoes U (mBare (T.2.1 0)) p) i0 T).2.2.1 0 i0) ((itr (fun p U => tGoes U (mBare (T.2.1 0)) p) i0 T).2.1 0))) (16 : Int32))).2.2.1 0 i0) ((sP (itr (fun p U => tGoes U (mBare (T.2.1 0)) p) i0 T) 1 i0 (ir (((itr (fun p U => tGoes U (mBare (T.2.1 0)) p) i0 T).2.2.1 1 i0) + (mWalk ((itr (fun p U => tGoes U (mBare (T.2.1 0)) p) i0 T).2.2.1 0 i0) ((itr (fun p U => tGoes U (mBare (T.2.1 0)) p) i0 T).2.1 0))) (16 : Int32))).2.1 0)) k1_183 cs_X0_shift [] (by decide) rfl ⟨by decide, by decide⟩ rfl rfl ⟨by decide, by decide⟩ rfl rfl (Nat.le_of_ble_eq_true rfl) dX3_passDay_72 ?_
      refine aw_iadd C dX3_passDay_75 ?_
      refine aw_bipush C (12 : Int32) dX3_passDay_76 (by decide) ?_
      refine aw_irem C dX3_passDay_78 (by decide) ?_
      refine aw_iastN C 4 0 i0 rfl rfl rfl (by omega) (by decide) (ws' := wTo cI h a (sP (sP (itr (fun p U => tGoes U (mBare (T.2.1 0)) p) i0 T) 1 i0 (ir (((itr (fun p U => tGoes U (mBare (T.2.1 0)) p) i0 T).2.2.1 1 i0) + (mWalk ((itr (fun p U => tGoes U (mBare (T.2.1 0)) p) i0 T).2.2.1 0 i0) ((itr (fun p U => tGoes U (mBare (T.2.1 0)) p) i0 T).2.1 0))) (16 : Int32))) 2 i0 (ir (((sP (itr (fun p U => tGoes U (mBare (T.2.1 0)) p) i0 T) 1 i0 (ir (((itr (fun p U => tGoes U (mBare (T.2.1 0)) p) i0 T).2.2.1 1 i0) + (mWalk ((itr (fun p U => tGoes U (mBare (T.2.1 0)) p) i0 T).2.2.1 0 i0) ((itr (fun p U => tGoes U (mBare (T.2.1 0)) p) i0 T).2.1 0))) (16 : Int32))).2.2.1 2 i0) + (mShift ((sP (itr (fun p U => tGoes U (mBare (T.2.1 0)) p) i0 T) 1 i0 (ir (((itr (fun p U => tGoes U (mBare (T.2.1 0)) p) i0 T).2.2.1 1 i0) + (mWalk ((itr (fun p U => tGoes U (mBare (T.2.1 0)) p) i0 T).2.2.1 0 i0) ((itr (fun p U => tGoes U (mBare (T.2.1 0)) p) i0 T).2.1 0))) (16 : Int32))).2.2.1 0 i0) ((sP (itr (fun p U => tGoes U (mBare (T.2.1 0)) p) i0 T) 1 i0 (ir (((itr (fun p U => tGoes U (mBare (T.2.1 0)) p) i0 T).2.2.1 1 i0) + (mWalk ((itr (fun p U => tGoes U (mBare (T.2.1 0)) p) i0 T).2.2.1 0 i0) ((itr (fun p U => tGoes U (mBare (T.2.1 0)) p) i0 T).2.1 0))) (16 : Int32))).2.1 0))) (12 : Int32)))) rfl dX3_passDay_79 ?_
      refine aw_iinc C (nI (i0 + 1)) dX3_passDay_80 rfl (inc_nI _ 1) (by decide) rfl (lv' := [(0, .ref h), (1, .int (b2 (mBare (T.2.1 0)))), (2, .int (nI (i0 + 1)))]) rfl ?_
      refine aw_pc 83 rfl ?_
      refine aw_goto C 10 dX3_passDay_83 (by decide) ?_
      exact aw_eq (by first | rfl | (simp only [itr, c_48])) rfl (by simp only [itr_s, tGoes, c_48, cond_true, cond_false] <;> first | done | rfl) (ih10 trivial)
abbrev r_X3_passDays : Room := { frames := 5, cells := 0, slots := 0, locals := 110 }
theorem cv_X3_passDays : cV yX3_passDays cX3_passDays 3 none 1 := ⟨k2_49, k2_50, k2_51, k1_2, by decide, by decide, by decide +kernel⟩
set_option maxHeartbeats 4000000 in
set_option maxRecDepth 100000 in
theorem c_X3_passDays (l : Launch) (D : va_G) (cI cC : ClassId) (adK adV : Nat → Nat) (h : Nat) (a : Nat → Nat) (T : Tw) (k : Nat) (hn : T.1 ≤ 8) (hk : k < 2 ^ 30) : FC l yX3_passDays (wW yX3_passDays cX3_passDays 3 none) r_X3_passDays D (tyC cI cC) adK adV (wTo cI h a T) [.ref h, .int (nI k)] 0 0 (fQ none (wTo cI h a (tDays k T))) := by
  refine FC.of (own := RX3) (by decide) rfl (Nat.le_of_ble_eq_true rfl) ?_
  intro p9 e9 s9 m9 args9 below9 meth9 c9 A9 C hr hlk hmn
  show AW p9 l e9 r_X3_passDays s9 m9 args9 below9 meth9 c9 D A9 3 0 0 _ 0 [(0, .ref h), (1, .int (nI k))] [] _
  refine aw_iconst C (0 : Int32) dX3_passDays_0 (by decide) ?_
  refine aw_istore_n C true (lv' := [(0, .ref h), (1, .int (nI k)), (2, .int (0 : Int32))]) dX3_passDays_1 (by decide) rfl rfl ?_
  refine aw_eq (lv' := [(0, .ref h), (1, .int (nI k)), (2, .int (nI 0))]) (ws' := wTo cI h a (itr (fun _ U => tDay U) 0 T)) (by first | rfl | (simp only [itr])) rfl (by rfl) ?_
  refine aw_loop (LV := fun i => [(0, .ref h), (1, .int (nI k)), (2, .int (nI i))]) (WS := fun i => wTo cI h a (itr (fun _ U => tDay U) i T)) k (Inv := fun _ => True) trivial ?_ ?_
  · intro hv2
    refine aw_iload_n C dX3_passDays_2 rfl ?_
    refine aw_iload_n C dX3_passDays_3 rfl ?_
    refine aw_icmp_ge C 17 dX3_passDays_4 (by decide) (fun c_4 => ?_) (fun c_4 => absurd c_4 (fun z => z (Int32.le_refl _)))
    exact aw_vret C hr hlk dX3_passDays_17 ⟨rfl, by rfl⟩
  · intro i hi2 hv2 ih2
    refine aw_iload_n C dX3_passDays_2 rfl ?_
    refine aw_iload_n C dX3_passDays_3 rfl ?_
    refine aw_icmp_ge C 17 dX3_passDays_4 (by decide) (fun c_4 => absurd c_4 (nI_ge hi2 (by omega))) (fun c_4 => ?_)
    refine aw_pc 7 rfl ?_
    refine aw_aload_n C dX3_passDays_7 rfl ?_
    refine aw_callVdv C (As := []) (c_X3_passDay l D cI cC adK adV h a (itr (fun _ U => tDay U) i T)  (by rw [itr_n (fun _ _ => day_n _)]; exact hn)) k2_52 cv_X3_passDay 0 2 rfl rfl rfl [0, 1, 2, 3, 4, 5, 6, 7, 8] (by decide) rfl (wr := ([] : va_W)) [] rfl (by decide) (by decide) [0, 1, 2, 3, 4, 5, 6, 7, 8] (by decide) (ws' := wTo cI h a (tDay (itr (fun _ U => tDay U) i T))) rfl ⟨by decide, by decide⟩ rfl rfl ⟨by decide, by decide⟩ rfl rfl (Nat.le_of_ble_eq_true rfl) dX3_passDays_8 ?_
    refine aw_iinc C (nI (i + 1)) dX3_passDays_11 rfl (inc_nI _ 1) (by decide) rfl (lv' := [(0, .ref h), (1, .int (nI k)), (2, .int (nI (i + 1)))]) rfl ?_
    refine aw_goto C 2 dX3_passDays_14 (by decide) ?_
    exact aw_eq (by first | rfl | (simp only [itr])) rfl (by first | rfl | (simp only [itr] <;> first | done | rfl)) (ih2 trivial)
abbrev r_X3_meetEachOther : Room := { frames := 2, cells := 0, slots := 0, locals := 43 }
theorem cv_X3_meetEachOther : cV yX3_meetEachOther cX3_meetEachOther 3 none 2 := ⟨k3_128, k3_129, k3_130, k1_2, by decide, by decide, by decide +kernel⟩
set_option maxHeartbeats 4000000 in
set_option maxRecDepth 100000 in
theorem c_X3_meetEachOther (l : Launch) (D : va_G) (cI cC : ClassId) (adK adV : Nat → Nat) (h : Nat) (a : Nat → Nat) (T : Tw) (u : Nat) (v : Nat) (hu : u < 8) (hv : v < 8) (h2 : mTwo T (nI u) (nI v) = true) : FC l yX3_meetEachOther (wW yX3_meetEachOther cX3_meetEachOther 3 none) r_X3_meetEachOther D (tyC cI cC) adK adV (wTo cI h a T) [.ref h, .int (nI u), .int (nI v)] 0 0 (fQ none (wTo cI h a (tMeet T u v))) := by
  refine FC.of (own := RX3) (by decide) rfl (Nat.le_of_ble_eq_true rfl) ?_
  intro p9 e9 s9 m9 args9 below9 meth9 c9 A9 C hr hlk hmn
  show AW p9 l e9 r_X3_meetEachOther s9 m9 args9 below9 meth9 c9 D A9 3 0 0 _ 0 [(0, .ref h), (1, .int (nI u)), (2, .int (nI v))] [] _
  refine aw_aload_n C dX3_meetEachOther_0 rfl ?_
  refine aw_iload_n C dX3_meetEachOther_1 rfl ?_
  refine aw_iload_n C dX3_meetEachOther_2 rfl ?_
  refine aw_callVp C (As := [.int (nI u), .int (nI v)]) (c_X3_areTwo l D cI cC adK adV h a T (nI u) (nI v)) k3_131 cv_X3_areTwo 0 2 rfl rfl rfl [0, 1, 2, 3, 4, 5, 6, 7, 8] (by decide) rfl ⟨by decide, by decide⟩ rfl rfl ⟨by decide, by decide⟩ rfl rfl (Nat.le_of_ble_eq_true rfl) dX3_meetEachOther_3 ?_
  refine aw_ifeq_b C 33 dX3_meetEachOther_6 (by decide) (fun c_6 => absurd c_6 ((by rw [h2]; exact Bool.noConfusion))) (fun c_6 => ?_)
  refine aw_aload_n C dX3_meetEachOther_9 rfl ?_
  refine aw_getf C 0 2 8 12 inX3 rfl (by decide) rfl k1_46 rfl rfl dX3_meetEachOther_10 ?_
  refine aw_iload_n C dX3_meetEachOther_13 rfl ?_
  refine aw_dup2 C dX3_meetEachOther_14 rfl rfl ?_
  refine aw_pc 15 rfl ?_
  refine aw_ialdN C 5 0 u rfl rfl rfl (by omega) (by decide) dX3_meetEachOther_15 ?_
  refine aw_iconst C (1 : Int32) dX3_meetEachOther_16 (by decide) ?_
  refine aw_iload_n C dX3_meetEachOther_17 rfl ?_
  refine aw_ishl C dX3_meetEachOther_18 ?_
  refine aw_ior C dX3_meetEachOther_19 ?_
  refine aw_iastN C 5 0 u rfl rfl rfl (by omega) (by decide) (ws' := wTo cI h a (sP T 3 u ((T.2.2.1 3 u) ||| ((1 : Int32) <<< ((nI v) &&& 31))))) rfl dX3_meetEachOther_20 ?_
  refine aw_aload_n C dX3_meetEachOther_21 rfl ?_
  refine aw_getf C 0 2 8 12 inX3 rfl (by decide) rfl k1_46 rfl rfl dX3_meetEachOther_22 ?_
  refine aw_iload_n C dX3_meetEachOther_25 rfl ?_
  refine aw_dup2 C dX3_meetEachOther_26 rfl rfl ?_
  refine aw_pc 27 rfl ?_
  refine aw_ialdN C 5 0 v rfl rfl rfl (by omega) (by decide) dX3_meetEachOther_27 ?_
  refine aw_iconst C (1 : Int32) dX3_meetEachOther_28 (by decide) ?_
  refine aw_iload_n C dX3_meetEachOther_29 rfl ?_
  refine aw_ishl C dX3_meetEachOther_30 ?_
  refine aw_ior C dX3_meetEachOther_31 ?_
  refine aw_iastN C 5 0 v rfl rfl rfl (by omega) (by decide) (ws' := wTo cI h a (sP (sP T 3 u ((T.2.2.1 3 u) ||| ((1 : Int32) <<< ((nI v) &&& 31)))) 3 v (((sP T 3 u ((T.2.2.1 3 u) ||| ((1 : Int32) <<< ((nI v) &&& 31)))).2.2.1 3 v) ||| ((1 : Int32) <<< ((nI u) &&& 31))))) rfl dX3_meetEachOther_32 ?_
  exact aw_vret C hr hlk dX3_meetEachOther_33 ⟨rfl, by rfl⟩
abbrev r_X3_draw : Room := { frames := 0, cells := 0, slots := 0, locals := 0 }
theorem cv_X3_draw : cV yX3_draw cX3_draw 1 (some .int) 0 := ⟨k2_211, k2_212, k2_213, k1_2, by decide, by decide, by decide +kernel⟩
set_option maxHeartbeats 4000000 in
set_option maxRecDepth 100000 in
theorem c_X3_draw (l : Launch) (D : va_G) (cI cC : ClassId) (adK adV : Nat → Nat) (h : Nat) (a : Nat → Nat) (T : Tw) : FC l yX3_draw (wW yX3_draw cX3_draw 1 (some .int)) r_X3_draw D (tyC cI cC) adK adV (wTo cI h a T) [.ref h] 0 0 (fQ (some (.int (mDraw T))) (wTo cI h a (tDraw T))) := by
  refine FC.of (own := RX3) (by decide) rfl (Nat.le_of_ble_eq_true rfl) ?_
  intro p9 e9 s9 m9 args9 below9 meth9 c9 A9 C hr hlk hmn
  show AW p9 l e9 r_X3_draw s9 m9 args9 below9 meth9 c9 D A9 1 0 0 _ 0 [(0, .ref h)] [] _
  refine aw_aload_n C dX3_draw_0 rfl ?_
  refine aw_aload_n C dX3_draw_1 rfl ?_
  refine aw_getf C 0 2 3 12 inX3 rfl (by decide) rfl k1_39 rfl rfl dX3_draw_2 ?_
  refine aw_ldc C k2_214 dX3_draw_5 ?_
  refine aw_imul C dX3_draw_7 ?_
  refine aw_sipush C (12345 : Int32) dX3_draw_8 (by decide) ?_
  refine aw_iadd C dX3_draw_11 ?_
  refine aw_putf C 0 2 3 12 tyX3 inX3 tyX3_ok nmX3 rfl (by decide) rfl k1_39 rfl rfl rfl rfl rfl (Nat.le_of_ble_eq_true rfl) (ws' := wTo cI h a (sG T 2 (((T.2.1 2) * (1103515245 : Int32)) + (12345 : Int32)))) rfl dX3_draw_12 ?_
  refine aw_aload_n C dX3_draw_15 rfl ?_
  refine aw_pc 16 rfl ?_
  refine aw_getf C 0 2 3 12 inX3 rfl (by decide) rfl k1_39 rfl rfl dX3_draw_16 ?_
  refine aw_bipush C (8 : Int32) dX3_draw_19 (by decide) ?_
  refine aw_iushr C dX3_draw_21 ?_
  exact aw_iret C hr hlk dX3_draw_22 ⟨ri (by first | rfl | (simp only [])), by rfl⟩
