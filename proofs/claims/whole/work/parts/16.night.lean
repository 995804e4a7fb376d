theorem c_X3_drawE (l : Launch) (D : va_G) (cI cC : ClassId) (adK adV : Nat → Nat) (h : Nat) (a : Nat → Nat) (T T1 : Tw) (v : Int32) (e1 : T1 = tDraw T) (e2 : v = mDraw T) : FC l yX3_draw (wW yX3_draw cX3_draw 1 (some .int)) r_X3_draw D (tyC cI cC) adK adV (wTo cI h a T) [.ref h] 0 0 (fQ (some (.int v)) (wTo cI h a T1)) := by
  subst e1
  subst e2
  exact c_X3_draw l D cI cC adK adV h a T

abbrev r_X4_night : Room := { frames := 5, cells := 0, slots := 0, locals := 110 }
theorem cv_X4_night : cV yX4_night cX4_night 6 (some .int) 1 := ⟨k2_207, k2_208, k2_209, k1_1, by decide, by decide, by decide +kernel⟩
set_option maxHeartbeats 4000000 in
set_option maxRecDepth 100000 in
theorem c_X4_night (l : Launch) (D : va_G) (cI cC : ClassId) (adK adV : Nat → Nat) (z : Nat → Nat) (T R K : Tw) (ik : Bool) (F f : Nat → Int32) (n : Nat) (tk : Int32) (bg en : Nat) (nm : Int32) (s1 s2 s3 : Nat → Int32) (k : Int32) (hn : T.1 ≤ 8) : FC l yX4_night (wW yX4_night cX4_night 6 (some .int)) r_X4_night D (tyC cI cC) adK adV (wBa cI z T R K ik F f n tk bg en nm s1 s2 s3) [.ref (z 0), .int k] 0 0 (pBa cI z (m_night (T, K, ik, F, f, n, s1, s2, s3) k)) := by
  refine FC.of (own := RX4) (by decide) rfl (Nat.le_of_ble_eq_true rfl) ?_
  intro p9 e9 s9 m9 args9 below9 meth9 c9 A9 C hr hlk hmn
  show AW p9 l e9 r_X4_night s9 m9 args9 below9 meth9 c9 D A9 6 0 0 _ 0 [(0, .ref (z 0)), (1, .int k)] [] _
  refine aw_eq (lv' := [(0, .ref (z 0)), (1, .int k)]) (ws' := fl [wMa cI z ik F, wTo cI (z 2) (zT z) T, wTo cI (z 3) (zR z) R, wTo cI (z 4) (zK z) K, wTp cI (z 5) (z 6) f n tk bg en nm, wSh cI (z 7) (zS z) s1 s2 s3]) rfl rfl rfl ?_
  have J11 : m_night (T, K, ik, F, f, n, s1, s2, s3) k = gno (T, K, ik, F, f, n, s1, s2, s3) 0 → AW p9 l e9 r_X4_night s9 m9 args9 below9 meth9 c9 D A9 6 0 0 (aQ below9 args9 s9 D A9 0 0 (pBa cI z (m_night (T, K, ik, F, f, n, s1, s2, s3) k))) 11 [(0, .ref (z 0))] [] (fl [wMa cI z ik F, wTo cI (z 2) (zT z) T, wTo cI (z 3) (zR z) R, wTo cI (z 4) (zK z) K, wTp cI (z 5) (z 6) f n tk bg en nm, wSh cI (z 7) (zS z) s1 s2 s3]) := by
    intro hj
    refine aw_aload_n C dX4_night_11 rfl ?_
    refine aw_iconst C (0 : Int32) dX4_night_12 (by decide) ?_
    refine aw_gVd C (As := [.int (0 : Int32)]) (c_X4_finding l D cI cC adK adV z ik F 0 (by decide)) k1_146 cv_X4_finding 3 rfl rfl rfl [0, 1, 2, 3, 4, 5] (fl1 _) rfl 6 rfl (by decide) (gc := [wMa cI z ik F]) (gr := [wTo cI (z 2) (zT z) T, wTo cI (z 3) (zR z) R, wTo cI (z 4) (zK z) K, wTp cI (z 5) (z 6) f n tk bg en nm, wSh cI (z 7) (zS z) s1 s2 s3]) (gc1 := [wMa cI z ik (upd F 0 (F 0 + 1))]) (gs' := [wMa cI z ik (upd F 0 (F 0 + 1)), wTo cI (z 2) (zT z) T, wTo cI (z 3) (zR z) R, wTo cI (z 4) (zK z) K, wTp cI (z 5) (z 6) f n tk bg en nm, wSh cI (z 7) (zS z) s1 s2 s3]) (fl1 _) rfl rfl ⟨by decide, by decide⟩ rfl rfl ⟨by decide, by decide⟩ rfl rfl (Nat.le_of_ble_eq_true rfl) dX4_night_13 ?_
    have hm : m_night (T, K, ik, F, f, n, s1, s2, s3) k = ((fno 0), (T, K, ik, (upd F 0 (F 0 + 1)), f, n, s1, s2, s3)) := by rw [hj]; rfl
    exact aw_iret C hr hlk dX4_night_16 ⟨ri (by rw [hm]), R, tk, bg, en, nm, by rw [hm]; rfl⟩
  have J28 : m_night (T, K, ik, F, f, n, s1, s2, s3) k = gno (T, K, ik, F, f, n, s1, s2, s3) 4 → AW p9 l e9 r_X4_night s9 m9 args9 below9 meth9 c9 D A9 6 0 0 (aQ below9 args9 s9 D A9 0 0 (pBa cI z (m_night (T, K, ik, F, f, n, s1, s2, s3) k))) 28 [(0, .ref (z 0))] [] (fl [wMa cI z ik F, wTo cI (z 2) (zT z) T, wTo cI (z 3) (zR z) R, wTo cI (z 4) (zK z) K, wTp cI (z 5) (z 6) f n tk bg en nm, wSh cI (z 7) (zS z) s1 s2 s3]) := by
    intro hj
    refine aw_aload_n C dX4_night_28 rfl ?_
    refine aw_iconst C (4 : Int32) dX4_night_29 (by decide) ?_
    refine aw_gVd C (As := [.int (4 : Int32)]) (c_X4_finding l D cI cC adK adV z ik F 4 (by decide)) k1_146 cv_X4_finding 3 rfl rfl rfl [0, 1, 2, 3, 4, 5] (fl1 _) rfl 6 rfl (by decide) (gc := [wMa cI z ik F]) (gr := [wTo cI (z 2) (zT z) T, wTo cI (z 3) (zR z) R, wTo cI (z 4) (zK z) K, wTp cI (z 5) (z 6) f n tk bg en nm, wSh cI (z 7) (zS z) s1 s2 s3]) (gc1 := [wMa cI z ik (upd F 4 (F 4 + 1))]) (gs' := [wMa cI z ik (upd F 4 (F 4 + 1)), wTo cI (z 2) (zT z) T, wTo cI (z 3) (zR z) R, wTo cI (z 4) (zK z) K, wTp cI (z 5) (z 6) f n tk bg en nm, wSh cI (z 7) (zS z) s1 s2 s3]) (fl1 _) rfl rfl ⟨by decide, by decide⟩ rfl rfl ⟨by decide, by decide⟩ rfl rfl (Nat.le_of_ble_eq_true rfl) dX4_night_30 ?_
    have hm : m_night (T, K, ik, F, f, n, s1, s2, s3) k = ((fno 4), (T, K, ik, (upd F 4 (F 4 + 1)), f, n, s1, s2, s3)) := by rw [hj]; rfl
    exact aw_iret C hr hlk dX4_night_33 ⟨ri (by rw [hm]), R, tk, bg, en, nm, by rw [hm]; rfl⟩
  refine aw_iload_n C dX4_night_0 rfl ?_
  refine aw_pc 1 rfl ?_
  refine aw_iconst C (1 : Int32) dX4_night_1 (by decide) ?_
  refine aw_icmp_lt C 11 dX4_night_2 (by decide) (fun c_2 => ?_) (fun c_2 => ?_)
  · skip
    refine aw_sub (lv' := [(0, .ref (z 0))]) [0] rfl ?_
    exact J11 (by simp only [m_night, c_2, decide_true, decide_false, Bool.not_true, Bool.not_false, Bool.true_and, Bool.false_and, Bool.and_true, Bool.and_false, Bool.true_or, Bool.false_or, Bool.or_true, Bool.or_false, cond_true, cond_false, eq_self, if_true, if_false, ite_true, ite_false] <;> rfl)
  · skip
    refine aw_iload_n C dX4_night_5 rfl ?_
    refine aw_bipush C (20 : Int32) dX4_night_6 (by decide) ?_
    refine aw_icmp_le C 17 dX4_night_8 (by decide) (fun c_8 => ?_) (fun c_8 => ?_)
    · skip
      refine aw_aload_n C dX4_night_17 rfl ?_
      refine aw_getf C 0 3 0 7 inX4 rfl (by decide) rfl k1_117 rfl rfl dX4_night_18 ?_
      refine aw_iload_n C dX4_night_21 rfl ?_
      refine aw_gVp C (As := [.int k]) (c_X3_hasDays l D cI cC adK adV (z 2) (zT z) T k) k2_43 cv_X3_hasDays 2 rfl rfl rfl [1, 0, 2, 3, 4, 5] (fl1 _) rfl 6 rfl (by decide) ⟨by decide, by decide⟩ rfl rfl ⟨by decide, by decide⟩ rfl rfl (Nat.le_of_ble_eq_true rfl) dX4_night_22 ?_
      refine aw_ifne_b C 34 dX4_night_25 (by decide) (fun c_25 => ?_) (fun c_25 => ?_)
      · skip
        have l1 : ix k ≤ 20 := ix_le (neg1 c_2) (by decide) c_8
        have e1 : k = nI (ix k) := ix_eq (neg1 c_2)
        refine aw_eq (lv' := [(0, .ref (z 0)), (1, .int (nI (ix k)))]) (ws' := fl [wMa cI z ik F, wTo cI (z 2) (zT z) T, wTo cI (z 3) (zR z) R, wTo cI (z 4) (zK z) K, wTp cI (z 5) (z 6) f n tk bg en nm, wSh cI (z 7) (zS z) s1 s2 s3]) (by rw [← e1]) rfl rfl ?_
        refine aw_pc 34 rfl ?_
        refine aw_iconst C (0 : Int32) dX4_night_34 (by decide) ?_
        refine aw_istore_n C true (lv' := [(0, .ref (z 0)), (1, .int (nI (ix k))), (2, .int (0 : Int32))]) dX4_night_35 (by decide) rfl rfl ?_
        refine aw_eq (lv' := [(0, .ref (z 0)), (1, .int (nI (ix k))), (2, .int (nI 0))]) (ws' := fl [wMa cI z ik F, wTo cI (z 2) (zT z) (itr (fun _ U => nStep U) 0 T), wTo cI (z 3) (zR z) R, wTo cI (z 4) (zK z) K, wTp cI (z 5) (z 6) f n tk bg en nm, wSh cI (z 7) (zS z) s1 s2 s3]) (by first | rfl | (simp only [itr, c_2, c_8, c_25])) rfl (by rfl) ?_
        refine aw_loop (LV := fun i => [(0, .ref (z 0)), (1, .int (nI (ix k))), (2, .int (nI i))]) (WS := fun i => fl [wMa cI z ik F, wTo cI (z 2) (zT z) (itr (fun _ U => nStep U) i T), wTo cI (z 3) (zR z) R, wTo cI (z 4) (zK z) K, wTp cI (z 5) (z 6) f n tk bg en nm, wSh cI (z 7) (zS z) s1 s2 s3]) (ix k) (Inv := fun _ => True) trivial ?_ ?_
        · intro hv36
          refine aw_iload_n C dX4_night_36 rfl ?_
          refine aw_iload_n C dX4_night_37 rfl ?_
          refine aw_icmp_ge C 122 dX4_night_38 (by decide) (fun c_38 => ?_) (fun c_38 => absurd c_38 (fun z => z (Int32.le_refl _)))
          refine aw_aload_n C dX4_night_122 rfl ?_
          refine aw_getf C 0 3 0 7 inX4 rfl (by decide) rfl k1_117 rfl rfl dX4_night_123 ?_
          refine aw_getf C 2 2 2 12 inX3 rfl (by decide) rfl k1_38 rfl rfl dX4_night_126 ?_
          have hm : m_night (T, K, ik, F, f, n, s1, s2, s3) k = (((itr (fun _ U => nStep U) (ix k) T).2.1 3), ((itr (fun _ U => nStep U) (ix k) T), K, ik, F, f, n, s1, s2, s3)) := by simp only [m_night, c_2, c_8, c_25, decide_true, decide_false, Bool.not_true, Bool.not_false, Bool.true_and, Bool.false_and, Bool.and_true, Bool.and_false, Bool.true_or, Bool.false_or, Bool.or_true, Bool.or_false, cond_true, cond_false, eq_self, if_true, if_false, ite_true, ite_false] <;> rfl
          exact aw_iret C hr hlk dX4_night_129 ⟨ri (by rw [hm]), R, tk, bg, en, nm, by rw [hm]; rfl⟩
        · intro i hi36 hv36 ih36
          refine aw_iload_n C dX4_night_36 rfl ?_
          refine aw_pc 37 rfl ?_
          refine aw_iload_n C dX4_night_37 rfl ?_
          refine aw_icmp_ge C 122 dX4_night_38 (by decide) (fun c_38 => absurd c_38 (nI_ge hi36 (by omega))) (fun c_38 => ?_)
          generalize hY0 : (itr (fun _ U => nStep U) i T) = Y0
          refine aw_aload_n C dX4_night_41 rfl ?_
          refine aw_getf C 0 3 0 7 inX4 rfl (by decide) rfl k1_117 rfl rfl dX4_night_42 ?_
          obtain ⟨Y1, hY1⟩ : ∃ y, y = tDraw Y0 := ⟨_, rfl⟩
          obtain ⟨v1, hv1⟩ : ∃ y, y = mDraw Y0 := ⟨_, rfl⟩
          refine aw_gVd C (As := []) (c_X3_drawE l D cI cC adK adV (z 2) (zT z) Y0 Y1 v1 hY1 hv1) k2_210 cv_X3_draw 2 rfl rfl rfl [1, 0, 2, 3, 4, 5] (fl1 _) rfl 6 rfl (by decide) (gc := [wTo cI (z 2) (zT z) Y0]) (gr := [wMa cI z ik F, wTo cI (z 3) (zR z) R, wTo cI (z 4) (zK z) K, wTp cI (z 5) (z 6) f n tk bg en nm, wSh cI (z 7) (zS z) s1 s2 s3]) (gc1 := [wTo cI (z 2) (zT z) Y1]) (gs' := [wMa cI z ik F, wTo cI (z 2) (zT z) Y1, wTo cI (z 3) (zR z) R, wTo cI (z 4) (zK z) K, wTp cI (z 5) (z 6) f n tk bg en nm, wSh cI (z 7) (zS z) s1 s2 s3]) (fl1 _) rfl rfl ⟨by decide, by decide⟩ rfl rfl ⟨by decide, by decide⟩ rfl rfl (Nat.le_of_ble_eq_true rfl) dX4_night_45 ?_
          refine aw_bipush C (8 : Int32) dX4_night_48 (by decide) ?_
          refine aw_irem C dX4_night_50 (by decide) ?_
          refine aw_istore_n C true (lv' := [(0, .ref (z 0)), (1, .int (nI (ix k))), (2, .int (nI i)), (3, .int (ir v1 (8 : Int32)))]) dX4_night_51 (by decide) rfl rfl ?_
          refine aw_aload_n C dX4_night_52 rfl ?_
          refine aw_getf C 0 3 0 7 inX4 rfl (by decide) rfl k1_117 rfl rfl dX4_night_53 ?_
          refine aw_pc 56 rfl ?_
          obtain ⟨Y2, hY2⟩ : ∃ y, y = tDraw Y1 := ⟨_, rfl⟩
          obtain ⟨v2, hv2⟩ : ∃ y, y = mDraw Y1 := ⟨_, rfl⟩
          refine aw_gVd C (As := []) (c_X3_drawE l D cI cC adK adV (z 2) (zT z) Y1 Y2 v2 hY2 hv2) k2_210 cv_X3_draw 2 rfl rfl rfl [1, 0, 2, 3, 4, 5] (fl1 _) rfl 6 rfl (by decide) (gc := [wTo cI (z 2) (zT z) Y1]) (gr := [wMa cI z ik F, wTo cI (z 3) (zR z) R, wTo cI (z 4) (zK z) K, wTp cI (z 5) (z 6) f n tk bg en nm, wSh cI (z 7) (zS z) s1 s2 s3]) (gc1 := [wTo cI (z 2) (zT z) Y2]) (gs' := [wMa cI z ik F, wTo cI (z 2) (zT z) Y2, wTo cI (z 3) (zR z) R, wTo cI (z 4) (zK z) K, wTp cI (z 5) (z 6) f n tk bg en nm, wSh cI (z 7) (zS z) s1 s2 s3]) (fl1 _) rfl rfl ⟨by decide, by decide⟩ rfl rfl ⟨by decide, by decide⟩ rfl rfl (Nat.le_of_ble_eq_true rfl) dX4_night_56 ?_
          refine aw_bipush C (16 : Int32) dX4_night_59 (by decide) ?_
          refine aw_irem C dX4_night_61 (by decide) ?_
          refine aw_istore C true (lv' := [(0, .ref (z 0)), (1, .int (nI (ix k))), (2, .int (nI i)), (3, .int (ir v1 (8 : Int32))), (4, .int (ir v2 (16 : Int32)))]) dX4_night_62 (by decide) rfl rfl ?_
          refine aw_aload_n C dX4_night_64 rfl ?_
          refine aw_getf C 0 3 0 7 inX4 rfl (by decide) rfl k1_117 rfl rfl dX4_night_65 ?_
          obtain ⟨Y3, hY3⟩ : ∃ y, y = tDraw Y2 := ⟨_, rfl⟩
          obtain ⟨v3, hv3⟩ : ∃ y, y = mDraw Y2 := ⟨_, rfl⟩
          refine aw_gVd C (As := []) (c_X3_drawE l D cI cC adK adV (z 2) (zT z) Y2 Y3 v3 hY3 hv3) k2_210 cv_X3_draw 2 rfl rfl rfl [1, 0, 2, 3, 4, 5] (fl1 _) rfl 6 rfl (by decide) (gc := [wTo cI (z 2) (zT z) Y2]) (gr := [wMa cI z ik F, wTo cI (z 3) (zR z) R, wTo cI (z 4) (zK z) K, wTp cI (z 5) (z 6) f n tk bg en nm, wSh cI (z 7) (zS z) s1 s2 s3]) (gc1 := [wTo cI (z 2) (zT z) Y3]) (gs' := [wMa cI z ik F, wTo cI (z 2) (zT z) Y3, wTo cI (z 3) (zR z) R, wTo cI (z 4) (zK z) K, wTp cI (z 5) (z 6) f n tk bg en nm, wSh cI (z 7) (zS z) s1 s2 s3]) (fl1 _) rfl rfl ⟨by decide, by decide⟩ rfl rfl ⟨by decide, by decide⟩ rfl rfl (Nat.le_of_ble_eq_true rfl) dX4_night_68 ?_
          refine aw_bipush C (12 : Int32) dX4_night_71 (by decide) ?_
          refine aw_irem C dX4_night_73 (by decide) ?_
          refine aw_istore C true (lv' := [(0, .ref (z 0)), (1, .int (nI (ix k))), (2, .int (nI i)), (3, .int (ir v1 (8 : Int32))), (4, .int (ir v2 (16 : Int32))), (5, .int (ir v3 (12 : Int32)))]) dX4_night_74 (by decide) rfl rfl ?_
          refine aw_pc 76 rfl ?_
          refine aw_aload_n C dX4_night_76 rfl ?_
          refine aw_getf C 0 3 0 7 inX4 rfl (by decide) rfl k1_117 rfl rfl dX4_night_77 ?_
          refine aw_iload_n C dX4_night_80 rfl ?_
          refine aw_gVp C (As := [.int (ir v1 (8 : Int32))]) (c_X3_isThere l D cI cC adK adV (z 2) (zT z) Y3 (ir v1 (8 : Int32))) k1_172 cv_X3_isThere 2 rfl rfl rfl [1, 0, 2, 3, 4, 5] (fl1 _) rfl 6 rfl (by decide) ⟨by decide, by decide⟩ rfl rfl ⟨by decide, by decide⟩ rfl rfl (Nat.le_of_ble_eq_true rfl) dX4_night_81 ?_
          refine aw_ifeq_b C 109 dX4_night_84 (by decide) (fun c_84 => ?_) (fun c_84 => ?_)
          · skip
            refine aw_aload_n C dX4_night_109 rfl ?_
            refine aw_getf C 0 3 0 7 inX4 rfl (by decide) rfl k1_117 rfl rfl dX4_night_110 ?_
            refine aw_gVdv C (As := []) (c_X3_passDay l D cI cC adK adV (z 2) (zT z) Y3  (by first | (rw [put_n, put_n]; exact n3) | exact (by rw [hY3, hY2, hY1, draw_n, draw_n, draw_n, ← hY0, itr_n (fun _ _ => nStep_n _)]; exact hn))) k2_131 cv_X3_passDay 2 rfl rfl rfl [1, 0, 2, 3, 4, 5] (fl1 _) rfl 6 rfl (by decide) (gc := [wTo cI (z 2) (zT z) Y3]) (gr := [wMa cI z ik F, wTo cI (z 3) (zR z) R, wTo cI (z 4) (zK z) K, wTp cI (z 5) (z 6) f n tk bg en nm, wSh cI (z 7) (zS z) s1 s2 s3]) (gc1 := [wTo cI (z 2) (zT z) (tDay Y3)]) (gs' := [wMa cI z ik F, wTo cI (z 2) (zT z) (tDay Y3), wTo cI (z 3) (zR z) R, wTo cI (z 4) (zK z) K, wTp cI (z 5) (z 6) f n tk bg en nm, wSh cI (z 7) (zS z) s1 s2 s3]) (fl1 _) rfl rfl ⟨by decide, by decide⟩ rfl rfl ⟨by decide, by decide⟩ rfl rfl (Nat.le_of_ble_eq_true rfl) dX4_night_113 ?_
            refine aw_iinc C (nI (i + 1)) dX4_night_116 rfl (inc_nI _ 1) (by decide) rfl (lv' := [(0, .ref (z 0)), (1, .int (nI (ix k))), (2, .int (nI (i + 1))), (3, .int (ir v1 (8 : Int32))), (4, .int (ir v2 (16 : Int32))), (5, .int (ir v3 (12 : Int32)))]) rfl ?_
            refine aw_goto C 36 dX4_night_119 (by decide) ?_
            refine aw_sub (lv' := [(0, .ref (z 0)), (1, .int (nI (ix k))), (2, .int (nI (i + 1)))]) [0, 1, 2] rfl ?_
            exact aw_eq (by first | rfl | (simp only [itr, c_2, c_8, c_25, c_84])) rfl (by subst hv3 hY3 hv2 hY2 hv1 hY1 hY0; rw [itr_s]; first | rw [nStep_y c_84] | rw [nStep_o c_84]) (ih36 trivial)
          · skip
            have n3 : Y3.1 ≤ 8 := (by rw [hY3, hY2, hY1, draw_n, draw_n, draw_n, ← hY0, itr_n (fun _ _ => nStep_n _)]; exact hn)
            have l3 := there_lt n3 c_84
            have e2 : (ir v1 (8 : Int32)) = nI (ix (ir v1 (8 : Int32))) := there_ix c_84
            refine aw_eq (lv' := [(0, .ref (z 0)), (1, .int (nI (ix k))), (2, .int (nI i)), (3, .int (nI (ix (ir v1 (8 : Int32))))), (4, .int (ir v2 (16 : Int32))), (5, .int (ir v3 (12 : Int32)))]) (ws' := fl [wMa cI z ik F, wTo cI (z 2) (zT z) Y3, wTo cI (z 3) (zR z) R, wTo cI (z 4) (zK z) K, wTp cI (z 5) (z 6) f n tk bg en nm, wSh cI (z 7) (zS z) s1 s2 s3]) (by rw [← e2]) rfl rfl ?_
            refine aw_pc 87 rfl ?_
            refine aw_aload_n C dX4_night_87 rfl ?_
            refine aw_getf C 0 3 0 7 inX4 rfl (by decide) rfl k1_117 rfl rfl dX4_night_88 ?_
            refine aw_iload_n C dX4_night_91 rfl ?_
            refine aw_iconst C (1 : Int32) dX4_night_92 (by decide) ?_
            refine aw_iload C dX4_night_93 rfl ?_
            refine aw_gVdv C (As := [.int (nI (ix (ir v1 (8 : Int32)))), .int (1 : Int32), .int (ir v2 (16 : Int32))]) (c_X3_put l D cI cC adK adV (z 2) (zT z) Y3 (ix (ir v1 (8 : Int32))) (1 : Int32) (ir v2 (16 : Int32)) n3 l3) k1_215 cv_X3_put 2 rfl rfl rfl [1, 0, 2, 3, 4, 5] (fl1 _) rfl 6 rfl (by decide) (gc := [wTo cI (z 2) (zT z) Y3]) (gr := [wMa cI z ik F, wTo cI (z 3) (zR z) R, wTo cI (z 4) (zK z) K, wTp cI (z 5) (z 6) f n tk bg en nm, wSh cI (z 7) (zS z) s1 s2 s3]) (gc1 := [wTo cI (z 2) (zT z) (mPut Y3 (ix (ir v1 (8 : Int32))) (1 : Int32) (ir v2 (16 : Int32)))]) (gs' := [wMa cI z ik F, wTo cI (z 2) (zT z) (mPut Y3 (ix (ir v1 (8 : Int32))) (1 : Int32) (ir v2 (16 : Int32))), wTo cI (z 3) (zR z) R, wTo cI (z 4) (zK z) K, wTp cI (z 5) (z 6) f n tk bg en nm, wSh cI (z 7) (zS z) s1 s2 s3]) (fl1 _) rfl rfl ⟨by decide, by decide⟩ rfl rfl ⟨by decide, by decide⟩ rfl rfl (Nat.le_of_ble_eq_true rfl) dX4_night_95 ?_
            refine aw_aload_n C dX4_night_98 rfl ?_
            refine aw_getf C 0 3 0 7 inX4 rfl (by decide) rfl k1_117 rfl rfl dX4_night_99 ?_
            refine aw_iload_n C dX4_night_102 rfl ?_
            refine aw_iconst C (2 : Int32) dX4_night_103 (by decide) ?_
            refine aw_pc 104 rfl ?_
            refine aw_iload C dX4_night_104 rfl ?_
            refine aw_gVdv C (As := [.int (nI (ix (ir v1 (8 : Int32)))), .int (2 : Int32), .int (ir v3 (12 : Int32))]) (c_X3_put l D cI cC adK adV (z 2) (zT z) (mPut Y3 (ix (ir v1 (8 : Int32))) (1 : Int32) (ir v2 (16 : Int32))) (ix (ir v1 (8 : Int32))) (2 : Int32) (ir v3 (12 : Int32)) (by rw [put_n]; exact n3) (by rw [put_n]; exact l3)) k1_215 cv_X3_put 2 rfl rfl rfl [1, 0, 2, 3, 4, 5] (fl1 _) rfl 6 rfl (by decide) (gc := [wTo cI (z 2) (zT z) (mPut Y3 (ix (ir v1 (8 : Int32))) (1 : Int32) (ir v2 (16 : Int32)))]) (gr := [wMa cI z ik F, wTo cI (z 3) (zR z) R, wTo cI (z 4) (zK z) K, wTp cI (z 5) (z 6) f n tk bg en nm, wSh cI (z 7) (zS z) s1 s2 s3]) (gc1 := [wTo cI (z 2) (zT z) (mPut (mPut Y3 (ix (ir v1 (8 : Int32))) (1 : Int32) (ir v2 (16 : Int32))) (ix (ir v1 (8 : Int32))) (2 : Int32) (ir v3 (12 : Int32)))]) (gs' := [wMa cI z ik F, wTo cI (z 2) (zT z) (mPut (mPut Y3 (ix (ir v1 (8 : Int32))) (1 : Int32) (ir v2 (16 : Int32))) (ix (ir v1 (8 : Int32))) (2 : Int32) (ir v3 (12 : Int32))), wTo cI (z 3) (zR z) R, wTo cI (z 4) (zK z) K, wTp cI (z 5) (z 6) f n tk bg en nm, wSh cI (z 7) (zS z) s1 s2 s3]) (fl1 _) rfl rfl ⟨by decide, by decide⟩ rfl rfl ⟨by decide, by decide⟩ rfl rfl (Nat.le_of_ble_eq_true rfl) dX4_night_106 ?_
            refine aw_aload_n C dX4_night_109 rfl ?_
            refine aw_getf C 0 3 0 7 inX4 rfl (by decide) rfl k1_117 rfl rfl dX4_night_110 ?_
            refine aw_gVdv C (As := []) (c_X3_passDay l D cI cC adK adV (z 2) (zT z) (mPut (mPut Y3 (ix (ir v1 (8 : Int32))) (1 : Int32) (ir v2 (16 : Int32))) (ix (ir v1 (8 : Int32))) (2 : Int32) (ir v3 (12 : Int32)))  (by first | (rw [put_n, put_n]; exact n3) | exact (by rw [hY3, hY2, hY1, draw_n, draw_n, draw_n, ← hY0, itr_n (fun _ _ => nStep_n _)]; exact hn))) k2_131 cv_X3_passDay 2 rfl rfl rfl [1, 0, 2, 3, 4, 5] (fl1 _) rfl 6 rfl (by decide) (gc := [wTo cI (z 2) (zT z) (mPut (mPut Y3 (ix (ir v1 (8 : Int32))) (1 : Int32) (ir v2 (16 : Int32))) (ix (ir v1 (8 : Int32))) (2 : Int32) (ir v3 (12 : Int32)))]) (gr := [wMa cI z ik F, wTo cI (z 3) (zR z) R, wTo cI (z 4) (zK z) K, wTp cI (z 5) (z 6) f n tk bg en nm, wSh cI (z 7) (zS z) s1 s2 s3]) (gc1 := [wTo cI (z 2) (zT z) (tDay (mPut (mPut Y3 (ix (ir v1 (8 : Int32))) (1 : Int32) (ir v2 (16 : Int32))) (ix (ir v1 (8 : Int32))) (2 : Int32) (ir v3 (12 : Int32))))]) (gs' := [wMa cI z ik F, wTo cI (z 2) (zT z) (tDay (mPut (mPut Y3 (ix (ir v1 (8 : Int32))) (1 : Int32) (ir v2 (16 : Int32))) (ix (ir v1 (8 : Int32))) (2 : Int32) (ir v3 (12 : Int32)))), wTo cI (z 3) (zR z) R, wTo cI (z 4) (zK z) K, wTp cI (z 5) (z 6) f n tk bg en nm, wSh cI (z 7) (zS z) s1 s2 s3]) (fl1 _) rfl rfl ⟨by decide, by decide⟩ rfl rfl ⟨by decide, by decide⟩ rfl rfl (Nat.le_of_ble_eq_true rfl) dX4_night_113 ?_
            refine aw_iinc C (nI (i + 1)) dX4_night_116 rfl (inc_nI _ 1) (by decide) rfl (lv' := [(0, .ref (z 0)), (1, .int (nI (ix k))), (2, .int (nI (i + 1))), (3, .int (nI (ix (ir v1 (8 : Int32))))), (4, .int (ir v2 (16 : Int32))), (5, .int (ir v3 (12 : Int32)))]) rfl ?_
            refine aw_goto C 36 dX4_night_119 (by decide) ?_
            refine aw_sub (lv' := [(0, .ref (z 0)), (1, .int (nI (ix k))), (2, .int (nI (i + 1)))]) [0, 1, 2] rfl ?_
            exact aw_eq (by first | rfl | (simp only [itr, c_2, c_8, c_25, c_84])) rfl (by subst hv3 hY3 hv2 hY2 hv1 hY1 hY0; rw [itr_s]; first | rw [nStep_y c_84] | rw [nStep_o c_84]) (ih36 trivial)
      · skip
        refine aw_sub (lv' := [(0, .ref (z 0))]) [0] rfl ?_
        exact J28 (by simp only [m_night, c_2, c_8, c_25, decide_true, decide_false, Bool.not_true, Bool.not_false, Bool.true_and, Bool.false_and, Bool.and_true, Bool.and_false, Bool.true_or, Bool.false_or, Bool.or_true, Bool.or_false, cond_true, cond_false, eq_self, if_true, if_false, ite_true, ite_false] <;> rfl)
    · skip
      refine aw_sub (lv' := [(0, .ref (z 0))]) [0] rfl ?_
      exact J11 (by simp only [m_night, c_2, c_8, decide_true, decide_false, Bool.not_true, Bool.not_false, Bool.true_and, Bool.false_and, Bool.and_true, Bool.and_false, Bool.true_or, Bool.false_or, Bool.or_true, Bool.or_false, cond_true, cond_false, eq_self, if_true, if_false, ite_true, ite_false] <;> rfl)
