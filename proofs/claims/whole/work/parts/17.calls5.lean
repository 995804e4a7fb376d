/-! BareThursday: load, judge, feed -/
theorem us_le (x : Int32) : ∃ j : Nat, j < 256 ∧ x &&& 255 = nI j := by
  obtain ⟨j, hj, e⟩ := pk_andE x (m := 255) 8 (by decide)
  exact ⟨j, hj, e⟩
theorem dn1 {k j : Nat} (h : j < k) : nI (k - j) - 1 = nI (k - j - 1) := by
  rw [show (1 : Int32) = nI 1 from rfl, pk_sub (by omega)]
theorem dn2 {k j : Nat} (h : j < k) : (nI (k - j) - 1) + Int32.ofInt (-1) = nI (k - (j + 1)) - 1 := by
  rw [dn1 h]
  cases e : k - j - 1 with
  | zero =>
    rfl
  | succ m =>
    rw [nI_pred, show Int32.ofInt (-1) = -1 from rfl, sb_m1 (by omega)]
    rfl

abbrev r_X4_load : Room := { frames := 2, cells := 0, slots := 0, locals := 44 }
theorem cv_X4_load : cV yX4_load cX4_load 5 (some .int) 1 := ⟨k3_196, k3_197, k3_198, k1_1, by decide, by decide, by decide +kernel⟩
set_option maxHeartbeats 4000000 in
set_option maxRecDepth 100000 in
theorem c_X4_load (l : Launch) (D : va_G) (cI cC : ClassId) (adK adV : Nat → Nat) (z : Nat → Nat) (T R K : Tw) (ik : Bool) (F f : Nat → Int32) (n : Nat) (tk : Int32) (bg en : Nat) (nm : Int32) (s1 s2 s3 : Nat → Int32) (s : Int32) (hn : T.1 ≤ 8) (hS : sOk s2) : FC l yX4_load (wW yX4_load cX4_load 5 (some .int)) r_X4_load D (tyC cI cC) adK adV (wBa cI z T R K ik F f n tk bg en nm s1 s2 s3) [.ref (z 0), .int s] 0 0 (pBa cI z (m_load (T, K, ik, F, f, n, s1, s2, s3) s)) := by
  refine FC.of (own := RX4) (by decide) rfl (Nat.le_of_ble_eq_true rfl) ?_
  intro p9 e9 s9 m9 args9 below9 meth9 c9 A9 C hr hlk hmn
  show AW p9 l e9 r_X4_load s9 m9 args9 below9 meth9 c9 D A9 5 0 0 _ 0 [(0, .ref (z 0)), (1, .int s)] [] _
  refine aw_eq (lv' := [(0, .ref (z 0)), (1, .int s)]) (ws' := fl [wMa cI z ik F, wTo cI (z 2) (zT z) T, wTo cI (z 3) (zR z) R, wTo cI (z 4) (zK z) K, wTp cI (z 5) (z 6) f n tk bg en nm, wSh cI (z 7) (zS z) s1 s2 s3]) rfl rfl rfl ?_
  have J8 : m_load (T, K, ik, F, f, n, s1, s2, s3) s = gno (T, K, ik, F, f, n, s1, s2, s3) 0 → AW p9 l e9 r_X4_load s9 m9 args9 below9 meth9 c9 D A9 5 0 0 (aQ below9 args9 s9 D A9 0 0 (pBa cI z (m_load (T, K, ik, F, f, n, s1, s2, s3) s))) 8 [(0, .ref (z 0))] [] (fl [wMa cI z ik F, wTo cI (z 2) (zT z) T, wTo cI (z 3) (zR z) R, wTo cI (z 4) (zK z) K, wTp cI (z 5) (z 6) f n tk bg en nm, wSh cI (z 7) (zS z) s1 s2 s3]) := by
    intro hj
    refine aw_aload_n C dX4_load_8 rfl ?_
    refine aw_iconst C (0 : Int32) dX4_load_9 (by decide) ?_
    refine aw_gVd C (As := [.int (0 : Int32)]) (c_X4_finding l D cI cC adK adV z ik F 0 (by decide)) k1_146 cv_X4_finding 3 rfl rfl rfl [0, 1, 2, 3, 4, 5] (fl1 _) rfl 6 rfl (by decide) (gc := [wMa cI z ik F]) (gr := [wTo cI (z 2) (zT z) T, wTo cI (z 3) (zR z) R, wTo cI (z 4) (zK z) K, wTp cI (z 5) (z 6) f n tk bg en nm, wSh cI (z 7) (zS z) s1 s2 s3]) (gc1 := [wMa cI z ik (upd F 0 (F 0 + 1))]) (gs' := [wMa cI z ik (upd F 0 (F 0 + 1)), wTo cI (z 2) (zT z) T, wTo cI (z 3) (zR z) R, wTo cI (z 4) (zK z) K, wTp cI (z 5) (z 6) f n tk bg en nm, wSh cI (z 7) (zS z) s1 s2 s3]) (fl1 _) rfl rfl ⟨by decide, by decide⟩ rfl rfl ⟨by decide, by decide⟩ rfl rfl (Nat.le_of_ble_eq_true rfl) dX4_load_10 ?_
    have hm : m_load (T, K, ik, F, f, n, s1, s2, s3) s = ((fno 0), (T, K, ik, (upd F 0 (F 0 + 1)), f, n, s1, s2, s3)) := by rw [hj]; rfl
    exact aw_iret C hr hlk dX4_load_13 ⟨ri (by rw [hm]), R, tk, bg, en, nm, by rw [hm]; rfl⟩
  have J25 : m_load (T, K, ik, F, f, n, s1, s2, s3) s = gno (T, K, ik, F, f, n, s1, s2, s3) 5 → AW p9 l e9 r_X4_load s9 m9 args9 below9 meth9 c9 D A9 5 0 0 (aQ below9 args9 s9 D A9 0 0 (pBa cI z (m_load (T, K, ik, F, f, n, s1, s2, s3) s))) 25 [(0, .ref (z 0))] [] (fl [wMa cI z ik F, wTo cI (z 2) (zT z) T, wTo cI (z 3) (zR z) R, wTo cI (z 4) (zK z) K, wTp cI (z 5) (z 6) f n tk bg en nm, wSh cI (z 7) (zS z) s1 s2 s3]) := by
    intro hj
    refine aw_aload_n C dX4_load_25 rfl ?_
    refine aw_iconst C (5 : Int32) dX4_load_26 (by decide) ?_
    refine aw_gVd C (As := [.int (5 : Int32)]) (c_X4_finding l D cI cC adK adV z ik F 5 (by decide)) k1_146 cv_X4_finding 3 rfl rfl rfl [0, 1, 2, 3, 4, 5] (fl1 _) rfl 6 rfl (by decide) (gc := [wMa cI z ik F]) (gr := [wTo cI (z 2) (zT z) T, wTo cI (z 3) (zR z) R, wTo cI (z 4) (zK z) K, wTp cI (z 5) (z 6) f n tk bg en nm, wSh cI (z 7) (zS z) s1 s2 s3]) (gc1 := [wMa cI z ik (upd F 5 (F 5 + 1))]) (gs' := [wMa cI z ik (upd F 5 (F 5 + 1)), wTo cI (z 2) (zT z) T, wTo cI (z 3) (zR z) R, wTo cI (z 4) (zK z) K, wTp cI (z 5) (z 6) f n tk bg en nm, wSh cI (z 7) (zS z) s1 s2 s3]) (fl1 _) rfl rfl ⟨by decide, by decide⟩ rfl rfl ⟨by decide, by decide⟩ rfl rfl (Nat.le_of_ble_eq_true rfl) dX4_load_27 ?_
    have hm : m_load (T, K, ik, F, f, n, s1, s2, s3) s = ((fno 5), (T, K, ik, (upd F 5 (F 5 + 1)), f, n, s1, s2, s3)) := by rw [hj]; rfl
    exact aw_iret C hr hlk dX4_load_30 ⟨ri (by rw [hm]), R, tk, bg, en, nm, by rw [hm]; rfl⟩
  refine aw_iload_n C dX4_load_0 rfl ?_
  refine aw_pc 1 rfl ?_
  refine aw_iconst C (4 : Int32) dX4_load_1 (by decide) ?_
  refine aw_callSp C (As := [.int s, .int (4 : Int32)]) (c_X4_isIn l D cI cC adK adV s (4 : Int32)) k1_143 cs_X4_isIn [] (by decide) rfl ⟨by decide, by decide⟩ rfl rfl ⟨by decide, by decide⟩ rfl rfl (Nat.le_of_ble_eq_true rfl) dX4_load_2 ?_
  refine aw_ifne_b C 14 dX4_load_5 (by decide) (fun c_5 => ?_) (fun c_5 => ?_)
  · skip
    have hs : ix s < 4 := (in0_ix (n := 4) (by decide) c_5).2
    have e1 : s = nI (ix s) := (in0_ix (n := 4) (by decide) c_5).1
    refine aw_eq (lv' := [(0, .ref (z 0)), (1, .int (nI (ix s)))]) (ws' := fl [wMa cI z ik F, wTo cI (z 2) (zT z) T, wTo cI (z 3) (zR z) R, wTo cI (z 4) (zK z) K, wTp cI (z 5) (z 6) f n tk bg en nm, wSh cI (z 7) (zS z) s1 s2 s3]) (by rw [← e1]) rfl rfl ?_
    refine aw_aload_n C dX4_load_14 rfl ?_
    refine aw_getf C 0 3 5 7 inX4 rfl (by decide) rfl k1_122 rfl rfl dX4_load_15 ?_
    refine aw_iload_n C dX4_load_18 rfl ?_
    refine aw_gVp C (As := [.int (nI (ix s))]) (c_X1_isMissing l D cI cC adK adV (z 7) (zS z) s1 s2 s3 (ix s) (by omega)) k2_186 cv_X1_isMissing 0 rfl rfl rfl [5, 0, 1, 2, 3, 4] (fl1 _) rfl 6 rfl (by decide) ⟨by decide, by decide⟩ rfl rfl ⟨by decide, by decide⟩ rfl rfl (Nat.le_of_ble_eq_true rfl) dX4_load_19 ?_
    refine aw_ifeq_b C 31 dX4_load_22 (by decide) (fun c_22 => ?_) (fun c_22 => ?_)
    · skip
      obtain ⟨len, hl, el⟩ := hS (ix s) hs
      have exl : ix (s2 (ix s)) = len := by rw [el, ix_nI (by omega)]
      refine aw_aload_n C dX4_load_31 rfl ?_
      refine aw_getf C 0 3 5 7 inX4 rfl (by decide) rfl k1_122 rfl rfl dX4_load_32 ?_
      refine aw_pc 35 rfl ?_
      refine aw_iload_n C dX4_load_35 rfl ?_
      refine aw_gVp C (As := [.int (nI (ix s))]) (c_X1_length l D cI cC adK adV (z 7) (zS z) s1 s2 s3 (ix s) (by omega)) k2_194 cv_X1_length 0 rfl rfl rfl [5, 0, 1, 2, 3, 4] (fl1 _) rfl 6 rfl (by decide) ⟨by decide, by decide⟩ rfl rfl ⟨by decide, by decide⟩ rfl rfl (Nat.le_of_ble_eq_true rfl) dX4_load_36 ?_
      refine aw_aload_n C dX4_load_39 rfl ?_
      refine aw_getf C 0 3 0 7 inX4 rfl (by decide) rfl k1_117 rfl rfl dX4_load_40 ?_
      refine aw_getf C 2 2 0 12 inX3 rfl (by decide) rfl k1_34 rfl rfl dX4_load_43 ?_
      refine aw_mmin C k3_199 (by decide) (Nat.le_of_ble_eq_true rfl) (by decide) (by decide) dX4_load_46 ?_
      refine aw_top (y := (nI (min len T.1))) (by rw [el]; exact min_nI (by omega) (by omega)) ?_
      refine aw_istore_n C true (lv' := [(0, .ref (z 0)), (1, .int (nI (ix s))), (2, .int (nI (min len T.1)))]) dX4_load_49 (by decide) rfl rfl ?_
      refine aw_iconst C (0 : Int32) dX4_load_50 (by decide) ?_
      refine aw_istore_n C true (lv' := [(0, .ref (z 0)), (1, .int (nI (ix s))), (2, .int (nI (min len T.1))), (3, .int (0 : Int32))]) dX4_load_51 (by decide) rfl rfl ?_
      refine aw_eq (lv' := [(0, .ref (z 0)), (1, .int (nI (ix s))), (2, .int (nI (min len T.1))), (3, .int (nI 0))]) (ws' := fl [wMa cI z ik F, wTo cI (z 2) (zT z) (tLoad T (fun y => s3 (ix s * 40 + y)) 0), wTo cI (z 3) (zR z) R, wTo cI (z 4) (zK z) K, wTp cI (z 5) (z 6) f n tk bg en nm, wSh cI (z 7) (zS z) s1 s2 s3]) (by first | rfl | (simp only [itr, c_5, c_22])) rfl (by rfl) ?_
      refine aw_loop (LV := fun i0 => [(0, .ref (z 0)), (1, .int (nI (ix s))), (2, .int (nI (min len T.1))), (3, .int (nI i0))]) (WS := fun i0 => fl [wMa cI z ik F, wTo cI (z 2) (zT z) (tLoad T (fun y => s3 (ix s * 40 + y)) i0), wTo cI (z 3) (zR z) R, wTo cI (z 4) (zK z) K, wTp cI (z 5) (z 6) f n tk bg en nm, wSh cI (z 7) (zS z) s1 s2 s3]) (min len T.1) (Inv := fun i => ∀ k, k < i → (!in0 (s3 (ix s * 40 + k)) 12) = false) (fun k hk => absurd hk (Nat.not_lt_zero k)) ?_ ?_
      · intro hv52
        refine aw_iload_n C dX4_load_52 rfl ?_
        refine aw_pc 53 rfl ?_
        refine aw_iload_n C dX4_load_53 rfl ?_
        refine aw_icmp_ge C 97 dX4_load_54 (by decide) (fun c_54 => ?_) (fun c_54 => absurd c_54 (fun z => z (Int32.le_refl _)))
        refine aw_iload_n C dX4_load_97 rfl ?_
        have hm : m_load (T, K, ik, F, f, n, s1, s2, s3) s = ((nI (min len T.1)), ((tLoad T (fun y => s3 (ix s * 40 + y)) (min len T.1)), K, ik, F, f, n, s1, s2, s3)) := by have e9 : ldN T (shRow (T, K, ik, F, f, n, s1, s2, s3) (ix s)) (min len T.1) = min len T.1 := fst9_none hv52; simp only [m_load, c_5, c_22, exl, decide_true, decide_false, Bool.not_true, Bool.not_false, Bool.true_and, Bool.false_and, Bool.and_true, Bool.and_false, Bool.true_or, Bool.false_or, Bool.or_true, Bool.or_false, cond_true, cond_false, eq_self, if_true, if_false, ite_true, ite_false]; rw [e9] <;> rfl
        exact aw_iret C hr hlk dX4_load_98 ⟨ri (by rw [hm]), R, tk, bg, en, nm, by rw [hm]; rfl⟩
      · intro i0 hi52 hv52 ih52
        refine aw_iload_n C dX4_load_52 rfl ?_
        refine aw_iload_n C dX4_load_53 rfl ?_
        refine aw_icmp_ge C 97 dX4_load_54 (by decide) (fun c_54 => absurd c_54 (nI_ge hi52 (Nat.lt_of_le_of_lt (Nat.min_le_left _ _) (by omega)))) (fun c_54 => ?_)
        refine aw_aload_n C dX4_load_57 rfl ?_
        refine aw_getf C 0 3 5 7 inX4 rfl (by decide) rfl k1_122 rfl rfl dX4_load_58 ?_
        refine aw_iload_n C dX4_load_61 rfl ?_
        refine aw_pc 62 rfl ?_
        refine aw_iload_n C dX4_load_62 rfl ?_
        refine aw_gVp C (As := [.int (nI (ix s)), .int (nI i0)]) (c_X1_number l D cI cC adK adV (z 7) (zS z) s1 s2 s3 (ix s) i0 (by omega) (by omega)) k2_198 cv_X1_number 0 rfl rfl rfl [5, 0, 1, 2, 3, 4] (fl1 _) rfl 6 rfl (by decide) ⟨by decide, by decide⟩ rfl rfl ⟨by decide, by decide⟩ rfl rfl (Nat.le_of_ble_eq_true rfl) dX4_load_63 ?_
        refine aw_istore C true (lv' := [(0, .ref (z 0)), (1, .int (nI (ix s))), (2, .int (nI (min len T.1))), (3, .int (nI i0)), (4, .int (s3 ((ix s) * 40 + i0)))]) dX4_load_66 (by decide) rfl rfl ?_
        refine aw_iload C dX4_load_68 rfl ?_
        refine aw_bipush C (12 : Int32) dX4_load_70 (by decide) ?_
        refine aw_callSp C (As := [.int (s3 ((ix s) * 40 + i0)), .int (12 : Int32)]) (c_X4_isIn l D cI cC adK adV (s3 ((ix s) * 40 + i0)) (12 : Int32)) k1_143 cs_X4_isIn [] (by decide) rfl ⟨by decide, by decide⟩ rfl rfl ⟨by decide, by decide⟩ rfl rfl (Nat.le_of_ble_eq_true rfl) dX4_load_72 ?_
        refine aw_ifne_b C 80 dX4_load_75 (by decide) (fun c_75 => ?_) (fun c_75 => ?_)
        · skip
          refine aw_aload_n C dX4_load_80 rfl ?_
          refine aw_getf C 0 3 0 7 inX4 rfl (by decide) rfl k1_117 rfl rfl dX4_load_81 ?_
          refine aw_iload_n C dX4_load_84 rfl ?_
          refine aw_pc 85 rfl ?_
          refine aw_iconst C (2 : Int32) dX4_load_85 (by decide) ?_
          refine aw_iload C dX4_load_86 rfl ?_
          refine aw_gVdv C (As := [.int (nI i0), .int (2 : Int32), .int (s3 ((ix s) * 40 + i0))]) (c_X3_put l D cI cC adK adV (z 2) (zT z) (tLoad T (fun y => s3 (ix s * 40 + y)) i0) i0 (2 : Int32) (s3 ((ix s) * 40 + i0)) (by rw [load_n]; exact hn) (by rw [load_n]; omega)) k1_215 cv_X3_put 2 rfl rfl rfl [1, 0, 2, 3, 4, 5] (fl1 _) rfl 6 rfl (by decide) (gc := [wTo cI (z 2) (zT z) (tLoad T (fun y => s3 (ix s * 40 + y)) i0)]) (gr := [wMa cI z ik F, wTo cI (z 3) (zR z) R, wTo cI (z 4) (zK z) K, wTp cI (z 5) (z 6) f n tk bg en nm, wSh cI (z 7) (zS z) s1 s2 s3]) (gc1 := [wTo cI (z 2) (zT z) (mPut (tLoad T (fun y => s3 (ix s * 40 + y)) i0) i0 (2 : Int32) (s3 ((ix s) * 40 + i0)))]) (gs' := [wMa cI z ik F, wTo cI (z 2) (zT z) (mPut (tLoad T (fun y => s3 (ix s * 40 + y)) i0) i0 (2 : Int32) (s3 ((ix s) * 40 + i0))), wTo cI (z 3) (zR z) R, wTo cI (z 4) (zK z) K, wTp cI (z 5) (z 6) f n tk bg en nm, wSh cI (z 7) (zS z) s1 s2 s3]) (fl1 _) rfl rfl ⟨by decide, by decide⟩ rfl rfl ⟨by decide, by decide⟩ rfl rfl (Nat.le_of_ble_eq_true rfl) dX4_load_88 ?_
          refine aw_iinc C (nI (i0 + 1)) dX4_load_91 rfl (inc_nI _ 1) (by decide) rfl (lv' := [(0, .ref (z 0)), (1, .int (nI (ix s))), (2, .int (nI (min len T.1))), (3, .int (nI (i0 + 1))), (4, .int (s3 ((ix s) * 40 + i0)))]) rfl ?_
          refine aw_goto C 52 dX4_load_94 (by decide) ?_
          refine aw_sub (lv' := [(0, .ref (z 0)), (1, .int (nI (ix s))), (2, .int (nI (min len T.1))), (3, .int (nI (i0 + 1)))]) [0, 1, 2, 3] rfl ?_
          exact aw_eq (by first | rfl | (simp only [itr, c_5, c_22, c_75])) rfl (by first | rfl | (simp only [itr, c_5, c_22, c_75] <;> first | done | rfl)) (ih52 (all_s hv52 (by simp only [c_75, decide_true, decide_false, Bool.not_true, Bool.not_false, Bool.true_and, Bool.false_and, Bool.and_true, Bool.and_false, Bool.true_or, Bool.false_or, Bool.or_true, Bool.or_false, cond_true, cond_false, eq_self, if_true, if_false, ite_true, ite_false])))
        · skip
          refine aw_iload_n C dX4_load_78 rfl ?_
          have hm : m_load (T, K, ik, F, f, n, s1, s2, s3) s = ((nI i0), ((tLoad T (fun y => s3 (ix s * 40 + y)) i0), K, ik, F, f, n, s1, s2, s3)) := by have e9 : ldN T (shRow (T, K, ik, F, f, n, s1, s2, s3) (ix s)) (min len T.1) = i0 := fst9_at hv52 (by simp only [c_75, decide_true, decide_false, Bool.not_true, Bool.not_false, Bool.true_and, Bool.false_and, Bool.and_true, Bool.and_false, Bool.true_or, Bool.false_or, Bool.or_true, Bool.or_false, cond_true, cond_false, eq_self, if_true, if_false, ite_true, ite_false]) hi52; simp only [m_load, c_5, c_22, exl, decide_true, decide_false, Bool.not_true, Bool.not_false, Bool.true_and, Bool.false_and, Bool.and_true, Bool.and_false, Bool.true_or, Bool.false_or, Bool.or_true, Bool.or_false, cond_true, cond_false, eq_self, if_true, if_false, ite_true, ite_false]; rw [e9] <;> rfl
          exact aw_iret C hr hlk dX4_load_79 ⟨ri (by rw [hm]), R, tk, bg, en, nm, by rw [hm]; rfl⟩
    · skip
      refine aw_sub (lv' := [(0, .ref (z 0))]) [0] rfl ?_
      exact J25 (by simp only [m_load, c_5, c_22, decide_true, decide_false, Bool.not_true, Bool.not_false, Bool.true_and, Bool.false_and, Bool.and_true, Bool.and_false, Bool.true_or, Bool.false_or, Bool.or_true, Bool.or_false, cond_true, cond_false, eq_self, if_true, if_false, ite_true, ite_false] <;> rfl)
  · skip
    refine aw_sub (lv' := [(0, .ref (z 0))]) [0] rfl ?_
    exact J8 (by simp only [m_load, c_5, decide_true, decide_false, Bool.not_true, Bool.not_false, Bool.true_and, Bool.false_and, Bool.and_true, Bool.and_false, Bool.true_or, Bool.false_or, Bool.or_true, Bool.or_false, cond_true, cond_false, eq_self, if_true, if_false, ite_true, ite_false] <;> rfl)
abbrev r_X4_judge : Room := { frames := 3, cells := 0, slots := 0, locals := 64 }
theorem cv_X4_judge : cV yX4_judge cX4_judge 3 (some .int) 1 := ⟨k3_201, k3_202, k3_203, k1_1, by decide, by decide, by decide +kernel⟩
set_option maxHeartbeats 4000000 in
set_option maxRecDepth 100000 in
theorem c_X4_judge (l : Launch) (D : va_G) (cI cC : ClassId) (adK adV : Nat → Nat) (z : Nat → Nat) (T R K : Tw) (ik : Bool) (F f : Nat → Int32) (n : Nat) (tk : Int32) (bg en : Nat) (nm : Int32) (s1 s2 s3 : Nat → Int32) (s : Int32) (hn : T.1 ≤ 8) (hS : sOk s2) : FC l yX4_judge (wW yX4_judge cX4_judge 3 (some .int)) r_X4_judge D (tyC cI cC) adK adV (wBa cI z T R K ik F f n tk bg en nm s1 s2 s3) [.ref (z 0), .int s] 0 0 (pBa cI z (m_judge (T, K, ik, F, f, n, s1, s2, s3) s)) := by
  refine FC.of (own := RX4) (by decide) rfl (Nat.le_of_ble_eq_true rfl) ?_
  intro p9 e9 s9 m9 args9 below9 meth9 c9 A9 C hr hlk hmn
  show AW p9 l e9 r_X4_judge s9 m9 args9 below9 meth9 c9 D A9 3 0 0 _ 0 [(0, .ref (z 0)), (1, .int s)] [] _
  refine aw_eq (lv' := [(0, .ref (z 0)), (1, .int s)]) (ws' := fl [wMa cI z ik F, wTo cI (z 2) (zT z) T, wTo cI (z 3) (zR z) R, wTo cI (z 4) (zK z) K, wTp cI (z 5) (z 6) f n tk bg en nm, wSh cI (z 7) (zS z) s1 s2 s3]) rfl rfl rfl ?_
  have J8 : m_judge (T, K, ik, F, f, n, s1, s2, s3) s = gno (T, K, ik, F, f, n, s1, s2, s3) 0 → AW p9 l e9 r_X4_judge s9 m9 args9 below9 meth9 c9 D A9 3 0 0 (aQ below9 args9 s9 D A9 0 0 (pBa cI z (m_judge (T, K, ik, F, f, n, s1, s2, s3) s))) 8 [(0, .ref (z 0))] [] (fl [wMa cI z ik F, wTo cI (z 2) (zT z) T, wTo cI (z 3) (zR z) R, wTo cI (z 4) (zK z) K, wTp cI (z 5) (z 6) f n tk bg en nm, wSh cI (z 7) (zS z) s1 s2 s3]) := by
    intro hj
    refine aw_aload_n C dX4_judge_8 rfl ?_
    refine aw_iconst C (0 : Int32) dX4_judge_9 (by decide) ?_
    refine aw_gVd C (As := [.int (0 : Int32)]) (c_X4_finding l D cI cC adK adV z ik F 0 (by decide)) k1_146 cv_X4_finding 3 rfl rfl rfl [0, 1, 2, 3, 4, 5] (fl1 _) rfl 6 rfl (by decide) (gc := [wMa cI z ik F]) (gr := [wTo cI (z 2) (zT z) T, wTo cI (z 3) (zR z) R, wTo cI (z 4) (zK z) K, wTp cI (z 5) (z 6) f n tk bg en nm, wSh cI (z 7) (zS z) s1 s2 s3]) (gc1 := [wMa cI z ik (upd F 0 (F 0 + 1))]) (gs' := [wMa cI z ik (upd F 0 (F 0 + 1)), wTo cI (z 2) (zT z) T, wTo cI (z 3) (zR z) R, wTo cI (z 4) (zK z) K, wTp cI (z 5) (z 6) f n tk bg en nm, wSh cI (z 7) (zS z) s1 s2 s3]) (fl1 _) rfl rfl ⟨by decide, by decide⟩ rfl rfl ⟨by decide, by decide⟩ rfl rfl (Nat.le_of_ble_eq_true rfl) dX4_judge_10 ?_
    have hm : m_judge (T, K, ik, F, f, n, s1, s2, s3) s = ((fno 0), (T, K, ik, (upd F 0 (F 0 + 1)), f, n, s1, s2, s3)) := by rw [hj]; rfl
    exact aw_iret C hr hlk dX4_judge_13 ⟨ri (by rw [hm]), R, tk, bg, en, nm, by rw [hm]; rfl⟩
  have J25 : m_judge (T, K, ik, F, f, n, s1, s2, s3) s = gno (T, K, ik, F, f, n, s1, s2, s3) 5 → AW p9 l e9 r_X4_judge s9 m9 args9 below9 meth9 c9 D A9 3 0 0 (aQ below9 args9 s9 D A9 0 0 (pBa cI z (m_judge (T, K, ik, F, f, n, s1, s2, s3) s))) 25 [(0, .ref (z 0))] [] (fl [wMa cI z ik F, wTo cI (z 2) (zT z) T, wTo cI (z 3) (zR z) R, wTo cI (z 4) (zK z) K, wTp cI (z 5) (z 6) f n tk bg en nm, wSh cI (z 7) (zS z) s1 s2 s3]) := by
    intro hj
    refine aw_aload_n C dX4_judge_25 rfl ?_
    refine aw_iconst C (5 : Int32) dX4_judge_26 (by decide) ?_
    refine aw_gVd C (As := [.int (5 : Int32)]) (c_X4_finding l D cI cC adK adV z ik F 5 (by decide)) k1_146 cv_X4_finding 3 rfl rfl rfl [0, 1, 2, 3, 4, 5] (fl1 _) rfl 6 rfl (by decide) (gc := [wMa cI z ik F]) (gr := [wTo cI (z 2) (zT z) T, wTo cI (z 3) (zR z) R, wTo cI (z 4) (zK z) K, wTp cI (z 5) (z 6) f n tk bg en nm, wSh cI (z 7) (zS z) s1 s2 s3]) (gc1 := [wMa cI z ik (upd F 5 (F 5 + 1))]) (gs' := [wMa cI z ik (upd F 5 (F 5 + 1)), wTo cI (z 2) (zT z) T, wTo cI (z 3) (zR z) R, wTo cI (z 4) (zK z) K, wTp cI (z 5) (z 6) f n tk bg en nm, wSh cI (z 7) (zS z) s1 s2 s3]) (fl1 _) rfl rfl ⟨by decide, by decide⟩ rfl rfl ⟨by decide, by decide⟩ rfl rfl (Nat.le_of_ble_eq_true rfl) dX4_judge_27 ?_
    have hm : m_judge (T, K, ik, F, f, n, s1, s2, s3) s = ((fno 5), (T, K, ik, (upd F 5 (F 5 + 1)), f, n, s1, s2, s3)) := by rw [hj]; rfl
    exact aw_iret C hr hlk dX4_judge_30 ⟨ri (by rw [hm]), R, tk, bg, en, nm, by rw [hm]; rfl⟩
  refine aw_iload_n C dX4_judge_0 rfl ?_
  refine aw_pc 1 rfl ?_
  refine aw_iconst C (4 : Int32) dX4_judge_1 (by decide) ?_
  refine aw_callSp C (As := [.int s, .int (4 : Int32)]) (c_X4_isIn l D cI cC adK adV s (4 : Int32)) k1_143 cs_X4_isIn [] (by decide) rfl ⟨by decide, by decide⟩ rfl rfl ⟨by decide, by decide⟩ rfl rfl (Nat.le_of_ble_eq_true rfl) dX4_judge_2 ?_
  refine aw_ifne_b C 14 dX4_judge_5 (by decide) (fun c_5 => ?_) (fun c_5 => ?_)
  · skip
    have hs : ix s < 4 := (in0_ix (n := 4) (by decide) c_5).2
    have e1 : s = nI (ix s) := (in0_ix (n := 4) (by decide) c_5).1
    refine aw_eq (lv' := [(0, .ref (z 0)), (1, .int (nI (ix s)))]) (ws' := fl [wMa cI z ik F, wTo cI (z 2) (zT z) T, wTo cI (z 3) (zR z) R, wTo cI (z 4) (zK z) K, wTp cI (z 5) (z 6) f n tk bg en nm, wSh cI (z 7) (zS z) s1 s2 s3]) (by rw [← e1]) rfl rfl ?_
    refine aw_aload_n C dX4_judge_14 rfl ?_
    refine aw_getf C 0 3 5 7 inX4 rfl (by decide) rfl k1_122 rfl rfl dX4_judge_15 ?_
    refine aw_iload_n C dX4_judge_18 rfl ?_
    refine aw_gVp C (As := [.int (nI (ix s))]) (c_X1_isMissing l D cI cC adK adV (z 7) (zS z) s1 s2 s3 (ix s) (by omega)) k2_186 cv_X1_isMissing 0 rfl rfl rfl [5, 0, 1, 2, 3, 4] (fl1 _) rfl 6 rfl (by decide) ⟨by decide, by decide⟩ rfl rfl ⟨by decide, by decide⟩ rfl rfl (Nat.le_of_ble_eq_true rfl) dX4_judge_19 ?_
    refine aw_ifeq_b C 31 dX4_judge_22 (by decide) (fun c_22 => ?_) (fun c_22 => ?_)
    · skip
      obtain ⟨len, hl, el⟩ := hS (ix s) hs
      have exl : ix (s2 (ix s)) = len := by rw [el, ix_nI (by omega)]
      refine aw_iconst C (0 : Int32) dX4_judge_31 (by decide) ?_
      refine aw_istore_n C true (lv' := [(0, .ref (z 0)), (1, .int (nI (ix s))), (2, .int (0 : Int32))]) dX4_judge_32 (by decide) rfl rfl ?_
      refine aw_eq (lv' := [(0, .ref (z 0)), (1, .int (nI (ix s))), (2, .int (nI 0))]) (ws' := fl [wMa cI z ik F, wTo cI (z 2) (zT z) T, wTo cI (z 3) (zR z) R, wTo cI (z 4) (zK z) K, wTp cI (z 5) (z 6) f n tk bg en nm, wSh cI (z 7) (zS z) s1 s2 s3]) (by first | rfl | (simp only [itr, c_5, c_22])) rfl (by rfl) ?_
      refine aw_loop (LV := fun i0 => [(0, .ref (z 0)), (1, .int (nI (ix s))), (2, .int (nI i0))]) (WS := fun i0 => fl [wMa cI z ik F, wTo cI (z 2) (zT z) T, wTo cI (z 3) (zR z) R, wTo cI (z 4) (zK z) K, wTp cI (z 5) (z 6) f n tk bg en nm, wSh cI (z 7) (zS z) s1 s2 s3]) len (Inv := fun i => ∀ k, k < i → jgC T (fun i => s3 (ix s * 40 + i)) k = false) (fun k hk => absurd hk (Nat.not_lt_zero k)) ?_ ?_
      · intro hv33
        refine aw_pc 33 rfl ?_
        refine aw_iload_n C dX4_judge_33 rfl ?_
        refine aw_aload_n C dX4_judge_34 rfl ?_
        refine aw_getf C 0 3 5 7 inX4 rfl (by decide) rfl k1_122 rfl rfl dX4_judge_35 ?_
        refine aw_iload_n C dX4_judge_38 rfl ?_
        refine aw_gVp C (As := [.int (nI (ix s))]) (c_X1_length l D cI cC adK adV (z 7) (zS z) s1 s2 s3 (ix s) (by omega)) k2_194 cv_X1_length 0 rfl rfl rfl [5, 0, 1, 2, 3, 4] (fl1 _) rfl 6 rfl (by decide) ⟨by decide, by decide⟩ rfl rfl ⟨by decide, by decide⟩ rfl rfl (Nat.le_of_ble_eq_true rfl) dX4_judge_39 ?_
        refine aw_top (y := (nI len)) (by exact el) ?_
        refine aw_icmp_ge C 87 dX4_judge_42 (by decide) (fun c_42 => ?_) (fun c_42 => absurd c_42 (fun z => z (Int32.le_refl _)))
        refine aw_iconst C (0 : Int32) dX4_judge_87 (by decide) ?_
        have hm : m_judge (T, K, ik, F, f, n, s1, s2, s3) s = ((0 : Int32), (T, K, ik, F, f, n, s1, s2, s3)) := by have e9 : fst9 (jgC T (shRow (T, K, ik, F, f, n, s1, s2, s3) (ix s))) len = len := fst9_none hv33; simp only [m_judge, c_5, c_22, exl, decide_true, decide_false, Bool.not_true, Bool.not_false, Bool.true_and, Bool.false_and, Bool.and_true, Bool.and_false, Bool.true_or, Bool.false_or, Bool.or_true, Bool.or_false, cond_true, cond_false, eq_self, if_true, if_false, ite_true, ite_false]; rw [e9]; simp only [Nat.lt_irrefl, decide_true, decide_false, Bool.not_true, Bool.not_false, Bool.true_and, Bool.false_and, Bool.and_true, Bool.and_false, Bool.true_or, Bool.false_or, Bool.or_true, Bool.or_false, cond_true, cond_false, eq_self, if_true, if_false, ite_true, ite_false]
        exact aw_iret C hr hlk dX4_judge_88 ⟨ri (by rw [hm]), R, tk, bg, en, nm, by rw [hm]; rfl⟩
      · intro i0 hi33 hv33 ih33
        refine aw_iload_n C dX4_judge_33 rfl ?_
        refine aw_aload_n C dX4_judge_34 rfl ?_
        refine aw_pc 35 rfl ?_
        refine aw_getf C 0 3 5 7 inX4 rfl (by decide) rfl k1_122 rfl rfl dX4_judge_35 ?_
        refine aw_iload_n C dX4_judge_38 rfl ?_
        refine aw_gVp C (As := [.int (nI (ix s))]) (c_X1_length l D cI cC adK adV (z 7) (zS z) s1 s2 s3 (ix s) (by omega)) k2_194 cv_X1_length 0 rfl rfl rfl [5, 0, 1, 2, 3, 4] (fl1 _) rfl 6 rfl (by decide) ⟨by decide, by decide⟩ rfl rfl ⟨by decide, by decide⟩ rfl rfl (Nat.le_of_ble_eq_true rfl) dX4_judge_39 ?_
        refine aw_top (y := (nI len)) (by exact el) ?_
        refine aw_icmp_ge C 87 dX4_judge_42 (by decide) (fun c_42 => absurd c_42 (nI_ge hi33 (by omega))) (fun c_42 => ?_)
        refine aw_aload_n C dX4_judge_45 rfl ?_
        refine aw_getf C 0 3 0 7 inX4 rfl (by decide) rfl k1_117 rfl rfl dX4_judge_46 ?_
        refine aw_iload_n C dX4_judge_49 rfl ?_
        refine aw_gVp C (As := [.int (nI i0)]) (c_X3_isThere l D cI cC adK adV (z 2) (zT z) T (nI i0)) k1_172 cv_X3_isThere 2 rfl rfl rfl [1, 0, 2, 3, 4, 5] (fl1 _) rfl 6 rfl (by decide) ⟨by decide, by decide⟩ rfl rfl ⟨by decide, by decide⟩ rfl rfl (Nat.le_of_ble_eq_true rfl) dX4_judge_50 ?_
        refine aw_ifeq_b C 77 dX4_judge_53 (by decide) (fun c_53 => ?_) (fun c_53 => ?_)
        · skip
          refine aw_iconst C (1 : Int32) dX4_judge_77 (by decide) ?_
          refine aw_pc 78 rfl ?_
          refine aw_iload_n C dX4_judge_78 rfl ?_
          refine aw_iadd C dX4_judge_79 ?_
          have hm : m_judge (T, K, ik, F, f, n, s1, s2, s3) s = (((1 : Int32) + (nI i0)), (T, K, ik, F, f, n, s1, s2, s3)) := by have e9 : fst9 (jgC T (shRow (T, K, ik, F, f, n, s1, s2, s3) (ix s))) len = i0 := fst9_at hv33 (by simp only [jgC, c_5, c_22, c_53, decide_true, decide_false, Bool.not_true, Bool.not_false, Bool.true_and, Bool.false_and, Bool.and_true, Bool.and_false, Bool.true_or, Bool.false_or, Bool.or_true, Bool.or_false, cond_true, cond_false, eq_self, if_true, if_false, ite_true, ite_false]) hi33; simp only [m_judge, c_5, c_22, exl, decide_true, decide_false, Bool.not_true, Bool.not_false, Bool.true_and, Bool.false_and, Bool.and_true, Bool.and_false, Bool.true_or, Bool.false_or, Bool.or_true, Bool.or_false, cond_true, cond_false, eq_self, if_true, if_false, ite_true, ite_false]; rw [e9]; simp only [decide_eq_true hi33, decide_true, decide_false, Bool.not_true, Bool.not_false, Bool.true_and, Bool.false_and, Bool.and_true, Bool.and_false, Bool.true_or, Bool.false_or, Bool.or_true, Bool.or_false, cond_true, cond_false, eq_self, if_true, if_false, ite_true, ite_false]
          exact aw_iret C hr hlk dX4_judge_80 ⟨ri (by rw [hm]), R, tk, bg, en, nm, by rw [hm]; rfl⟩
        · skip
          have l3 := there_inv (by omega) hn c_53
          refine aw_aload_n C dX4_judge_56 rfl ?_
          refine aw_getf C 0 3 5 7 inX4 rfl (by decide) rfl k1_122 rfl rfl dX4_judge_57 ?_
          refine aw_iload_n C dX4_judge_60 rfl ?_
          refine aw_iload_n C dX4_judge_61 rfl ?_
          refine aw_gVp C (As := [.int (nI (ix s)), .int (nI i0)]) (c_X1_number l D cI cC adK adV (z 7) (zS z) s1 s2 s3 (ix s) i0 (by omega) (by omega)) k2_198 cv_X1_number 0 rfl rfl rfl [5, 0, 1, 2, 3, 4] (fl1 _) rfl 6 rfl (by decide) ⟨by decide, by decide⟩ rfl rfl ⟨by decide, by decide⟩ rfl rfl (Nat.le_of_ble_eq_true rfl) dX4_judge_62 ?_
          refine aw_aload_n C dX4_judge_65 rfl ?_
          refine aw_getf C 0 3 0 7 inX4 rfl (by decide) rfl k1_117 rfl rfl dX4_judge_66 ?_
          refine aw_pc 69 rfl ?_
          refine aw_iload_n C dX4_judge_69 rfl ?_
          refine aw_iconst C (4 : Int32) dX4_judge_70 (by decide) ?_
          refine aw_gVp C (As := [.int (nI i0), .int (4 : Int32)]) (c_X3_trait l D cI cC adK adV (z 2) (zT z) T i0 (4 : Int32) hn l3) k1_173 cv_X3_trait 2 rfl rfl rfl [1, 0, 2, 3, 4, 5] (fl1 _) rfl 6 rfl (by decide) ⟨by decide, by decide⟩ rfl rfl ⟨by decide, by decide⟩ rfl rfl (Nat.le_of_ble_eq_true rfl) dX4_judge_71 ?_
          refine aw_icmp_eq C 81 dX4_judge_74 (by decide) (fun c_74 => ?_) (fun c_74 => ?_)
          · skip
            refine aw_iinc C (nI (i0 + 1)) dX4_judge_81 rfl (inc_nI _ 1) (by decide) rfl (lv' := [(0, .ref (z 0)), (1, .int (nI (ix s))), (2, .int (nI (i0 + 1)))]) rfl ?_
            refine aw_goto C 33 dX4_judge_84 (by decide) ?_
            exact aw_eq (by first | rfl | (simp only [itr, c_5, c_22, c_53, c_74])) rfl (by first | rfl | (simp only [itr, c_5, c_22, c_53, c_74] <;> first | done | rfl)) (ih33 (all_s hv33 (by simp only [jgC, itr, c_5, c_22, c_53, c_74, decide_true, decide_false, Bool.not_true, Bool.not_false, Bool.true_and, Bool.false_and, Bool.and_true, Bool.and_false, Bool.true_or, Bool.false_or, Bool.or_true, Bool.or_false, cond_true, cond_false, eq_self, if_true, if_false, ite_true, ite_false])))
          · skip
            refine aw_iconst C (1 : Int32) dX4_judge_77 (by decide) ?_
            refine aw_iload_n C dX4_judge_78 rfl ?_
            refine aw_iadd C dX4_judge_79 ?_
            have hm : m_judge (T, K, ik, F, f, n, s1, s2, s3) s = (((1 : Int32) + (nI i0)), (T, K, ik, F, f, n, s1, s2, s3)) := by have e9 : fst9 (jgC T (shRow (T, K, ik, F, f, n, s1, s2, s3) (ix s))) len = i0 := fst9_at hv33 (by simp only [jgC, c_5, c_22, c_53, c_74, decide_true, decide_false, Bool.not_true, Bool.not_false, Bool.true_and, Bool.false_and, Bool.and_true, Bool.and_false, Bool.true_or, Bool.false_or, Bool.or_true, Bool.or_false, cond_true, cond_false, eq_self, if_true, if_false, ite_true, ite_false]) hi33; simp only [m_judge, c_5, c_22, exl, decide_true, decide_false, Bool.not_true, Bool.not_false, Bool.true_and, Bool.false_and, Bool.and_true, Bool.and_false, Bool.true_or, Bool.false_or, Bool.or_true, Bool.or_false, cond_true, cond_false, eq_self, if_true, if_false, ite_true, ite_false]; rw [e9]; simp only [decide_eq_true hi33, decide_true, decide_false, Bool.not_true, Bool.not_false, Bool.true_and, Bool.false_and, Bool.and_true, Bool.and_false, Bool.true_or, Bool.false_or, Bool.or_true, Bool.or_false, cond_true, cond_false, eq_self, if_true, if_false, ite_true, ite_false]
            exact aw_iret C hr hlk dX4_judge_80 ⟨ri (by rw [hm]), R, tk, bg, en, nm, by rw [hm]; rfl⟩
    · skip
      refine aw_sub (lv' := [(0, .ref (z 0))]) [0] rfl ?_
      exact J25 (by simp only [m_judge, c_5, c_22, decide_true, decide_false, Bool.not_true, Bool.not_false, Bool.true_and, Bool.false_and, Bool.and_true, Bool.and_false, Bool.true_or, Bool.false_or, Bool.or_true, Bool.or_false, cond_true, cond_false, eq_self, if_true, if_false, ite_true, ite_false] <;> rfl)
  · skip
    refine aw_sub (lv' := [(0, .ref (z 0))]) [0] rfl ?_
    exact J8 (by simp only [m_judge, c_5, decide_true, decide_false, Bool.not_true, Bool.not_false, Bool.true_and, Bool.false_and, Bool.and_true, Bool.and_false, Bool.true_or, Bool.false_or, Bool.or_true, Bool.or_false, cond_true, cond_false, eq_self, if_true, if_false, ite_true, ite_false] <;> rfl)
abbrev r_X4_feed : Room := { frames := 2, cells := 0, slots := 0, locals := 42 }
theorem cv_X4_feed : cV yX4_feed cX4_feed 4 (some .int) 2 := ⟨k2_231, k2_232, k2_233, k1_1, by decide, by decide, by decide +kernel⟩
set_option maxHeartbeats 4000000 in
set_option maxRecDepth 100000 in
theorem c_X4_feed (l : Launch) (D : va_G) (cI cC : ClassId) (adK adV : Nat → Nat) (z : Nat → Nat) (T R K : Tw) (ik : Bool) (F f : Nat → Int32) (n : Nat) (tk : Int32) (bg en : Nat) (nm : Int32) (s1 s2 s3 : Nat → Int32) (b : Int32) (k : Int32) (hT : n ≤ 120) : FC l yX4_feed (wW yX4_feed cX4_feed 4 (some .int)) r_X4_feed D (tyC cI cC) adK adV (wBa cI z T R K ik F f n tk bg en nm s1 s2 s3) [.ref (z 0), .int b, .int k] 0 0 (pBa cI z (m_feed (T, K, ik, F, f, n, s1, s2, s3) b k)) := by
  refine FC.of (own := RX4) (by decide) rfl (Nat.le_of_ble_eq_true rfl) ?_
  intro p9 e9 s9 m9 args9 below9 meth9 c9 A9 C hr hlk hmn
  show AW p9 l e9 r_X4_feed s9 m9 args9 below9 meth9 c9 D A9 4 0 0 _ 0 [(0, .ref (z 0)), (1, .int b), (2, .int k)] [] _
  refine aw_eq (lv' := [(0, .ref (z 0)), (1, .int b), (2, .int k)]) (ws' := fl [wMa cI z ik F, wTo cI (z 2) (zT z) T, wTo cI (z 3) (zR z) R, wTo cI (z 4) (zK z) K, wTp cI (z 5) (z 6) f n tk bg en nm, wSh cI (z 7) (zS z) s1 s2 s3]) rfl rfl rfl ?_
  have J10 : m_feed (T, K, ik, F, f, n, s1, s2, s3) b k = gno (T, K, ik, F, f, n, s1, s2, s3) 0 → AW p9 l e9 r_X4_feed s9 m9 args9 below9 meth9 c9 D A9 4 0 0 (aQ below9 args9 s9 D A9 0 0 (pBa cI z (m_feed (T, K, ik, F, f, n, s1, s2, s3) b k))) 10 [(0, .ref (z 0))] [] (fl [wMa cI z ik F, wTo cI (z 2) (zT z) T, wTo cI (z 3) (zR z) R, wTo cI (z 4) (zK z) K, wTp cI (z 5) (z 6) f n tk bg en nm, wSh cI (z 7) (zS z) s1 s2 s3]) := by
    intro hj
    refine aw_aload_n C dX4_feed_10 rfl ?_
    refine aw_iconst C (0 : Int32) dX4_feed_11 (by decide) ?_
    refine aw_gVd C (As := [.int (0 : Int32)]) (c_X4_finding l D cI cC adK adV z ik F 0 (by decide)) k1_146 cv_X4_finding 3 rfl rfl rfl [0, 1, 2, 3, 4, 5] (fl1 _) rfl 6 rfl (by decide) (gc := [wMa cI z ik F]) (gr := [wTo cI (z 2) (zT z) T, wTo cI (z 3) (zR z) R, wTo cI (z 4) (zK z) K, wTp cI (z 5) (z 6) f n tk bg en nm, wSh cI (z 7) (zS z) s1 s2 s3]) (gc1 := [wMa cI z ik (upd F 0 (F 0 + 1))]) (gs' := [wMa cI z ik (upd F 0 (F 0 + 1)), wTo cI (z 2) (zT z) T, wTo cI (z 3) (zR z) R, wTo cI (z 4) (zK z) K, wTp cI (z 5) (z 6) f n tk bg en nm, wSh cI (z 7) (zS z) s1 s2 s3]) (fl1 _) rfl rfl ⟨by decide, by decide⟩ rfl rfl ⟨by decide, by decide⟩ rfl rfl (Nat.le_of_ble_eq_true rfl) dX4_feed_12 ?_
    have hm : m_feed (T, K, ik, F, f, n, s1, s2, s3) b k = ((fno 0), (T, K, ik, (upd F 0 (F 0 + 1)), f, n, s1, s2, s3)) := by rw [hj]; rfl
    exact aw_iret C hr hlk dX4_feed_15 ⟨ri (by rw [hm]), R, tk, bg, en, nm, by rw [hm]; rfl⟩
  have J27 : m_feed (T, K, ik, F, f, n, s1, s2, s3) b k = gno (T, K, ik, F, f, n, s1, s2, s3) 1 → AW p9 l e9 r_X4_feed s9 m9 args9 below9 meth9 c9 D A9 4 0 0 (aQ below9 args9 s9 D A9 0 0 (pBa cI z (m_feed (T, K, ik, F, f, n, s1, s2, s3) b k))) 27 [(0, .ref (z 0))] [] (fl [wMa cI z ik F, wTo cI (z 2) (zT z) T, wTo cI (z 3) (zR z) R, wTo cI (z 4) (zK z) K, wTp cI (z 5) (z 6) f n tk bg en nm, wSh cI (z 7) (zS z) s1 s2 s3]) := by
    intro hj
    refine aw_aload_n C dX4_feed_27 rfl ?_
    refine aw_iconst C (1 : Int32) dX4_feed_28 (by decide) ?_
    refine aw_gVd C (As := [.int (1 : Int32)]) (c_X4_finding l D cI cC adK adV z ik F 1 (by decide)) k1_146 cv_X4_finding 3 rfl rfl rfl [0, 1, 2, 3, 4, 5] (fl1 _) rfl 6 rfl (by decide) (gc := [wMa cI z ik F]) (gr := [wTo cI (z 2) (zT z) T, wTo cI (z 3) (zR z) R, wTo cI (z 4) (zK z) K, wTp cI (z 5) (z 6) f n tk bg en nm, wSh cI (z 7) (zS z) s1 s2 s3]) (gc1 := [wMa cI z ik (upd F 1 (F 1 + 1))]) (gs' := [wMa cI z ik (upd F 1 (F 1 + 1)), wTo cI (z 2) (zT z) T, wTo cI (z 3) (zR z) R, wTo cI (z 4) (zK z) K, wTp cI (z 5) (z 6) f n tk bg en nm, wSh cI (z 7) (zS z) s1 s2 s3]) (fl1 _) rfl rfl ⟨by decide, by decide⟩ rfl rfl ⟨by decide, by decide⟩ rfl rfl (Nat.le_of_ble_eq_true rfl) dX4_feed_29 ?_
    have hm : m_feed (T, K, ik, F, f, n, s1, s2, s3) b k = ((fno 1), (T, K, ik, (upd F 1 (F 1 + 1)), f, n, s1, s2, s3)) := by rw [hj]; rfl
    exact aw_iret C hr hlk dX4_feed_32 ⟨ri (by rw [hm]), R, tk, bg, en, nm, by rw [hm]; rfl⟩
  refine aw_iload_n C dX4_feed_0 rfl ?_
  refine aw_pc 1 rfl ?_
  refine aw_iconst C (1 : Int32) dX4_feed_1 (by decide) ?_
  refine aw_icmp_lt C 10 dX4_feed_2 (by decide) (fun c_2 => ?_) (fun c_2 => ?_)
  · skip
    refine aw_sub (lv' := [(0, .ref (z 0))]) [0] rfl ?_
    exact J10 (by simp only [m_feed, c_2, decide_true, decide_false, Bool.not_true, Bool.not_false, Bool.true_and, Bool.false_and, Bool.and_true, Bool.and_false, Bool.true_or, Bool.false_or, Bool.or_true, Bool.or_false, cond_true, cond_false, eq_self, if_true, if_false, ite_true, ite_false] <;> rfl)
  · skip
    refine aw_iload_n C dX4_feed_5 rfl ?_
    refine aw_iconst C (4 : Int32) dX4_feed_6 (by decide) ?_
    refine aw_icmp_le C 16 dX4_feed_7 (by decide) (fun c_7 => ?_) (fun c_7 => ?_)
    · skip
      refine aw_iload_n C dX4_feed_16 rfl ?_
      refine aw_aload_n C dX4_feed_17 rfl ?_
      refine aw_getf C 0 3 4 7 inX4 rfl (by decide) rfl k1_121 rfl rfl dX4_feed_18 ?_
      refine aw_gVp C (As := []) (c_X2_room l D cI cC adK adV (z 5) (z 6) f n tk bg en nm ) k2_234 cv_X2_room 1 rfl rfl rfl [4, 0, 1, 2, 3, 5] (fl1 _) rfl 6 rfl (by decide) ⟨by decide, by decide⟩ rfl rfl ⟨by decide, by decide⟩ rfl rfl (Nat.le_of_ble_eq_true rfl) dX4_feed_21 ?_
      refine aw_icmp_le C 33 dX4_feed_24 (by decide) (fun c_24 => ?_) (fun c_24 => ?_)
      · skip
        have l1 : ix k ≤ 4 := ix_le (neg1 c_2) (by decide) c_7
        have l2 := room_le hT (neg1 c_2) c_7 c_24
        have e1 : k = nI (ix k) := ix_eq (neg1 c_2)
        refine aw_eq (lv' := [(0, .ref (z 0)), (1, .int b), (2, .int (nI (ix k)))]) (ws' := fl [wMa cI z ik F, wTo cI (z 2) (zT z) T, wTo cI (z 3) (zR z) R, wTo cI (z 4) (zK z) K, wTp cI (z 5) (z 6) f n tk bg en nm, wSh cI (z 7) (zS z) s1 s2 s3]) (by rw [← e1]) rfl rfl ?_
        refine aw_pc 33 rfl ?_
        refine aw_iload_n C dX4_feed_33 rfl ?_
        refine aw_iconst C (1 : Int32) dX4_feed_34 (by decide) ?_
        refine aw_isub C dX4_feed_35 ?_
        refine aw_istore_n C true (lv' := [(0, .ref (z 0)), (1, .int b), (2, .int (nI (ix k))), (3, .int ((nI (ix k)) - (1 : Int32)))]) dX4_feed_36 (by decide) rfl rfl ?_
        refine aw_eq (lv' := [(0, .ref (z 0)), (1, .int b), (2, .int (nI (ix k))), (3, .int (nI (ix k - 0) - (1 : Int32)))]) (ws' := fl [wMa cI z ik F, wTo cI (z 2) (zT z) T, wTo cI (z 3) (zR z) R, wTo cI (z 4) (zK z) K, wTp cI (z 5) (z 6) (tpF b (ix k) n 0 f) (n + 0) tk bg en nm, wSh cI (z 7) (zS z) s1 s2 s3]) (by rfl) rfl (by rfl) ?_
        refine aw_loop (LV := fun i0 => [(0, .ref (z 0)), (1, .int b), (2, .int (nI (ix k))), (3, .int (nI (ix k - i0) - (1 : Int32)))]) (WS := fun i0 => fl [wMa cI z ik F, wTo cI (z 2) (zT z) T, wTo cI (z 3) (zR z) R, wTo cI (z 4) (zK z) K, wTp cI (z 5) (z 6) (tpF b (ix k) n i0 f) (n + i0) tk bg en nm, wSh cI (z 7) (zS z) s1 s2 s3]) (ix k) (Inv := fun _ => True) trivial ?_ ?_
        · intro hv37
          refine aw_iload_n C dX4_feed_37 rfl ?_
          refine aw_if_lt C 64 dX4_feed_38 (by decide) (fun c_38 => ?_) (fun c_38 => absurd c_38 (fun z => z (by rw [Nat.sub_self]; decide)))
          refine aw_aload_n C dX4_feed_64 rfl ?_
          refine aw_getf C 0 3 4 7 inX4 rfl (by decide) rfl k1_121 rfl rfl dX4_feed_65 ?_
          refine aw_gVp C (As := []) (c_X2_length l D cI cC adK adV (z 5) (z 6) (tpF b (ix k) n (ix k) f) (n + (ix k)) tk bg en nm ) k3_2 cv_X2_length 1 rfl rfl rfl [4, 0, 1, 2, 3, 5] (fl1 _) rfl 6 rfl (by decide) ⟨by decide, by decide⟩ rfl rfl ⟨by decide, by decide⟩ rfl rfl (Nat.le_of_ble_eq_true rfl) dX4_feed_68 ?_
          have hm : m_feed (T, K, ik, F, f, n, s1, s2, s3) b k = ((nI (n + (ix k))), (T, K, ik, F, (tpF b (ix k) n (ix k) f), (n + (ix k)), s1, s2, s3)) := by simp only [m_feed, c_2, c_7, c_24, decide_true, decide_false, Bool.not_true, Bool.not_false, Bool.true_and, Bool.false_and, Bool.and_true, Bool.and_false, Bool.true_or, Bool.false_or, Bool.or_true, Bool.or_false, cond_true, cond_false, eq_self, if_true, if_false, ite_true, ite_false] <;> rfl
          exact aw_iret C hr hlk dX4_feed_71 ⟨ri (by rw [hm]), R, tk, bg, en, nm, by rw [hm]; rfl⟩
        · intro i0 hi37 hv37 ih37
          refine aw_pc 37 rfl ?_
          refine aw_iload_n C dX4_feed_37 rfl ?_
          refine aw_if_lt C 64 dX4_feed_38 (by decide) (fun c_38 => absurd c_38 ((by rw [dn1 hi37]; exact nI_pos (by omega)))) (fun c_38 => ?_)
          refine aw_aload_n C dX4_feed_41 rfl ?_
          refine aw_getf C 0 3 4 7 inX4 rfl (by decide) rfl k1_121 rfl rfl dX4_feed_42 ?_
          refine aw_iload_n C dX4_feed_45 rfl ?_
          refine aw_bipush C (8 : Int32) dX4_feed_46 (by decide) ?_
          refine aw_iload_n C dX4_feed_48 rfl ?_
          refine aw_imul C dX4_feed_49 ?_
          refine aw_iushr C dX4_feed_50 ?_
          refine aw_sipush C (255 : Int32) dX4_feed_51 (by decide) ?_
          refine aw_pc 54 rfl ?_
          refine aw_iand C dX4_feed_54 ?_
          refine aw_gVdv C (As := [.int ((us b ((8 : Int32) * (nI (ix k - i0) - (1 : Int32)))) &&& (255 : Int32))]) (c_X2_add l D cI cC adK adV (z 5) (z 6) (tpF b (ix k) n i0 f) (n + i0) tk bg en nm ((us b ((8 : Int32) * (nI (ix k - i0) - (1 : Int32)))) &&& (255 : Int32)) (by omega)) k2_238 cv_X2_add 1 rfl rfl rfl [4, 0, 1, 2, 3, 5] (fl1 _) rfl 6 rfl (by decide) (gc := [wTp cI (z 5) (z 6) (tpF b (ix k) n i0 f) (n + i0) tk bg en nm]) (gr := [wMa cI z ik F, wTo cI (z 2) (zT z) T, wTo cI (z 3) (zR z) R, wTo cI (z 4) (zK z) K, wSh cI (z 7) (zS z) s1 s2 s3]) (gc1 := [wTp cI (z 5) (z 6) (upd (tpF b (ix k) n i0 f) (n + i0) ((us b ((8 : Int32) * (nI (ix k - i0) - (1 : Int32)))) &&& (255 : Int32))) ((n + i0) + 1) tk bg en nm]) (gs' := [wMa cI z ik F, wTo cI (z 2) (zT z) T, wTo cI (z 3) (zR z) R, wTo cI (z 4) (zK z) K, wTp cI (z 5) (z 6) (upd (tpF b (ix k) n i0 f) (n + i0) ((us b ((8 : Int32) * (nI (ix k - i0) - (1 : Int32)))) &&& (255 : Int32))) ((n + i0) + 1) tk bg en nm, wSh cI (z 7) (zS z) s1 s2 s3]) (fl1 _) rfl rfl ⟨by decide, by decide⟩ rfl rfl ⟨by decide, by decide⟩ rfl rfl (Nat.le_of_ble_eq_true rfl) dX4_feed_55 ?_
          refine aw_iinc C (nI (ix k - (i0 + 1)) - (1 : Int32)) dX4_feed_58 rfl (dn2 hi37) (by decide) rfl (lv' := [(0, .ref (z 0)), (1, .int b), (2, .int (nI (ix k))), (3, .int (nI (ix k - (i0 + 1)) - (1 : Int32)))]) rfl ?_
          refine aw_goto C 37 dX4_feed_61 (by decide) ?_
          exact aw_eq (by first | rfl | (simp only [itr, c_2, c_7, c_24])) rfl (by first | rfl | (simp only [itr, c_2, c_7, c_24] <;> first | done | rfl)) (ih37 trivial)
      · skip
        refine aw_sub (lv' := [(0, .ref (z 0))]) [0] rfl ?_
        exact J27 (by simp only [m_feed, c_2, c_7, c_24, decide_true, decide_false, Bool.not_true, Bool.not_false, Bool.true_and, Bool.false_and, Bool.and_true, Bool.and_false, Bool.true_or, Bool.false_or, Bool.or_true, Bool.or_false, cond_true, cond_false, eq_self, if_true, if_false, ite_true, ite_false] <;> rfl)
    · skip
      refine aw_sub (lv' := [(0, .ref (z 0))]) [0] rfl ?_
      exact J10 (by simp only [m_feed, c_2, c_7, decide_true, decide_false, Bool.not_true, Bool.not_false, Bool.true_and, Bool.false_and, Bool.and_true, Bool.and_false, Bool.true_or, Bool.false_or, Bool.or_true, Bool.or_false, cond_true, cond_false, eq_self, if_true, if_false, ite_true, ite_false] <;> rfl)
