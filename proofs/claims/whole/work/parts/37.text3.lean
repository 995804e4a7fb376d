/-! text() of the class -/
abbrev r_X2_readText : Room := { frames := 7, cells := 0, slots := 0, locals := 154 }
theorem cv_X2_readText : cV yX2_readText cX2_readText 3 (some .int) 1 := ⟨k3_19, k3_20, k3_21, k1_4, by decide, by decide, by decide +kernel⟩
set_option maxHeartbeats 4000000 in
set_option maxRecDepth 100000 in
theorem c_X2_readText (l : Launch) (D : va_G) (cI cC : ClassId) (adK adV : Nat → Nat) (h b hT : Nat) (aT : Nat → Nat) (f : Nat → Int32) (n : Nat) (tk : Int32) (bg en : Nat) (nm : Int32) (T : Tw) (hn : n ≤ 120) (h8 : T.1 ≤ 8) : FC l yX2_readText (wW yX2_readText cX2_readText 3 (some .int)) r_X2_readText D (tyC cI cC) adK adV (wTp cI h b f n tk bg en nm ++ wTo cI hT aT T) [.ref h, .ref hT] 0 0 (pRt cI h b hT aT f n (rdAll f n T)) := by
  refine FC.of (own := RX2) (by decide) rfl (Nat.le_of_ble_eq_true rfl) ?_
  intro p9 e9 s9 m9 args9 below9 meth9 c9 A9 C hr hlk hmn
  show AW p9 l e9 r_X2_readText s9 m9 args9 below9 meth9 c9 D A9 3 0 0 _ 0 [(0, .ref h), (1, .ref hT)] [] _
  refine aw_aload_n C dX2_readText_0 rfl ?_
  refine aw_iconst C (0 : Int32) dX2_readText_1 (by decide) ?_
  refine aw_putf C 0 1 4 6 tyX2 inX2 tyX2_ok nmX2 rfl (by decide) rfl k1_86 rfl rfl rfl rfl rfl (Nat.le_of_ble_eq_true rfl) (ws' := wTp cI h b f n tk bg 0 nm ++ wTo cI hT aT T) rfl dX2_readText_2 ?_
  refine aw_aload_n C dX2_readText_5 rfl ?_
  refine aw_callVdv C (As := []) (c_X2_nextToken l D cI cC adK adV h b f n tk bg 0 nm  (Nat.zero_le _) hn) k3_22 cv_X2_nextToken 0 1 rfl rfl rfl [0, 1] (by decide) rfl (wr := wTo cI hT aT T) [2, 3, 4, 5, 6, 7, 8, 9, 10] rfl (by decide) (by decide) [9, 10, 0, 1, 2, 3, 4, 5, 6, 7, 8] (by decide) (ws' := wTp cI h b f n (tkI f n (skp f n 0)) (skp f n 0) (tkE f n (skp f n 0)) (nmT f n (skp f n 0) nm) ++ wTo cI hT aT T) rfl ⟨by decide, by decide⟩ rfl rfl ⟨by decide, by decide⟩ rfl rfl (Nat.le_of_ble_eq_true rfl) dX2_readText_6 ?_
  refine aw_iconst C (0 : Int32) dX2_readText_9 (by decide) ?_
  refine aw_istore_n C true (lv' := [(0, .ref h), (1, .ref hT), (2, .int (0 : Int32))]) dX2_readText_10 (by decide) rfl rfl ?_
  refine aw_eq (lv' := [(0, .ref h), (1, .ref hT), (2, .int (nI 0))]) (ws' := wTp cI h b f n (tkI f n ((T, skp f n 0, nmT f n (skp f n 0) nm).2.1)) ((T, skp f n 0, nmT f n (skp f n 0) nm).2.1) (tkE f n ((T, skp f n 0, nmT f n (skp f n 0) nm).2.1)) ((T, skp f n 0, nmT f n (skp f n 0) nm).2.2) ++ wTo cI hT aT ((T, skp f n 0, nmT f n (skp f n 0) nm).1)) (by first | rfl | (simp only [itr])) rfl (by rfl) ?_
  refine aw_loopE (σ := Tw × Nat × Int32) (LV := fun i x9 => [(0, .ref h), (1, .ref hT), (2, .int (nI i))]) (WS := fun i x9 => wTp cI h b f n (tkI f n x9.2.1) x9.2.1 (tkE f n x9.2.1) x9.2.2 ++ wTo cI hT aT x9.1) 120 (Inv := fun i x => x.2.1 ≤ n ∧ x.1.1 ≤ 8 ∧ (tkI f n x.2.1 = 2 → x.2.2 = nmV f n x.2.1) ∧ rdLoop f n (120 - i) i x.1 x.2.1 = rdAll f n T) ⟨skp_le (Nat.zero_le _), h8, nmT_2, rfl⟩ ?_ ?_
  · intro x9 hv11
    refine aw_iload_n C dX2_readText_11 rfl ?_
    refine aw_pc 12 rfl ?_
    refine aw_bipush C (120 : Int32) dX2_readText_12 (by decide) ?_
    refine aw_icmp_ge C 55 dX2_readText_14 (by decide) (fun c_14 => ?_) (fun c_14 => absurd c_14 (fun z => z (by decide)))
    refine aw_iconst C (-1 : Int32) dX2_readText_55 (by decide) ?_
    refine aw_aload_n C dX2_readText_56 rfl ?_
    refine aw_getf C 0 1 3 6 inX2 rfl (by decide) rfl k1_85 rfl rfl dX2_readText_57 ?_
    refine aw_isub C dX2_readText_60 ?_
    have hm : rdAll f n T = (((-1 : Int32) - (nI x9.2.1)), x9.1) := by exact hv11.2.2.2.symm
    exact aw_iret C hr hlk dX2_readText_61 ⟨ri (by rw [hm]), (tkI f n x9.2.1), x9.2.1, (tkE f n x9.2.1), x9.2.2, by rw [hm]⟩
  · intro i x9 hi11 hv11 ih11
    refine aw_iload_n C dX2_readText_11 rfl ?_
    refine aw_bipush C (120 : Int32) dX2_readText_12 (by decide) ?_
    refine aw_icmp_ge C 55 dX2_readText_14 (by decide) (fun c_14 => absurd c_14 (nI_ge (b := 120) hi11 (by decide))) (fun c_14 => ?_)
    refine aw_pc 17 rfl ?_
    refine aw_aload_n C dX2_readText_17 rfl ?_
    refine aw_aload_n C dX2_readText_18 rfl ?_
    obtain ⟨M4, hM4⟩ : ∃ z9, z9 = ((rdItem f n x9.1 x9.2.1)) := ⟨_, rfl⟩
    refine aw_callV C (As := [.ref hT]) (pTp_any (c_X2_readItem l D cI cC adK adV h b hT aT f n x9.2.1 x9.2.2 x9.1  hv11.1 hn hv11.2.2.1 hv11.2.1 ) hM4) k3_41 cv_X2_readItem 0 1 rfl rfl rfl [0, 1, 2, 3, 4, 5, 6, 7, 8, 9, 10] (by decide) rfl (wr := ([] : va_W)) [] rfl (by decide) (by decide) ⟨by decide, by decide⟩ rfl rfl ⟨by decide, by decide⟩ rfl rfl (Nat.le_of_ble_eq_true rfl) dX2_readText_19 ?_
    rintro _ _ ⟨rfl, q4, rfl, hq4⟩
    refine aw_eq (lv' := [(0, .ref h), (1, .ref hT), (2, .int (nI i))]) (st' := [.int (b2 M4.1)]) (ws' := wTp cI h b f n (tkI f n M4.2.2) M4.2.2 (tkE f n M4.2.2) q4 ++ wTo cI hT aT M4.2.1) rfl rfl rfl ?_
    refine aw_ifeq_b C 55 dX2_readText_22 (by decide) (fun c_22 => ?_) (fun c_22 => ?_)
    · skip
      refine aw_iconst C (-1 : Int32) dX2_readText_55 (by decide) ?_
      refine aw_aload_n C dX2_readText_56 rfl ?_
      refine aw_getf C 0 1 3 6 inX2 rfl (by decide) rfl k1_85 rfl rfl dX2_readText_57 ?_
      refine aw_isub C dX2_readText_60 ?_
      have hm : rdAll f n T = (((-1 : Int32) - (nI M4.2.2)), M4.2.1) := by exact Eq.trans hv11.2.2.2.symm (rl_f hi11 hM4 c_22)
      exact aw_iret C hr hlk dX2_readText_61 ⟨ri (by rw [hm]), (tkI f n M4.2.2), M4.2.2, (tkE f n M4.2.2), q4, by rw [hm]⟩
    · skip
      refine aw_iinc C (nI (i + 1)) dX2_readText_25 rfl (inc_nI _ 1) (by decide) rfl (lv' := [(0, .ref h), (1, .ref hT), (2, .int (nI (i + 1)))]) rfl ?_
      refine aw_pc 28 rfl ?_
      refine aw_aload_n C dX2_readText_28 rfl ?_
      refine aw_getf C 0 1 2 6 inX2 rfl (by decide) rfl k1_84 rfl rfl dX2_readText_29 ?_
      refine aw_if_ne C 37 dX2_readText_32 (by decide) (fun c_32 => ?_) (fun c_32 => ?_)
      · skip
        refine aw_aload_n C dX2_readText_37 rfl ?_
        refine aw_getf C 0 1 2 6 inX2 rfl (by decide) rfl k1_84 rfl rfl dX2_readText_38 ?_
        refine aw_iconst C (3 : Int32) dX2_readText_41 (by decide) ?_
        refine aw_icmp_eq C 48 dX2_readText_42 (by decide) (fun c_42 => ?_) (fun c_42 => ?_)
        · skip
          refine aw_aload_n C dX2_readText_48 rfl ?_
          refine aw_callVdv C (As := []) (c_X2_nextTokenS l D cI cC adK adV h b f n M4.2.2 q4 (by rw [hM4]; exact rdItem_le hv11.1) hn) k3_22 cv_X2_nextToken 0 1 rfl rfl rfl [0, 1] (by decide) rfl (wr := wTo cI hT aT M4.2.1) [2, 3, 4, 5, 6, 7, 8, 9, 10] rfl (by decide) (by decide) [9, 10, 0, 1, 2, 3, 4, 5, 6, 7, 8] (by decide) (ws' := wTp cI h b f n (tkI f n (nx f n M4.2.2)) (nx f n M4.2.2) (tkE f n (nx f n M4.2.2)) (nmT f n (nx f n M4.2.2) q4) ++ wTo cI hT aT M4.2.1) rfl ⟨by decide, by decide⟩ rfl rfl ⟨by decide, by decide⟩ rfl rfl (Nat.le_of_ble_eq_true rfl) dX2_readText_49 ?_
          refine aw_goto C 11 dX2_readText_52 (by decide) ?_
          exact aw_eq (by first | rfl | (simp only [itr, c_22, c_32, c_42])) rfl (by first | rfl | (simp only [itr, c_22, c_32, c_42] <;> first | done | rfl)) (ih11 (M4.2.1, (nx f n M4.2.2), (nmT f n (nx f n M4.2.2) q4)) (⟨nx_le (by rw [hM4]; exact rdItem_le hv11.1), (by rw [hM4]; exact rdItem_n hv11.2.1), nmT_2, (rl_s hi11 hM4 c_22 c_32 c_42).symm.trans hv11.2.2.2⟩))
        · skip
          refine aw_pc 45 rfl ?_
          refine aw_goto C 55 dX2_readText_45 (by decide) ?_
          refine aw_iconst C (-1 : Int32) dX2_readText_55 (by decide) ?_
          refine aw_aload_n C dX2_readText_56 rfl ?_
          refine aw_getf C 0 1 3 6 inX2 rfl (by decide) rfl k1_85 rfl rfl dX2_readText_57 ?_
          refine aw_isub C dX2_readText_60 ?_
          have hm : rdAll f n T = (((-1 : Int32) - (nI M4.2.2)), M4.2.1) := by exact Eq.trans hv11.2.2.2.symm (rl_n hi11 hM4 c_22 c_32 c_42)
          exact aw_iret C hr hlk dX2_readText_61 ⟨ri (by rw [hm]), (tkI f n M4.2.2), M4.2.2, (tkE f n M4.2.2), q4, by rw [hm]⟩
      · skip
        refine aw_iload_n C dX2_readText_35 rfl ?_
        have hm : rdAll f n T = ((nI (i + 1)), M4.2.1) := by exact Eq.trans hv11.2.2.2.symm (rl_e hi11 hM4 c_22 c_32)
        exact aw_iret C hr hlk dX2_readText_36 ⟨ri (by rw [hm]), (tkI f n M4.2.2), M4.2.2, (tkE f n M4.2.2), q4, by rw [hm]⟩
theorem fl6p (a b c d e f : va_W) : (fl [a, b, d, f] ++ (e ++ c)).Perm (fl [a, b, c, d, e, f]) := by
  have h9 := pm_of (gs := [a, b, c, d, e, f]) (is := [0, 1, 3, 5, 4, 2]) (show [0, 1, 3, 5, 4, 2].Perm (List.range 6) by decide)
  have e9 : fl [a, b, d, f] ++ (e ++ c) = fl [a, b, d, f, e, c] := by simp [fl]
  rw [e9]
  exact h9.symm
theorem mt_y {G : Sg} {M : Int32 × Tw} (hM : M = rdAll G.2.2.2.2.1 G.2.2.2.2.2.1 G.1) (h : M.1 < 0) : m_text G = (M.1, gQ G G.2.2.2.2.1 0) := by
  unfold m_text
  rw [← hM, decide_eq_true h, cond_true]
theorem mt_n {G : Sg} {M : Int32 × Tw} (hM : M = rdAll G.2.2.2.2.1 G.2.2.2.2.2.1 G.1) (h : ¬ M.1 < 0) : m_text G = (M.1, gT (gQ G G.2.2.2.2.1 0) M.2) := by
  unfold m_text
  rw [← hM, decide_eq_false h, cond_false]

abbrev r_X4_text : Room := { frames := 8, cells := 0, slots := 0, locals := 176 }
theorem cv_X4_text : cV yX4_text cX4_text 2 (some .int) 0 := ⟨k3_15, k3_16, k3_17, k1_1, by decide, by decide, by decide +kernel⟩
set_option maxHeartbeats 4000000 in
set_option maxRecDepth 100000 in
theorem c_X4_text (l : Launch) (D : va_G) (cI cC : ClassId) (adK adV : Nat → Nat) (z : Nat → Nat) (T R K : Tw) (ik : Bool) (F f : Nat → Int32) (n : Nat) (tk : Int32) (bg en : Nat) (nm : Int32) (s1 s2 s3 : Nat → Int32) (hn : T.1 ≤ 8) (hT : n ≤ 120) : FC l yX4_text (wW yX4_text cX4_text 2 (some .int)) r_X4_text D (tyC cI cC) adK adV (wBa cI z T R K ik F f n tk bg en nm s1 s2 s3) [.ref (z 0)] 0 0 (pBa cI z (m_text (T, K, ik, F, f, n, s1, s2, s3))) := by
  refine FC.of (own := RX4) (by decide) rfl (Nat.le_of_ble_eq_true rfl) ?_
  intro p9 e9 s9 m9 args9 below9 meth9 c9 A9 C hr hlk hmn
  show AW p9 l e9 r_X4_text s9 m9 args9 below9 meth9 c9 D A9 2 0 0 _ 0 [(0, .ref (z 0))] [] _
  refine aw_eq (lv' := [(0, .ref (z 0))]) (ws' := fl [wMa cI z ik F, wTo cI (z 2) (zT z) T, wTo cI (z 3) (zR z) R, wTo cI (z 4) (zK z) K, wTp cI (z 5) (z 6) f n tk bg en nm, wSh cI (z 7) (zS z) s1 s2 s3]) rfl rfl rfl ?_
  refine aw_aload_n C dX4_text_0 rfl ?_
  refine aw_getf C 0 3 1 7 inX4 rfl (by decide) rfl k1_118 rfl rfl dX4_text_1 ?_
  refine aw_aload_n C dX4_text_4 rfl ?_
  refine aw_getf C 0 3 0 7 inX4 rfl (by decide) rfl k1_117 rfl rfl dX4_text_5 ?_
  refine aw_gVdv C (As := [.ref (z 2)]) (c_X3_become l D cI cC adK adV (z 3) (z 2) (zR z) (zT z) R T) k2_113 cv_X3_become 2 rfl rfl rfl [2, 1, 0, 3, 4, 5] (fl2 _ _) rfl 6 rfl (by decide) (gc := [wTo cI (z 3) (zR z) R, wTo cI (z 2) (zT z) T]) (gr := [wMa cI z ik F, wTo cI (z 4) (zK z) K, wTp cI (z 5) (z 6) f n tk bg en nm, wSh cI (z 7) (zS z) s1 s2 s3]) (gc1 := [wTo cI (z 3) (zR z) T, wTo cI (z 2) (zT z) T]) (gs' := [wMa cI z ik F, wTo cI (z 2) (zT z) T, wTo cI (z 3) (zR z) T, wTo cI (z 4) (zK z) K, wTp cI (z 5) (z 6) f n tk bg en nm, wSh cI (z 7) (zS z) s1 s2 s3]) (fl2 _ _) rfl rfl ⟨by decide, by decide⟩ rfl rfl ⟨by decide, by decide⟩ rfl rfl (Nat.le_of_ble_eq_true rfl) dX4_text_8 ?_
  refine aw_aload_n C dX4_text_11 rfl ?_
  refine aw_getf C 0 3 4 7 inX4 rfl (by decide) rfl k1_121 rfl rfl dX4_text_12 ?_
  refine aw_aload_n C dX4_text_15 rfl ?_
  refine aw_getf C 0 3 1 7 inX4 rfl (by decide) rfl k1_118 rfl rfl dX4_text_16 ?_
  refine aw_pc 19 rfl ?_
  obtain ⟨M1, hM1⟩ : ∃ z9, z9 = rdAll f n T := ⟨_, rfl⟩
  refine aw_gV C (As := [.ref (z 3)]) (pRt_any (c_X2_readText l D cI cC adK adV (z 5) (z 6) (z 3) (zR z) f n tk bg en nm T hT hn) hM1) k3_18 cv_X2_readText 1 rfl rfl rfl [4, 2, 0, 1, 3, 5] (gc := [wTp cI (z 5) (z 6) f n tk bg en nm, wTo cI (z 3) (zR z) T]) (gr := [wMa cI z ik F, wTo cI (z 2) (zT z) T, wTo cI (z 4) (zK z) K, wSh cI (z 7) (zS z) s1 s2 s3]) (fl2 _ _) rfl 6 rfl (by decide) ⟨by decide, by decide⟩ rfl rfl ⟨by decide, by decide⟩ rfl rfl (Nat.le_of_ble_eq_true rfl) dX4_text_19 ?_
  rintro _ _ ⟨rfl, tk1, bg1, en1, q1, rfl⟩
  refine aw_prm (ws' := fl [wMa cI z ik F, wTo cI (z 2) (zT z) T, wTo cI (z 3) (zR z) M1.2, wTo cI (z 4) (zK z) K, wTp cI (z 5) (z 6) f n tk1 bg1 en1 q1, wSh cI (z 7) (zS z) s1 s2 s3]) (fl6p _ _ _ _ _ _) ?_
  refine aw_eq (lv' := [(0, .ref (z 0))]) (st' := [.int M1.1]) (ws' := fl [wMa cI z ik F, wTo cI (z 2) (zT z) T, wTo cI (z 3) (zR z) M1.2, wTo cI (z 4) (zK z) K, wTp cI (z 5) (z 6) f n tk1 bg1 en1 q1, wSh cI (z 7) (zS z) s1 s2 s3]) rfl rfl rfl ?_
  refine aw_istore_n C true (lv' := [(0, .ref (z 0)), (1, .int M1.1)]) dX4_text_22 (by decide) rfl rfl ?_
  refine aw_aload_n C dX4_text_23 rfl ?_
  refine aw_getf C 0 3 4 7 inX4 rfl (by decide) rfl k1_121 rfl rfl dX4_text_24 ?_
  refine aw_gVd C (As := []) (c_X2_empty l D cI cC adK adV (z 5) (z 6) f n tk1 bg1 en1 q1 ) k3_10 cv_X2_empty 1 rfl rfl rfl [4, 0, 1, 2, 3, 5] (fl1 _) rfl 6 rfl (by decide) (gc := [wTp cI (z 5) (z 6) f n tk1 bg1 en1 q1]) (gr := [wMa cI z ik F, wTo cI (z 2) (zT z) T, wTo cI (z 3) (zR z) M1.2, wTo cI (z 4) (zK z) K, wSh cI (z 7) (zS z) s1 s2 s3]) (gc1 := [wTp cI (z 5) (z 6) f 0 tk1 bg1 en1 q1]) (gs' := [wMa cI z ik F, wTo cI (z 2) (zT z) T, wTo cI (z 3) (zR z) M1.2, wTo cI (z 4) (zK z) K, wTp cI (z 5) (z 6) f 0 tk1 bg1 en1 q1, wSh cI (z 7) (zS z) s1 s2 s3]) (fl1 _) rfl rfl ⟨by decide, by decide⟩ rfl rfl ⟨by decide, by decide⟩ rfl rfl (Nat.le_of_ble_eq_true rfl) dX4_text_27 ?_
  refine aw_pop C dX4_text_30 rfl ?_
  refine aw_iload_n C dX4_text_31 rfl ?_
  refine aw_if_lt C 46 dX4_text_32 (by decide) (fun c_32 => ?_) (fun c_32 => ?_)
  · skip
    refine aw_iload_n C dX4_text_46 rfl ?_
    have hm : m_text (T, K, ik, F, f, n, s1, s2, s3) = (M1.1, (T, K, ik, F, f, 0, s1, s2, s3)) := by first | exact mt_y hM1 c_32 | exact mt_n hM1 c_32
    exact aw_iret C hr hlk dX4_text_47 ⟨ri (by rw [hm]), M1.2, tk1, bg1, en1, q1, by rw [hm]; rfl⟩
  · skip
    refine aw_pc 35 rfl ?_
    refine aw_aload_n C dX4_text_35 rfl ?_
    refine aw_getf C 0 3 0 7 inX4 rfl (by decide) rfl k1_117 rfl rfl dX4_text_36 ?_
    refine aw_aload_n C dX4_text_39 rfl ?_
    refine aw_getf C 0 3 1 7 inX4 rfl (by decide) rfl k1_118 rfl rfl dX4_text_40 ?_
    refine aw_gVdv C (As := [.ref (z 3)]) (c_X3_become l D cI cC adK adV (z 2) (z 3) (zT z) (zR z) T M1.2) k2_113 cv_X3_become 2 rfl rfl rfl [1, 2, 0, 3, 4, 5] (fl2 _ _) rfl 6 rfl (by decide) (gc := [wTo cI (z 2) (zT z) T, wTo cI (z 3) (zR z) M1.2]) (gr := [wMa cI z ik F, wTo cI (z 4) (zK z) K, wTp cI (z 5) (z 6) f 0 tk1 bg1 en1 q1, wSh cI (z 7) (zS z) s1 s2 s3]) (gc1 := [wTo cI (z 2) (zT z) M1.2, wTo cI (z 3) (zR z) M1.2]) (gs' := [wMa cI z ik F, wTo cI (z 2) (zT z) M1.2, wTo cI (z 3) (zR z) M1.2, wTo cI (z 4) (zK z) K, wTp cI (z 5) (z 6) f 0 tk1 bg1 en1 q1, wSh cI (z 7) (zS z) s1 s2 s3]) (fl2 _ _) rfl rfl ⟨by decide, by decide⟩ rfl rfl ⟨by decide, by decide⟩ rfl rfl (Nat.le_of_ble_eq_true rfl) dX4_text_43 ?_
    refine aw_iload_n C dX4_text_46 rfl ?_
    have hm : m_text (T, K, ik, F, f, n, s1, s2, s3) = (M1.1, (M1.2, K, ik, F, f, 0, s1, s2, s3)) := by first | exact mt_y hM1 c_32 | exact mt_n hM1 c_32
    exact aw_iret C hr hlk dX4_text_47 ⟨ri (by rw [hm]), M1.2, tk1, bg1, en1, q1, by rw [hm]; rfl⟩
