/-! text() of the reference -/
abbrev r_X5_laysBack_G : Room := { frames := 0, cells := 0, slots := 0, locals := 0 }
theorem cv_X5_laysBack_G : cV yX5_laysBack cX5_laysBack 2 none 0 := ⟨k4_229, k0_51, k4_230, k1_6, by decide, by decide, by decide +kernel⟩
set_option maxHeartbeats 4000000 in
set_option maxRecDepth 100000 in
theorem c_X5_laysBack_G (l : Launch) (D : va_G) (cI cC : ClassId) (adK adV : Nat → Nat) (y : Nat → Nat) (sr : Nat → Int32) (X : Mr) : FC l yX5_laysBack (wW yX5_laysBack cX5_laysBack 2 none) r_X5_laysBack_G D (tyC cI cC) adK adV (wMo cI cC y sr X) [.ref (y 0)] 0 0 (fQ none (wMo cI cC y X.2.1 X)) := by
  refine FC.of (own := RX5) (by decide) rfl (Nat.le_of_ble_eq_true rfl) ?_
  intro p9 e9 s9 m9 args9 below9 meth9 c9 A9 C hr hlk hmn
  show AW p9 l e9 r_X5_laysBack_G s9 m9 args9 below9 meth9 c9 D A9 2 0 0 _ 0 [(0, .ref (y 0))] [] _
  refine aw_iconst C (0 : Int32) dX5_laysBack_0 (by decide) ?_
  refine aw_istore_n C true (lv' := [(0, .ref (y 0)), (1, .int (0 : Int32))]) dX5_laysBack_1 (by decide) rfl rfl ?_
  refine aw_eq (lv' := [(0, .ref (y 0)), (1, .int (nI 0))]) (ws' := wMo cI cC y (cpy X.2.1 sr 0) X) (by first | rfl | (simp only [itr])) rfl (by rw [cpy_0]) ?_
  refine aw_loop (LV := fun i => [(0, .ref (y 0)), (1, .int (nI i))]) (WS := fun i => wMo cI cC y (cpy X.2.1 sr i) X) 70 (Inv := fun _ => True) trivial ?_ ?_
  · intro hv2
    refine aw_iload_n C dX5_laysBack_2 rfl ?_
    refine aw_bipush C (70 : Int32) dX5_laysBack_3 (by decide) ?_
    refine aw_icmp_ge C 26 dX5_laysBack_5 (by decide) (fun c_5 => ?_) (fun c_5 => absurd c_5 (fun z => z (Int32.le_refl _)))
    refine aw_ext 1 rfl (fun j hj => cpy_e hj) (ws' := wMo cI cC y X.2.1 X) rfl ?_
    exact aw_vret C hr hlk dX5_laysBack_26 ⟨rfl, by rfl⟩
  · intro i hi2 hv2 ih2
    refine aw_iload_n C dX5_laysBack_2 rfl ?_
    refine aw_bipush C (70 : Int32) dX5_laysBack_3 (by decide) ?_
    refine aw_pc 5 rfl ?_
    refine aw_icmp_ge C 26 dX5_laysBack_5 (by decide) (fun c_5 => absurd c_5 (nI_ge (b := 70) hi2 (by omega))) (fun c_5 => ?_)
    refine aw_aload_n C dX5_laysBack_8 rfl ?_
    refine aw_getf C 0 4 0 18 inX5 rfl (by decide) rfl k3_234 rfl rfl dX5_laysBack_9 ?_
    refine aw_iload_n C dX5_laysBack_12 rfl ?_
    refine aw_aload_n C dX5_laysBack_13 rfl ?_
    refine aw_getf C 0 4 2 18 inX5 rfl (by decide) rfl k3_236 rfl rfl dX5_laysBack_14 ?_
    refine aw_iload_n C dX5_laysBack_17 rfl ?_
    refine aw_ialdN C 3 0 i rfl rfl rfl (by omega) (by decide) dX5_laysBack_18 ?_
    refine aw_iastN C 1 0 i rfl rfl rfl (by omega) (by decide) (ws' := wMo cI cC y (upd (cpy X.2.1 sr i) i (X.2.1 i)) X) rfl dX5_laysBack_19 ?_
    refine aw_iinc C (nI (i + 1)) dX5_laysBack_20 rfl (inc_nI _ 1) (by decide) rfl (lv' := [(0, .ref (y 0)), (1, .int (nI (i + 1)))]) rfl ?_
    refine aw_pc 23 rfl ?_
    refine aw_goto C 2 dX5_laysBack_23 (by decide) ?_
    exact aw_eq (by first | rfl | (simp only [itr])) rfl (by rw [cpy_s]) (ih2 trivial)
abbrev r_X5_text : Room := { frames := 6, cells := 0, slots := 0, locals := 132 }
theorem cv_X5_text : cV yX5_text cX5_text 3 (some .int) 0 := ⟨k5_105, k5_106, k5_107, k1_6, by decide, by decide, by decide +kernel⟩
set_option maxHeartbeats 4000000 in
set_option maxRecDepth 100000 in
theorem c_X5_text (l : Launch) (D : va_G) (cI cC : ClassId) (adK adV : Nat → Nat) (y : Nat → Nat) (T K : Tw) (ik : Bool) (F f : Nat → Int32) (n : Nat) (s1 s2 s3 kr ar : Nat → Int32) (tk : Int32) (bg en : Nat) (vl : Int64) (cr : Nat → Int32) (hk : ik = true → kr = rowOf K) (ho : gOk T) (hT : n ≤ 120) : FC l yX5_text (wW yX5_text cX5_text 3 (some .int)) r_X5_text D (tyC cI cC) adK adV (wMo cI cC y (rowOf T) (kr, ar, ik, F, f, n, tk, bg, en, vl, s1, s2, s3, cr)) [.ref (y 0)] 0 0 (pMo cI cC y (m_text (T, K, ik, F, f, n, s1, s2, s3))) := by
  refine FC.of (own := RX5) (by decide) rfl (Nat.le_of_ble_eq_true rfl) ?_
  intro p9 e9 s9 m9 args9 below9 meth9 c9 A9 C hr hlk hmn
  show AW p9 l e9 r_X5_text s9 m9 args9 below9 meth9 c9 D A9 3 0 0 _ 0 [(0, .ref (y 0))] [] _
  have hn := ho.n
  refine aw_aload_n C dX5_text_0 rfl ?_
  refine aw_callVdv C (As := []) (c_X5_setsAside l D cI cC adK adV y T (kr, ar, ik, F, f, n, tk, bg, en, vl, s1, s2, s3, cr) ) k4_223 cv_X5_setsAside 0 4 rfl rfl rfl [0, 1, 2, 3, 4, 5, 6, 7, 8, 9, 10, 11, 12] (by decide) rfl (wr := ([] : va_W)) [] rfl (by decide) (by decide) [0, 1, 2, 3, 4, 5, 6, 7, 8, 9, 10, 11, 12] (by decide) (ws' := wMo cI cC y (rowOf T) (kr, (rowOf T), ik, F, f, n, tk, bg, en, vl, s1, s2, s3, cr)) rfl ⟨by decide, by decide⟩ rfl rfl ⟨by decide, by decide⟩ rfl rfl (Nat.le_of_ble_eq_true rfl) dX5_text_1 ?_
  refine aw_aload_n C dX5_text_4 rfl ?_
  refine aw_iconst C (0 : Int32) dX5_text_5 (by decide) ?_
  refine aw_putf C 0 4 9 18 tyX5 inX5 tyX5_ok nmX5 rfl (by decide) rfl k4_3 rfl rfl rfl rfl rfl (Nat.le_of_ble_eq_true rfl) (ws' := wMo cI cC y (rowOf T) (kr, (rowOf T), ik, F, f, n, tk, bg, 0, vl, s1, s2, s3, cr)) (mo_put9 ..) dX5_text_6 ?_
  refine aw_aload_n C dX5_text_9 rfl ?_
  refine aw_callVdv C (As := []) (c_X5_nextToken l D cI cC adK adV y (rowOf T) kr (rowOf T) ik F f n tk bg 0 vl s1 s2 s3 cr (Nat.zero_le _) hT) k5_108 cv_X5_nextToken 0 4 rfl rfl rfl [0, 1, 2, 3, 4, 5, 6, 7, 8, 9, 10, 11, 12] (by decide) rfl (wr := ([] : va_W)) [] rfl (by decide) (by decide) [0, 1, 2, 3, 4, 5, 6, 7, 8, 9, 10, 11, 12] (by decide) (ws' := wMo cI cC y (rowOf T) (kr, (rowOf T), ik, F, f, n, (tkR f n (skp f n 0)), (skp f n 0), (tkE f n (skp f n 0)), (vlR f n (skp f n 0)), s1, s2, s3, cr)) rfl ⟨by decide, by decide⟩ rfl rfl ⟨by decide, by decide⟩ rfl rfl (Nat.le_of_ble_eq_true rfl) dX5_text_10 ?_
  refine aw_iconst C (1 : Int32) dX5_text_13 (by decide) ?_
  refine aw_pc 14 rfl ?_
  refine aw_istore_n C true (lv' := [(0, .ref (y 0)), (1, .int (1 : Int32))]) dX5_text_14 (by decide) rfl rfl ?_
  refine aw_aload_n C dX5_text_15 rfl ?_
  obtain ⟨M10, hM10⟩ : ∃ z9, z9 = (rdItem f n T (skp f n 0)) := ⟨_, rfl⟩
  refine aw_callV C (As := []) (pRp_any (c_X5_readsItem l D cI cC adK adV y T kr (rowOf T) ik F f n s1 s2 s3 cr (skp f n 0)  ho (skp_le (Nat.zero_le n)) hT) hM10) k5_124 cv_X5_readsItem 0 4 rfl rfl rfl [0, 1, 2, 3, 4, 5, 6, 7, 8, 9, 10, 11, 12] (by decide) rfl (wr := ([] : va_W)) [] rfl (by decide) (by decide) ⟨by decide, by decide⟩ rfl rfl ⟨by decide, by decide⟩ rfl rfl (Nat.le_of_ble_eq_true rfl) dX5_text_16 ?_
  rintro _ _ ⟨rfl, sr10, rfl, hs10⟩
  refine aw_eq (lv' := [(0, .ref (y 0)), (1, .int (1 : Int32))]) (st' := [.int (b2 M10.1)]) (ws' := wMo cI cC y sr10 (kr, (rowOf T), ik, F, f, n, (tkR f n M10.2.2), M10.2.2, (tkE f n M10.2.2), (vlR f n M10.2.2), s1, s2, s3, cr)) rfl rfl rfl ?_
  refine aw_istore_n C true (lv' := [(0, .ref (y 0)), (1, .int (1 : Int32)), (2, .int (b2 M10.1))]) dX5_text_19 (by decide) rfl rfl ?_
  refine aw_eq (lv' := [(0, .ref (y 0)), (1, .int (nI (0 + 1))), (2, .int (b2 ((M10, T, skp f n 0, sr10).1.1)))]) (ws' := wMo cI cC y ((M10, T, skp f n 0, sr10).2.2.2) (kr, (rowOf T), ik, F, f, n, (tkR f n ((M10, T, skp f n 0, sr10).1.2.2)), (M10, T, skp f n 0, sr10).1.2.2, (tkE f n ((M10, T, skp f n 0, sr10).1.2.2)), (vlR f n ((M10, T, skp f n 0, sr10).1.2.2)), s1, s2, s3, cr)) (by first | rfl | (simp only [itr])) rfl (by rfl) ?_
  refine aw_loopE (σ := (Bool × Tw × Nat) × Tw × Nat × (Nat → Int32)) (LV := fun i x9 => [(0, .ref (y 0)), (1, .int (nI (i + 1))), (2, .int (b2 x9.1.1))]) (WS := fun i x9 => wMo cI cC y x9.2.2.2 (kr, (rowOf T), ik, F, f, n, (tkR f n x9.1.2.2), x9.1.2.2, (tkE f n x9.1.2.2), (vlR f n x9.1.2.2), s1, s2, s3, cr)) 120 (Inv := fun i x => x.1 = rdItem f n x.2.1 x.2.2.1 ∧ gOk x.2.1 ∧ x.2.2.1 ≤ n ∧ i ≤ x.2.2.1 ∧ rdLoop f n (120 - i) i x.2.1 x.2.2.1 = rdAll f n T ∧ (x.1.1 = true → x.2.2.2 = rowOf x.1.2.1)) ⟨hM10, ho, skp_le (Nat.zero_le _), Nat.zero_le _, rfl, hs10⟩ ?_ ?_
  · intro x9 hv20
    refine aw_iload_n C dX5_text_20 rfl ?_
    refine aw_ifeq_b C 47 dX5_text_21 (by decide) (fun c_21 => ?_) (fun c_21 => absurd c_21 (tx_end hT hv20.1 hv20.2.2.2.1))
    refine aw_eq (lv' := [(0, .ref (y 0)), (1, .int (nI (120 + 1))), (2, .int (b2 false))]) (ws' := wMo cI cC y x9.2.2.2 (kr, (rowOf T), ik, F, f, n, (tkR f n x9.1.2.2), x9.1.2.2, (tkE f n x9.1.2.2), (vlR f n x9.1.2.2), s1, s2, s3, cr)) (by rw [c_21]) rfl rfl ?_
    refine aw_iload_n C dX5_text_47 rfl ?_
    refine aw_ifeq_b C 62 dX5_text_48 (by decide) (fun c_48 => ?_) (fun c_48 => absurd c_48 (by simp))
    refine aw_iconst C (0 : Int32) dX5_text_62 (by decide) ?_
    refine aw_pc 63 rfl ?_
    refine aw_istore_n C false (lv' := [(0, .ref (y 0)), (1, .int (nI (120 + 1))), (2, .int (0 : Int32))]) dX5_text_63 (by decide) rfl rfl ?_
    refine aw_aload_n C dX5_text_64 rfl ?_
    refine aw_iconst C (0 : Int32) dX5_text_65 (by decide) ?_
    refine aw_putf C 0 4 6 18 tyX5 inX5 tyX5_ok nmX5 rfl (by decide) rfl k4_0 rfl rfl rfl rfl rfl (Nat.le_of_ble_eq_true rfl) (ws' := wMo cI cC y x9.2.2.2 (kr, (rowOf T), ik, F, f, 0, (tkR f n x9.1.2.2), x9.1.2.2, (tkE f n x9.1.2.2), (vlR f n x9.1.2.2), s1, s2, s3, cr)) (mo_put6 ..) dX5_text_66 ?_
    refine aw_iload_n C dX5_text_69 rfl ?_
    refine aw_if_ne C 84 dX5_text_70 (by decide) (fun c_70 => absurd c_70 (by decide)) (fun c_70 => ?_)
    refine aw_aload_n C dX5_text_73 rfl ?_
    refine aw_callVdv C (As := []) (c_X5_laysBack_G l D cI cC adK adV y x9.2.2.2 (kr, (rowOf T), ik, F, f, 0, (tkR f n x9.1.2.2), x9.1.2.2, (tkE f n x9.1.2.2), (vlR f n x9.1.2.2), s1, s2, s3, cr)) k4_227 cv_X5_laysBack 0 4 rfl rfl rfl [0, 1, 2, 3, 4, 5, 6, 7, 8, 9, 10, 11, 12] (by decide) rfl (wr := ([] : va_W)) [] rfl (by decide) (by decide) [0, 1, 2, 3, 4, 5, 6, 7, 8, 9, 10, 11, 12] (by decide) (ws' := wMo cI cC y (rowOf T) (kr, (rowOf T), ik, F, f, 0, (tkR f n x9.1.2.2), x9.1.2.2, (tkE f n x9.1.2.2), (vlR f n x9.1.2.2), s1, s2, s3, cr)) rfl ⟨by decide, by decide⟩ rfl rfl ⟨by decide, by decide⟩ rfl rfl (Nat.le_of_ble_eq_true rfl) dX5_text_74 ?_
    refine aw_iconst C (-1 : Int32) dX5_text_77 (by decide) ?_
    refine aw_aload_n C dX5_text_78 rfl ?_
    refine aw_pc 79 rfl ?_
    refine aw_getf C 0 4 8 18 inX5 rfl (by decide) rfl k4_2 rfl rfl dX5_text_79 ?_
    refine aw_top (y := (nI x9.1.2.2)) rfl ?_
    refine aw_isub C dX5_text_82 ?_
    have hm : m_text (T, K, ik, F, f, n, s1, s2, s3) = (((-1 : Int32) - (nI x9.1.2.2)), (T, K, ik, F, f, 0, s1, s2, s3)) := by exact mt_y (G := (T, K, ik, F, f, n, s1, s2, s3)) (M := (-1 - nI x9.1.2.2, x9.1.2.1)) (tx_a hT hv20.1 hv20.2.2.2.1 hv20.2.2.2.2.1) (neg_p _ (Nat.lt_succ_of_le (Nat.le_trans (by rw [hv20.1]; exact rdItem_le hv20.2.2.1) hT)))
    exact aw_iret C hr hlk dX5_text_83 ⟨ri (by rw [hm]), kr, (rowOf T), (tkR f n x9.1.2.2), x9.1.2.2, (tkE f n x9.1.2.2), (vlR f n x9.1.2.2), cr, by first | (rw [hm]; done) | (rw [hm]; rfl), by rw [hm]; exact hk⟩
  · intro i x9 hi20 hv20 ih20
    refine aw_iload_n C dX5_text_20 rfl ?_
    refine aw_ifeq_b C 47 dX5_text_21 (by decide) (fun c_21 => ?_) (fun c_21 => ?_)
    · skip
      refine aw_eq (lv' := [(0, .ref (y 0)), (1, .int (nI (i + 1))), (2, .int (b2 false))]) (ws' := wMo cI cC y x9.2.2.2 (kr, (rowOf T), ik, F, f, n, (tkR f n x9.1.2.2), x9.1.2.2, (tkE f n x9.1.2.2), (vlR f n x9.1.2.2), s1, s2, s3, cr)) (by rw [c_21]) rfl rfl ?_
      refine aw_iload_n C dX5_text_47 rfl ?_
      refine aw_ifeq_b C 62 dX5_text_48 (by decide) (fun c_48 => ?_) (fun c_48 => absurd c_48 (by simp))
      refine aw_iconst C (0 : Int32) dX5_text_62 (by decide) ?_
      refine aw_istore_n C false (lv' := [(0, .ref (y 0)), (1, .int (nI (i + 1))), (2, .int (0 : Int32))]) dX5_text_63 (by decide) rfl rfl ?_
      refine aw_pc 64 rfl ?_
      refine aw_aload_n C dX5_text_64 rfl ?_
      refine aw_iconst C (0 : Int32) dX5_text_65 (by decide) ?_
      refine aw_putf C 0 4 6 18 tyX5 inX5 tyX5_ok nmX5 rfl (by decide) rfl k4_0 rfl rfl rfl rfl rfl (Nat.le_of_ble_eq_true rfl) (ws' := wMo cI cC y x9.2.2.2 (kr, (rowOf T), ik, F, f, 0, (tkR f n x9.1.2.2), x9.1.2.2, (tkE f n x9.1.2.2), (vlR f n x9.1.2.2), s1, s2, s3, cr)) (mo_put6 ..) dX5_text_66 ?_
      refine aw_iload_n C dX5_text_69 rfl ?_
      refine aw_if_ne C 84 dX5_text_70 (by decide) (fun c_70 => absurd c_70 (by decide)) (fun c_70 => ?_)
      refine aw_aload_n C dX5_text_73 rfl ?_
      refine aw_callVdv C (As := []) (c_X5_laysBack_G l D cI cC adK adV y x9.2.2.2 (kr, (rowOf T), ik, F, f, 0, (tkR f n x9.1.2.2), x9.1.2.2, (tkE f n x9.1.2.2), (vlR f n x9.1.2.2), s1, s2, s3, cr)) k4_227 cv_X5_laysBack 0 4 rfl rfl rfl [0, 1, 2, 3, 4, 5, 6, 7, 8, 9, 10, 11, 12] (by decide) rfl (wr := ([] : va_W)) [] rfl (by decide) (by decide) [0, 1, 2, 3, 4, 5, 6, 7, 8, 9, 10, 11, 12] (by decide) (ws' := wMo cI cC y (rowOf T) (kr, (rowOf T), ik, F, f, 0, (tkR f n x9.1.2.2), x9.1.2.2, (tkE f n x9.1.2.2), (vlR f n x9.1.2.2), s1, s2, s3, cr)) rfl ⟨by decide, by decide⟩ rfl rfl ⟨by decide, by decide⟩ rfl rfl (Nat.le_of_ble_eq_true rfl) dX5_text_74 ?_
      refine aw_iconst C (-1 : Int32) dX5_text_77 (by decide) ?_
      refine aw_aload_n C dX5_text_78 rfl ?_
      refine aw_getf C 0 4 8 18 inX5 rfl (by decide) rfl k4_2 rfl rfl dX5_text_79 ?_
      refine aw_top (y := (nI x9.1.2.2)) rfl ?_
      refine aw_pc 82 rfl ?_
      refine aw_isub C dX5_text_82 ?_
      have hm : m_text (T, K, ik, F, f, n, s1, s2, s3) = (((-1 : Int32) - (nI x9.1.2.2)), (T, K, ik, F, f, 0, s1, s2, s3)) := by exact mt_y (G := (T, K, ik, F, f, n, s1, s2, s3)) (M := (-1 - nI x9.1.2.2, x9.1.2.1)) ((rl_f hi20 hv20.1 c_21).symm.trans hv20.2.2.2.2.1) (neg_p _ (Nat.lt_succ_of_le (Nat.le_trans (by rw [hv20.1]; exact rdItem_le hv20.2.2.1) hT)))
      exact aw_iret C hr hlk dX5_text_83 ⟨ri (by rw [hm]), kr, (rowOf T), (tkR f n x9.1.2.2), x9.1.2.2, (tkE f n x9.1.2.2), (vlR f n x9.1.2.2), cr, by first | (rw [hm]; done) | (rw [hm]; rfl), by rw [hm]; exact hk⟩
    · skip
      refine aw_aload_n C dX5_text_24 rfl ?_
      refine aw_getf C 0 4 7 18 inX5 rfl (by decide) rfl k4_1 rfl rfl dX5_text_25 ?_
      refine aw_top (y := (tkR f n x9.1.2.2)) rfl ?_
      refine aw_iconst C (3 : Int32) dX5_text_28 (by decide) ?_
      refine aw_icmp_ne C 47 dX5_text_29 (by decide) (fun c_29 => ?_) (fun c_29 => ?_)
      · skip
        refine aw_eq (lv' := [(0, .ref (y 0)), (1, .int (nI (i + 1))), (2, .int (b2 true))]) (ws' := wMo cI cC y x9.2.2.2 (kr, (rowOf T), ik, F, f, n, (tkR f n x9.1.2.2), x9.1.2.2, (tkE f n x9.1.2.2), (vlR f n x9.1.2.2), s1, s2, s3, cr)) (by rw [c_21]) rfl rfl ?_
        refine aw_iload_n C dX5_text_47 rfl ?_
        refine aw_ifeq_b C 62 dX5_text_48 (by decide) (fun c_48 => absurd c_48 (by simp)) (fun c_48 => ?_)
        refine aw_aload_n C dX5_text_51 rfl ?_
        refine aw_pc 52 rfl ?_
        refine aw_getf C 0 4 7 18 inX5 rfl (by decide) rfl k4_1 rfl rfl dX5_text_52 ?_
        refine aw_top (y := (tkR f n x9.1.2.2)) rfl ?_
        refine aw_if_ne C 62 dX5_text_55 (by decide) (fun c_55 => ?_) (fun c_55 => ?_)
        · skip
          refine aw_iconst C (0 : Int32) dX5_text_62 (by decide) ?_
          refine aw_istore_n C false (lv' := [(0, .ref (y 0)), (1, .int (nI (i + 1))), (2, .int (0 : Int32))]) dX5_text_63 (by decide) rfl rfl ?_
          refine aw_aload_n C dX5_text_64 rfl ?_
          refine aw_iconst C (0 : Int32) dX5_text_65 (by decide) ?_
          refine aw_putf C 0 4 6 18 tyX5 inX5 tyX5_ok nmX5 rfl (by decide) rfl k4_0 rfl rfl rfl rfl rfl (Nat.le_of_ble_eq_true rfl) (ws' := wMo cI cC y x9.2.2.2 (kr, (rowOf T), ik, F, f, 0, (tkR f n x9.1.2.2), x9.1.2.2, (tkE f n x9.1.2.2), (vlR f n x9.1.2.2), s1, s2, s3, cr)) (mo_put6 ..) dX5_text_66 ?_
          refine aw_iload_n C dX5_text_69 rfl ?_
          refine aw_if_ne C 84 dX5_text_70 (by decide) (fun c_70 => absurd c_70 (by decide)) (fun c_70 => ?_)
          refine aw_aload_n C dX5_text_73 rfl ?_
          refine aw_pc 74 rfl ?_
          refine aw_callVdv C (As := []) (c_X5_laysBack_G l D cI cC adK adV y x9.2.2.2 (kr, (rowOf T), ik, F, f, 0, (tkR f n x9.1.2.2), x9.1.2.2, (tkE f n x9.1.2.2), (vlR f n x9.1.2.2), s1, s2, s3, cr)) k4_227 cv_X5_laysBack 0 4 rfl rfl rfl [0, 1, 2, 3, 4, 5, 6, 7, 8, 9, 10, 11, 12] (by decide) rfl (wr := ([] : va_W)) [] rfl (by decide) (by decide) [0, 1, 2, 3, 4, 5, 6, 7, 8, 9, 10, 11, 12] (by decide) (ws' := wMo cI cC y (rowOf T) (kr, (rowOf T), ik, F, f, 0, (tkR f n x9.1.2.2), x9.1.2.2, (tkE f n x9.1.2.2), (vlR f n x9.1.2.2), s1, s2, s3, cr)) rfl ⟨by decide, by decide⟩ rfl rfl ⟨by decide, by decide⟩ rfl rfl (Nat.le_of_ble_eq_true rfl) dX5_text_74 ?_
          refine aw_iconst C (-1 : Int32) dX5_text_77 (by decide) ?_
          refine aw_aload_n C dX5_text_78 rfl ?_
          refine aw_getf C 0 4 8 18 inX5 rfl (by decide) rfl k4_2 rfl rfl dX5_text_79 ?_
          refine aw_top (y := (nI x9.1.2.2)) rfl ?_
          refine aw_isub C dX5_text_82 ?_
          have hm : m_text (T, K, ik, F, f, n, s1, s2, s3) = (((-1 : Int32) - (nI x9.1.2.2)), (T, K, ik, F, f, 0, s1, s2, s3)) := by exact mt_y (G := (T, K, ik, F, f, n, s1, s2, s3)) (M := (-1 - nI x9.1.2.2, x9.1.2.1)) ((rl_n hi20 hv20.1 c_21 (fun z => c_55 (tkR_0.mpr z)) (fun z => c_29 (tkR_3.mpr z))).symm.trans hv20.2.2.2.2.1) (neg_p _ (Nat.lt_succ_of_le (Nat.le_trans (by rw [hv20.1]; exact rdItem_le hv20.2.2.1) hT)))
          exact aw_iret C hr hlk dX5_text_83 ⟨ri (by rw [hm]), kr, (rowOf T), (tkR f n x9.1.2.2), x9.1.2.2, (tkE f n x9.1.2.2), (vlR f n x9.1.2.2), cr, by first | (rw [hm]; done) | (rw [hm]; rfl), by rw [hm]; exact hk⟩
        · skip
          refine aw_iconst C (1 : Int32) dX5_text_58 (by decide) ?_
          refine aw_goto C 63 dX5_text_59 (by decide) ?_
          refine aw_istore_n C false (lv' := [(0, .ref (y 0)), (1, .int (nI (i + 1))), (2, .int (1 : Int32))]) dX5_text_63 (by decide) rfl rfl ?_
          refine aw_aload_n C dX5_text_64 rfl ?_
          refine aw_pc 65 rfl ?_
          refine aw_iconst C (0 : Int32) dX5_text_65 (by decide) ?_
          refine aw_putf C 0 4 6 18 tyX5 inX5 tyX5_ok nmX5 rfl (by decide) rfl k4_0 rfl rfl rfl rfl rfl (Nat.le_of_ble_eq_true rfl) (ws' := wMo cI cC y x9.2.2.2 (kr, (rowOf T), ik, F, f, 0, (tkR f n x9.1.2.2), x9.1.2.2, (tkE f n x9.1.2.2), (vlR f n x9.1.2.2), s1, s2, s3, cr)) (mo_put6 ..) dX5_text_66 ?_
          refine aw_iload_n C dX5_text_69 rfl ?_
          refine aw_if_ne C 84 dX5_text_70 (by decide) (fun c_70 => ?_) (fun c_70 => absurd c_70 (by decide))
          refine aw_eq (lv' := [(0, .ref (y 0)), (1, .int (nI (i + 1))), (2, .int (1 : Int32))]) (ws' := wMo cI cC y (rowOf x9.1.2.1) (kr, (rowOf T), ik, F, f, 0, (tkR f n x9.1.2.2), x9.1.2.2, (tkE f n x9.1.2.2), (vlR f n x9.1.2.2), s1, s2, s3, cr)) rfl rfl (by rw [hv20.2.2.2.2.2 c_21]) ?_
          refine aw_iload_n C dX5_text_84 rfl ?_
          have hm : m_text (T, K, ik, F, f, n, s1, s2, s3) = ((nI (i + 1)), (x9.1.2.1, K, ik, F, f, 0, s1, s2, s3)) := by exact mt_n (G := (T, K, ik, F, f, n, s1, s2, s3)) (M := (nI (i + 1), x9.1.2.1)) ((rl_e hi20 hv20.1 c_21 (tkR_0.mp c_55)).symm.trans hv20.2.2.2.2.1) (nI_pos (by omega))
          exact aw_iret C hr hlk dX5_text_85 ⟨ri (by rw [hm]), kr, (rowOf T), (tkR f n x9.1.2.2), x9.1.2.2, (tkE f n x9.1.2.2), (vlR f n x9.1.2.2), cr, by first | (rw [hm]; done) | (rw [hm]; rfl), by rw [hm]; exact hk⟩
      · skip
        refine aw_aload_n C dX5_text_32 rfl ?_
        refine aw_eq (lv' := [(0, .ref (y 0)), (1, .int (nI (i + 1))), (2, .int (b2 x9.1.1))]) (ws' := wMo cI cC y (rowOf x9.1.2.1) (kr, (rowOf T), ik, F, f, n, (tkR f n x9.1.2.2), x9.1.2.2, (tkE f n x9.1.2.2), (vlR f n x9.1.2.2), s1, s2, s3, cr)) rfl rfl (by rw [hv20.2.2.2.2.2 c_21]) ?_
        refine aw_callVdv C (As := []) (c_X5_nextTokenS l D cI cC adK adV y (rowOf x9.1.2.1) kr (rowOf T) ik F f n s1 s2 s3 cr x9.1.2.2 (by rw [hv20.1]; exact rdItem_le hv20.2.2.1) hT) k5_108 cv_X5_nextToken 0 4 rfl rfl rfl [0, 1, 2, 3, 4, 5, 6, 7, 8, 9, 10, 11, 12] (by decide) rfl (wr := ([] : va_W)) [] rfl (by decide) (by decide) [0, 1, 2, 3, 4, 5, 6, 7, 8, 9, 10, 11, 12] (by decide) (ws' := wMo cI cC y (rowOf x9.1.2.1) (kr, (rowOf T), ik, F, f, n, (tkR f n (nx f n x9.1.2.2)), (nx f n x9.1.2.2), (tkE f n (nx f n x9.1.2.2)), (vlR f n (nx f n x9.1.2.2)), s1, s2, s3, cr)) rfl ⟨by decide, by decide⟩ rfl rfl ⟨by decide, by decide⟩ rfl rfl (Nat.le_of_ble_eq_true rfl) dX5_text_33 ?_
        refine aw_pc 36 rfl ?_
        refine aw_aload_n C dX5_text_36 rfl ?_
        obtain ⟨M11, hM11⟩ : ∃ z9, z9 = (rdItem f n x9.1.2.1 (nx f n x9.1.2.2)) := ⟨_, rfl⟩
        refine aw_callV C (As := []) (pRp_any (c_X5_readsItem l D cI cC adK adV y x9.1.2.1 kr (rowOf T) ik F f n s1 s2 s3 cr (nx f n x9.1.2.2)  (by rw [hv20.1]; exact rdItem_ok hv20.2.1) (nx_le (by rw [hv20.1]; exact rdItem_le hv20.2.2.1)) hT) hM11) k5_124 cv_X5_readsItem 0 4 rfl rfl rfl [0, 1, 2, 3, 4, 5, 6, 7, 8, 9, 10, 11, 12] (by decide) rfl (wr := ([] : va_W)) [] rfl (by decide) (by decide) ⟨by decide, by decide⟩ rfl rfl ⟨by decide, by decide⟩ rfl rfl (Nat.le_of_ble_eq_true rfl) dX5_text_37 ?_
        rintro _ _ ⟨rfl, sr11, rfl, hs11⟩
        refine aw_eq (lv' := [(0, .ref (y 0)), (1, .int (nI (i + 1))), (2, .int (b2 x9.1.1))]) (st' := [.int (b2 M11.1)]) (ws' := wMo cI cC y sr11 (kr, (rowOf T), ik, F, f, n, (tkR f n M11.2.2), M11.2.2, (tkE f n M11.2.2), (vlR f n M11.2.2), s1, s2, s3, cr)) rfl rfl rfl ?_
        refine aw_istore_n C false (lv' := [(0, .ref (y 0)), (1, .int (nI (i + 1))), (2, .int (b2 M11.1))]) dX5_text_40 (by decide) rfl rfl ?_
        refine aw_iinc C (nI ((i + 1) + 1)) dX5_text_41 rfl (inc_nI _ 1) (by decide) rfl (lv' := [(0, .ref (y 0)), (1, .int (nI ((i + 1) + 1))), (2, .int (b2 M11.1))]) rfl ?_
        refine aw_goto C 20 dX5_text_44 (by decide) ?_
        exact aw_eq (by first | rfl | (simp only [itr, c_21, c_29])) rfl (by first | rfl | (simp only [itr, c_21, c_29] <;> first | done | rfl)) (ih20 (M11, x9.1.2.1, nx f n x9.1.2.2, sr11) (⟨hM11, (by rw [hv20.1]; exact rdItem_ok hv20.2.1), nx_le (by rw [hv20.1]; exact rdItem_le hv20.2.2.1), (Nat.le_trans (Nat.succ_le_succ (Nat.le_trans hv20.2.2.2.1 (by rw [hv20.1]; exact rdItem_ge))) (nx_gt (tkR_3.mp c_29))), (rl_s hi20 hv20.1 c_21 (fun z => by rw [tkR_3.mp c_29] at z; exact absurd z (by decide)) (tkR_3.mp c_29)).symm.trans hv20.2.2.2.2.1, hs11⟩))
