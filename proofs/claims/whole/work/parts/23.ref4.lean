/-! the reference: calls that tell -/
theorem nd_and {p q : Prop} [Decidable p] [Decidable q] (h : (!decide p && decide q) = true) : ¬ p ∧ q := by
  by_cases a : p
  · rw [decide_eq_true a] at h
    exact absurd h Bool.false_ne_true
  · rw [decide_eq_false a] at h
    exact ⟨a, of_decide_eq_true h⟩
theorem row_3 (T : Tw) : rowOf T 3 = T.2.1 3 := rfl
theorem go_day {d : Int32} {k : Nat} (hd : rgO d 100000) (hk : k ≤ 60) : (99999 - d < nI k) ↔ ¬ (d + nI k ≤ 99999) := by
  obtain ⟨j, hj, rfl⟩ := hd
  rw [show (99999 : Int32) = nI 99999 from rfl, pk_sub (by omega), nI_add, nI_leI (by omega) (by omega), nI_ltI (by omega) (by omega)]
  omega
theorem told_a {w : Int32} (h : (!decide (w < 1) && decide (w ≤ 4)) = true) : mTold w = true ∧ ¬ w < 0 ∧ ix w < 7 := by
  have h1 : ¬ w < 1 := (nd_and h).1
  have h2 : w ≤ 4 := (nd_and h).2
  have h0 := neg1 h1
  obtain ⟨j, hj, rfl⟩ := nI_of h0
  have hx : ix (nI j) = j := nI_clamp hj
  have a1 : ¬ j < 1 := fun z => h1 (nI_lt z (by decide))
  have a2 : j ≤ 4 := (nI_leI hj (by decide)).mp h2
  refine ⟨?_, h0, by rw [hx]; omega⟩
  rcases (by omega : j = 1 ∨ j = 2 ∨ j = 3 ∨ j = 4) with e | e | e | e <;> (subst e; rfl)
theorem told_b {w : Int32} (h : w = 6) : mTold w = true ∧ ¬ w < 0 ∧ ix w < 7 := by
  subst h
  exact ⟨rfl, by decide, by decide⟩
theorem told_n {w : Int32} (h : (!decide (w < 1) && decide (w ≤ 4)) = false) (h6 : ¬ w = 6) : mTold w = false := by
  unfold mTold
  have n1 : ¬ w = 1 := fun e => by subst e; exact absurd h (by decide)
  have n2 : ¬ w = 2 := fun e => by subst e; exact absurd h (by decide)
  have n3 : ¬ w = 3 := fun e => by subst e; exact absurd h (by decide)
  have n4 : ¬ w = 4 := fun e => by subst e; exact absurd h (by decide)
  rw [decide_eq_false n1, decide_eq_false n2, decide_eq_false n3, decide_eq_false n4, decide_eq_false h6]
  rfl
theorem row_told {T : Tw} {u : Nat} {w : Int32} (hu : u < 8) (h0 : ¬ w < 0) (h7 : ix w < 7) : rowOf T (4 + 7 * u + ix w) = mTrait T u w := by
  rw [row_get T hu h7, ← trait_nI T u (ix w) h7, ← ix_eq h0]
theorem tell_f {w : Int32} (h : in0 w 11 = true) (n7 : ¬ w = 7) (n8 : ¬ w = 8) (n9 : ¬ w = 9) (n10 : ¬ w = 10) : w = nI (ix w) ∧ ix w < 7 := by
  obtain ⟨e, hl⟩ := in0_ix (n := 11) (by decide) h
  refine ⟨e, ?_⟩
  have m7 : ¬ ix w = 7 := fun q => n7 (by rw [e, q]; rfl)
  have m8 : ¬ ix w = 8 := fun q => n8 (by rw [e, q]; rfl)
  have m9 : ¬ ix w = 9 := fun q => n9 (by rw [e, q]; rfl)
  have m10 : ¬ ix w = 10 := fun q => n10 (by rw [e, q]; rfl)
  omega

abbrev r_X5_laysBack : Room := { frames := 0, cells := 0, slots := 0, locals := 0 }
theorem cv_X5_laysBack : cV yX5_laysBack cX5_laysBack 2 none 0 := ⟨k4_229, k0_51, k4_230, k1_6, by decide, by decide, by decide +kernel⟩
set_option maxHeartbeats 4000000 in
set_option maxRecDepth 100000 in
theorem c_X5_laysBack (l : Launch) (D : va_G) (cI cC : ClassId) (adK adV : Nat → Nat) (y : Nat → Nat) (T : Tw) (X : Mr)  : FC l yX5_laysBack (wW yX5_laysBack cX5_laysBack 2 none) r_X5_laysBack D (tyC cI cC) adK adV (wMo cI cC y (rowOf T) X) [.ref (y 0)] 0 0 (fQ none (wMo cI cC y X.2.1 X)) := by
  refine FC.of (own := RX5) (by decide) rfl (Nat.le_of_ble_eq_true rfl) ?_
  intro p9 e9 s9 m9 args9 below9 meth9 c9 A9 C hr hlk hmn
  show AW p9 l e9 r_X5_laysBack s9 m9 args9 below9 meth9 c9 D A9 2 0 0 _ 0 [(0, .ref (y 0))] [] _
  refine aw_iconst C (0 : Int32) dX5_laysBack_0 (by decide) ?_
  refine aw_istore_n C true (lv' := [(0, .ref (y 0)), (1, .int (0 : Int32))]) dX5_laysBack_1 (by decide) rfl rfl ?_
  refine aw_eq (lv' := [(0, .ref (y 0)), (1, .int (nI 0))]) (ws' := wMo cI cC y (cpy X.2.1 (rowOf T) 0) X) (by first | rfl | (simp only [itr])) rfl (by rw [cpy_0]) ?_
  refine aw_loop (LV := fun i => [(0, .ref (y 0)), (1, .int (nI i))]) (WS := fun i => wMo cI cC y (cpy X.2.1 (rowOf T) i) X) 70 (Inv := fun _ => True) trivial ?_ ?_
  · intro hv2
    refine aw_iload_n C dX5_laysBack_2 rfl ?_
    refine aw_bipush C (70 : Int32) dX5_laysBack_3 (by decide) ?_
    refine aw_icmp_ge C 26 dX5_laysBack_5 (by decide) (fun c_5 => ?_) (fun c_5 => absurd c_5 (fun z => z (Int32.le_refl _)))
    refine aw_ext 1 rfl (fun j hj => cpy_e hj) (ws' := wMo cI cC y X.2.1 X) rfl ?_
    exact aw_vret C hr hlk dX5_laysBack_26 ⟨rfl, by rfl⟩
  · intro i hi2 hv2 ih2
    refine aw_iload_n C dX5_laysBack_2 rfl ?_
    refine aw_bipush C (70 : Int32) dX5_laysBack_3 (by decide) ?_
    refine aw_pc 5 rfl ?_
    refine aw_icmp_ge C 26 dX5_laysBack_5 (by decide) (fun c_5 => absurd c_5 (nI_ge (b := 70) hi2 (by omega))) (fun c_5 => ?_)
    refine aw_aload_n C dX5_laysBack_8 rfl ?_
    refine aw_getf C 0 4 0 18 inX5 rfl (by decide) rfl k3_234 rfl rfl dX5_laysBack_9 ?_
    refine aw_iload_n C dX5_laysBack_12 rfl ?_
    refine aw_aload_n C dX5_laysBack_13 rfl ?_
    refine aw_getf C 0 4 2 18 inX5 rfl (by decide) rfl k3_236 rfl rfl dX5_laysBack_14 ?_
    refine aw_iload_n C dX5_laysBack_17 rfl ?_
    refine aw_ialdN C 3 0 i rfl rfl rfl (by omega) (by decide) dX5_laysBack_18 ?_
    refine aw_iastN C 1 0 i rfl rfl rfl (by omega) (by decide) (ws' := wMo cI cC y (upd (cpy X.2.1 (rowOf T) i) i (X.2.1 i)) X) rfl dX5_laysBack_19 ?_
    refine aw_iinc C (nI (i + 1)) dX5_laysBack_20 rfl (inc_nI _ 1) (by decide) rfl (lv' := [(0, .ref (y 0)), (1, .int (nI (i + 1)))]) rfl ?_
    refine aw_pc 23 rfl ?_
    refine aw_goto C 2 dX5_laysBack_23 (by decide) ?_
    exact aw_eq (by first | rfl | (simp only [itr])) rfl (by rw [cpy_s]) (ih2 trivial)
abbrev r_X5_thenAt : Room := { frames := 6, cells := 0, slots := 0, locals := 134 }
theorem cv_X5_thenAt : cV yX5_thenAt cX5_thenAt 4 (some .int) 2 := ⟨k4_221, k0_49, k4_222, k1_6, by decide, by decide, by decide +kernel⟩
set_option maxHeartbeats 4000000 in
set_option maxRecDepth 100000 in
theorem c_X5_thenAt (l : Launch) (D : va_G) (cI cC : ClassId) (adK adV : Nat → Nat) (y : Nat → Nat) (T : Tw) (X : Mr) (p : Nat) (k : Nat) (ho : gOk T) (hp : p < 70) (hk : k < 2 ^ 30) : FC l yX5_thenAt (wW yX5_thenAt cX5_thenAt 4 (some .int)) r_X5_thenAt D (tyC cI cC) adK adV (wMo cI cC y (rowOf T) X) [.ref (y 0), .int (nI p), .int (nI k)] 0 0 (fQ (some (.int (rowOf (tDays k T) p))) (wMo cI cC y (rowOf T) (X.1, (rowOf T), X.2.2.1, X.2.2.2.1, X.2.2.2.2.1, X.2.2.2.2.2.1, X.2.2.2.2.2.2.1, X.2.2.2.2.2.2.2.1, X.2.2.2.2.2.2.2.2.1, X.2.2.2.2.2.2.2.2.2.1, X.2.2.2.2.2.2.2.2.2.2.1, X.2.2.2.2.2.2.2.2.2.2.2.1, X.2.2.2.2.2.2.2.2.2.2.2.2.1, X.2.2.2.2.2.2.2.2.2.2.2.2.2))) := by
  refine FC.of (own := RX5) (by decide) rfl (Nat.le_of_ble_eq_true rfl) ?_
  intro p9 e9 s9 m9 args9 below9 meth9 c9 A9 C hr hlk hmn
  show AW p9 l e9 r_X5_thenAt s9 m9 args9 below9 meth9 c9 D A9 4 0 0 _ 0 [(0, .ref (y 0)), (1, .int (nI p)), (2, .int (nI k))] [] _
  refine aw_aload_n C dX5_thenAt_0 rfl ?_
  refine aw_callVdv C (As := []) (c_X5_setsAside l D cI cC adK adV y T X ) k4_223 cv_X5_setsAside 0 4 rfl rfl rfl [0, 1, 2, 3, 4, 5, 6, 7, 8, 9, 10, 11, 12] (by decide) rfl (wr := ([] : va_W)) [] rfl (by decide) (by decide) [0, 1, 2, 3, 4, 5, 6, 7, 8, 9, 10, 11, 12] (by decide) (ws' := wMo cI cC y (rowOf T) (X.1, (rowOf T), X.2.2.1, X.2.2.2.1, X.2.2.2.2.1, X.2.2.2.2.2.1, X.2.2.2.2.2.2.1, X.2.2.2.2.2.2.2.1, X.2.2.2.2.2.2.2.2.1, X.2.2.2.2.2.2.2.2.2.1, X.2.2.2.2.2.2.2.2.2.2.1, X.2.2.2.2.2.2.2.2.2.2.2.1, X.2.2.2.2.2.2.2.2.2.2.2.2.1, X.2.2.2.2.2.2.2.2.2.2.2.2.2)) rfl ⟨by decide, by decide⟩ rfl rfl ⟨by decide, by decide⟩ rfl rfl (Nat.le_of_ble_eq_true rfl) dX5_thenAt_1 ?_
  refine aw_aload_n C dX5_thenAt_4 rfl ?_
  refine aw_iload_n C dX5_thenAt_5 rfl ?_
  refine aw_callVdv C (As := [.int (nI k)]) (c_X5_goes l D cI cC adK adV y T (X.1, (rowOf T), X.2.2.1, X.2.2.2.1, X.2.2.2.2.1, X.2.2.2.2.2.1, X.2.2.2.2.2.2.1, X.2.2.2.2.2.2.2.1, X.2.2.2.2.2.2.2.2.1, X.2.2.2.2.2.2.2.2.2.1, X.2.2.2.2.2.2.2.2.2.2.1, X.2.2.2.2.2.2.2.2.2.2.2.1, X.2.2.2.2.2.2.2.2.2.2.2.2.1, X.2.2.2.2.2.2.2.2.2.2.2.2.2) k ho (by omega)) k4_167 cv_X5_goes 0 4 rfl rfl rfl [0, 1, 2, 3, 4, 5, 6, 7, 8, 9, 10, 11, 12] (by decide) rfl (wr := ([] : va_W)) [] rfl (by decide) (by decide) [0, 1, 2, 3, 4, 5, 6, 7, 8, 9, 10, 11, 12] (by decide) (ws' := wMo cI cC y (rowOf (tDays k T)) (X.1, (rowOf T), X.2.2.1, X.2.2.2.1, X.2.2.2.2.1, X.2.2.2.2.2.1, X.2.2.2.2.2.2.1, X.2.2.2.2.2.2.2.1, X.2.2.2.2.2.2.2.2.1, X.2.2.2.2.2.2.2.2.2.1, X.2.2.2.2.2.2.2.2.2.2.1, X.2.2.2.2.2.2.2.2.2.2.2.1, X.2.2.2.2.2.2.2.2.2.2.2.2.1, X.2.2.2.2.2.2.2.2.2.2.2.2.2)) rfl ⟨by decide, by decide⟩ rfl rfl ⟨by decide, by decide⟩ rfl rfl (Nat.le_of_ble_eq_true rfl) dX5_thenAt_6 ?_
  refine aw_aload_n C dX5_thenAt_9 rfl ?_
  refine aw_getf C 0 4 0 18 inX5 rfl (by decide) rfl k3_234 rfl rfl dX5_thenAt_10 ?_
  refine aw_iload_n C dX5_thenAt_13 rfl ?_
  refine aw_ialdN C 1 0 p rfl rfl rfl (by omega) (by decide) dX5_thenAt_14 ?_
  refine aw_pc 15 rfl ?_
  refine aw_istore_n C true (lv' := [(0, .ref (y 0)), (1, .int (nI p)), (2, .int (nI k)), (3, .int ((rowOf (tDays k T)) p))]) dX5_thenAt_15 (by decide) rfl rfl ?_
  refine aw_aload_n C dX5_thenAt_16 rfl ?_
  refine aw_callVdv C (As := []) (c_X5_laysBack l D cI cC adK adV y (tDays k T) (X.1, (rowOf T), X.2.2.1, X.2.2.2.1, X.2.2.2.2.1, X.2.2.2.2.2.1, X.2.2.2.2.2.2.1, X.2.2.2.2.2.2.2.1, X.2.2.2.2.2.2.2.2.1, X.2.2.2.2.2.2.2.2.2.1, X.2.2.2.2.2.2.2.2.2.2.1, X.2.2.2.2.2.2.2.2.2.2.2.1, X.2.2.2.2.2.2.2.2.2.2.2.2.1, X.2.2.2.2.2.2.2.2.2.2.2.2.2) ) k4_227 cv_X5_laysBack 0 4 rfl rfl rfl [0, 1, 2, 3, 4, 5, 6, 7, 8, 9, 10, 11, 12] (by decide) rfl (wr := ([] : va_W)) [] rfl (by decide) (by decide) [0, 1, 2, 3, 4, 5, 6, 7, 8, 9, 10, 11, 12] (by decide) (ws' := wMo cI cC y (rowOf T) (X.1, (rowOf T), X.2.2.1, X.2.2.2.1, X.2.2.2.2.1, X.2.2.2.2.2.1, X.2.2.2.2.2.2.1, X.2.2.2.2.2.2.2.1, X.2.2.2.2.2.2.2.2.1, X.2.2.2.2.2.2.2.2.2.1, X.2.2.2.2.2.2.2.2.2.2.1, X.2.2.2.2.2.2.2.2.2.2.2.1, X.2.2.2.2.2.2.2.2.2.2.2.2.1, X.2.2.2.2.2.2.2.2.2.2.2.2.2)) rfl ⟨by decide, by decide⟩ rfl rfl ⟨by decide, by decide⟩ rfl rfl (Nat.le_of_ble_eq_true rfl) dX5_thenAt_17 ?_
  refine aw_iload_n C dX5_thenAt_20 rfl ?_
  exact aw_iret C hr hlk dX5_thenAt_21 ⟨ri (by first | rfl | (simp only [])), by rfl⟩
theorem le_0 {k : Int32} {b : Int32} (h : (!decide (k < 0) && decide (k ≤ b)) = true) : ¬ k < 0 := (nd_and h).1
theorem le_1 {k : Int32} {b : Int32} (h : (!decide (k < 1) && decide (k ≤ b)) = true) : ¬ k < 0 := neg1 ((nd_and h).1)
theorem le_b {k a : Int32} {b : Nat} (h : (!decide (k < a) && decide (k ≤ nI b)) = true) (h0 : ¬ k < 0) (hb : b < 2 ^ 31) : ix k ≤ b := ix_le h0 hb ((nd_and h).2)
abbrev r_X5_joy : Room := { frames := 7, cells := 0, slots := 0, locals := 157 }
theorem cv_X5_joy : cV yX5_joy cX5_joy 2 (some .int) 1 := ⟨k4_232, k4_233, k4_234, k1_6, by decide, by decide, by decide +kernel⟩
set_option maxHeartbeats 4000000 in
set_option maxRecDepth 100000 in
theorem c_X5_joy (l : Launch) (D : va_G) (cI cC : ClassId) (adK adV : Nat → Nat) (y : Nat → Nat) (T K : Tw) (ik : Bool) (F f : Nat → Int32) (n : Nat) (s1 s2 s3 kr ar : Nat → Int32) (tk : Int32) (bg en : Nat) (vl : Int64) (cr : Nat → Int32) (hk : ik = true → kr = rowOf K) (ho : gOk T) (k : Int32) : FC l yX5_joy (wW yX5_joy cX5_joy 2 (some .int)) r_X5_joy D (tyC cI cC) adK adV (wMo cI cC y (rowOf T) (kr, ar, ik, F, f, n, tk, bg, en, vl, s1, s2, s3, cr)) [.ref (y 0), .int k] 0 0 (pMo cI cC y (m_joy (T, K, ik, F, f, n, s1, s2, s3) k)) := by
  refine FC.of (own := RX5) (by decide) rfl (Nat.le_of_ble_eq_true rfl) ?_
  intro p9 e9 s9 m9 args9 below9 meth9 c9 A9 C hr hlk hmn
  show AW p9 l e9 r_X5_joy s9 m9 args9 below9 meth9 c9 D A9 2 0 0 _ 0 [(0, .ref (y 0)), (1, .int k)] [] _
  have hn := ho.n
  refine aw_iload_n C dX5_joy_0 rfl ?_
  refine aw_iconst C (0 : Int32) dX5_joy_1 (by decide) ?_
  refine aw_bipush C (100 : Int32) dX5_joy_2 (by decide) ?_
  refine aw_callSp C (As := [.int k, .int (0 : Int32), .int (100 : Int32)]) (c_X5_in1 l D cI cC adK adV k (0 : Int32) (100 : Int32)) k4_54 cs_X5_in1 [] (by decide) rfl ⟨by decide, by decide⟩ rfl rfl ⟨by decide, by decide⟩ rfl rfl (Nat.le_of_ble_eq_true rfl) dX5_joy_4 ?_
  refine aw_top (y := b2 (!decide (k < (0 : Int32)) && decide (k ≤ (100 : Int32)))) (by exact congrArg b2 (inL_le _ _ _)) ?_
  refine aw_ifeq_b C 19 dX5_joy_7 (by decide) (fun c_7 => ?_) (fun c_7 => ?_)
  · skip
    refine aw_aload_n C dX5_joy_19 rfl ?_
    refine aw_iconst C (0 : Int32) dX5_joy_20 (by decide) ?_
    refine aw_callVd C (As := [.int (0 : Int32)]) (c_X5_no l D cI cC adK adV y T (kr, ar, ik, F, f, n, tk, bg, en, vl, s1, s2, s3, cr) 0 (by decide)) k4_60 cv_X5_no 0 4 rfl rfl rfl [0, 1, 2, 3, 4, 5, 6, 7, 8, 9, 10, 11, 12] (by decide) rfl (wr := ([] : va_W)) [] rfl (by decide) (by decide) [0, 1, 2, 3, 4, 5, 6, 7, 8, 9, 10, 11, 12] (by decide) (ws' := wMo cI cC y (rowOf T) (kr, ar, ik, (upd F 0 (F 0 + 1)), f, n, tk, bg, en, vl, s1, s2, s3, cr)) rfl ⟨by decide, by decide⟩ rfl rfl ⟨by decide, by decide⟩ rfl rfl (Nat.le_of_ble_eq_true rfl) dX5_joy_21 ?_
    have hm : m_joy (T, K, ik, F, f, n, s1, s2, s3) k = ((fno 0), (T, K, ik, (upd F 0 (F 0 + 1)), f, n, s1, s2, s3)) := by simp only [m_joy, c_7, decide_true, decide_false, Bool.not_true, Bool.not_false, Bool.true_and, Bool.false_and, Bool.and_true, Bool.and_false, Bool.true_or, Bool.false_or, Bool.or_true, Bool.or_false, cond_true, cond_false, eq_self, if_true, if_false, ite_true, ite_false] <;> rfl
    exact aw_iret C hr hlk dX5_joy_24 ⟨ri (by rw [hm]), kr, ar, tk, bg, en, vl, cr, by first | (rw [hm]; done) | (rw [hm]; rfl), by rw [hm]; exact hk⟩
  · skip
    have l1 : ix k ≤ 100 := le_b c_7 (le_0 c_7) (by decide)
    have e1 : k = nI (ix k) := ix_eq (le_0 c_7)
    refine aw_eq (lv' := [(0, .ref (y 0)), (1, .int (nI (ix k)))]) (ws' := wMo cI cC y (rowOf T) (kr, ar, ik, F, f, n, tk, bg, en, vl, s1, s2, s3, cr)) (by rw [← e1]) rfl rfl ?_
    refine aw_pc 10 rfl ?_
    refine aw_aload_n C dX5_joy_10 rfl ?_
    refine aw_iconst C (3 : Int32) dX5_joy_11 (by decide) ?_
    refine aw_iload_n C dX5_joy_12 rfl ?_
    refine aw_callVd C (As := [.int (3 : Int32), .int (nI (ix k))]) (c_X5_thenAt l D cI cC adK adV y T (kr, ar, ik, F, f, n, tk, bg, en, vl, s1, s2, s3, cr) 3 (ix k) ho (by omega) (by omega)) k4_219 cv_X5_thenAt 0 4 rfl rfl rfl [0, 1, 2, 3, 4, 5, 6, 7, 8, 9, 10, 11, 12] (by decide) rfl (wr := ([] : va_W)) [] rfl (by decide) (by decide) [0, 1, 2, 3, 4, 5, 6, 7, 8, 9, 10, 11, 12] (by decide) (ws' := wMo cI cC y (rowOf T) (kr, (rowOf T), ik, F, f, n, tk, bg, en, vl, s1, s2, s3, cr)) rfl ⟨by decide, by decide⟩ rfl rfl ⟨by decide, by decide⟩ rfl rfl (Nat.le_of_ble_eq_true rfl) dX5_joy_13 ?_
    refine aw_goto C 24 dX5_joy_16 (by decide) ?_
    have hm : m_joy (T, K, ik, F, f, n, s1, s2, s3) k = ((rowOf (tDays (ix k) T) 3), (T, K, ik, F, f, n, s1, s2, s3)) := by simp only [m_joy, c_7, decide_true, decide_false, Bool.not_true, Bool.not_false, Bool.true_and, Bool.false_and, Bool.and_true, Bool.and_false, Bool.true_or, Bool.false_or, Bool.or_true, Bool.or_false, cond_true, cond_false, eq_self, if_true, if_false, ite_true, ite_false] <;> rfl
    exact aw_iret C hr hlk dX5_joy_24 ⟨ri (by rw [hm]), kr, (rowOf T), tk, bg, en, vl, cr, by first | (rw [hm]; done) | (rw [hm]; rfl), by rw [hm]; exact hk⟩
abbrev r_X5_go : Room := { frames := 6, cells := 0, slots := 0, locals := 134 }
theorem cv_X5_go : cV yX5_go cX5_go 2 (some .int) 1 := ⟨k4_163, k4_164, k4_165, k1_6, by decide, by decide, by decide +kernel⟩
set_option maxHeartbeats 4000000 in
set_option maxRecDepth 100000 in
theorem c_X5_go (l : Launch) (D : va_G) (cI cC : ClassId) (adK adV : Nat → Nat) (y : Nat → Nat) (T K : Tw) (ik : Bool) (F f : Nat → Int32) (n : Nat) (s1 s2 s3 kr ar : Nat → Int32) (tk : Int32) (bg en : Nat) (vl : Int64) (cr : Nat → Int32) (hk : ik = true → kr = rowOf K) (ho : gOk T) (k : Int32) : FC l yX5_go (wW yX5_go cX5_go 2 (some .int)) r_X5_go D (tyC cI cC) adK adV (wMo cI cC y (rowOf T) (kr, ar, ik, F, f, n, tk, bg, en, vl, s1, s2, s3, cr)) [.ref (y 0), .int k] 0 0 (pMo cI cC y (m_go (T, K, ik, F, f, n, s1, s2, s3) k)) := by
  refine FC.of (own := RX5) (by decide) rfl (Nat.le_of_ble_eq_true rfl) ?_
  intro p9 e9 s9 m9 args9 below9 meth9 c9 A9 C hr hlk hmn
  show AW p9 l e9 r_X5_go s9 m9 args9 below9 meth9 c9 D A9 2 0 0 _ 0 [(0, .ref (y 0)), (1, .int k)] [] _
  have hn := ho.n
  refine aw_iload_n C dX5_go_0 rfl ?_
  refine aw_iconst C (1 : Int32) dX5_go_1 (by decide) ?_
  refine aw_bipush C (60 : Int32) dX5_go_2 (by decide) ?_
  refine aw_callSp C (As := [.int k, .int (1 : Int32), .int (60 : Int32)]) (c_X5_in1 l D cI cC adK adV k (1 : Int32) (60 : Int32)) k4_54 cs_X5_in1 [] (by decide) rfl ⟨by decide, by decide⟩ rfl rfl ⟨by decide, by decide⟩ rfl rfl (Nat.le_of_ble_eq_true rfl) dX5_go_4 ?_
  refine aw_top (y := b2 (!decide (k < (1 : Int32)) && decide (k ≤ (60 : Int32)))) (by exact congrArg b2 (inL_le _ _ _)) ?_
  refine aw_ifne_b C 16 dX5_go_7 (by decide) (fun c_7 => ?_) (fun c_7 => ?_)
  · skip
    have l1 : ix k ≤ 60 := le_b c_7 (le_1 c_7) (by decide)
    have ek := ix_eq (le_1 c_7)
    have gd := go_day ho.d l1
    rw [← ek] at gd
    have e1 : k = nI (ix k) := ix_eq (le_1 c_7)
    refine aw_eq (lv' := [(0, .ref (y 0)), (1, .int (nI (ix k)))]) (ws' := wMo cI cC y (rowOf T) (kr, ar, ik, F, f, n, tk, bg, en, vl, s1, s2, s3, cr)) (by rw [← e1]) rfl rfl ?_
    refine aw_aload_n C dX5_go_16 rfl ?_
    refine aw_getf C 0 4 0 18 inX5 rfl (by decide) rfl k3_234 rfl rfl dX5_go_17 ?_
    refine aw_iconst C (0 : Int32) dX5_go_20 (by decide) ?_
    refine aw_ialdN C 1 0 0 rfl rfl rfl (by decide) (by decide) dX5_go_21 ?_
    refine aw_top (y := (T.2.1 0)) rfl ?_
    refine aw_pc 22 rfl ?_
    refine aw_iload_n C dX5_go_22 rfl ?_
    refine aw_iadd C dX5_go_23 ?_
    refine aw_ldc C k4_166 dX5_go_24 ?_
    refine aw_icmp_le C 35 dX5_go_26 (by decide) (fun c_26 => ?_) (fun c_26 => ?_)
    · skip
      have c9 : ¬ 99999 - T.2.1 0 < k := fun z => gd.mp z (by rw [ek]; exact c_26)
      refine aw_aload_n C dX5_go_35 rfl ?_
      refine aw_iload_n C dX5_go_36 rfl ?_
      refine aw_callVdv C (As := [.int (nI (ix k))]) (c_X5_goes l D cI cC adK adV y T (kr, ar, ik, F, f, n, tk, bg, en, vl, s1, s2, s3, cr) (ix k) ho (by omega)) k4_167 cv_X5_goes 0 4 rfl rfl rfl [0, 1, 2, 3, 4, 5, 6, 7, 8, 9, 10, 11, 12] (by decide) rfl (wr := ([] : va_W)) [] rfl (by decide) (by decide) [0, 1, 2, 3, 4, 5, 6, 7, 8, 9, 10, 11, 12] (by decide) (ws' := wMo cI cC y (rowOf (tDays (ix k) T)) (kr, ar, ik, F, f, n, tk, bg, en, vl, s1, s2, s3, cr)) rfl ⟨by decide, by decide⟩ rfl rfl ⟨by decide, by decide⟩ rfl rfl (Nat.le_of_ble_eq_true rfl) dX5_go_37 ?_
      refine aw_aload_n C dX5_go_40 rfl ?_
      refine aw_getf C 0 4 0 18 inX5 rfl (by decide) rfl k3_234 rfl rfl dX5_go_41 ?_
      refine aw_iconst C (3 : Int32) dX5_go_44 (by decide) ?_
      refine aw_pc 45 rfl ?_
      refine aw_ialdN C 1 0 3 rfl rfl rfl (by decide) (by decide) dX5_go_45 ?_
      refine aw_top (y := ((tDays (ix k) T).2.1 3)) rfl ?_
      have hm : m_go (T, K, ik, F, f, n, s1, s2, s3) k = (((tDays (ix k) T).2.1 3), ((tDays (ix k) T), K, ik, F, f, n, s1, s2, s3)) := by simp only [m_go, c_7, c_26, c9, decide_true, decide_false, Bool.not_true, Bool.not_false, Bool.true_and, Bool.false_and, Bool.and_true, Bool.and_false, Bool.true_or, Bool.false_or, Bool.or_true, Bool.or_false, cond_true, cond_false, eq_self, if_true, if_false, ite_true, ite_false] <;> rfl
      exact aw_iret C hr hlk dX5_go_46 ⟨ri (by rw [hm]), kr, ar, tk, bg, en, vl, cr, by first | (rw [hm]; done) | (rw [hm]; rfl), by rw [hm]; exact hk⟩
    · skip
      have c9 : 99999 - T.2.1 0 < k := gd.mpr (by rw [ek]; exact c_26)
      refine aw_aload_n C dX5_go_29 rfl ?_
      refine aw_iconst C (4 : Int32) dX5_go_30 (by decide) ?_
      refine aw_callVd C (As := [.int (4 : Int32)]) (c_X5_no l D cI cC adK adV y T (kr, ar, ik, F, f, n, tk, bg, en, vl, s1, s2, s3, cr) 4 (by decide)) k4_60 cv_X5_no 0 4 rfl rfl rfl [0, 1, 2, 3, 4, 5, 6, 7, 8, 9, 10, 11, 12] (by decide) rfl (wr := ([] : va_W)) [] rfl (by decide) (by decide) [0, 1, 2, 3, 4, 5, 6, 7, 8, 9, 10, 11, 12] (by decide) (ws' := wMo cI cC y (rowOf T) (kr, ar, ik, (upd F 4 (F 4 + 1)), f, n, tk, bg, en, vl, s1, s2, s3, cr)) rfl ⟨by decide, by decide⟩ rfl rfl ⟨by decide, by decide⟩ rfl rfl (Nat.le_of_ble_eq_true rfl) dX5_go_31 ?_
      have hm : m_go (T, K, ik, F, f, n, s1, s2, s3) k = ((fno 4), (T, K, ik, (upd F 4 (F 4 + 1)), f, n, s1, s2, s3)) := by simp only [m_go, c_7, c_26, c9, decide_true, decide_false, Bool.not_true, Bool.not_false, Bool.true_and, Bool.false_and, Bool.and_true, Bool.and_false, Bool.true_or, Bool.false_or, Bool.or_true, Bool.or_false, cond_true, cond_false, eq_self, if_true, if_false, ite_true, ite_false] <;> rfl
      exact aw_iret C hr hlk dX5_go_34 ⟨ri (by rw [hm]), kr, ar, tk, bg, en, vl, cr, by first | (rw [hm]; done) | (rw [hm]; rfl), by rw [hm]; exact hk⟩
  · skip
    refine aw_aload_n C dX5_go_10 rfl ?_
    refine aw_iconst C (0 : Int32) dX5_go_11 (by decide) ?_
    refine aw_callVd C (As := [.int (0 : Int32)]) (c_X5_no l D cI cC adK adV y T (kr, ar, ik, F, f, n, tk, bg, en, vl, s1, s2, s3, cr) 0 (by decide)) k4_60 cv_X5_no 0 4 rfl rfl rfl [0, 1, 2, 3, 4, 5, 6, 7, 8, 9, 10, 11, 12] (by decide) rfl (wr := ([] : va_W)) [] rfl (by decide) (by decide) [0, 1, 2, 3, 4, 5, 6, 7, 8, 9, 10, 11, 12] (by decide) (ws' := wMo cI cC y (rowOf T) (kr, ar, ik, (upd F 0 (F 0 + 1)), f, n, tk, bg, en, vl, s1, s2, s3, cr)) rfl ⟨by decide, by decide⟩ rfl rfl ⟨by decide, by decide⟩ rfl rfl (Nat.le_of_ble_eq_true rfl) dX5_go_12 ?_
    have hm : m_go (T, K, ik, F, f, n, s1, s2, s3) k = ((fno 0), (T, K, ik, (upd F 0 (F 0 + 1)), f, n, s1, s2, s3)) := by simp only [m_go, c_7, decide_true, decide_false, Bool.not_true, Bool.not_false, Bool.true_and, Bool.false_and, Bool.and_true, Bool.and_false, Bool.true_or, Bool.false_or, Bool.or_true, Bool.or_false, cond_true, cond_false, eq_self, if_true, if_false, ite_true, ite_false] <;> rfl
    exact aw_iret C hr hlk dX5_go_15 ⟨ri (by rw [hm]), kr, ar, tk, bg, en, vl, cr, by first | (rw [hm]; done) | (rw [hm]; rfl), by rw [hm]; exact hk⟩
abbrev r_X5_minds : Room := { frames := 2, cells := 0, slots := 0, locals := 45 }
theorem cv_X5_minds : cV yX5_minds cX5_minds 3 (some .int) 2 := ⟨k4_120, k4_121, k4_122, k1_6, by decide, by decide, by decide +kernel⟩
set_option maxHeartbeats 4000000 in
set_option maxRecDepth 100000 in
theorem c_X5_minds (l : Launch) (D : va_G) (cI cC : ClassId) (adK adV : Nat → Nat) (y : Nat → Nat) (T K : Tw) (ik : Bool) (F f : Nat → Int32) (n : Nat) (s1 s2 s3 kr ar : Nat → Int32) (tk : Int32) (bg en : Nat) (vl : Int64) (cr : Nat → Int32) (hk : ik = true → kr = rowOf K) (ho : gOk T) (u : Int32) (g : Int32) : FC l yX5_minds (wW yX5_minds cX5_minds 3 (some .int)) r_X5_minds D (tyC cI cC) adK adV (wMo cI cC y (rowOf T) (kr, ar, ik, F, f, n, tk, bg, en, vl, s1, s2, s3, cr)) [.ref (y 0), .int u, .int g] 0 0 (pMo cI cC y (m_minds (T, K, ik, F, f, n, s1, s2, s3) u g)) := by
  refine FC.of (own := RX5) (by decide) rfl (Nat.le_of_ble_eq_true rfl) ?_
  intro p9 e9 s9 m9 args9 below9 meth9 c9 A9 C hr hlk hmn
  show AW p9 l e9 r_X5_minds s9 m9 args9 below9 meth9 c9 D A9 3 0 0 _ 0 [(0, .ref (y 0)), (1, .int u), (2, .int g)] [] _
  have hn := ho.n
  refine aw_aload_n C dX5_minds_0 rfl ?_
  refine aw_iload_n C dX5_minds_1 rfl ?_
  refine aw_callVp C (As := [.int u]) (c_X5_isPerson l D cI cC adK adV y T (kr, ar, ik, F, f, n, tk, bg, en, vl, s1, s2, s3, cr) u hn) k4_77 cv_X5_isPerson 0 4 rfl rfl rfl [0, 1, 2, 3, 4, 5, 6, 7, 8, 9, 10, 11, 12] (by decide) rfl ⟨by decide, by decide⟩ rfl rfl ⟨by decide, by decide⟩ rfl rfl (Nat.le_of_ble_eq_true rfl) dX5_minds_2 ?_
  refine aw_ifeq_b C 15 dX5_minds_5 (by decide) (fun c_5 => ?_) (fun c_5 => ?_)
  · skip
    refine aw_aload_n C dX5_minds_15 rfl ?_
    refine aw_iconst C (0 : Int32) dX5_minds_16 (by decide) ?_
    refine aw_callVd C (As := [.int (0 : Int32)]) (c_X5_no l D cI cC adK adV y T (kr, ar, ik, F, f, n, tk, bg, en, vl, s1, s2, s3, cr) 0 (by decide)) k4_60 cv_X5_no 0 4 rfl rfl rfl [0, 1, 2, 3, 4, 5, 6, 7, 8, 9, 10, 11, 12] (by decide) rfl (wr := ([] : va_W)) [] rfl (by decide) (by decide) [0, 1, 2, 3, 4, 5, 6, 7, 8, 9, 10, 11, 12] (by decide) (ws' := wMo cI cC y (rowOf T) (kr, ar, ik, (upd F 0 (F 0 + 1)), f, n, tk, bg, en, vl, s1, s2, s3, cr)) rfl ⟨by decide, by decide⟩ rfl rfl ⟨by decide, by decide⟩ rfl rfl (Nat.le_of_ble_eq_true rfl) dX5_minds_17 ?_
    refine aw_goto C 37 dX5_minds_20 (by decide) ?_
    have hm : m_minds (T, K, ik, F, f, n, s1, s2, s3) u g = ((fno 0), (T, K, ik, (upd F 0 (F 0 + 1)), f, n, s1, s2, s3)) := by simp only [m_minds, c_5, decide_true, decide_false, Bool.not_true, Bool.not_false, Bool.true_and, Bool.false_and, Bool.and_true, Bool.and_false, Bool.true_or, Bool.false_or, Bool.or_true, Bool.or_false, cond_true, cond_false, eq_self, if_true, if_false, ite_true, ite_false] <;> rfl
    exact aw_iret C hr hlk dX5_minds_37 ⟨ri (by rw [hm]), kr, ar, tk, bg, en, vl, cr, by first | (rw [hm]; done) | (rw [hm]; rfl), by rw [hm]; exact hk⟩
  · skip
    refine aw_pc 8 rfl ?_
    refine aw_iload_n C dX5_minds_8 rfl ?_
    refine aw_callSp C (As := [.int g]) (c_X5_isGuise l D cI cC adK adV g) k4_116 cs_X5_isGuise [] (by decide) rfl ⟨by decide, by decide⟩ rfl rfl ⟨by decide, by decide⟩ rfl rfl (Nat.le_of_ble_eq_true rfl) dX5_minds_9 ?_
    refine aw_ifne_b C 23 dX5_minds_12 (by decide) (fun c_12 => ?_) (fun c_12 => ?_)
    · skip
      have l1 := there_lt hn c_5
      have e1 : u = nI (ix u) := there_ix c_5
      refine aw_eq (lv' := [(0, .ref (y 0)), (1, .int (nI (ix u))), (2, .int g)]) (ws' := wMo cI cC y (rowOf T) (kr, ar, ik, F, f, n, tk, bg, en, vl, s1, s2, s3, cr)) (by rw [← e1]) rfl rfl ?_
      refine aw_aload_n C dX5_minds_23 rfl ?_
      refine aw_iload_n C dX5_minds_24 rfl ?_
      refine aw_iload_n C dX5_minds_25 rfl ?_
      refine aw_callVp C (As := [.int (nI (ix u)), .int g]) (c_X5_mindsOf l D cI cC adK adV y T (kr, ar, ik, F, f, n, tk, bg, en, vl, s1, s2, s3, cr) (ix u) g (by omega)) k4_123 cv_X5_mindsOf 0 4 rfl rfl rfl [0, 1, 2, 3, 4, 5, 6, 7, 8, 9, 10, 11, 12] (by decide) rfl ⟨by decide, by decide⟩ rfl rfl ⟨by decide, by decide⟩ rfl rfl (Nat.le_of_ble_eq_true rfl) dX5_minds_26 ?_
      refine aw_ifeq_b C 36 dX5_minds_29 (by decide) (fun c_29 => ?_) (fun c_29 => ?_)
      · skip
        refine aw_iconst C (0 : Int32) dX5_minds_36 (by decide) ?_
        have hm : m_minds (T, K, ik, F, f, n, s1, s2, s3) u g = ((0 : Int32), (T, K, ik, F, f, n, s1, s2, s3)) := by simp only [m_minds, c_5, c_12, c_29, decide_true, decide_false, Bool.not_true, Bool.not_false, Bool.true_and, Bool.false_and, Bool.and_true, Bool.and_false, Bool.true_or, Bool.false_or, Bool.or_true, Bool.or_false, cond_true, cond_false, eq_self, if_true, if_false, ite_true, ite_false] <;> rfl
        exact aw_iret C hr hlk dX5_minds_37 ⟨ri (by rw [hm]), kr, ar, tk, bg, en, vl, cr, by first | (rw [hm]; done) | (rw [hm]; rfl), by rw [hm]; exact hk⟩
      · skip
        refine aw_pc 32 rfl ?_
        refine aw_iconst C (1 : Int32) dX5_minds_32 (by decide) ?_
        refine aw_goto C 37 dX5_minds_33 (by decide) ?_
        have hm : m_minds (T, K, ik, F, f, n, s1, s2, s3) u g = ((1 : Int32), (T, K, ik, F, f, n, s1, s2, s3)) := by simp only [m_minds, c_5, c_12, c_29, decide_true, decide_false, Bool.not_true, Bool.not_false, Bool.true_and, Bool.false_and, Bool.and_true, Bool.and_false, Bool.true_or, Bool.false_or, Bool.or_true, Bool.or_false, cond_true, cond_false, eq_self, if_true, if_false, ite_true, ite_false] <;> rfl
        exact aw_iret C hr hlk dX5_minds_37 ⟨ri (by rw [hm]), kr, ar, tk, bg, en, vl, cr, by first | (rw [hm]; done) | (rw [hm]; rfl), by rw [hm]; exact hk⟩
    · skip
      refine aw_aload_n C dX5_minds_15 rfl ?_
      refine aw_iconst C (0 : Int32) dX5_minds_16 (by decide) ?_
      refine aw_callVd C (As := [.int (0 : Int32)]) (c_X5_no l D cI cC adK adV y T (kr, ar, ik, F, f, n, tk, bg, en, vl, s1, s2, s3, cr) 0 (by decide)) k4_60 cv_X5_no 0 4 rfl rfl rfl [0, 1, 2, 3, 4, 5, 6, 7, 8, 9, 10, 11, 12] (by decide) rfl (wr := ([] : va_W)) [] rfl (by decide) (by decide) [0, 1, 2, 3, 4, 5, 6, 7, 8, 9, 10, 11, 12] (by decide) (ws' := wMo cI cC y (rowOf T) (kr, ar, ik, (upd F 0 (F 0 + 1)), f, n, tk, bg, en, vl, s1, s2, s3, cr)) rfl ⟨by decide, by decide⟩ rfl rfl ⟨by decide, by decide⟩ rfl rfl (Nat.le_of_ble_eq_true rfl) dX5_minds_17 ?_
      refine aw_goto C 37 dX5_minds_20 (by decide) ?_
      have hm : m_minds (T, K, ik, F, f, n, s1, s2, s3) u g = ((fno 0), (T, K, ik, (upd F 0 (F 0 + 1)), f, n, s1, s2, s3)) := by simp only [m_minds, c_5, c_12, decide_true, decide_false, Bool.not_true, Bool.not_false, Bool.true_and, Bool.false_and, Bool.and_true, Bool.and_false, Bool.true_or, Bool.false_or, Bool.or_true, Bool.or_false, cond_true, cond_false, eq_self, if_true, if_false, ite_true, ite_false] <;> rfl
      exact aw_iret C hr hlk dX5_minds_37 ⟨ri (by rw [hm]), kr, ar, tk, bg, en, vl, cr, by first | (rw [hm]; done) | (rw [hm]; rfl), by rw [hm]; exact hk⟩
abbrev r_X5_of : Room := { frames := 2, cells := 0, slots := 0, locals := 44 }
theorem cv_X5_of : cV yX5_of cX5_of 3 (some .int) 2 := ⟨k4_74, k4_75, k4_76, k1_6, by decide, by decide, by decide +kernel⟩
set_option maxHeartbeats 4000000 in
set_option maxRecDepth 100000 in
theorem c_X5_of (l : Launch) (D : va_G) (cI cC : ClassId) (adK adV : Nat → Nat) (y : Nat → Nat) (T K : Tw) (ik : Bool) (F f : Nat → Int32) (n : Nat) (s1 s2 s3 kr ar : Nat → Int32) (tk : Int32) (bg en : Nat) (vl : Int64) (cr : Nat → Int32) (hk : ik = true → kr = rowOf K) (ho : gOk T) (u : Int32) (w : Int32) : FC l yX5_of (wW yX5_of cX5_of 3 (some .int)) r_X5_of D (tyC cI cC) adK adV (wMo cI cC y (rowOf T) (kr, ar, ik, F, f, n, tk, bg, en, vl, s1, s2, s3, cr)) [.ref (y 0), .int u, .int w] 0 0 (pMo cI cC y (m_of (T, K, ik, F, f, n, s1, s2, s3) u w)) := by
  refine FC.of (own := RX5) (by decide) rfl (Nat.le_of_ble_eq_true rfl) ?_
  intro p9 e9 s9 m9 args9 below9 meth9 c9 A9 C hr hlk hmn
  show AW p9 l e9 r_X5_of s9 m9 args9 below9 meth9 c9 D A9 3 0 0 _ 0 [(0, .ref (y 0)), (1, .int u), (2, .int w)] [] _
  have hn := ho.n
  refine aw_aload_n C dX5_of_0 rfl ?_
  refine aw_iload_n C dX5_of_1 rfl ?_
  refine aw_callVp C (As := [.int u]) (c_X5_isPerson l D cI cC adK adV y T (kr, ar, ik, F, f, n, tk, bg, en, vl, s1, s2, s3, cr) u hn) k4_77 cv_X5_isPerson 0 4 rfl rfl rfl [0, 1, 2, 3, 4, 5, 6, 7, 8, 9, 10, 11, 12] (by decide) rfl ⟨by decide, by decide⟩ rfl rfl ⟨by decide, by decide⟩ rfl rfl (Nat.le_of_ble_eq_true rfl) dX5_of_2 ?_
  refine aw_ifeq_b C 18 dX5_of_5 (by decide) (fun c_5 => ?_) (fun c_5 => ?_)
  · skip
    refine aw_aload_n C dX5_of_18 rfl ?_
    refine aw_iconst C (0 : Int32) dX5_of_19 (by decide) ?_
    refine aw_callVd C (As := [.int (0 : Int32)]) (c_X5_no l D cI cC adK adV y T (kr, ar, ik, F, f, n, tk, bg, en, vl, s1, s2, s3, cr) 0 (by decide)) k4_60 cv_X5_no 0 4 rfl rfl rfl [0, 1, 2, 3, 4, 5, 6, 7, 8, 9, 10, 11, 12] (by decide) rfl (wr := ([] : va_W)) [] rfl (by decide) (by decide) [0, 1, 2, 3, 4, 5, 6, 7, 8, 9, 10, 11, 12] (by decide) (ws' := wMo cI cC y (rowOf T) (kr, ar, ik, (upd F 0 (F 0 + 1)), f, n, tk, bg, en, vl, s1, s2, s3, cr)) rfl ⟨by decide, by decide⟩ rfl rfl ⟨by decide, by decide⟩ rfl rfl (Nat.le_of_ble_eq_true rfl) dX5_of_20 ?_
    have hm : m_of (T, K, ik, F, f, n, s1, s2, s3) u w = ((fno 0), (T, K, ik, (upd F 0 (F 0 + 1)), f, n, s1, s2, s3)) := by simp only [m_of, c_5, decide_true, decide_false, Bool.not_true, Bool.not_false, Bool.true_and, Bool.false_and, Bool.and_true, Bool.and_false, Bool.true_or, Bool.false_or, Bool.or_true, Bool.or_false, cond_true, cond_false, eq_self, if_true, if_false, ite_true, ite_false] <;> rfl
    exact aw_iret C hr hlk dX5_of_23 ⟨ri (by rw [hm]), kr, ar, tk, bg, en, vl, cr, by first | (rw [hm]; done) | (rw [hm]; rfl), by rw [hm]; exact hk⟩
  · skip
    refine aw_iload_n C dX5_of_8 rfl ?_
    refine aw_pc 9 rfl ?_
    refine aw_iconst C (0 : Int32) dX5_of_9 (by decide) ?_
    refine aw_bipush C (10 : Int32) dX5_of_10 (by decide) ?_
    refine aw_callSp C (As := [.int w, .int (0 : Int32), .int (10 : Int32)]) (c_X5_in1 l D cI cC adK adV w (0 : Int32) (10 : Int32)) k4_54 cs_X5_in1 [] (by decide) rfl ⟨by decide, by decide⟩ rfl rfl ⟨by decide, by decide⟩ rfl rfl (Nat.le_of_ble_eq_true rfl) dX5_of_12 ?_
    refine aw_top (y := b2 (in0 w 11)) (by exact congrArg b2 (inL_in0 w (n := 11) (by decide) (by decide))) ?_
    refine aw_ifne_b C 24 dX5_of_15 (by decide) (fun c_15 => ?_) (fun c_15 => ?_)
    · skip
      have l1 := there_lt hn c_5
      have e1 : u = nI (ix u) := there_ix c_5
      refine aw_eq (lv' := [(0, .ref (y 0)), (1, .int (nI (ix u))), (2, .int w)]) (ws' := wMo cI cC y (rowOf T) (kr, ar, ik, F, f, n, tk, bg, en, vl, s1, s2, s3, cr)) (by rw [← e1]) rfl rfl ?_
      refine aw_iload_n C dX5_of_24 rfl ?_
      by_cases s_25_7 : w = (7 : Int32)
      · skip
        refine aw_tabIn C (7) 56 dX5_of_25 (by rw [s_25_7]; rfl) (by decide) (by decide) rfl (by decide) ?_
        refine aw_aload_n C dX5_of_56 rfl ?_
        refine aw_iload_n C dX5_of_57 rfl ?_
        refine aw_callVp C (As := [.int (nI (ix u))]) (c_X5_walksOf l D cI cC adK adV y T (kr, ar, ik, F, f, n, tk, bg, en, vl, s1, s2, s3, cr) (ix u) (by omega)) k4_81 cv_X5_walksOf 0 4 rfl rfl rfl [0, 1, 2, 3, 4, 5, 6, 7, 8, 9, 10, 11, 12] (by decide) rfl ⟨by decide, by decide⟩ rfl rfl ⟨by decide, by decide⟩ rfl rfl (Nat.le_of_ble_eq_true rfl) dX5_of_58 ?_
        have hm : m_of (T, K, ik, F, f, n, s1, s2, s3) u w = ((mWalk (T.2.2.1 0 (ix u)) (T.2.1 0)), (T, K, ik, F, f, n, s1, s2, s3)) := by simp only [m_of, c_5, c_15, decide_true, decide_false, Bool.not_true, Bool.not_false, Bool.true_and, Bool.false_and, Bool.and_true, Bool.and_false, Bool.true_or, Bool.false_or, Bool.or_true, Bool.or_false, cond_true, cond_false, eq_self, if_true, if_false, ite_true, ite_false]; rw [s_25_7]; rfl
        exact aw_iret C hr hlk dX5_of_61 ⟨ri (by rw [hm]), kr, ar, tk, bg, en, vl, cr, by first | (rw [hm]; done) | (rw [hm]; rfl), by rw [hm]; exact hk⟩
      by_cases s_25_8 : w = (8 : Int32)
      · skip
        refine aw_tabIn C (8) 62 dX5_of_25 (by rw [s_25_8]; rfl) (by decide) (by decide) rfl (by decide) ?_
        refine aw_pc 62 rfl ?_
        refine aw_aload_n C dX5_of_62 rfl ?_
        refine aw_iload_n C dX5_of_63 rfl ?_
        refine aw_callVp C (As := [.int (nI (ix u))]) (c_X5_shiftsOf l D cI cC adK adV y T (kr, ar, ik, F, f, n, tk, bg, en, vl, s1, s2, s3, cr) (ix u) (by omega)) k4_93 cv_X5_shiftsOf 0 4 rfl rfl rfl [0, 1, 2, 3, 4, 5, 6, 7, 8, 9, 10, 11, 12] (by decide) rfl ⟨by decide, by decide⟩ rfl rfl ⟨by decide, by decide⟩ rfl rfl (Nat.le_of_ble_eq_true rfl) dX5_of_64 ?_
        have hm : m_of (T, K, ik, F, f, n, s1, s2, s3) u w = ((mShift (T.2.2.1 0 (ix u)) (T.2.1 0)), (T, K, ik, F, f, n, s1, s2, s3)) := by simp only [m_of, c_5, c_15, decide_true, decide_false, Bool.not_true, Bool.not_false, Bool.true_and, Bool.false_and, Bool.and_true, Bool.and_false, Bool.true_or, Bool.false_or, Bool.or_true, Bool.or_false, cond_true, cond_false, eq_self, if_true, if_false, ite_true, ite_false]; rw [s_25_8]; rfl
        exact aw_iret C hr hlk dX5_of_67 ⟨ri (by rw [hm]), kr, ar, tk, bg, en, vl, cr, by first | (rw [hm]; done) | (rw [hm]; rfl), by rw [hm]; exact hk⟩
      by_cases s_25_9 : w = (9 : Int32)
      · skip
        refine aw_tabIn C (9) 68 dX5_of_25 (by rw [s_25_9]; rfl) (by decide) (by decide) rfl (by decide) ?_
        refine aw_aload_n C dX5_of_68 rfl ?_
        refine aw_iload_n C dX5_of_69 rfl ?_
        refine aw_callVp C (As := [.int (nI (ix u))]) (c_X5_shinesOf l D cI cC adK adV y T (kr, ar, ik, F, f, n, tk, bg, en, vl, s1, s2, s3, cr) (ix u) (by omega) ho) k4_97 cv_X5_shinesOf 0 4 rfl rfl rfl [0, 1, 2, 3, 4, 5, 6, 7, 8, 9, 10, 11, 12] (by decide) rfl ⟨by decide, by decide⟩ rfl rfl ⟨by decide, by decide⟩ rfl rfl (Nat.le_of_ble_eq_true rfl) dX5_of_70 ?_
        have hm : m_of (T, K, ik, F, f, n, s1, s2, s3) u w = ((mShine (T.2.2.1 0 (ix u))), (T, K, ik, F, f, n, s1, s2, s3)) := by simp only [m_of, c_5, c_15, decide_true, decide_false, Bool.not_true, Bool.not_false, Bool.true_and, Bool.false_and, Bool.and_true, Bool.and_false, Bool.true_or, Bool.false_or, Bool.or_true, Bool.or_false, cond_true, cond_false, eq_self, if_true, if_false, ite_true, ite_false]; rw [s_25_9]; rfl
        exact aw_iret C hr hlk dX5_of_73 ⟨ri (by rw [hm]), kr, ar, tk, bg, en, vl, cr, by first | (rw [hm]; done) | (rw [hm]; rfl), by rw [hm]; exact hk⟩
      by_cases s_25_10 : w = (10 : Int32)
      · skip
        refine aw_tabIn C (10) 74 dX5_of_25 (by rw [s_25_10]; rfl) (by decide) (by decide) rfl (by decide) ?_
        refine aw_aload_n C dX5_of_74 rfl ?_
        refine aw_iload_n C dX5_of_75 rfl ?_
        refine aw_pc 76 rfl ?_
        refine aw_callVp C (As := [.int (nI (ix u))]) (c_X5_gladdensOf l D cI cC adK adV y T (kr, ar, ik, F, f, n, tk, bg, en, vl, s1, s2, s3, cr) (ix u) (by omega) ho) k4_101 cv_X5_gladdensOf 0 4 rfl rfl rfl [0, 1, 2, 3, 4, 5, 6, 7, 8, 9, 10, 11, 12] (by decide) rfl ⟨by decide, by decide⟩ rfl rfl ⟨by decide, by decide⟩ rfl rfl (Nat.le_of_ble_eq_true rfl) dX5_of_76 ?_
        have hm : m_of (T, K, ik, F, f, n, s1, s2, s3) u w = ((tGlad T (ix u)), (T, K, ik, F, f, n, s1, s2, s3)) := by simp only [m_of, c_5, c_15, decide_true, decide_false, Bool.not_true, Bool.not_false, Bool.true_and, Bool.false_and, Bool.and_true, Bool.and_false, Bool.true_or, Bool.false_or, Bool.or_true, Bool.or_false, cond_true, cond_false, eq_self, if_true, if_false, ite_true, ite_false]; rw [s_25_10]; rfl
        exact aw_iret C hr hlk dX5_of_79 ⟨ri (by rw [hm]), kr, ar, tk, bg, en, vl, cr, by first | (rw [hm]; done) | (rw [hm]; rfl), by rw [hm]; exact hk⟩
      refine aw_tabOut C 80 dX5_of_25 (by have q0 := ne_toInt s_25_7 (z := 7) rfl; have q1 := ne_toInt s_25_8 (z := 8) rfl; have q2 := ne_toInt s_25_9 (z := 9) rfl; have q3 := ne_toInt s_25_10 (z := 10) rfl; omega) (by decide) ?_
      obtain ⟨e7, l7⟩ := tell_f c_15 s_25_7 s_25_8 s_25_9 s_25_10
      have e2 : w = nI (ix w) := e7
      refine aw_eq (lv' := [(0, .ref (y 0)), (1, .int (nI (ix u))), (2, .int (nI (ix w)))]) (ws' := wMo cI cC y (rowOf T) (kr, ar, ik, F, f, n, tk, bg, en, vl, s1, s2, s3, cr)) (by rw [← e2]) rfl rfl ?_
      refine aw_aload_n C dX5_of_80 rfl ?_
      refine aw_iload_n C dX5_of_81 rfl ?_
      refine aw_iload_n C dX5_of_82 rfl ?_
      refine aw_callVp C (As := [.int (nI (ix u)), .int (nI (ix w))]) (c_X5_get l D cI cC adK adV y T (kr, ar, ik, F, f, n, tk, bg, en, vl, s1, s2, s3, cr) (ix u) (ix w) (by omega) l7) k4_85 cv_X5_get 0 4 rfl rfl rfl [0, 1, 2, 3, 4, 5, 6, 7, 8, 9, 10, 11, 12] (by decide) rfl ⟨by decide, by decide⟩ rfl rfl ⟨by decide, by decide⟩ rfl rfl (Nat.le_of_ble_eq_true rfl) dX5_of_83 ?_
      have hm : m_of (T, K, ik, F, f, n, s1, s2, s3) u w = ((T.2.2.1 (ix w) (ix u)), (T, K, ik, F, f, n, s1, s2, s3)) := by rw [← trait_nI T (ix u) (ix w) l7, ← e7]; simp only [m_of, c_5, c_15, decide_true, decide_false, Bool.not_true, Bool.not_false, Bool.true_and, Bool.false_and, Bool.and_true, Bool.and_false, Bool.true_or, Bool.false_or, Bool.or_true, Bool.or_false, cond_true, cond_false, eq_self, if_true, if_false, ite_true, ite_false]
      exact aw_iret C hr hlk dX5_of_86 ⟨ri (by rw [hm]), kr, ar, tk, bg, en, vl, cr, by first | (rw [hm]; done) | (rw [hm]; rfl), by rw [hm]; exact hk⟩
    · skip
      refine aw_aload_n C dX5_of_18 rfl ?_
      refine aw_iconst C (0 : Int32) dX5_of_19 (by decide) ?_
      refine aw_pc 20 rfl ?_
      refine aw_callVd C (As := [.int (0 : Int32)]) (c_X5_no l D cI cC adK adV y T (kr, ar, ik, F, f, n, tk, bg, en, vl, s1, s2, s3, cr) 0 (by decide)) k4_60 cv_X5_no 0 4 rfl rfl rfl [0, 1, 2, 3, 4, 5, 6, 7, 8, 9, 10, 11, 12] (by decide) rfl (wr := ([] : va_W)) [] rfl (by decide) (by decide) [0, 1, 2, 3, 4, 5, 6, 7, 8, 9, 10, 11, 12] (by decide) (ws' := wMo cI cC y (rowOf T) (kr, ar, ik, (upd F 0 (F 0 + 1)), f, n, tk, bg, en, vl, s1, s2, s3, cr)) rfl ⟨by decide, by decide⟩ rfl rfl ⟨by decide, by decide⟩ rfl rfl (Nat.le_of_ble_eq_true rfl) dX5_of_20 ?_
      have hm : m_of (T, K, ik, F, f, n, s1, s2, s3) u w = ((fno 0), (T, K, ik, (upd F 0 (F 0 + 1)), f, n, s1, s2, s3)) := by simp only [m_of, c_5, c_15, decide_true, decide_false, Bool.not_true, Bool.not_false, Bool.true_and, Bool.false_and, Bool.and_true, Bool.and_false, Bool.true_or, Bool.false_or, Bool.or_true, Bool.or_false, cond_true, cond_false, eq_self, if_true, if_false, ite_true, ite_false] <;> rfl
      exact aw_iret C hr hlk dX5_of_23 ⟨ri (by rw [hm]), kr, ar, tk, bg, en, vl, cr, by first | (rw [hm]; done) | (rw [hm]; rfl), by rw [hm]; exact hk⟩
abbrev r_X5_ahead : Room := { frames := 7, cells := 0, slots := 0, locals := 157 }
theorem cv_X5_ahead : cV yX5_ahead cX5_ahead 5 (some .int) 3 := ⟨k4_216, k4_217, k4_218, k1_6, by decide, by decide, by decide +kernel⟩
set_option maxHeartbeats 4000000 in
set_option maxRecDepth 100000 in
theorem c_X5_ahead (l : Launch) (D : va_G) (cI cC : ClassId) (adK adV : Nat → Nat) (y : Nat → Nat) (T K : Tw) (ik : Bool) (F f : Nat → Int32) (n : Nat) (s1 s2 s3 kr ar : Nat → Int32) (tk : Int32) (bg en : Nat) (vl : Int64) (cr : Nat → Int32) (hk : ik = true → kr = rowOf K) (ho : gOk T) (u : Int32) (w : Int32) (k : Int32) : FC l yX5_ahead (wW yX5_ahead cX5_ahead 5 (some .int)) r_X5_ahead D (tyC cI cC) adK adV (wMo cI cC y (rowOf T) (kr, ar, ik, F, f, n, tk, bg, en, vl, s1, s2, s3, cr)) [.ref (y 0), .int u, .int w, .int k] 0 0 (pMo cI cC y (m_ahead (T, K, ik, F, f, n, s1, s2, s3) u w k)) := by
  refine FC.of (own := RX5) (by decide) rfl (Nat.le_of_ble_eq_true rfl) ?_
  intro p9 e9 s9 m9 args9 below9 meth9 c9 A9 C hr hlk hmn
  show AW p9 l e9 r_X5_ahead s9 m9 args9 below9 meth9 c9 D A9 5 0 0 _ 0 [(0, .ref (y 0)), (1, .int u), (2, .int w), (3, .int k)] [] _
  have hn := ho.n
  refine aw_iload_n C dX5_ahead_0 rfl ?_
  refine aw_iconst C (1 : Int32) dX5_ahead_1 (by decide) ?_
  refine aw_iconst C (4 : Int32) dX5_ahead_2 (by decide) ?_
  refine aw_callSp C (As := [.int w, .int (1 : Int32), .int (4 : Int32)]) (c_X5_in1 l D cI cC adK adV w (1 : Int32) (4 : Int32)) k4_54 cs_X5_in1 [] (by decide) rfl ⟨by decide, by decide⟩ rfl rfl ⟨by decide, by decide⟩ rfl rfl (Nat.le_of_ble_eq_true rfl) dX5_ahead_3 ?_
  refine aw_top (y := b2 (!decide (w < (1 : Int32)) && decide (w ≤ (4 : Int32)))) (by exact congrArg b2 (inL_le _ _ _)) ?_
  refine aw_ifne_b C 15 dX5_ahead_6 (by decide) (fun c_6 => ?_) (fun c_6 => ?_)
  · skip
    refine aw_iconst C (1 : Int32) dX5_ahead_15 (by decide) ?_
    refine aw_goto C 20 dX5_ahead_16 (by decide) ?_
    refine aw_istore C true (lv' := [(0, .ref (y 0)), (1, .int u), (2, .int w), (3, .int k), (4, .int (1 : Int32))]) dX5_ahead_20 (by decide) rfl rfl ?_
    refine aw_aload_n C dX5_ahead_22 rfl ?_
    refine aw_pc 23 rfl ?_
    refine aw_iload_n C dX5_ahead_23 rfl ?_
    refine aw_callVp C (As := [.int u]) (c_X5_isPerson l D cI cC adK adV y T (kr, ar, ik, F, f, n, tk, bg, en, vl, s1, s2, s3, cr) u hn) k4_77 cv_X5_isPerson 0 4 rfl rfl rfl [0, 1, 2, 3, 4, 5, 6, 7, 8, 9, 10, 11, 12] (by decide) rfl ⟨by decide, by decide⟩ rfl rfl ⟨by decide, by decide⟩ rfl rfl (Nat.le_of_ble_eq_true rfl) dX5_ahead_24 ?_
    refine aw_ifeq_b C 61 dX5_ahead_27 (by decide) (fun c_27 => ?_) (fun c_27 => ?_)
    · skip
      refine aw_aload_n C dX5_ahead_61 rfl ?_
      refine aw_iconst C (0 : Int32) dX5_ahead_62 (by decide) ?_
      refine aw_callVd C (As := [.int (0 : Int32)]) (c_X5_no l D cI cC adK adV y T (kr, ar, ik, F, f, n, tk, bg, en, vl, s1, s2, s3, cr) 0 (by decide)) k4_60 cv_X5_no 0 4 rfl rfl rfl [0, 1, 2, 3, 4, 5, 6, 7, 8, 9, 10, 11, 12] (by decide) rfl (wr := ([] : va_W)) [] rfl (by decide) (by decide) [0, 1, 2, 3, 4, 5, 6, 7, 8, 9, 10, 11, 12] (by decide) (ws' := wMo cI cC y (rowOf T) (kr, ar, ik, (upd F 0 (F 0 + 1)), f, n, tk, bg, en, vl, s1, s2, s3, cr)) rfl ⟨by decide, by decide⟩ rfl rfl ⟨by decide, by decide⟩ rfl rfl (Nat.le_of_ble_eq_true rfl) dX5_ahead_63 ?_
      have hm : m_ahead (T, K, ik, F, f, n, s1, s2, s3) u w k = ((fno 0), (T, K, ik, (upd F 0 (F 0 + 1)), f, n, s1, s2, s3)) := by first | (rw [rt]; simp only [m_ahead, c_27, c_42, t1, decide_true, decide_false, Bool.not_true, Bool.not_false, Bool.true_and, Bool.false_and, Bool.and_true, Bool.and_false, Bool.true_or, Bool.false_or, Bool.or_true, Bool.or_false, cond_true, cond_false, eq_self, if_true, if_false, ite_true, ite_false]; done) | (have t0 : mTold w = false := told_n (by assumption) (by assumption); simp only [m_ahead, c_6, c_27, t0, decide_true, decide_false, Bool.not_true, Bool.not_false, Bool.true_and, Bool.false_and, Bool.and_true, Bool.and_false, Bool.true_or, Bool.false_or, Bool.or_true, Bool.or_false, cond_true, cond_false, eq_self, if_true, if_false, ite_true, ite_false] <;> rfl) | (have t1 : mTold w = true := by {first | exact (told_a (by assumption)).1 | exact (told_b (by assumption)).1}; simp only [m_ahead, c_6, c_27, t1, decide_true, decide_false, Bool.not_true, Bool.not_false, Bool.true_and, Bool.false_and, Bool.and_true, Bool.and_false, Bool.true_or, Bool.false_or, Bool.or_true, Bool.or_false, cond_true, cond_false, eq_self, if_true, if_false, ite_true, ite_false] <;> first | rfl | (rw [rt]; done) | (rw [rt]; rfl)) | (simp only [m_ahead, c_6, c_27, decide_true, decide_false, Bool.not_true, Bool.not_false, Bool.true_and, Bool.false_and, Bool.and_true, Bool.and_false, Bool.true_or, Bool.false_or, Bool.or_true, Bool.or_false, cond_true, cond_false, eq_self, if_true, if_false, ite_true, ite_false] <;> rfl)
      exact aw_iret C hr hlk dX5_ahead_66 ⟨ri (by rw [hm]), kr, ar, tk, bg, en, vl, cr, by first | (rw [hm]; done) | (rw [hm]; rfl), by rw [hm]; exact hk⟩
    · skip
      refine aw_iload C dX5_ahead_30 rfl ?_
      refine aw_if_eq C 61 dX5_ahead_32 (by decide) (fun c_32 => absurd c_32 (by decide)) (fun c_32 => ?_)
      refine aw_iload_n C dX5_ahead_35 rfl ?_
      refine aw_pc 36 rfl ?_
      refine aw_iconst C (0 : Int32) dX5_ahead_36 (by decide) ?_
      refine aw_bipush C (100 : Int32) dX5_ahead_37 (by decide) ?_
      refine aw_callSp C (As := [.int k, .int (0 : Int32), .int (100 : Int32)]) (c_X5_in1 l D cI cC adK adV k (0 : Int32) (100 : Int32)) k4_54 cs_X5_in1 [] (by decide) rfl ⟨by decide, by decide⟩ rfl rfl ⟨by decide, by decide⟩ rfl rfl (Nat.le_of_ble_eq_true rfl) dX5_ahead_39 ?_
      refine aw_top (y := b2 (!decide (k < (0 : Int32)) && decide (k ≤ (100 : Int32)))) (by exact congrArg b2 (inL_le _ _ _)) ?_
      refine aw_ifeq_b C 61 dX5_ahead_42 (by decide) (fun c_42 => ?_) (fun c_42 => ?_)
      · skip
        refine aw_aload_n C dX5_ahead_61 rfl ?_
        refine aw_iconst C (0 : Int32) dX5_ahead_62 (by decide) ?_
        refine aw_callVd C (As := [.int (0 : Int32)]) (c_X5_no l D cI cC adK adV y T (kr, ar, ik, F, f, n, tk, bg, en, vl, s1, s2, s3, cr) 0 (by decide)) k4_60 cv_X5_no 0 4 rfl rfl rfl [0, 1, 2, 3, 4, 5, 6, 7, 8, 9, 10, 11, 12] (by decide) rfl (wr := ([] : va_W)) [] rfl (by decide) (by decide) [0, 1, 2, 3, 4, 5, 6, 7, 8, 9, 10, 11, 12] (by decide) (ws' := wMo cI cC y (rowOf T) (kr, ar, ik, (upd F 0 (F 0 + 1)), f, n, tk, bg, en, vl, s1, s2, s3, cr)) rfl ⟨by decide, by decide⟩ rfl rfl ⟨by decide, by decide⟩ rfl rfl (Nat.le_of_ble_eq_true rfl) dX5_ahead_63 ?_
        have hm : m_ahead (T, K, ik, F, f, n, s1, s2, s3) u w k = ((fno 0), (T, K, ik, (upd F 0 (F 0 + 1)), f, n, s1, s2, s3)) := by first | (rw [rt]; simp only [m_ahead, c_27, c_42, t1, decide_true, decide_false, Bool.not_true, Bool.not_false, Bool.true_and, Bool.false_and, Bool.and_true, Bool.and_false, Bool.true_or, Bool.false_or, Bool.or_true, Bool.or_false, cond_true, cond_false, eq_self, if_true, if_false, ite_true, ite_false]; done) | (have t0 : mTold w = false := told_n (by assumption) (by assumption); simp only [m_ahead, c_6, c_27, c_42, t0, decide_true, decide_false, Bool.not_true, Bool.not_false, Bool.true_and, Bool.false_and, Bool.and_true, Bool.and_false, Bool.true_or, Bool.false_or, Bool.or_true, Bool.or_false, cond_true, cond_false, eq_self, if_true, if_false, ite_true, ite_false] <;> rfl) | (have t1 : mTold w = true := by {first | exact (told_a (by assumption)).1 | exact (told_b (by assumption)).1}; simp only [m_ahead, c_6, c_27, c_42, t1, decide_true, decide_false, Bool.not_true, Bool.not_false, Bool.true_and, Bool.false_and, Bool.and_true, Bool.and_false, Bool.true_or, Bool.false_or, Bool.or_true, Bool.or_false, cond_true, cond_false, eq_self, if_true, if_false, ite_true, ite_false] <;> first | rfl | (rw [rt]; done) | (rw [rt]; rfl)) | (simp only [m_ahead, c_6, c_27, c_42, decide_true, decide_false, Bool.not_true, Bool.not_false, Bool.true_and, Bool.false_and, Bool.and_true, Bool.and_false, Bool.true_or, Bool.false_or, Bool.or_true, Bool.or_false, cond_true, cond_false, eq_self, if_true, if_false, ite_true, ite_false] <;> rfl)
        exact aw_iret C hr hlk dX5_ahead_66 ⟨ri (by rw [hm]), kr, ar, tk, bg, en, vl, cr, by first | (rw [hm]; done) | (rw [hm]; rfl), by rw [hm]; exact hk⟩
      · skip
        have l1 : ix k ≤ 100 := le_b c_42 (le_0 c_42) (by decide)
        have l2 := there_lt hn c_27
        have tw : mTold w = true ∧ ¬ w < 0 ∧ ix w < 7 := by first | exact told_a c_6 | exact told_b c_12
        obtain ⟨t1, t2, t3⟩ := tw
        have rt := row_told (T := tDays (ix k) T) (u := ix u) (by omega) t2 t3
        have e1 : u = nI (ix u) := there_ix c_27
        refine aw_eq (lv' := [(0, .ref (y 0)), (1, .int (nI (ix u))), (2, .int w), (3, .int k), (4, .int (1 : Int32))]) (ws' := wMo cI cC y (rowOf T) (kr, ar, ik, F, f, n, tk, bg, en, vl, s1, s2, s3, cr)) (by rw [← e1]) rfl rfl ?_
        have e2 : w = nI (ix w) := ix_eq t2
        refine aw_eq (lv' := [(0, .ref (y 0)), (1, .int (nI (ix u))), (2, .int (nI (ix w))), (3, .int k), (4, .int (1 : Int32))]) (ws' := wMo cI cC y (rowOf T) (kr, ar, ik, F, f, n, tk, bg, en, vl, s1, s2, s3, cr)) (by rw [← e2]) rfl rfl ?_
        have e3 : k = nI (ix k) := ix_eq (le_0 c_42)
        refine aw_eq (lv' := [(0, .ref (y 0)), (1, .int (nI (ix u))), (2, .int (nI (ix w))), (3, .int (nI (ix k))), (4, .int (1 : Int32))]) (ws' := wMo cI cC y (rowOf T) (kr, ar, ik, F, f, n, tk, bg, en, vl, s1, s2, s3, cr)) (by rw [← e3]) rfl rfl ?_
        refine aw_aload_n C dX5_ahead_45 rfl ?_
        refine aw_iconst C (4 : Int32) dX5_ahead_46 (by decide) ?_
        refine aw_pc 47 rfl ?_
        refine aw_bipush C (7 : Int32) dX5_ahead_47 (by decide) ?_
        refine aw_iload_n C dX5_ahead_49 rfl ?_
        refine aw_imul C dX5_ahead_50 ?_
        refine aw_iadd C dX5_ahead_51 ?_
        refine aw_iload_n C dX5_ahead_52 rfl ?_
        refine aw_iadd C dX5_ahead_53 ?_
        refine aw_top (y := (nI (4 + 7 * ix u + ix w))) (by exact fld_ix _ _) ?_
        refine aw_iload_n C dX5_ahead_54 rfl ?_
        refine aw_callVd C (As := [.int (nI (4 + 7 * ix u + ix w)), .int (nI (ix k))]) (c_X5_thenAt l D cI cC adK adV y T (kr, ar, ik, F, f, n, tk, bg, en, vl, s1, s2, s3, cr) (4 + 7 * ix u + ix w) (ix k) ho (by omega) (by omega)) k4_219 cv_X5_thenAt 0 4 rfl rfl rfl [0, 1, 2, 3, 4, 5, 6, 7, 8, 9, 10, 11, 12] (by decide) rfl (wr := ([] : va_W)) [] rfl (by decide) (by decide) [0, 1, 2, 3, 4, 5, 6, 7, 8, 9, 10, 11, 12] (by decide) (ws' := wMo cI cC y (rowOf T) (kr, (rowOf T), ik, F, f, n, tk, bg, en, vl, s1, s2, s3, cr)) rfl ⟨by decide, by decide⟩ rfl rfl ⟨by decide, by decide⟩ rfl rfl (Nat.le_of_ble_eq_true rfl) dX5_ahead_55 ?_
        refine aw_goto C 66 dX5_ahead_58 (by decide) ?_
        have hm : m_ahead (T, K, ik, F, f, n, s1, s2, s3) u w k = ((rowOf (tDays (ix k) T) (4 + 7 * ix u + ix w)), (T, K, ik, F, f, n, s1, s2, s3)) := by first | (rw [rt]; simp only [m_ahead, c_27, c_42, t1, decide_true, decide_false, Bool.not_true, Bool.not_false, Bool.true_and, Bool.false_and, Bool.and_true, Bool.and_false, Bool.true_or, Bool.false_or, Bool.or_true, Bool.or_false, cond_true, cond_false, eq_self, if_true, if_false, ite_true, ite_false]; done) | (have t0 : mTold w = false := told_n (by assumption) (by assumption); simp only [m_ahead, c_6, c_27, c_42, t0, decide_true, decide_false, Bool.not_true, Bool.not_false, Bool.true_and, Bool.false_and, Bool.and_true, Bool.and_false, Bool.true_or, Bool.false_or, Bool.or_true, Bool.or_false, cond_true, cond_false, eq_self, if_true, if_false, ite_true, ite_false] <;> rfl) | (have t1 : mTold w = true := by {first | exact (told_a (by assumption)).1 | exact (told_b (by assumption)).1}; simp only [m_ahead, c_6, c_27, c_42, t1, decide_true, decide_false, Bool.not_true, Bool.not_false, Bool.true_and, Bool.false_and, Bool.and_true, Bool.and_false, Bool.true_or, Bool.false_or, Bool.or_true, Bool.or_false, cond_true, cond_false, eq_self, if_true, if_false, ite_true, ite_false] <;> first | rfl | (rw [rt]; done) | (rw [rt]; rfl)) | (simp only [m_ahead, c_6, c_27, c_42, decide_true, decide_false, Bool.not_true, Bool.not_false, Bool.true_and, Bool.false_and, Bool.and_true, Bool.and_false, Bool.true_or, Bool.false_or, Bool.or_true, Bool.or_false, cond_true, cond_false, eq_self, if_true, if_false, ite_true, ite_false] <;> rfl)
        exact aw_iret C hr hlk dX5_ahead_66 ⟨ri (by rw [hm]), kr, (rowOf T), tk, bg, en, vl, cr, by first | (rw [hm]; done) | (rw [hm]; rfl), by rw [hm]; exact hk⟩
  · skip
    refine aw_pc 9 rfl ?_
    refine aw_iload_n C dX5_ahead_9 rfl ?_
    refine aw_bipush C (6 : Int32) dX5_ahead_10 (by decide) ?_
    refine aw_icmp_ne C 19 dX5_ahead_12 (by decide) (fun c_12 => ?_) (fun c_12 => ?_)
    · skip
      refine aw_iconst C (0 : Int32) dX5_ahead_19 (by decide) ?_
      refine aw_istore C true (lv' := [(0, .ref (y 0)), (1, .int u), (2, .int w), (3, .int k), (4, .int (0 : Int32))]) dX5_ahead_20 (by decide) rfl rfl ?_
      refine aw_aload_n C dX5_ahead_22 rfl ?_
      refine aw_iload_n C dX5_ahead_23 rfl ?_
      refine aw_callVp C (As := [.int u]) (c_X5_isPerson l D cI cC adK adV y T (kr, ar, ik, F, f, n, tk, bg, en, vl, s1, s2, s3, cr) u hn) k4_77 cv_X5_isPerson 0 4 rfl rfl rfl [0, 1, 2, 3, 4, 5, 6, 7, 8, 9, 10, 11, 12] (by decide) rfl ⟨by decide, by decide⟩ rfl rfl ⟨by decide, by decide⟩ rfl rfl (Nat.le_of_ble_eq_true rfl) dX5_ahead_24 ?_
      refine aw_ifeq_b C 61 dX5_ahead_27 (by decide) (fun c_27 => ?_) (fun c_27 => ?_)
      · skip
        refine aw_aload_n C dX5_ahead_61 rfl ?_
        refine aw_pc 62 rfl ?_
        refine aw_iconst C (0 : Int32) dX5_ahead_62 (by decide) ?_
        refine aw_callVd C (As := [.int (0 : Int32)]) (c_X5_no l D cI cC adK adV y T (kr, ar, ik, F, f, n, tk, bg, en, vl, s1, s2, s3, cr) 0 (by decide)) k4_60 cv_X5_no 0 4 rfl rfl rfl [0, 1, 2, 3, 4, 5, 6, 7, 8, 9, 10, 11, 12] (by decide) rfl (wr := ([] : va_W)) [] rfl (by decide) (by decide) [0, 1, 2, 3, 4, 5, 6, 7, 8, 9, 10, 11, 12] (by decide) (ws' := wMo cI cC y (rowOf T) (kr, ar, ik, (upd F 0 (F 0 + 1)), f, n, tk, bg, en, vl, s1, s2, s3, cr)) rfl ⟨by decide, by decide⟩ rfl rfl ⟨by decide, by decide⟩ rfl rfl (Nat.le_of_ble_eq_true rfl) dX5_ahead_63 ?_
        have hm : m_ahead (T, K, ik, F, f, n, s1, s2, s3) u w k = ((fno 0), (T, K, ik, (upd F 0 (F 0 + 1)), f, n, s1, s2, s3)) := by first | (rw [rt]; simp only [m_ahead, c_27, c_42, t1, decide_true, decide_false, Bool.not_true, Bool.not_false, Bool.true_and, Bool.false_and, Bool.and_true, Bool.and_false, Bool.true_or, Bool.false_or, Bool.or_true, Bool.or_false, cond_true, cond_false, eq_self, if_true, if_false, ite_true, ite_false]; done) | (have t0 : mTold w = false := told_n (by assumption) (by assumption); simp only [m_ahead, c_6, c_12, c_27, t0, decide_true, decide_false, Bool.not_true, Bool.not_false, Bool.true_and, Bool.false_and, Bool.and_true, Bool.and_false, Bool.true_or, Bool.false_or, Bool.or_true, Bool.or_false, cond_true, cond_false, eq_self, if_true, if_false, ite_true, ite_false] <;> rfl) | (have t1 : mTold w = true := by {first | exact (told_a (by assumption)).1 | exact (told_b (by assumption)).1}; simp only [m_ahead, c_6, c_12, c_27, t1, decide_true, decide_false, Bool.not_true, Bool.not_false, Bool.true_and, Bool.false_and, Bool.and_true, Bool.and_false, Bool.true_or, Bool.false_or, Bool.or_true, Bool.or_false, cond_true, cond_false, eq_self, if_true, if_false, ite_true, ite_false] <;> first | rfl | (rw [rt]; done) | (rw [rt]; rfl)) | (simp only [m_ahead, c_6, c_12, c_27, decide_true, decide_false, Bool.not_true, Bool.not_false, Bool.true_and, Bool.false_and, Bool.and_true, Bool.and_false, Bool.true_or, Bool.false_or, Bool.or_true, Bool.or_false, cond_true, cond_false, eq_self, if_true, if_false, ite_true, ite_false] <;> rfl)
        exact aw_iret C hr hlk dX5_ahead_66 ⟨ri (by rw [hm]), kr, ar, tk, bg, en, vl, cr, by first | (rw [hm]; done) | (rw [hm]; rfl), by rw [hm]; exact hk⟩
      · skip
        refine aw_iload C dX5_ahead_30 rfl ?_
        refine aw_if_eq C 61 dX5_ahead_32 (by decide) (fun c_32 => ?_) (fun c_32 => absurd c_32 (by decide))
        refine aw_aload_n C dX5_ahead_61 rfl ?_
        refine aw_iconst C (0 : Int32) dX5_ahead_62 (by decide) ?_
        refine aw_callVd C (As := [.int (0 : Int32)]) (c_X5_no l D cI cC adK adV y T (kr, ar, ik, F, f, n, tk, bg, en, vl, s1, s2, s3, cr) 0 (by decide)) k4_60 cv_X5_no 0 4 rfl rfl rfl [0, 1, 2, 3, 4, 5, 6, 7, 8, 9, 10, 11, 12] (by decide) rfl (wr := ([] : va_W)) [] rfl (by decide) (by decide) [0, 1, 2, 3, 4, 5, 6, 7, 8, 9, 10, 11, 12] (by decide) (ws' := wMo cI cC y (rowOf T) (kr, ar, ik, (upd F 0 (F 0 + 1)), f, n, tk, bg, en, vl, s1, s2, s3, cr)) rfl ⟨by decide, by decide⟩ rfl rfl ⟨by decide, by decide⟩ rfl rfl (Nat.le_of_ble_eq_true rfl) dX5_ahead_63 ?_
        have hm : m_ahead (T, K, ik, F, f, n, s1, s2, s3) u w k = ((fno 0), (T, K, ik, (upd F 0 (F 0 + 1)), f, n, s1, s2, s3)) := by first | (rw [rt]; simp only [m_ahead, c_27, c_42, t1, decide_true, decide_false, Bool.not_true, Bool.not_false, Bool.true_and, Bool.false_and, Bool.and_true, Bool.and_false, Bool.true_or, Bool.false_or, Bool.or_true, Bool.or_false, cond_true, cond_false, eq_self, if_true, if_false, ite_true, ite_false]; done) | (have t0 : mTold w = false := told_n (by assumption) (by assumption); simp only [m_ahead, c_6, c_12, c_27, t0, decide_true, decide_false, Bool.not_true, Bool.not_false, Bool.true_and, Bool.false_and, Bool.and_true, Bool.and_false, Bool.true_or, Bool.false_or, Bool.or_true, Bool.or_false, cond_true, cond_false, eq_self, if_true, if_false, ite_true, ite_false] <;> rfl) | (have t1 : mTold w = true := by {first | exact (told_a (by assumption)).1 | exact (told_b (by assumption)).1}; simp only [m_ahead, c_6, c_12, c_27, t1, decide_true, decide_false, Bool.not_true, Bool.not_false, Bool.true_and, Bool.false_and, Bool.and_true, Bool.and_false, Bool.true_or, Bool.false_or, Bool.or_true, Bool.or_false, cond_true, cond_false, eq_self, if_true, if_false, ite_true, ite_false] <;> first | rfl | (rw [rt]; done) | (rw [rt]; rfl)) | (simp only [m_ahead, c_6, c_12, c_27, decide_true, decide_false, Bool.not_true, Bool.not_false, Bool.true_and, Bool.false_and, Bool.and_true, Bool.and_false, Bool.true_or, Bool.false_or, Bool.or_true, Bool.or_false, cond_true, cond_false, eq_self, if_true, if_false, ite_true, ite_false] <;> rfl)
        exact aw_iret C hr hlk dX5_ahead_66 ⟨ri (by rw [hm]), kr, ar, tk, bg, en, vl, cr, by first | (rw [hm]; done) | (rw [hm]; rfl), by rw [hm]; exact hk⟩
    · skip
      refine aw_iconst C (1 : Int32) dX5_ahead_15 (by decide) ?_
      refine aw_pc 16 rfl ?_
      refine aw_goto C 20 dX5_ahead_16 (by decide) ?_
      refine aw_istore C true (lv' := [(0, .ref (y 0)), (1, .int u), (2, .int w), (3, .int k), (4, .int (1 : Int32))]) dX5_ahead_20 (by decide) rfl rfl ?_
      refine aw_aload_n C dX5_ahead_22 rfl ?_
      refine aw_iload_n C dX5_ahead_23 rfl ?_
      refine aw_callVp C (As := [.int u]) (c_X5_isPerson l D cI cC adK adV y T (kr, ar, ik, F, f, n, tk, bg, en, vl, s1, s2, s3, cr) u hn) k4_77 cv_X5_isPerson 0 4 rfl rfl rfl [0, 1, 2, 3, 4, 5, 6, 7, 8, 9, 10, 11, 12] (by decide) rfl ⟨by decide, by decide⟩ rfl rfl ⟨by decide, by decide⟩ rfl rfl (Nat.le_of_ble_eq_true rfl) dX5_ahead_24 ?_
      refine aw_ifeq_b C 61 dX5_ahead_27 (by decide) (fun c_27 => ?_) (fun c_27 => ?_)
      · skip
        refine aw_aload_n C dX5_ahead_61 rfl ?_
        refine aw_iconst C (0 : Int32) dX5_ahead_62 (by decide) ?_
        refine aw_callVd C (As := [.int (0 : Int32)]) (c_X5_no l D cI cC adK adV y T (kr, ar, ik, F, f, n, tk, bg, en, vl, s1, s2, s3, cr) 0 (by decide)) k4_60 cv_X5_no 0 4 rfl rfl rfl [0, 1, 2, 3, 4, 5, 6, 7, 8, 9, 10, 11, 12] (by decide) rfl (wr := ([] : va_W)) [] rfl (by decide) (by decide) [0, 1, 2, 3, 4, 5, 6, 7, 8, 9, 10, 11, 12] (by decide) (ws' := wMo cI cC y (rowOf T) (kr, ar, ik, (upd F 0 (F 0 + 1)), f, n, tk, bg, en, vl, s1, s2, s3, cr)) rfl ⟨by decide, by decide⟩ rfl rfl ⟨by decide, by decide⟩ rfl rfl (Nat.le_of_ble_eq_true rfl) dX5_ahead_63 ?_
        have hm : m_ahead (T, K, ik, F, f, n, s1, s2, s3) u w k = ((fno 0), (T, K, ik, (upd F 0 (F 0 + 1)), f, n, s1, s2, s3)) := by first | (rw [rt]; simp only [m_ahead, c_27, c_42, t1, decide_true, decide_false, Bool.not_true, Bool.not_false, Bool.true_and, Bool.false_and, Bool.and_true, Bool.and_false, Bool.true_or, Bool.false_or, Bool.or_true, Bool.or_false, cond_true, cond_false, eq_self, if_true, if_false, ite_true, ite_false]; done) | (have t0 : mTold w = false := told_n (by assumption) (by assumption); simp only [m_ahead, c_6, c_12, c_27, t0, decide_true, decide_false, Bool.not_true, Bool.not_false, Bool.true_and, Bool.false_and, Bool.and_true, Bool.and_false, Bool.true_or, Bool.false_or, Bool.or_true, Bool.or_false, cond_true, cond_false, eq_self, if_true, if_false, ite_true, ite_false] <;> rfl) | (have t1 : mTold w = true := by {first | exact (told_a (by assumption)).1 | exact (told_b (by assumption)).1}; simp only [m_ahead, c_6, c_12, c_27, t1, decide_true, decide_false, Bool.not_true, Bool.not_false, Bool.true_and, Bool.false_and, Bool.and_true, Bool.and_false, Bool.true_or, Bool.false_or, Bool.or_true, Bool.or_false, cond_true, cond_false, eq_self, if_true, if_false, ite_true, ite_false] <;> first | rfl | (rw [rt]; done) | (rw [rt]; rfl)) | (simp only [m_ahead, c_6, c_12, c_27, decide_true, decide_false, Bool.not_true, Bool.not_false, Bool.true_and, Bool.false_and, Bool.and_true, Bool.and_false, Bool.true_or, Bool.false_or, Bool.or_true, Bool.or_false, cond_true, cond_false, eq_self, if_true, if_false, ite_true, ite_false] <;> rfl)
        exact aw_iret C hr hlk dX5_ahead_66 ⟨ri (by rw [hm]), kr, ar, tk, bg, en, vl, cr, by first | (rw [hm]; done) | (rw [hm]; rfl), by rw [hm]; exact hk⟩
      · skip
        refine aw_pc 30 rfl ?_
        refine aw_iload C dX5_ahead_30 rfl ?_
        refine aw_if_eq C 61 dX5_ahead_32 (by decide) (fun c_32 => absurd c_32 (by decide)) (fun c_32 => ?_)
        refine aw_iload_n C dX5_ahead_35 rfl ?_
        refine aw_iconst C (0 : Int32) dX5_ahead_36 (by decide) ?_
        refine aw_bipush C (100 : Int32) dX5_ahead_37 (by decide) ?_
        refine aw_callSp C (As := [.int k, .int (0 : Int32), .int (100 : Int32)]) (c_X5_in1 l D cI cC adK adV k (0 : Int32) (100 : Int32)) k4_54 cs_X5_in1 [] (by decide) rfl ⟨by decide, by decide⟩ rfl rfl ⟨by decide, by decide⟩ rfl rfl (Nat.le_of_ble_eq_true rfl) dX5_ahead_39 ?_
        refine aw_top (y := b2 (!decide (k < (0 : Int32)) && decide (k ≤ (100 : Int32)))) (by exact congrArg b2 (inL_le _ _ _)) ?_
        refine aw_ifeq_b C 61 dX5_ahead_42 (by decide) (fun c_42 => ?_) (fun c_42 => ?_)
        · skip
          refine aw_aload_n C dX5_ahead_61 rfl ?_
          refine aw_iconst C (0 : Int32) dX5_ahead_62 (by decide) ?_
          refine aw_callVd C (As := [.int (0 : Int32)]) (c_X5_no l D cI cC adK adV y T (kr, ar, ik, F, f, n, tk, bg, en, vl, s1, s2, s3, cr) 0 (by decide)) k4_60 cv_X5_no 0 4 rfl rfl rfl [0, 1, 2, 3, 4, 5, 6, 7, 8, 9, 10, 11, 12] (by decide) rfl (wr := ([] : va_W)) [] rfl (by decide) (by decide) [0, 1, 2, 3, 4, 5, 6, 7, 8, 9, 10, 11, 12] (by decide) (ws' := wMo cI cC y (rowOf T) (kr, ar, ik, (upd F 0 (F 0 + 1)), f, n, tk, bg, en, vl, s1, s2, s3, cr)) rfl ⟨by decide, by decide⟩ rfl rfl ⟨by decide, by decide⟩ rfl rfl (Nat.le_of_ble_eq_true rfl) dX5_ahead_63 ?_
          refine aw_pc 66 rfl ?_
          have hm : m_ahead (T, K, ik, F, f, n, s1, s2, s3) u w k = ((fno 0), (T, K, ik, (upd F 0 (F 0 + 1)), f, n, s1, s2, s3)) := by first | (rw [rt]; simp only [m_ahead, c_27, c_42, t1, decide_true, decide_false, Bool.not_true, Bool.not_false, Bool.true_and, Bool.false_and, Bool.and_true, Bool.and_false, Bool.true_or, Bool.false_or, Bool.or_true, Bool.or_false, cond_true, cond_false, eq_self, if_true, if_false, ite_true, ite_false]; done) | (have t0 : mTold w = false := told_n (by assumption) (by assumption); simp only [m_ahead, c_6, c_12, c_27, c_42, t0, decide_true, decide_false, Bool.not_true, Bool.not_false, Bool.true_and, Bool.false_and, Bool.and_true, Bool.and_false, Bool.true_or, Bool.false_or, Bool.or_true, Bool.or_false, cond_true, cond_false, eq_self, if_true, if_false, ite_true, ite_false] <;> rfl) | (have t1 : mTold w = true := by {first | exact (told_a (by assumption)).1 | exact (told_b (by assumption)).1}; simp only [m_ahead, c_6, c_12, c_27, c_42, t1, decide_true, decide_false, Bool.not_true, Bool.not_false, Bool.true_and, Bool.false_and, Bool.and_true, Bool.and_false, Bool.true_or, Bool.false_or, Bool.or_true, Bool.or_false, cond_true, cond_false, eq_self, if_true, if_false, ite_true, ite_false] <;> first | rfl | (rw [rt]; done) | (rw [rt]; rfl)) | (simp only [m_ahead, c_6, c_12, c_27, c_42, decide_true, decide_false, Bool.not_true, Bool.not_false, Bool.true_and, Bool.false_and, Bool.and_true, Bool.and_false, Bool.true_or, Bool.false_or, Bool.or_true, Bool.or_false, cond_true, cond_false, eq_self, if_true, if_false, ite_true, ite_false] <;> rfl)
          exact aw_iret C hr hlk dX5_ahead_66 ⟨ri (by rw [hm]), kr, ar, tk, bg, en, vl, cr, by first | (rw [hm]; done) | (rw [hm]; rfl), by rw [hm]; exact hk⟩
        · skip
          have l1 : ix k ≤ 100 := le_b c_42 (le_0 c_42) (by decide)
          have l2 := there_lt hn c_27
          have tw : mTold w = true ∧ ¬ w < 0 ∧ ix w < 7 := by first | exact told_a c_6 | exact told_b c_12
          obtain ⟨t1, t2, t3⟩ := tw
          have rt := row_told (T := tDays (ix k) T) (u := ix u) (by omega) t2 t3
          have e4 : u = nI (ix u) := there_ix c_27
          refine aw_eq (lv' := [(0, .ref (y 0)), (1, .int (nI (ix u))), (2, .int w), (3, .int k), (4, .int (1 : Int32))]) (ws' := wMo cI cC y (rowOf T) (kr, ar, ik, F, f, n, tk, bg, en, vl, s1, s2, s3, cr)) (by rw [← e4]) rfl rfl ?_
          have e5 : w = nI (ix w) := ix_eq t2
          refine aw_eq (lv' := [(0, .ref (y 0)), (1, .int (nI (ix u))), (2, .int (nI (ix w))), (3, .int k), (4, .int (1 : Int32))]) (ws' := wMo cI cC y (rowOf T) (kr, ar, ik, F, f, n, tk, bg, en, vl, s1, s2, s3, cr)) (by rw [← e5]) rfl rfl ?_
          have e6 : k = nI (ix k) := ix_eq (le_0 c_42)
          refine aw_eq (lv' := [(0, .ref (y 0)), (1, .int (nI (ix u))), (2, .int (nI (ix w))), (3, .int (nI (ix k))), (4, .int (1 : Int32))]) (ws' := wMo cI cC y (rowOf T) (kr, ar, ik, F, f, n, tk, bg, en, vl, s1, s2, s3, cr)) (by rw [← e6]) rfl rfl ?_
          refine aw_aload_n C dX5_ahead_45 rfl ?_
          refine aw_iconst C (4 : Int32) dX5_ahead_46 (by decide) ?_
          refine aw_bipush C (7 : Int32) dX5_ahead_47 (by decide) ?_
          refine aw_iload_n C dX5_ahead_49 rfl ?_
          refine aw_imul C dX5_ahead_50 ?_
          refine aw_iadd C dX5_ahead_51 ?_
          refine aw_iload_n C dX5_ahead_52 rfl ?_
          refine aw_iadd C dX5_ahead_53 ?_
          refine aw_top (y := (nI (4 + 7 * ix u + ix w))) (by exact fld_ix _ _) ?_
          refine aw_iload_n C dX5_ahead_54 rfl ?_
          refine aw_pc 55 rfl ?_
          refine aw_callVd C (As := [.int (nI (4 + 7 * ix u + ix w)), .int (nI (ix k))]) (c_X5_thenAt l D cI cC adK adV y T (kr, ar, ik, F, f, n, tk, bg, en, vl, s1, s2, s3, cr) (4 + 7 * ix u + ix w) (ix k) ho (by omega) (by omega)) k4_219 cv_X5_thenAt 0 4 rfl rfl rfl [0, 1, 2, 3, 4, 5, 6, 7, 8, 9, 10, 11, 12] (by decide) rfl (wr := ([] : va_W)) [] rfl (by decide) (by decide) [0, 1, 2, 3, 4, 5, 6, 7, 8, 9, 10, 11, 12] (by decide) (ws' := wMo cI cC y (rowOf T) (kr, (rowOf T), ik, F, f, n, tk, bg, en, vl, s1, s2, s3, cr)) rfl ⟨by decide, by decide⟩ rfl rfl ⟨by decide, by decide⟩ rfl rfl (Nat.le_of_ble_eq_true rfl) dX5_ahead_55 ?_
          refine aw_goto C 66 dX5_ahead_58 (by decide) ?_
          have hm : m_ahead (T, K, ik, F, f, n, s1, s2, s3) u w k = ((rowOf (tDays (ix k) T) (4 + 7 * ix u + ix w)), (T, K, ik, F, f, n, s1, s2, s3)) := by first | (rw [rt]; simp only [m_ahead, c_27, c_42, t1, decide_true, decide_false, Bool.not_true, Bool.not_false, Bool.true_and, Bool.false_and, Bool.and_true, Bool.and_false, Bool.true_or, Bool.false_or, Bool.or_true, Bool.or_false, cond_true, cond_false, eq_self, if_true, if_false, ite_true, ite_false]; done) | (have t0 : mTold w = false := told_n (by assumption) (by assumption); simp only [m_ahead, c_6, c_12, c_27, c_42, t0, decide_true, decide_false, Bool.not_true, Bool.not_false, Bool.true_and, Bool.false_and, Bool.and_true, Bool.and_false, Bool.true_or, Bool.false_or, Bool.or_true, Bool.or_false, cond_true, cond_false, eq_self, if_true, if_false, ite_true, ite_false] <;> rfl) | (have t1 : mTold w = true := by {first | exact (told_a (by assumption)).1 | exact (told_b (by assumption)).1}; simp only [m_ahead, c_6, c_12, c_27, c_42, t1, decide_true, decide_false, Bool.not_true, Bool.not_false, Bool.true_and, Bool.false_and, Bool.and_true, Bool.and_false, Bool.true_or, Bool.false_or, Bool.or_true, Bool.or_false, cond_true, cond_false, eq_self, if_true, if_false, ite_true, ite_false] <;> first | rfl | (rw [rt]; done) | (rw [rt]; rfl)) | (simp only [m_ahead, c_6, c_12, c_27, c_42, decide_true, decide_false, Bool.not_true, Bool.not_false, Bool.true_and, Bool.false_and, Bool.and_true, Bool.and_false, Bool.true_or, Bool.false_or, Bool.or_true, Bool.or_false, cond_true, cond_false, eq_self, if_true, if_false, ite_true, ite_false] <;> rfl)
          exact aw_iret C hr hlk dX5_ahead_66 ⟨ri (by rw [hm]), kr, (rowOf T), tk, bg, en, vl, cr, by first | (rw [hm]; done) | (rw [hm]; rfl), by rw [hm]; exact hk⟩
