/-! the reference: where to stand, lights, circles -/
def ar0 (A B : Nat → Int32) : Nat → Nat → Int32
  | 0 => A
  | _ + 1 => B
theorem best_le9 {T : Tw} {p fd k i : Nat} (hf : fd < 7) (h : (tDays k (sP T fd p (nI i))).2.1 3 ≤ (mBest T p (nI fd) k i).2) : mBest T p (nI fd) k (i + 1) = mBest T p (nI fd) k i := best_le (by rw [put_nI _ _ _ _ hf]; exact h)
theorem best_gt9 {T : Tw} {p fd k i : Nat} (hf : fd < 7) (h : ¬ (tDays k (sP T fd p (nI i))).2.1 3 ≤ (mBest T p (nI fd) k i).2) : mBest T p (nI fd) k (i + 1) = (nI i, (tDays k (sP T fd p (nI i))).2.1 3) := by
  rw [best_gt (by rw [put_nI _ _ _ _ hf]; exact h), put_nI _ _ _ _ hf]
theorem out_ok {T : Tw} (h : gOk T) (x : Int32) (i : Nat) (hi : i ≤ T.1) : gOk (itr (fun p U => bif hol x (nI p) then sP U 5 p 1 else U) i T) :=
  itr_ok (m := T.1) (fun p U => by cases hol x (nI p) <;> rfl) (fun p U hp hU e => by
    cases hol x (nI p)
    · exact hU
    · exact gOk_P hU (by decide) (by omega) (rg_c 1 (by decide))) h i hi
theorem putOut_ok {T : Tw} (h : gOk T) (x : Int32) : gOk (tPutOut T x) := out_ok h x T.1 (Nat.le_refl _)
theorem out_step {U : Tw} (h : gOk U) (p : Nat) (x : Int32) : sP U 5 p (U.2.2.1 5 p ||| ((x >>> (nI p &&& 31)) &&& 1)) = bif hol x (nI p) then sP U 5 p 1 else U := by
  unfold hol
  rcases and1 (x >>> (nI p &&& 31)) with e | e
  · rw [e, Int32.or_zero, sP_id]
    rfl
  · rw [e]
    obtain ⟨j, hj, e2⟩ := h.f 5 (by decide) p
    have hj : j < 2 := hj
    rw [e2]
    rcases (by omega : j = 0 ∨ j = 1) with q | q <;> (subst q; rfl)
theorem bad_w (x A B : Int32) : (x &&& (B ^^^ -1)) &&& (A ^^^ -1) = x &&& ((A ||| B) ^^^ -1) := by
  have e : (-1 : Int32).toBitVec = BitVec.allOnes 32 := by decide
  apply Int32.toBitVec_inj.mp
  show (x.toBitVec &&& (B.toBitVec ^^^ (-1 : Int32).toBitVec)) &&& (A.toBitVec ^^^ (-1 : Int32).toBitVec) = x.toBitVec &&& ((A.toBitVec ||| B.toBitVec) ^^^ (-1 : Int32).toBitVec)
  rw [e, BitVec.xor_allOnes, BitVec.xor_allOnes, BitVec.xor_allOnes, BitVec.not_or, BitVec.and_assoc, BitVec.and_comm (~~~B.toBitVec)]
theorem bad_y {T : Tw} {x : Int32} {fd i : Nat} (h : (x >>> (nI i &&& 31)) &&& 1 = 1) (h2 : ¬ (x &&& (((1 : Int32) <<< (nI i &&& 31)) ^^^ (-1 : Int32))) &&& (T.2.2.1 fd i ^^^ (-1 : Int32)) = 0) : (fun p => !cBad T x fd p) i = false := by
  rw [bad_w] at h2
  show (!(decide ((x >>> (nI i &&& 31)) &&& 1 = 1) && !decide (x &&& ((T.2.2.1 fd i ||| (1 : Int32) <<< (nI i &&& 31)) ^^^ -1) = 0))) = false
  rw [decide_eq_true h, decide_eq_false h2]
  rfl
theorem bad_n1 {T : Tw} {x : Int32} {fd i : Nat} (h : ¬ (x >>> (nI i &&& 31)) &&& 1 = 1) : (fun p => !cBad T x fd p) i = true := by
  show (!(decide ((x >>> (nI i &&& 31)) &&& 1 = 1) && _)) = true
  rw [decide_eq_false h]
  rfl
theorem bad_n2 {T : Tw} {x : Int32} {fd i : Nat} (h2 : (x &&& (((1 : Int32) <<< (nI i &&& 31)) ^^^ (-1 : Int32))) &&& (T.2.2.1 fd i ^^^ (-1 : Int32)) = 0) : (fun p => !cBad T x fd p) i = true := by
  rw [bad_w] at h2
  show (!(_ && !decide (x &&& ((T.2.2.1 fd i ||| (1 : Int32) <<< (nI i &&& 31)) ^^^ -1) = 0))) = true
  rw [decide_eq_true h2, Bool.not_true, Bool.and_false]
  rfl
theorem w01 {w : Int32} (h : (!decide (w < 0) && decide (w ≤ 1)) = true) : w = 0 ∨ w = 1 := by
  have h0 := le_0 h
  have h2 : ix w ≤ 1 := le_b (b := 1) h h0 (by decide)
  have e := ix_eq h0
  rcases (by omega : ix w = 0 ∨ ix w = 1) with q | q
  · exact Or.inl (by rw [e, q]; rfl)
  · exact Or.inr (by rw [e, q]; rfl)
theorem circ_wn {G : Sg} {w : Int32} (h : (!decide (w < 0) && decide (w ≤ 1)) = false) : m_circle G w = gno G 0 := by
  have n0 : ¬ w = 0 := fun e => by subst e; exact absurd h (by decide)
  have n1 : ¬ w = 1 := fun e => by subst e; exact absurd h (by decide)
  unfold m_circle
  rw [decide_eq_false n0, decide_eq_false n1]
  rfl
theorem circ_w0 {G : Sg} {w : Int32} (h : w = 0) : m_circle G w = (mCircle G.1 3 (2 ^ G.1.1 - 1), G) := by subst h; rfl
theorem circ_w1 {G : Sg} {w : Int32} (h : w = 1) : m_circle G w = (mCircle G.1 4 (2 ^ G.1.1 - 1), G) := by subst h; rfl
theorem pow_bit : ∀ n, n < 9 → (1 : Int32) <<< (nI n &&& 31) = nI (2 ^ n) := by decide +kernel

theorem and_2 {a b : Bool} (h : (a && b) = true) : a = true ∧ b = true := by
  cases a
  · exact absurd h Bool.false_ne_true
  · exact ⟨rfl, h⟩
abbrev r_X5_gladdestBy : Room := { frames := 6, cells := 0, slots := 0, locals := 134 }
theorem cv_X5_gladdestBy : cV yX5_gladdestBy cX5_gladdestBy 9 (some .int) 4 := ⟨k5_25, k0_55, k5_26, k1_6, by decide, by decide, by decide +kernel⟩
set_option maxHeartbeats 4000000 in
set_option maxRecDepth 100000 in
theorem c_X5_gladdestBy (l : Launch) (D : va_G) (cI cC : ClassId) (adK adV : Nat → Nat) (y : Nat → Nat) (T : Tw) (X : Mr) (p : Nat) (fd : Nat) (m : Nat) (k : Nat) (ho : gOk T) (hp : p < T.1) (hf : fd < 7) (hm : m ≤ lim fd) (hm2 : m < 100) (hk : k < 2 ^ 30) : FC l yX5_gladdestBy (wW yX5_gladdestBy cX5_gladdestBy 9 (some .int)) r_X5_gladdestBy D (tyC cI cC) adK adV (wMo cI cC y (rowOf T) X) [.ref (y 0), .int (nI p), .int (nI fd), .int (nI m), .int (nI k)] 0 0 (fQ (some (.int ((mBest T p (nI fd) k m).1))) (wMo cI cC y (rowOf T) (X.1, (ar0 X.2.1 (rowOf T) m), X.2.2.1, X.2.2.2.1, X.2.2.2.2.1, X.2.2.2.2.2.1, X.2.2.2.2.2.2.1, X.2.2.2.2.2.2.2.1, X.2.2.2.2.2.2.2.2.1, X.2.2.2.2.2.2.2.2.2.1, X.2.2.2.2.2.2.2.2.2.2.1, X.2.2.2.2.2.2.2.2.2.2.2.1, X.2.2.2.2.2.2.2.2.2.2.2.2.1, X.2.2.2.2.2.2.2.2.2.2.2.2.2))) := by
  refine FC.of (own := RX5) (by decide) rfl (Nat.le_of_ble_eq_true rfl) ?_
  intro p9 e9 s9 m9 args9 below9 meth9 c9 A9 C hr hlk hmn
  show AW p9 l e9 r_X5_gladdestBy s9 m9 args9 below9 meth9 c9 D A9 9 0 0 _ 0 [(0, .ref (y 0)), (1, .int (nI p)), (2, .int (nI fd)), (3, .int (nI m)), (4, .int (nI k))] [] _
  have hn := ho.n
  refine aw_iconst C (0 : Int32) dX5_gladdestBy_0 (by decide) ?_
  refine aw_istore C true (lv' := [(0, .ref (y 0)), (1, .int (nI p)), (2, .int (nI fd)), (3, .int (nI m)), (4, .int (nI k)), (5, .int (0 : Int32))]) dX5_gladdestBy_1 (by decide) rfl rfl ?_
  refine aw_iconst C (-1 : Int32) dX5_gladdestBy_3 (by decide) ?_
  refine aw_istore C true (lv' := [(0, .ref (y 0)), (1, .int (nI p)), (2, .int (nI fd)), (3, .int (nI m)), (4, .int (nI k)), (5, .int (0 : Int32)), (6, .int (-1 : Int32))]) dX5_gladdestBy_4 (by decide) rfl rfl ?_
  refine aw_iconst C (0 : Int32) dX5_gladdestBy_6 (by decide) ?_
  refine aw_istore C true (lv' := [(0, .ref (y 0)), (1, .int (nI p)), (2, .int (nI fd)), (3, .int (nI m)), (4, .int (nI k)), (5, .int (0 : Int32)), (6, .int (-1 : Int32)), (7, .int (0 : Int32))]) dX5_gladdestBy_7 (by decide) rfl rfl ?_
  refine aw_eq (lv' := [(0, .ref (y 0)), (1, .int (nI p)), (2, .int (nI fd)), (3, .int (nI m)), (4, .int (nI k)), (5, .int ((mBest T p (nI fd) k 0).1)), (6, .int ((mBest T p (nI fd) k 0).2)), (7, .int (nI 0))]) (ws' := wMo cI cC y (rowOf T) (X.1, (ar0 X.2.1 (rowOf T) 0), X.2.2.1, X.2.2.2.1, X.2.2.2.2.1, X.2.2.2.2.2.1, X.2.2.2.2.2.2.1, X.2.2.2.2.2.2.2.1, X.2.2.2.2.2.2.2.2.1, X.2.2.2.2.2.2.2.2.2.1, X.2.2.2.2.2.2.2.2.2.2.1, X.2.2.2.2.2.2.2.2.2.2.2.1, X.2.2.2.2.2.2.2.2.2.2.2.2.1, X.2.2.2.2.2.2.2.2.2.2.2.2.2)) (by first | rfl | (simp only [itr])) rfl (by rfl) ?_
  refine aw_loop (LV := fun i => [(0, .ref (y 0)), (1, .int (nI p)), (2, .int (nI fd)), (3, .int (nI m)), (4, .int (nI k)), (5, .int ((mBest T p (nI fd) k i).1)), (6, .int ((mBest T p (nI fd) k i).2)), (7, .int (nI i))]) (WS := fun i => wMo cI cC y (rowOf T) (X.1, (ar0 X.2.1 (rowOf T) i), X.2.2.1, X.2.2.2.1, X.2.2.2.2.1, X.2.2.2.2.2.1, X.2.2.2.2.2.2.1, X.2.2.2.2.2.2.2.1, X.2.2.2.2.2.2.2.2.1, X.2.2.2.2.2.2.2.2.2.1, X.2.2.2.2.2.2.2.2.2.2.1, X.2.2.2.2.2.2.2.2.2.2.2.1, X.2.2.2.2.2.2.2.2.2.2.2.2.1, X.2.2.2.2.2.2.2.2.2.2.2.2.2)) m (Inv := fun _ => True) trivial ?_ ?_
  · intro hv9
    refine aw_iload C dX5_gladdestBy_9 rfl ?_
    refine aw_iload_n C dX5_gladdestBy_11 rfl ?_
    refine aw_icmp_ge C 83 dX5_gladdestBy_12 (by decide) (fun c_12 => ?_) (fun c_12 => absurd c_12 (fun z => z (Int32.le_refl _)))
    refine aw_pc 83 rfl ?_
    refine aw_iload C dX5_gladdestBy_83 rfl ?_
    exact aw_iret C hr hlk dX5_gladdestBy_85 ⟨ri (by first | rfl | (simp only [])), by rfl⟩
  · intro i hi9 hv9 ih9
    refine aw_iload C dX5_gladdestBy_9 rfl ?_
    refine aw_iload_n C dX5_gladdestBy_11 rfl ?_
    refine aw_icmp_ge C 83 dX5_gladdestBy_12 (by decide) (fun c_12 => absurd c_12 (nI_ge hi9 (by omega))) (fun c_12 => ?_)
    refine aw_aload_n C dX5_gladdestBy_15 rfl ?_
    refine aw_callVdv C (As := []) (c_X5_setsAside l D cI cC adK adV y T (X.1, (ar0 X.2.1 (rowOf T) i), X.2.2.1, X.2.2.2.1, X.2.2.2.2.1, X.2.2.2.2.2.1, X.2.2.2.2.2.2.1, X.2.2.2.2.2.2.2.1, X.2.2.2.2.2.2.2.2.1, X.2.2.2.2.2.2.2.2.2.1, X.2.2.2.2.2.2.2.2.2.2.1, X.2.2.2.2.2.2.2.2.2.2.2.1, X.2.2.2.2.2.2.2.2.2.2.2.2.1, X.2.2.2.2.2.2.2.2.2.2.2.2.2) ) k4_223 cv_X5_setsAside 0 4 rfl rfl rfl [0, 1, 2, 3, 4, 5, 6, 7, 8, 9, 10, 11, 12] (by decide) rfl (wr := ([] : va_W)) [] rfl (by decide) (by decide) [0, 1, 2, 3, 4, 5, 6, 7, 8, 9, 10, 11, 12] (by decide) (ws' := wMo cI cC y (rowOf T) (X.1, (rowOf T), X.2.2.1, X.2.2.2.1, X.2.2.2.2.1, X.2.2.2.2.2.1, X.2.2.2.2.2.2.1, X.2.2.2.2.2.2.2.1, X.2.2.2.2.2.2.2.2.1, X.2.2.2.2.2.2.2.2.2.1, X.2.2.2.2.2.2.2.2.2.2.1, X.2.2.2.2.2.2.2.2.2.2.2.1, X.2.2.2.2.2.2.2.2.2.2.2.2.1, X.2.2.2.2.2.2.2.2.2.2.2.2.2)) rfl ⟨by decide, by decide⟩ rfl rfl ⟨by decide, by decide⟩ rfl rfl (Nat.le_of_ble_eq_true rfl) dX5_gladdestBy_16 ?_
    refine aw_aload_n C dX5_gladdestBy_19 rfl ?_
    refine aw_iload_n C dX5_gladdestBy_20 rfl ?_
    refine aw_iload_n C dX5_gladdestBy_21 rfl ?_
    refine aw_pc 22 rfl ?_
    refine aw_iload C dX5_gladdestBy_22 rfl ?_
    refine aw_callVdv C (As := [.int (nI p), .int (nI fd), .int (nI i)]) (c_X5_puts l D cI cC adK adV y T (X.1, (rowOf T), X.2.2.1, X.2.2.2.1, X.2.2.2.2.1, X.2.2.2.2.2.1, X.2.2.2.2.2.2.1, X.2.2.2.2.2.2.2.1, X.2.2.2.2.2.2.2.2.1, X.2.2.2.2.2.2.2.2.2.1, X.2.2.2.2.2.2.2.2.2.2.1, X.2.2.2.2.2.2.2.2.2.2.2.1, X.2.2.2.2.2.2.2.2.2.2.2.2.1, X.2.2.2.2.2.2.2.2.2.2.2.2.2) p fd (nI i) (by omega) hf) k4_69 cv_X5_puts 0 4 rfl rfl rfl [0, 1, 2, 3, 4, 5, 6, 7, 8, 9, 10, 11, 12] (by decide) rfl (wr := ([] : va_W)) [] rfl (by decide) (by decide) [0, 1, 2, 3, 4, 5, 6, 7, 8, 9, 10, 11, 12] (by decide) (ws' := wMo cI cC y (rowOf (sP T fd p (nI i))) (X.1, (rowOf T), X.2.2.1, X.2.2.2.1, X.2.2.2.2.1, X.2.2.2.2.2.1, X.2.2.2.2.2.2.1, X.2.2.2.2.2.2.2.1, X.2.2.2.2.2.2.2.2.1, X.2.2.2.2.2.2.2.2.2.1, X.2.2.2.2.2.2.2.2.2.2.1, X.2.2.2.2.2.2.2.2.2.2.2.1, X.2.2.2.2.2.2.2.2.2.2.2.2.1, X.2.2.2.2.2.2.2.2.2.2.2.2.2)) rfl ⟨by decide, by decide⟩ rfl rfl ⟨by decide, by decide⟩ rfl rfl (Nat.le_of_ble_eq_true rfl) dX5_gladdestBy_24 ?_
    refine aw_aload_n C dX5_gladdestBy_27 rfl ?_
    refine aw_iload C dX5_gladdestBy_28 rfl ?_
    refine aw_callVdv C (As := [.int (nI k)]) (c_X5_goes l D cI cC adK adV y (sP T fd p (nI i)) (X.1, (rowOf T), X.2.2.1, X.2.2.2.1, X.2.2.2.2.1, X.2.2.2.2.2.1, X.2.2.2.2.2.2.1, X.2.2.2.2.2.2.2.1, X.2.2.2.2.2.2.2.2.1, X.2.2.2.2.2.2.2.2.2.1, X.2.2.2.2.2.2.2.2.2.2.1, X.2.2.2.2.2.2.2.2.2.2.2.1, X.2.2.2.2.2.2.2.2.2.2.2.2.1, X.2.2.2.2.2.2.2.2.2.2.2.2.2) k (gOk_P ho hf hp (rg_c i (by omega))) hk) k4_167 cv_X5_goes 0 4 rfl rfl rfl [0, 1, 2, 3, 4, 5, 6, 7, 8, 9, 10, 11, 12] (by decide) rfl (wr := ([] : va_W)) [] rfl (by decide) (by decide) [0, 1, 2, 3, 4, 5, 6, 7, 8, 9, 10, 11, 12] (by decide) (ws' := wMo cI cC y (rowOf (tDays k (sP T fd p (nI i)))) (X.1, (rowOf T), X.2.2.1, X.2.2.2.1, X.2.2.2.2.1, X.2.2.2.2.2.1, X.2.2.2.2.2.2.1, X.2.2.2.2.2.2.2.1, X.2.2.2.2.2.2.2.2.1, X.2.2.2.2.2.2.2.2.2.1, X.2.2.2.2.2.2.2.2.2.2.1, X.2.2.2.2.2.2.2.2.2.2.2.1, X.2.2.2.2.2.2.2.2.2.2.2.2.1, X.2.2.2.2.2.2.2.2.2.2.2.2.2)) rfl ⟨by decide, by decide⟩ rfl rfl ⟨by decide, by decide⟩ rfl rfl (Nat.le_of_ble_eq_true rfl) dX5_gladdestBy_30 ?_
    refine aw_aload_n C dX5_gladdestBy_33 rfl ?_
    refine aw_getf C 0 4 0 18 inX5 rfl (by decide) rfl k3_234 rfl rfl dX5_gladdestBy_34 ?_
    refine aw_iconst C (3 : Int32) dX5_gladdestBy_37 (by decide) ?_
    refine aw_ialdN C 1 0 3 rfl rfl rfl (by decide) (by decide) dX5_gladdestBy_38 ?_
    refine aw_top (y := ((tDays k (sP T fd p (nI i))).2.1 3)) rfl ?_
    refine aw_istore C true (lv' := [(0, .ref (y 0)), (1, .int (nI p)), (2, .int (nI fd)), (3, .int (nI m)), (4, .int (nI k)), (5, .int ((mBest T p (nI fd) k i).1)), (6, .int ((mBest T p (nI fd) k i).2)), (7, .int (nI i)), (8, .int ((tDays k (sP T fd p (nI i))).2.1 3))]) dX5_gladdestBy_39 (by decide) rfl rfl ?_
    refine aw_pc 41 rfl ?_
    refine aw_aload_n C dX5_gladdestBy_41 rfl ?_
    refine aw_callVdv C (As := []) (c_X5_laysBack l D cI cC adK adV y (tDays k (sP T fd p (nI i))) (X.1, (rowOf T), X.2.2.1, X.2.2.2.1, X.2.2.2.2.1, X.2.2.2.2.2.1, X.2.2.2.2.2.2.1, X.2.2.2.2.2.2.2.1, X.2.2.2.2.2.2.2.2.1, X.2.2.2.2.2.2.2.2.2.1, X.2.2.2.2.2.2.2.2.2.2.1, X.2.2.2.2.2.2.2.2.2.2.2.1, X.2.2.2.2.2.2.2.2.2.2.2.2.1, X.2.2.2.2.2.2.2.2.2.2.2.2.2) ) k4_227 cv_X5_laysBack 0 4 rfl rfl rfl [0, 1, 2, 3, 4, 5, 6, 7, 8, 9, 10, 11, 12] (by decide) rfl (wr := ([] : va_W)) [] rfl (by decide) (by decide) [0, 1, 2, 3, 4, 5, 6, 7, 8, 9, 10, 11, 12] (by decide) (ws' := wMo cI cC y (rowOf T) (X.1, (rowOf T), X.2.2.1, X.2.2.2.1, X.2.2.2.2.1, X.2.2.2.2.2.1, X.2.2.2.2.2.2.1, X.2.2.2.2.2.2.2.1, X.2.2.2.2.2.2.2.2.1, X.2.2.2.2.2.2.2.2.2.1, X.2.2.2.2.2.2.2.2.2.2.1, X.2.2.2.2.2.2.2.2.2.2.2.1, X.2.2.2.2.2.2.2.2.2.2.2.2.1, X.2.2.2.2.2.2.2.2.2.2.2.2.2)) rfl ⟨by decide, by decide⟩ rfl rfl ⟨by decide, by decide⟩ rfl rfl (Nat.le_of_ble_eq_true rfl) dX5_gladdestBy_42 ?_
    refine aw_iload C dX5_gladdestBy_45 rfl ?_
    refine aw_iload C dX5_gladdestBy_47 rfl ?_
    refine aw_icmp_le C 57 dX5_gladdestBy_49 (by decide) (fun c_49 => ?_) (fun c_49 => ?_)
    · skip
      refine aw_iload C dX5_gladdestBy_57 rfl ?_
      refine aw_istore C false (lv' := [(0, .ref (y 0)), (1, .int (nI p)), (2, .int (nI fd)), (3, .int (nI m)), (4, .int (nI k)), (5, .int ((mBest T p (nI fd) k i).1)), (6, .int ((mBest T p (nI fd) k i).2)), (7, .int (nI i)), (8, .int ((tDays k (sP T fd p (nI i))).2.1 3))]) dX5_gladdestBy_59 (by decide) rfl rfl ?_
      refine aw_iload C dX5_gladdestBy_61 rfl ?_
      refine aw_iload C dX5_gladdestBy_63 rfl ?_
      refine aw_icmp_le C 73 dX5_gladdestBy_65 (by decide) (fun c_65 => ?_) (fun c_65 => ?_)
      · skip
        refine aw_pc 73 rfl ?_
        refine aw_iload C dX5_gladdestBy_73 rfl ?_
        refine aw_istore C false (lv' := [(0, .ref (y 0)), (1, .int (nI p)), (2, .int (nI fd)), (3, .int (nI m)), (4, .int (nI k)), (5, .int ((mBest T p (nI fd) k i).1)), (6, .int ((mBest T p (nI fd) k i).2)), (7, .int (nI i)), (8, .int ((tDays k (sP T fd p (nI i))).2.1 3))]) dX5_gladdestBy_75 (by decide) rfl rfl ?_
        refine aw_iinc C (nI (i + 1)) dX5_gladdestBy_77 rfl (inc_nI _ 1) (by decide) rfl (lv' := [(0, .ref (y 0)), (1, .int (nI p)), (2, .int (nI fd)), (3, .int (nI m)), (4, .int (nI k)), (5, .int ((mBest T p (nI fd) k i).1)), (6, .int ((mBest T p (nI fd) k i).2)), (7, .int (nI (i + 1))), (8, .int ((tDays k (sP T fd p (nI i))).2.1 3))]) rfl ?_
        refine aw_goto C 9 dX5_gladdestBy_80 (by decide) ?_
        refine aw_sub (lv' := [(0, .ref (y 0)), (1, .int (nI p)), (2, .int (nI fd)), (3, .int (nI m)), (4, .int (nI k)), (5, .int ((mBest T p (nI fd) k i).1)), (6, .int ((mBest T p (nI fd) k i).2)), (7, .int (nI (i + 1)))]) [0, 1, 2, 3, 4, 5, 6, 7] rfl ?_
        exact aw_eq (by first | exact absurd c_49 c_65 | exact absurd c_65 c_49 | (rw [best_le9 hf c_49]) | (rw [best_gt9 hf c_49])) rfl (by rfl) (ih9 trivial)
      · skip
        refine aw_iload C dX5_gladdestBy_68 rfl ?_
        refine aw_goto C 75 dX5_gladdestBy_70 (by decide) ?_
        refine aw_istore C false (lv' := [(0, .ref (y 0)), (1, .int (nI p)), (2, .int (nI fd)), (3, .int (nI m)), (4, .int (nI k)), (5, .int ((mBest T p (nI fd) k i).1)), (6, .int ((tDays k (sP T fd p (nI i))).2.1 3)), (7, .int (nI i)), (8, .int ((tDays k (sP T fd p (nI i))).2.1 3))]) dX5_gladdestBy_75 (by decide) rfl rfl ?_
        refine aw_iinc C (nI (i + 1)) dX5_gladdestBy_77 rfl (inc_nI _ 1) (by decide) rfl (lv' := [(0, .ref (y 0)), (1, .int (nI p)), (2, .int (nI fd)), (3, .int (nI m)), (4, .int (nI k)), (5, .int ((mBest T p (nI fd) k i).1)), (6, .int ((tDays k (sP T fd p (nI i))).2.1 3)), (7, .int (nI (i + 1))), (8, .int ((tDays k (sP T fd p (nI i))).2.1 3))]) rfl ?_
        refine aw_goto C 9 dX5_gladdestBy_80 (by decide) ?_
        refine aw_sub (lv' := [(0, .ref (y 0)), (1, .int (nI p)), (2, .int (nI fd)), (3, .int (nI m)), (4, .int (nI k)), (5, .int ((mBest T p (nI fd) k i).1)), (6, .int ((tDays k (sP T fd p (nI i))).2.1 3)), (7, .int (nI (i + 1)))]) [0, 1, 2, 3, 4, 5, 6, 7] rfl ?_
        exact aw_eq (by first | exact absurd c_49 c_65 | exact absurd c_65 c_49 | (rw [best_le9 hf c_49]) | (rw [best_gt9 hf c_49])) rfl (by rfl) (ih9 trivial)
    · skip
      refine aw_iload C dX5_gladdestBy_52 rfl ?_
      refine aw_pc 54 rfl ?_
      refine aw_goto C 59 dX5_gladdestBy_54 (by decide) ?_
      refine aw_istore C false (lv' := [(0, .ref (y 0)), (1, .int (nI p)), (2, .int (nI fd)), (3, .int (nI m)), (4, .int (nI k)), (5, .int (nI i)), (6, .int ((mBest T p (nI fd) k i).2)), (7, .int (nI i)), (8, .int ((tDays k (sP T fd p (nI i))).2.1 3))]) dX5_gladdestBy_59 (by decide) rfl rfl ?_
      refine aw_iload C dX5_gladdestBy_61 rfl ?_
      refine aw_iload C dX5_gladdestBy_63 rfl ?_
      refine aw_icmp_le C 73 dX5_gladdestBy_65 (by decide) (fun c_65 => ?_) (fun c_65 => ?_)
      · skip
        refine aw_iload C dX5_gladdestBy_73 rfl ?_
        refine aw_istore C false (lv' := [(0, .ref (y 0)), (1, .int (nI p)), (2, .int (nI fd)), (3, .int (nI m)), (4, .int (nI k)), (5, .int (nI i)), (6, .int ((mBest T p (nI fd) k i).2)), (7, .int (nI i)), (8, .int ((tDays k (sP T fd p (nI i))).2.1 3))]) dX5_gladdestBy_75 (by decide) rfl rfl ?_
        refine aw_iinc C (nI (i + 1)) dX5_gladdestBy_77 rfl (inc_nI _ 1) (by decide) rfl (lv' := [(0, .ref (y 0)), (1, .int (nI p)), (2, .int (nI fd)), (3, .int (nI m)), (4, .int (nI k)), (5, .int (nI i)), (6, .int ((mBest T p (nI fd) k i).2)), (7, .int (nI (i + 1))), (8, .int ((tDays k (sP T fd p (nI i))).2.1 3))]) rfl ?_
        refine aw_goto C 9 dX5_gladdestBy_80 (by decide) ?_
        refine aw_sub (lv' := [(0, .ref (y 0)), (1, .int (nI p)), (2, .int (nI fd)), (3, .int (nI m)), (4, .int (nI k)), (5, .int (nI i)), (6, .int ((mBest T p (nI fd) k i).2)), (7, .int (nI (i + 1)))]) [0, 1, 2, 3, 4, 5, 6, 7] rfl ?_
        exact aw_eq (by first | exact absurd c_49 c_65 | exact absurd c_65 c_49 | (rw [best_le9 hf c_49]) | (rw [best_gt9 hf c_49])) rfl (by rfl) (ih9 trivial)
      · skip
        refine aw_iload C dX5_gladdestBy_68 rfl ?_
        refine aw_pc 70 rfl ?_
        refine aw_goto C 75 dX5_gladdestBy_70 (by decide) ?_
        refine aw_istore C false (lv' := [(0, .ref (y 0)), (1, .int (nI p)), (2, .int (nI fd)), (3, .int (nI m)), (4, .int (nI k)), (5, .int (nI i)), (6, .int ((tDays k (sP T fd p (nI i))).2.1 3)), (7, .int (nI i)), (8, .int ((tDays k (sP T fd p (nI i))).2.1 3))]) dX5_gladdestBy_75 (by decide) rfl rfl ?_
        refine aw_iinc C (nI (i + 1)) dX5_gladdestBy_77 rfl (inc_nI _ 1) (by decide) rfl (lv' := [(0, .ref (y 0)), (1, .int (nI p)), (2, .int (nI fd)), (3, .int (nI m)), (4, .int (nI k)), (5, .int (nI i)), (6, .int ((tDays k (sP T fd p (nI i))).2.1 3)), (7, .int (nI (i + 1))), (8, .int ((tDays k (sP T fd p (nI i))).2.1 3))]) rfl ?_
        refine aw_goto C 9 dX5_gladdestBy_80 (by decide) ?_
        refine aw_sub (lv' := [(0, .ref (y 0)), (1, .int (nI p)), (2, .int (nI fd)), (3, .int (nI m)), (4, .int (nI k)), (5, .int (nI i)), (6, .int ((tDays k (sP T fd p (nI i))).2.1 3)), (7, .int (nI (i + 1)))]) [0, 1, 2, 3, 4, 5, 6, 7] rfl ?_
        exact aw_eq (by first | exact absurd c_49 c_65 | exact absurd c_65 c_49 | (rw [best_le9 hf c_49]) | (rw [best_gt9 hf c_49])) rfl (by rfl) (ih9 trivial)
abbrev r_X5_isAsked : Room := { frames := 2, cells := 0, slots := 0, locals := 43 }
theorem cv_X5_isAsked : cV yX5_isAsked cX5_isAsked 3 (some .boolean) 2 := ⟨k5_21, k0_54, k5_22, k1_6, by decide, by decide, by decide +kernel⟩
set_option maxHeartbeats 4000000 in
set_option maxRecDepth 100000 in
theorem c_X5_isAsked (l : Launch) (D : va_G) (cI cC : ClassId) (adK adV : Nat → Nat) (y : Nat → Nat) (T : Tw) (X : Mr) (u : Int32) (k : Int32) (hn : T.1 ≤ 8) : FC l yX5_isAsked (wW yX5_isAsked cX5_isAsked 3 (some .boolean)) r_X5_isAsked D (tyC cI cC) adK adV (wMo cI cC y (rowOf T) X) [.ref (y 0), .int u, .int k] 0 0 (fQ (some (.int (b2 (mThere T u && (!decide (k < 0) && decide (k ≤ 60)))))) (wMo cI cC y (rowOf T) X)) := by
  refine FC.of (own := RX5) (by decide) rfl (Nat.le_of_ble_eq_true rfl) ?_
  intro p9 e9 s9 m9 args9 below9 meth9 c9 A9 C hr hlk hmn
  show AW p9 l e9 r_X5_isAsked s9 m9 args9 below9 meth9 c9 D A9 3 0 0 _ 0 [(0, .ref (y 0)), (1, .int u), (2, .int k)] [] _
  refine aw_aload_n C dX5_isAsked_0 rfl ?_
  refine aw_iload_n C dX5_isAsked_1 rfl ?_
  refine aw_callVp C (As := [.int u]) (c_X5_isPerson l D cI cC adK adV y T X u hn) k4_77 cv_X5_isPerson 0 4 rfl rfl rfl [0, 1, 2, 3, 4, 5, 6, 7, 8, 9, 10, 11, 12] (by decide) rfl ⟨by decide, by decide⟩ rfl rfl ⟨by decide, by decide⟩ rfl rfl (Nat.le_of_ble_eq_true rfl) dX5_isAsked_2 ?_
  refine aw_ifeq_b C 22 dX5_isAsked_5 (by decide) (fun c_5 => ?_) (fun c_5 => ?_)
  · skip
    refine aw_iconst C (0 : Int32) dX5_isAsked_22 (by decide) ?_
    exact aw_bret C (b := false) hr hlk dX5_isAsked_23 rfl ⟨rb (by simp only [c_5, decide_true, decide_false, Bool.not_true, Bool.not_false, Bool.true_and, Bool.false_and, Bool.and_true, Bool.and_false, Bool.true_or, Bool.false_or, Bool.or_true, Bool.or_false, cond_true, cond_false, eq_self, if_true, if_false, ite_true, ite_false]), by rfl⟩
  · skip
    refine aw_iload_n C dX5_isAsked_8 rfl ?_
    refine aw_iconst C (0 : Int32) dX5_isAsked_9 (by decide) ?_
    refine aw_bipush C (60 : Int32) dX5_isAsked_10 (by decide) ?_
    refine aw_pc 12 rfl ?_
    refine aw_callSp C (As := [.int k, .int (0 : Int32), .int (60 : Int32)]) (c_X5_in1 l D cI cC adK adV k (0 : Int32) (60 : Int32)) k4_54 cs_X5_in1 [] (by decide) rfl ⟨by decide, by decide⟩ rfl rfl ⟨by decide, by decide⟩ rfl rfl (Nat.le_of_ble_eq_true rfl) dX5_isAsked_12 ?_
    refine aw_top (y := b2 (!decide (k < (0 : Int32)) && decide (k ≤ (60 : Int32)))) (by exact congrArg b2 (inL_le _ _ _)) ?_
    refine aw_ifeq_b C 22 dX5_isAsked_15 (by decide) (fun c_15 => ?_) (fun c_15 => ?_)
    · skip
      refine aw_iconst C (0 : Int32) dX5_isAsked_22 (by decide) ?_
      exact aw_bret C (b := false) hr hlk dX5_isAsked_23 rfl ⟨rb (by simp only [c_5, c_15, decide_true, decide_false, Bool.not_true, Bool.not_false, Bool.true_and, Bool.false_and, Bool.and_true, Bool.and_false, Bool.true_or, Bool.false_or, Bool.or_true, Bool.or_false, cond_true, cond_false, eq_self, if_true, if_false, ite_true, ite_false]), by rfl⟩
    · skip
      refine aw_iconst C (1 : Int32) dX5_isAsked_18 (by decide) ?_
      refine aw_goto C 23 dX5_isAsked_19 (by decide) ?_
      exact aw_bret C (b := true) hr hlk dX5_isAsked_23 rfl ⟨rb (by simp only [c_5, c_15, decide_true, decide_false, Bool.not_true, Bool.not_false, Bool.true_and, Bool.false_and, Bool.and_true, Bool.and_false, Bool.true_or, Bool.false_or, Bool.or_true, Bool.or_false, cond_true, cond_false, eq_self, if_true, if_false, ite_true, ite_false]), by rfl⟩
abbrev r_X5_standFor : Room := { frames := 7, cells := 0, slots := 0, locals := 162 }
theorem cv_X5_standFor : cV yX5_standFor cX5_standFor 3 (some .int) 2 := ⟨k5_16, k5_17, k5_18, k1_6, by decide, by decide, by decide +kernel⟩
set_option maxHeartbeats 4000000 in
set_option maxRecDepth 100000 in
theorem c_X5_standFor (l : Launch) (D : va_G) (cI cC : ClassId) (adK adV : Nat → Nat) (y : Nat → Nat) (T K : Tw) (ik : Bool) (F f : Nat → Int32) (n : Nat) (s1 s2 s3 kr ar : Nat → Int32) (tk : Int32) (bg en : Nat) (vl : Int64) (cr : Nat → Int32) (hk : ik = true → kr = rowOf K) (ho : gOk T) (u : Int32) (k : Int32) : FC l yX5_standFor (wW yX5_standFor cX5_standFor 3 (some .int)) r_X5_standFor D (tyC cI cC) adK adV (wMo cI cC y (rowOf T) (kr, ar, ik, F, f, n, tk, bg, en, vl, s1, s2, s3, cr)) [.ref (y 0), .int u, .int k] 0 0 (pMo cI cC y (m_standFor (T, K, ik, F, f, n, s1, s2, s3) u k)) := by
  refine FC.of (own := RX5) (by decide) rfl (Nat.le_of_ble_eq_true rfl) ?_
  intro p9 e9 s9 m9 args9 below9 meth9 c9 A9 C hr hlk hmn
  show AW p9 l e9 r_X5_standFor s9 m9 args9 below9 meth9 c9 D A9 3 0 0 _ 0 [(0, .ref (y 0)), (1, .int u), (2, .int k)] [] _
  have hn := ho.n
  refine aw_aload_n C dX5_standFor_0 rfl ?_
  refine aw_iload_n C dX5_standFor_1 rfl ?_
  refine aw_iload_n C dX5_standFor_2 rfl ?_
  refine aw_callVp C (As := [.int u, .int k]) (c_X5_isAsked l D cI cC adK adV y T (kr, ar, ik, F, f, n, tk, bg, en, vl, s1, s2, s3, cr) u k hn) k5_19 cv_X5_isAsked 0 4 rfl rfl rfl [0, 1, 2, 3, 4, 5, 6, 7, 8, 9, 10, 11, 12] (by decide) rfl ⟨by decide, by decide⟩ rfl rfl ⟨by decide, by decide⟩ rfl rfl (Nat.le_of_ble_eq_true rfl) dX5_standFor_3 ?_
  refine aw_ifeq_b C 21 dX5_standFor_6 (by decide) (fun c_6 => ?_) (fun c_6 => ?_)
  · skip
    refine aw_aload_n C dX5_standFor_21 rfl ?_
    refine aw_iconst C (0 : Int32) dX5_standFor_22 (by decide) ?_
    refine aw_callVd C (As := [.int (0 : Int32)]) (c_X5_no l D cI cC adK adV y T (kr, ar, ik, F, f, n, tk, bg, en, vl, s1, s2, s3, cr) 0 (by decide)) k4_60 cv_X5_no 0 4 rfl rfl rfl [0, 1, 2, 3, 4, 5, 6, 7, 8, 9, 10, 11, 12] (by decide) rfl (wr := ([] : va_W)) [] rfl (by decide) (by decide) [0, 1, 2, 3, 4, 5, 6, 7, 8, 9, 10, 11, 12] (by decide) (ws' := wMo cI cC y (rowOf T) (kr, ar, ik, (upd F 0 (F 0 + 1)), f, n, tk, bg, en, vl, s1, s2, s3, cr)) rfl ⟨by decide, by decide⟩ rfl rfl ⟨by decide, by decide⟩ rfl rfl (Nat.le_of_ble_eq_true rfl) dX5_standFor_23 ?_
    have hm : m_standFor (T, K, ik, F, f, n, s1, s2, s3) u k = ((fno 0), (T, K, ik, (upd F 0 (F 0 + 1)), f, n, s1, s2, s3)) := by simp only [m_standFor, m_most, c_6, decide_true, decide_false, Bool.not_true, Bool.not_false, Bool.true_and, Bool.false_and, Bool.and_true, Bool.and_false, Bool.true_or, Bool.false_or, Bool.or_true, Bool.or_false, cond_true, cond_false, eq_self, if_true, if_false, ite_true, ite_false] <;> rfl
    exact aw_iret C hr hlk dX5_standFor_26 ⟨ri (by rw [hm]), kr, ar, tk, bg, en, vl, cr, by first | (rw [hm]; done) | (rw [hm]; rfl), by rw [hm]; exact hk⟩
  · skip
    obtain ⟨q1, q2⟩ := and_2 c_6
    have l1 := there_lt hn q1
    have l2 : ix k ≤ 60 := le_b q2 (le_0 q2) (by decide)
    have e1 : u = nI (ix u) := there_ix q1
    refine aw_eq (lv' := [(0, .ref (y 0)), (1, .int (nI (ix u))), (2, .int k)]) (ws' := wMo cI cC y (rowOf T) (kr, ar, ik, F, f, n, tk, bg, en, vl, s1, s2, s3, cr)) (by rw [← e1]) rfl rfl ?_
    have e2 : k = nI (ix k) := ix_eq (le_0 q2)
    refine aw_eq (lv' := [(0, .ref (y 0)), (1, .int (nI (ix u))), (2, .int (nI (ix k)))]) (ws' := wMo cI cC y (rowOf T) (kr, ar, ik, F, f, n, tk, bg, en, vl, s1, s2, s3, cr)) (by rw [← e2]) rfl rfl ?_
    refine aw_pc 9 rfl ?_
    refine aw_aload_n C dX5_standFor_9 rfl ?_
    refine aw_iload_n C dX5_standFor_10 rfl ?_
    refine aw_iconst C (1 : Int32) dX5_standFor_11 (by decide) ?_
    refine aw_bipush C (16 : Int32) dX5_standFor_12 (by decide) ?_
    refine aw_iload_n C dX5_standFor_14 rfl ?_
    refine aw_callVd C (As := [.int (nI (ix u)), .int (1 : Int32), .int (16 : Int32), .int (nI (ix k))]) (c_X5_gladdestBy l D cI cC adK adV y T (kr, ar, ik, F, f, n, tk, bg, en, vl, s1, s2, s3, cr) (ix u) 1 16 (ix k) ho (by omega) (by decide) (by decide) (by decide) (by omega)) k5_23 cv_X5_gladdestBy 0 4 rfl rfl rfl [0, 1, 2, 3, 4, 5, 6, 7, 8, 9, 10, 11, 12] (by decide) rfl (wr := ([] : va_W)) [] rfl (by decide) (by decide) [0, 1, 2, 3, 4, 5, 6, 7, 8, 9, 10, 11, 12] (by decide) (ws' := wMo cI cC y (rowOf T) (kr, (ar0 ar (rowOf T) 16), ik, F, f, n, tk, bg, en, vl, s1, s2, s3, cr)) rfl ⟨by decide, by decide⟩ rfl rfl ⟨by decide, by decide⟩ rfl rfl (Nat.le_of_ble_eq_true rfl) dX5_standFor_15 ?_
    refine aw_goto C 26 dX5_standFor_18 (by decide) ?_
    have hm : m_standFor (T, K, ik, F, f, n, s1, s2, s3) u k = (((mBest T (ix u) (nI 1) (ix k) 16).1), (T, K, ik, F, f, n, s1, s2, s3)) := by simp only [m_standFor, m_most, c_6, decide_true, decide_false, Bool.not_true, Bool.not_false, Bool.true_and, Bool.false_and, Bool.and_true, Bool.and_false, Bool.true_or, Bool.false_or, Bool.or_true, Bool.or_false, cond_true, cond_false, eq_self, if_true, if_false, ite_true, ite_false] <;> rfl
    exact aw_iret C hr hlk dX5_standFor_26 ⟨ri (by rw [hm]), kr, (ar0 ar (rowOf T) 16), tk, bg, en, vl, cr, by first | (rw [hm]; done) | (rw [hm]; rfl), by rw [hm]; exact hk⟩
abbrev r_X5_guiseFor : Room := { frames := 7, cells := 0, slots := 0, locals := 162 }
theorem cv_X5_guiseFor : cV yX5_guiseFor cX5_guiseFor 3 (some .int) 2 := ⟨k5_28, k5_29, k5_30, k1_6, by decide, by decide, by decide +kernel⟩
set_option maxHeartbeats 4000000 in
set_option maxRecDepth 100000 in
theorem c_X5_guiseFor (l : Launch) (D : va_G) (cI cC : ClassId) (adK adV : Nat → Nat) (y : Nat → Nat) (T K : Tw) (ik : Bool) (F f : Nat → Int32) (n : Nat) (s1 s2 s3 kr ar : Nat → Int32) (tk : Int32) (bg en : Nat) (vl : Int64) (cr : Nat → Int32) (hk : ik = true → kr = rowOf K) (ho : gOk T) (u : Int32) (k : Int32) : FC l yX5_guiseFor (wW yX5_guiseFor cX5_guiseFor 3 (some .int)) r_X5_guiseFor D (tyC cI cC) adK adV (wMo cI cC y (rowOf T) (kr, ar, ik, F, f, n, tk, bg, en, vl, s1, s2, s3, cr)) [.ref (y 0), .int u, .int k] 0 0 (pMo cI cC y (m_guiseFor (T, K, ik, F, f, n, s1, s2, s3) u k)) := by
  refine FC.of (own := RX5) (by decide) rfl (Nat.le_of_ble_eq_true rfl) ?_
  intro p9 e9 s9 m9 args9 below9 meth9 c9 A9 C hr hlk hmn
  show AW p9 l e9 r_X5_guiseFor s9 m9 args9 below9 meth9 c9 D A9 3 0 0 _ 0 [(0, .ref (y 0)), (1, .int u), (2, .int k)] [] _
  have hn := ho.n
  refine aw_aload_n C dX5_guiseFor_0 rfl ?_
  refine aw_iload_n C dX5_guiseFor_1 rfl ?_
  refine aw_iload_n C dX5_guiseFor_2 rfl ?_
  refine aw_callVp C (As := [.int u, .int k]) (c_X5_isAsked l D cI cC adK adV y T (kr, ar, ik, F, f, n, tk, bg, en, vl, s1, s2, s3, cr) u k hn) k5_19 cv_X5_isAsked 0 4 rfl rfl rfl [0, 1, 2, 3, 4, 5, 6, 7, 8, 9, 10, 11, 12] (by decide) rfl ⟨by decide, by decide⟩ rfl rfl ⟨by decide, by decide⟩ rfl rfl (Nat.le_of_ble_eq_true rfl) dX5_guiseFor_3 ?_
  refine aw_ifeq_b C 21 dX5_guiseFor_6 (by decide) (fun c_6 => ?_) (fun c_6 => ?_)
  · skip
    refine aw_aload_n C dX5_guiseFor_21 rfl ?_
    refine aw_iconst C (0 : Int32) dX5_guiseFor_22 (by decide) ?_
    refine aw_callVd C (As := [.int (0 : Int32)]) (c_X5_no l D cI cC adK adV y T (kr, ar, ik, F, f, n, tk, bg, en, vl, s1, s2, s3, cr) 0 (by decide)) k4_60 cv_X5_no 0 4 rfl rfl rfl [0, 1, 2, 3, 4, 5, 6, 7, 8, 9, 10, 11, 12] (by decide) rfl (wr := ([] : va_W)) [] rfl (by decide) (by decide) [0, 1, 2, 3, 4, 5, 6, 7, 8, 9, 10, 11, 12] (by decide) (ws' := wMo cI cC y (rowOf T) (kr, ar, ik, (upd F 0 (F 0 + 1)), f, n, tk, bg, en, vl, s1, s2, s3, cr)) rfl ⟨by decide, by decide⟩ rfl rfl ⟨by decide, by decide⟩ rfl rfl (Nat.le_of_ble_eq_true rfl) dX5_guiseFor_23 ?_
    have hm : m_guiseFor (T, K, ik, F, f, n, s1, s2, s3) u k = ((fno 0), (T, K, ik, (upd F 0 (F 0 + 1)), f, n, s1, s2, s3)) := by simp only [m_guiseFor, m_most, c_6, decide_true, decide_false, Bool.not_true, Bool.not_false, Bool.true_and, Bool.false_and, Bool.and_true, Bool.and_false, Bool.true_or, Bool.false_or, Bool.or_true, Bool.or_false, cond_true, cond_false, eq_self, if_true, if_false, ite_true, ite_false] <;> rfl
    exact aw_iret C hr hlk dX5_guiseFor_26 ⟨ri (by rw [hm]), kr, ar, tk, bg, en, vl, cr, by first | (rw [hm]; done) | (rw [hm]; rfl), by rw [hm]; exact hk⟩
  · skip
    obtain ⟨q1, q2⟩ := and_2 c_6
    have l1 := there_lt hn q1
    have l2 : ix k ≤ 60 := le_b q2 (le_0 q2) (by decide)
    have e1 : u = nI (ix u) := there_ix q1
    refine aw_eq (lv' := [(0, .ref (y 0)), (1, .int (nI (ix u))), (2, .int k)]) (ws' := wMo cI cC y (rowOf T) (kr, ar, ik, F, f, n, tk, bg, en, vl, s1, s2, s3, cr)) (by rw [← e1]) rfl rfl ?_
    have e2 : k = nI (ix k) := ix_eq (le_0 q2)
    refine aw_eq (lv' := [(0, .ref (y 0)), (1, .int (nI (ix u))), (2, .int (nI (ix k)))]) (ws' := wMo cI cC y (rowOf T) (kr, ar, ik, F, f, n, tk, bg, en, vl, s1, s2, s3, cr)) (by rw [← e2]) rfl rfl ?_
    refine aw_pc 9 rfl ?_
    refine aw_aload_n C dX5_guiseFor_9 rfl ?_
    refine aw_iload_n C dX5_guiseFor_10 rfl ?_
    refine aw_iconst C (2 : Int32) dX5_guiseFor_11 (by decide) ?_
    refine aw_bipush C (12 : Int32) dX5_guiseFor_12 (by decide) ?_
    refine aw_iload_n C dX5_guiseFor_14 rfl ?_
    refine aw_callVd C (As := [.int (nI (ix u)), .int (2 : Int32), .int (12 : Int32), .int (nI (ix k))]) (c_X5_gladdestBy l D cI cC adK adV y T (kr, ar, ik, F, f, n, tk, bg, en, vl, s1, s2, s3, cr) (ix u) 2 12 (ix k) ho (by omega) (by decide) (by decide) (by decide) (by omega)) k5_23 cv_X5_gladdestBy 0 4 rfl rfl rfl [0, 1, 2, 3, 4, 5, 6, 7, 8, 9, 10, 11, 12] (by decide) rfl (wr := ([] : va_W)) [] rfl (by decide) (by decide) [0, 1, 2, 3, 4, 5, 6, 7, 8, 9, 10, 11, 12] (by decide) (ws' := wMo cI cC y (rowOf T) (kr, (ar0 ar (rowOf T) 12), ik, F, f, n, tk, bg, en, vl, s1, s2, s3, cr)) rfl ⟨by decide, by decide⟩ rfl rfl ⟨by decide, by decide⟩ rfl rfl (Nat.le_of_ble_eq_true rfl) dX5_guiseFor_15 ?_
    refine aw_goto C 26 dX5_guiseFor_18 (by decide) ?_
    have hm : m_guiseFor (T, K, ik, F, f, n, s1, s2, s3) u k = (((mBest T (ix u) (nI 2) (ix k) 12).1), (T, K, ik, F, f, n, s1, s2, s3)) := by simp only [m_guiseFor, m_most, c_6, decide_true, decide_false, Bool.not_true, Bool.not_false, Bool.true_and, Bool.false_and, Bool.and_true, Bool.and_false, Bool.true_or, Bool.false_or, Bool.or_true, Bool.or_false, cond_true, cond_false, eq_self, if_true, if_false, ite_true, ite_false] <;> rfl
    exact aw_iret C hr hlk dX5_guiseFor_26 ⟨ri (by rw [hm]), kr, (ar0 ar (rowOf T) 12), tk, bg, en, vl, cr, by first | (rw [hm]; done) | (rw [hm]; rfl), by rw [hm]; exact hk⟩
abbrev r_X5_kindFor : Room := { frames := 7, cells := 0, slots := 0, locals := 162 }
theorem cv_X5_kindFor : cV yX5_kindFor cX5_kindFor 3 (some .int) 2 := ⟨k5_32, k5_33, k5_34, k1_6, by decide, by decide, by decide +kernel⟩
set_option maxHeartbeats 4000000 in
set_option maxRecDepth 100000 in
theorem c_X5_kindFor (l : Launch) (D : va_G) (cI cC : ClassId) (adK adV : Nat → Nat) (y : Nat → Nat) (T K : Tw) (ik : Bool) (F f : Nat → Int32) (n : Nat) (s1 s2 s3 kr ar : Nat → Int32) (tk : Int32) (bg en : Nat) (vl : Int64) (cr : Nat → Int32) (hk : ik = true → kr = rowOf K) (ho : gOk T) (u : Int32) (k : Int32) : FC l yX5_kindFor (wW yX5_kindFor cX5_kindFor 3 (some .int)) r_X5_kindFor D (tyC cI cC) adK adV (wMo cI cC y (rowOf T) (kr, ar, ik, F, f, n, tk, bg, en, vl, s1, s2, s3, cr)) [.ref (y 0), .int u, .int k] 0 0 (pMo cI cC y (m_kindFor (T, K, ik, F, f, n, s1, s2, s3) u k)) := by
  refine FC.of (own := RX5) (by decide) rfl (Nat.le_of_ble_eq_true rfl) ?_
  intro p9 e9 s9 m9 args9 below9 meth9 c9 A9 C hr hlk hmn
  show AW p9 l e9 r_X5_kindFor s9 m9 args9 below9 meth9 c9 D A9 3 0 0 _ 0 [(0, .ref (y 0)), (1, .int u), (2, .int k)] [] _
  have hn := ho.n
  refine aw_aload_n C dX5_kindFor_0 rfl ?_
  refine aw_iload_n C dX5_kindFor_1 rfl ?_
  refine aw_iload_n C dX5_kindFor_2 rfl ?_
  refine aw_callVp C (As := [.int u, .int k]) (c_X5_isAsked l D cI cC adK adV y T (kr, ar, ik, F, f, n, tk, bg, en, vl, s1, s2, s3, cr) u k hn) k5_19 cv_X5_isAsked 0 4 rfl rfl rfl [0, 1, 2, 3, 4, 5, 6, 7, 8, 9, 10, 11, 12] (by decide) rfl ⟨by decide, by decide⟩ rfl rfl ⟨by decide, by decide⟩ rfl rfl (Nat.le_of_ble_eq_true rfl) dX5_kindFor_3 ?_
  refine aw_ifeq_b C 21 dX5_kindFor_6 (by decide) (fun c_6 => ?_) (fun c_6 => ?_)
  · skip
    refine aw_aload_n C dX5_kindFor_21 rfl ?_
    refine aw_iconst C (0 : Int32) dX5_kindFor_22 (by decide) ?_
    refine aw_callVd C (As := [.int (0 : Int32)]) (c_X5_no l D cI cC adK adV y T (kr, ar, ik, F, f, n, tk, bg, en, vl, s1, s2, s3, cr) 0 (by decide)) k4_60 cv_X5_no 0 4 rfl rfl rfl [0, 1, 2, 3, 4, 5, 6, 7, 8, 9, 10, 11, 12] (by decide) rfl (wr := ([] : va_W)) [] rfl (by decide) (by decide) [0, 1, 2, 3, 4, 5, 6, 7, 8, 9, 10, 11, 12] (by decide) (ws' := wMo cI cC y (rowOf T) (kr, ar, ik, (upd F 0 (F 0 + 1)), f, n, tk, bg, en, vl, s1, s2, s3, cr)) rfl ⟨by decide, by decide⟩ rfl rfl ⟨by decide, by decide⟩ rfl rfl (Nat.le_of_ble_eq_true rfl) dX5_kindFor_23 ?_
    have hm : m_kindFor (T, K, ik, F, f, n, s1, s2, s3) u k = ((fno 0), (T, K, ik, (upd F 0 (F 0 + 1)), f, n, s1, s2, s3)) := by simp only [m_kindFor, m_most, c_6, decide_true, decide_false, Bool.not_true, Bool.not_false, Bool.true_and, Bool.false_and, Bool.and_true, Bool.and_false, Bool.true_or, Bool.false_or, Bool.or_true, Bool.or_false, cond_true, cond_false, eq_self, if_true, if_false, ite_true, ite_false] <;> rfl
    exact aw_iret C hr hlk dX5_kindFor_26 ⟨ri (by rw [hm]), kr, ar, tk, bg, en, vl, cr, by first | (rw [hm]; done) | (rw [hm]; rfl), by rw [hm]; exact hk⟩
  · skip
    obtain ⟨q1, q2⟩ := and_2 c_6
    have l1 := there_lt hn q1
    have l2 : ix k ≤ 60 := le_b q2 (le_0 q2) (by decide)
    have e1 : u = nI (ix u) := there_ix q1
    refine aw_eq (lv' := [(0, .ref (y 0)), (1, .int (nI (ix u))), (2, .int k)]) (ws' := wMo cI cC y (rowOf T) (kr, ar, ik, F, f, n, tk, bg, en, vl, s1, s2, s3, cr)) (by rw [← e1]) rfl rfl ?_
    have e2 : k = nI (ix k) := ix_eq (le_0 q2)
    refine aw_eq (lv' := [(0, .ref (y 0)), (1, .int (nI (ix u))), (2, .int (nI (ix k)))]) (ws' := wMo cI cC y (rowOf T) (kr, ar, ik, F, f, n, tk, bg, en, vl, s1, s2, s3, cr)) (by rw [← e2]) rfl rfl ?_
    refine aw_pc 9 rfl ?_
    refine aw_aload_n C dX5_kindFor_9 rfl ?_
    refine aw_iload_n C dX5_kindFor_10 rfl ?_
    refine aw_iconst C (0 : Int32) dX5_kindFor_11 (by decide) ?_
    refine aw_bipush C (7 : Int32) dX5_kindFor_12 (by decide) ?_
    refine aw_iload_n C dX5_kindFor_14 rfl ?_
    refine aw_callVd C (As := [.int (nI (ix u)), .int (0 : Int32), .int (7 : Int32), .int (nI (ix k))]) (c_X5_gladdestBy l D cI cC adK adV y T (kr, ar, ik, F, f, n, tk, bg, en, vl, s1, s2, s3, cr) (ix u) 0 7 (ix k) ho (by omega) (by decide) (by decide) (by decide) (by omega)) k5_23 cv_X5_gladdestBy 0 4 rfl rfl rfl [0, 1, 2, 3, 4, 5, 6, 7, 8, 9, 10, 11, 12] (by decide) rfl (wr := ([] : va_W)) [] rfl (by decide) (by decide) [0, 1, 2, 3, 4, 5, 6, 7, 8, 9, 10, 11, 12] (by decide) (ws' := wMo cI cC y (rowOf T) (kr, (ar0 ar (rowOf T) 7), ik, F, f, n, tk, bg, en, vl, s1, s2, s3, cr)) rfl ⟨by decide, by decide⟩ rfl rfl ⟨by decide, by decide⟩ rfl rfl (Nat.le_of_ble_eq_true rfl) dX5_kindFor_15 ?_
    refine aw_goto C 26 dX5_kindFor_18 (by decide) ?_
    have hm : m_kindFor (T, K, ik, F, f, n, s1, s2, s3) u k = (((mBest T (ix u) (nI 0) (ix k) 7).1), (T, K, ik, F, f, n, s1, s2, s3)) := by simp only [m_kindFor, m_most, c_6, decide_true, decide_false, Bool.not_true, Bool.not_false, Bool.true_and, Bool.false_and, Bool.and_true, Bool.and_false, Bool.true_or, Bool.false_or, Bool.or_true, Bool.or_false, cond_true, cond_false, eq_self, if_true, if_false, ite_true, ite_false] <;> rfl
    exact aw_iret C hr hlk dX5_kindFor_26 ⟨ri (by rw [hm]), kr, (ar0 ar (rowOf T) 7), tk, bg, en, vl, cr, by first | (rw [hm]; done) | (rw [hm]; rfl), by rw [hm]; exact hk⟩
abbrev r_X5_joyWith : Room := { frames := 6, cells := 0, slots := 0, locals := 134 }
theorem cv_X5_joyWith : cV yX5_joyWith cX5_joyWith 4 (some .int) 2 := ⟨k5_41, k0_56, k5_42, k1_6, by decide, by decide, by decide +kernel⟩
set_option maxHeartbeats 4000000 in
set_option maxRecDepth 100000 in
theorem c_X5_joyWith (l : Launch) (D : va_G) (cI cC : ClassId) (adK adV : Nat → Nat) (y : Nat → Nat) (T : Tw) (X : Mr) (x : Int32) (k : Nat) (ho : gOk T) (hk : k < 2 ^ 30) : FC l yX5_joyWith (wW yX5_joyWith cX5_joyWith 4 (some .int)) r_X5_joyWith D (tyC cI cC) adK adV (wMo cI cC y (rowOf T) X) [.ref (y 0), .int x, .int (nI k)] 0 0 (fQ (some (.int ((tDays k (tPutOut T x)).2.1 3))) (wMo cI cC y (rowOf T) (X.1, (rowOf T), X.2.2.1, X.2.2.2.1, X.2.2.2.2.1, X.2.2.2.2.2.1, X.2.2.2.2.2.2.1, X.2.2.2.2.2.2.2.1, X.2.2.2.2.2.2.2.2.1, X.2.2.2.2.2.2.2.2.2.1, X.2.2.2.2.2.2.2.2.2.2.1, X.2.2.2.2.2.2.2.2.2.2.2.1, X.2.2.2.2.2.2.2.2.2.2.2.2.1, X.2.2.2.2.2.2.2.2.2.2.2.2.2))) := by
  refine FC.of (own := RX5) (by decide) rfl (Nat.le_of_ble_eq_true rfl) ?_
  intro p9 e9 s9 m9 args9 below9 meth9 c9 A9 C hr hlk hmn
  show AW p9 l e9 r_X5_joyWith s9 m9 args9 below9 meth9 c9 D A9 4 0 0 _ 0 [(0, .ref (y 0)), (1, .int x), (2, .int (nI k))] [] _
  have hn := ho.n
  refine aw_aload_n C dX5_joyWith_0 rfl ?_
  refine aw_callVdv C (As := []) (c_X5_setsAside l D cI cC adK adV y T X ) k4_223 cv_X5_setsAside 0 4 rfl rfl rfl [0, 1, 2, 3, 4, 5, 6, 7, 8, 9, 10, 11, 12] (by decide) rfl (wr := ([] : va_W)) [] rfl (by decide) (by decide) [0, 1, 2, 3, 4, 5, 6, 7, 8, 9, 10, 11, 12] (by decide) (ws' := wMo cI cC y (rowOf T) (X.1, (rowOf T), X.2.2.1, X.2.2.2.1, X.2.2.2.2.1, X.2.2.2.2.2.1, X.2.2.2.2.2.2.1, X.2.2.2.2.2.2.2.1, X.2.2.2.2.2.2.2.2.1, X.2.2.2.2.2.2.2.2.2.1, X.2.2.2.2.2.2.2.2.2.2.1, X.2.2.2.2.2.2.2.2.2.2.2.1, X.2.2.2.2.2.2.2.2.2.2.2.2.1, X.2.2.2.2.2.2.2.2.2.2.2.2.2)) rfl ⟨by decide, by decide⟩ rfl rfl ⟨by decide, by decide⟩ rfl rfl (Nat.le_of_ble_eq_true rfl) dX5_joyWith_1 ?_
  refine aw_iconst C (0 : Int32) dX5_joyWith_4 (by decide) ?_
  refine aw_istore_n C true (lv' := [(0, .ref (y 0)), (1, .int x), (2, .int (nI k)), (3, .int (0 : Int32))]) dX5_joyWith_5 (by decide) rfl rfl ?_
  refine aw_eq (lv' := [(0, .ref (y 0)), (1, .int x), (2, .int (nI k)), (3, .int (nI 0))]) (ws' := wMo cI cC y (rowOf (itr (fun p U => bif hol x (nI p) then sP U 5 p 1 else U) 0 T)) (X.1, (rowOf T), X.2.2.1, X.2.2.2.1, X.2.2.2.2.1, X.2.2.2.2.2.1, X.2.2.2.2.2.2.1, X.2.2.2.2.2.2.2.1, X.2.2.2.2.2.2.2.2.1, X.2.2.2.2.2.2.2.2.2.1, X.2.2.2.2.2.2.2.2.2.2.1, X.2.2.2.2.2.2.2.2.2.2.2.1, X.2.2.2.2.2.2.2.2.2.2.2.2.1, X.2.2.2.2.2.2.2.2.2.2.2.2.2)) (by first | rfl | (simp only [itr])) rfl (by rfl) ?_
  refine aw_loop (LV := fun i => [(0, .ref (y 0)), (1, .int x), (2, .int (nI k)), (3, .int (nI i))]) (WS := fun i => wMo cI cC y (rowOf (itr (fun p U => bif hol x (nI p) then sP U 5 p 1 else U) i T)) (X.1, (rowOf T), X.2.2.1, X.2.2.2.1, X.2.2.2.2.1, X.2.2.2.2.2.1, X.2.2.2.2.2.2.1, X.2.2.2.2.2.2.2.1, X.2.2.2.2.2.2.2.2.1, X.2.2.2.2.2.2.2.2.2.1, X.2.2.2.2.2.2.2.2.2.2.1, X.2.2.2.2.2.2.2.2.2.2.2.1, X.2.2.2.2.2.2.2.2.2.2.2.2.1, X.2.2.2.2.2.2.2.2.2.2.2.2.2)) T.1 (Inv := fun _ => True) trivial ?_ ?_
  · intro hv6
    refine aw_iload_n C dX5_joyWith_6 rfl ?_
    refine aw_aload_n C dX5_joyWith_7 rfl ?_
    refine aw_getf C 0 4 0 18 inX5 rfl (by decide) rfl k3_234 rfl rfl dX5_joyWith_8 ?_
    refine aw_iconst C (1 : Int32) dX5_joyWith_11 (by decide) ?_
    refine aw_ialdN C 1 0 1 rfl rfl rfl (by decide) (by decide) dX5_joyWith_12 ?_
    refine aw_top (y := (nI (itr (fun p U => bif hol x (nI p) then sP U 5 p 1 else U) T.1 T).1)) rfl ?_
    refine aw_pc 13 rfl ?_
    refine aw_top (y := (nI T.1)) (by rw [itr_n (fun p U => by cases hol x (nI p) <;> rfl)]) ?_
    refine aw_icmp_ge C 40 dX5_joyWith_13 (by decide) (fun c_13 => ?_) (fun c_13 => absurd c_13 (fun z => z (Int32.le_refl _)))
    refine aw_aload_n C dX5_joyWith_40 rfl ?_
    refine aw_iload_n C dX5_joyWith_41 rfl ?_
    refine aw_callVdv C (As := [.int (nI k)]) (c_X5_goes l D cI cC adK adV y (itr (fun p U => bif hol x (nI p) then sP U 5 p 1 else U) T.1 T) (X.1, (rowOf T), X.2.2.1, X.2.2.2.1, X.2.2.2.2.1, X.2.2.2.2.2.1, X.2.2.2.2.2.2.1, X.2.2.2.2.2.2.2.1, X.2.2.2.2.2.2.2.2.1, X.2.2.2.2.2.2.2.2.2.1, X.2.2.2.2.2.2.2.2.2.2.1, X.2.2.2.2.2.2.2.2.2.2.2.1, X.2.2.2.2.2.2.2.2.2.2.2.2.1, X.2.2.2.2.2.2.2.2.2.2.2.2.2) k (putOut_ok ho x) hk) k4_167 cv_X5_goes 0 4 rfl rfl rfl [0, 1, 2, 3, 4, 5, 6, 7, 8, 9, 10, 11, 12] (by decide) rfl (wr := ([] : va_W)) [] rfl (by decide) (by decide) [0, 1, 2, 3, 4, 5, 6, 7, 8, 9, 10, 11, 12] (by decide) (ws' := wMo cI cC y (rowOf (tDays k (itr (fun p U => bif hol x (nI p) then sP U 5 p 1 else U) T.1 T))) (X.1, (rowOf T), X.2.2.1, X.2.2.2.1, X.2.2.2.2.1, X.2.2.2.2.2.1, X.2.2.2.2.2.2.1, X.2.2.2.2.2.2.2.1, X.2.2.2.2.2.2.2.2.1, X.2.2.2.2.2.2.2.2.2.1, X.2.2.2.2.2.2.2.2.2.2.1, X.2.2.2.2.2.2.2.2.2.2.2.1, X.2.2.2.2.2.2.2.2.2.2.2.2.1, X.2.2.2.2.2.2.2.2.2.2.2.2.2)) rfl ⟨by decide, by decide⟩ rfl rfl ⟨by decide, by decide⟩ rfl rfl (Nat.le_of_ble_eq_true rfl) dX5_joyWith_42 ?_
    refine aw_aload_n C dX5_joyWith_45 rfl ?_
    refine aw_getf C 0 4 0 18 inX5 rfl (by decide) rfl k3_234 rfl rfl dX5_joyWith_46 ?_
    refine aw_iconst C (3 : Int32) dX5_joyWith_49 (by decide) ?_
    refine aw_ialdN C 1 0 3 rfl rfl rfl (by decide) (by decide) dX5_joyWith_50 ?_
    refine aw_top (y := ((tDays k (itr (fun p U => bif hol x (nI p) then sP U 5 p 1 else U) T.1 T)).2.1 3)) rfl ?_
    refine aw_istore_n C false (lv' := [(0, .ref (y 0)), (1, .int x), (2, .int (nI k)), (3, .int ((tDays k (itr (fun p U => bif hol x (nI p) then sP U 5 p 1 else U) T.1 T)).2.1 3))]) dX5_joyWith_51 (by decide) rfl rfl ?_
    refine aw_aload_n C dX5_joyWith_52 rfl ?_
    refine aw_pc 53 rfl ?_
    refine aw_callVdv C (As := []) (c_X5_laysBack l D cI cC adK adV y (tDays k (itr (fun p U => bif hol x (nI p) then sP U 5 p 1 else U) T.1 T)) (X.1, (rowOf T), X.2.2.1, X.2.2.2.1, X.2.2.2.2.1, X.2.2.2.2.2.1, X.2.2.2.2.2.2.1, X.2.2.2.2.2.2.2.1, X.2.2.2.2.2.2.2.2.1, X.2.2.2.2.2.2.2.2.2.1, X.2.2.2.2.2.2.2.2.2.2.1, X.2.2.2.2.2.2.2.2.2.2.2.1, X.2.2.2.2.2.2.2.2.2.2.2.2.1, X.2.2.2.2.2.2.2.2.2.2.2.2.2) ) k4_227 cv_X5_laysBack 0 4 rfl rfl rfl [0, 1, 2, 3, 4, 5, 6, 7, 8, 9, 10, 11, 12] (by decide) rfl (wr := ([] : va_W)) [] rfl (by decide) (by decide) [0, 1, 2, 3, 4, 5, 6, 7, 8, 9, 10, 11, 12] (by decide) (ws' := wMo cI cC y (rowOf T) (X.1, (rowOf T), X.2.2.1, X.2.2.2.1, X.2.2.2.2.1, X.2.2.2.2.2.1, X.2.2.2.2.2.2.1, X.2.2.2.2.2.2.2.1, X.2.2.2.2.2.2.2.2.1, X.2.2.2.2.2.2.2.2.2.1, X.2.2.2.2.2.2.2.2.2.2.1, X.2.2.2.2.2.2.2.2.2.2.2.1, X.2.2.2.2.2.2.2.2.2.2.2.2.1, X.2.2.2.2.2.2.2.2.2.2.2.2.2)) rfl ⟨by decide, by decide⟩ rfl rfl ⟨by decide, by decide⟩ rfl rfl (Nat.le_of_ble_eq_true rfl) dX5_joyWith_53 ?_
    refine aw_iload_n C dX5_joyWith_56 rfl ?_
    exact aw_iret C hr hlk dX5_joyWith_57 ⟨ri (by first | rfl | (simp only [])), by rfl⟩
  · intro i hi6 hv6 ih6
    refine aw_iload_n C dX5_joyWith_6 rfl ?_
    refine aw_aload_n C dX5_joyWith_7 rfl ?_
    refine aw_getf C 0 4 0 18 inX5 rfl (by decide) rfl k3_234 rfl rfl dX5_joyWith_8 ?_
    refine aw_iconst C (1 : Int32) dX5_joyWith_11 (by decide) ?_
    refine aw_ialdN C 1 0 1 rfl rfl rfl (by decide) (by decide) dX5_joyWith_12 ?_
    refine aw_top (y := (nI (itr (fun p U => bif hol x (nI p) then sP U 5 p 1 else U) i T).1)) rfl ?_
    refine aw_top (y := (nI T.1)) (by rw [itr_n (fun p U => by cases hol x (nI p) <;> rfl)]) ?_
    refine aw_icmp_ge C 40 dX5_joyWith_13 (by decide) (fun c_13 => absurd c_13 (nI_ge hi6 (by omega))) (fun c_13 => ?_)
    refine aw_aload_n C dX5_joyWith_16 rfl ?_
    refine aw_pc 17 rfl ?_
    refine aw_iload_n C dX5_joyWith_17 rfl ?_
    refine aw_iconst C (5 : Int32) dX5_joyWith_18 (by decide) ?_
    refine aw_aload_n C dX5_joyWith_19 rfl ?_
    refine aw_iload_n C dX5_joyWith_20 rfl ?_
    refine aw_iconst C (5 : Int32) dX5_joyWith_21 (by decide) ?_
    refine aw_callVp C (As := [.int (nI i), .int (5 : Int32)]) (c_X5_get l D cI cC adK adV y (itr (fun p U => bif hol x (nI p) then sP U 5 p 1 else U) i T) (X.1, (rowOf T), X.2.2.1, X.2.2.2.1, X.2.2.2.2.1, X.2.2.2.2.2.1, X.2.2.2.2.2.2.1, X.2.2.2.2.2.2.2.1, X.2.2.2.2.2.2.2.2.1, X.2.2.2.2.2.2.2.2.2.1, X.2.2.2.2.2.2.2.2.2.2.1, X.2.2.2.2.2.2.2.2.2.2.2.1, X.2.2.2.2.2.2.2.2.2.2.2.2.1, X.2.2.2.2.2.2.2.2.2.2.2.2.2) i 5 (by omega) (by decide)) k4_85 cv_X5_get 0 4 rfl rfl rfl [0, 1, 2, 3, 4, 5, 6, 7, 8, 9, 10, 11, 12] (by decide) rfl ⟨by decide, by decide⟩ rfl rfl ⟨by decide, by decide⟩ rfl rfl (Nat.le_of_ble_eq_true rfl) dX5_joyWith_22 ?_
    refine aw_iload_n C dX5_joyWith_25 rfl ?_
    refine aw_iload_n C dX5_joyWith_26 rfl ?_
    refine aw_ishr C dX5_joyWith_27 ?_
    refine aw_iconst C (1 : Int32) dX5_joyWith_28 (by decide) ?_
    refine aw_pc 29 rfl ?_
    refine aw_iand C dX5_joyWith_29 ?_
    refine aw_ior C dX5_joyWith_30 ?_
    refine aw_callVdv C (As := [.int (nI i), .int (5 : Int32), .int (((itr (fun p U => bif hol x (nI p) then sP U 5 p 1 else U) i T).2.2.1 5 i) ||| ((x >>> ((nI i) &&& 31)) &&& (1 : Int32)))]) (c_X5_puts l D cI cC adK adV y (itr (fun p U => bif hol x (nI p) then sP U 5 p 1 else U) i T) (X.1, (rowOf T), X.2.2.1, X.2.2.2.1, X.2.2.2.2.1, X.2.2.2.2.2.1, X.2.2.2.2.2.2.1, X.2.2.2.2.2.2.2.1, X.2.2.2.2.2.2.2.2.1, X.2.2.2.2.2.2.2.2.2.1, X.2.2.2.2.2.2.2.2.2.2.1, X.2.2.2.2.2.2.2.2.2.2.2.1, X.2.2.2.2.2.2.2.2.2.2.2.2.1, X.2.2.2.2.2.2.2.2.2.2.2.2.2) i 5 (((itr (fun p U => bif hol x (nI p) then sP U 5 p 1 else U) i T).2.2.1 5 i) ||| ((x >>> ((nI i) &&& 31)) &&& (1 : Int32))) (by omega) (by decide)) k4_69 cv_X5_puts 0 4 rfl rfl rfl [0, 1, 2, 3, 4, 5, 6, 7, 8, 9, 10, 11, 12] (by decide) rfl (wr := ([] : va_W)) [] rfl (by decide) (by decide) [0, 1, 2, 3, 4, 5, 6, 7, 8, 9, 10, 11, 12] (by decide) (ws' := wMo cI cC y (rowOf (sP (itr (fun p U => bif hol x (nI p) then sP U 5 p 1 else U) i T) 5 i (((itr (fun p U => bif hol x (nI p) then sP U 5 p 1 else U) i T).2.2.1 5 i) ||| ((x >>> ((nI i) &&& 31)) &&& (1 : Int32))))) (X.1, (rowOf T), X.2.2.1, X.2.2.2.1, X.2.2.2.2.1, X.2.2.2.2.2.1, X.2.2.2.2.2.2.1, X.2.2.2.2.2.2.2.1, X.2.2.2.2.2.2.2.2.1, X.2.2.2.2.2.2.2.2.2.1, X.2.2.2.2.2.2.2.2.2.2.1, X.2.2.2.2.2.2.2.2.2.2.2.1, X.2.2.2.2.2.2.2.2.2.2.2.2.1, X.2.2.2.2.2.2.2.2.2.2.2.2.2)) rfl ⟨by decide, by decide⟩ rfl rfl ⟨by decide, by decide⟩ rfl rfl (Nat.le_of_ble_eq_true rfl) dX5_joyWith_31 ?_
    refine aw_iinc C (nI (i + 1)) dX5_joyWith_34 rfl (inc_nI _ 1) (by decide) rfl (lv' := [(0, .ref (y 0)), (1, .int x), (2, .int (nI k)), (3, .int (nI (i + 1)))]) rfl ?_
    refine aw_goto C 6 dX5_joyWith_37 (by decide) ?_
    exact aw_eq (by first | rfl | (simp only [itr])) rfl (by rw [itr_s, ← out_step (out_ok ho x i (by omega))]) (ih6 trivial)
abbrev r_X5_isCircle : Room := { frames := 1, cells := 0, slots := 0, locals := 22 }
theorem cv_X5_isCircle : cV yX5_isCircle cX5_isCircle 4 (some .boolean) 2 := ⟨k5_49, k0_57, k5_50, k1_6, by decide, by decide, by decide +kernel⟩
set_option maxHeartbeats 4000000 in
set_option maxRecDepth 100000 in
theorem c_X5_isCircle (l : Launch) (D : va_G) (cI cC : ClassId) (adK adV : Nat → Nat) (y : Nat → Nat) (T : Tw) (X : Mr) (x : Int32) (fd : Nat) (ho : gOk T) (hf : fd < 7) : FC l yX5_isCircle (wW yX5_isCircle cX5_isCircle 4 (some .boolean)) r_X5_isCircle D (tyC cI cC) adK adV (wMo cI cC y (rowOf T) X) [.ref (y 0), .int x, .int (nI fd)] 0 0 (fQ (some (.int (b2 (mCirc T x fd)))) (wMo cI cC y (rowOf T) X)) := by
  refine FC.of (own := RX5) (by decide) rfl (Nat.le_of_ble_eq_true rfl) ?_
  intro p9 e9 s9 m9 args9 below9 meth9 c9 A9 C hr hlk hmn
  show AW p9 l e9 r_X5_isCircle s9 m9 args9 below9 meth9 c9 D A9 4 0 0 _ 0 [(0, .ref (y 0)), (1, .int x), (2, .int (nI fd))] [] _
  have hn := ho.n
  refine aw_iconst C (0 : Int32) dX5_isCircle_0 (by decide) ?_
  refine aw_istore_n C true (lv' := [(0, .ref (y 0)), (1, .int x), (2, .int (nI fd)), (3, .int (0 : Int32))]) dX5_isCircle_1 (by decide) rfl rfl ?_
  refine aw_eq (lv' := [(0, .ref (y 0)), (1, .int x), (2, .int (nI fd)), (3, .int (nI 0))]) (ws' := wMo cI cC y (rowOf T) X) (by first | rfl | (simp only [itr])) rfl (by rfl) ?_
  refine aw_loop (LV := fun i => [(0, .ref (y 0)), (1, .int x), (2, .int (nI fd)), (3, .int (nI i))]) (WS := fun i => wMo cI cC y (rowOf T) X) T.1 (Inv := fun i => allB (fun p => !cBad T x fd p) i = true) rfl ?_ ?_
  · intro hv2
    refine aw_iload_n C dX5_isCircle_2 rfl ?_
    refine aw_aload_n C dX5_isCircle_3 rfl ?_
    refine aw_getf C 0 4 0 18 inX5 rfl (by decide) rfl k3_234 rfl rfl dX5_isCircle_4 ?_
    refine aw_iconst C (1 : Int32) dX5_isCircle_7 (by decide) ?_
    refine aw_ialdN C 1 0 1 rfl rfl rfl (by decide) (by decide) dX5_isCircle_8 ?_
    refine aw_top (y := (nI T.1)) rfl ?_
    refine aw_icmp_ge C 48 dX5_isCircle_9 (by decide) (fun c_9 => ?_) (fun c_9 => absurd c_9 (fun z => z (Int32.le_refl _)))
    refine aw_iconst C (1 : Int32) dX5_isCircle_48 (by decide) ?_
    refine aw_pc 49 rfl ?_
    exact aw_bret C (b := true) hr hlk dX5_isCircle_49 rfl ⟨rb (by exact hv2.symm), by rfl⟩
  · intro i hi2 hv2 ih2
    refine aw_iload_n C dX5_isCircle_2 rfl ?_
    refine aw_aload_n C dX5_isCircle_3 rfl ?_
    refine aw_getf C 0 4 0 18 inX5 rfl (by decide) rfl k3_234 rfl rfl dX5_isCircle_4 ?_
    refine aw_iconst C (1 : Int32) dX5_isCircle_7 (by decide) ?_
    refine aw_ialdN C 1 0 1 rfl rfl rfl (by decide) (by decide) dX5_isCircle_8 ?_
    refine aw_top (y := (nI T.1)) rfl ?_
    refine aw_icmp_ge C 48 dX5_isCircle_9 (by decide) (fun c_9 => absurd c_9 (nI_ge hi2 (by omega))) (fun c_9 => ?_)
    refine aw_iload_n C dX5_isCircle_12 rfl ?_
    refine aw_iload_n C dX5_isCircle_13 rfl ?_
    refine aw_ishr C dX5_isCircle_14 ?_
    refine aw_pc 15 rfl ?_
    refine aw_iconst C (1 : Int32) dX5_isCircle_15 (by decide) ?_
    refine aw_iand C dX5_isCircle_16 ?_
    refine aw_iconst C (1 : Int32) dX5_isCircle_17 (by decide) ?_
    refine aw_icmp_ne C 42 dX5_isCircle_18 (by decide) (fun c_18 => ?_) (fun c_18 => ?_)
    · skip
      refine aw_iinc C (nI (i + 1)) dX5_isCircle_42 rfl (inc_nI _ 1) (by decide) rfl (lv' := [(0, .ref (y 0)), (1, .int x), (2, .int (nI fd)), (3, .int (nI (i + 1)))]) rfl ?_
      refine aw_goto C 2 dX5_isCircle_45 (by decide) ?_
      exact aw_eq (by first | rfl | (simp only [itr, c_18])) rfl (by first | rfl | (simp only [itr, c_18] <;> first | done | rfl)) (ih2 (allB_s hv2 (by first | exact bad_n1 c_18 | exact bad_n2 c_37)))
    · skip
      refine aw_iload_n C dX5_isCircle_21 rfl ?_
      refine aw_iconst C (1 : Int32) dX5_isCircle_22 (by decide) ?_
      refine aw_iload_n C dX5_isCircle_23 rfl ?_
      refine aw_ishl C dX5_isCircle_24 ?_
      refine aw_pc 25 rfl ?_
      refine aw_iconst C (-1 : Int32) dX5_isCircle_25 (by decide) ?_
      refine aw_ixor C dX5_isCircle_26 ?_
      refine aw_iand C dX5_isCircle_27 ?_
      refine aw_aload_n C dX5_isCircle_28 rfl ?_
      refine aw_iload_n C dX5_isCircle_29 rfl ?_
      refine aw_iload_n C dX5_isCircle_30 rfl ?_
      refine aw_callVp C (As := [.int (nI i), .int (nI fd)]) (c_X5_get l D cI cC adK adV y T X i fd (by omega) hf) k4_85 cv_X5_get 0 4 rfl rfl rfl [0, 1, 2, 3, 4, 5, 6, 7, 8, 9, 10, 11, 12] (by decide) rfl ⟨by decide, by decide⟩ rfl rfl ⟨by decide, by decide⟩ rfl rfl (Nat.le_of_ble_eq_true rfl) dX5_isCircle_31 ?_
      refine aw_iconst C (-1 : Int32) dX5_isCircle_34 (by decide) ?_
      refine aw_ixor C dX5_isCircle_35 ?_
      refine aw_iand C dX5_isCircle_36 ?_
      refine aw_pc 37 rfl ?_
      refine aw_if_eq C 42 dX5_isCircle_37 (by decide) (fun c_37 => ?_) (fun c_37 => ?_)
      · skip
        refine aw_iinc C (nI (i + 1)) dX5_isCircle_42 rfl (inc_nI _ 1) (by decide) rfl (lv' := [(0, .ref (y 0)), (1, .int x), (2, .int (nI fd)), (3, .int (nI (i + 1)))]) rfl ?_
        refine aw_goto C 2 dX5_isCircle_45 (by decide) ?_
        exact aw_eq (by first | rfl | (simp only [itr, c_18, c_37])) rfl (by first | rfl | (simp only [itr, c_18, c_37] <;> first | done | rfl)) (ih2 (allB_s hv2 (by first | exact bad_n1 c_18 | exact bad_n2 c_37)))
      · skip
        refine aw_iconst C (0 : Int32) dX5_isCircle_40 (by decide) ?_
        exact aw_bret C (b := false) hr hlk dX5_isCircle_41 rfl ⟨rb (by exact (allB_f (bad_y c_18 c_37) hi2).symm), by rfl⟩
abbrev r_X5_circle : Room := { frames := 2, cells := 0, slots := 0, locals := 45 }
theorem cv_X5_circle : cV yX5_circle cX5_circle 4 (some .int) 1 := ⟨k5_44, k5_45, k5_46, k1_6, by decide, by decide, by decide +kernel⟩
set_option maxHeartbeats 4000000 in
set_option maxRecDepth 100000 in
theorem c_X5_circle (l : Launch) (D : va_G) (cI cC : ClassId) (adK adV : Nat → Nat) (y : Nat → Nat) (T K : Tw) (ik : Bool) (F f : Nat → Int32) (n : Nat) (s1 s2 s3 kr ar : Nat → Int32) (tk : Int32) (bg en : Nat) (vl : Int64) (cr : Nat → Int32) (hk : ik = true → kr = rowOf K) (ho : gOk T) (w : Int32) : FC l yX5_circle (wW yX5_circle cX5_circle 4 (some .int)) r_X5_circle D (tyC cI cC) adK adV (wMo cI cC y (rowOf T) (kr, ar, ik, F, f, n, tk, bg, en, vl, s1, s2, s3, cr)) [.ref (y 0), .int w] 0 0 (pMo cI cC y (m_circle (T, K, ik, F, f, n, s1, s2, s3) w)) := by
  refine FC.of (own := RX5) (by decide) rfl (Nat.le_of_ble_eq_true rfl) ?_
  intro p9 e9 s9 m9 args9 below9 meth9 c9 A9 C hr hlk hmn
  show AW p9 l e9 r_X5_circle s9 m9 args9 below9 meth9 c9 D A9 4 0 0 _ 0 [(0, .ref (y 0)), (1, .int w)] [] _
  have hn := ho.n
  have pw := pow_le hn
  have pz := pow_pos9 T.1
  refine aw_iload_n C dX5_circle_0 rfl ?_
  refine aw_iconst C (0 : Int32) dX5_circle_1 (by decide) ?_
  refine aw_iconst C (1 : Int32) dX5_circle_2 (by decide) ?_
  refine aw_callSp C (As := [.int w, .int (0 : Int32), .int (1 : Int32)]) (c_X5_in1 l D cI cC adK adV w (0 : Int32) (1 : Int32)) k4_54 cs_X5_in1 [] (by decide) rfl ⟨by decide, by decide⟩ rfl rfl ⟨by decide, by decide⟩ rfl rfl (Nat.le_of_ble_eq_true rfl) dX5_circle_3 ?_
  refine aw_top (y := b2 (!decide (w < (0 : Int32)) && decide (w ≤ (1 : Int32)))) (by exact congrArg b2 (inL_le _ _ _)) ?_
  refine aw_ifne_b C 15 dX5_circle_6 (by decide) (fun c_6 => ?_) (fun c_6 => ?_)
  · skip
    rcases w01 c_6 with w0 | w0
    · skip
      refine aw_eq (lv' := [(0, .ref (y 0)), (1, .int (0 : Int32))]) (ws' := wMo cI cC y (rowOf T) (kr, ar, ik, F, f, n, tk, bg, en, vl, s1, s2, s3, cr)) (by rw [w0]) rfl rfl ?_
      refine aw_iconst C (0 : Int32) dX5_circle_15 (by decide) ?_
      refine aw_istore_n C true (lv' := [(0, .ref (y 0)), (1, .int (0 : Int32)), (2, .int (0 : Int32))]) dX5_circle_16 (by decide) rfl rfl ?_
      refine aw_iconst C (1 : Int32) dX5_circle_17 (by decide) ?_
      refine aw_pc 18 rfl ?_
      refine aw_istore_n C true (lv' := [(0, .ref (y 0)), (1, .int (0 : Int32)), (2, .int (0 : Int32)), (3, .int (1 : Int32))]) dX5_circle_18 (by decide) rfl rfl ?_
      refine aw_eq (lv' := [(0, .ref (y 0)), (1, .int (0 : Int32)), (2, .int (nI 0)), (3, .int (nI (0 + 1)))]) (ws' := wMo cI cC y (rowOf T) (kr, ar, ik, F, f, n, tk, bg, en, vl, s1, s2, s3, cr)) (by first | rfl | (simp only [itr, c_6])) rfl (by rfl) ?_
      refine aw_loopE (σ := Nat) (LV := fun i bb => [(0, .ref (y 0)), (1, .int (0 : Int32)), (2, .int (nI bb)), (3, .int (nI (i + 1)))]) (WS := fun i bb => wMo cI cC y (rowOf T) (kr, ar, ik, F, f, n, tk, bg, en, vl, s1, s2, s3, cr)) (2 ^ T.1 - 1) (Inv := fun i b => b ≤ i ∧ mCircle T 3 i = nI b) ⟨Nat.le_refl _, rfl⟩ ?_ ?_
      · intro bb hv19
        refine aw_iload_n C dX5_circle_19 rfl ?_
        refine aw_iconst C (1 : Int32) dX5_circle_20 (by decide) ?_
        refine aw_aload_n C dX5_circle_21 rfl ?_
        refine aw_getf C 0 4 0 18 inX5 rfl (by decide) rfl k3_234 rfl rfl dX5_circle_22 ?_
        refine aw_iconst C (1 : Int32) dX5_circle_25 (by decide) ?_
        refine aw_ialdN C 1 0 1 rfl rfl rfl (by decide) (by decide) dX5_circle_26 ?_
        refine aw_top (y := (nI T.1)) rfl ?_
        refine aw_ishl C dX5_circle_27 ?_
        refine aw_top (y := (nI (2 ^ T.1))) (by exact pow_bit T.1 (by omega)) ?_
        refine aw_icmp_ge C 71 dX5_circle_28 (by decide) (fun c_28 => ?_) (fun c_28 => absurd c_28 (fun z => z (nI_le (by omega) (by omega))))
        refine aw_iload_n C dX5_circle_71 rfl ?_
        refine aw_pc 72 rfl ?_
        have hm : m_circle (T, K, ik, F, f, n, s1, s2, s3) w = ((nI bb), (T, K, ik, F, f, n, s1, s2, s3)) := by first | exact Eq.trans (circ_w0 w0) (congrArg (fun z9 => (z9, (T, K, ik, F, f, n, s1, s2, s3))) hv19.2) | exact Eq.trans (circ_w1 w0) (congrArg (fun z9 => (z9, (T, K, ik, F, f, n, s1, s2, s3))) hv19.2)
        exact aw_iret C hr hlk dX5_circle_72 ⟨ri (by rw [hm]), kr, ar, tk, bg, en, vl, cr, by first | (rw [hm]; done) | (rw [hm]; rfl), by rw [hm]; exact hk⟩
      · intro i bb hi19 hv19 ih19
        obtain ⟨hb1, hb2⟩ := hv19
        refine aw_iload_n C dX5_circle_19 rfl ?_
        refine aw_iconst C (1 : Int32) dX5_circle_20 (by decide) ?_
        refine aw_aload_n C dX5_circle_21 rfl ?_
        refine aw_getf C 0 4 0 18 inX5 rfl (by decide) rfl k3_234 rfl rfl dX5_circle_22 ?_
        refine aw_iconst C (1 : Int32) dX5_circle_25 (by decide) ?_
        refine aw_ialdN C 1 0 1 rfl rfl rfl (by decide) (by decide) dX5_circle_26 ?_
        refine aw_top (y := (nI T.1)) rfl ?_
        refine aw_ishl C dX5_circle_27 ?_
        refine aw_top (y := (nI (2 ^ T.1))) (by exact pow_bit T.1 (by omega)) ?_
        refine aw_icmp_ge C 71 dX5_circle_28 (by decide) (fun c_28 => absurd c_28 (nI_ge (by omega) (by omega))) (fun c_28 => ?_)
        refine aw_iload_n C dX5_circle_31 rfl ?_
        refine aw_pc 32 rfl ?_
        refine aw_callSp C (As := [.int (nI (i + 1))]) (c_X5_bits_r l D cI cC adK adV (nI (i + 1)) ⟨_, by omega, rfl⟩) k4_105 cs_X5_bits_r [] (by decide) rfl ⟨by decide, by decide⟩ rfl rfl ⟨by decide, by decide⟩ rfl rfl (Nat.le_of_ble_eq_true rfl) dX5_circle_32 ?_
        refine aw_iload_n C dX5_circle_35 rfl ?_
        refine aw_callSp C (As := [.int (nI bb)]) (c_X5_bits_r l D cI cC adK adV (nI bb) ⟨_, by omega, rfl⟩) k4_105 cs_X5_bits_r [] (by decide) rfl ⟨by decide, by decide⟩ rfl rfl ⟨by decide, by decide⟩ rfl rfl (Nat.le_of_ble_eq_true rfl) dX5_circle_36 ?_
        refine aw_icmp_le C 63 dX5_circle_39 (by decide) (fun c_39 => ?_) (fun c_39 => ?_)
        · skip
          refine aw_iload_n C dX5_circle_63 rfl ?_
          refine aw_istore_n C false (lv' := [(0, .ref (y 0)), (1, .int (0 : Int32)), (2, .int (nI bb)), (3, .int (nI (i + 1)))]) dX5_circle_64 (by decide) rfl rfl ?_
          refine aw_iinc C (nI ((i + 1) + 1)) dX5_circle_65 rfl (inc_nI _ 1) (by decide) rfl (lv' := [(0, .ref (y 0)), (1, .int (0 : Int32)), (2, .int (nI bb)), (3, .int (nI ((i + 1) + 1)))]) rfl ?_
          refine aw_goto C 19 dX5_circle_68 (by decide) ?_
          exact aw_eq (by first | rfl | (simp only [itr, c_6, c_39])) rfl (by first | rfl | (simp only [itr, c_6, c_39] <;> first | done | rfl)) (ih19 bb (by first | exact ⟨by omega, by rw [circ_le (by rw [hb2]; exact c_39), hb2]⟩ | exact ⟨by omega, by rw [circ_y (by rw [hb2]; exact c_39) c_56]⟩ | exact ⟨by omega, by rw [circ_n (by rw [hb2]; exact c_39) c_56, hb2]⟩))
        · skip
          refine aw_aload_n C dX5_circle_42 rfl ?_
          refine aw_iload_n C dX5_circle_43 rfl ?_
          refine aw_pc 44 rfl ?_
          refine aw_iload_n C dX5_circle_44 rfl ?_
          refine aw_if_ne C 52 dX5_circle_45 (by decide) (fun c_45 => absurd c_45 (by decide)) (fun c_45 => ?_)
          refine aw_iconst C (3 : Int32) dX5_circle_48 (by decide) ?_
          refine aw_goto C 53 dX5_circle_49 (by decide) ?_
          refine aw_callVp C (As := [.int (nI (i + 1)), .int (3 : Int32)]) (c_X5_isCircle l D cI cC adK adV y T (kr, ar, ik, F, f, n, tk, bg, en, vl, s1, s2, s3, cr) (nI (i + 1)) 3 ho (by decide)) k5_47 cv_X5_isCircle 0 4 rfl rfl rfl [0, 1, 2, 3, 4, 5, 6, 7, 8, 9, 10, 11, 12] (by decide) rfl ⟨by decide, by decide⟩ rfl rfl ⟨by decide, by decide⟩ rfl rfl (Nat.le_of_ble_eq_true rfl) dX5_circle_53 ?_
          refine aw_ifeq_b C 63 dX5_circle_56 (by decide) (fun c_56 => ?_) (fun c_56 => ?_)
          · skip
            refine aw_iload_n C dX5_circle_63 rfl ?_
            refine aw_istore_n C false (lv' := [(0, .ref (y 0)), (1, .int (0 : Int32)), (2, .int (nI bb)), (3, .int (nI (i + 1)))]) dX5_circle_64 (by decide) rfl rfl ?_
            refine aw_iinc C (nI ((i + 1) + 1)) dX5_circle_65 rfl (inc_nI _ 1) (by decide) rfl (lv' := [(0, .ref (y 0)), (1, .int (0 : Int32)), (2, .int (nI bb)), (3, .int (nI ((i + 1) + 1)))]) rfl ?_
            refine aw_goto C 19 dX5_circle_68 (by decide) ?_
            exact aw_eq (by first | rfl | (simp only [itr, c_6, c_39, c_56])) rfl (by first | rfl | (simp only [itr, c_6, c_39, c_56] <;> first | done | rfl)) (ih19 bb (by first | exact ⟨by omega, by rw [circ_le (by rw [hb2]; exact c_39), hb2]⟩ | exact ⟨by omega, by rw [circ_y (by rw [hb2]; exact c_39) c_56]⟩ | exact ⟨by omega, by rw [circ_n (by rw [hb2]; exact c_39) c_56, hb2]⟩))
          · skip
            refine aw_pc 59 rfl ?_
            refine aw_iload_n C dX5_circle_59 rfl ?_
            refine aw_goto C 64 dX5_circle_60 (by decide) ?_
            refine aw_istore_n C false (lv' := [(0, .ref (y 0)), (1, .int (0 : Int32)), (2, .int (nI (i + 1))), (3, .int (nI (i + 1)))]) dX5_circle_64 (by decide) rfl rfl ?_
            refine aw_iinc C (nI ((i + 1) + 1)) dX5_circle_65 rfl (inc_nI _ 1) (by decide) rfl (lv' := [(0, .ref (y 0)), (1, .int (0 : Int32)), (2, .int (nI (i + 1))), (3, .int (nI ((i + 1) + 1)))]) rfl ?_
            refine aw_goto C 19 dX5_circle_68 (by decide) ?_
            exact aw_eq (by first | rfl | (simp only [itr, c_6, c_39, c_56])) rfl (by first | rfl | (simp only [itr, c_6, c_39, c_56] <;> first | done | rfl)) (ih19 (i + 1) (by first | exact ⟨by omega, by rw [circ_le (by rw [hb2]; exact c_39), hb2]⟩ | exact ⟨by omega, by rw [circ_y (by rw [hb2]; exact c_39) c_56]⟩ | exact ⟨by omega, by rw [circ_n (by rw [hb2]; exact c_39) c_56, hb2]⟩))
    · skip
      refine aw_eq (lv' := [(0, .ref (y 0)), (1, .int (1 : Int32))]) (ws' := wMo cI cC y (rowOf T) (kr, ar, ik, F, f, n, tk, bg, en, vl, s1, s2, s3, cr)) (by rw [w0]) rfl rfl ?_
      refine aw_iconst C (0 : Int32) dX5_circle_15 (by decide) ?_
      refine aw_istore_n C true (lv' := [(0, .ref (y 0)), (1, .int (1 : Int32)), (2, .int (0 : Int32))]) dX5_circle_16 (by decide) rfl rfl ?_
      refine aw_iconst C (1 : Int32) dX5_circle_17 (by decide) ?_
      refine aw_istore_n C true (lv' := [(0, .ref (y 0)), (1, .int (1 : Int32)), (2, .int (0 : Int32)), (3, .int (1 : Int32))]) dX5_circle_18 (by decide) rfl rfl ?_
      refine aw_eq (lv' := [(0, .ref (y 0)), (1, .int (1 : Int32)), (2, .int (nI 0)), (3, .int (nI (0 + 1)))]) (ws' := wMo cI cC y (rowOf T) (kr, ar, ik, F, f, n, tk, bg, en, vl, s1, s2, s3, cr)) (by first | rfl | (simp only [itr, c_6])) rfl (by rfl) ?_
      refine aw_loopE (σ := Nat) (LV := fun i bb => [(0, .ref (y 0)), (1, .int (1 : Int32)), (2, .int (nI bb)), (3, .int (nI (i + 1)))]) (WS := fun i bb => wMo cI cC y (rowOf T) (kr, ar, ik, F, f, n, tk, bg, en, vl, s1, s2, s3, cr)) (2 ^ T.1 - 1) (Inv := fun i b => b ≤ i ∧ mCircle T 4 i = nI b) ⟨Nat.le_refl _, rfl⟩ ?_ ?_
      · intro bb hv19
        refine aw_iload_n C dX5_circle_19 rfl ?_
        refine aw_pc 20 rfl ?_
        refine aw_iconst C (1 : Int32) dX5_circle_20 (by decide) ?_
        refine aw_aload_n C dX5_circle_21 rfl ?_
        refine aw_getf C 0 4 0 18 inX5 rfl (by decide) rfl k3_234 rfl rfl dX5_circle_22 ?_
        refine aw_iconst C (1 : Int32) dX5_circle_25 (by decide) ?_
        refine aw_ialdN C 1 0 1 rfl rfl rfl (by decide) (by decide) dX5_circle_26 ?_
        refine aw_top (y := (nI T.1)) rfl ?_
        refine aw_ishl C dX5_circle_27 ?_
        refine aw_top (y := (nI (2 ^ T.1))) (by exact pow_bit T.1 (by omega)) ?_
        refine aw_icmp_ge C 71 dX5_circle_28 (by decide) (fun c_28 => ?_) (fun c_28 => absurd c_28 (fun z => z (nI_le (by omega) (by omega))))
        refine aw_iload_n C dX5_circle_71 rfl ?_
        have hm : m_circle (T, K, ik, F, f, n, s1, s2, s3) w = ((nI bb), (T, K, ik, F, f, n, s1, s2, s3)) := by first | exact Eq.trans (circ_w0 w0) (congrArg (fun z9 => (z9, (T, K, ik, F, f, n, s1, s2, s3))) hv19.2) | exact Eq.trans (circ_w1 w0) (congrArg (fun z9 => (z9, (T, K, ik, F, f, n, s1, s2, s3))) hv19.2)
        exact aw_iret C hr hlk dX5_circle_72 ⟨ri (by rw [hm]), kr, ar, tk, bg, en, vl, cr, by first | (rw [hm]; done) | (rw [hm]; rfl), by rw [hm]; exact hk⟩
      · intro i bb hi19 hv19 ih19
        obtain ⟨hb1, hb2⟩ := hv19
        refine aw_iload_n C dX5_circle_19 rfl ?_
        refine aw_pc 20 rfl ?_
        refine aw_iconst C (1 : Int32) dX5_circle_20 (by decide) ?_
        refine aw_aload_n C dX5_circle_21 rfl ?_
        refine aw_getf C 0 4 0 18 inX5 rfl (by decide) rfl k3_234 rfl rfl dX5_circle_22 ?_
        refine aw_iconst C (1 : Int32) dX5_circle_25 (by decide) ?_
        refine aw_ialdN C 1 0 1 rfl rfl rfl (by decide) (by decide) dX5_circle_26 ?_
        refine aw_top (y := (nI T.1)) rfl ?_
        refine aw_ishl C dX5_circle_27 ?_
        refine aw_top (y := (nI (2 ^ T.1))) (by exact pow_bit T.1 (by omega)) ?_
        refine aw_icmp_ge C 71 dX5_circle_28 (by decide) (fun c_28 => absurd c_28 (nI_ge (by omega) (by omega))) (fun c_28 => ?_)
        refine aw_iload_n C dX5_circle_31 rfl ?_
        refine aw_callSp C (As := [.int (nI (i + 1))]) (c_X5_bits_r l D cI cC adK adV (nI (i + 1)) ⟨_, by omega, rfl⟩) k4_105 cs_X5_bits_r [] (by decide) rfl ⟨by decide, by decide⟩ rfl rfl ⟨by decide, by decide⟩ rfl rfl (Nat.le_of_ble_eq_true rfl) dX5_circle_32 ?_
        refine aw_iload_n C dX5_circle_35 rfl ?_
        refine aw_pc 36 rfl ?_
        refine aw_callSp C (As := [.int (nI bb)]) (c_X5_bits_r l D cI cC adK adV (nI bb) ⟨_, by omega, rfl⟩) k4_105 cs_X5_bits_r [] (by decide) rfl ⟨by decide, by decide⟩ rfl rfl ⟨by decide, by decide⟩ rfl rfl (Nat.le_of_ble_eq_true rfl) dX5_circle_36 ?_
        refine aw_icmp_le C 63 dX5_circle_39 (by decide) (fun c_39 => ?_) (fun c_39 => ?_)
        · skip
          refine aw_iload_n C dX5_circle_63 rfl ?_
          refine aw_istore_n C false (lv' := [(0, .ref (y 0)), (1, .int (1 : Int32)), (2, .int (nI bb)), (3, .int (nI (i + 1)))]) dX5_circle_64 (by decide) rfl rfl ?_
          refine aw_iinc C (nI ((i + 1) + 1)) dX5_circle_65 rfl (inc_nI _ 1) (by decide) rfl (lv' := [(0, .ref (y 0)), (1, .int (1 : Int32)), (2, .int (nI bb)), (3, .int (nI ((i + 1) + 1)))]) rfl ?_
          refine aw_goto C 19 dX5_circle_68 (by decide) ?_
          exact aw_eq (by first | rfl | (simp only [itr, c_6, c_39])) rfl (by first | rfl | (simp only [itr, c_6, c_39] <;> first | done | rfl)) (ih19 bb (by first | exact ⟨by omega, by rw [circ_le (by rw [hb2]; exact c_39), hb2]⟩ | exact ⟨by omega, by rw [circ_y (by rw [hb2]; exact c_39) c_56]⟩ | exact ⟨by omega, by rw [circ_n (by rw [hb2]; exact c_39) c_56, hb2]⟩))
        · skip
          refine aw_aload_n C dX5_circle_42 rfl ?_
          refine aw_iload_n C dX5_circle_43 rfl ?_
          refine aw_iload_n C dX5_circle_44 rfl ?_
          refine aw_if_ne C 52 dX5_circle_45 (by decide) (fun c_45 => ?_) (fun c_45 => absurd c_45 (by decide))
          refine aw_pc 52 rfl ?_
          refine aw_iconst C (4 : Int32) dX5_circle_52 (by decide) ?_
          refine aw_callVp C (As := [.int (nI (i + 1)), .int (4 : Int32)]) (c_X5_isCircle l D cI cC adK adV y T (kr, ar, ik, F, f, n, tk, bg, en, vl, s1, s2, s3, cr) (nI (i + 1)) 4 ho (by decide)) k5_47 cv_X5_isCircle 0 4 rfl rfl rfl [0, 1, 2, 3, 4, 5, 6, 7, 8, 9, 10, 11, 12] (by decide) rfl ⟨by decide, by decide⟩ rfl rfl ⟨by decide, by decide⟩ rfl rfl (Nat.le_of_ble_eq_true rfl) dX5_circle_53 ?_
          refine aw_ifeq_b C 63 dX5_circle_56 (by decide) (fun c_56 => ?_) (fun c_56 => ?_)
          · skip
            refine aw_iload_n C dX5_circle_63 rfl ?_
            refine aw_istore_n C false (lv' := [(0, .ref (y 0)), (1, .int (1 : Int32)), (2, .int (nI bb)), (3, .int (nI (i + 1)))]) dX5_circle_64 (by decide) rfl rfl ?_
            refine aw_iinc C (nI ((i + 1) + 1)) dX5_circle_65 rfl (inc_nI _ 1) (by decide) rfl (lv' := [(0, .ref (y 0)), (1, .int (1 : Int32)), (2, .int (nI bb)), (3, .int (nI ((i + 1) + 1)))]) rfl ?_
            refine aw_goto C 19 dX5_circle_68 (by decide) ?_
            exact aw_eq (by first | rfl | (simp only [itr, c_6, c_39, c_56])) rfl (by first | rfl | (simp only [itr, c_6, c_39, c_56] <;> first | done | rfl)) (ih19 bb (by first | exact ⟨by omega, by rw [circ_le (by rw [hb2]; exact c_39), hb2]⟩ | exact ⟨by omega, by rw [circ_y (by rw [hb2]; exact c_39) c_56]⟩ | exact ⟨by omega, by rw [circ_n (by rw [hb2]; exact c_39) c_56, hb2]⟩))
          · skip
            refine aw_iload_n C dX5_circle_59 rfl ?_
            refine aw_goto C 64 dX5_circle_60 (by decide) ?_
            refine aw_istore_n C false (lv' := [(0, .ref (y 0)), (1, .int (1 : Int32)), (2, .int (nI (i + 1))), (3, .int (nI (i + 1)))]) dX5_circle_64 (by decide) rfl rfl ?_
            refine aw_pc 65 rfl ?_
            refine aw_iinc C (nI ((i + 1) + 1)) dX5_circle_65 rfl (inc_nI _ 1) (by decide) rfl (lv' := [(0, .ref (y 0)), (1, .int (1 : Int32)), (2, .int (nI (i + 1))), (3, .int (nI ((i + 1) + 1)))]) rfl ?_
            refine aw_goto C 19 dX5_circle_68 (by decide) ?_
            exact aw_eq (by first | rfl | (simp only [itr, c_6, c_39, c_56])) rfl (by first | rfl | (simp only [itr, c_6, c_39, c_56] <;> first | done | rfl)) (ih19 (i + 1) (by first | exact ⟨by omega, by rw [circ_le (by rw [hb2]; exact c_39), hb2]⟩ | exact ⟨by omega, by rw [circ_y (by rw [hb2]; exact c_39) c_56]⟩ | exact ⟨by omega, by rw [circ_n (by rw [hb2]; exact c_39) c_56, hb2]⟩))
  · skip
    refine aw_aload_n C dX5_circle_9 rfl ?_
    refine aw_iconst C (0 : Int32) dX5_circle_10 (by decide) ?_
    refine aw_callVd C (As := [.int (0 : Int32)]) (c_X5_no l D cI cC adK adV y T (kr, ar, ik, F, f, n, tk, bg, en, vl, s1, s2, s3, cr) 0 (by decide)) k4_60 cv_X5_no 0 4 rfl rfl rfl [0, 1, 2, 3, 4, 5, 6, 7, 8, 9, 10, 11, 12] (by decide) rfl (wr := ([] : va_W)) [] rfl (by decide) (by decide) [0, 1, 2, 3, 4, 5, 6, 7, 8, 9, 10, 11, 12] (by decide) (ws' := wMo cI cC y (rowOf T) (kr, ar, ik, (upd F 0 (F 0 + 1)), f, n, tk, bg, en, vl, s1, s2, s3, cr)) rfl ⟨by decide, by decide⟩ rfl rfl ⟨by decide, by decide⟩ rfl rfl (Nat.le_of_ble_eq_true rfl) dX5_circle_11 ?_
    have hm : m_circle (T, K, ik, F, f, n, s1, s2, s3) w = ((fno 0), (T, K, ik, (upd F 0 (F 0 + 1)), f, n, s1, s2, s3)) := by exact circ_wn c_6
    exact aw_iret C hr hlk dX5_circle_14 ⟨ri (by rw [hm]), kr, ar, tk, bg, en, vl, cr, by first | (rw [hm]; done) | (rw [hm]; rfl), by rw [hm]; exact hk⟩
