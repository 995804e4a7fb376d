/-! BareThursday: what is looked for -/
def mSo (T : Tw) (u v : Nat) (w : Int32) : Bool := if w = 0 then tMut T 3 u v else if w = 1 then tMut T 4 u v else decide (tFar T u v = 0)
def mFirst (G : Sg) (c : Nat → Bool) : Int32 × Sg := bif decide (fst9 c 201 < 201) then (nI (fst9 c 201), G) else gno G 3
theorem mFirst_at {G : Sg} {c : Nat → Bool} {i : Nat} (h : ∀ k, k < i → c k = false) (hc : c i = true) (hi : i < 201) : mFirst G c = (nI i, G) := by
  unfold mFirst
  rw [fst9_at h hc hi, decide_eq_true hi]
  rfl
theorem mFirst_no {G : Sg} {c : Nat → Bool} (h : ∀ k, k < 201 → c k = false) : mFirst G c = gno G 3 := by
  unfold mFirst
  rw [fst9_none h]
  rfl
def m_when (G : Sg) (u v w : Int32) : Int32 × Sg := bif mTwo G.1 u v && (!decide (w < 0) && decide (w ≤ 2)) then mFirst G (fun k => mSo (tDays k G.1) (ix u) (ix v) w) else gno G 0
def m_known (G : Sg) : Int32 × Sg := mFirst G (fun k => !decide (mKnowers (tDays k G.1) = 0))
def m_passed (G : Sg) (u v : Int32) : Int32 × Sg := bif mThere G.1 u && (!decide (v < 0) && decide (v ≤ 9999)) then mFirst G (fun k => !decide (mTrait (tDays k G.1) (ix u) 6 < v)) else gno G 0
theorem put_n (T : Tw) (p : Nat) (w v : Int32) : (mPut T p w v).1 = T.1 := by
  unfold mPut
  repeat' split
  all_goals rfl
def mBest (T : Tw) (u : Nat) (w : Int32) (k : Nat) (vals : Nat) : Int32 × Int32 := itr (fun v p => bif decide ((tDays k (mPut T u w (nI v))).2.1 3 ≤ p.2) then p else (nI v, (tDays k (mPut T u w (nI v))).2.1 3)) vals ((0 : Int32), (-1 : Int32))
theorem best_le {T : Tw} {u k i : Nat} {w : Int32} (h : (tDays k (mPut T u w (nI i))).2.1 3 ≤ (mBest T u w k i).2) : mBest T u w k (i + 1) = mBest T u w k i := by
  show (bif decide ((tDays k (mPut T u w (nI i))).2.1 3 ≤ (mBest T u w k i).2) then mBest T u w k i else _) = _
  rw [decide_eq_true h]
  rfl
theorem best_gt {T : Tw} {u k i : Nat} {w : Int32} (h : ¬ (tDays k (mPut T u w (nI i))).2.1 3 ≤ (mBest T u w k i).2) : mBest T u w k (i + 1) = (nI i, (tDays k (mPut T u w (nI i))).2.1 3) := by
  show (bif decide ((tDays k (mPut T u w (nI i))).2.1 3 ≤ (mBest T u w k i).2) then mBest T u w k i else _) = _
  rw [decide_eq_false h]
  rfl
def m_most (G : Sg) (u w : Int32) (vals : Nat) (k : Int32) : Int32 × Sg := bif mThere G.1 u && (!decide (k < 0) && decide (k ≤ 60)) then ((mBest G.1 (ix u) w (ix k) vals).1, G) else gno G 0
def m_standFor (G : Sg) (u k : Int32) : Int32 × Sg := m_most G u 1 16 k
def m_guiseFor (G : Sg) (u k : Int32) : Int32 × Sg := m_most G u 2 12 k
def m_kindFor (G : Sg) (u k : Int32) : Int32 × Sg := m_most G u 0 7 k
/-- whether JOY stays as it is for k days, if these are out: up to the first rise -/
def sJ (T : Tw) (x : Int32) (k : Nat) : Nat := fst9 (fun i => !decide ((tDays i (tPutOut T x)).2.1 3 = T.2.1 3)) k
def mStay (T : Tw) (x : Int32) (k : Nat) : Bool := decide ((tDays (sJ T x k) (tPutOut T x)).2.1 3 = T.2.1 3)
def pBb (cI : ClassId) (z : Nat → Nat) (b : Bool) (G : Sg) : Option Value → va_W → Prop := fun r w => r = some (.int (b2 b)) ∧ pBaW cI z G w
def dkC (T : Tw) (k sz x : Nat) : Bool := decide (bcE (nI x) = nI sz) && mStay T (nI x) k
def dkR (T : Tw) (k sz : Nat) : Nat := fst9 (dkC T k sz) (2 ^ T.1)
def dkS (T : Tw) (k : Nat) : Nat := fst9 (fun sz => decide (dkR T k sz < 2 ^ T.1)) (T.1 + 1)
def m_dark (G : Sg) (k : Int32) : Int32 × Sg := bif !decide (k < 0) && decide (k ≤ 24) then (bif decide (dkS G.1 (ix k) < G.1.1 + 1) then (nI (dkR G.1 (ix k) (dkS G.1 (ix k))), G) else gno G 3) else gno G 0
def mCircle (T : Tw) (f : Nat) (j : Nat) : Int32 := itr (fun i best => bif decide (bcE (nI (i + 1)) ≤ bcE best) then best else bif mCirc T (nI (i + 1)) f then nI (i + 1) else best) j 0
theorem circ_le {T : Tw} {f j : Nat} (h : bcE (nI (j + 1)) ≤ bcE (mCircle T f j)) : mCircle T f (j + 1) = mCircle T f j := by
  show (bif decide (bcE (nI (j + 1)) ≤ bcE (mCircle T f j)) then mCircle T f j else _) = _
  rw [decide_eq_true h]
  rfl
theorem circ_y {T : Tw} {f j : Nat} (h : ¬ bcE (nI (j + 1)) ≤ bcE (mCircle T f j)) (c : mCirc T (nI (j + 1)) f = true) : mCircle T f (j + 1) = nI (j + 1) := by
  show (bif decide (bcE (nI (j + 1)) ≤ bcE (mCircle T f j)) then mCircle T f j else bif mCirc T (nI (j + 1)) f then nI (j + 1) else mCircle T f j) = _
  rw [decide_eq_false h, c]
  rfl
theorem circ_n {T : Tw} {f j : Nat} (h : ¬ bcE (nI (j + 1)) ≤ bcE (mCircle T f j)) (c : mCirc T (nI (j + 1)) f = false) : mCircle T f (j + 1) = mCircle T f j := by
  show (bif decide (bcE (nI (j + 1)) ≤ bcE (mCircle T f j)) then mCircle T f j else bif mCirc T (nI (j + 1)) f then nI (j + 1) else mCircle T f j) = _
  rw [decide_eq_false h, c]
  rfl
def m_circle (G : Sg) (w : Int32) : Int32 × Sg := bif decide (w = 0) || decide (w = 1) then (mCircle G.1 (if w = 1 then 4 else 3) (2 ^ G.1.1 - 1), G) else gno G 0
theorem evb_pow : ∀ n, n < 9 → bitOf (nI n) - 1 = nI (2 ^ n - 1) ∧ 2 ^ n ≤ 256 := by decide +kernel
theorem evb_nI {T : Tw} (hn : T.1 ≤ 8) : evb T = nI (2 ^ T.1 - 1) := (evb_pow T.1 (by omega)).1
theorem pow_le {T : Tw} (hn : T.1 ≤ 8) : 2 ^ T.1 ≤ 256 := (evb_pow T.1 (by omega)).2
theorem pow_pos9 (n : Nat) : 0 < 2 ^ n := Nat.pow_pos (by decide)
/-- whom one met, day by day, as a sheet tells -/
def tOk (T : Tw) (u : Nat) (g : Nat → Int32) (i : Nat) : Bool := decide (g i = -1) || decide (g i = mTrait (tDays i T) u 3)
def mTells (T : Tw) (u : Nat) (g : Nat → Int32) (k : Nat) : Bool := allB (tOk T u g) k
theorem day_pred {i : Nat} {R : Tw} (h : ¬ i = 0) : tDay (tDays (i - 1) R) = tDays i R := by
  cases i with
  | zero => exact absurd rfl h
  | succ j => rfl
def mFit (T : Tw) (u : Nat) (w : Int32) (g : Nat → Int32) (k vals : Nat) : Int32 := setBy (fun v => mTells (mPut T u w (nI v)) u g k) vals
def shRow (G : Sg) (s : Nat) : Nat → Int32 := fun i => G.2.2.2.2.2.2.2.2 (s * 40 + i)
def m_fit (G : Sg) (s u w : Int32) (vals : Nat) : Int32 × Sg := bif in0 s 4 then (bif decide (G.2.2.2.2.2.2.1 (ix s) = 0) then gno G 5 else bif mThere G.1 u then (mFit G.1 (ix u) w (shRow G (ix s)) (ix (G.2.2.2.2.2.2.2.1 (ix s))) vals, G) else gno G 0) else gno G 0
def m_fits (G : Sg) (s u : Int32) : Int32 × Sg := m_fit G s u 2 12
def m_kinds (G : Sg) (s u : Int32) : Int32 × Sg := m_fit G s u 0 7

abbrev r_X4_isSo : Room := { frames := 3, cells := 0, slots := 0, locals := 65 }
theorem cs_X4_isSo : cS yX4_isSo cX4_isSo 4 (some .boolean) 4 := ⟨k2_129, k2_130, k1_1, by decide, by decide, by decide +kernel⟩
set_option maxHeartbeats 4000000 in
set_option maxRecDepth 100000 in
theorem c_X4_isSo (l : Launch) (D : va_G) (cI cC : ClassId) (adK adV : Nat → Nat) (h : Nat) (a : Nat → Nat) (T : Tw) (u : Nat) (v : Nat) (w : Int32) (hu : u < 8) (hv : v < 8) : FC l yX4_isSo (wW yX4_isSo cX4_isSo 4 (some .boolean)) r_X4_isSo D (tyC cI cC) adK adV (wTo cI h a T) [.ref h, .int (nI u), .int (nI v), .int w] 0 0 (fQ (some (.int (b2 (mSo T u v w)))) (wTo cI h a T)) := by
  refine FC.of (own := RX4) (by decide) rfl (Nat.le_of_ble_eq_true rfl) ?_
  intro p9 e9 s9 m9 args9 below9 meth9 c9 A9 C hr hlk hmn
  show AW p9 l e9 r_X4_isSo s9 m9 args9 below9 meth9 c9 D A9 4 0 0 _ 0 [(0, .ref h), (1, .int (nI u)), (2, .int (nI v)), (3, .int w)] [] _
  refine aw_iload_n C dX4_isSo_0 rfl ?_
  by_cases s_1_0 : w = (0 : Int32)
  · skip
    refine aw_look C 28 dX4_isSo_1 (by decide) (by rw [s_1_0] <;> rfl) (by decide) ?_
    refine aw_aload_n C dX4_isSo_28 rfl ?_
    refine aw_iload_n C dX4_isSo_29 rfl ?_
    refine aw_iload_n C dX4_isSo_30 rfl ?_
    refine aw_callVp C (As := [.int (nI u), .int (nI v)]) (c_X3_bothMet l D cI cC adK adV h a T u v (by omega) (by omega)) k2_20 cv_X3_bothMet 0 2 rfl rfl rfl [0, 1, 2, 3, 4, 5, 6, 7, 8] (by decide) rfl ⟨by decide, by decide⟩ rfl rfl ⟨by decide, by decide⟩ rfl rfl (Nat.le_of_ble_eq_true rfl) dX4_isSo_31 ?_
    exact aw_bret C (b := (tMut T 3 u v)) hr hlk dX4_isSo_34 rfl ⟨rb (by simp only [mSo, if_pos s_1_0, decide_true, decide_false, Bool.not_true, Bool.not_false, Bool.true_and, Bool.false_and, Bool.and_true, Bool.and_false, Bool.true_or, Bool.false_or, Bool.or_true, Bool.or_false, cond_true, cond_false, eq_self, if_true, if_false, ite_true, ite_false]), by rfl⟩
  by_cases s_1_1 : w = (1 : Int32)
  · skip
    refine aw_look C 35 dX4_isSo_1 (by decide) (by rw [s_1_1] <;> rfl) (by decide) ?_
    refine aw_aload_n C dX4_isSo_35 rfl ?_
    refine aw_iload_n C dX4_isSo_36 rfl ?_
    refine aw_pc 37 rfl ?_
    refine aw_iload_n C dX4_isSo_37 rfl ?_
    refine aw_callVp C (As := [.int (nI u), .int (nI v)]) (c_X3_bothKnow l D cI cC adK adV h a T u v (by omega) (by omega)) k2_30 cv_X3_bothKnow 0 2 rfl rfl rfl [0, 1, 2, 3, 4, 5, 6, 7, 8] (by decide) rfl ⟨by decide, by decide⟩ rfl rfl ⟨by decide, by decide⟩ rfl rfl (Nat.le_of_ble_eq_true rfl) dX4_isSo_38 ?_
    exact aw_bret C (b := (tMut T 4 u v)) hr hlk dX4_isSo_41 rfl ⟨rb (by simp only [mSo, if_pos s_1_1, if_neg s_1_0, decide_true, decide_false, Bool.not_true, Bool.not_false, Bool.true_and, Bool.false_and, Bool.and_true, Bool.and_false, Bool.true_or, Bool.false_or, Bool.or_true, Bool.or_false, cond_true, cond_false, eq_self, if_true, if_false, ite_true, ite_false]), by rfl⟩
  refine aw_look C (off := 41) 42 dX4_isSo_1 (by decide) (by have q0 := ne_toInt s_1_0 (z := 0) rfl; have q1 := ne_toInt s_1_1 (z := 1) rfl; simp [Op.lookupswitch.offset, q0, Ne.symm q0, q1, Ne.symm q1]) (by decide) ?_
  refine aw_aload_n C dX4_isSo_42 rfl ?_
  refine aw_iload_n C dX4_isSo_43 rfl ?_
  refine aw_iload_n C dX4_isSo_44 rfl ?_
  refine aw_callVp C (As := [.int (nI u), .int (nI v)]) (c_X3_distance l D cI cC adK adV h a T u v (by omega) (by omega)) k1_238 cv_X3_distance 0 2 rfl rfl rfl [0, 1, 2, 3, 4, 5, 6, 7, 8] (by decide) rfl ⟨by decide, by decide⟩ rfl rfl ⟨by decide, by decide⟩ rfl rfl (Nat.le_of_ble_eq_true rfl) dX4_isSo_45 ?_
  refine aw_if_ne C 55 dX4_isSo_48 (by decide) (fun c_48 => ?_) (fun c_48 => ?_)
  · skip
    refine aw_iconst C (0 : Int32) dX4_isSo_55 (by decide) ?_
    exact aw_bret C (b := false) hr hlk dX4_isSo_56 rfl ⟨rb (by simp only [mSo, if_neg s_1_0, if_neg s_1_1, c_48, decide_true, decide_false, Bool.not_true, Bool.not_false, Bool.true_and, Bool.false_and, Bool.and_true, Bool.and_false, Bool.true_or, Bool.false_or, Bool.or_true, Bool.or_false, cond_true, cond_false, eq_self, if_true, if_false, ite_true, ite_false]), by rfl⟩
  · skip
    refine aw_pc 51 rfl ?_
    refine aw_iconst C (1 : Int32) dX4_isSo_51 (by decide) ?_
    refine aw_goto C 56 dX4_isSo_52 (by decide) ?_
    exact aw_bret C (b := true) hr hlk dX4_isSo_56 rfl ⟨rb (by simp only [mSo, if_neg s_1_0, if_neg s_1_1, c_48, decide_true, decide_false, Bool.not_true, Bool.not_false, Bool.true_and, Bool.false_and, Bool.and_true, Bool.and_false, Bool.true_or, Bool.false_or, Bool.or_true, Bool.or_false, cond_true, cond_false, eq_self, if_true, if_false, ite_true, ite_false]), by rfl⟩
abbrev r_X4_when : Room := { frames := 5, cells := 0, slots := 0, locals := 110 }
theorem cv_X4_when : cV yX4_when cX4_when 5 (some .int) 3 := ⟨k2_125, k2_126, k2_127, k1_1, by decide, by decide, by decide +kernel⟩
set_option maxHeartbeats 4000000 in
set_option maxRecDepth 100000 in
theorem c_X4_when (l : Launch) (D : va_G) (cI cC : ClassId) (adK adV : Nat → Nat) (z : Nat → Nat) (T R K : Tw) (ik : Bool) (F f : Nat → Int32) (n : Nat) (tk : Int32) (bg en : Nat) (nm : Int32) (s1 s2 s3 : Nat → Int32) (u : Int32) (v : Int32) (w : Int32) (hn : T.1 ≤ 8) : FC l yX4_when (wW yX4_when cX4_when 5 (some .int)) r_X4_when D (tyC cI cC) adK adV (wBa cI z T R K ik F f n tk bg en nm s1 s2 s3) [.ref (z 0), .int u, .int v, .int w] 0 0 (pBa cI z (m_when (T, K, ik, F, f, n, s1, s2, s3) u v w)) := by
  refine FC.of (own := RX4) (by decide) rfl (Nat.le_of_ble_eq_true rfl) ?_
  intro p9 e9 s9 m9 args9 below9 meth9 c9 A9 C hr hlk hmn
  show AW p9 l e9 r_X4_when s9 m9 args9 below9 meth9 c9 D A9 5 0 0 _ 0 [(0, .ref (z 0)), (1, .int u), (2, .int v), (3, .int w)] [] _
  refine aw_eq (lv' := [(0, .ref (z 0)), (1, .int u), (2, .int v), (3, .int w)]) (ws' := fl [wMa cI z ik F, wTo cI (z 2) (zT z) T, wTo cI (z 3) (zR z) R, wTo cI (z 4) (zK z) K, wTp cI (z 5) (z 6) f n tk bg en nm, wSh cI (z 7) (zS z) s1 s2 s3]) rfl rfl rfl ?_
  have J21 : m_when (T, K, ik, F, f, n, s1, s2, s3) u v w = gno (T, K, ik, F, f, n, s1, s2, s3) 0 → AW p9 l e9 r_X4_when s9 m9 args9 below9 meth9 c9 D A9 5 0 0 (aQ below9 args9 s9 D A9 0 0 (pBa cI z (m_when (T, K, ik, F, f, n, s1, s2, s3) u v w))) 21 [(0, .ref (z 0))] [] (fl [wMa cI z ik F, wTo cI (z 2) (zT z) T, wTo cI (z 3) (zR z) R, wTo cI (z 4) (zK z) K, wTp cI (z 5) (z 6) f n tk bg en nm, wSh cI (z 7) (zS z) s1 s2 s3]) := by
    intro hj
    refine aw_aload_n C dX4_when_21 rfl ?_
    refine aw_iconst C (0 : Int32) dX4_when_22 (by decide) ?_
    refine aw_gVd C (As := [.int (0 : Int32)]) (c_X4_finding l D cI cC adK adV z ik F 0 (by decide)) k1_146 cv_X4_finding 3 rfl rfl rfl [0, 1, 2, 3, 4, 5] (fl1 _) rfl 6 rfl (by decide) (gc := [wMa cI z ik F]) (gr := [wTo cI (z 2) (zT z) T, wTo cI (z 3) (zR z) R, wTo cI (z 4) (zK z) K, wTp cI (z 5) (z 6) f n tk bg en nm, wSh cI (z 7) (zS z) s1 s2 s3]) (gc1 := [wMa cI z ik (upd F 0 (F 0 + 1))]) (gs' := [wMa cI z ik (upd F 0 (F 0 + 1)), wTo cI (z 2) (zT z) T, wTo cI (z 3) (zR z) R, wTo cI (z 4) (zK z) K, wTp cI (z 5) (z 6) f n tk bg en nm, wSh cI (z 7) (zS z) s1 s2 s3]) (fl1 _) rfl rfl ⟨by decide, by decide⟩ rfl rfl ⟨by decide, by decide⟩ rfl rfl (Nat.le_of_ble_eq_true rfl) dX4_when_23 ?_
    have hm : m_when (T, K, ik, F, f, n, s1, s2, s3) u v w = ((fno 0), (T, K, ik, (upd F 0 (F 0 + 1)), f, n, s1, s2, s3)) := by rw [hj]; rfl
    exact aw_iret C hr hlk dX4_when_26 ⟨ri (by rw [hm]), R, tk, bg, en, nm, by rw [hm]; rfl⟩
  refine aw_aload_n C dX4_when_0 rfl ?_
  refine aw_getf C 0 3 0 7 inX4 rfl (by decide) rfl k1_117 rfl rfl dX4_when_1 ?_
  refine aw_iload_n C dX4_when_4 rfl ?_
  refine aw_iload_n C dX4_when_5 rfl ?_
  refine aw_gVp C (As := [.int u, .int v]) (c_X3_areTwo l D cI cC adK adV (z 2) (zT z) T u v) k1_234 cv_X3_areTwo 2 rfl rfl rfl [1, 0, 2, 3, 4, 5] (fl1 _) rfl 6 rfl (by decide) ⟨by decide, by decide⟩ rfl rfl ⟨by decide, by decide⟩ rfl rfl (Nat.le_of_ble_eq_true rfl) dX4_when_6 ?_
  refine aw_pc 9 rfl ?_
  refine aw_ifeq_b C 21 dX4_when_9 (by decide) (fun c_9 => ?_) (fun c_9 => ?_)
  · skip
    refine aw_sub (lv' := [(0, .ref (z 0))]) [0] rfl ?_
    exact J21 (by simp only [m_when, c_9, decide_true, decide_false, Bool.not_true, Bool.not_false, Bool.true_and, Bool.false_and, Bool.and_true, Bool.and_false, Bool.true_or, Bool.false_or, Bool.or_true, Bool.or_false, cond_true, cond_false, eq_self, if_true, if_false, ite_true, ite_false] <;> rfl)
  · skip
    refine aw_iload_n C dX4_when_12 rfl ?_
    refine aw_if_lt C 21 dX4_when_13 (by decide) (fun c_13 => ?_) (fun c_13 => ?_)
    · skip
      refine aw_sub (lv' := [(0, .ref (z 0))]) [0] rfl ?_
      exact J21 (by simp only [m_when, c_9, c_13, decide_true, decide_false, Bool.not_true, Bool.not_false, Bool.true_and, Bool.false_and, Bool.and_true, Bool.and_false, Bool.true_or, Bool.false_or, Bool.or_true, Bool.or_false, cond_true, cond_false, eq_self, if_true, if_false, ite_true, ite_false] <;> rfl)
    · skip
      refine aw_iload_n C dX4_when_16 rfl ?_
      refine aw_iconst C (2 : Int32) dX4_when_17 (by decide) ?_
      refine aw_icmp_le C 27 dX4_when_18 (by decide) (fun c_18 => ?_) (fun c_18 => ?_)
      · skip
        obtain ⟨q1, q2, q3⟩ := two_u c_9
        have l1 := there_lt hn q1
        have l2 := there_lt hn q2
        have e1 : u = nI (ix u) := there_ix q1
        refine aw_eq (lv' := [(0, .ref (z 0)), (1, .int (nI (ix u))), (2, .int v), (3, .int w)]) (ws' := fl [wMa cI z ik F, wTo cI (z 2) (zT z) T, wTo cI (z 3) (zR z) R, wTo cI (z 4) (zK z) K, wTp cI (z 5) (z 6) f n tk bg en nm, wSh cI (z 7) (zS z) s1 s2 s3]) (by rw [← e1]) rfl rfl ?_
        have e2 : v = nI (ix v) := there_ix q2
        refine aw_eq (lv' := [(0, .ref (z 0)), (1, .int (nI (ix u))), (2, .int (nI (ix v))), (3, .int w)]) (ws' := fl [wMa cI z ik F, wTo cI (z 2) (zT z) T, wTo cI (z 3) (zR z) R, wTo cI (z 4) (zK z) K, wTp cI (z 5) (z 6) f n tk bg en nm, wSh cI (z 7) (zS z) s1 s2 s3]) (by rw [← e2]) rfl rfl ?_
        refine aw_aload_n C dX4_when_27 rfl ?_
        refine aw_getf C 0 3 1 7 inX4 rfl (by decide) rfl k1_118 rfl rfl dX4_when_28 ?_
        refine aw_aload_n C dX4_when_31 rfl ?_
        refine aw_getf C 0 3 0 7 inX4 rfl (by decide) rfl k1_117 rfl rfl dX4_when_32 ?_
        refine aw_pc 35 rfl ?_
        refine aw_gVdv C (As := [.ref (z 2)]) (c_X3_become l D cI cC adK adV (z 3) (z 2) (zR z) (zT z) R T) k2_113 cv_X3_become 2 rfl rfl rfl [2, 1, 0, 3, 4, 5] (fl2 _ _) rfl 6 rfl (by decide) (gc := [wTo cI (z 3) (zR z) R, wTo cI (z 2) (zT z) T]) (gr := [wMa cI z ik F, wTo cI (z 4) (zK z) K, wTp cI (z 5) (z 6) f n tk bg en nm, wSh cI (z 7) (zS z) s1 s2 s3]) (gc1 := [wTo cI (z 3) (zR z) T, wTo cI (z 2) (zT z) T]) (gs' := [wMa cI z ik F, wTo cI (z 2) (zT z) T, wTo cI (z 3) (zR z) T, wTo cI (z 4) (zK z) K, wTp cI (z 5) (z 6) f n tk bg en nm, wSh cI (z 7) (zS z) s1 s2 s3]) (fl2 _ _) rfl rfl ⟨by decide, by decide⟩ rfl rfl ⟨by decide, by decide⟩ rfl rfl (Nat.le_of_ble_eq_true rfl) dX4_when_35 ?_
        refine aw_iconst C (0 : Int32) dX4_when_38 (by decide) ?_
        refine aw_istore C true (lv' := [(0, .ref (z 0)), (1, .int (nI (ix u))), (2, .int (nI (ix v))), (3, .int w), (4, .int (0 : Int32))]) dX4_when_39 (by decide) rfl rfl ?_
        refine aw_eq (lv' := [(0, .ref (z 0)), (1, .int (nI (ix u))), (2, .int (nI (ix v))), (3, .int w), (4, .int (nI 0))]) (ws' := fl [wMa cI z ik F, wTo cI (z 2) (zT z) T, wTo cI (z 3) (zR z) (tDays 0 T), wTo cI (z 4) (zK z) K, wTp cI (z 5) (z 6) f n tk bg en nm, wSh cI (z 7) (zS z) s1 s2 s3]) (by first | rfl | (simp only [itr, c_9, c_13, c_18])) rfl (by rfl) ?_
        refine aw_loop (LV := fun i => [(0, .ref (z 0)), (1, .int (nI (ix u))), (2, .int (nI (ix v))), (3, .int w), (4, .int (nI i))]) (WS := fun i => fl [wMa cI z ik F, wTo cI (z 2) (zT z) T, wTo cI (z 3) (zR z) (tDays i T), wTo cI (z 4) (zK z) K, wTp cI (z 5) (z 6) f n tk bg en nm, wSh cI (z 7) (zS z) s1 s2 s3]) 201 (Inv := fun i => ∀ k, k < i → mSo (tDays k T) (ix u) (ix v) w = false) (fun k hk => absurd hk (Nat.not_lt_zero k)) ?_ ?_
        · intro hv41
          refine aw_iload C dX4_when_41 rfl ?_
          refine aw_sipush C (200 : Int32) dX4_when_43 (by decide) ?_
          refine aw_icmp_gt C 78 dX4_when_46 (by decide) (fun c_46 => ?_) (fun c_46 => absurd c_46 (fun z => z (by decide)))
          refine aw_aload_n C dX4_when_78 rfl ?_
          refine aw_iconst C (3 : Int32) dX4_when_79 (by decide) ?_
          refine aw_gVd C (As := [.int (3 : Int32)]) (c_X4_finding l D cI cC adK adV z ik F 3 (by decide)) k1_146 cv_X4_finding 3 rfl rfl rfl [0, 1, 2, 3, 4, 5] (fl1 _) rfl 6 rfl (by decide) (gc := [wMa cI z ik F]) (gr := [wTo cI (z 2) (zT z) T, wTo cI (z 3) (zR z) (tDays 201 T), wTo cI (z 4) (zK z) K, wTp cI (z 5) (z 6) f n tk bg en nm, wSh cI (z 7) (zS z) s1 s2 s3]) (gc1 := [wMa cI z ik (upd F 3 (F 3 + 1))]) (gs' := [wMa cI z ik (upd F 3 (F 3 + 1)), wTo cI (z 2) (zT z) T, wTo cI (z 3) (zR z) (tDays 201 T), wTo cI (z 4) (zK z) K, wTp cI (z 5) (z 6) f n tk bg en nm, wSh cI (z 7) (zS z) s1 s2 s3]) (fl1 _) rfl rfl ⟨by decide, by decide⟩ rfl rfl ⟨by decide, by decide⟩ rfl rfl (Nat.le_of_ble_eq_true rfl) dX4_when_80 ?_
          have hm : m_when (T, K, ik, F, f, n, s1, s2, s3) u v w = ((fno 3), (T, K, ik, (upd F 3 (F 3 + 1)), f, n, s1, s2, s3)) := by simp only [m_when, c_9, c_13, c_18, decide_true, decide_false, Bool.not_true, Bool.not_false, Bool.true_and, Bool.false_and, Bool.and_true, Bool.and_false, Bool.true_or, Bool.false_or, Bool.or_true, Bool.or_false, cond_true, cond_false, eq_self, if_true, if_false, ite_true, ite_false]; exact mFirst_no hv41
          exact aw_iret C hr hlk dX4_when_83 ⟨ri (by rw [hm]), (tDays 201 T), tk, bg, en, nm, by rw [hm]; rfl⟩
        · intro i hi41 hv41 ih41
          refine aw_pc 41 rfl ?_
          refine aw_iload C dX4_when_41 rfl ?_
          refine aw_sipush C (200 : Int32) dX4_when_43 (by decide) ?_
          refine aw_icmp_gt C 78 dX4_when_46 (by decide) (fun c_46 => absurd c_46 (nI_nlt (a := 200) (by omega) (by decide))) (fun c_46 => ?_)
          refine aw_aload_n C dX4_when_49 rfl ?_
          refine aw_getf C 0 3 1 7 inX4 rfl (by decide) rfl k1_118 rfl rfl dX4_when_50 ?_
          refine aw_iload_n C dX4_when_53 rfl ?_
          refine aw_iload_n C dX4_when_54 rfl ?_
          refine aw_iload_n C dX4_when_55 rfl ?_
          refine aw_gSp C (As := [.ref (z 3), .int (nI (ix u)), .int (nI (ix v)), .int w]) (c_X4_isSo l D cI cC adK adV (z 3) (zR z) (tDays i T) (ix u) (ix v) w (by omega) (by omega)) k2_128 cs_X4_isSo [2, 0, 1, 3, 4, 5] (fl1 _) rfl 6 rfl (by decide) ⟨by decide, by decide⟩ rfl rfl ⟨by decide, by decide⟩ rfl rfl (Nat.le_of_ble_eq_true rfl) dX4_when_56 ?_
          refine aw_ifeq_b C 65 dX4_when_59 (by decide) (fun c_59 => ?_) (fun c_59 => ?_)
          · skip
            refine aw_pc 65 rfl ?_
            refine aw_aload_n C dX4_when_65 rfl ?_
            refine aw_getf C 0 3 1 7 inX4 rfl (by decide) rfl k1_118 rfl rfl dX4_when_66 ?_
            refine aw_gVdv C (As := []) (c_X3_passDay l D cI cC adK adV (z 3) (zR z) (tDays i T)  (by rw [days_n]; exact hn)) k2_131 cv_X3_passDay 2 rfl rfl rfl [2, 0, 1, 3, 4, 5] (fl1 _) rfl 6 rfl (by decide) (gc := [wTo cI (z 3) (zR z) (tDays i T)]) (gr := [wMa cI z ik F, wTo cI (z 2) (zT z) T, wTo cI (z 4) (zK z) K, wTp cI (z 5) (z 6) f n tk bg en nm, wSh cI (z 7) (zS z) s1 s2 s3]) (gc1 := [wTo cI (z 3) (zR z) (tDay (tDays i T))]) (gs' := [wMa cI z ik F, wTo cI (z 2) (zT z) T, wTo cI (z 3) (zR z) (tDay (tDays i T)), wTo cI (z 4) (zK z) K, wTp cI (z 5) (z 6) f n tk bg en nm, wSh cI (z 7) (zS z) s1 s2 s3]) (fl1 _) rfl rfl ⟨by decide, by decide⟩ rfl rfl ⟨by decide, by decide⟩ rfl rfl (Nat.le_of_ble_eq_true rfl) dX4_when_69 ?_
            refine aw_iinc C (nI (i + 1)) dX4_when_72 rfl (inc_nI _ 1) (by decide) rfl (lv' := [(0, .ref (z 0)), (1, .int (nI (ix u))), (2, .int (nI (ix v))), (3, .int w), (4, .int (nI (i + 1)))]) rfl ?_
            refine aw_goto C 41 dX4_when_75 (by decide) ?_
            exact aw_eq (by first | rfl | (simp only [itr, c_9, c_13, c_18, c_59])) rfl (by first | rfl | (simp only [itr, c_9, c_13, c_18, c_59] <;> first | done | rfl)) (ih41 (all_s hv41 (c_59)))
          · skip
            refine aw_iload C dX4_when_62 rfl ?_
            have hm : m_when (T, K, ik, F, f, n, s1, s2, s3) u v w = ((nI i), (T, K, ik, F, f, n, s1, s2, s3)) := by simp only [m_when, c_9, c_13, c_18, decide_true, decide_false, Bool.not_true, Bool.not_false, Bool.true_and, Bool.false_and, Bool.and_true, Bool.and_false, Bool.true_or, Bool.false_or, Bool.or_true, Bool.or_false, cond_true, cond_false, eq_self, if_true, if_false, ite_true, ite_false]; exact mFirst_at hv41 c_59 hi41
            exact aw_iret C hr hlk dX4_when_64 ⟨ri (by rw [hm]), (tDays i T), tk, bg, en, nm, by rw [hm]; rfl⟩
      · skip
        refine aw_sub (lv' := [(0, .ref (z 0))]) [0] rfl ?_
        exact J21 (by simp only [m_when, c_9, c_13, c_18, decide_true, decide_false, Bool.not_true, Bool.not_false, Bool.true_and, Bool.false_and, Bool.and_true, Bool.and_false, Bool.true_or, Bool.false_or, Bool.or_true, Bool.or_false, cond_true, cond_false, eq_self, if_true, if_false, ite_true, ite_false] <;> rfl)
abbrev r_X4_known : Room := { frames := 5, cells := 0, slots := 0, locals := 110 }
theorem cv_X4_known : cV yX4_known cX4_known 2 (some .int) 0 := ⟨k2_133, k2_134, k2_135, k1_1, by decide, by decide, by decide +kernel⟩
set_option maxHeartbeats 4000000 in
set_option maxRecDepth 100000 in
theorem c_X4_known (l : Launch) (D : va_G) (cI cC : ClassId) (adK adV : Nat → Nat) (z : Nat → Nat) (T R K : Tw) (ik : Bool) (F f : Nat → Int32) (n : Nat) (tk : Int32) (bg en : Nat) (nm : Int32) (s1 s2 s3 : Nat → Int32) (hn : T.1 ≤ 8) : FC l yX4_known (wW yX4_known cX4_known 2 (some .int)) r_X4_known D (tyC cI cC) adK adV (wBa cI z T R K ik F f n tk bg en nm s1 s2 s3) [.ref (z 0)] 0 0 (pBa cI z (m_known (T, K, ik, F, f, n, s1, s2, s3))) := by
  refine FC.of (own := RX4) (by decide) rfl (Nat.le_of_ble_eq_true rfl) ?_
  intro p9 e9 s9 m9 args9 below9 meth9 c9 A9 C hr hlk hmn
  show AW p9 l e9 r_X4_known s9 m9 args9 below9 meth9 c9 D A9 2 0 0 _ 0 [(0, .ref (z 0))] [] _
  refine aw_eq (lv' := [(0, .ref (z 0))]) (ws' := fl [wMa cI z ik F, wTo cI (z 2) (zT z) T, wTo cI (z 3) (zR z) R, wTo cI (z 4) (zK z) K, wTp cI (z 5) (z 6) f n tk bg en nm, wSh cI (z 7) (zS z) s1 s2 s3]) rfl rfl rfl ?_
  refine aw_aload_n C dX4_known_0 rfl ?_
  refine aw_getf C 0 3 1 7 inX4 rfl (by decide) rfl k1_118 rfl rfl dX4_known_1 ?_
  refine aw_aload_n C dX4_known_4 rfl ?_
  refine aw_getf C 0 3 0 7 inX4 rfl (by decide) rfl k1_117 rfl rfl dX4_known_5 ?_
  refine aw_gVdv C (As := [.ref (z 2)]) (c_X3_become l D cI cC adK adV (z 3) (z 2) (zR z) (zT z) R T) k2_113 cv_X3_become 2 rfl rfl rfl [2, 1, 0, 3, 4, 5] (fl2 _ _) rfl 6 rfl (by decide) (gc := [wTo cI (z 3) (zR z) R, wTo cI (z 2) (zT z) T]) (gr := [wMa cI z ik F, wTo cI (z 4) (zK z) K, wTp cI (z 5) (z 6) f n tk bg en nm, wSh cI (z 7) (zS z) s1 s2 s3]) (gc1 := [wTo cI (z 3) (zR z) T, wTo cI (z 2) (zT z) T]) (gs' := [wMa cI z ik F, wTo cI (z 2) (zT z) T, wTo cI (z 3) (zR z) T, wTo cI (z 4) (zK z) K, wTp cI (z 5) (z 6) f n tk bg en nm, wSh cI (z 7) (zS z) s1 s2 s3]) (fl2 _ _) rfl rfl ⟨by decide, by decide⟩ rfl rfl ⟨by decide, by decide⟩ rfl rfl (Nat.le_of_ble_eq_true rfl) dX4_known_8 ?_
  refine aw_iconst C (0 : Int32) dX4_known_11 (by decide) ?_
  refine aw_istore_n C true (lv' := [(0, .ref (z 0)), (1, .int (0 : Int32))]) dX4_known_12 (by decide) rfl rfl ?_
  refine aw_eq (lv' := [(0, .ref (z 0)), (1, .int (nI 0))]) (ws' := fl [wMa cI z ik F, wTo cI (z 2) (zT z) T, wTo cI (z 3) (zR z) (tDays 0 T), wTo cI (z 4) (zK z) K, wTp cI (z 5) (z 6) f n tk bg en nm, wSh cI (z 7) (zS z) s1 s2 s3]) (by first | rfl | (simp only [itr])) rfl (by rfl) ?_
  refine aw_loop (LV := fun i => [(0, .ref (z 0)), (1, .int (nI i))]) (WS := fun i => fl [wMa cI z ik F, wTo cI (z 2) (zT z) T, wTo cI (z 3) (zR z) (tDays i T), wTo cI (z 4) (zK z) K, wTp cI (z 5) (z 6) f n tk bg en nm, wSh cI (z 7) (zS z) s1 s2 s3]) 201 (Inv := fun i => ∀ k, k < i → (!decide (mKnowers (tDays k T) = 0)) = false) (fun k hk => absurd hk (Nat.not_lt_zero k)) ?_ ?_
  · intro hv13
    refine aw_iload_n C dX4_known_13 rfl ?_
    refine aw_sipush C (200 : Int32) dX4_known_14 (by decide) ?_
    refine aw_pc 17 rfl ?_
    refine aw_icmp_gt C 45 dX4_known_17 (by decide) (fun c_17 => ?_) (fun c_17 => absurd c_17 (fun z => z (by decide)))
    refine aw_aload_n C dX4_known_45 rfl ?_
    refine aw_iconst C (3 : Int32) dX4_known_46 (by decide) ?_
    refine aw_gVd C (As := [.int (3 : Int32)]) (c_X4_finding l D cI cC adK adV z ik F 3 (by decide)) k1_146 cv_X4_finding 3 rfl rfl rfl [0, 1, 2, 3, 4, 5] (fl1 _) rfl 6 rfl (by decide) (gc := [wMa cI z ik F]) (gr := [wTo cI (z 2) (zT z) T, wTo cI (z 3) (zR z) (tDays 201 T), wTo cI (z 4) (zK z) K, wTp cI (z 5) (z 6) f n tk bg en nm, wSh cI (z 7) (zS z) s1 s2 s3]) (gc1 := [wMa cI z ik (upd F 3 (F 3 + 1))]) (gs' := [wMa cI z ik (upd F 3 (F 3 + 1)), wTo cI (z 2) (zT z) T, wTo cI (z 3) (zR z) (tDays 201 T), wTo cI (z 4) (zK z) K, wTp cI (z 5) (z 6) f n tk bg en nm, wSh cI (z 7) (zS z) s1 s2 s3]) (fl1 _) rfl rfl ⟨by decide, by decide⟩ rfl rfl ⟨by decide, by decide⟩ rfl rfl (Nat.le_of_ble_eq_true rfl) dX4_known_47 ?_
    have hm : m_known (T, K, ik, F, f, n, s1, s2, s3) = ((fno 3), (T, K, ik, (upd F 3 (F 3 + 1)), f, n, s1, s2, s3)) := by exact mFirst_no hv13
    exact aw_iret C hr hlk dX4_known_50 ⟨ri (by rw [hm]), (tDays 201 T), tk, bg, en, nm, by rw [hm]; rfl⟩
  · intro i hi13 hv13 ih13
    refine aw_iload_n C dX4_known_13 rfl ?_
    refine aw_sipush C (200 : Int32) dX4_known_14 (by decide) ?_
    refine aw_icmp_gt C 45 dX4_known_17 (by decide) (fun c_17 => absurd c_17 (nI_nlt (a := 200) (by omega) (by decide))) (fun c_17 => ?_)
    refine aw_aload_n C dX4_known_20 rfl ?_
    refine aw_getf C 0 3 1 7 inX4 rfl (by decide) rfl k1_118 rfl rfl dX4_known_21 ?_
    refine aw_pc 24 rfl ?_
    refine aw_gVp C (As := []) (c_X3_knowers l D cI cC adK adV (z 3) (zR z) (tDays i T)  (by rw [days_n]; exact hn)) k2_84 cv_X3_knowers 2 rfl rfl rfl [2, 0, 1, 3, 4, 5] (fl1 _) rfl 6 rfl (by decide) ⟨by decide, by decide⟩ rfl rfl ⟨by decide, by decide⟩ rfl rfl (Nat.le_of_ble_eq_true rfl) dX4_known_24 ?_
    refine aw_if_eq C 32 dX4_known_27 (by decide) (fun c_27 => ?_) (fun c_27 => ?_)
    · skip
      refine aw_aload_n C dX4_known_32 rfl ?_
      refine aw_getf C 0 3 1 7 inX4 rfl (by decide) rfl k1_118 rfl rfl dX4_known_33 ?_
      refine aw_gVdv C (As := []) (c_X3_passDay l D cI cC adK adV (z 3) (zR z) (tDays i T)  (by rw [days_n]; exact hn)) k2_131 cv_X3_passDay 2 rfl rfl rfl [2, 0, 1, 3, 4, 5] (fl1 _) rfl 6 rfl (by decide) (gc := [wTo cI (z 3) (zR z) (tDays i T)]) (gr := [wMa cI z ik F, wTo cI (z 2) (zT z) T, wTo cI (z 4) (zK z) K, wTp cI (z 5) (z 6) f n tk bg en nm, wSh cI (z 7) (zS z) s1 s2 s3]) (gc1 := [wTo cI (z 3) (zR z) (tDay (tDays i T))]) (gs' := [wMa cI z ik F, wTo cI (z 2) (zT z) T, wTo cI (z 3) (zR z) (tDay (tDays i T)), wTo cI (z 4) (zK z) K, wTp cI (z 5) (z 6) f n tk bg en nm, wSh cI (z 7) (zS z) s1 s2 s3]) (fl1 _) rfl rfl ⟨by decide, by decide⟩ rfl rfl ⟨by decide, by decide⟩ rfl rfl (Nat.le_of_ble_eq_true rfl) dX4_known_36 ?_
      refine aw_iinc C (nI (i + 1)) dX4_known_39 rfl (inc_nI _ 1) (by decide) rfl (lv' := [(0, .ref (z 0)), (1, .int (nI (i + 1)))]) rfl ?_
      refine aw_goto C 13 dX4_known_42 (by decide) ?_
      exact aw_eq (by first | rfl | (simp only [itr, c_27])) rfl (by first | rfl | (simp only [itr, c_27] <;> first | done | rfl)) (ih13 (all_s hv13 (by simp only [itr, c_27, decide_true, decide_false, Bool.not_true, Bool.not_false, Bool.true_and, Bool.false_and, Bool.and_true, Bool.and_false, Bool.true_or, Bool.false_or, Bool.or_true, Bool.or_false, cond_true, cond_false, eq_self, if_true, if_false, ite_true, ite_false])))
    · skip
      refine aw_iload_n C dX4_known_30 rfl ?_
      have hm : m_known (T, K, ik, F, f, n, s1, s2, s3) = ((nI i), (T, K, ik, F, f, n, s1, s2, s3)) := by exact mFirst_at hv13 (by simp only [c_27, decide_true, decide_false, Bool.not_true, Bool.not_false, Bool.true_and, Bool.false_and, Bool.and_true, Bool.and_false, Bool.true_or, Bool.false_or, Bool.or_true, Bool.or_false, cond_true, cond_false, eq_self, if_true, if_false, ite_true, ite_false]) hi13
      exact aw_iret C hr hlk dX4_known_31 ⟨ri (by rw [hm]), (tDays i T), tk, bg, en, nm, by rw [hm]; rfl⟩
abbrev r_X4_passed : Room := { frames := 5, cells := 0, slots := 0, locals := 110 }
theorem cv_X4_passed : cV yX4_passed cX4_passed 4 (some .int) 2 := ⟨k2_137, k2_138, k2_139, k1_1, by decide, by decide, by decide +kernel⟩
set_option maxHeartbeats 4000000 in
set_option maxRecDepth 100000 in
theorem c_X4_passed (l : Launch) (D : va_G) (cI cC : ClassId) (adK adV : Nat → Nat) (z : Nat → Nat) (T R K : Tw) (ik : Bool) (F f : Nat → Int32) (n : Nat) (tk : Int32) (bg en : Nat) (nm : Int32) (s1 s2 s3 : Nat → Int32) (u : Int32) (v : Int32) (hn : T.1 ≤ 8) : FC l yX4_passed (wW yX4_passed cX4_passed 4 (some .int)) r_X4_passed D (tyC cI cC) adK adV (wBa cI z T R K ik F f n tk bg en nm s1 s2 s3) [.ref (z 0), .int u, .int v] 0 0 (pBa cI z (m_passed (T, K, ik, F, f, n, s1, s2, s3) u v)) := by
  refine FC.of (own := RX4) (by decide) rfl (Nat.le_of_ble_eq_true rfl) ?_
  intro p9 e9 s9 m9 args9 below9 meth9 c9 A9 C hr hlk hmn
  show AW p9 l e9 r_X4_passed s9 m9 args9 below9 meth9 c9 D A9 4 0 0 _ 0 [(0, .ref (z 0)), (1, .int u), (2, .int v)] [] _
  refine aw_eq (lv' := [(0, .ref (z 0)), (1, .int u), (2, .int v)]) (ws' := fl [wMa cI z ik F, wTo cI (z 2) (zT z) T, wTo cI (z 3) (zR z) R, wTo cI (z 4) (zK z) K, wTp cI (z 5) (z 6) f n tk bg en nm, wSh cI (z 7) (zS z) s1 s2 s3]) rfl rfl rfl ?_
  have J22 : m_passed (T, K, ik, F, f, n, s1, s2, s3) u v = gno (T, K, ik, F, f, n, s1, s2, s3) 0 → AW p9 l e9 r_X4_passed s9 m9 args9 below9 meth9 c9 D A9 4 0 0 (aQ below9 args9 s9 D A9 0 0 (pBa cI z (m_passed (T, K, ik, F, f, n, s1, s2, s3) u v))) 22 [(0, .ref (z 0))] [] (fl [wMa cI z ik F, wTo cI (z 2) (zT z) T, wTo cI (z 3) (zR z) R, wTo cI (z 4) (zK z) K, wTp cI (z 5) (z 6) f n tk bg en nm, wSh cI (z 7) (zS z) s1 s2 s3]) := by
    intro hj
    refine aw_aload_n C dX4_passed_22 rfl ?_
    refine aw_iconst C (0 : Int32) dX4_passed_23 (by decide) ?_
    refine aw_gVd C (As := [.int (0 : Int32)]) (c_X4_finding l D cI cC adK adV z ik F 0 (by decide)) k1_146 cv_X4_finding 3 rfl rfl rfl [0, 1, 2, 3, 4, 5] (fl1 _) rfl 6 rfl (by decide) (gc := [wMa cI z ik F]) (gr := [wTo cI (z 2) (zT z) T, wTo cI (z 3) (zR z) R, wTo cI (z 4) (zK z) K, wTp cI (z 5) (z 6) f n tk bg en nm, wSh cI (z 7) (zS z) s1 s2 s3]) (gc1 := [wMa cI z ik (upd F 0 (F 0 + 1))]) (gs' := [wMa cI z ik (upd F 0 (F 0 + 1)), wTo cI (z 2) (zT z) T, wTo cI (z 3) (zR z) R, wTo cI (z 4) (zK z) K, wTp cI (z 5) (z 6) f n tk bg en nm, wSh cI (z 7) (zS z) s1 s2 s3]) (fl1 _) rfl rfl ⟨by decide, by decide⟩ rfl rfl ⟨by decide, by decide⟩ rfl rfl (Nat.le_of_ble_eq_true rfl) dX4_passed_24 ?_
    have hm : m_passed (T, K, ik, F, f, n, s1, s2, s3) u v = ((fno 0), (T, K, ik, (upd F 0 (F 0 + 1)), f, n, s1, s2, s3)) := by rw [hj]; rfl
    exact aw_iret C hr hlk dX4_passed_27 ⟨ri (by rw [hm]), R, tk, bg, en, nm, by rw [hm]; rfl⟩
  refine aw_aload_n C dX4_passed_0 rfl ?_
  refine aw_getf C 0 3 0 7 inX4 rfl (by decide) rfl k1_117 rfl rfl dX4_passed_1 ?_
  refine aw_iload_n C dX4_passed_4 rfl ?_
  refine aw_gVp C (As := [.int u]) (c_X3_isThere l D cI cC adK adV (z 2) (zT z) T u) k1_172 cv_X3_isThere 2 rfl rfl rfl [1, 0, 2, 3, 4, 5] (fl1 _) rfl 6 rfl (by decide) ⟨by decide, by decide⟩ rfl rfl ⟨by decide, by decide⟩ rfl rfl (Nat.le_of_ble_eq_true rfl) dX4_passed_5 ?_
  refine aw_ifeq_b C 22 dX4_passed_8 (by decide) (fun c_8 => ?_) (fun c_8 => ?_)
  · skip
    refine aw_sub (lv' := [(0, .ref (z 0))]) [0] rfl ?_
    exact J22 (by simp only [m_passed, c_8, decide_true, decide_false, Bool.not_true, Bool.not_false, Bool.true_and, Bool.false_and, Bool.and_true, Bool.and_false, Bool.true_or, Bool.false_or, Bool.or_true, Bool.or_false, cond_true, cond_false, eq_self, if_true, if_false, ite_true, ite_false] <;> rfl)
  · skip
    refine aw_pc 11 rfl ?_
    refine aw_iload_n C dX4_passed_11 rfl ?_
    refine aw_if_lt C 22 dX4_passed_12 (by decide) (fun c_12 => ?_) (fun c_12 => ?_)
    · skip
      refine aw_sub (lv' := [(0, .ref (z 0))]) [0] rfl ?_
      exact J22 (by simp only [m_passed, c_8, c_12, decide_true, decide_false, Bool.not_true, Bool.not_false, Bool.true_and, Bool.false_and, Bool.and_true, Bool.and_false, Bool.true_or, Bool.false_or, Bool.or_true, Bool.or_false, cond_true, cond_false, eq_self, if_true, if_false, ite_true, ite_false] <;> rfl)
    · skip
      refine aw_iload_n C dX4_passed_15 rfl ?_
      refine aw_sipush C (9999 : Int32) dX4_passed_16 (by decide) ?_
      refine aw_icmp_le C 28 dX4_passed_19 (by decide) (fun c_19 => ?_) (fun c_19 => ?_)
      · skip
        have l1 := there_lt hn c_8
        have e1 : u = nI (ix u) := there_ix c_8
        refine aw_eq (lv' := [(0, .ref (z 0)), (1, .int (nI (ix u))), (2, .int v)]) (ws' := fl [wMa cI z ik F, wTo cI (z 2) (zT z) T, wTo cI (z 3) (zR z) R, wTo cI (z 4) (zK z) K, wTp cI (z 5) (z 6) f n tk bg en nm, wSh cI (z 7) (zS z) s1 s2 s3]) (by rw [← e1]) rfl rfl ?_
        refine aw_aload_n C dX4_passed_28 rfl ?_
        refine aw_getf C 0 3 1 7 inX4 rfl (by decide) rfl k1_118 rfl rfl dX4_passed_29 ?_
        refine aw_aload_n C dX4_passed_32 rfl ?_
        refine aw_getf C 0 3 0 7 inX4 rfl (by decide) rfl k1_117 rfl rfl dX4_passed_33 ?_
        refine aw_gVdv C (As := [.ref (z 2)]) (c_X3_become l D cI cC adK adV (z 3) (z 2) (zR z) (zT z) R T) k2_113 cv_X3_become 2 rfl rfl rfl [2, 1, 0, 3, 4, 5] (fl2 _ _) rfl 6 rfl (by decide) (gc := [wTo cI (z 3) (zR z) R, wTo cI (z 2) (zT z) T]) (gr := [wMa cI z ik F, wTo cI (z 4) (zK z) K, wTp cI (z 5) (z 6) f n tk bg en nm, wSh cI (z 7) (zS z) s1 s2 s3]) (gc1 := [wTo cI (z 3) (zR z) T, wTo cI (z 2) (zT z) T]) (gs' := [wMa cI z ik F, wTo cI (z 2) (zT z) T, wTo cI (z 3) (zR z) T, wTo cI (z 4) (zK z) K, wTp cI (z 5) (z 6) f n tk bg en nm, wSh cI (z 7) (zS z) s1 s2 s3]) (fl2 _ _) rfl rfl ⟨by decide, by decide⟩ rfl rfl ⟨by decide, by decide⟩ rfl rfl (Nat.le_of_ble_eq_true rfl) dX4_passed_36 ?_
        refine aw_pc 39 rfl ?_
        refine aw_iconst C (0 : Int32) dX4_passed_39 (by decide) ?_
        refine aw_istore_n C true (lv' := [(0, .ref (z 0)), (1, .int (nI (ix u))), (2, .int v), (3, .int (0 : Int32))]) dX4_passed_40 (by decide) rfl rfl ?_
        refine aw_eq (lv' := [(0, .ref (z 0)), (1, .int (nI (ix u))), (2, .int v), (3, .int (nI 0))]) (ws' := fl [wMa cI z ik F, wTo cI (z 2) (zT z) T, wTo cI (z 3) (zR z) (tDays 0 T), wTo cI (z 4) (zK z) K, wTp cI (z 5) (z 6) f n tk bg en nm, wSh cI (z 7) (zS z) s1 s2 s3]) (by first | rfl | (simp only [itr, c_8, c_12, c_19])) rfl (by rfl) ?_
        refine aw_loop (LV := fun i => [(0, .ref (z 0)), (1, .int (nI (ix u))), (2, .int v), (3, .int (nI i))]) (WS := fun i => fl [wMa cI z ik F, wTo cI (z 2) (zT z) T, wTo cI (z 3) (zR z) (tDays i T), wTo cI (z 4) (zK z) K, wTp cI (z 5) (z 6) f n tk bg en nm, wSh cI (z 7) (zS z) s1 s2 s3]) 201 (Inv := fun i => ∀ k, k < i → (!decide (mTrait (tDays k T) (ix u) 6 < v)) = false) (fun k hk => absurd hk (Nat.not_lt_zero k)) ?_ ?_
        · intro hv41
          refine aw_iload_n C dX4_passed_41 rfl ?_
          refine aw_sipush C (200 : Int32) dX4_passed_42 (by decide) ?_
          refine aw_icmp_gt C 77 dX4_passed_45 (by decide) (fun c_45 => ?_) (fun c_45 => absurd c_45 (fun z => z (by decide)))
          refine aw_aload_n C dX4_passed_77 rfl ?_
          refine aw_iconst C (3 : Int32) dX4_passed_78 (by decide) ?_
          refine aw_gVd C (As := [.int (3 : Int32)]) (c_X4_finding l D cI cC adK adV z ik F 3 (by decide)) k1_146 cv_X4_finding 3 rfl rfl rfl [0, 1, 2, 3, 4, 5] (fl1 _) rfl 6 rfl (by decide) (gc := [wMa cI z ik F]) (gr := [wTo cI (z 2) (zT z) T, wTo cI (z 3) (zR z) (tDays 201 T), wTo cI (z 4) (zK z) K, wTp cI (z 5) (z 6) f n tk bg en nm, wSh cI (z 7) (zS z) s1 s2 s3]) (gc1 := [wMa cI z ik (upd F 3 (F 3 + 1))]) (gs' := [wMa cI z ik (upd F 3 (F 3 + 1)), wTo cI (z 2) (zT z) T, wTo cI (z 3) (zR z) (tDays 201 T), wTo cI (z 4) (zK z) K, wTp cI (z 5) (z 6) f n tk bg en nm, wSh cI (z 7) (zS z) s1 s2 s3]) (fl1 _) rfl rfl ⟨by decide, by decide⟩ rfl rfl ⟨by decide, by decide⟩ rfl rfl (Nat.le_of_ble_eq_true rfl) dX4_passed_79 ?_
          have hm : m_passed (T, K, ik, F, f, n, s1, s2, s3) u v = ((fno 3), (T, K, ik, (upd F 3 (F 3 + 1)), f, n, s1, s2, s3)) := by simp only [m_passed, c_8, c_12, c_19, decide_true, decide_false, Bool.not_true, Bool.not_false, Bool.true_and, Bool.false_and, Bool.and_true, Bool.and_false, Bool.true_or, Bool.false_or, Bool.or_true, Bool.or_false, cond_true, cond_false, eq_self, if_true, if_false, ite_true, ite_false]; exact mFirst_no hv41
          exact aw_iret C hr hlk dX4_passed_82 ⟨ri (by rw [hm]), (tDays 201 T), tk, bg, en, nm, by rw [hm]; rfl⟩
        · intro i hi41 hv41 ih41
          refine aw_iload_n C dX4_passed_41 rfl ?_
          refine aw_pc 42 rfl ?_
          refine aw_sipush C (200 : Int32) dX4_passed_42 (by decide) ?_
          refine aw_icmp_gt C 77 dX4_passed_45 (by decide) (fun c_45 => absurd c_45 (nI_nlt (a := 200) (by omega) (by decide))) (fun c_45 => ?_)
          refine aw_aload_n C dX4_passed_48 rfl ?_
          refine aw_getf C 0 3 1 7 inX4 rfl (by decide) rfl k1_118 rfl rfl dX4_passed_49 ?_
          refine aw_iload_n C dX4_passed_52 rfl ?_
          refine aw_bipush C (6 : Int32) dX4_passed_53 (by decide) ?_
          refine aw_gVp C (As := [.int (nI (ix u)), .int (6 : Int32)]) (c_X3_trait l D cI cC adK adV (z 3) (zR z) (tDays i T) (ix u) (6 : Int32) (by rw [days_n]; exact hn) (by rw [days_n]; exact l1)) k1_173 cv_X3_trait 2 rfl rfl rfl [2, 0, 1, 3, 4, 5] (fl1 _) rfl 6 rfl (by decide) ⟨by decide, by decide⟩ rfl rfl ⟨by decide, by decide⟩ rfl rfl (Nat.le_of_ble_eq_true rfl) dX4_passed_55 ?_
          refine aw_iload_n C dX4_passed_58 rfl ?_
          refine aw_icmp_lt C 64 dX4_passed_59 (by decide) (fun c_59 => ?_) (fun c_59 => ?_)
          · skip
            refine aw_aload_n C dX4_passed_64 rfl ?_
            refine aw_pc 65 rfl ?_
            refine aw_getf C 0 3 1 7 inX4 rfl (by decide) rfl k1_118 rfl rfl dX4_passed_65 ?_
            refine aw_gVdv C (As := []) (c_X3_passDay l D cI cC adK adV (z 3) (zR z) (tDays i T)  (by rw [days_n]; exact hn)) k2_131 cv_X3_passDay 2 rfl rfl rfl [2, 0, 1, 3, 4, 5] (fl1 _) rfl 6 rfl (by decide) (gc := [wTo cI (z 3) (zR z) (tDays i T)]) (gr := [wMa cI z ik F, wTo cI (z 2) (zT z) T, wTo cI (z 4) (zK z) K, wTp cI (z 5) (z 6) f n tk bg en nm, wSh cI (z 7) (zS z) s1 s2 s3]) (gc1 := [wTo cI (z 3) (zR z) (tDay (tDays i T))]) (gs' := [wMa cI z ik F, wTo cI (z 2) (zT z) T, wTo cI (z 3) (zR z) (tDay (tDays i T)), wTo cI (z 4) (zK z) K, wTp cI (z 5) (z 6) f n tk bg en nm, wSh cI (z 7) (zS z) s1 s2 s3]) (fl1 _) rfl rfl ⟨by decide, by decide⟩ rfl rfl ⟨by decide, by decide⟩ rfl rfl (Nat.le_of_ble_eq_true rfl) dX4_passed_68 ?_
            refine aw_iinc C (nI (i + 1)) dX4_passed_71 rfl (inc_nI _ 1) (by decide) rfl (lv' := [(0, .ref (z 0)), (1, .int (nI (ix u))), (2, .int v), (3, .int (nI (i + 1)))]) rfl ?_
            refine aw_goto C 41 dX4_passed_74 (by decide) ?_
            exact aw_eq (by first | rfl | (simp only [itr, c_8, c_12, c_19, c_59])) rfl (by first | rfl | (simp only [itr, c_8, c_12, c_19, c_59] <;> first | done | rfl)) (ih41 (all_s hv41 (by simp only [itr, c_8, c_12, c_19, c_59, decide_true, decide_false, Bool.not_true, Bool.not_false, Bool.true_and, Bool.false_and, Bool.and_true, Bool.and_false, Bool.true_or, Bool.false_or, Bool.or_true, Bool.or_false, cond_true, cond_false, eq_self, if_true, if_false, ite_true, ite_false])))
          · skip
            refine aw_iload_n C dX4_passed_62 rfl ?_
            have hm : m_passed (T, K, ik, F, f, n, s1, s2, s3) u v = ((nI i), (T, K, ik, F, f, n, s1, s2, s3)) := by simp only [m_passed, c_8, c_12, c_19, decide_true, decide_false, Bool.not_true, Bool.not_false, Bool.true_and, Bool.false_and, Bool.and_true, Bool.and_false, Bool.true_or, Bool.false_or, Bool.or_true, Bool.or_false, cond_true, cond_false, eq_self, if_true, if_false, ite_true, ite_false]; exact mFirst_at hv41 (by simp only [c_59, decide_true, decide_false, Bool.not_true, Bool.not_false, Bool.true_and, Bool.false_and, Bool.and_true, Bool.and_false, Bool.true_or, Bool.false_or, Bool.or_true, Bool.or_false, cond_true, cond_false, eq_self, if_true, if_false, ite_true, ite_false]) hi41
            exact aw_iret C hr hlk dX4_passed_63 ⟨ri (by rw [hm]), (tDays i T), tk, bg, en, nm, by rw [hm]; rfl⟩
      · skip
        refine aw_sub (lv' := [(0, .ref (z 0))]) [0] rfl ?_
        exact J22 (by simp only [m_passed, c_8, c_12, c_19, decide_true, decide_false, Bool.not_true, Bool.not_false, Bool.true_and, Bool.false_and, Bool.and_true, Bool.and_false, Bool.true_or, Bool.false_or, Bool.or_true, Bool.or_false, cond_true, cond_false, eq_self, if_true, if_false, ite_true, ite_false] <;> rfl)
abbrev r_X4_mostJoyous : Room := { frames := 6, cells := 0, slots := 0, locals := 132 }
theorem cv_X4_mostJoyous : cV yX4_mostJoyous cX4_mostJoyous 8 (some .int) 4 := ⟨k2_146, k0_7, k2_147, k1_1, by decide, by decide, by decide +kernel⟩
set_option maxHeartbeats 4000000 in
set_option maxRecDepth 100000 in
theorem c_X4_mostJoyous (l : Launch) (D : va_G) (cI cC : ClassId) (adK adV : Nat → Nat) (z : Nat → Nat) (T R K : Tw) (ik : Bool) (F f : Nat → Int32) (n : Nat) (tk : Int32) (bg en : Nat) (nm : Int32) (s1 s2 s3 : Nat → Int32) (u : Int32) (w : Int32) (vals : Nat) (k : Int32) (hn : T.1 ≤ 8) (hw : vals < 2 ^ 20) : FC l yX4_mostJoyous (wW yX4_mostJoyous cX4_mostJoyous 8 (some .int)) r_X4_mostJoyous D (tyC cI cC) adK adV (wBa cI z T R K ik F f n tk bg en nm s1 s2 s3) [.ref (z 0), .int u, .int w, .int (nI vals), .int k] 0 0 (pBa cI z (m_most (T, K, ik, F, f, n, s1, s2, s3) u w vals k)) := by
  refine FC.of (own := RX4) (by decide) rfl (Nat.le_of_ble_eq_true rfl) ?_
  intro p9 e9 s9 m9 args9 below9 meth9 c9 A9 C hr hlk hmn
  show AW p9 l e9 r_X4_mostJoyous s9 m9 args9 below9 meth9 c9 D A9 8 0 0 _ 0 [(0, .ref (z 0)), (1, .int u), (2, .int w), (3, .int (nI vals)), (4, .int k)] [] _
  refine aw_eq (lv' := [(0, .ref (z 0)), (1, .int u), (2, .int w), (3, .int (nI vals)), (4, .int k)]) (ws' := fl [wMa cI z ik F, wTo cI (z 2) (zT z) T, wTo cI (z 3) (zR z) R, wTo cI (z 4) (zK z) K, wTp cI (z 5) (z 6) f n tk bg en nm, wSh cI (z 7) (zS z) s1 s2 s3]) rfl rfl rfl ?_
  have J23 : m_most (T, K, ik, F, f, n, s1, s2, s3) u w vals k = gno (T, K, ik, F, f, n, s1, s2, s3) 0 → AW p9 l e9 r_X4_mostJoyous s9 m9 args9 below9 meth9 c9 D A9 8 0 0 (aQ below9 args9 s9 D A9 0 0 (pBa cI z (m_most (T, K, ik, F, f, n, s1, s2, s3) u w vals k))) 23 [(0, .ref (z 0))] [] (fl [wMa cI z ik F, wTo cI (z 2) (zT z) T, wTo cI (z 3) (zR z) R, wTo cI (z 4) (zK z) K, wTp cI (z 5) (z 6) f n tk bg en nm, wSh cI (z 7) (zS z) s1 s2 s3]) := by
    intro hj
    refine aw_aload_n C dX4_mostJoyous_23 rfl ?_
    refine aw_iconst C (0 : Int32) dX4_mostJoyous_24 (by decide) ?_
    refine aw_gVd C (As := [.int (0 : Int32)]) (c_X4_finding l D cI cC adK adV z ik F 0 (by decide)) k1_146 cv_X4_finding 3 rfl rfl rfl [0, 1, 2, 3, 4, 5] (fl1 _) rfl 6 rfl (by decide) (gc := [wMa cI z ik F]) (gr := [wTo cI (z 2) (zT z) T, wTo cI (z 3) (zR z) R, wTo cI (z 4) (zK z) K, wTp cI (z 5) (z 6) f n tk bg en nm, wSh cI (z 7) (zS z) s1 s2 s3]) (gc1 := [wMa cI z ik (upd F 0 (F 0 + 1))]) (gs' := [wMa cI z ik (upd F 0 (F 0 + 1)), wTo cI (z 2) (zT z) T, wTo cI (z 3) (zR z) R, wTo cI (z 4) (zK z) K, wTp cI (z 5) (z 6) f n tk bg en nm, wSh cI (z 7) (zS z) s1 s2 s3]) (fl1 _) rfl rfl ⟨by decide, by decide⟩ rfl rfl ⟨by decide, by decide⟩ rfl rfl (Nat.le_of_ble_eq_true rfl) dX4_mostJoyous_25 ?_
    have hm : m_most (T, K, ik, F, f, n, s1, s2, s3) u w vals k = ((fno 0), (T, K, ik, (upd F 0 (F 0 + 1)), f, n, s1, s2, s3)) := by rw [hj]; rfl
    exact aw_iret C hr hlk dX4_mostJoyous_28 ⟨ri (by rw [hm]), R, tk, bg, en, nm, by rw [hm]; rfl⟩
  refine aw_aload_n C dX4_mostJoyous_0 rfl ?_
  refine aw_getf C 0 3 0 7 inX4 rfl (by decide) rfl k1_117 rfl rfl dX4_mostJoyous_1 ?_
  refine aw_iload_n C dX4_mostJoyous_4 rfl ?_
  refine aw_gVp C (As := [.int u]) (c_X3_isThere l D cI cC adK adV (z 2) (zT z) T u) k1_172 cv_X3_isThere 2 rfl rfl rfl [1, 0, 2, 3, 4, 5] (fl1 _) rfl 6 rfl (by decide) ⟨by decide, by decide⟩ rfl rfl ⟨by decide, by decide⟩ rfl rfl (Nat.le_of_ble_eq_true rfl) dX4_mostJoyous_5 ?_
  refine aw_ifeq_b C 23 dX4_mostJoyous_8 (by decide) (fun c_8 => ?_) (fun c_8 => ?_)
  · skip
    refine aw_sub (lv' := [(0, .ref (z 0))]) [0] rfl ?_
    exact J23 (by simp only [m_most, c_8, decide_true, decide_false, Bool.not_true, Bool.not_false, Bool.true_and, Bool.false_and, Bool.and_true, Bool.and_false, Bool.true_or, Bool.false_or, Bool.or_true, Bool.or_false, cond_true, cond_false, eq_self, if_true, if_false, ite_true, ite_false] <;> rfl)
  · skip
    refine aw_pc 11 rfl ?_
    refine aw_iload C dX4_mostJoyous_11 rfl ?_
    refine aw_if_lt C 23 dX4_mostJoyous_13 (by decide) (fun c_13 => ?_) (fun c_13 => ?_)
    · skip
      refine aw_sub (lv' := [(0, .ref (z 0))]) [0] rfl ?_
      exact J23 (by simp only [m_most, c_8, c_13, decide_true, decide_false, Bool.not_true, Bool.not_false, Bool.true_and, Bool.false_and, Bool.and_true, Bool.and_false, Bool.true_or, Bool.false_or, Bool.or_true, Bool.or_false, cond_true, cond_false, eq_self, if_true, if_false, ite_true, ite_false] <;> rfl)
    · skip
      refine aw_iload C dX4_mostJoyous_16 rfl ?_
      refine aw_bipush C (60 : Int32) dX4_mostJoyous_18 (by decide) ?_
      refine aw_icmp_le C 29 dX4_mostJoyous_20 (by decide) (fun c_20 => ?_) (fun c_20 => ?_)
      · skip
        have l1 := there_lt hn c_8
        have l2 : ix k ≤ 60 := ix_le c_13 (by decide) c_20
        have e1 : u = nI (ix u) := there_ix c_8
        refine aw_eq (lv' := [(0, .ref (z 0)), (1, .int (nI (ix u))), (2, .int w), (3, .int (nI vals)), (4, .int k)]) (ws' := fl [wMa cI z ik F, wTo cI (z 2) (zT z) T, wTo cI (z 3) (zR z) R, wTo cI (z 4) (zK z) K, wTp cI (z 5) (z 6) f n tk bg en nm, wSh cI (z 7) (zS z) s1 s2 s3]) (by rw [← e1]) rfl rfl ?_
        have e2 : k = nI (ix k) := ix_eq c_13
        refine aw_eq (lv' := [(0, .ref (z 0)), (1, .int (nI (ix u))), (2, .int w), (3, .int (nI vals)), (4, .int (nI (ix k)))]) (ws' := fl [wMa cI z ik F, wTo cI (z 2) (zT z) T, wTo cI (z 3) (zR z) R, wTo cI (z 4) (zK z) K, wTp cI (z 5) (z 6) f n tk bg en nm, wSh cI (z 7) (zS z) s1 s2 s3]) (by rw [← e2]) rfl rfl ?_
        refine aw_iconst C (0 : Int32) dX4_mostJoyous_29 (by decide) ?_
        refine aw_istore C true (lv' := [(0, .ref (z 0)), (1, .int (nI (ix u))), (2, .int w), (3, .int (nI vals)), (4, .int (nI (ix k))), (5, .int (0 : Int32))]) dX4_mostJoyous_30 (by decide) rfl rfl ?_
        refine aw_iconst C (-1 : Int32) dX4_mostJoyous_32 (by decide) ?_
        refine aw_istore C true (lv' := [(0, .ref (z 0)), (1, .int (nI (ix u))), (2, .int w), (3, .int (nI vals)), (4, .int (nI (ix k))), (5, .int (0 : Int32)), (6, .int (-1 : Int32))]) dX4_mostJoyous_33 (by decide) rfl rfl ?_
        refine aw_iconst C (0 : Int32) dX4_mostJoyous_35 (by decide) ?_
        refine aw_pc 36 rfl ?_
        refine aw_istore C true (lv' := [(0, .ref (z 0)), (1, .int (nI (ix u))), (2, .int w), (3, .int (nI vals)), (4, .int (nI (ix k))), (5, .int (0 : Int32)), (6, .int (-1 : Int32)), (7, .int (0 : Int32))]) dX4_mostJoyous_36 (by decide) rfl rfl ?_
        refine aw_eq (lv' := [(0, .ref (z 0)), (1, .int (nI (ix u))), (2, .int w), (3, .int (nI vals)), (4, .int (nI (ix k))), (5, .int ((mBest T (ix u) w (ix k) 0).1)), (6, .int ((mBest T (ix u) w (ix k) 0).2)), (7, .int (nI 0))]) (ws' := fl [wMa cI z ik F, wTo cI (z 2) (zT z) T, wTo cI (z 3) (zR z) R, wTo cI (z 4) (zK z) K, wTp cI (z 5) (z 6) f n tk bg en nm, wSh cI (z 7) (zS z) s1 s2 s3]) (by first | rfl | (simp only [itr, c_8, c_13, c_20])) rfl (by rfl) ?_
        refine aw_loopE (σ := Tw) (LV := fun i R1 => [(0, .ref (z 0)), (1, .int (nI (ix u))), (2, .int w), (3, .int (nI vals)), (4, .int (nI (ix k))), (5, .int ((mBest T (ix u) w (ix k) i).1)), (6, .int ((mBest T (ix u) w (ix k) i).2)), (7, .int (nI i))]) (WS := fun i R1 => fl [wMa cI z ik F, wTo cI (z 2) (zT z) T, wTo cI (z 3) (zR z) R1, wTo cI (z 4) (zK z) K, wTp cI (z 5) (z 6) f n tk bg en nm, wSh cI (z 7) (zS z) s1 s2 s3]) vals (Inv := fun _ _ => True) trivial ?_ ?_
        · intro R1 hv38
          refine aw_iload C dX4_mostJoyous_38 rfl ?_
          refine aw_iload_n C dX4_mostJoyous_40 rfl ?_
          refine aw_icmp_ge C 106 dX4_mostJoyous_41 (by decide) (fun c_41 => ?_) (fun c_41 => absurd c_41 (fun z => z (Int32.le_refl _)))
          refine aw_iload C dX4_mostJoyous_106 rfl ?_
          have hm : m_most (T, K, ik, F, f, n, s1, s2, s3) u w vals k = (((mBest T (ix u) w (ix k) vals).1), (T, K, ik, F, f, n, s1, s2, s3)) := by simp only [m_most, c_8, c_13, c_20, decide_true, decide_false, Bool.not_true, Bool.not_false, Bool.true_and, Bool.false_and, Bool.and_true, Bool.and_false, Bool.true_or, Bool.false_or, Bool.or_true, Bool.or_false, cond_true, cond_false, eq_self, if_true, if_false, ite_true, ite_false]
          exact aw_iret C hr hlk dX4_mostJoyous_108 ⟨ri (by rw [hm]), R1, tk, bg, en, nm, by rw [hm]; rfl⟩
        · intro i R1 hi38 hv38 ih38
          refine aw_iload C dX4_mostJoyous_38 rfl ?_
          refine aw_iload_n C dX4_mostJoyous_40 rfl ?_
          refine aw_icmp_ge C 106 dX4_mostJoyous_41 (by decide) (fun c_41 => absurd c_41 (nI_ge hi38 (by omega))) (fun c_41 => ?_)
          refine aw_aload_n C dX4_mostJoyous_44 rfl ?_
          refine aw_pc 45 rfl ?_
          refine aw_getf C 0 3 1 7 inX4 rfl (by decide) rfl k1_118 rfl rfl dX4_mostJoyous_45 ?_
          refine aw_aload_n C dX4_mostJoyous_48 rfl ?_
          refine aw_getf C 0 3 0 7 inX4 rfl (by decide) rfl k1_117 rfl rfl dX4_mostJoyous_49 ?_
          refine aw_gVdv C (As := [.ref (z 2)]) (c_X3_become l D cI cC adK adV (z 3) (z 2) (zR z) (zT z) R1 T) k2_113 cv_X3_become 2 rfl rfl rfl [2, 1, 0, 3, 4, 5] (fl2 _ _) rfl 6 rfl (by decide) (gc := [wTo cI (z 3) (zR z) R1, wTo cI (z 2) (zT z) T]) (gr := [wMa cI z ik F, wTo cI (z 4) (zK z) K, wTp cI (z 5) (z 6) f n tk bg en nm, wSh cI (z 7) (zS z) s1 s2 s3]) (gc1 := [wTo cI (z 3) (zR z) T, wTo cI (z 2) (zT z) T]) (gs' := [wMa cI z ik F, wTo cI (z 2) (zT z) T, wTo cI (z 3) (zR z) T, wTo cI (z 4) (zK z) K, wTp cI (z 5) (z 6) f n tk bg en nm, wSh cI (z 7) (zS z) s1 s2 s3]) (fl2 _ _) rfl rfl ⟨by decide, by decide⟩ rfl rfl ⟨by decide, by decide⟩ rfl rfl (Nat.le_of_ble_eq_true rfl) dX4_mostJoyous_52 ?_
          refine aw_aload_n C dX4_mostJoyous_55 rfl ?_
          refine aw_getf C 0 3 1 7 inX4 rfl (by decide) rfl k1_118 rfl rfl dX4_mostJoyous_56 ?_
          refine aw_iload_n C dX4_mostJoyous_59 rfl ?_
          refine aw_iload_n C dX4_mostJoyous_60 rfl ?_
          refine aw_iload C dX4_mostJoyous_61 rfl ?_
          refine aw_gVdv C (As := [.int (nI (ix u)), .int w, .int (nI i)]) (c_X3_put l D cI cC adK adV (z 3) (zR z) T (ix u) w (nI i) hn l1) k1_215 cv_X3_put 2 rfl rfl rfl [2, 0, 1, 3, 4, 5] (fl1 _) rfl 6 rfl (by decide) (gc := [wTo cI (z 3) (zR z) T]) (gr := [wMa cI z ik F, wTo cI (z 2) (zT z) T, wTo cI (z 4) (zK z) K, wTp cI (z 5) (z 6) f n tk bg en nm, wSh cI (z 7) (zS z) s1 s2 s3]) (gc1 := [wTo cI (z 3) (zR z) (mPut T (ix u) w (nI i))]) (gs' := [wMa cI z ik F, wTo cI (z 2) (zT z) T, wTo cI (z 3) (zR z) (mPut T (ix u) w (nI i)), wTo cI (z 4) (zK z) K, wTp cI (z 5) (z 6) f n tk bg en nm, wSh cI (z 7) (zS z) s1 s2 s3]) (fl1 _) rfl rfl ⟨by decide, by decide⟩ rfl rfl ⟨by decide, by decide⟩ rfl rfl (Nat.le_of_ble_eq_true rfl) dX4_mostJoyous_63 ?_
          refine aw_pc 66 rfl ?_
          refine aw_aload_n C dX4_mostJoyous_66 rfl ?_
          refine aw_getf C 0 3 1 7 inX4 rfl (by decide) rfl k1_118 rfl rfl dX4_mostJoyous_67 ?_
          refine aw_iload C dX4_mostJoyous_70 rfl ?_
          refine aw_gVdv C (As := [.int (nI (ix k))]) (c_X3_passDays l D cI cC adK adV (z 3) (zR z) (mPut T (ix u) w (nI i)) (ix k) (by rw [put_n]; exact hn) (by omega)) k2_48 cv_X3_passDays 2 rfl rfl rfl [2, 0, 1, 3, 4, 5] (fl1 _) rfl 6 rfl (by decide) (gc := [wTo cI (z 3) (zR z) (mPut T (ix u) w (nI i))]) (gr := [wMa cI z ik F, wTo cI (z 2) (zT z) T, wTo cI (z 4) (zK z) K, wTp cI (z 5) (z 6) f n tk bg en nm, wSh cI (z 7) (zS z) s1 s2 s3]) (gc1 := [wTo cI (z 3) (zR z) (tDays (ix k) (mPut T (ix u) w (nI i)))]) (gs' := [wMa cI z ik F, wTo cI (z 2) (zT z) T, wTo cI (z 3) (zR z) (tDays (ix k) (mPut T (ix u) w (nI i))), wTo cI (z 4) (zK z) K, wTp cI (z 5) (z 6) f n tk bg en nm, wSh cI (z 7) (zS z) s1 s2 s3]) (fl1 _) rfl rfl ⟨by decide, by decide⟩ rfl rfl ⟨by decide, by decide⟩ rfl rfl (Nat.le_of_ble_eq_true rfl) dX4_mostJoyous_72 ?_
          refine aw_aload_n C dX4_mostJoyous_75 rfl ?_
          refine aw_getf C 0 3 1 7 inX4 rfl (by decide) rfl k1_118 rfl rfl dX4_mostJoyous_76 ?_
          refine aw_getf C 11 2 2 12 inX3 rfl (by decide) rfl k1_38 rfl rfl dX4_mostJoyous_79 ?_
          refine aw_iload C dX4_mostJoyous_82 rfl ?_
          refine aw_icmp_le C 100 dX4_mostJoyous_84 (by decide) (fun c_84 => ?_) (fun c_84 => ?_)
          · skip
            refine aw_iinc C (nI (i + 1)) dX4_mostJoyous_100 rfl (inc_nI _ 1) (by decide) rfl (lv' := [(0, .ref (z 0)), (1, .int (nI (ix u))), (2, .int w), (3, .int (nI vals)), (4, .int (nI (ix k))), (5, .int ((mBest T (ix u) w (ix k) i).1)), (6, .int ((mBest T (ix u) w (ix k) i).2)), (7, .int (nI (i + 1)))]) rfl ?_
            refine aw_pc 103 rfl ?_
            refine aw_goto C 38 dX4_mostJoyous_103 (by decide) ?_
            exact aw_eq (by first | (rw [best_le c_84]) | (rw [best_gt c_84])) rfl (by first | rfl | (simp only [itr, c_8, c_13, c_20, c_84] <;> first | done | rfl)) (ih38 _ trivial)
          · skip
            refine aw_aload_n C dX4_mostJoyous_87 rfl ?_
            refine aw_getf C 0 3 1 7 inX4 rfl (by decide) rfl k1_118 rfl rfl dX4_mostJoyous_88 ?_
            refine aw_getf C 11 2 2 12 inX3 rfl (by decide) rfl k1_38 rfl rfl dX4_mostJoyous_91 ?_
            refine aw_istore C false (lv' := [(0, .ref (z 0)), (1, .int (nI (ix u))), (2, .int w), (3, .int (nI vals)), (4, .int (nI (ix k))), (5, .int ((mBest T (ix u) w (ix k) i).1)), (6, .int ((tDays (ix k) (mPut T (ix u) w (nI i))).2.1 3)), (7, .int (nI i))]) dX4_mostJoyous_94 (by decide) rfl rfl ?_
            refine aw_iload C dX4_mostJoyous_96 rfl ?_
            refine aw_istore C false (lv' := [(0, .ref (z 0)), (1, .int (nI (ix u))), (2, .int w), (3, .int (nI vals)), (4, .int (nI (ix k))), (5, .int (nI i)), (6, .int ((tDays (ix k) (mPut T (ix u) w (nI i))).2.1 3)), (7, .int (nI i))]) dX4_mostJoyous_98 (by decide) rfl rfl ?_
            refine aw_iinc C (nI (i + 1)) dX4_mostJoyous_100 rfl (inc_nI _ 1) (by decide) rfl (lv' := [(0, .ref (z 0)), (1, .int (nI (ix u))), (2, .int w), (3, .int (nI vals)), (4, .int (nI (ix k))), (5, .int (nI i)), (6, .int ((tDays (ix k) (mPut T (ix u) w (nI i))).2.1 3)), (7, .int (nI (i + 1)))]) rfl ?_
            refine aw_goto C 38 dX4_mostJoyous_103 (by decide) ?_
            exact aw_eq (by first | (rw [best_le c_84]) | (rw [best_gt c_84])) rfl (by first | rfl | (simp only [itr, c_8, c_13, c_20, c_84] <;> first | done | rfl)) (ih38 _ trivial)
      · skip
        refine aw_sub (lv' := [(0, .ref (z 0))]) [0] rfl ?_
        exact J23 (by simp only [m_most, c_8, c_13, c_20, decide_true, decide_false, Bool.not_true, Bool.not_false, Bool.true_and, Bool.false_and, Bool.and_true, Bool.and_false, Bool.true_or, Bool.false_or, Bool.or_true, Bool.or_false, cond_true, cond_false, eq_self, if_true, if_false, ite_true, ite_false] <;> rfl)
abbrev r_X4_standFor : Room := { frames := 7, cells := 0, slots := 0, locals := 159 }
theorem cv_X4_standFor : cV yX4_standFor cX4_standFor 3 (some .int) 2 := ⟨k2_141, k2_142, k2_143, k1_1, by decide, by decide, by decide +kernel⟩
set_option maxHeartbeats 4000000 in
set_option maxRecDepth 100000 in
theorem c_X4_standFor (l : Launch) (D : va_G) (cI cC : ClassId) (adK adV : Nat → Nat) (z : Nat → Nat) (T R K : Tw) (ik : Bool) (F f : Nat → Int32) (n : Nat) (tk : Int32) (bg en : Nat) (nm : Int32) (s1 s2 s3 : Nat → Int32) (u : Int32) (k : Int32) (hn : T.1 ≤ 8) : FC l yX4_standFor (wW yX4_standFor cX4_standFor 3 (some .int)) r_X4_standFor D (tyC cI cC) adK adV (wBa cI z T R K ik F f n tk bg en nm s1 s2 s3) [.ref (z 0), .int u, .int k] 0 0 (pBa cI z (m_standFor (T, K, ik, F, f, n, s1, s2, s3) u k)) := by
  refine FC.of (own := RX4) (by decide) rfl (Nat.le_of_ble_eq_true rfl) ?_
  intro p9 e9 s9 m9 args9 below9 meth9 c9 A9 C hr hlk hmn
  show AW p9 l e9 r_X4_standFor s9 m9 args9 below9 meth9 c9 D A9 3 0 0 _ 0 [(0, .ref (z 0)), (1, .int u), (2, .int k)] [] _
  refine aw_eq (lv' := [(0, .ref (z 0)), (1, .int u), (2, .int k)]) (ws' := fl [wMa cI z ik F, wTo cI (z 2) (zT z) T, wTo cI (z 3) (zR z) R, wTo cI (z 4) (zK z) K, wTp cI (z 5) (z 6) f n tk bg en nm, wSh cI (z 7) (zS z) s1 s2 s3]) rfl rfl rfl ?_
  refine aw_aload_n C dX4_standFor_0 rfl ?_
  refine aw_iload_n C dX4_standFor_1 rfl ?_
  refine aw_iconst C (1 : Int32) dX4_standFor_2 (by decide) ?_
  refine aw_bipush C (16 : Int32) dX4_standFor_3 (by decide) ?_
  refine aw_iload_n C dX4_standFor_5 rfl ?_
  refine aw_gV C (As := [.int u, .int (1 : Int32), .int (16 : Int32), .int k]) (c_X4_mostJoyous l D cI cC adK adV z T R K ik F f n tk bg en nm s1 s2 s3 u (1 : Int32) 16 k hn (by decide)) k2_144 cv_X4_mostJoyous 3 rfl rfl rfl [0, 1, 2, 3, 4, 5] (gc := [wMa cI z ik F, wTo cI (z 2) (zT z) T, wTo cI (z 3) (zR z) R, wTo cI (z 4) (zK z) K, wTp cI (z 5) (z 6) f n tk bg en nm, wSh cI (z 7) (zS z) s1 s2 s3]) (gr := []) rfl rfl 6 rfl (by decide) ⟨by decide, by decide⟩ rfl rfl ⟨by decide, by decide⟩ rfl rfl (Nat.le_of_ble_eq_true rfl) dX4_standFor_6 ?_
  rintro _ _ ⟨rfl, R9, tk9, bg9, en9, nm9, rfl⟩
  exact aw_iret C hr hlk dX4_standFor_9 ⟨rfl, R9, tk9, bg9, en9, nm9, rfl⟩
abbrev r_X4_guiseFor : Room := { frames := 7, cells := 0, slots := 0, locals := 159 }
theorem cv_X4_guiseFor : cV yX4_guiseFor cX4_guiseFor 3 (some .int) 2 := ⟨k2_149, k2_150, k2_151, k1_1, by decide, by decide, by decide +kernel⟩
set_option maxHeartbeats 4000000 in
set_option maxRecDepth 100000 in
theorem c_X4_guiseFor (l : Launch) (D : va_G) (cI cC : ClassId) (adK adV : Nat → Nat) (z : Nat → Nat) (T R K : Tw) (ik : Bool) (F f : Nat → Int32) (n : Nat) (tk : Int32) (bg en : Nat) (nm : Int32) (s1 s2 s3 : Nat → Int32) (u : Int32) (k : Int32) (hn : T.1 ≤ 8) : FC l yX4_guiseFor (wW yX4_guiseFor cX4_guiseFor 3 (some .int)) r_X4_guiseFor D (tyC cI cC) adK adV (wBa cI z T R K ik F f n tk bg en nm s1 s2 s3) [.ref (z 0), .int u, .int k] 0 0 (pBa cI z (m_guiseFor (T, K, ik, F, f, n, s1, s2, s3) u k)) := by
  refine FC.of (own := RX4) (by decide) rfl (Nat.le_of_ble_eq_true rfl) ?_
  intro p9 e9 s9 m9 args9 below9 meth9 c9 A9 C hr hlk hmn
  show AW p9 l e9 r_X4_guiseFor s9 m9 args9 below9 meth9 c9 D A9 3 0 0 _ 0 [(0, .ref (z 0)), (1, .int u), (2, .int k)] [] _
  refine aw_eq (lv' := [(0, .ref (z 0)), (1, .int u), (2, .int k)]) (ws' := fl [wMa cI z ik F, wTo cI (z 2) (zT z) T, wTo cI (z 3) (zR z) R, wTo cI (z 4) (zK z) K, wTp cI (z 5) (z 6) f n tk bg en nm, wSh cI (z 7) (zS z) s1 s2 s3]) rfl rfl rfl ?_
  refine aw_aload_n C dX4_guiseFor_0 rfl ?_
  refine aw_iload_n C dX4_guiseFor_1 rfl ?_
  refine aw_iconst C (2 : Int32) dX4_guiseFor_2 (by decide) ?_
  refine aw_bipush C (12 : Int32) dX4_guiseFor_3 (by decide) ?_
  refine aw_iload_n C dX4_guiseFor_5 rfl ?_
  refine aw_gV C (As := [.int u, .int (2 : Int32), .int (12 : Int32), .int k]) (c_X4_mostJoyous l D cI cC adK adV z T R K ik F f n tk bg en nm s1 s2 s3 u (2 : Int32) 12 k hn (by decide)) k2_144 cv_X4_mostJoyous 3 rfl rfl rfl [0, 1, 2, 3, 4, 5] (gc := [wMa cI z ik F, wTo cI (z 2) (zT z) T, wTo cI (z 3) (zR z) R, wTo cI (z 4) (zK z) K, wTp cI (z 5) (z 6) f n tk bg en nm, wSh cI (z 7) (zS z) s1 s2 s3]) (gr := []) rfl rfl 6 rfl (by decide) ⟨by decide, by decide⟩ rfl rfl ⟨by decide, by decide⟩ rfl rfl (Nat.le_of_ble_eq_true rfl) dX4_guiseFor_6 ?_
  rintro _ _ ⟨rfl, R9, tk9, bg9, en9, nm9, rfl⟩
  exact aw_iret C hr hlk dX4_guiseFor_9 ⟨rfl, R9, tk9, bg9, en9, nm9, rfl⟩
abbrev r_X4_kindFor : Room := { frames := 7, cells := 0, slots := 0, locals := 159 }
theorem cv_X4_kindFor : cV yX4_kindFor cX4_kindFor 3 (some .int) 2 := ⟨k2_153, k2_154, k2_155, k1_1, by decide, by decide, by decide +kernel⟩
set_option maxHeartbeats 4000000 in
set_option maxRecDepth 100000 in
theorem c_X4_kindFor (l : Launch) (D : va_G) (cI cC : ClassId) (adK adV : Nat → Nat) (z : Nat → Nat) (T R K : Tw) (ik : Bool) (F f : Nat → Int32) (n : Nat) (tk : Int32) (bg en : Nat) (nm : Int32) (s1 s2 s3 : Nat → Int32) (u : Int32) (k : Int32) (hn : T.1 ≤ 8) : FC l yX4_kindFor (wW yX4_kindFor cX4_kindFor 3 (some .int)) r_X4_kindFor D (tyC cI cC) adK adV (wBa cI z T R K ik F f n tk bg en nm s1 s2 s3) [.ref (z 0), .int u, .int k] 0 0 (pBa cI z (m_kindFor (T, K, ik, F, f, n, s1, s2, s3) u k)) := by
  refine FC.of (own := RX4) (by decide) rfl (Nat.le_of_ble_eq_true rfl) ?_
  intro p9 e9 s9 m9 args9 below9 meth9 c9 A9 C hr hlk hmn
  show AW p9 l e9 r_X4_kindFor s9 m9 args9 below9 meth9 c9 D A9 3 0 0 _ 0 [(0, .ref (z 0)), (1, .int u), (2, .int k)] [] _
  refine aw_eq (lv' := [(0, .ref (z 0)), (1, .int u), (2, .int k)]) (ws' := fl [wMa cI z ik F, wTo cI (z 2) (zT z) T, wTo cI (z 3) (zR z) R, wTo cI (z 4) (zK z) K, wTp cI (z 5) (z 6) f n tk bg en nm, wSh cI (z 7) (zS z) s1 s2 s3]) rfl rfl rfl ?_
  refine aw_aload_n C dX4_kindFor_0 rfl ?_
  refine aw_iload_n C dX4_kindFor_1 rfl ?_
  refine aw_iconst C (0 : Int32) dX4_kindFor_2 (by decide) ?_
  refine aw_bipush C (7 : Int32) dX4_kindFor_3 (by decide) ?_
  refine aw_iload_n C dX4_kindFor_5 rfl ?_
  refine aw_gV C (As := [.int u, .int (0 : Int32), .int (7 : Int32), .int k]) (c_X4_mostJoyous l D cI cC adK adV z T R K ik F f n tk bg en nm s1 s2 s3 u (0 : Int32) 7 k hn (by decide)) k2_144 cv_X4_mostJoyous 3 rfl rfl rfl [0, 1, 2, 3, 4, 5] (gc := [wMa cI z ik F, wTo cI (z 2) (zT z) T, wTo cI (z 3) (zR z) R, wTo cI (z 4) (zK z) K, wTp cI (z 5) (z 6) f n tk bg en nm, wSh cI (z 7) (zS z) s1 s2 s3]) (gr := []) rfl rfl 6 rfl (by decide) ⟨by decide, by decide⟩ rfl rfl ⟨by decide, by decide⟩ rfl rfl (Nat.le_of_ble_eq_true rfl) dX4_kindFor_6 ?_
  rintro _ _ ⟨rfl, R9, tk9, bg9, en9, nm9, rfl⟩
  exact aw_iret C hr hlk dX4_kindFor_9 ⟨rfl, R9, tk9, bg9, en9, nm9, rfl⟩
abbrev r_X4_staysJoyless : Room := { frames := 5, cells := 0, slots := 0, locals := 110 }
theorem cv_X4_staysJoyless : cV yX4_staysJoyless cX4_staysJoyless 4 (some .boolean) 2 := ⟨k2_164, k0_8, k2_165, k1_1, by decide, by decide, by decide +kernel⟩
set_option maxHeartbeats 4000000 in
set_option maxRecDepth 100000 in
theorem c_X4_staysJoyless (l : Launch) (D : va_G) (cI cC : ClassId) (adK adV : Nat → Nat) (z : Nat → Nat) (T R K : Tw) (ik : Bool) (F f : Nat → Int32) (n : Nat) (tk : Int32) (bg en : Nat) (nm : Int32) (s1 s2 s3 : Nat → Int32) (x : Int32) (k : Nat) (hn : T.1 ≤ 8) (hk : k < 2 ^ 20) : FC l yX4_staysJoyless (wW yX4_staysJoyless cX4_staysJoyless 4 (some .boolean)) r_X4_staysJoyless D (tyC cI cC) adK adV (wBa cI z T R K ik F f n tk bg en nm s1 s2 s3) [.ref (z 0), .int x, .int (nI k)] 0 0 (pBb cI z (mStay T x k) (T, K, ik, F, f, n, s1, s2, s3)) := by
  refine FC.of (own := RX4) (by decide) rfl (Nat.le_of_ble_eq_true rfl) ?_
  intro p9 e9 s9 m9 args9 below9 meth9 c9 A9 C hr hlk hmn
  show AW p9 l e9 r_X4_staysJoyless s9 m9 args9 below9 meth9 c9 D A9 4 0 0 _ 0 [(0, .ref (z 0)), (1, .int x), (2, .int (nI k))] [] _
  refine aw_eq (lv' := [(0, .ref (z 0)), (1, .int x), (2, .int (nI k))]) (ws' := fl [wMa cI z ik F, wTo cI (z 2) (zT z) T, wTo cI (z 3) (zR z) R, wTo cI (z 4) (zK z) K, wTp cI (z 5) (z 6) f n tk bg en nm, wSh cI (z 7) (zS z) s1 s2 s3]) rfl rfl rfl ?_
  refine aw_aload_n C dX4_staysJoyless_0 rfl ?_
  refine aw_getf C 0 3 1 7 inX4 rfl (by decide) rfl k1_118 rfl rfl dX4_staysJoyless_1 ?_
  refine aw_aload_n C dX4_staysJoyless_4 rfl ?_
  refine aw_getf C 0 3 0 7 inX4 rfl (by decide) rfl k1_117 rfl rfl dX4_staysJoyless_5 ?_
  refine aw_gVdv C (As := [.ref (z 2)]) (c_X3_become l D cI cC adK adV (z 3) (z 2) (zR z) (zT z) R T) k2_113 cv_X3_become 2 rfl rfl rfl [2, 1, 0, 3, 4, 5] (fl2 _ _) rfl 6 rfl (by decide) (gc := [wTo cI (z 3) (zR z) R, wTo cI (z 2) (zT z) T]) (gr := [wMa cI z ik F, wTo cI (z 4) (zK z) K, wTp cI (z 5) (z 6) f n tk bg en nm, wSh cI (z 7) (zS z) s1 s2 s3]) (gc1 := [wTo cI (z 3) (zR z) T, wTo cI (z 2) (zT z) T]) (gs' := [wMa cI z ik F, wTo cI (z 2) (zT z) T, wTo cI (z 3) (zR z) T, wTo cI (z 4) (zK z) K, wTp cI (z 5) (z 6) f n tk bg en nm, wSh cI (z 7) (zS z) s1 s2 s3]) (fl2 _ _) rfl rfl ⟨by decide, by decide⟩ rfl rfl ⟨by decide, by decide⟩ rfl rfl (Nat.le_of_ble_eq_true rfl) dX4_staysJoyless_8 ?_
  refine aw_aload_n C dX4_staysJoyless_11 rfl ?_
  refine aw_getf C 0 3 1 7 inX4 rfl (by decide) rfl k1_118 rfl rfl dX4_staysJoyless_12 ?_
  refine aw_iload_n C dX4_staysJoyless_15 rfl ?_
  refine aw_gVdv C (As := [.int x]) (c_X3_putOut l D cI cC adK adV (z 3) (zR z) T x hn) k2_166 cv_X3_putOut 2 rfl rfl rfl [2, 0, 1, 3, 4, 5] (fl1 _) rfl 6 rfl (by decide) (gc := [wTo cI (z 3) (zR z) T]) (gr := [wMa cI z ik F, wTo cI (z 2) (zT z) T, wTo cI (z 4) (zK z) K, wTp cI (z 5) (z 6) f n tk bg en nm, wSh cI (z 7) (zS z) s1 s2 s3]) (gc1 := [wTo cI (z 3) (zR z) (tPutOut T x)]) (gs' := [wMa cI z ik F, wTo cI (z 2) (zT z) T, wTo cI (z 3) (zR z) (tPutOut T x), wTo cI (z 4) (zK z) K, wTp cI (z 5) (z 6) f n tk bg en nm, wSh cI (z 7) (zS z) s1 s2 s3]) (fl1 _) rfl rfl ⟨by decide, by decide⟩ rfl rfl ⟨by decide, by decide⟩ rfl rfl (Nat.le_of_ble_eq_true rfl) dX4_staysJoyless_16 ?_
  refine aw_pc 19 rfl ?_
  refine aw_iconst C (0 : Int32) dX4_staysJoyless_19 (by decide) ?_
  refine aw_istore_n C true (lv' := [(0, .ref (z 0)), (1, .int x), (2, .int (nI k)), (3, .int (0 : Int32))]) dX4_staysJoyless_20 (by decide) rfl rfl ?_
  refine aw_eq (lv' := [(0, .ref (z 0)), (1, .int x), (2, .int (nI k)), (3, .int (nI 0))]) (ws' := fl [wMa cI z ik F, wTo cI (z 2) (zT z) T, wTo cI (z 3) (zR z) (tDays 0 (tPutOut T x)), wTo cI (z 4) (zK z) K, wTp cI (z 5) (z 6) f n tk bg en nm, wSh cI (z 7) (zS z) s1 s2 s3]) (by first | rfl | (simp only [itr])) rfl (by rfl) ?_
  refine aw_loop (LV := fun i => [(0, .ref (z 0)), (1, .int x), (2, .int (nI k)), (3, .int (nI i))]) (WS := fun i => fl [wMa cI z ik F, wTo cI (z 2) (zT z) T, wTo cI (z 3) (zR z) (tDays i (tPutOut T x)), wTo cI (z 4) (zK z) K, wTp cI (z 5) (z 6) f n tk bg en nm, wSh cI (z 7) (zS z) s1 s2 s3]) k (Inv := fun i => ∀ j, j < i → (!decide ((tDays j (tPutOut T x)).2.1 3 = T.2.1 3)) = false) (fun k hk => absurd hk (Nat.not_lt_zero k)) ?_ ?_
  · intro hv21
    refine aw_iload_n C dX4_staysJoyless_21 rfl ?_
    refine aw_iload_n C dX4_staysJoyless_22 rfl ?_
    refine aw_icmp_ge C 56 dX4_staysJoyless_23 (by decide) (fun c_23 => ?_) (fun c_23 => absurd c_23 (fun z => z (Int32.le_refl _)))
    refine aw_aload_n C dX4_staysJoyless_56 rfl ?_
    refine aw_getf C 0 3 1 7 inX4 rfl (by decide) rfl k1_118 rfl rfl dX4_staysJoyless_57 ?_
    refine aw_getf C 11 2 2 12 inX3 rfl (by decide) rfl k1_38 rfl rfl dX4_staysJoyless_60 ?_
    refine aw_aload_n C dX4_staysJoyless_63 rfl ?_
    refine aw_getf C 0 3 0 7 inX4 rfl (by decide) rfl k1_117 rfl rfl dX4_staysJoyless_64 ?_
    refine aw_pc 67 rfl ?_
    refine aw_getf C 2 2 2 12 inX3 rfl (by decide) rfl k1_38 rfl rfl dX4_staysJoyless_67 ?_
    refine aw_icmp_ne C 77 dX4_staysJoyless_70 (by decide) (fun c_70 => ?_) (fun c_70 => ?_)
    · skip
      refine aw_iconst C (0 : Int32) dX4_staysJoyless_77 (by decide) ?_
      exact aw_bret C (b := false) hr hlk dX4_staysJoyless_78 rfl ⟨rb (by first | exact absurd c_70 c_40 | (have e9 : sJ T x k = i := fst9_at hv21 (by simp only [c_40, decide_true, decide_false, Bool.not_true, Bool.not_false, Bool.true_and, Bool.false_and, Bool.and_true, Bool.and_false, Bool.true_or, Bool.false_or, Bool.or_true, Bool.or_false, cond_true, cond_false, eq_self, if_true, if_false, ite_true, ite_false]) hi21; rw [mStay, e9]; simp only [c_70, decide_true, decide_false, Bool.not_true, Bool.not_false, Bool.true_and, Bool.false_and, Bool.and_true, Bool.and_false, Bool.true_or, Bool.false_or, Bool.or_true, Bool.or_false, cond_true, cond_false, eq_self, if_true, if_false, ite_true, ite_false]) | (have e9 : sJ T x k = k := fst9_none hv21; rw [mStay, e9]; simp only [c_70, decide_true, decide_false, Bool.not_true, Bool.not_false, Bool.true_and, Bool.false_and, Bool.and_true, Bool.and_false, Bool.true_or, Bool.false_or, Bool.or_true, Bool.or_false, cond_true, cond_false, eq_self, if_true, if_false, ite_true, ite_false])), (tDays k (tPutOut T x)), tk, bg, en, nm, rfl⟩
    · skip
      refine aw_iconst C (1 : Int32) dX4_staysJoyless_73 (by decide) ?_
      refine aw_goto C 78 dX4_staysJoyless_74 (by decide) ?_
      exact aw_bret C (b := true) hr hlk dX4_staysJoyless_78 rfl ⟨rb (by first | exact absurd c_70 c_40 | (have e9 : sJ T x k = i := fst9_at hv21 (by simp only [c_40, decide_true, decide_false, Bool.not_true, Bool.not_false, Bool.true_and, Bool.false_and, Bool.and_true, Bool.and_false, Bool.true_or, Bool.false_or, Bool.or_true, Bool.or_false, cond_true, cond_false, eq_self, if_true, if_false, ite_true, ite_false]) hi21; rw [mStay, e9]; simp only [c_70, decide_true, decide_false, Bool.not_true, Bool.not_false, Bool.true_and, Bool.false_and, Bool.and_true, Bool.and_false, Bool.true_or, Bool.false_or, Bool.or_true, Bool.or_false, cond_true, cond_false, eq_self, if_true, if_false, ite_true, ite_false]) | (have e9 : sJ T x k = k := fst9_none hv21; rw [mStay, e9]; simp only [c_70, decide_true, decide_false, Bool.not_true, Bool.not_false, Bool.true_and, Bool.false_and, Bool.and_true, Bool.and_false, Bool.true_or, Bool.false_or, Bool.or_true, Bool.or_false, cond_true, cond_false, eq_self, if_true, if_false, ite_true, ite_false])), (tDays k (tPutOut T x)), tk, bg, en, nm, rfl⟩
  · intro i hi21 hv21 ih21
    refine aw_iload_n C dX4_staysJoyless_21 rfl ?_
    refine aw_iload_n C dX4_staysJoyless_22 rfl ?_
    refine aw_icmp_ge C 56 dX4_staysJoyless_23 (by decide) (fun c_23 => absurd c_23 (nI_ge hi21 (by omega))) (fun c_23 => ?_)
    refine aw_pc 26 rfl ?_
    refine aw_aload_n C dX4_staysJoyless_26 rfl ?_
    refine aw_getf C 0 3 1 7 inX4 rfl (by decide) rfl k1_118 rfl rfl dX4_staysJoyless_27 ?_
    refine aw_getf C 11 2 2 12 inX3 rfl (by decide) rfl k1_38 rfl rfl dX4_staysJoyless_30 ?_
    refine aw_aload_n C dX4_staysJoyless_33 rfl ?_
    refine aw_getf C 0 3 0 7 inX4 rfl (by decide) rfl k1_117 rfl rfl dX4_staysJoyless_34 ?_
    refine aw_getf C 2 2 2 12 inX3 rfl (by decide) rfl k1_38 rfl rfl dX4_staysJoyless_37 ?_
    refine aw_icmp_ne C 56 dX4_staysJoyless_40 (by decide) (fun c_40 => ?_) (fun c_40 => ?_)
    · skip
      refine aw_aload_n C dX4_staysJoyless_56 rfl ?_
      refine aw_getf C 0 3 1 7 inX4 rfl (by decide) rfl k1_118 rfl rfl dX4_staysJoyless_57 ?_
      refine aw_getf C 11 2 2 12 inX3 rfl (by decide) rfl k1_38 rfl rfl dX4_staysJoyless_60 ?_
      refine aw_pc 63 rfl ?_
      refine aw_aload_n C dX4_staysJoyless_63 rfl ?_
      refine aw_getf C 0 3 0 7 inX4 rfl (by decide) rfl k1_117 rfl rfl dX4_staysJoyless_64 ?_
      refine aw_getf C 2 2 2 12 inX3 rfl (by decide) rfl k1_38 rfl rfl dX4_staysJoyless_67 ?_
      refine aw_icmp_ne C 77 dX4_staysJoyless_70 (by decide) (fun c_70 => ?_) (fun c_70 => ?_)
      · skip
        refine aw_iconst C (0 : Int32) dX4_staysJoyless_77 (by decide) ?_
        exact aw_bret C (b := false) hr hlk dX4_staysJoyless_78 rfl ⟨rb (by first | exact absurd c_70 c_40 | (have e9 : sJ T x k = i := fst9_at hv21 (by simp only [c_40, decide_true, decide_false, Bool.not_true, Bool.not_false, Bool.true_and, Bool.false_and, Bool.and_true, Bool.and_false, Bool.true_or, Bool.false_or, Bool.or_true, Bool.or_false, cond_true, cond_false, eq_self, if_true, if_false, ite_true, ite_false]) hi21; rw [mStay, e9]; simp only [c_70, decide_true, decide_false, Bool.not_true, Bool.not_false, Bool.true_and, Bool.false_and, Bool.and_true, Bool.and_false, Bool.true_or, Bool.false_or, Bool.or_true, Bool.or_false, cond_true, cond_false, eq_self, if_true, if_false, ite_true, ite_false]) | (have e9 : sJ T x k = k := fst9_none hv21; rw [mStay, e9]; simp only [c_70, decide_true, decide_false, Bool.not_true, Bool.not_false, Bool.true_and, Bool.false_and, Bool.and_true, Bool.and_false, Bool.true_or, Bool.false_or, Bool.or_true, Bool.or_false, cond_true, cond_false, eq_self, if_true, if_false, ite_true, ite_false])), (tDays i (tPutOut T x)), tk, bg, en, nm, rfl⟩
      · skip
        refine aw_iconst C (1 : Int32) dX4_staysJoyless_73 (by decide) ?_
        refine aw_goto C 78 dX4_staysJoyless_74 (by decide) ?_
        exact aw_bret C (b := true) hr hlk dX4_staysJoyless_78 rfl ⟨rb (by first | exact absurd c_70 c_40 | (have e9 : sJ T x k = i := fst9_at hv21 (by simp only [c_40, decide_true, decide_false, Bool.not_true, Bool.not_false, Bool.true_and, Bool.false_and, Bool.and_true, Bool.and_false, Bool.true_or, Bool.false_or, Bool.or_true, Bool.or_false, cond_true, cond_false, eq_self, if_true, if_false, ite_true, ite_false]) hi21; rw [mStay, e9]; simp only [c_70, decide_true, decide_false, Bool.not_true, Bool.not_false, Bool.true_and, Bool.false_and, Bool.and_true, Bool.and_false, Bool.true_or, Bool.false_or, Bool.or_true, Bool.or_false, cond_true, cond_false, eq_self, if_true, if_false, ite_true, ite_false]) | (have e9 : sJ T x k = k := fst9_none hv21; rw [mStay, e9]; simp only [c_70, decide_true, decide_false, Bool.not_true, Bool.not_false, Bool.true_and, Bool.false_and, Bool.and_true, Bool.and_false, Bool.true_or, Bool.false_or, Bool.or_true, Bool.or_false, cond_true, cond_false, eq_self, if_true, if_false, ite_true, ite_false])), (tDays i (tPutOut T x)), tk, bg, en, nm, rfl⟩
    · skip
      refine aw_aload_n C dX4_staysJoyless_43 rfl ?_
      refine aw_pc 44 rfl ?_
      refine aw_getf C 0 3 1 7 inX4 rfl (by decide) rfl k1_118 rfl rfl dX4_staysJoyless_44 ?_
      refine aw_gVdv C (As := []) (c_X3_passDay l D cI cC adK adV (z 3) (zR z) (tDays i (tPutOut T x))  (by rw [days_n, putOut_n]; exact hn)) k2_131 cv_X3_passDay 2 rfl rfl rfl [2, 0, 1, 3, 4, 5] (fl1 _) rfl 6 rfl (by decide) (gc := [wTo cI (z 3) (zR z) (tDays i (tPutOut T x))]) (gr := [wMa cI z ik F, wTo cI (z 2) (zT z) T, wTo cI (z 4) (zK z) K, wTp cI (z 5) (z 6) f n tk bg en nm, wSh cI (z 7) (zS z) s1 s2 s3]) (gc1 := [wTo cI (z 3) (zR z) (tDay (tDays i (tPutOut T x)))]) (gs' := [wMa cI z ik F, wTo cI (z 2) (zT z) T, wTo cI (z 3) (zR z) (tDay (tDays i (tPutOut T x))), wTo cI (z 4) (zK z) K, wTp cI (z 5) (z 6) f n tk bg en nm, wSh cI (z 7) (zS z) s1 s2 s3]) (fl1 _) rfl rfl ⟨by decide, by decide⟩ rfl rfl ⟨by decide, by decide⟩ rfl rfl (Nat.le_of_ble_eq_true rfl) dX4_staysJoyless_47 ?_
      refine aw_iinc C (nI (i + 1)) dX4_staysJoyless_50 rfl (inc_nI _ 1) (by decide) rfl (lv' := [(0, .ref (z 0)), (1, .int x), (2, .int (nI k)), (3, .int (nI (i + 1)))]) rfl ?_
      refine aw_goto C 21 dX4_staysJoyless_53 (by decide) ?_
      exact aw_eq (by first | rfl | (simp only [itr, c_40])) rfl (by first | rfl | (simp only [itr, c_40] <;> first | done | rfl)) (ih21 (all_s hv21 (by simp only [c_40, decide_true, decide_false, Bool.not_true, Bool.not_false, Bool.true_and, Bool.false_and, Bool.and_true, Bool.and_false, Bool.true_or, Bool.false_or, Bool.or_true, Bool.or_false, cond_true, cond_false, eq_self, if_true, if_false, ite_true, ite_false])))
abbrev r_X4_dark : Room := { frames := 6, cells := 0, slots := 0, locals := 133 }
theorem cv_X4_dark : cV yX4_dark cX4_dark 4 (some .int) 1 := ⟨k2_157, k2_158, k2_159, k1_1, by decide, by decide, by decide +kernel⟩
set_option maxHeartbeats 4000000 in
set_option maxRecDepth 100000 in
theorem c_X4_dark (l : Launch) (D : va_G) (cI cC : ClassId) (adK adV : Nat → Nat) (z : Nat → Nat) (T R K : Tw) (ik : Bool) (F f : Nat → Int32) (n : Nat) (tk : Int32) (bg en : Nat) (nm : Int32) (s1 s2 s3 : Nat → Int32) (k : Int32) (hn : T.1 ≤ 8) : FC l yX4_dark (wW yX4_dark cX4_dark 4 (some .int)) r_X4_dark D (tyC cI cC) adK adV (wBa cI z T R K ik F f n tk bg en nm s1 s2 s3) [.ref (z 0), .int k] 0 0 (pBa cI z (m_dark (T, K, ik, F, f, n, s1, s2, s3) k)) := by
  refine FC.of (own := RX4) (by decide) rfl (Nat.le_of_ble_eq_true rfl) ?_
  intro p9 e9 s9 m9 args9 below9 meth9 c9 A9 C hr hlk hmn
  show AW p9 l e9 r_X4_dark s9 m9 args9 below9 meth9 c9 D A9 4 0 0 _ 0 [(0, .ref (z 0)), (1, .int k)] [] _
  refine aw_eq (lv' := [(0, .ref (z 0)), (1, .int k)]) (ws' := fl [wMa cI z ik F, wTo cI (z 2) (zT z) T, wTo cI (z 3) (zR z) R, wTo cI (z 4) (zK z) K, wTp cI (z 5) (z 6) f n tk bg en nm, wSh cI (z 7) (zS z) s1 s2 s3]) rfl rfl rfl ?_
  have J10 : m_dark (T, K, ik, F, f, n, s1, s2, s3) k = gno (T, K, ik, F, f, n, s1, s2, s3) 0 → AW p9 l e9 r_X4_dark s9 m9 args9 below9 meth9 c9 D A9 4 0 0 (aQ below9 args9 s9 D A9 0 0 (pBa cI z (m_dark (T, K, ik, F, f, n, s1, s2, s3) k))) 10 [(0, .ref (z 0))] [] (fl [wMa cI z ik F, wTo cI (z 2) (zT z) T, wTo cI (z 3) (zR z) R, wTo cI (z 4) (zK z) K, wTp cI (z 5) (z 6) f n tk bg en nm, wSh cI (z 7) (zS z) s1 s2 s3]) := by
    intro hj
    refine aw_aload_n C dX4_dark_10 rfl ?_
    refine aw_iconst C (0 : Int32) dX4_dark_11 (by decide) ?_
    refine aw_gVd C (As := [.int (0 : Int32)]) (c_X4_finding l D cI cC adK adV z ik F 0 (by decide)) k1_146 cv_X4_finding 3 rfl rfl rfl [0, 1, 2, 3, 4, 5] (fl1 _) rfl 6 rfl (by decide) (gc := [wMa cI z ik F]) (gr := [wTo cI (z 2) (zT z) T, wTo cI (z 3) (zR z) R, wTo cI (z 4) (zK z) K, wTp cI (z 5) (z 6) f n tk bg en nm, wSh cI (z 7) (zS z) s1 s2 s3]) (gc1 := [wMa cI z ik (upd F 0 (F 0 + 1))]) (gs' := [wMa cI z ik (upd F 0 (F 0 + 1)), wTo cI (z 2) (zT z) T, wTo cI (z 3) (zR z) R, wTo cI (z 4) (zK z) K, wTp cI (z 5) (z 6) f n tk bg en nm, wSh cI (z 7) (zS z) s1 s2 s3]) (fl1 _) rfl rfl ⟨by decide, by decide⟩ rfl rfl ⟨by decide, by decide⟩ rfl rfl (Nat.le_of_ble_eq_true rfl) dX4_dark_12 ?_
    have hm : m_dark (T, K, ik, F, f, n, s1, s2, s3) k = ((fno 0), (T, K, ik, (upd F 0 (F 0 + 1)), f, n, s1, s2, s3)) := by rw [hj]; rfl
    exact aw_iret C hr hlk dX4_dark_15 ⟨ri (by rw [hm]), R, tk, bg, en, nm, by rw [hm]; rfl⟩
  refine aw_iload_n C dX4_dark_0 rfl ?_
  refine aw_if_lt C 10 dX4_dark_1 (by decide) (fun c_1 => ?_) (fun c_1 => ?_)
  · skip
    refine aw_sub (lv' := [(0, .ref (z 0))]) [0] rfl ?_
    exact J10 (by simp only [m_dark, c_1, decide_true, decide_false, Bool.not_true, Bool.not_false, Bool.true_and, Bool.false_and, Bool.and_true, Bool.and_false, Bool.true_or, Bool.false_or, Bool.or_true, Bool.or_false, cond_true, cond_false, eq_self, if_true, if_false, ite_true, ite_false] <;> rfl)
  · skip
    refine aw_iload_n C dX4_dark_4 rfl ?_
    refine aw_bipush C (24 : Int32) dX4_dark_5 (by decide) ?_
    refine aw_icmp_le C 16 dX4_dark_7 (by decide) (fun c_7 => ?_) (fun c_7 => ?_)
    · skip
      have l1 : ix k ≤ 24 := ix_le c_1 (by decide) c_7
      have pw := pow_le hn
      have pz := pow_pos9 T.1
      have e1 : k = nI (ix k) := ix_eq c_1
      refine aw_eq (lv' := [(0, .ref (z 0)), (1, .int (nI (ix k)))]) (ws' := fl [wMa cI z ik F, wTo cI (z 2) (zT z) T, wTo cI (z 3) (zR z) R, wTo cI (z 4) (zK z) K, wTp cI (z 5) (z 6) f n tk bg en nm, wSh cI (z 7) (zS z) s1 s2 s3]) (by rw [← e1]) rfl rfl ?_
      refine aw_pc 16 rfl ?_
      refine aw_iconst C (0 : Int32) dX4_dark_16 (by decide) ?_
      refine aw_istore_n C true (lv' := [(0, .ref (z 0)), (1, .int (nI (ix k))), (2, .int (0 : Int32))]) dX4_dark_17 (by decide) rfl rfl ?_
      refine aw_eq (lv' := [(0, .ref (z 0)), (1, .int (nI (ix k))), (2, .int (nI 0))]) (ws' := fl [wMa cI z ik F, wTo cI (z 2) (zT z) T, wTo cI (z 3) (zR z) ((R, tk, bg, en, nm).1), wTo cI (z 4) (zK z) K, wTp cI (z 5) (z 6) f n ((R, tk, bg, en, nm).2.1) ((R, tk, bg, en, nm).2.2.1) ((R, tk, bg, en, nm).2.2.2.1) ((R, tk, bg, en, nm).2.2.2.2), wSh cI (z 7) (zS z) s1 s2 s3]) (by first | rfl | (simp only [itr, c_1, c_7])) rfl (by rfl) ?_
      refine aw_loopE (σ := Tw × Int32 × Nat × Nat × Int32) (LV := fun i1 x1 => [(0, .ref (z 0)), (1, .int (nI (ix k))), (2, .int (nI i1))]) (WS := fun i1 x1 => fl [wMa cI z ik F, wTo cI (z 2) (zT z) T, wTo cI (z 3) (zR z) x1.1, wTo cI (z 4) (zK z) K, wTp cI (z 5) (z 6) f n x1.2.1 x1.2.2.1 x1.2.2.2.1 x1.2.2.2.2, wSh cI (z 7) (zS z) s1 s2 s3]) (T.1 + 1) (Inv := fun i _ => ∀ sz, sz < i → (decide (dkR T (ix k) sz < 2 ^ T.1)) = false) (fun k hk => absurd hk (Nat.not_lt_zero k)) ?_ ?_
      · intro x1 hv18
        refine aw_iload_n C dX4_dark_18 rfl ?_
        refine aw_aload_n C dX4_dark_19 rfl ?_
        refine aw_getf C 0 3 0 7 inX4 rfl (by decide) rfl k1_117 rfl rfl dX4_dark_20 ?_
        refine aw_getf C 2 2 0 12 inX3 rfl (by decide) rfl k1_34 rfl rfl dX4_dark_23 ?_
        refine aw_icmp_gt C 73 dX4_dark_26 (by decide) (fun c_26 => ?_) (fun c_26 => absurd c_26 (fun z => z (nI_lt (by omega) (by omega))))
        refine aw_aload_n C dX4_dark_73 rfl ?_
        refine aw_iconst C (3 : Int32) dX4_dark_74 (by decide) ?_
        refine aw_gVd C (As := [.int (3 : Int32)]) (c_X4_finding l D cI cC adK adV z ik F 3 (by decide)) k1_146 cv_X4_finding 3 rfl rfl rfl [0, 1, 2, 3, 4, 5] (fl1 _) rfl 6 rfl (by decide) (gc := [wMa cI z ik F]) (gr := [wTo cI (z 2) (zT z) T, wTo cI (z 3) (zR z) x1.1, wTo cI (z 4) (zK z) K, wTp cI (z 5) (z 6) f n x1.2.1 x1.2.2.1 x1.2.2.2.1 x1.2.2.2.2, wSh cI (z 7) (zS z) s1 s2 s3]) (gc1 := [wMa cI z ik (upd F 3 (F 3 + 1))]) (gs' := [wMa cI z ik (upd F 3 (F 3 + 1)), wTo cI (z 2) (zT z) T, wTo cI (z 3) (zR z) x1.1, wTo cI (z 4) (zK z) K, wTp cI (z 5) (z 6) f n x1.2.1 x1.2.2.1 x1.2.2.2.1 x1.2.2.2.2, wSh cI (z 7) (zS z) s1 s2 s3]) (fl1 _) rfl rfl ⟨by decide, by decide⟩ rfl rfl ⟨by decide, by decide⟩ rfl rfl (Nat.le_of_ble_eq_true rfl) dX4_dark_75 ?_
        refine aw_pc 78 rfl ?_
        have hm : m_dark (T, K, ik, F, f, n, s1, s2, s3) k = ((fno 3), (T, K, ik, (upd F 3 (F 3 + 1)), f, n, s1, s2, s3)) := by have e2 : dkS T (ix k) = T.1 + 1 := fst9_none hv18; simp only [m_dark, c_1, c_7, e2, Nat.lt_irrefl, decide_true, decide_false, Bool.not_true, Bool.not_false, Bool.true_and, Bool.false_and, Bool.and_true, Bool.and_false, Bool.true_or, Bool.false_or, Bool.or_true, Bool.or_false, cond_true, cond_false, eq_self, if_true, if_false, ite_true, ite_false] <;> rfl
        exact aw_iret C hr hlk dX4_dark_78 ⟨ri (by rw [hm]), x1.1, x1.2.1, x1.2.2.1, x1.2.2.2.1, x1.2.2.2.2, by rw [hm]; rfl⟩
      · intro i1 x1 hi18 hv18 ih18
        refine aw_iload_n C dX4_dark_18 rfl ?_
        refine aw_aload_n C dX4_dark_19 rfl ?_
        refine aw_getf C 0 3 0 7 inX4 rfl (by decide) rfl k1_117 rfl rfl dX4_dark_20 ?_
        refine aw_getf C 2 2 0 12 inX3 rfl (by decide) rfl k1_34 rfl rfl dX4_dark_23 ?_
        refine aw_icmp_gt C 73 dX4_dark_26 (by decide) (fun c_26 => absurd c_26 (nI_nlt (by omega) (by omega))) (fun c_26 => ?_)
        refine aw_iconst C (0 : Int32) dX4_dark_29 (by decide) ?_
        refine aw_istore_n C true (lv' := [(0, .ref (z 0)), (1, .int (nI (ix k))), (2, .int (nI i1)), (3, .int (0 : Int32))]) dX4_dark_30 (by decide) rfl rfl ?_
        refine aw_eq (lv' := [(0, .ref (z 0)), (1, .int (nI (ix k))), (2, .int (nI i1)), (3, .int (nI 0))]) (ws' := fl [wMa cI z ik F, wTo cI (z 2) (zT z) T, wTo cI (z 3) (zR z) x1.1, wTo cI (z 4) (zK z) K, wTp cI (z 5) (z 6) f n x1.2.1 x1.2.2.1 x1.2.2.2.1 x1.2.2.2.2, wSh cI (z 7) (zS z) s1 s2 s3]) (by first | rfl | (simp only [itr, c_1, c_7])) rfl (by rfl) ?_
        refine aw_loopE (σ := Tw × Int32 × Nat × Nat × Int32) (LV := fun j1 x2 => [(0, .ref (z 0)), (1, .int (nI (ix k))), (2, .int (nI i1)), (3, .int (nI j1))]) (WS := fun j1 x2 => fl [wMa cI z ik F, wTo cI (z 2) (zT z) T, wTo cI (z 3) (zR z) x2.1, wTo cI (z 4) (zK z) K, wTp cI (z 5) (z 6) f n x2.2.1 x2.2.2.1 x2.2.2.2.1 x2.2.2.2.2, wSh cI (z 7) (zS z) s1 s2 s3]) (2 ^ T.1) (Inv := fun j _ => ∀ x, x < j → dkC T (ix k) i1 x = false) (fun k hk => absurd hk (Nat.not_lt_zero k)) ?_ ?_
        · intro x2 hv31
          refine aw_iload_n C dX4_dark_31 rfl ?_
          refine aw_aload_n C dX4_dark_32 rfl ?_
          refine aw_pc 33 rfl ?_
          refine aw_getf C 0 3 0 7 inX4 rfl (by decide) rfl k1_117 rfl rfl dX4_dark_33 ?_
          refine aw_gVp C (As := []) (c_X3_everybody l D cI cC adK adV (z 2) (zT z) T ) k2_160 cv_X3_everybody 2 rfl rfl rfl [1, 0, 2, 3, 4, 5] (fl1 _) rfl 6 rfl (by decide) ⟨by decide, by decide⟩ rfl rfl ⟨by decide, by decide⟩ rfl rfl (Nat.le_of_ble_eq_true rfl) dX4_dark_36 ?_
          refine aw_top (y := (nI (2 ^ T.1 - 1))) (by exact evb_nI hn) ?_
          refine aw_icmp_gt C 67 dX4_dark_39 (by decide) (fun c_39 => ?_) (fun c_39 => absurd c_39 (fun z => z (nI_lt (by omega) (by omega))))
          refine aw_iinc C (nI (i1 + 1)) dX4_dark_67 rfl (inc_nI _ 1) (by decide) rfl (lv' := [(0, .ref (z 0)), (1, .int (nI (ix k))), (2, .int (nI (i1 + 1))), (3, .int (nI (2 ^ T.1)))]) rfl ?_
          refine aw_goto C 18 dX4_dark_70 (by decide) ?_
          refine aw_sub (lv' := [(0, .ref (z 0)), (1, .int (nI (ix k))), (2, .int (nI (i1 + 1)))]) [0, 1, 2] rfl ?_
          exact aw_eq (by first | rfl | (simp only [itr, c_1, c_7])) rfl (by first | rfl | (simp only [itr, c_1, c_7] <;> first | done | rfl)) (ih18 (x2.1, x2.2.1, x2.2.2.1, x2.2.2.2.1, x2.2.2.2.2) (all_s hv18 (decide_eq_false (by rw [show dkR T (ix k) i1 = 2 ^ T.1 from fst9_none hv31]; exact Nat.lt_irrefl _))))
        · intro j1 x2 hi31 hv31 ih31
          refine aw_iload_n C dX4_dark_31 rfl ?_
          refine aw_aload_n C dX4_dark_32 rfl ?_
          refine aw_getf C 0 3 0 7 inX4 rfl (by decide) rfl k1_117 rfl rfl dX4_dark_33 ?_
          refine aw_gVp C (As := []) (c_X3_everybody l D cI cC adK adV (z 2) (zT z) T ) k2_160 cv_X3_everybody 2 rfl rfl rfl [1, 0, 2, 3, 4, 5] (fl1 _) rfl 6 rfl (by decide) ⟨by decide, by decide⟩ rfl rfl ⟨by decide, by decide⟩ rfl rfl (Nat.le_of_ble_eq_true rfl) dX4_dark_36 ?_
          refine aw_top (y := (nI (2 ^ T.1 - 1))) (by exact evb_nI hn) ?_
          refine aw_icmp_gt C 67 dX4_dark_39 (by decide) (fun c_39 => absurd c_39 (nI_nlt (by omega) (by omega))) (fun c_39 => ?_)
          refine aw_pc 42 rfl ?_
          refine aw_iload_n C dX4_dark_42 rfl ?_
          refine aw_callSp C (As := [.int (nI j1)]) (c_J6_bitCount_0f7a4 l D cI cC adK adV (nI j1)) k2_161 cs_J6_bitCount_0f7a4 [] (by decide) rfl ⟨by decide, by decide⟩ rfl rfl ⟨by decide, by decide⟩ rfl rfl (Nat.le_of_ble_eq_true rfl) dX4_dark_43 ?_
          refine aw_iload_n C dX4_dark_46 rfl ?_
          refine aw_icmp_ne C 61 dX4_dark_47 (by decide) (fun c_47 => ?_) (fun c_47 => ?_)
          · skip
            refine aw_iinc C (nI (j1 + 1)) dX4_dark_61 rfl (inc_nI _ 1) (by decide) rfl (lv' := [(0, .ref (z 0)), (1, .int (nI (ix k))), (2, .int (nI i1)), (3, .int (nI (j1 + 1)))]) rfl ?_
            refine aw_goto C 31 dX4_dark_64 (by decide) ?_
            exact aw_eq (by first | rfl | (simp only [itr, c_1, c_7, c_47])) rfl (by first | rfl | (simp only [itr, c_1, c_7, c_47] <;> first | done | rfl)) (ih31 (x2.1, x2.2.1, x2.2.2.1, x2.2.2.2.1, x2.2.2.2.2) (all_s hv31 (by first | (unfold dkC; rw [decide_eq_false c_47]; rfl) | (unfold dkC; rw [c_56, Bool.and_false]))))
          · skip
            refine aw_aload_n C dX4_dark_50 rfl ?_
            refine aw_iload_n C dX4_dark_51 rfl ?_
            refine aw_iload_n C dX4_dark_52 rfl ?_
            refine aw_gV C (As := [.int (nI j1), .int (nI (ix k))]) (c_X4_staysJoyless l D cI cC adK adV z T x2.1 K ik F f n x2.2.1 x2.2.2.1 x2.2.2.2.1 x2.2.2.2.2 s1 s2 s3 (nI j1) (ix k) hn (by omega)) k2_162 cv_X4_staysJoyless 3 rfl rfl rfl [0, 1, 2, 3, 4, 5] (gc := [wMa cI z ik F, wTo cI (z 2) (zT z) T, wTo cI (z 3) (zR z) x2.1, wTo cI (z 4) (zK z) K, wTp cI (z 5) (z 6) f n x2.2.1 x2.2.2.1 x2.2.2.2.1 x2.2.2.2.2, wSh cI (z 7) (zS z) s1 s2 s3]) (gr := []) rfl rfl 6 rfl (by decide) ⟨by decide, by decide⟩ rfl rfl ⟨by decide, by decide⟩ rfl rfl (Nat.le_of_ble_eq_true rfl) dX4_dark_53 ?_
            rintro _ _ ⟨rfl, R1, tk1, bg1, en1, nm1, rfl⟩
            refine aw_eq (lv' := [(0, .ref (z 0)), (1, .int (nI (ix k))), (2, .int (nI i1)), (3, .int (nI j1))]) (st' := [.int (b2 (mStay T (nI j1) (ix k)))]) (ws' := fl [wMa cI z ik F, wTo cI (z 2) (zT z) T, wTo cI (z 3) (zR z) R1, wTo cI (z 4) (zK z) K, wTp cI (z 5) (z 6) f n tk1 bg1 en1 nm1, wSh cI (z 7) (zS z) s1 s2 s3]) rfl rfl rfl ?_
            refine aw_pc 56 rfl ?_
            refine aw_ifeq_b C 61 dX4_dark_56 (by decide) (fun c_56 => ?_) (fun c_56 => ?_)
            · skip
              refine aw_iinc C (nI (j1 + 1)) dX4_dark_61 rfl (inc_nI _ 1) (by decide) rfl (lv' := [(0, .ref (z 0)), (1, .int (nI (ix k))), (2, .int (nI i1)), (3, .int (nI (j1 + 1)))]) rfl ?_
              refine aw_goto C 31 dX4_dark_64 (by decide) ?_
              exact aw_eq (by first | rfl | (simp only [itr, c_1, c_7, c_47, c_56])) rfl (by first | rfl | (simp only [itr, c_1, c_7, c_47, c_56] <;> first | done | rfl)) (ih31 (R1, tk1, bg1, en1, nm1) (all_s hv31 (by first | (unfold dkC; rw [decide_eq_false c_47]; rfl) | (unfold dkC; rw [c_56, Bool.and_false]))))
            · skip
              refine aw_iload_n C dX4_dark_59 rfl ?_
              have hm : m_dark (T, K, ik, F, f, n, s1, s2, s3) k = ((nI j1), (T, K, ik, F, f, n, s1, s2, s3)) := by have e1 : dkR T (ix k) i1 = j1 := fst9_at hv31 (by unfold dkC; rw [c_56, decide_eq_true c_47]; rfl) hi31; have e2 : dkS T (ix k) = i1 := fst9_at hv18 (decide_eq_true (by rw [e1]; exact hi31)) hi18; simp only [m_dark, c_1, c_7, e2, e1, decide_eq_true hi18, decide_true, decide_false, Bool.not_true, Bool.not_false, Bool.true_and, Bool.false_and, Bool.and_true, Bool.and_false, Bool.true_or, Bool.false_or, Bool.or_true, Bool.or_false, cond_true, cond_false, eq_self, if_true, if_false, ite_true, ite_false]
              exact aw_iret C hr hlk dX4_dark_60 ⟨ri (by rw [hm]), R1, tk1, bg1, en1, nm1, by rw [hm]; rfl⟩
    · skip
      refine aw_sub (lv' := [(0, .ref (z 0))]) [0] rfl ?_
      exact J10 (by simp only [m_dark, c_1, c_7, decide_true, decide_false, Bool.not_true, Bool.not_false, Bool.true_and, Bool.false_and, Bool.and_true, Bool.and_false, Bool.true_or, Bool.false_or, Bool.or_true, Bool.or_false, cond_true, cond_false, eq_self, if_true, if_false, ite_true, ite_false] <;> rfl)
abbrev r_X4_circle : Room := { frames := 2, cells := 0, slots := 0, locals := 45 }
theorem cv_X4_circle : cV yX4_circle cX4_circle 4 (some .int) 1 := ⟨k2_171, k2_172, k2_173, k1_1, by decide, by decide, by decide +kernel⟩
set_option maxHeartbeats 4000000 in
set_option maxRecDepth 100000 in
theorem c_X4_circle (l : Launch) (D : va_G) (cI cC : ClassId) (adK adV : Nat → Nat) (z : Nat → Nat) (T R K : Tw) (ik : Bool) (F f : Nat → Int32) (n : Nat) (tk : Int32) (bg en : Nat) (nm : Int32) (s1 s2 s3 : Nat → Int32) (w : Int32) (hn : T.1 ≤ 8) : FC l yX4_circle (wW yX4_circle cX4_circle 4 (some .int)) r_X4_circle D (tyC cI cC) adK adV (wBa cI z T R K ik F f n tk bg en nm s1 s2 s3) [.ref (z 0), .int w] 0 0 (pBa cI z (m_circle (T, K, ik, F, f, n, s1, s2, s3) w)) := by
  refine FC.of (own := RX4) (by decide) rfl (Nat.le_of_ble_eq_true rfl) ?_
  intro p9 e9 s9 m9 args9 below9 meth9 c9 A9 C hr hlk hmn
  show AW p9 l e9 r_X4_circle s9 m9 args9 below9 meth9 c9 D A9 4 0 0 _ 0 [(0, .ref (z 0)), (1, .int w)] [] _
  refine aw_eq (lv' := [(0, .ref (z 0)), (1, .int w)]) (ws' := fl [wMa cI z ik F, wTo cI (z 2) (zT z) T, wTo cI (z 3) (zR z) R, wTo cI (z 4) (zK z) K, wTp cI (z 5) (z 6) f n tk bg en nm, wSh cI (z 7) (zS z) s1 s2 s3]) rfl rfl rfl ?_
  have J9 : m_circle (T, K, ik, F, f, n, s1, s2, s3) w = gno (T, K, ik, F, f, n, s1, s2, s3) 0 → AW p9 l e9 r_X4_circle s9 m9 args9 below9 meth9 c9 D A9 4 0 0 (aQ below9 args9 s9 D A9 0 0 (pBa cI z (m_circle (T, K, ik, F, f, n, s1, s2, s3) w))) 9 [(0, .ref (z 0))] [] (fl [wMa cI z ik F, wTo cI (z 2) (zT z) T, wTo cI (z 3) (zR z) R, wTo cI (z 4) (zK z) K, wTp cI (z 5) (z 6) f n tk bg en nm, wSh cI (z 7) (zS z) s1 s2 s3]) := by
    intro hj
    refine aw_aload_n C dX4_circle_9 rfl ?_
    refine aw_iconst C (0 : Int32) dX4_circle_10 (by decide) ?_
    refine aw_gVd C (As := [.int (0 : Int32)]) (c_X4_finding l D cI cC adK adV z ik F 0 (by decide)) k1_146 cv_X4_finding 3 rfl rfl rfl [0, 1, 2, 3, 4, 5] (fl1 _) rfl 6 rfl (by decide) (gc := [wMa cI z ik F]) (gr := [wTo cI (z 2) (zT z) T, wTo cI (z 3) (zR z) R, wTo cI (z 4) (zK z) K, wTp cI (z 5) (z 6) f n tk bg en nm, wSh cI (z 7) (zS z) s1 s2 s3]) (gc1 := [wMa cI z ik (upd F 0 (F 0 + 1))]) (gs' := [wMa cI z ik (upd F 0 (F 0 + 1)), wTo cI (z 2) (zT z) T, wTo cI (z 3) (zR z) R, wTo cI (z 4) (zK z) K, wTp cI (z 5) (z 6) f n tk bg en nm, wSh cI (z 7) (zS z) s1 s2 s3]) (fl1 _) rfl rfl ⟨by decide, by decide⟩ rfl rfl ⟨by decide, by decide⟩ rfl rfl (Nat.le_of_ble_eq_true rfl) dX4_circle_11 ?_
    have hm : m_circle (T, K, ik, F, f, n, s1, s2, s3) w = ((fno 0), (T, K, ik, (upd F 0 (F 0 + 1)), f, n, s1, s2, s3)) := by rw [hj]; rfl
    exact aw_iret C hr hlk dX4_circle_14 ⟨ri (by rw [hm]), R, tk, bg, en, nm, by rw [hm]; rfl⟩
  refine aw_iload_n C dX4_circle_0 rfl ?_
  refine aw_if_eq C 15 dX4_circle_1 (by decide) (fun c_1 => ?_) (fun c_1 => ?_)
  · skip
    have pw := pow_le hn
    have pz := pow_pos9 T.1
    refine aw_iconst C (0 : Int32) dX4_circle_15 (by decide) ?_
    refine aw_istore_n C true (lv' := [(0, .ref (z 0)), (1, .int w), (2, .int (0 : Int32))]) dX4_circle_16 (by decide) rfl rfl ?_
    refine aw_iconst C (1 : Int32) dX4_circle_17 (by decide) ?_
    refine aw_pc 18 rfl ?_
    refine aw_istore_n C true (lv' := [(0, .ref (z 0)), (1, .int w), (2, .int (0 : Int32)), (3, .int (1 : Int32))]) dX4_circle_18 (by decide) rfl rfl ?_
    refine aw_eq (lv' := [(0, .ref (z 0)), (1, .int w), (2, .int (mCircle T (if w = 1 then 4 else 3) 0)), (3, .int (nI (0 + 1)))]) (ws' := fl [wMa cI z ik F, wTo cI (z 2) (zT z) T, wTo cI (z 3) (zR z) R, wTo cI (z 4) (zK z) K, wTp cI (z 5) (z 6) f n tk bg en nm, wSh cI (z 7) (zS z) s1 s2 s3]) (by first | rfl | (simp only [itr, c_1])) rfl (by rfl) ?_
    refine aw_loop (LV := fun j1 => [(0, .ref (z 0)), (1, .int w), (2, .int (mCircle T (if w = 1 then 4 else 3) j1)), (3, .int (nI (j1 + 1)))]) (WS := fun j1 => fl [wMa cI z ik F, wTo cI (z 2) (zT z) T, wTo cI (z 3) (zR z) R, wTo cI (z 4) (zK z) K, wTp cI (z 5) (z 6) f n tk bg en nm, wSh cI (z 7) (zS z) s1 s2 s3]) (2 ^ T.1 - 1) (Inv := fun _ => True) trivial ?_ ?_
    · intro hv19
      refine aw_iload_n C dX4_circle_19 rfl ?_
      refine aw_aload_n C dX4_circle_20 rfl ?_
      refine aw_getf C 0 3 0 7 inX4 rfl (by decide) rfl k1_117 rfl rfl dX4_circle_21 ?_
      refine aw_gVp C (As := []) (c_X3_everybody l D cI cC adK adV (z 2) (zT z) T ) k2_160 cv_X3_everybody 2 rfl rfl rfl [1, 0, 2, 3, 4, 5] (fl1 _) rfl 6 rfl (by decide) ⟨by decide, by decide⟩ rfl rfl ⟨by decide, by decide⟩ rfl rfl (Nat.le_of_ble_eq_true rfl) dX4_circle_24 ?_
      refine aw_top (y := (nI (2 ^ T.1 - 1))) (by exact evb_nI hn) ?_
      refine aw_icmp_gt C 70 dX4_circle_27 (by decide) (fun c_27 => ?_) (fun c_27 => absurd c_27 (fun z => z (nI_lt (by omega) (by omega))))
      refine aw_iload_n C dX4_circle_70 rfl ?_
      have hm : m_circle (T, K, ik, F, f, n, s1, s2, s3) w = ((mCircle T (if w = 1 then 4 else 3) (2 ^ T.1 - 1)), (T, K, ik, F, f, n, s1, s2, s3)) := by simp only [m_circle, c_1, decide_true, decide_false, Bool.not_true, Bool.not_false, Bool.true_and, Bool.false_and, Bool.and_true, Bool.and_false, Bool.true_or, Bool.false_or, Bool.or_true, Bool.or_false, cond_true, cond_false, eq_self, if_true, if_false, ite_true, ite_false] <;> rfl
      exact aw_iret C hr hlk dX4_circle_71 ⟨ri (by rw [hm]), R, tk, bg, en, nm, by rw [hm]; rfl⟩
    · intro j1 hi19 hv19 ih19
      refine aw_iload_n C dX4_circle_19 rfl ?_
      refine aw_aload_n C dX4_circle_20 rfl ?_
      refine aw_pc 21 rfl ?_
      refine aw_getf C 0 3 0 7 inX4 rfl (by decide) rfl k1_117 rfl rfl dX4_circle_21 ?_
      refine aw_gVp C (As := []) (c_X3_everybody l D cI cC adK adV (z 2) (zT z) T ) k2_160 cv_X3_everybody 2 rfl rfl rfl [1, 0, 2, 3, 4, 5] (fl1 _) rfl 6 rfl (by decide) ⟨by decide, by decide⟩ rfl rfl ⟨by decide, by decide⟩ rfl rfl (Nat.le_of_ble_eq_true rfl) dX4_circle_24 ?_
      refine aw_top (y := (nI (2 ^ T.1 - 1))) (by exact evb_nI hn) ?_
      refine aw_icmp_gt C 70 dX4_circle_27 (by decide) (fun c_27 => absurd c_27 (nI_nlt (by omega) (by omega))) (fun c_27 => ?_)
      refine aw_iload_n C dX4_circle_30 rfl ?_
      refine aw_callSp C (As := [.int (nI (j1 + 1))]) (c_J6_bitCount_0f7a4 l D cI cC adK adV (nI (j1 + 1))) k2_161 cs_J6_bitCount_0f7a4 [] (by decide) rfl ⟨by decide, by decide⟩ rfl rfl ⟨by decide, by decide⟩ rfl rfl (Nat.le_of_ble_eq_true rfl) dX4_circle_31 ?_
      refine aw_iload_n C dX4_circle_34 rfl ?_
      refine aw_callSp C (As := [.int (mCircle T (if w = 1 then 4 else 3) j1)]) (c_J6_bitCount_0f7a4 l D cI cC adK adV (mCircle T (if w = 1 then 4 else 3) j1)) k2_161 cs_J6_bitCount_0f7a4 [] (by decide) rfl ⟨by decide, by decide⟩ rfl rfl ⟨by decide, by decide⟩ rfl rfl (Nat.le_of_ble_eq_true rfl) dX4_circle_35 ?_
      refine aw_icmp_le C 64 dX4_circle_38 (by decide) (fun c_38 => ?_) (fun c_38 => ?_)
      · skip
        refine aw_iinc C (nI ((j1 + 1) + 1)) dX4_circle_64 rfl (inc_nI _ 1) (by decide) rfl (lv' := [(0, .ref (z 0)), (1, .int w), (2, .int (mCircle T (if w = 1 then 4 else 3) j1)), (3, .int (nI ((j1 + 1) + 1)))]) rfl ?_
        refine aw_goto C 19 dX4_circle_67 (by decide) ?_
        exact aw_eq (by first | (rw [circ_le c_38]) | (rw [circ_y c_38 (by first | (rw [if_pos c_48]; exact c_59) | (rw [if_neg c_48]; exact c_59))]) | (rw [circ_n c_38 (by first | (rw [if_pos c_48]; exact c_59) | (rw [if_neg c_48]; exact c_59))])) rfl (by first | rfl | (simp only [itr, c_1, c_38] <;> first | done | rfl)) (ih19 trivial)
      · skip
        refine aw_pc 41 rfl ?_
        refine aw_aload_n C dX4_circle_41 rfl ?_
        refine aw_getf C 0 3 0 7 inX4 rfl (by decide) rfl k1_117 rfl rfl dX4_circle_42 ?_
        refine aw_iload_n C dX4_circle_45 rfl ?_
        refine aw_iload_n C dX4_circle_46 rfl ?_
        refine aw_iconst C (1 : Int32) dX4_circle_47 (by decide) ?_
        refine aw_icmp_ne C 55 dX4_circle_48 (by decide) (fun c_48 => ?_) (fun c_48 => ?_)
        · skip
          refine aw_iconst C (0 : Int32) dX4_circle_55 (by decide) ?_
          refine aw_gVp C (As := [.int (nI (j1 + 1)), .int (0 : Int32)]) (c_X3_isCircle l D cI cC adK adV (z 2) (zT z) T (nI (j1 + 1)) false hn) k2_174 cv_X3_isCircle 2 rfl rfl rfl [1, 0, 2, 3, 4, 5] (fl1 _) rfl 6 rfl (by decide) ⟨by decide, by decide⟩ rfl rfl ⟨by decide, by decide⟩ rfl rfl (Nat.le_of_ble_eq_true rfl) dX4_circle_56 ?_
          refine aw_ifeq_b C 64 dX4_circle_59 (by decide) (fun c_59 => ?_) (fun c_59 => ?_)
          · skip
            refine aw_iinc C (nI ((j1 + 1) + 1)) dX4_circle_64 rfl (inc_nI _ 1) (by decide) rfl (lv' := [(0, .ref (z 0)), (1, .int w), (2, .int (mCircle T (if w = 1 then 4 else 3) j1)), (3, .int (nI ((j1 + 1) + 1)))]) rfl ?_
            refine aw_pc 67 rfl ?_
            refine aw_goto C 19 dX4_circle_67 (by decide) ?_
            exact aw_eq (by first | (rw [circ_le c_38]) | (rw [circ_y c_38 (by first | (rw [if_pos c_48]; exact c_59) | (rw [if_neg c_48]; exact c_59))]) | (rw [circ_n c_38 (by first | (rw [if_pos c_48]; exact c_59) | (rw [if_neg c_48]; exact c_59))])) rfl (by first | rfl | (simp only [itr, c_1, c_38, c_48, c_59] <;> first | done | rfl)) (ih19 trivial)
          · skip
            refine aw_iload_n C dX4_circle_62 rfl ?_
            refine aw_istore_n C false (lv' := [(0, .ref (z 0)), (1, .int w), (2, .int (nI (j1 + 1))), (3, .int (nI (j1 + 1)))]) dX4_circle_63 (by decide) rfl rfl ?_
            refine aw_iinc C (nI ((j1 + 1) + 1)) dX4_circle_64 rfl (inc_nI _ 1) (by decide) rfl (lv' := [(0, .ref (z 0)), (1, .int w), (2, .int (nI (j1 + 1))), (3, .int (nI ((j1 + 1) + 1)))]) rfl ?_
            refine aw_goto C 19 dX4_circle_67 (by decide) ?_
            exact aw_eq (by first | (rw [circ_le c_38]) | (rw [circ_y c_38 (by first | (rw [if_pos c_48]; exact c_59) | (rw [if_neg c_48]; exact c_59))]) | (rw [circ_n c_38 (by first | (rw [if_pos c_48]; exact c_59) | (rw [if_neg c_48]; exact c_59))])) rfl (by first | rfl | (simp only [itr, c_1, c_38, c_48, c_59] <;> first | done | rfl)) (ih19 trivial)
        · skip
          refine aw_iconst C (1 : Int32) dX4_circle_51 (by decide) ?_
          refine aw_goto C 56 dX4_circle_52 (by decide) ?_
          refine aw_gVp C (As := [.int (nI (j1 + 1)), .int (1 : Int32)]) (c_X3_isCircle l D cI cC adK adV (z 2) (zT z) T (nI (j1 + 1)) true hn) k2_174 cv_X3_isCircle 2 rfl rfl rfl [1, 0, 2, 3, 4, 5] (fl1 _) rfl 6 rfl (by decide) ⟨by decide, by decide⟩ rfl rfl ⟨by decide, by decide⟩ rfl rfl (Nat.le_of_ble_eq_true rfl) dX4_circle_56 ?_
          refine aw_ifeq_b C 64 dX4_circle_59 (by decide) (fun c_59 => ?_) (fun c_59 => ?_)
          · skip
            refine aw_iinc C (nI ((j1 + 1) + 1)) dX4_circle_64 rfl (inc_nI _ 1) (by decide) rfl (lv' := [(0, .ref (z 0)), (1, .int w), (2, .int (mCircle T (if w = 1 then 4 else 3) j1)), (3, .int (nI ((j1 + 1) + 1)))]) rfl ?_
            refine aw_pc 67 rfl ?_
            refine aw_goto C 19 dX4_circle_67 (by decide) ?_
            exact aw_eq (by first | (rw [circ_le c_38]) | (rw [circ_y c_38 (by first | (rw [if_pos c_48]; exact c_59) | (rw [if_neg c_48]; exact c_59))]) | (rw [circ_n c_38 (by first | (rw [if_pos c_48]; exact c_59) | (rw [if_neg c_48]; exact c_59))])) rfl (by first | rfl | (simp only [itr, c_1, c_38, c_48, c_59] <;> first | done | rfl)) (ih19 trivial)
          · skip
            refine aw_iload_n C dX4_circle_62 rfl ?_
            refine aw_istore_n C false (lv' := [(0, .ref (z 0)), (1, .int w), (2, .int (nI (j1 + 1))), (3, .int (nI (j1 + 1)))]) dX4_circle_63 (by decide) rfl rfl ?_
            refine aw_iinc C (nI ((j1 + 1) + 1)) dX4_circle_64 rfl (inc_nI _ 1) (by decide) rfl (lv' := [(0, .ref (z 0)), (1, .int w), (2, .int (nI (j1 + 1))), (3, .int (nI ((j1 + 1) + 1)))]) rfl ?_
            refine aw_goto C 19 dX4_circle_67 (by decide) ?_
            exact aw_eq (by first | (rw [circ_le c_38]) | (rw [circ_y c_38 (by first | (rw [if_pos c_48]; exact c_59) | (rw [if_neg c_48]; exact c_59))]) | (rw [circ_n c_38 (by first | (rw [if_pos c_48]; exact c_59) | (rw [if_neg c_48]; exact c_59))])) rfl (by first | rfl | (simp only [itr, c_1, c_38, c_48, c_59] <;> first | done | rfl)) (ih19 trivial)
  · skip
    refine aw_iload_n C dX4_circle_4 rfl ?_
    refine aw_iconst C (1 : Int32) dX4_circle_5 (by decide) ?_
    refine aw_icmp_eq C 15 dX4_circle_6 (by decide) (fun c_6 => ?_) (fun c_6 => ?_)
    · skip
      have pw := pow_le hn
      have pz := pow_pos9 T.1
      refine aw_iconst C (0 : Int32) dX4_circle_15 (by decide) ?_
      refine aw_istore_n C true (lv' := [(0, .ref (z 0)), (1, .int w), (2, .int (0 : Int32))]) dX4_circle_16 (by decide) rfl rfl ?_
      refine aw_pc 17 rfl ?_
      refine aw_iconst C (1 : Int32) dX4_circle_17 (by decide) ?_
      refine aw_istore_n C true (lv' := [(0, .ref (z 0)), (1, .int w), (2, .int (0 : Int32)), (3, .int (1 : Int32))]) dX4_circle_18 (by decide) rfl rfl ?_
      refine aw_eq (lv' := [(0, .ref (z 0)), (1, .int w), (2, .int (mCircle T (if w = 1 then 4 else 3) 0)), (3, .int (nI (0 + 1)))]) (ws' := fl [wMa cI z ik F, wTo cI (z 2) (zT z) T, wTo cI (z 3) (zR z) R, wTo cI (z 4) (zK z) K, wTp cI (z 5) (z 6) f n tk bg en nm, wSh cI (z 7) (zS z) s1 s2 s3]) (by first | rfl | (simp only [itr, c_1, c_6])) rfl (by rfl) ?_
      refine aw_loop (LV := fun j1 => [(0, .ref (z 0)), (1, .int w), (2, .int (mCircle T (if w = 1 then 4 else 3) j1)), (3, .int (nI (j1 + 1)))]) (WS := fun j1 => fl [wMa cI z ik F, wTo cI (z 2) (zT z) T, wTo cI (z 3) (zR z) R, wTo cI (z 4) (zK z) K, wTp cI (z 5) (z 6) f n tk bg en nm, wSh cI (z 7) (zS z) s1 s2 s3]) (2 ^ T.1 - 1) (Inv := fun _ => True) trivial ?_ ?_
      · intro hv19
        refine aw_iload_n C dX4_circle_19 rfl ?_
        refine aw_aload_n C dX4_circle_20 rfl ?_
        refine aw_getf C 0 3 0 7 inX4 rfl (by decide) rfl k1_117 rfl rfl dX4_circle_21 ?_
        refine aw_gVp C (As := []) (c_X3_everybody l D cI cC adK adV (z 2) (zT z) T ) k2_160 cv_X3_everybody 2 rfl rfl rfl [1, 0, 2, 3, 4, 5] (fl1 _) rfl 6 rfl (by decide) ⟨by decide, by decide⟩ rfl rfl ⟨by decide, by decide⟩ rfl rfl (Nat.le_of_ble_eq_true rfl) dX4_circle_24 ?_
        refine aw_top (y := (nI (2 ^ T.1 - 1))) (by exact evb_nI hn) ?_
        refine aw_icmp_gt C 70 dX4_circle_27 (by decide) (fun c_27 => ?_) (fun c_27 => absurd c_27 (fun z => z (nI_lt (by omega) (by omega))))
        refine aw_iload_n C dX4_circle_70 rfl ?_
        have hm : m_circle (T, K, ik, F, f, n, s1, s2, s3) w = ((mCircle T (if w = 1 then 4 else 3) (2 ^ T.1 - 1)), (T, K, ik, F, f, n, s1, s2, s3)) := by simp only [m_circle, c_1, c_6, decide_true, decide_false, Bool.not_true, Bool.not_false, Bool.true_and, Bool.false_and, Bool.and_true, Bool.and_false, Bool.true_or, Bool.false_or, Bool.or_true, Bool.or_false, cond_true, cond_false, eq_self, if_true, if_false, ite_true, ite_false] <;> rfl
        exact aw_iret C hr hlk dX4_circle_71 ⟨ri (by rw [hm]), R, tk, bg, en, nm, by rw [hm]; rfl⟩
      · intro j1 hi19 hv19 ih19
        refine aw_iload_n C dX4_circle_19 rfl ?_
        refine aw_pc 20 rfl ?_
        refine aw_aload_n C dX4_circle_20 rfl ?_
        refine aw_getf C 0 3 0 7 inX4 rfl (by decide) rfl k1_117 rfl rfl dX4_circle_21 ?_
        refine aw_gVp C (As := []) (c_X3_everybody l D cI cC adK adV (z 2) (zT z) T ) k2_160 cv_X3_everybody 2 rfl rfl rfl [1, 0, 2, 3, 4, 5] (fl1 _) rfl 6 rfl (by decide) ⟨by decide, by decide⟩ rfl rfl ⟨by decide, by decide⟩ rfl rfl (Nat.le_of_ble_eq_true rfl) dX4_circle_24 ?_
        refine aw_top (y := (nI (2 ^ T.1 - 1))) (by exact evb_nI hn) ?_
        refine aw_icmp_gt C 70 dX4_circle_27 (by decide) (fun c_27 => absurd c_27 (nI_nlt (by omega) (by omega))) (fun c_27 => ?_)
        refine aw_iload_n C dX4_circle_30 rfl ?_
        refine aw_callSp C (As := [.int (nI (j1 + 1))]) (c_J6_bitCount_0f7a4 l D cI cC adK adV (nI (j1 + 1))) k2_161 cs_J6_bitCount_0f7a4 [] (by decide) rfl ⟨by decide, by decide⟩ rfl rfl ⟨by decide, by decide⟩ rfl rfl (Nat.le_of_ble_eq_true rfl) dX4_circle_31 ?_
        refine aw_iload_n C dX4_circle_34 rfl ?_
        refine aw_callSp C (As := [.int (mCircle T (if w = 1 then 4 else 3) j1)]) (c_J6_bitCount_0f7a4 l D cI cC adK adV (mCircle T (if w = 1 then 4 else 3) j1)) k2_161 cs_J6_bitCount_0f7a4 [] (by decide) rfl ⟨by decide, by decide⟩ rfl rfl ⟨by decide, by decide⟩ rfl rfl (Nat.le_of_ble_eq_true rfl) dX4_circle_35 ?_
        refine aw_icmp_le C 64 dX4_circle_38 (by decide) (fun c_38 => ?_) (fun c_38 => ?_)
        · skip
          refine aw_iinc C (nI ((j1 + 1) + 1)) dX4_circle_64 rfl (inc_nI _ 1) (by decide) rfl (lv' := [(0, .ref (z 0)), (1, .int w), (2, .int (mCircle T (if w = 1 then 4 else 3) j1)), (3, .int (nI ((j1 + 1) + 1)))]) rfl ?_
          refine aw_pc 67 rfl ?_
          refine aw_goto C 19 dX4_circle_67 (by decide) ?_
          exact aw_eq (by first | (rw [circ_le c_38]) | (rw [circ_y c_38 (by first | (rw [if_pos c_48]; exact c_59) | (rw [if_neg c_48]; exact c_59))]) | (rw [circ_n c_38 (by first | (rw [if_pos c_48]; exact c_59) | (rw [if_neg c_48]; exact c_59))])) rfl (by first | rfl | (simp only [itr, c_1, c_6, c_38] <;> first | done | rfl)) (ih19 trivial)
        · skip
          refine aw_aload_n C dX4_circle_41 rfl ?_
          refine aw_getf C 0 3 0 7 inX4 rfl (by decide) rfl k1_117 rfl rfl dX4_circle_42 ?_
          refine aw_iload_n C dX4_circle_45 rfl ?_
          refine aw_iload_n C dX4_circle_46 rfl ?_
          refine aw_iconst C (1 : Int32) dX4_circle_47 (by decide) ?_
          refine aw_icmp_ne C 55 dX4_circle_48 (by decide) (fun c_48 => ?_) (fun c_48 => ?_)
          · skip
            refine aw_iconst C (0 : Int32) dX4_circle_55 (by decide) ?_
            refine aw_gVp C (As := [.int (nI (j1 + 1)), .int (0 : Int32)]) (c_X3_isCircle l D cI cC adK adV (z 2) (zT z) T (nI (j1 + 1)) false hn) k2_174 cv_X3_isCircle 2 rfl rfl rfl [1, 0, 2, 3, 4, 5] (fl1 _) rfl 6 rfl (by decide) ⟨by decide, by decide⟩ rfl rfl ⟨by decide, by decide⟩ rfl rfl (Nat.le_of_ble_eq_true rfl) dX4_circle_56 ?_
            refine aw_ifeq_b C 64 dX4_circle_59 (by decide) (fun c_59 => ?_) (fun c_59 => ?_)
            · skip
              refine aw_pc 64 rfl ?_
              refine aw_iinc C (nI ((j1 + 1) + 1)) dX4_circle_64 rfl (inc_nI _ 1) (by decide) rfl (lv' := [(0, .ref (z 0)), (1, .int w), (2, .int (mCircle T (if w = 1 then 4 else 3) j1)), (3, .int (nI ((j1 + 1) + 1)))]) rfl ?_
              refine aw_goto C 19 dX4_circle_67 (by decide) ?_
              exact aw_eq (by first | (rw [circ_le c_38]) | (rw [circ_y c_38 (by first | (rw [if_pos c_48]; exact c_59) | (rw [if_neg c_48]; exact c_59))]) | (rw [circ_n c_38 (by first | (rw [if_pos c_48]; exact c_59) | (rw [if_neg c_48]; exact c_59))])) rfl (by first | rfl | (simp only [itr, c_1, c_6, c_38, c_48, c_59] <;> first | done | rfl)) (ih19 trivial)
            · skip
              refine aw_iload_n C dX4_circle_62 rfl ?_
              refine aw_istore_n C false (lv' := [(0, .ref (z 0)), (1, .int w), (2, .int (nI (j1 + 1))), (3, .int (nI (j1 + 1)))]) dX4_circle_63 (by decide) rfl rfl ?_
              refine aw_iinc C (nI ((j1 + 1) + 1)) dX4_circle_64 rfl (inc_nI _ 1) (by decide) rfl (lv' := [(0, .ref (z 0)), (1, .int w), (2, .int (nI (j1 + 1))), (3, .int (nI ((j1 + 1) + 1)))]) rfl ?_
              refine aw_goto C 19 dX4_circle_67 (by decide) ?_
              exact aw_eq (by first | (rw [circ_le c_38]) | (rw [circ_y c_38 (by first | (rw [if_pos c_48]; exact c_59) | (rw [if_neg c_48]; exact c_59))]) | (rw [circ_n c_38 (by first | (rw [if_pos c_48]; exact c_59) | (rw [if_neg c_48]; exact c_59))])) rfl (by first | rfl | (simp only [itr, c_1, c_6, c_38, c_48, c_59] <;> first | done | rfl)) (ih19 trivial)
          · skip
            refine aw_iconst C (1 : Int32) dX4_circle_51 (by decide) ?_
            refine aw_goto C 56 dX4_circle_52 (by decide) ?_
            refine aw_gVp C (As := [.int (nI (j1 + 1)), .int (1 : Int32)]) (c_X3_isCircle l D cI cC adK adV (z 2) (zT z) T (nI (j1 + 1)) true hn) k2_174 cv_X3_isCircle 2 rfl rfl rfl [1, 0, 2, 3, 4, 5] (fl1 _) rfl 6 rfl (by decide) ⟨by decide, by decide⟩ rfl rfl ⟨by decide, by decide⟩ rfl rfl (Nat.le_of_ble_eq_true rfl) dX4_circle_56 ?_
            refine aw_ifeq_b C 64 dX4_circle_59 (by decide) (fun c_59 => ?_) (fun c_59 => ?_)
            · skip
              refine aw_pc 64 rfl ?_
              refine aw_iinc C (nI ((j1 + 1) + 1)) dX4_circle_64 rfl (inc_nI _ 1) (by decide) rfl (lv' := [(0, .ref (z 0)), (1, .int w), (2, .int (mCircle T (if w = 1 then 4 else 3) j1)), (3, .int (nI ((j1 + 1) + 1)))]) rfl ?_
              refine aw_goto C 19 dX4_circle_67 (by decide) ?_
              exact aw_eq (by first | (rw [circ_le c_38]) | (rw [circ_y c_38 (by first | (rw [if_pos c_48]; exact c_59) | (rw [if_neg c_48]; exact c_59))]) | (rw [circ_n c_38 (by first | (rw [if_pos c_48]; exact c_59) | (rw [if_neg c_48]; exact c_59))])) rfl (by first | rfl | (simp only [itr, c_1, c_6, c_38, c_48, c_59] <;> first | done | rfl)) (ih19 trivial)
            · skip
              refine aw_iload_n C dX4_circle_62 rfl ?_
              refine aw_istore_n C false (lv' := [(0, .ref (z 0)), (1, .int w), (2, .int (nI (j1 + 1))), (3, .int (nI (j1 + 1)))]) dX4_circle_63 (by decide) rfl rfl ?_
              refine aw_iinc C (nI ((j1 + 1) + 1)) dX4_circle_64 rfl (inc_nI _ 1) (by decide) rfl (lv' := [(0, .ref (z 0)), (1, .int w), (2, .int (nI (j1 + 1))), (3, .int (nI ((j1 + 1) + 1)))]) rfl ?_
              refine aw_goto C 19 dX4_circle_67 (by decide) ?_
              exact aw_eq (by first | (rw [circ_le c_38]) | (rw [circ_y c_38 (by first | (rw [if_pos c_48]; exact c_59) | (rw [if_neg c_48]; exact c_59))]) | (rw [circ_n c_38 (by first | (rw [if_pos c_48]; exact c_59) | (rw [if_neg c_48]; exact c_59))])) rfl (by first | rfl | (simp only [itr, c_1, c_6, c_38, c_48, c_59] <;> first | done | rfl)) (ih19 trivial)
    · skip
      refine aw_sub (lv' := [(0, .ref (z 0))]) [0] rfl ?_
      exact J9 (by simp only [m_circle, c_1, c_6, decide_true, decide_false, Bool.not_true, Bool.not_false, Bool.true_and, Bool.false_and, Bool.and_true, Bool.and_false, Bool.true_or, Bool.false_or, Bool.or_true, Bool.or_false, cond_true, cond_false, eq_self, if_true, if_false, ite_true, ite_false] <;> rfl)
abbrev r_X4_meetsAsTold : Room := { frames := 5, cells := 0, slots := 0, locals := 110 }
theorem cv_X4_meetsAsTold : cV yX4_meetsAsTold cX4_meetsAsTold 5 (some .boolean) 2 := ⟨k2_192, k0_10, k2_193, k1_1, by decide, by decide, by decide +kernel⟩
set_option maxHeartbeats 4000000 in
set_option maxRecDepth 100000 in
theorem c_X4_meetsAsTold (l : Launch) (D : va_G) (cI cC : ClassId) (adK adV : Nat → Nat) (z : Nat → Nat) (T R K : Tw) (ik : Bool) (F f : Nat → Int32) (n : Nat) (tk : Int32) (bg en : Nat) (nm : Int32) (s1 s2 s3 : Nat → Int32) (s : Nat) (u : Nat) (hn : R.1 ≤ 8) (hu : u < R.1) (hs : s < 4) (hS : sOk s2) : FC l yX4_meetsAsTold (wW yX4_meetsAsTold cX4_meetsAsTold 5 (some .boolean)) r_X4_meetsAsTold D (tyC cI cC) adK adV (wBa cI z T R K ik F f n tk bg en nm s1 s2 s3) [.ref (z 0), .int (nI s), .int (nI u)] 0 0 (pBb cI z (mTells R u (fun i => s3 (s * 40 + i)) (ix (s2 s))) (T, K, ik, F, f, n, s1, s2, s3)) := by
  refine FC.of (own := RX4) (by decide) rfl (Nat.le_of_ble_eq_true rfl) ?_
  intro p9 e9 s9 m9 args9 below9 meth9 c9 A9 C hr hlk hmn
  show AW p9 l e9 r_X4_meetsAsTold s9 m9 args9 below9 meth9 c9 D A9 5 0 0 _ 0 [(0, .ref (z 0)), (1, .int (nI s)), (2, .int (nI u))] [] _
  obtain ⟨len, hl, el⟩ := hS s hs
  refine aw_eq (lv' := [(0, .ref (z 0)), (1, .int (nI s)), (2, .int (nI u))]) (ws' := fl [wMa cI z ik F, wTo cI (z 2) (zT z) T, wTo cI (z 3) (zR z) R, wTo cI (z 4) (zK z) K, wTp cI (z 5) (z 6) f n tk bg en nm, wSh cI (z 7) (zS z) s1 s2 s3]) rfl rfl rfl ?_
  refine aw_iconst C (0 : Int32) dX4_meetsAsTold_0 (by decide) ?_
  refine aw_istore_n C true (lv' := [(0, .ref (z 0)), (1, .int (nI s)), (2, .int (nI u)), (3, .int (0 : Int32))]) dX4_meetsAsTold_1 (by decide) rfl rfl ?_
  refine aw_eq (lv' := [(0, .ref (z 0)), (1, .int (nI s)), (2, .int (nI u)), (3, .int (nI 0))]) (ws' := fl [wMa cI z ik F, wTo cI (z 2) (zT z) T, wTo cI (z 3) (zR z) (tDays (0 - 1) R), wTo cI (z 4) (zK z) K, wTp cI (z 5) (z 6) f n tk bg en nm, wSh cI (z 7) (zS z) s1 s2 s3]) (by first | rfl | (simp only [itr])) rfl (by rfl) ?_
  refine aw_loop (LV := fun i => [(0, .ref (z 0)), (1, .int (nI s)), (2, .int (nI u)), (3, .int (nI i))]) (WS := fun i => fl [wMa cI z ik F, wTo cI (z 2) (zT z) T, wTo cI (z 3) (zR z) (tDays (i - 1) R), wTo cI (z 4) (zK z) K, wTp cI (z 5) (z 6) f n tk bg en nm, wSh cI (z 7) (zS z) s1 s2 s3]) len (Inv := fun i => allB (tOk R u (fun i => s3 (s * 40 + i))) i = true) rfl ?_ ?_
  · intro hv2
    refine aw_iload_n C dX4_meetsAsTold_2 rfl ?_
    refine aw_aload_n C dX4_meetsAsTold_3 rfl ?_
    refine aw_getf C 0 3 5 7 inX4 rfl (by decide) rfl k1_122 rfl rfl dX4_meetsAsTold_4 ?_
    refine aw_iload_n C dX4_meetsAsTold_7 rfl ?_
    refine aw_gVp C (As := [.int (nI s)]) (c_X1_length l D cI cC adK adV (z 7) (zS z) s1 s2 s3 s (by omega)) k2_194 cv_X1_length 0 rfl rfl rfl [5, 0, 1, 2, 3, 4] (fl1 _) rfl 6 rfl (by decide) ⟨by decide, by decide⟩ rfl rfl ⟨by decide, by decide⟩ rfl rfl (Nat.le_of_ble_eq_true rfl) dX4_meetsAsTold_8 ?_
    refine aw_top (y := (nI len)) (by exact el) ?_
    refine aw_icmp_ge C 64 dX4_meetsAsTold_11 (by decide) (fun c_11 => ?_) (fun c_11 => absurd c_11 (fun z => z (Int32.le_refl _)))
    refine aw_iconst C (1 : Int32) dX4_meetsAsTold_64 (by decide) ?_
    refine aw_pc 65 rfl ?_
    exact aw_bret C (b := true) hr hlk dX4_meetsAsTold_65 rfl ⟨rb (by rw [el, ix_nI (by omega)]; exact hv2.symm), (tDays (len - 1) R), tk, bg, en, nm, rfl⟩
  · intro i hi2 hv2 ih2
    refine aw_iload_n C dX4_meetsAsTold_2 rfl ?_
    refine aw_aload_n C dX4_meetsAsTold_3 rfl ?_
    refine aw_getf C 0 3 5 7 inX4 rfl (by decide) rfl k1_122 rfl rfl dX4_meetsAsTold_4 ?_
    refine aw_iload_n C dX4_meetsAsTold_7 rfl ?_
    refine aw_gVp C (As := [.int (nI s)]) (c_X1_length l D cI cC adK adV (z 7) (zS z) s1 s2 s3 s (by omega)) k2_194 cv_X1_length 0 rfl rfl rfl [5, 0, 1, 2, 3, 4] (fl1 _) rfl 6 rfl (by decide) ⟨by decide, by decide⟩ rfl rfl ⟨by decide, by decide⟩ rfl rfl (Nat.le_of_ble_eq_true rfl) dX4_meetsAsTold_8 ?_
    refine aw_top (y := (nI len)) (by exact el) ?_
    refine aw_icmp_ge C 64 dX4_meetsAsTold_11 (by decide) (fun c_11 => absurd c_11 (nI_ge hi2 (by omega))) (fun c_11 => ?_)
    refine aw_iload_n C dX4_meetsAsTold_14 rfl ?_
    refine aw_if_le C 25 dX4_meetsAsTold_15 (by decide) (fun c_15 => ?_) (fun c_15 => ?_)
    · skip
      have hz : i = 0 := by {rcases Nat.eq_zero_or_pos i with h | h; exact h; exact absurd c_15 (nI_nle h (by omega))}
      refine aw_eq (lv' := [(0, .ref (z 0)), (1, .int (nI s)), (2, .int (nI u)), (3, .int (nI i))]) (ws' := fl [wMa cI z ik F, wTo cI (z 2) (zT z) T, wTo cI (z 3) (zR z) (tDays i R), wTo cI (z 4) (zK z) K, wTp cI (z 5) (z 6) f n tk bg en nm, wSh cI (z 7) (zS z) s1 s2 s3]) rfl rfl (by first | (rw [hz] <;> rfl) | (rw [day_pred hz])) ?_
      refine aw_aload_n C dX4_meetsAsTold_25 rfl ?_
      refine aw_pc 26 rfl ?_
      refine aw_getf C 0 3 5 7 inX4 rfl (by decide) rfl k1_122 rfl rfl dX4_meetsAsTold_26 ?_
      refine aw_iload_n C dX4_meetsAsTold_29 rfl ?_
      refine aw_iload_n C dX4_meetsAsTold_30 rfl ?_
      refine aw_gVp C (As := [.int (nI s), .int (nI i)]) (c_X1_number l D cI cC adK adV (z 7) (zS z) s1 s2 s3 s i (by omega) (by omega)) k2_198 cv_X1_number 0 rfl rfl rfl [5, 0, 1, 2, 3, 4] (fl1 _) rfl 6 rfl (by decide) ⟨by decide, by decide⟩ rfl rfl ⟨by decide, by decide⟩ rfl rfl (Nat.le_of_ble_eq_true rfl) dX4_meetsAsTold_31 ?_
      refine aw_istore C true (lv' := [(0, .ref (z 0)), (1, .int (nI s)), (2, .int (nI u)), (3, .int (nI i)), (4, .int (s3 (s * 40 + i)))]) dX4_meetsAsTold_34 (by decide) rfl rfl ?_
      refine aw_iload C dX4_meetsAsTold_36 rfl ?_
      refine aw_iconst C (-1 : Int32) dX4_meetsAsTold_38 (by decide) ?_
      refine aw_icmp_eq C 58 dX4_meetsAsTold_39 (by decide) (fun c_39 => ?_) (fun c_39 => ?_)
      · skip
        refine aw_iinc C (nI (i + 1)) dX4_meetsAsTold_58 rfl (inc_nI _ 1) (by decide) rfl (lv' := [(0, .ref (z 0)), (1, .int (nI s)), (2, .int (nI u)), (3, .int (nI (i + 1))), (4, .int (s3 (s * 40 + i)))]) rfl ?_
        refine aw_goto C 2 dX4_meetsAsTold_61 (by decide) ?_
        refine aw_sub (lv' := [(0, .ref (z 0)), (1, .int (nI s)), (2, .int (nI u)), (3, .int (nI (i + 1)))]) [0, 1, 2, 3] rfl ?_
        exact aw_eq (by first | rfl | (simp only [itr, c_15, c_39])) rfl (by rfl) (ih2 (allB_s hv2 (by first | (simp only [tOk, itr, c_15, c_39, decide_true, decide_false, Bool.not_true, Bool.not_false, Bool.true_and, Bool.false_and, Bool.and_true, Bool.and_false, Bool.true_or, Bool.false_or, Bool.or_true, Bool.or_false, cond_true, cond_false, eq_self, if_true, if_false, ite_true, ite_false]) | (simp only [tOk, c_53, decide_true, decide_false, Bool.not_true, Bool.not_false, Bool.true_and, Bool.false_and, Bool.and_true, Bool.and_false, Bool.true_or, Bool.false_or, Bool.or_true, Bool.or_false, cond_true, cond_false, eq_self, if_true, if_false, ite_true, ite_false]))))
      · skip
        refine aw_pc 42 rfl ?_
        refine aw_iload C dX4_meetsAsTold_42 rfl ?_
        refine aw_aload_n C dX4_meetsAsTold_44 rfl ?_
        refine aw_getf C 0 3 1 7 inX4 rfl (by decide) rfl k1_118 rfl rfl dX4_meetsAsTold_45 ?_
        refine aw_iload_n C dX4_meetsAsTold_48 rfl ?_
        refine aw_iconst C (3 : Int32) dX4_meetsAsTold_49 (by decide) ?_
        refine aw_gVp C (As := [.int (nI u), .int (3 : Int32)]) (c_X3_trait l D cI cC adK adV (z 3) (zR z) (tDays i R) u (3 : Int32) (by rw [days_n]; exact hn) (by rw [days_n]; exact hu)) k1_173 cv_X3_trait 2 rfl rfl rfl [2, 0, 1, 3, 4, 5] (fl1 _) rfl 6 rfl (by decide) ⟨by decide, by decide⟩ rfl rfl ⟨by decide, by decide⟩ rfl rfl (Nat.le_of_ble_eq_true rfl) dX4_meetsAsTold_50 ?_
        refine aw_icmp_eq C 58 dX4_meetsAsTold_53 (by decide) (fun c_53 => ?_) (fun c_53 => ?_)
        · skip
          refine aw_iinc C (nI (i + 1)) dX4_meetsAsTold_58 rfl (inc_nI _ 1) (by decide) rfl (lv' := [(0, .ref (z 0)), (1, .int (nI s)), (2, .int (nI u)), (3, .int (nI (i + 1))), (4, .int (s3 (s * 40 + i)))]) rfl ?_
          refine aw_goto C 2 dX4_meetsAsTold_61 (by decide) ?_
          refine aw_sub (lv' := [(0, .ref (z 0)), (1, .int (nI s)), (2, .int (nI u)), (3, .int (nI (i + 1)))]) [0, 1, 2, 3] rfl ?_
          exact aw_eq (by first | rfl | (simp only [itr, c_15, c_39, c_53])) rfl (by rfl) (ih2 (allB_s hv2 (by first | (simp only [tOk, itr, c_15, c_39, c_53, decide_true, decide_false, Bool.not_true, Bool.not_false, Bool.true_and, Bool.false_and, Bool.and_true, Bool.and_false, Bool.true_or, Bool.false_or, Bool.or_true, Bool.or_false, cond_true, cond_false, eq_self, if_true, if_false, ite_true, ite_false]) | (simp only [tOk, c_53, decide_true, decide_false, Bool.not_true, Bool.not_false, Bool.true_and, Bool.false_and, Bool.and_true, Bool.and_false, Bool.true_or, Bool.false_or, Bool.or_true, Bool.or_false, cond_true, cond_false, eq_self, if_true, if_false, ite_true, ite_false]))))
        · skip
          refine aw_iconst C (0 : Int32) dX4_meetsAsTold_56 (by decide) ?_
          refine aw_pc 57 rfl ?_
          exact aw_bret C (b := false) hr hlk dX4_meetsAsTold_57 rfl ⟨rb (by have cc : tOk R u (fun i => s3 (s * 40 + i)) i = false := by {simp only [tOk, c_15, c_39, c_53, decide_true, decide_false, Bool.not_true, Bool.not_false, Bool.true_and, Bool.false_and, Bool.and_true, Bool.and_false, Bool.true_or, Bool.false_or, Bool.or_true, Bool.or_false, cond_true, cond_false, eq_self, if_true, if_false, ite_true, ite_false]}; rw [el, ix_nI (by omega)]; exact (allB_f cc hi2).symm), (tDays i R), tk, bg, en, nm, rfl⟩
    · skip
      have hz : ¬ i = 0 := fun h => c_15 (by rw [h]; decide)
      refine aw_aload_n C dX4_meetsAsTold_18 rfl ?_
      refine aw_getf C 0 3 1 7 inX4 rfl (by decide) rfl k1_118 rfl rfl dX4_meetsAsTold_19 ?_
      refine aw_gVdv C (As := []) (c_X3_passDay l D cI cC adK adV (z 3) (zR z) (tDays (i - 1) R)  (by rw [days_n]; exact hn)) k2_131 cv_X3_passDay 2 rfl rfl rfl [2, 0, 1, 3, 4, 5] (fl1 _) rfl 6 rfl (by decide) (gc := [wTo cI (z 3) (zR z) (tDays (i - 1) R)]) (gr := [wMa cI z ik F, wTo cI (z 2) (zT z) T, wTo cI (z 4) (zK z) K, wTp cI (z 5) (z 6) f n tk bg en nm, wSh cI (z 7) (zS z) s1 s2 s3]) (gc1 := [wTo cI (z 3) (zR z) (tDay (tDays (i - 1) R))]) (gs' := [wMa cI z ik F, wTo cI (z 2) (zT z) T, wTo cI (z 3) (zR z) (tDay (tDays (i - 1) R)), wTo cI (z 4) (zK z) K, wTp cI (z 5) (z 6) f n tk bg en nm, wSh cI (z 7) (zS z) s1 s2 s3]) (fl1 _) rfl rfl ⟨by decide, by decide⟩ rfl rfl ⟨by decide, by decide⟩ rfl rfl (Nat.le_of_ble_eq_true rfl) dX4_meetsAsTold_22 ?_
      refine aw_eq (lv' := [(0, .ref (z 0)), (1, .int (nI s)), (2, .int (nI u)), (3, .int (nI i))]) (ws' := fl [wMa cI z ik F, wTo cI (z 2) (zT z) T, wTo cI (z 3) (zR z) (tDays i R), wTo cI (z 4) (zK z) K, wTp cI (z 5) (z 6) f n tk bg en nm, wSh cI (z 7) (zS z) s1 s2 s3]) rfl rfl (by first | (rw [hz] <;> rfl) | (rw [day_pred hz])) ?_
      refine aw_aload_n C dX4_meetsAsTold_25 rfl ?_
      refine aw_getf C 0 3 5 7 inX4 rfl (by decide) rfl k1_122 rfl rfl dX4_meetsAsTold_26 ?_
      refine aw_iload_n C dX4_meetsAsTold_29 rfl ?_
      refine aw_iload_n C dX4_meetsAsTold_30 rfl ?_
      refine aw_gVp C (As := [.int (nI s), .int (nI i)]) (c_X1_number l D cI cC adK adV (z 7) (zS z) s1 s2 s3 s i (by omega) (by omega)) k2_198 cv_X1_number 0 rfl rfl rfl [5, 0, 1, 2, 3, 4] (fl1 _) rfl 6 rfl (by decide) ⟨by decide, by decide⟩ rfl rfl ⟨by decide, by decide⟩ rfl rfl (Nat.le_of_ble_eq_true rfl) dX4_meetsAsTold_31 ?_
      refine aw_istore C true (lv' := [(0, .ref (z 0)), (1, .int (nI s)), (2, .int (nI u)), (3, .int (nI i)), (4, .int (s3 (s * 40 + i)))]) dX4_meetsAsTold_34 (by decide) rfl rfl ?_
      refine aw_pc 36 rfl ?_
      refine aw_iload C dX4_meetsAsTold_36 rfl ?_
      refine aw_iconst C (-1 : Int32) dX4_meetsAsTold_38 (by decide) ?_
      refine aw_icmp_eq C 58 dX4_meetsAsTold_39 (by decide) (fun c_39 => ?_) (fun c_39 => ?_)
      · skip
        refine aw_iinc C (nI (i + 1)) dX4_meetsAsTold_58 rfl (inc_nI _ 1) (by decide) rfl (lv' := [(0, .ref (z 0)), (1, .int (nI s)), (2, .int (nI u)), (3, .int (nI (i + 1))), (4, .int (s3 (s * 40 + i)))]) rfl ?_
        refine aw_goto C 2 dX4_meetsAsTold_61 (by decide) ?_
        refine aw_sub (lv' := [(0, .ref (z 0)), (1, .int (nI s)), (2, .int (nI u)), (3, .int (nI (i + 1)))]) [0, 1, 2, 3] rfl ?_
        exact aw_eq (by first | rfl | (simp only [itr, c_15, c_39])) rfl (by rfl) (ih2 (allB_s hv2 (by first | (simp only [tOk, itr, c_15, c_39, decide_true, decide_false, Bool.not_true, Bool.not_false, Bool.true_and, Bool.false_and, Bool.and_true, Bool.and_false, Bool.true_or, Bool.false_or, Bool.or_true, Bool.or_false, cond_true, cond_false, eq_self, if_true, if_false, ite_true, ite_false]) | (simp only [tOk, c_53, decide_true, decide_false, Bool.not_true, Bool.not_false, Bool.true_and, Bool.false_and, Bool.and_true, Bool.and_false, Bool.true_or, Bool.false_or, Bool.or_true, Bool.or_false, cond_true, cond_false, eq_self, if_true, if_false, ite_true, ite_false]))))
      · skip
        refine aw_iload C dX4_meetsAsTold_42 rfl ?_
        refine aw_aload_n C dX4_meetsAsTold_44 rfl ?_
        refine aw_getf C 0 3 1 7 inX4 rfl (by decide) rfl k1_118 rfl rfl dX4_meetsAsTold_45 ?_
        refine aw_iload_n C dX4_meetsAsTold_48 rfl ?_
        refine aw_iconst C (3 : Int32) dX4_meetsAsTold_49 (by decide) ?_
        refine aw_pc 50 rfl ?_
        refine aw_gVp C (As := [.int (nI u), .int (3 : Int32)]) (c_X3_trait l D cI cC adK adV (z 3) (zR z) (tDays i R) u (3 : Int32) (by rw [days_n]; exact hn) (by rw [days_n]; exact hu)) k1_173 cv_X3_trait 2 rfl rfl rfl [2, 0, 1, 3, 4, 5] (fl1 _) rfl 6 rfl (by decide) ⟨by decide, by decide⟩ rfl rfl ⟨by decide, by decide⟩ rfl rfl (Nat.le_of_ble_eq_true rfl) dX4_meetsAsTold_50 ?_
        refine aw_icmp_eq C 58 dX4_meetsAsTold_53 (by decide) (fun c_53 => ?_) (fun c_53 => ?_)
        · skip
          refine aw_iinc C (nI (i + 1)) dX4_meetsAsTold_58 rfl (inc_nI _ 1) (by decide) rfl (lv' := [(0, .ref (z 0)), (1, .int (nI s)), (2, .int (nI u)), (3, .int (nI (i + 1))), (4, .int (s3 (s * 40 + i)))]) rfl ?_
          refine aw_goto C 2 dX4_meetsAsTold_61 (by decide) ?_
          refine aw_sub (lv' := [(0, .ref (z 0)), (1, .int (nI s)), (2, .int (nI u)), (3, .int (nI (i + 1)))]) [0, 1, 2, 3] rfl ?_
          exact aw_eq (by first | rfl | (simp only [itr, c_15, c_39, c_53])) rfl (by rfl) (ih2 (allB_s hv2 (by first | (simp only [tOk, itr, c_15, c_39, c_53, decide_true, decide_false, Bool.not_true, Bool.not_false, Bool.true_and, Bool.false_and, Bool.and_true, Bool.and_false, Bool.true_or, Bool.false_or, Bool.or_true, Bool.or_false, cond_true, cond_false, eq_self, if_true, if_false, ite_true, ite_false]) | (simp only [tOk, c_53, decide_true, decide_false, Bool.not_true, Bool.not_false, Bool.true_and, Bool.false_and, Bool.and_true, Bool.and_false, Bool.true_or, Bool.false_or, Bool.or_true, Bool.or_false, cond_true, cond_false, eq_self, if_true, if_false, ite_true, ite_false]))))
        · skip
          refine aw_iconst C (0 : Int32) dX4_meetsAsTold_56 (by decide) ?_
          exact aw_bret C (b := false) hr hlk dX4_meetsAsTold_57 rfl ⟨rb (by have cc : tOk R u (fun i => s3 (s * 40 + i)) i = false := by {simp only [tOk, c_15, c_39, c_53, decide_true, decide_false, Bool.not_true, Bool.not_false, Bool.true_and, Bool.false_and, Bool.and_true, Bool.and_false, Bool.true_or, Bool.false_or, Bool.or_true, Bool.or_false, cond_true, cond_false, eq_self, if_true, if_false, ite_true, ite_false]}; rw [el, ix_nI (by omega)]; exact (allB_f cc hi2).symm), (tDays i R), tk, bg, en, nm, rfl⟩
