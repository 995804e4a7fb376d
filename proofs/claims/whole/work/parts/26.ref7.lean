/-! the reference: when, known, passed, two -/
theorem pMo_any {l : Launch} {y : MethodName} {ws : List Cond} {rm : Room} {D : va_G} {tys : List (ClassId × FieldType)} {adK adV : Nat → Nat} {wc : va_W} {av : List Value} {mc ns : Nat} {cI cC : ClassId} {z : Nat → Nat} {o1 o2 : Int32 × Sg} (h : FC l y ws rm D tys adK adV wc av mc ns (pMo cI cC z o1)) (e : o2 = o1) : FC l y ws rm D tys adK adV wc av mc ns (pMo cI cC z o2) := by rw [e]; exact h
theorem when_y {G : Sg} {u v w : Int32} (h : mTwo G.1 u v = true) (h2 : (!decide (w < 0) && decide (w ≤ 2)) = true) : m_when G u v w = mFirst G (fun k => mSo (tDays k G.1) (ix u) (ix v) w) := by unfold m_when; rw [h, h2, Bool.and_self, cond_true]
theorem when_a {G : Sg} {u v w : Int32} (h : mTwo G.1 u v = false) : m_when G u v w = gno G 0 := by unfold m_when; rw [h, Bool.false_and, cond_false]
theorem when_b {G : Sg} {u v w : Int32} (h2 : (!decide (w < 0) && decide (w ≤ 2)) = false) : m_when G u v w = gno G 0 := by unfold m_when; rw [h2, Bool.and_false, cond_false]
theorem when_0 {G : Sg} {u v w : Int32} (h : mTwo G.1 u v = true) (h2 : (!decide (w < 0) && decide (w ≤ 2)) = true) (e : w = 0) : m_when G u v w = mFirst G (fun k => tMut (tDays k G.1) 3 (ix u) (ix v)) := by rw [when_y h h2, e]; exact first_c (fun k => so_0 _ _ _)
theorem when_1 {G : Sg} {u v w : Int32} (h : mTwo G.1 u v = true) (h2 : (!decide (w < 0) && decide (w ≤ 2)) = true) (e : w = 1) : m_when G u v w = mFirst G (fun k => tMut (tDays k G.1) 4 (ix u) (ix v)) := by rw [when_y h h2, e]; exact first_c (fun k => so_1 _ _ _)
theorem when_2 {G : Sg} {u v w : Int32} (h : mTwo G.1 u v = true) (h2 : (!decide (w < 0) && decide (w ≤ 2)) = true) (e : w = 2) (ho : gOk G.1) : m_when G u v w = mFirst G (fun k => decide ((tDays k G.1).2.2.1 1 (ix u) = (tDays k G.1).2.2.1 1 (ix v))) := by rw [when_y h h2, e]; exact first_c (fun k => so_2 (days_ok ho k) _ _)
theorem two_e0 {G : Sg} {u v w : Int32} (h : mTwo G.1 u v = true) (e : w = 0) : m_two G u v w = (b2 (tMut G.1 3 (ix u) (ix v)), G) := by unfold m_two; rw [h, e]; rfl
theorem two_e1 {G : Sg} {u v w : Int32} (h : mTwo G.1 u v = true) (e : w = 1) : m_two G u v w = (b2 (tMut G.1 4 (ix u) (ix v)), G) := by unfold m_two; rw [h, e]; rfl
theorem two_e2 {G : Sg} {u v w : Int32} (h : mTwo G.1 u v = true) (h2 : (!decide (w < 0) && decide (w ≤ 2)) = true) (n0 : ¬ w = 0) (n1 : ¬ w = 1) : m_two G u v w = (b2 (tSee G.1 (ix u) (ix v)), G) := by
  rcases le_2 h2 with e | e | e
  · exact absurd e n0
  · exact absurd e n1
  · unfold m_two; rw [h, e]; rfl
theorem two_ea {G : Sg} {u v w : Int32} (h : mTwo G.1 u v = false) : m_two G u v w = gno G 0 := by unfold m_two; rw [h]; rfl
theorem two_eb {G : Sg} {u v w : Int32} (h2 : (!decide (w < 0) && decide (w ≤ 2)) = false) : m_two G u v w = gno G 0 := by
  have n0 : ¬ w = 0 := fun e => by subst e; exact absurd h2 (by decide)
  have n1 : ¬ w = 1 := fun e => by subst e; exact absurd h2 (by decide)
  have n2 : ¬ w = 2 := fun e => by subst e; exact absurd h2 (by decide)
  unfold m_two
  rw [if_neg n0, if_neg n1, if_neg n2]
  cases mTwo G.1 u v <;> rfl

abbrev r_X5_when : Room := { frames := 6, cells := 0, slots := 0, locals := 136 }
theorem cv_X5_when : cV yX5_when cX5_when 4 (some .int) 3 := ⟨k4_236, k4_237, k4_238, k1_6, by decide, by decide, by decide +kernel⟩
set_option maxHeartbeats 4000000 in
set_option maxRecDepth 100000 in
theorem c_X5_when (l : Launch) (D : va_G) (cI cC : ClassId) (adK adV : Nat → Nat) (y : Nat → Nat) (T K : Tw) (ik : Bool) (F f : Nat → Int32) (n : Nat) (s1 s2 s3 kr ar : Nat → Int32) (tk : Int32) (bg en : Nat) (vl : Int64) (cr : Nat → Int32) (hk : ik = true → kr = rowOf K) (ho : gOk T) (u : Int32) (v : Int32) (w : Int32) : FC l yX5_when (wW yX5_when cX5_when 4 (some .int)) r_X5_when D (tyC cI cC) adK adV (wMo cI cC y (rowOf T) (kr, ar, ik, F, f, n, tk, bg, en, vl, s1, s2, s3, cr)) [.ref (y 0), .int u, .int v, .int w] 0 0 (pMo cI cC y (m_when (T, K, ik, F, f, n, s1, s2, s3) u v w)) := by
  refine FC.of (own := RX5) (by decide) rfl (Nat.le_of_ble_eq_true rfl) ?_
  intro p9 e9 s9 m9 args9 below9 meth9 c9 A9 C hr hlk hmn
  show AW p9 l e9 r_X5_when s9 m9 args9 below9 meth9 c9 D A9 4 0 0 _ 0 [(0, .ref (y 0)), (1, .int u), (2, .int v), (3, .int w)] [] _
  have hn := ho.n
  refine aw_aload_n C dX5_when_0 rfl ?_
  refine aw_iload_n C dX5_when_1 rfl ?_
  refine aw_iload_n C dX5_when_2 rfl ?_
  refine aw_callVp C (As := [.int u, .int v]) (c_X5_areTwo l D cI cC adK adV y T (kr, ar, ik, F, f, n, tk, bg, en, vl, s1, s2, s3, cr) u v hn) k4_131 cv_X5_areTwo 0 4 rfl rfl rfl [0, 1, 2, 3, 4, 5, 6, 7, 8, 9, 10, 11, 12] (by decide) rfl ⟨by decide, by decide⟩ rfl rfl ⟨by decide, by decide⟩ rfl rfl (Nat.le_of_ble_eq_true rfl) dX5_when_3 ?_
  refine aw_ifeq_b C 28 dX5_when_6 (by decide) (fun c_6 => ?_) (fun c_6 => ?_)
  · skip
    refine aw_aload_n C dX5_when_28 rfl ?_
    refine aw_iconst C (0 : Int32) dX5_when_29 (by decide) ?_
    refine aw_callVd C (As := [.int (0 : Int32)]) (c_X5_no l D cI cC adK adV y T (kr, ar, ik, F, f, n, tk, bg, en, vl, s1, s2, s3, cr) 0 (by decide)) k4_60 cv_X5_no 0 4 rfl rfl rfl [0, 1, 2, 3, 4, 5, 6, 7, 8, 9, 10, 11, 12] (by decide) rfl (wr := ([] : va_W)) [] rfl (by decide) (by decide) [0, 1, 2, 3, 4, 5, 6, 7, 8, 9, 10, 11, 12] (by decide) (ws' := wMo cI cC y (rowOf T) (kr, ar, ik, (upd F 0 (F 0 + 1)), f, n, tk, bg, en, vl, s1, s2, s3, cr)) rfl ⟨by decide, by decide⟩ rfl rfl ⟨by decide, by decide⟩ rfl rfl (Nat.le_of_ble_eq_true rfl) dX5_when_30 ?_
    have hm : m_when (T, K, ik, F, f, n, s1, s2, s3) u v w = ((fno 0), (T, K, ik, (upd F 0 (F 0 + 1)), f, n, s1, s2, s3)) := by exact when_a c_6
    exact aw_iret C hr hlk dX5_when_33 ⟨ri (by rw [hm]), kr, ar, tk, bg, en, vl, cr, by first | (rw [hm]; done) | (rw [hm]; rfl), by rw [hm]; exact hk⟩
  · skip
    obtain ⟨q1, q2, q3⟩ := two_u c_6
    have l1 := there_lt hn q1
    have l2 := there_lt hn q2
    have e1 : u = nI (ix u) := there_ix q1
    refine aw_eq (lv' := [(0, .ref (y 0)), (1, .int (nI (ix u))), (2, .int v), (3, .int w)]) (ws' := wMo cI cC y (rowOf T) (kr, ar, ik, F, f, n, tk, bg, en, vl, s1, s2, s3, cr)) (by rw [← e1]) rfl rfl ?_
    have e2 : v = nI (ix v) := there_ix q2
    refine aw_eq (lv' := [(0, .ref (y 0)), (1, .int (nI (ix u))), (2, .int (nI (ix v))), (3, .int w)]) (ws' := wMo cI cC y (rowOf T) (kr, ar, ik, F, f, n, tk, bg, en, vl, s1, s2, s3, cr)) (by rw [← e2]) rfl rfl ?_
    refine aw_pc 9 rfl ?_
    refine aw_iload_n C dX5_when_9 rfl ?_
    refine aw_iconst C (0 : Int32) dX5_when_10 (by decide) ?_
    refine aw_iconst C (2 : Int32) dX5_when_11 (by decide) ?_
    refine aw_callSp C (As := [.int w, .int (0 : Int32), .int (2 : Int32)]) (c_X5_in1 l D cI cC adK adV w (0 : Int32) (2 : Int32)) k4_54 cs_X5_in1 [] (by decide) rfl ⟨by decide, by decide⟩ rfl rfl ⟨by decide, by decide⟩ rfl rfl (Nat.le_of_ble_eq_true rfl) dX5_when_12 ?_
    refine aw_top (y := b2 (!decide (w < (0 : Int32)) && decide (w ≤ (2 : Int32)))) (by exact congrArg b2 (inL_le _ _ _)) ?_
    refine aw_ifeq_b C 28 dX5_when_15 (by decide) (fun c_15 => ?_) (fun c_15 => ?_)
    · skip
      refine aw_aload_n C dX5_when_28 rfl ?_
      refine aw_iconst C (0 : Int32) dX5_when_29 (by decide) ?_
      refine aw_callVd C (As := [.int (0 : Int32)]) (c_X5_no l D cI cC adK adV y T (kr, ar, ik, F, f, n, tk, bg, en, vl, s1, s2, s3, cr) 0 (by decide)) k4_60 cv_X5_no 0 4 rfl rfl rfl [0, 1, 2, 3, 4, 5, 6, 7, 8, 9, 10, 11, 12] (by decide) rfl (wr := ([] : va_W)) [] rfl (by decide) (by decide) [0, 1, 2, 3, 4, 5, 6, 7, 8, 9, 10, 11, 12] (by decide) (ws' := wMo cI cC y (rowOf T) (kr, ar, ik, (upd F 0 (F 0 + 1)), f, n, tk, bg, en, vl, s1, s2, s3, cr)) rfl ⟨by decide, by decide⟩ rfl rfl ⟨by decide, by decide⟩ rfl rfl (Nat.le_of_ble_eq_true rfl) dX5_when_30 ?_
      have hm : m_when (T, K, ik, F, f, n, s1, s2, s3) u v w = ((fno 0), (T, K, ik, (upd F 0 (F 0 + 1)), f, n, s1, s2, s3)) := by exact when_b c_15
      exact aw_iret C hr hlk dX5_when_33 ⟨ri (by rw [hm]), kr, ar, tk, bg, en, vl, cr, by first | (rw [hm]; done) | (rw [hm]; rfl), by rw [hm]; exact hk⟩
    · skip
      rcases le_2 c_15 with w0 | w0 | w0
      · skip
        refine aw_eq (lv' := [(0, .ref (y 0)), (1, .int (nI (ix u))), (2, .int (nI (ix v))), (3, .int (0 : Int32))]) (ws' := wMo cI cC y (rowOf T) (kr, ar, ik, F, f, n, tk, bg, en, vl, s1, s2, s3, cr)) (by rw [w0]) rfl rfl ?_
        refine aw_pc 18 rfl ?_
        refine aw_aload_n C dX5_when_18 rfl ?_
        refine aw_iload_n C dX5_when_19 rfl ?_
        refine aw_iload_n C dX5_when_20 rfl ?_
        refine aw_iload_n C dX5_when_21 rfl ?_
        obtain ⟨M1, hM1⟩ : ∃ z9, z9 = (mFirst (T, K, ik, F, f, n, s1, s2, s3) (fun k9 => tMut (tDays k9 T) 3 (ix u) (ix v))) := ⟨_, rfl⟩
        refine aw_callV C (As := [.int (0 : Int32), .int (nI (ix u)), .int (nI (ix v))]) (pMo_any (c_X5_firstBy_0 l D cI cC adK adV y T K ik F f n s1 s2 s3 kr ar tk bg en vl cr hk ho (ix u) (ix v) (by omega) (by omega)) hM1) k4_239 cv_X5_firstBy_0 0 4 rfl rfl rfl [0, 1, 2, 3, 4, 5, 6, 7, 8, 9, 10, 11, 12] (by decide) rfl (wr := ([] : va_W)) [] rfl (by decide) (by decide) ⟨by decide, by decide⟩ rfl rfl ⟨by decide, by decide⟩ rfl rfl (Nat.le_of_ble_eq_true rfl) dX5_when_22 ?_
        rintro _ _ ⟨rfl, kr1, ar1, tk1, bg1, en1, vl1, cr1, rfl, hk1⟩
        refine aw_eq (lv' := [(0, .ref (y 0)), (1, .int (nI (ix u))), (2, .int (nI (ix v))), (3, .int (0 : Int32))]) (st' := [.int M1.1]) (ws' := wMo cI cC y (rowOf M1.2.1) (kr1, ar1, M1.2.2.2.1, M1.2.2.2.2.1, M1.2.2.2.2.2.1, M1.2.2.2.2.2.2.1, tk1, bg1, en1, vl1, M1.2.2.2.2.2.2.2.1, M1.2.2.2.2.2.2.2.2.1, M1.2.2.2.2.2.2.2.2.2, cr1)) rfl rfl rfl ?_
        refine aw_goto C 33 dX5_when_25 (by decide) ?_
        have hm : m_when (T, K, ik, F, f, n, s1, s2, s3) u v w = (M1.1, (M1.2.1, M1.2.2.1, M1.2.2.2.1, M1.2.2.2.2.1, M1.2.2.2.2.2.1, M1.2.2.2.2.2.2.1, M1.2.2.2.2.2.2.2.1, M1.2.2.2.2.2.2.2.2.1, M1.2.2.2.2.2.2.2.2.2)) := by exact Eq.trans (Eq.trans (when_0 c_6 c_15 w0) hM1.symm) (sg_eta M1)
        exact aw_iret C hr hlk dX5_when_33 ⟨ri (by rw [hm]), kr1, ar1, tk1, bg1, en1, vl1, cr1, by first | (rw [hm]; done) | (rw [hm]; rfl), by rw [hm]; exact hk1⟩
      · skip
        refine aw_eq (lv' := [(0, .ref (y 0)), (1, .int (nI (ix u))), (2, .int (nI (ix v))), (3, .int (1 : Int32))]) (ws' := wMo cI cC y (rowOf T) (kr, ar, ik, F, f, n, tk, bg, en, vl, s1, s2, s3, cr)) (by rw [w0]) rfl rfl ?_
        refine aw_aload_n C dX5_when_18 rfl ?_
        refine aw_iload_n C dX5_when_19 rfl ?_
        refine aw_iload_n C dX5_when_20 rfl ?_
        refine aw_pc 21 rfl ?_
        refine aw_iload_n C dX5_when_21 rfl ?_
        obtain ⟨M2, hM2⟩ : ∃ z9, z9 = (mFirst (T, K, ik, F, f, n, s1, s2, s3) (fun k9 => tMut (tDays k9 T) 4 (ix u) (ix v))) := ⟨_, rfl⟩
        refine aw_callV C (As := [.int (1 : Int32), .int (nI (ix u)), .int (nI (ix v))]) (pMo_any (c_X5_firstBy_1 l D cI cC adK adV y T K ik F f n s1 s2 s3 kr ar tk bg en vl cr hk ho (ix u) (ix v) (by omega) (by omega)) hM2) k4_239 cv_X5_firstBy_1 0 4 rfl rfl rfl [0, 1, 2, 3, 4, 5, 6, 7, 8, 9, 10, 11, 12] (by decide) rfl (wr := ([] : va_W)) [] rfl (by decide) (by decide) ⟨by decide, by decide⟩ rfl rfl ⟨by decide, by decide⟩ rfl rfl (Nat.le_of_ble_eq_true rfl) dX5_when_22 ?_
        rintro _ _ ⟨rfl, kr2, ar2, tk2, bg2, en2, vl2, cr2, rfl, hk2⟩
        refine aw_eq (lv' := [(0, .ref (y 0)), (1, .int (nI (ix u))), (2, .int (nI (ix v))), (3, .int (1 : Int32))]) (st' := [.int M2.1]) (ws' := wMo cI cC y (rowOf M2.2.1) (kr2, ar2, M2.2.2.2.1, M2.2.2.2.2.1, M2.2.2.2.2.2.1, M2.2.2.2.2.2.2.1, tk2, bg2, en2, vl2, M2.2.2.2.2.2.2.2.1, M2.2.2.2.2.2.2.2.2.1, M2.2.2.2.2.2.2.2.2.2, cr2)) rfl rfl rfl ?_
        refine aw_goto C 33 dX5_when_25 (by decide) ?_
        have hm : m_when (T, K, ik, F, f, n, s1, s2, s3) u v w = (M2.1, (M2.2.1, M2.2.2.1, M2.2.2.2.1, M2.2.2.2.2.1, M2.2.2.2.2.2.1, M2.2.2.2.2.2.2.1, M2.2.2.2.2.2.2.2.1, M2.2.2.2.2.2.2.2.2.1, M2.2.2.2.2.2.2.2.2.2)) := by exact Eq.trans (Eq.trans (when_1 c_6 c_15 w0) hM2.symm) (sg_eta M2)
        exact aw_iret C hr hlk dX5_when_33 ⟨ri (by rw [hm]), kr2, ar2, tk2, bg2, en2, vl2, cr2, by first | (rw [hm]; done) | (rw [hm]; rfl), by rw [hm]; exact hk2⟩
      · skip
        refine aw_eq (lv' := [(0, .ref (y 0)), (1, .int (nI (ix u))), (2, .int (nI (ix v))), (3, .int (2 : Int32))]) (ws' := wMo cI cC y (rowOf T) (kr, ar, ik, F, f, n, tk, bg, en, vl, s1, s2, s3, cr)) (by rw [w0]) rfl rfl ?_
        refine aw_aload_n C dX5_when_18 rfl ?_
        refine aw_iload_n C dX5_when_19 rfl ?_
        refine aw_iload_n C dX5_when_20 rfl ?_
        refine aw_iload_n C dX5_when_21 rfl ?_
        obtain ⟨M3, hM3⟩ : ∃ z9, z9 = (mFirst (T, K, ik, F, f, n, s1, s2, s3) (fun k9 => decide ((tDays k9 T).2.2.1 1 (ix u) = (tDays k9 T).2.2.1 1 (ix v)))) := ⟨_, rfl⟩
        refine aw_callV C (As := [.int (2 : Int32), .int (nI (ix u)), .int (nI (ix v))]) (pMo_any (c_X5_firstBy_2 l D cI cC adK adV y T K ik F f n s1 s2 s3 kr ar tk bg en vl cr hk ho (ix u) (ix v) (by omega) (by omega)) hM3) k4_239 cv_X5_firstBy_2 0 4 rfl rfl rfl [0, 1, 2, 3, 4, 5, 6, 7, 8, 9, 10, 11, 12] (by decide) rfl (wr := ([] : va_W)) [] rfl (by decide) (by decide) ⟨by decide, by decide⟩ rfl rfl ⟨by decide, by decide⟩ rfl rfl (Nat.le_of_ble_eq_true rfl) dX5_when_22 ?_
        rintro _ _ ⟨rfl, kr3, ar3, tk3, bg3, en3, vl3, cr3, rfl, hk3⟩
        refine aw_eq (lv' := [(0, .ref (y 0)), (1, .int (nI (ix u))), (2, .int (nI (ix v))), (3, .int (2 : Int32))]) (st' := [.int M3.1]) (ws' := wMo cI cC y (rowOf M3.2.1) (kr3, ar3, M3.2.2.2.1, M3.2.2.2.2.1, M3.2.2.2.2.2.1, M3.2.2.2.2.2.2.1, tk3, bg3, en3, vl3, M3.2.2.2.2.2.2.2.1, M3.2.2.2.2.2.2.2.2.1, M3.2.2.2.2.2.2.2.2.2, cr3)) rfl rfl rfl ?_
        refine aw_goto C 33 dX5_when_25 (by decide) ?_
        refine aw_pc 33 rfl ?_
        have hm : m_when (T, K, ik, F, f, n, s1, s2, s3) u v w = (M3.1, (M3.2.1, M3.2.2.1, M3.2.2.2.1, M3.2.2.2.2.1, M3.2.2.2.2.2.1, M3.2.2.2.2.2.2.1, M3.2.2.2.2.2.2.2.1, M3.2.2.2.2.2.2.2.2.1, M3.2.2.2.2.2.2.2.2.2)) := by exact Eq.trans (Eq.trans (when_2 c_6 c_15 w0 ho) hM3.symm) (sg_eta M3)
        exact aw_iret C hr hlk dX5_when_33 ⟨ri (by rw [hm]), kr3, ar3, tk3, bg3, en3, vl3, cr3, by first | (rw [hm]; done) | (rw [hm]; rfl), by rw [hm]; exact hk3⟩
abbrev r_X5_known : Room := { frames := 6, cells := 0, slots := 0, locals := 136 }
theorem cv_X5_known : cV yX5_known cX5_known 1 (some .int) 0 := ⟨k5_8, k5_9, k5_10, k1_6, by decide, by decide, by decide +kernel⟩
set_option maxHeartbeats 4000000 in
set_option maxRecDepth 100000 in
theorem c_X5_known (l : Launch) (D : va_G) (cI cC : ClassId) (adK adV : Nat → Nat) (y : Nat → Nat) (T K : Tw) (ik : Bool) (F f : Nat → Int32) (n : Nat) (s1 s2 s3 kr ar : Nat → Int32) (tk : Int32) (bg en : Nat) (vl : Int64) (cr : Nat → Int32) (hk : ik = true → kr = rowOf K) (ho : gOk T)  : FC l yX5_known (wW yX5_known cX5_known 1 (some .int)) r_X5_known D (tyC cI cC) adK adV (wMo cI cC y (rowOf T) (kr, ar, ik, F, f, n, tk, bg, en, vl, s1, s2, s3, cr)) [.ref (y 0)] 0 0 (pMo cI cC y (m_known (T, K, ik, F, f, n, s1, s2, s3))) := by
  refine FC.of (own := RX5) (by decide) rfl (Nat.le_of_ble_eq_true rfl) ?_
  intro p9 e9 s9 m9 args9 below9 meth9 c9 A9 C hr hlk hmn
  show AW p9 l e9 r_X5_known s9 m9 args9 below9 meth9 c9 D A9 1 0 0 _ 0 [(0, .ref (y 0))] [] _
  have hn := ho.n
  refine aw_aload_n C dX5_known_0 rfl ?_
  refine aw_iconst C (3 : Int32) dX5_known_1 (by decide) ?_
  refine aw_iconst C (0 : Int32) dX5_known_2 (by decide) ?_
  refine aw_iconst C (0 : Int32) dX5_known_3 (by decide) ?_
  obtain ⟨M4, hM4⟩ : ∃ z9, z9 = (mFirst (T, K, ik, F, f, n, s1, s2, s3) (fun k9 => (!decide (mKnowers (tDays k9 T) = 0)))) := ⟨_, rfl⟩
  refine aw_callV C (As := [.int (3 : Int32), .int (0 : Int32), .int (0 : Int32)]) (pMo_any (c_X5_firstBy_3 l D cI cC adK adV y T K ik F f n s1 s2 s3 kr ar tk bg en vl cr hk ho  ) hM4) k4_239 cv_X5_firstBy_3 0 4 rfl rfl rfl [0, 1, 2, 3, 4, 5, 6, 7, 8, 9, 10, 11, 12] (by decide) rfl (wr := ([] : va_W)) [] rfl (by decide) (by decide) ⟨by decide, by decide⟩ rfl rfl ⟨by decide, by decide⟩ rfl rfl (Nat.le_of_ble_eq_true rfl) dX5_known_4 ?_
  rintro _ _ ⟨rfl, kr4, ar4, tk4, bg4, en4, vl4, cr4, rfl, hk4⟩
  refine aw_eq (lv' := [(0, .ref (y 0))]) (st' := [.int M4.1]) (ws' := wMo cI cC y (rowOf M4.2.1) (kr4, ar4, M4.2.2.2.1, M4.2.2.2.2.1, M4.2.2.2.2.2.1, M4.2.2.2.2.2.2.1, tk4, bg4, en4, vl4, M4.2.2.2.2.2.2.2.1, M4.2.2.2.2.2.2.2.2.1, M4.2.2.2.2.2.2.2.2.2, cr4)) rfl rfl rfl ?_
  have hm : m_known (T, K, ik, F, f, n, s1, s2, s3) = (M4.1, (M4.2.1, M4.2.2.1, M4.2.2.2.1, M4.2.2.2.2.1, M4.2.2.2.2.2.1, M4.2.2.2.2.2.2.1, M4.2.2.2.2.2.2.2.1, M4.2.2.2.2.2.2.2.2.1, M4.2.2.2.2.2.2.2.2.2)) := by exact Eq.trans (Eq.trans (rfl) hM4.symm) (sg_eta M4)
  exact aw_iret C hr hlk dX5_known_7 ⟨ri (by rw [hm]), kr4, ar4, tk4, bg4, en4, vl4, cr4, by first | (rw [hm]; done) | (rw [hm]; rfl), by rw [hm]; exact hk4⟩
abbrev r_X5_passed : Room := { frames := 6, cells := 0, slots := 0, locals := 136 }
theorem cv_X5_passed : cV yX5_passed cX5_passed 3 (some .int) 2 := ⟨k5_12, k5_13, k5_14, k1_6, by decide, by decide, by decide +kernel⟩
set_option maxHeartbeats 4000000 in
set_option maxRecDepth 100000 in
theorem c_X5_passed (l : Launch) (D : va_G) (cI cC : ClassId) (adK adV : Nat → Nat) (y : Nat → Nat) (T K : Tw) (ik : Bool) (F f : Nat → Int32) (n : Nat) (s1 s2 s3 kr ar : Nat → Int32) (tk : Int32) (bg en : Nat) (vl : Int64) (cr : Nat → Int32) (hk : ik = true → kr = rowOf K) (ho : gOk T) (u : Int32) (v : Int32) : FC l yX5_passed (wW yX5_passed cX5_passed 3 (some .int)) r_X5_passed D (tyC cI cC) adK adV (wMo cI cC y (rowOf T) (kr, ar, ik, F, f, n, tk, bg, en, vl, s1, s2, s3, cr)) [.ref (y 0), .int u, .int v] 0 0 (pMo cI cC y (m_passed (T, K, ik, F, f, n, s1, s2, s3) u v)) := by
  refine FC.of (own := RX5) (by decide) rfl (Nat.le_of_ble_eq_true rfl) ?_
  intro p9 e9 s9 m9 args9 below9 meth9 c9 A9 C hr hlk hmn
  show AW p9 l e9 r_X5_passed s9 m9 args9 below9 meth9 c9 D A9 3 0 0 _ 0 [(0, .ref (y 0)), (1, .int u), (2, .int v)] [] _
  have hn := ho.n
  refine aw_aload_n C dX5_passed_0 rfl ?_
  refine aw_iload_n C dX5_passed_1 rfl ?_
  refine aw_callVp C (As := [.int u]) (c_X5_isPerson l D cI cC adK adV y T (kr, ar, ik, F, f, n, tk, bg, en, vl, s1, s2, s3, cr) u hn) k4_77 cv_X5_isPerson 0 4 rfl rfl rfl [0, 1, 2, 3, 4, 5, 6, 7, 8, 9, 10, 11, 12] (by decide) rfl ⟨by decide, by decide⟩ rfl rfl ⟨by decide, by decide⟩ rfl rfl (Nat.le_of_ble_eq_true rfl) dX5_passed_2 ?_
  refine aw_ifeq_b C 29 dX5_passed_5 (by decide) (fun c_5 => ?_) (fun c_5 => ?_)
  · skip
    refine aw_aload_n C dX5_passed_29 rfl ?_
    refine aw_iconst C (0 : Int32) dX5_passed_30 (by decide) ?_
    refine aw_callVd C (As := [.int (0 : Int32)]) (c_X5_no l D cI cC adK adV y T (kr, ar, ik, F, f, n, tk, bg, en, vl, s1, s2, s3, cr) 0 (by decide)) k4_60 cv_X5_no 0 4 rfl rfl rfl [0, 1, 2, 3, 4, 5, 6, 7, 8, 9, 10, 11, 12] (by decide) rfl (wr := ([] : va_W)) [] rfl (by decide) (by decide) [0, 1, 2, 3, 4, 5, 6, 7, 8, 9, 10, 11, 12] (by decide) (ws' := wMo cI cC y (rowOf T) (kr, ar, ik, (upd F 0 (F 0 + 1)), f, n, tk, bg, en, vl, s1, s2, s3, cr)) rfl ⟨by decide, by decide⟩ rfl rfl ⟨by decide, by decide⟩ rfl rfl (Nat.le_of_ble_eq_true rfl) dX5_passed_31 ?_
    have hm : m_passed (T, K, ik, F, f, n, s1, s2, s3) u v = ((fno 0), (T, K, ik, (upd F 0 (F 0 + 1)), f, n, s1, s2, s3)) := by simp only [m_passed, c_5, decide_true, decide_false, Bool.not_true, Bool.not_false, Bool.true_and, Bool.false_and, Bool.and_true, Bool.and_false, Bool.true_or, Bool.false_or, Bool.or_true, Bool.or_false, cond_true, cond_false, eq_self, if_true, if_false, ite_true, ite_false] <;> rfl
    exact aw_iret C hr hlk dX5_passed_34 ⟨ri (by rw [hm]), kr, ar, tk, bg, en, vl, cr, by first | (rw [hm]; done) | (rw [hm]; rfl), by rw [hm]; exact hk⟩
  · skip
    refine aw_iload_n C dX5_passed_8 rfl ?_
    refine aw_pc 9 rfl ?_
    refine aw_iconst C (0 : Int32) dX5_passed_9 (by decide) ?_
    refine aw_sipush C (9999 : Int32) dX5_passed_10 (by decide) ?_
    refine aw_callSp C (As := [.int v, .int (0 : Int32), .int (9999 : Int32)]) (c_X5_in1 l D cI cC adK adV v (0 : Int32) (9999 : Int32)) k4_54 cs_X5_in1 [] (by decide) rfl ⟨by decide, by decide⟩ rfl rfl ⟨by decide, by decide⟩ rfl rfl (Nat.le_of_ble_eq_true rfl) dX5_passed_13 ?_
    refine aw_top (y := b2 (!decide (v < (0 : Int32)) && decide (v ≤ (9999 : Int32)))) (by exact congrArg b2 (inL_le _ _ _)) ?_
    refine aw_ifeq_b C 29 dX5_passed_16 (by decide) (fun c_16 => ?_) (fun c_16 => ?_)
    · skip
      refine aw_aload_n C dX5_passed_29 rfl ?_
      refine aw_iconst C (0 : Int32) dX5_passed_30 (by decide) ?_
      refine aw_callVd C (As := [.int (0 : Int32)]) (c_X5_no l D cI cC adK adV y T (kr, ar, ik, F, f, n, tk, bg, en, vl, s1, s2, s3, cr) 0 (by decide)) k4_60 cv_X5_no 0 4 rfl rfl rfl [0, 1, 2, 3, 4, 5, 6, 7, 8, 9, 10, 11, 12] (by decide) rfl (wr := ([] : va_W)) [] rfl (by decide) (by decide) [0, 1, 2, 3, 4, 5, 6, 7, 8, 9, 10, 11, 12] (by decide) (ws' := wMo cI cC y (rowOf T) (kr, ar, ik, (upd F 0 (F 0 + 1)), f, n, tk, bg, en, vl, s1, s2, s3, cr)) rfl ⟨by decide, by decide⟩ rfl rfl ⟨by decide, by decide⟩ rfl rfl (Nat.le_of_ble_eq_true rfl) dX5_passed_31 ?_
      have hm : m_passed (T, K, ik, F, f, n, s1, s2, s3) u v = ((fno 0), (T, K, ik, (upd F 0 (F 0 + 1)), f, n, s1, s2, s3)) := by simp only [m_passed, c_5, c_16, decide_true, decide_false, Bool.not_true, Bool.not_false, Bool.true_and, Bool.false_and, Bool.and_true, Bool.and_false, Bool.true_or, Bool.false_or, Bool.or_true, Bool.or_false, cond_true, cond_false, eq_self, if_true, if_false, ite_true, ite_false] <;> rfl
      exact aw_iret C hr hlk dX5_passed_34 ⟨ri (by rw [hm]), kr, ar, tk, bg, en, vl, cr, by first | (rw [hm]; done) | (rw [hm]; rfl), by rw [hm]; exact hk⟩
    · skip
      have l1 := there_lt hn c_5
      have e1 : u = nI (ix u) := there_ix c_5
      refine aw_eq (lv' := [(0, .ref (y 0)), (1, .int (nI (ix u))), (2, .int v)]) (ws' := wMo cI cC y (rowOf T) (kr, ar, ik, F, f, n, tk, bg, en, vl, s1, s2, s3, cr)) (by rw [← e1]) rfl rfl ?_
      refine aw_aload_n C dX5_passed_19 rfl ?_
      refine aw_iconst C (4 : Int32) dX5_passed_20 (by decide) ?_
      refine aw_pc 21 rfl ?_
      refine aw_iload_n C dX5_passed_21 rfl ?_
      refine aw_iload_n C dX5_passed_22 rfl ?_
      obtain ⟨M5, hM5⟩ : ∃ z9, z9 = (mFirst (T, K, ik, F, f, n, s1, s2, s3) (fun k9 => (!decide ((tDays k9 T).2.2.1 6 (ix u) < v)))) := ⟨_, rfl⟩
      refine aw_callV C (As := [.int (4 : Int32), .int (nI (ix u)), .int v]) (pMo_any (c_X5_firstBy_4 l D cI cC adK adV y T K ik F f n s1 s2 s3 kr ar tk bg en vl cr hk ho (ix u) v (by omega)) hM5) k4_239 cv_X5_firstBy_4 0 4 rfl rfl rfl [0, 1, 2, 3, 4, 5, 6, 7, 8, 9, 10, 11, 12] (by decide) rfl (wr := ([] : va_W)) [] rfl (by decide) (by decide) ⟨by decide, by decide⟩ rfl rfl ⟨by decide, by decide⟩ rfl rfl (Nat.le_of_ble_eq_true rfl) dX5_passed_23 ?_
      rintro _ _ ⟨rfl, kr5, ar5, tk5, bg5, en5, vl5, cr5, rfl, hk5⟩
      refine aw_eq (lv' := [(0, .ref (y 0)), (1, .int (nI (ix u))), (2, .int v)]) (st' := [.int M5.1]) (ws' := wMo cI cC y (rowOf M5.2.1) (kr5, ar5, M5.2.2.2.1, M5.2.2.2.2.1, M5.2.2.2.2.2.1, M5.2.2.2.2.2.2.1, tk5, bg5, en5, vl5, M5.2.2.2.2.2.2.2.1, M5.2.2.2.2.2.2.2.2.1, M5.2.2.2.2.2.2.2.2.2, cr5)) rfl rfl rfl ?_
      refine aw_goto C 34 dX5_passed_26 (by decide) ?_
      have hm : m_passed (T, K, ik, F, f, n, s1, s2, s3) u v = (M5.1, (M5.2.1, M5.2.2.1, M5.2.2.2.1, M5.2.2.2.2.1, M5.2.2.2.2.2.1, M5.2.2.2.2.2.2.1, M5.2.2.2.2.2.2.2.1, M5.2.2.2.2.2.2.2.2.1, M5.2.2.2.2.2.2.2.2.2)) := by exact Eq.trans (Eq.trans (by simp only [m_passed, c_5, c_16, decide_true, decide_false, Bool.not_true, Bool.not_false, Bool.true_and, Bool.false_and, Bool.and_true, Bool.and_false, Bool.true_or, Bool.false_or, Bool.or_true, Bool.or_false, cond_true, cond_false, eq_self, if_true, if_false, ite_true, ite_false]; exact first_c (fun k9 => rfl)) hM5.symm) (sg_eta M5)
      exact aw_iret C hr hlk dX5_passed_34 ⟨ri (by rw [hm]), kr5, ar5, tk5, bg5, en5, vl5, cr5, by first | (rw [hm]; done) | (rw [hm]; rfl), by rw [hm]; exact hk5⟩
abbrev r_X5_two : Room := { frames := 3, cells := 0, slots := 0, locals := 67 }
theorem cv_X5_two : cV yX5_two cX5_two 5 (some .int) 3 := ⟨k4_147, k4_148, k4_149, k1_6, by decide, by decide, by decide +kernel⟩
set_option maxHeartbeats 4000000 in
set_option maxRecDepth 100000 in
theorem c_X5_two (l : Launch) (D : va_G) (cI cC : ClassId) (adK adV : Nat → Nat) (y : Nat → Nat) (T K : Tw) (ik : Bool) (F f : Nat → Int32) (n : Nat) (s1 s2 s3 kr ar : Nat → Int32) (tk : Int32) (bg en : Nat) (vl : Int64) (cr : Nat → Int32) (hk : ik = true → kr = rowOf K) (ho : gOk T) (u : Int32) (v : Int32) (w : Int32) : FC l yX5_two (wW yX5_two cX5_two 5 (some .int)) r_X5_two D (tyC cI cC) adK adV (wMo cI cC y (rowOf T) (kr, ar, ik, F, f, n, tk, bg, en, vl, s1, s2, s3, cr)) [.ref (y 0), .int u, .int v, .int w] 0 0 (pMo cI cC y (m_two (T, K, ik, F, f, n, s1, s2, s3) u v w)) := by
  refine FC.of (own := RX5) (by decide) rfl (Nat.le_of_ble_eq_true rfl) ?_
  intro p9 e9 s9 m9 args9 below9 meth9 c9 A9 C hr hlk hmn
  show AW p9 l e9 r_X5_two s9 m9 args9 below9 meth9 c9 D A9 5 0 0 _ 0 [(0, .ref (y 0)), (1, .int u), (2, .int v), (3, .int w)] [] _
  have hn := ho.n
  refine aw_aload_n C dX5_two_0 rfl ?_
  refine aw_iload_n C dX5_two_1 rfl ?_
  refine aw_iload_n C dX5_two_2 rfl ?_
  refine aw_callVp C (As := [.int u, .int v]) (c_X5_areTwo l D cI cC adK adV y T (kr, ar, ik, F, f, n, tk, bg, en, vl, s1, s2, s3, cr) u v hn) k4_131 cv_X5_areTwo 0 4 rfl rfl rfl [0, 1, 2, 3, 4, 5, 6, 7, 8, 9, 10, 11, 12] (by decide) rfl ⟨by decide, by decide⟩ rfl rfl ⟨by decide, by decide⟩ rfl rfl (Nat.le_of_ble_eq_true rfl) dX5_two_3 ?_
  refine aw_ifeq_b C 18 dX5_two_6 (by decide) (fun c_6 => ?_) (fun c_6 => ?_)
  · skip
    refine aw_aload_n C dX5_two_18 rfl ?_
    refine aw_iconst C (0 : Int32) dX5_two_19 (by decide) ?_
    refine aw_callVd C (As := [.int (0 : Int32)]) (c_X5_no l D cI cC adK adV y T (kr, ar, ik, F, f, n, tk, bg, en, vl, s1, s2, s3, cr) 0 (by decide)) k4_60 cv_X5_no 0 4 rfl rfl rfl [0, 1, 2, 3, 4, 5, 6, 7, 8, 9, 10, 11, 12] (by decide) rfl (wr := ([] : va_W)) [] rfl (by decide) (by decide) [0, 1, 2, 3, 4, 5, 6, 7, 8, 9, 10, 11, 12] (by decide) (ws' := wMo cI cC y (rowOf T) (kr, ar, ik, (upd F 0 (F 0 + 1)), f, n, tk, bg, en, vl, s1, s2, s3, cr)) rfl ⟨by decide, by decide⟩ rfl rfl ⟨by decide, by decide⟩ rfl rfl (Nat.le_of_ble_eq_true rfl) dX5_two_20 ?_
    have hm : m_two (T, K, ik, F, f, n, s1, s2, s3) u v w = ((fno 0), (T, K, ik, (upd F 0 (F 0 + 1)), f, n, s1, s2, s3)) := by exact two_ea c_6
    exact aw_iret C hr hlk dX5_two_23 ⟨ri (by rw [hm]), kr, ar, tk, bg, en, vl, cr, by first | (rw [hm]; done) | (rw [hm]; rfl), by rw [hm]; exact hk⟩
  · skip
    obtain ⟨q1, q2, q3⟩ := two_u c_6
    have l1 := there_lt hn q1
    have l2 := there_lt hn q2
    have e1 : u = nI (ix u) := there_ix q1
    refine aw_eq (lv' := [(0, .ref (y 0)), (1, .int (nI (ix u))), (2, .int v), (3, .int w)]) (ws' := wMo cI cC y (rowOf T) (kr, ar, ik, F, f, n, tk, bg, en, vl, s1, s2, s3, cr)) (by rw [← e1]) rfl rfl ?_
    have e2 : v = nI (ix v) := there_ix q2
    refine aw_eq (lv' := [(0, .ref (y 0)), (1, .int (nI (ix u))), (2, .int (nI (ix v))), (3, .int w)]) (ws' := wMo cI cC y (rowOf T) (kr, ar, ik, F, f, n, tk, bg, en, vl, s1, s2, s3, cr)) (by rw [← e2]) rfl rfl ?_
    refine aw_pc 9 rfl ?_
    refine aw_iload_n C dX5_two_9 rfl ?_
    refine aw_iconst C (0 : Int32) dX5_two_10 (by decide) ?_
    refine aw_iconst C (2 : Int32) dX5_two_11 (by decide) ?_
    refine aw_callSp C (As := [.int w, .int (0 : Int32), .int (2 : Int32)]) (c_X5_in1 l D cI cC adK adV w (0 : Int32) (2 : Int32)) k4_54 cs_X5_in1 [] (by decide) rfl ⟨by decide, by decide⟩ rfl rfl ⟨by decide, by decide⟩ rfl rfl (Nat.le_of_ble_eq_true rfl) dX5_two_12 ?_
    refine aw_top (y := b2 (!decide (w < (0 : Int32)) && decide (w ≤ (2 : Int32)))) (by exact congrArg b2 (inL_le _ _ _)) ?_
    refine aw_ifne_b C 24 dX5_two_15 (by decide) (fun c_15 => ?_) (fun c_15 => ?_)
    · skip
      refine aw_iload_n C dX5_two_24 rfl ?_
      refine aw_if_ne C 54 dX5_two_25 (by decide) (fun c_25 => ?_) (fun c_25 => ?_)
      · skip
        refine aw_iload_n C dX5_two_54 rfl ?_
        refine aw_iconst C (1 : Int32) dX5_two_55 (by decide) ?_
        refine aw_icmp_ne C 85 dX5_two_56 (by decide) (fun c_56 => ?_) (fun c_56 => ?_)
        · skip
          refine aw_pc 85 rfl ?_
          refine aw_aload_n C dX5_two_85 rfl ?_
          refine aw_iload_n C dX5_two_86 rfl ?_
          refine aw_iload_n C dX5_two_87 rfl ?_
          refine aw_callVp C (As := [.int (nI (ix u)), .int (nI (ix v))]) (c_X5_wouldSee l D cI cC adK adV y T (kr, ar, ik, F, f, n, tk, bg, en, vl, s1, s2, s3, cr) (ix u) (ix v) (by omega) (by omega) ho) k4_158 cv_X5_wouldSee 0 4 rfl rfl rfl [0, 1, 2, 3, 4, 5, 6, 7, 8, 9, 10, 11, 12] (by decide) rfl ⟨by decide, by decide⟩ rfl rfl ⟨by decide, by decide⟩ rfl rfl (Nat.le_of_ble_eq_true rfl) dX5_two_88 ?_
          refine aw_istore C true (lv' := [(0, .ref (y 0)), (1, .int (nI (ix u))), (2, .int (nI (ix v))), (3, .int w), (4, .int (b2 (tSee T (ix u) (ix v))))]) dX5_two_91 (by decide) rfl rfl ?_
          refine aw_iload C dX5_two_93 rfl ?_
          refine aw_ifeq_b C 102 dX5_two_95 (by decide) (fun c_95 => ?_) (fun c_95 => ?_)
          · skip
            refine aw_iconst C (0 : Int32) dX5_two_102 (by decide) ?_
            have hm : m_two (T, K, ik, F, f, n, s1, s2, s3) u v w = ((0 : Int32), (T, K, ik, F, f, n, s1, s2, s3)) := by refine Eq.trans (two_e2 c_6 c_15 c_25 c_56) ?_; simp only [mut_met, mut_kno, c_95, decide_true, decide_false, Bool.not_true, Bool.not_false, Bool.true_and, Bool.false_and, Bool.and_true, Bool.and_false, Bool.true_or, Bool.false_or, Bool.or_true, Bool.or_false, cond_true, cond_false, eq_self, if_true, if_false, ite_true, ite_false] <;> rfl
            exact aw_iret C hr hlk dX5_two_103 ⟨ri (by rw [hm]), kr, ar, tk, bg, en, vl, cr, by first | (rw [hm]; done) | (rw [hm]; rfl), by rw [hm]; exact hk⟩
          · skip
            refine aw_iconst C (1 : Int32) dX5_two_98 (by decide) ?_
            refine aw_pc 99 rfl ?_
            refine aw_goto C 103 dX5_two_99 (by decide) ?_
            have hm : m_two (T, K, ik, F, f, n, s1, s2, s3) u v w = ((1 : Int32), (T, K, ik, F, f, n, s1, s2, s3)) := by refine Eq.trans (two_e2 c_6 c_15 c_25 c_56) ?_; simp only [mut_met, mut_kno, c_95, decide_true, decide_false, Bool.not_true, Bool.not_false, Bool.true_and, Bool.false_and, Bool.and_true, Bool.and_false, Bool.true_or, Bool.false_or, Bool.or_true, Bool.or_false, cond_true, cond_false, eq_self, if_true, if_false, ite_true, ite_false] <;> rfl
            exact aw_iret C hr hlk dX5_two_103 ⟨ri (by rw [hm]), kr, ar, tk, bg, en, vl, cr, by first | (rw [hm]; done) | (rw [hm]; rfl), by rw [hm]; exact hk⟩
        · skip
          refine aw_aload_n C dX5_two_59 rfl ?_
          refine aw_iload_n C dX5_two_60 rfl ?_
          refine aw_iload_n C dX5_two_61 rfl ?_
          refine aw_callVp C (As := [.int (nI (ix u)), .int (nI (ix v))]) (c_X5_doesKnow l D cI cC adK adV y T (kr, ar, ik, F, f, n, tk, bg, en, vl, s1, s2, s3, cr) (ix u) (ix v) (by omega)) k4_154 cv_X5_doesKnow 0 4 rfl rfl rfl [0, 1, 2, 3, 4, 5, 6, 7, 8, 9, 10, 11, 12] (by decide) rfl ⟨by decide, by decide⟩ rfl rfl ⟨by decide, by decide⟩ rfl rfl (Nat.le_of_ble_eq_true rfl) dX5_two_62 ?_
          refine aw_ifeq_b C 81 dX5_two_65 (by decide) (fun c_65 => ?_) (fun c_65 => ?_)
          · skip
            refine aw_iconst C (0 : Int32) dX5_two_81 (by decide) ?_
            refine aw_goto C 91 dX5_two_82 (by decide) ?_
            refine aw_istore C true (lv' := [(0, .ref (y 0)), (1, .int (nI (ix u))), (2, .int (nI (ix v))), (3, .int w), (4, .int (0 : Int32))]) dX5_two_91 (by decide) rfl rfl ?_
            refine aw_pc 93 rfl ?_
            refine aw_iload C dX5_two_93 rfl ?_
            refine aw_if_eq C 102 dX5_two_95 (by decide) (fun c_95 => ?_) (fun c_95 => absurd c_95 (by decide))
            refine aw_iconst C (0 : Int32) dX5_two_102 (by decide) ?_
            have hm : m_two (T, K, ik, F, f, n, s1, s2, s3) u v w = ((0 : Int32), (T, K, ik, F, f, n, s1, s2, s3)) := by refine Eq.trans (two_e1 c_6 c_56) ?_; simp only [mut_met, mut_kno, c_65, decide_true, decide_false, Bool.not_true, Bool.not_false, Bool.true_and, Bool.false_and, Bool.and_true, Bool.and_false, Bool.true_or, Bool.false_or, Bool.or_true, Bool.or_false, cond_true, cond_false, eq_self, if_true, if_false, ite_true, ite_false] <;> rfl
            exact aw_iret C hr hlk dX5_two_103 ⟨ri (by rw [hm]), kr, ar, tk, bg, en, vl, cr, by first | (rw [hm]; done) | (rw [hm]; rfl), by rw [hm]; exact hk⟩
          · skip
            refine aw_aload_n C dX5_two_68 rfl ?_
            refine aw_iload_n C dX5_two_69 rfl ?_
            refine aw_iload_n C dX5_two_70 rfl ?_
            refine aw_callVp C (As := [.int (nI (ix v)), .int (nI (ix u))]) (c_X5_doesKnow l D cI cC adK adV y T (kr, ar, ik, F, f, n, tk, bg, en, vl, s1, s2, s3, cr) (ix v) (ix u) (by omega)) k4_154 cv_X5_doesKnow 0 4 rfl rfl rfl [0, 1, 2, 3, 4, 5, 6, 7, 8, 9, 10, 11, 12] (by decide) rfl ⟨by decide, by decide⟩ rfl rfl ⟨by decide, by decide⟩ rfl rfl (Nat.le_of_ble_eq_true rfl) dX5_two_71 ?_
            refine aw_ifeq_b C 81 dX5_two_74 (by decide) (fun c_74 => ?_) (fun c_74 => ?_)
            · skip
              refine aw_iconst C (0 : Int32) dX5_two_81 (by decide) ?_
              refine aw_pc 82 rfl ?_
              refine aw_goto C 91 dX5_two_82 (by decide) ?_
              refine aw_istore C true (lv' := [(0, .ref (y 0)), (1, .int (nI (ix u))), (2, .int (nI (ix v))), (3, .int w), (4, .int (0 : Int32))]) dX5_two_91 (by decide) rfl rfl ?_
              refine aw_iload C dX5_two_93 rfl ?_
              refine aw_if_eq C 102 dX5_two_95 (by decide) (fun c_95 => ?_) (fun c_95 => absurd c_95 (by decide))
              refine aw_iconst C (0 : Int32) dX5_two_102 (by decide) ?_
              have hm : m_two (T, K, ik, F, f, n, s1, s2, s3) u v w = ((0 : Int32), (T, K, ik, F, f, n, s1, s2, s3)) := by refine Eq.trans (two_e1 c_6 c_56) ?_; simp only [mut_met, mut_kno, c_65, c_74, decide_true, decide_false, Bool.not_true, Bool.not_false, Bool.true_and, Bool.false_and, Bool.and_true, Bool.and_false, Bool.true_or, Bool.false_or, Bool.or_true, Bool.or_false, cond_true, cond_false, eq_self, if_true, if_false, ite_true, ite_false] <;> rfl
              exact aw_iret C hr hlk dX5_two_103 ⟨ri (by rw [hm]), kr, ar, tk, bg, en, vl, cr, by first | (rw [hm]; done) | (rw [hm]; rfl), by rw [hm]; exact hk⟩
            · skip
              refine aw_iconst C (1 : Int32) dX5_two_77 (by decide) ?_
              refine aw_goto C 91 dX5_two_78 (by decide) ?_
              refine aw_istore C true (lv' := [(0, .ref (y 0)), (1, .int (nI (ix u))), (2, .int (nI (ix v))), (3, .int w), (4, .int (1 : Int32))]) dX5_two_91 (by decide) rfl rfl ?_
              refine aw_iload C dX5_two_93 rfl ?_
              refine aw_pc 95 rfl ?_
              refine aw_if_eq C 102 dX5_two_95 (by decide) (fun c_95 => absurd c_95 (by decide)) (fun c_95 => ?_)
              refine aw_iconst C (1 : Int32) dX5_two_98 (by decide) ?_
              refine aw_goto C 103 dX5_two_99 (by decide) ?_
              have hm : m_two (T, K, ik, F, f, n, s1, s2, s3) u v w = ((1 : Int32), (T, K, ik, F, f, n, s1, s2, s3)) := by refine Eq.trans (two_e1 c_6 c_56) ?_; simp only [mut_met, mut_kno, c_65, c_74, decide_true, decide_false, Bool.not_true, Bool.not_false, Bool.true_and, Bool.false_and, Bool.and_true, Bool.and_false, Bool.true_or, Bool.false_or, Bool.or_true, Bool.or_false, cond_true, cond_false, eq_self, if_true, if_false, ite_true, ite_false] <;> rfl
              exact aw_iret C hr hlk dX5_two_103 ⟨ri (by rw [hm]), kr, ar, tk, bg, en, vl, cr, by first | (rw [hm]; done) | (rw [hm]; rfl), by rw [hm]; exact hk⟩
      · skip
        refine aw_aload_n C dX5_two_28 rfl ?_
        refine aw_iload_n C dX5_two_29 rfl ?_
        refine aw_iload_n C dX5_two_30 rfl ?_
        refine aw_callVp C (As := [.int (nI (ix u)), .int (nI (ix v))]) (c_X5_hasMet l D cI cC adK adV y T (kr, ar, ik, F, f, n, tk, bg, en, vl, s1, s2, s3, cr) (ix u) (ix v) (by omega)) k4_150 cv_X5_hasMet 0 4 rfl rfl rfl [0, 1, 2, 3, 4, 5, 6, 7, 8, 9, 10, 11, 12] (by decide) rfl ⟨by decide, by decide⟩ rfl rfl ⟨by decide, by decide⟩ rfl rfl (Nat.le_of_ble_eq_true rfl) dX5_two_31 ?_
        refine aw_ifeq_b C 50 dX5_two_34 (by decide) (fun c_34 => ?_) (fun c_34 => ?_)
        · skip
          refine aw_iconst C (0 : Int32) dX5_two_50 (by decide) ?_
          refine aw_pc 51 rfl ?_
          refine aw_goto C 91 dX5_two_51 (by decide) ?_
          refine aw_istore C true (lv' := [(0, .ref (y 0)), (1, .int (nI (ix u))), (2, .int (nI (ix v))), (3, .int w), (4, .int (0 : Int32))]) dX5_two_91 (by decide) rfl rfl ?_
          refine aw_iload C dX5_two_93 rfl ?_
          refine aw_if_eq C 102 dX5_two_95 (by decide) (fun c_95 => ?_) (fun c_95 => absurd c_95 (by decide))
          refine aw_iconst C (0 : Int32) dX5_two_102 (by decide) ?_
          have hm : m_two (T, K, ik, F, f, n, s1, s2, s3) u v w = ((0 : Int32), (T, K, ik, F, f, n, s1, s2, s3)) := by refine Eq.trans (two_e0 c_6 c_25) ?_; simp only [mut_met, mut_kno, c_34, decide_true, decide_false, Bool.not_true, Bool.not_false, Bool.true_and, Bool.false_and, Bool.and_true, Bool.and_false, Bool.true_or, Bool.false_or, Bool.or_true, Bool.or_false, cond_true, cond_false, eq_self, if_true, if_false, ite_true, ite_false] <;> rfl
          exact aw_iret C hr hlk dX5_two_103 ⟨ri (by rw [hm]), kr, ar, tk, bg, en, vl, cr, by first | (rw [hm]; done) | (rw [hm]; rfl), by rw [hm]; exact hk⟩
        · skip
          refine aw_aload_n C dX5_two_37 rfl ?_
          refine aw_iload_n C dX5_two_38 rfl ?_
          refine aw_iload_n C dX5_two_39 rfl ?_
          refine aw_callVp C (As := [.int (nI (ix v)), .int (nI (ix u))]) (c_X5_hasMet l D cI cC adK adV y T (kr, ar, ik, F, f, n, tk, bg, en, vl, s1, s2, s3, cr) (ix v) (ix u) (by omega)) k4_150 cv_X5_hasMet 0 4 rfl rfl rfl [0, 1, 2, 3, 4, 5, 6, 7, 8, 9, 10, 11, 12] (by decide) rfl ⟨by decide, by decide⟩ rfl rfl ⟨by decide, by decide⟩ rfl rfl (Nat.le_of_ble_eq_true rfl) dX5_two_40 ?_
          refine aw_pc 43 rfl ?_
          refine aw_ifeq_b C 50 dX5_two_43 (by decide) (fun c_43 => ?_) (fun c_43 => ?_)
          · skip
            refine aw_iconst C (0 : Int32) dX5_two_50 (by decide) ?_
            refine aw_goto C 91 dX5_two_51 (by decide) ?_
            refine aw_istore C true (lv' := [(0, .ref (y 0)), (1, .int (nI (ix u))), (2, .int (nI (ix v))), (3, .int w), (4, .int (0 : Int32))]) dX5_two_91 (by decide) rfl rfl ?_
            refine aw_iload C dX5_two_93 rfl ?_
            refine aw_if_eq C 102 dX5_two_95 (by decide) (fun c_95 => ?_) (fun c_95 => absurd c_95 (by decide))
            refine aw_iconst C (0 : Int32) dX5_two_102 (by decide) ?_
            have hm : m_two (T, K, ik, F, f, n, s1, s2, s3) u v w = ((0 : Int32), (T, K, ik, F, f, n, s1, s2, s3)) := by refine Eq.trans (two_e0 c_6 c_25) ?_; simp only [mut_met, mut_kno, c_34, c_43, decide_true, decide_false, Bool.not_true, Bool.not_false, Bool.true_and, Bool.false_and, Bool.and_true, Bool.and_false, Bool.true_or, Bool.false_or, Bool.or_true, Bool.or_false, cond_true, cond_false, eq_self, if_true, if_false, ite_true, ite_false] <;> rfl
            exact aw_iret C hr hlk dX5_two_103 ⟨ri (by rw [hm]), kr, ar, tk, bg, en, vl, cr, by first | (rw [hm]; done) | (rw [hm]; rfl), by rw [hm]; exact hk⟩
          · skip
            refine aw_iconst C (1 : Int32) dX5_two_46 (by decide) ?_
            refine aw_goto C 91 dX5_two_47 (by decide) ?_
            refine aw_pc 91 rfl ?_
            refine aw_istore C true (lv' := [(0, .ref (y 0)), (1, .int (nI (ix u))), (2, .int (nI (ix v))), (3, .int w), (4, .int (1 : Int32))]) dX5_two_91 (by decide) rfl rfl ?_
            refine aw_iload C dX5_two_93 rfl ?_
            refine aw_if_eq C 102 dX5_two_95 (by decide) (fun c_95 => absurd c_95 (by decide)) (fun c_95 => ?_)
            refine aw_iconst C (1 : Int32) dX5_two_98 (by decide) ?_
            refine aw_goto C 103 dX5_two_99 (by decide) ?_
            have hm : m_two (T, K, ik, F, f, n, s1, s2, s3) u v w = ((1 : Int32), (T, K, ik, F, f, n, s1, s2, s3)) := by refine Eq.trans (two_e0 c_6 c_25) ?_; simp only [mut_met, mut_kno, c_34, c_43, decide_true, decide_false, Bool.not_true, Bool.not_false, Bool.true_and, Bool.false_and, Bool.and_true, Bool.and_false, Bool.true_or, Bool.false_or, Bool.or_true, Bool.or_false, cond_true, cond_false, eq_self, if_true, if_false, ite_true, ite_false] <;> rfl
            exact aw_iret C hr hlk dX5_two_103 ⟨ri (by rw [hm]), kr, ar, tk, bg, en, vl, cr, by first | (rw [hm]; done) | (rw [hm]; rfl), by rw [hm]; exact hk⟩
    · skip
      refine aw_aload_n C dX5_two_18 rfl ?_
      refine aw_iconst C (0 : Int32) dX5_two_19 (by decide) ?_
      refine aw_callVd C (As := [.int (0 : Int32)]) (c_X5_no l D cI cC adK adV y T (kr, ar, ik, F, f, n, tk, bg, en, vl, s1, s2, s3, cr) 0 (by decide)) k4_60 cv_X5_no 0 4 rfl rfl rfl [0, 1, 2, 3, 4, 5, 6, 7, 8, 9, 10, 11, 12] (by decide) rfl (wr := ([] : va_W)) [] rfl (by decide) (by decide) [0, 1, 2, 3, 4, 5, 6, 7, 8, 9, 10, 11, 12] (by decide) (ws' := wMo cI cC y (rowOf T) (kr, ar, ik, (upd F 0 (F 0 + 1)), f, n, tk, bg, en, vl, s1, s2, s3, cr)) rfl ⟨by decide, by decide⟩ rfl rfl ⟨by decide, by decide⟩ rfl rfl (Nat.le_of_ble_eq_true rfl) dX5_two_20 ?_
      have hm : m_two (T, K, ik, F, f, n, s1, s2, s3) u v w = ((fno 0), (T, K, ik, (upd F 0 (F 0 + 1)), f, n, s1, s2, s3)) := by exact two_eb c_15
      exact aw_iret C hr hlk dX5_two_23 ⟨ri (by rw [hm]), kr, ar, tk, bg, en, vl, cr, by first | (rw [hm]; done) | (rw [hm]; rfl), by rw [hm]; exact hk⟩
