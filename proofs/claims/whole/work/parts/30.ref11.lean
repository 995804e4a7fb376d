/-! the reference: sheets, told meetings -/
theorem tl_ix (s i : Nat) : (40 : Int32) * nI s + nI i = nI (s * 40 + i) := by
  rw [show (40 : Int32) = nI 40 from rfl, pk_mul, nI_add, Nat.mul_comm]
def wS (s1 : Nat → Int32) (s : Int32) : Int32 := bif in0 s 4 then (if s1 (ix s) = 0 then 5 else -1) else 0
def wT (T : Tw) (s1 : Nat → Int32) (s u : Int32) : Int32 := bif in0 s 4 then (if s1 (ix s) = 0 then 5 else (bif mThere T u then -1 else 0)) else 0
theorem wS_c (s1 : Nat → Int32) (s : Int32) : (in0 s 4 = false ∧ wS s1 s = 0) ∨ (in0 s 4 = true ∧ s1 (ix s) = 0 ∧ wS s1 s = 5) ∨ (in0 s 4 = true ∧ ¬ s1 (ix s) = 0 ∧ wS s1 s = -1) := by
  unfold wS
  cases h : in0 s 4 with
  | false => exact Or.inl ⟨rfl, rfl⟩
  | true =>
    by_cases q : s1 (ix s) = 0
    · exact Or.inr (Or.inl ⟨rfl, q, if_pos q⟩)
    · exact Or.inr (Or.inr ⟨rfl, q, if_neg q⟩)
theorem wT_c (T : Tw) (s1 : Nat → Int32) (s u : Int32) : (in0 s 4 = false ∧ wT T s1 s u = 0) ∨ (in0 s 4 = true ∧ s1 (ix s) = 0 ∧ wT T s1 s u = 5) ∨ (in0 s 4 = true ∧ ¬ s1 (ix s) = 0 ∧ mThere T u = false ∧ wT T s1 s u = 0) ∨ (in0 s 4 = true ∧ ¬ s1 (ix s) = 0 ∧ mThere T u = true ∧ wT T s1 s u = -1) := by
  unfold wT
  cases h : in0 s 4 with
  | false => exact Or.inl ⟨rfl, rfl⟩
  | true =>
    by_cases q : s1 (ix s) = 0
    · exact Or.inr (Or.inl ⟨rfl, q, if_pos q⟩)
    · cases h2 : mThere T u with
      | false => exact Or.inr (Or.inr (Or.inl ⟨rfl, q, rfl, if_neg q⟩))
      | true => exact Or.inr (Or.inr (Or.inr ⟨rfl, q, rfl, if_neg q⟩))
theorem fit_y {c : Nat → Bool} {n : Nat} (h : c n = true) : setBy c (n + 1) = setBy c n ||| bitOf (nI n) := by
  show (bif c n then _ else _) = _
  rw [h]
  rfl
theorem fit_n {c : Nat → Bool} {n : Nat} (h : c n = false) : setBy c (n + 1) = setBy c n ||| 0 := by
  show (bif c n then _ else _) = _
  rw [h, Int32.or_zero]
  rfl
theorem allB_le {c : Nat → Bool} {i : Nat} (h : allB c i = false) : ∀ {n : Nat}, i ≤ n → allB c n = false
  | 0, hn => by rw [show i = 0 by omega] at h; exact h
  | n + 1, hn => by
    by_cases e : i = n + 1
    · rw [← e]; exact h
    · show (allB c n && c n) = false
      rw [allB_le h (by omega)]
      rfl
theorem tok_1 {U : Tw} {p i : Nat} {g : Nat → Int32} (h : allB (tOk U p g) i = true) (e : g i = -1) : allB (tOk U p g) (i + 1) = true := by
  refine allB_s h ?_
  unfold tOk
  rw [decide_eq_true e]
  rfl
theorem tok_2 {U : Tw} {p i : Nat} {g : Nat → Int32} (h : allB (tOk U p g) i = true) (e : g i = (tDays i U).2.2.1 3 p) : allB (tOk U p g) (i + 1) = true := by
  refine allB_s h ?_
  unfold tOk
  rw [decide_eq_true (show g i = mTrait (tDays i U) p 3 from e), Bool.or_true]
theorem tok_3 {U : Tw} {p i : Nat} {g : Nat → Int32} (n1 : ¬ g i = -1) (n2 : ¬ g i = (tDays i U).2.2.1 3 p) : allB (tOk U p g) (i + 1) = false := by
  show (allB (tOk U p g) i && tOk U p g i) = false
  unfold tOk
  rw [decide_eq_false n1, decide_eq_false (show ¬ g i = mTrait (tDays i U) p 3 from n2)]
  exact Bool.and_false _

abbrev r_X5_isSheet : Room := { frames := 1, cells := 0, slots := 0, locals := 22 }
theorem cs_X5_isSheet : cS yX5_isSheet cX5_isSheet 1 (some .boolean) 1 := ⟨k5_64, k5_65, k1_6, by decide, by decide, by decide +kernel⟩
set_option maxHeartbeats 4000000 in
set_option maxRecDepth 100000 in
theorem c_X5_isSheet (l : Launch) (D : va_G) (cI cC : ClassId) (adK adV : Nat → Nat) (v : Int32) : FC l yX5_isSheet (wW yX5_isSheet cX5_isSheet 1 (some .boolean)) r_X5_isSheet D (tyC cI cC) adK adV (([] : va_W)) [.int v] 0 0 (fQ (some (.int (b2 (in0 v 4)))) (([] : va_W))) := by
  refine FC.of (own := RX5) (by decide) rfl (Nat.le_of_ble_eq_true rfl) ?_
  intro p9 e9 s9 m9 args9 below9 meth9 c9 A9 C hr hlk hmn
  show AW p9 l e9 r_X5_isSheet s9 m9 args9 below9 meth9 c9 D A9 1 0 0 _ 0 [(0, .int v)] [] _
  refine aw_iload_n C dX5_isSheet_0 rfl ?_
  refine aw_iconst C (0 : Int32) dX5_isSheet_1 (by decide) ?_
  refine aw_iconst C (3 : Int32) dX5_isSheet_2 (by decide) ?_
  refine aw_callSp C (As := [.int v, .int (0 : Int32), .int (3 : Int32)]) (c_X5_in1 l D cI cC adK adV v (0 : Int32) (3 : Int32)) k4_54 cs_X5_in1 [] (by decide) rfl ⟨by decide, by decide⟩ rfl rfl ⟨by decide, by decide⟩ rfl rfl (Nat.le_of_ble_eq_true rfl) dX5_isSheet_3 ?_
  exact aw_bret C (b := (inL v (0 : Int32) (3 : Int32))) hr hlk dX5_isSheet_6 rfl ⟨rb (by exact inL_in0 v (n := 4) (by decide) (by decide)), by rfl⟩
abbrev r_X5_wrongSheet : Room := { frames := 2, cells := 0, slots := 0, locals := 42 }
theorem cv_X5_wrongSheet : cV yX5_wrongSheet cX5_wrongSheet 2 (some .int) 1 := ⟨k5_61, k0_59, k5_62, k1_6, by decide, by decide, by decide +kernel⟩
set_option maxHeartbeats 4000000 in
set_option maxRecDepth 100000 in
theorem c_X5_wrongSheet (l : Launch) (D : va_G) (cI cC : ClassId) (adK adV : Nat → Nat) (y : Nat → Nat) (T : Tw) (X : Mr) (s : Int32) : FC l yX5_wrongSheet (wW yX5_wrongSheet cX5_wrongSheet 2 (some .int)) r_X5_wrongSheet D (tyC cI cC) adK adV (wMo cI cC y (rowOf T) X) [.ref (y 0), .int s] 0 0 (fQ (some (.int (wS X.2.2.2.2.2.2.2.2.2.2.1 s))) (wMo cI cC y (rowOf T) X)) := by
  refine FC.of (own := RX5) (by decide) rfl (Nat.le_of_ble_eq_true rfl) ?_
  intro p9 e9 s9 m9 args9 below9 meth9 c9 A9 C hr hlk hmn
  show AW p9 l e9 r_X5_wrongSheet s9 m9 args9 below9 meth9 c9 D A9 2 0 0 _ 0 [(0, .ref (y 0)), (1, .int s)] [] _
  refine aw_iload_n C dX5_wrongSheet_0 rfl ?_
  refine aw_callSp C (As := [.int s]) (c_X5_isSheet l D cI cC adK adV s) k5_63 cs_X5_isSheet [] (by decide) rfl ⟨by decide, by decide⟩ rfl rfl ⟨by decide, by decide⟩ rfl rfl (Nat.le_of_ble_eq_true rfl) dX5_wrongSheet_1 ?_
  refine aw_ifne_b C 11 dX5_wrongSheet_4 (by decide) (fun c_4 => ?_) (fun c_4 => ?_)
  · skip
    obtain ⟨es, hs⟩ := in0_ix (n := 4) (by decide) c_4
    have e1 : s = nI (ix s) := es
    refine aw_eq (lv' := [(0, .ref (y 0)), (1, .int (nI (ix s)))]) (ws' := wMo cI cC y (rowOf T) X) (by rw [← e1]) rfl rfl ?_
    refine aw_aload_n C dX5_wrongSheet_11 rfl ?_
    refine aw_getf C 0 4 14 18 inX5 rfl (by decide) rfl k4_8 rfl rfl dX5_wrongSheet_12 ?_
    refine aw_iload_n C dX5_wrongSheet_15 rfl ?_
    refine aw_ialdN C 9 0 (ix s) rfl rfl rfl (by omega) (by decide) dX5_wrongSheet_16 ?_
    refine aw_if_ne C 24 dX5_wrongSheet_17 (by decide) (fun c_17 => ?_) (fun c_17 => ?_)
    · skip
      refine aw_iconst C (-1 : Int32) dX5_wrongSheet_24 (by decide) ?_
      refine aw_pc 25 rfl ?_
      exact aw_iret C hr hlk dX5_wrongSheet_25 ⟨ri (by simp only [wS, c_4, c_17, decide_true, decide_false, Bool.not_true, Bool.not_false, Bool.true_and, Bool.false_and, Bool.and_true, Bool.and_false, Bool.true_or, Bool.false_or, Bool.or_true, Bool.or_false, cond_true, cond_false, eq_self, if_true, if_false, ite_true, ite_false] <;> first | done | rfl | (rw [if_pos c_17]) | (rw [if_neg c_17])), by rfl⟩
    · skip
      refine aw_iconst C (5 : Int32) dX5_wrongSheet_20 (by decide) ?_
      refine aw_goto C 25 dX5_wrongSheet_21 (by decide) ?_
      exact aw_iret C hr hlk dX5_wrongSheet_25 ⟨ri (by simp only [wS, c_4, c_17, decide_true, decide_false, Bool.not_true, Bool.not_false, Bool.true_and, Bool.false_and, Bool.and_true, Bool.and_false, Bool.true_or, Bool.false_or, Bool.or_true, Bool.or_false, cond_true, cond_false, eq_self, if_true, if_false, ite_true, ite_false] <;> first | done | rfl | (rw [if_pos c_17]) | (rw [if_neg c_17])), by rfl⟩
  · skip
    refine aw_iconst C (0 : Int32) dX5_wrongSheet_7 (by decide) ?_
    refine aw_goto C 25 dX5_wrongSheet_8 (by decide) ?_
    exact aw_iret C hr hlk dX5_wrongSheet_25 ⟨ri (by simp only [wS, c_4, decide_true, decide_false, Bool.not_true, Bool.not_false, Bool.true_and, Bool.false_and, Bool.and_true, Bool.and_false, Bool.true_or, Bool.false_or, Bool.or_true, Bool.or_false, cond_true, cond_false, eq_self, if_true, if_false, ite_true, ite_false] <;> first | done | rfl | (rw [if_pos c_17]) | (rw [if_neg c_17])), by rfl⟩
abbrev r_X5_wrongTold : Room := { frames := 3, cells := 0, slots := 0, locals := 63 }
theorem cv_X5_wrongTold : cV yX5_wrongTold cX5_wrongTold 4 (some .int) 2 := ⟨k5_57, k0_58, k5_58, k1_6, by decide, by decide, by decide +kernel⟩
set_option maxHeartbeats 4000000 in
set_option maxRecDepth 100000 in
theorem c_X5_wrongTold (l : Launch) (D : va_G) (cI cC : ClassId) (adK adV : Nat → Nat) (y : Nat → Nat) (T : Tw) (X : Mr) (s : Int32) (u : Int32) (hn : T.1 ≤ 8) : FC l yX5_wrongTold (wW yX5_wrongTold cX5_wrongTold 4 (some .int)) r_X5_wrongTold D (tyC cI cC) adK adV (wMo cI cC y (rowOf T) X) [.ref (y 0), .int s, .int u] 0 0 (fQ (some (.int (wT T X.2.2.2.2.2.2.2.2.2.2.1 s u))) (wMo cI cC y (rowOf T) X)) := by
  refine FC.of (own := RX5) (by decide) rfl (Nat.le_of_ble_eq_true rfl) ?_
  intro p9 e9 s9 m9 args9 below9 meth9 c9 A9 C hr hlk hmn
  show AW p9 l e9 r_X5_wrongTold s9 m9 args9 below9 meth9 c9 D A9 4 0 0 _ 0 [(0, .ref (y 0)), (1, .int s), (2, .int u)] [] _
  refine aw_aload_n C dX5_wrongTold_0 rfl ?_
  refine aw_iload_n C dX5_wrongTold_1 rfl ?_
  refine aw_callVp C (As := [.int s]) (c_X5_wrongSheet l D cI cC adK adV y T X s) k5_59 cv_X5_wrongSheet 0 4 rfl rfl rfl [0, 1, 2, 3, 4, 5, 6, 7, 8, 9, 10, 11, 12] (by decide) rfl ⟨by decide, by decide⟩ rfl rfl ⟨by decide, by decide⟩ rfl rfl (Nat.le_of_ble_eq_true rfl) dX5_wrongTold_2 ?_
  rcases wS_c X.2.2.2.2.2.2.2.2.2.2.1 s with ⟨wq1, ew⟩ | ⟨wq1, wq2, ew⟩ | ⟨wq1, wq2, ew⟩
  · skip
    refine aw_top (y := (0 : Int32)) (by exact ew) ?_
    refine aw_istore_n C true (lv' := [(0, .ref (y 0)), (1, .int s), (2, .int u), (3, .int (0 : Int32))]) dX5_wrongTold_5 (by decide) rfl rfl ?_
    refine aw_iload_n C dX5_wrongTold_6 rfl ?_
    refine aw_if_lt C 14 dX5_wrongTold_7 (by decide) (fun c_7 => absurd c_7 (by decide)) (fun c_7 => ?_)
    refine aw_iload_n C dX5_wrongTold_10 rfl ?_
    refine aw_goto C 27 dX5_wrongTold_11 (by decide) ?_
    refine aw_pc 27 rfl ?_
    exact aw_iret C hr hlk dX5_wrongTold_27 ⟨ri (by simp only [wT, wq1, decide_true, decide_false, Bool.not_true, Bool.not_false, Bool.true_and, Bool.false_and, Bool.and_true, Bool.and_false, Bool.true_or, Bool.false_or, Bool.or_true, Bool.or_false, cond_true, cond_false, eq_self, if_true, if_false, ite_true, ite_false] <;> first | done | rfl | (rw [if_pos wq2]) | (rw [if_neg wq2])), by rfl⟩
  · skip
    refine aw_top (y := (5 : Int32)) (by exact ew) ?_
    refine aw_istore_n C true (lv' := [(0, .ref (y 0)), (1, .int s), (2, .int u), (3, .int (5 : Int32))]) dX5_wrongTold_5 (by decide) rfl rfl ?_
    refine aw_iload_n C dX5_wrongTold_6 rfl ?_
    refine aw_if_lt C 14 dX5_wrongTold_7 (by decide) (fun c_7 => absurd c_7 (by decide)) (fun c_7 => ?_)
    refine aw_iload_n C dX5_wrongTold_10 rfl ?_
    refine aw_goto C 27 dX5_wrongTold_11 (by decide) ?_
    exact aw_iret C hr hlk dX5_wrongTold_27 ⟨ri (by simp only [wT, wq1, wq2, decide_true, decide_false, Bool.not_true, Bool.not_false, Bool.true_and, Bool.false_and, Bool.and_true, Bool.and_false, Bool.true_or, Bool.false_or, Bool.or_true, Bool.or_false, cond_true, cond_false, eq_self, if_true, if_false, ite_true, ite_false] <;> first | done | rfl | (rw [if_pos wq2]) | (rw [if_neg wq2])), by rfl⟩
  · skip
    refine aw_top (y := (-1 : Int32)) (by exact ew) ?_
    obtain ⟨es, hs⟩ := in0_ix (n := 4) (by decide) wq1
    refine aw_eq (lv' := [(0, .ref (y 0)), (1, .int (nI (ix s))), (2, .int u)]) (ws' := wMo cI cC y (rowOf T) X) (by rw [← es]) rfl rfl ?_
    refine aw_istore_n C true (lv' := [(0, .ref (y 0)), (1, .int (nI (ix s))), (2, .int u), (3, .int (-1 : Int32))]) dX5_wrongTold_5 (by decide) rfl rfl ?_
    refine aw_iload_n C dX5_wrongTold_6 rfl ?_
    refine aw_if_lt C 14 dX5_wrongTold_7 (by decide) (fun c_7 => ?_) (fun c_7 => absurd c_7 (by decide))
    refine aw_pc 14 rfl ?_
    refine aw_aload_n C dX5_wrongTold_14 rfl ?_
    refine aw_iload_n C dX5_wrongTold_15 rfl ?_
    refine aw_callVp C (As := [.int u]) (c_X5_isPerson l D cI cC adK adV y T X u hn) k4_77 cv_X5_isPerson 0 4 rfl rfl rfl [0, 1, 2, 3, 4, 5, 6, 7, 8, 9, 10, 11, 12] (by decide) rfl ⟨by decide, by decide⟩ rfl rfl ⟨by decide, by decide⟩ rfl rfl (Nat.le_of_ble_eq_true rfl) dX5_wrongTold_16 ?_
    refine aw_ifeq_b C 26 dX5_wrongTold_19 (by decide) (fun c_19 => ?_) (fun c_19 => ?_)
    · skip
      refine aw_iconst C (0 : Int32) dX5_wrongTold_26 (by decide) ?_
      exact aw_iret C hr hlk dX5_wrongTold_27 ⟨ri (by simp only [wT, wq1, wq2, c_19, decide_true, decide_false, Bool.not_true, Bool.not_false, Bool.true_and, Bool.false_and, Bool.and_true, Bool.and_false, Bool.true_or, Bool.false_or, Bool.or_true, Bool.or_false, cond_true, cond_false, eq_self, if_true, if_false, ite_true, ite_false] <;> first | done | rfl | (rw [if_pos wq2]) | (rw [if_neg wq2])), by rfl⟩
    · skip
      refine aw_iconst C (-1 : Int32) dX5_wrongTold_22 (by decide) ?_
      refine aw_goto C 27 dX5_wrongTold_23 (by decide) ?_
      exact aw_iret C hr hlk dX5_wrongTold_27 ⟨ri (by simp only [wT, wq1, wq2, c_19, decide_true, decide_false, Bool.not_true, Bool.not_false, Bool.true_and, Bool.false_and, Bool.and_true, Bool.and_false, Bool.true_or, Bool.false_or, Bool.or_true, Bool.or_false, cond_true, cond_false, eq_self, if_true, if_false, ite_true, ite_false] <;> first | done | rfl | (rw [if_pos wq2]) | (rw [if_neg wq2])), by rfl⟩
abbrev r_X5_told : Room := { frames := 0, cells := 0, slots := 0, locals := 0 }
theorem cv_X5_told : cV yX5_told cX5_told 3 (some .int) 2 := ⟨k5_72, k0_61, k5_73, k1_6, by decide, by decide, by decide +kernel⟩
set_option maxHeartbeats 4000000 in
set_option maxRecDepth 100000 in
theorem c_X5_told (l : Launch) (D : va_G) (cI cC : ClassId) (adK adV : Nat → Nat) (y : Nat → Nat) (T : Tw) (X : Mr) (s : Nat) (i : Nat) (hs : s < 4) (hi : i < 40) : FC l yX5_told (wW yX5_told cX5_told 3 (some .int)) r_X5_told D (tyC cI cC) adK adV (wMo cI cC y (rowOf T) X) [.ref (y 0), .int (nI s), .int (nI i)] 0 0 (fQ (some (.int (X.2.2.2.2.2.2.2.2.2.2.2.2.1 (s * 40 + i)))) (wMo cI cC y (rowOf T) X)) := by
  refine FC.of (own := RX5) (by decide) rfl (Nat.le_of_ble_eq_true rfl) ?_
  intro p9 e9 s9 m9 args9 below9 meth9 c9 A9 C hr hlk hmn
  show AW p9 l e9 r_X5_told s9 m9 args9 below9 meth9 c9 D A9 3 0 0 _ 0 [(0, .ref (y 0)), (1, .int (nI s)), (2, .int (nI i))] [] _
  refine aw_aload_n C dX5_told_0 rfl ?_
  refine aw_getf C 0 4 16 18 inX5 rfl (by decide) rfl k4_10 rfl rfl dX5_told_1 ?_
  refine aw_bipush C (40 : Int32) dX5_told_4 (by decide) ?_
  refine aw_iload_n C dX5_told_6 rfl ?_
  refine aw_imul C dX5_told_7 ?_
  refine aw_iload_n C dX5_told_8 rfl ?_
  refine aw_iadd C dX5_told_9 ?_
  refine aw_ialdN C 11 0 (s * 40 + i) rfl rfl (tl_ix s i) (by omega) (by decide) dX5_told_10 ?_
  exact aw_iret C hr hlk dX5_told_11 ⟨ri (by first | rfl | (simp only [])), by rfl⟩
abbrev r_X5_allThatFit : Room := { frames := 5, cells := 0, slots := 0, locals := 112 }
theorem cv_X5_allThatFit : cV yX5_allThatFit cX5_allThatFit 9 (some .int) 4 := ⟨k5_68, k0_60, k5_69, k1_6, by decide, by decide, by decide +kernel⟩
set_option maxHeartbeats 4000000 in
set_option maxRecDepth 100000 in
theorem c_X5_allThatFit (l : Launch) (D : va_G) (cI cC : ClassId) (adK adV : Nat → Nat) (y : Nat → Nat) (T : Tw) (X : Mr) (s : Nat) (p : Nat) (fd : Nat) (m : Nat) (ho : gOk T) (hs : s < 4) (hp : p < T.1) (hf : fd < 7) (hm : m ≤ lim fd) (hm2 : m < 100) (hS : sOk X.2.2.2.2.2.2.2.2.2.2.2.1) : FC l yX5_allThatFit (wW yX5_allThatFit cX5_allThatFit 9 (some .int)) r_X5_allThatFit D (tyC cI cC) adK adV (wMo cI cC y (rowOf T) X) [.ref (y 0), .int (nI s), .int (nI p), .int (nI fd), .int (nI m)] 0 0 (fQ (some (.int (mFit T p (nI fd) (fun y9 => X.2.2.2.2.2.2.2.2.2.2.2.2.1 (s * 40 + y9)) (ix (X.2.2.2.2.2.2.2.2.2.2.2.1 s)) m))) (wMo cI cC y (rowOf T) (X.1, (ar0 X.2.1 (rowOf T) m), X.2.2.1, X.2.2.2.1, X.2.2.2.2.1, X.2.2.2.2.2.1, X.2.2.2.2.2.2.1, X.2.2.2.2.2.2.2.1, X.2.2.2.2.2.2.2.2.1, X.2.2.2.2.2.2.2.2.2.1, X.2.2.2.2.2.2.2.2.2.2.1, X.2.2.2.2.2.2.2.2.2.2.2.1, X.2.2.2.2.2.2.2.2.2.2.2.2.1, X.2.2.2.2.2.2.2.2.2.2.2.2.2))) := by
  refine FC.of (own := RX5) (by decide) rfl (Nat.le_of_ble_eq_true rfl) ?_
  intro p9 e9 s9 m9 args9 below9 meth9 c9 A9 C hr hlk hmn
  show AW p9 l e9 r_X5_allThatFit s9 m9 args9 below9 meth9 c9 D A9 9 0 0 _ 0 [(0, .ref (y 0)), (1, .int (nI s)), (2, .int (nI p)), (3, .int (nI fd)), (4, .int (nI m))] [] _
  have hn := ho.n
  obtain ⟨len, hl, el⟩ := hS s hs
  have exl : ix (X.2.2.2.2.2.2.2.2.2.2.2.1 s) = len := by rw [el, ix_nI (by omega)]
  refine aw_iconst C (0 : Int32) dX5_allThatFit_0 (by decide) ?_
  refine aw_istore C true (lv' := [(0, .ref (y 0)), (1, .int (nI s)), (2, .int (nI p)), (3, .int (nI fd)), (4, .int (nI m)), (5, .int (0 : Int32))]) dX5_allThatFit_1 (by decide) rfl rfl ?_
  refine aw_iconst C (0 : Int32) dX5_allThatFit_3 (by decide) ?_
  refine aw_istore C true (lv' := [(0, .ref (y 0)), (1, .int (nI s)), (2, .int (nI p)), (3, .int (nI fd)), (4, .int (nI m)), (5, .int (0 : Int32)), (6, .int (0 : Int32))]) dX5_allThatFit_4 (by decide) rfl rfl ?_
  refine aw_eq (lv' := [(0, .ref (y 0)), (1, .int (nI s)), (2, .int (nI p)), (3, .int (nI fd)), (4, .int (nI m)), (5, .int (setBy (fun v => mTells (mPut T p (nI fd) (nI v)) p (fun y9 => X.2.2.2.2.2.2.2.2.2.2.2.2.1 (s * 40 + y9)) (ix (X.2.2.2.2.2.2.2.2.2.2.2.1 s))) 0)), (6, .int (nI 0))]) (ws' := wMo cI cC y (rowOf T) (X.1, (ar0 X.2.1 (rowOf T) 0), X.2.2.1, X.2.2.2.1, X.2.2.2.2.1, X.2.2.2.2.2.1, X.2.2.2.2.2.2.1, X.2.2.2.2.2.2.2.1, X.2.2.2.2.2.2.2.2.1, X.2.2.2.2.2.2.2.2.2.1, X.2.2.2.2.2.2.2.2.2.2.1, X.2.2.2.2.2.2.2.2.2.2.2.1, X.2.2.2.2.2.2.2.2.2.2.2.2.1, X.2.2.2.2.2.2.2.2.2.2.2.2.2)) (by first | rfl | (simp only [itr])) rfl (by rfl) ?_
  refine aw_loop (LV := fun v0 => [(0, .ref (y 0)), (1, .int (nI s)), (2, .int (nI p)), (3, .int (nI fd)), (4, .int (nI m)), (5, .int (setBy (fun v => mTells (mPut T p (nI fd) (nI v)) p (fun y9 => X.2.2.2.2.2.2.2.2.2.2.2.2.1 (s * 40 + y9)) (ix (X.2.2.2.2.2.2.2.2.2.2.2.1 s))) v0)), (6, .int (nI v0))]) (WS := fun v0 => wMo cI cC y (rowOf T) (X.1, (ar0 X.2.1 (rowOf T) v0), X.2.2.1, X.2.2.2.1, X.2.2.2.2.1, X.2.2.2.2.2.1, X.2.2.2.2.2.2.1, X.2.2.2.2.2.2.2.1, X.2.2.2.2.2.2.2.2.1, X.2.2.2.2.2.2.2.2.2.1, X.2.2.2.2.2.2.2.2.2.2.1, X.2.2.2.2.2.2.2.2.2.2.2.1, X.2.2.2.2.2.2.2.2.2.2.2.2.1, X.2.2.2.2.2.2.2.2.2.2.2.2.2)) m (Inv := fun _ => True) trivial ?_ ?_
  · intro hv6
    refine aw_iload C dX5_allThatFit_6 rfl ?_
    refine aw_iload C dX5_allThatFit_8 rfl ?_
    refine aw_icmp_ge C 119 dX5_allThatFit_10 (by decide) (fun c_10 => ?_) (fun c_10 => absurd c_10 (fun z => z (Int32.le_refl _)))
    refine aw_iload C dX5_allThatFit_119 rfl ?_
    exact aw_iret C hr hlk dX5_allThatFit_121 ⟨ri (by first | rfl | (simp only [])), by rfl⟩
  · intro v0 hi6 hv6 ih6
    have hU := gOk_P ho hf hp (rg_c v0 (by omega))
    refine aw_pc 6 rfl ?_
    refine aw_iload C dX5_allThatFit_6 rfl ?_
    refine aw_iload C dX5_allThatFit_8 rfl ?_
    refine aw_icmp_ge C 119 dX5_allThatFit_10 (by decide) (fun c_10 => absurd c_10 (nI_ge hi6 (by omega))) (fun c_10 => ?_)
    refine aw_aload_n C dX5_allThatFit_13 rfl ?_
    refine aw_callVdv C (As := []) (c_X5_setsAside l D cI cC adK adV y T (X.1, (ar0 X.2.1 (rowOf T) v0), X.2.2.1, X.2.2.2.1, X.2.2.2.2.1, X.2.2.2.2.2.1, X.2.2.2.2.2.2.1, X.2.2.2.2.2.2.2.1, X.2.2.2.2.2.2.2.2.1, X.2.2.2.2.2.2.2.2.2.1, X.2.2.2.2.2.2.2.2.2.2.1, X.2.2.2.2.2.2.2.2.2.2.2.1, X.2.2.2.2.2.2.2.2.2.2.2.2.1, X.2.2.2.2.2.2.2.2.2.2.2.2.2) ) k4_223 cv_X5_setsAside 0 4 rfl rfl rfl [0, 1, 2, 3, 4, 5, 6, 7, 8, 9, 10, 11, 12] (by decide) rfl (wr := ([] : va_W)) [] rfl (by decide) (by decide) [0, 1, 2, 3, 4, 5, 6, 7, 8, 9, 10, 11, 12] (by decide) (ws' := wMo cI cC y (rowOf T) (X.1, (rowOf T), X.2.2.1, X.2.2.2.1, X.2.2.2.2.1, X.2.2.2.2.2.1, X.2.2.2.2.2.2.1, X.2.2.2.2.2.2.2.1, X.2.2.2.2.2.2.2.2.1, X.2.2.2.2.2.2.2.2.2.1, X.2.2.2.2.2.2.2.2.2.2.1, X.2.2.2.2.2.2.2.2.2.2.2.1, X.2.2.2.2.2.2.2.2.2.2.2.2.1, X.2.2.2.2.2.2.2.2.2.2.2.2.2)) rfl ⟨by decide, by decide⟩ rfl rfl ⟨by decide, by decide⟩ rfl rfl (Nat.le_of_ble_eq_true rfl) dX5_allThatFit_14 ?_
    refine aw_aload_n C dX5_allThatFit_17 rfl ?_
    refine aw_iload_n C dX5_allThatFit_18 rfl ?_
    refine aw_iload_n C dX5_allThatFit_19 rfl ?_
    refine aw_iload C dX5_allThatFit_20 rfl ?_
    refine aw_callVdv C (As := [.int (nI p), .int (nI fd), .int (nI v0)]) (c_X5_puts l D cI cC adK adV y T (X.1, (rowOf T), X.2.2.1, X.2.2.2.1, X.2.2.2.2.1, X.2.2.2.2.2.1, X.2.2.2.2.2.2.1, X.2.2.2.2.2.2.2.1, X.2.2.2.2.2.2.2.2.1, X.2.2.2.2.2.2.2.2.2.1, X.2.2.2.2.2.2.2.2.2.2.1, X.2.2.2.2.2.2.2.2.2.2.2.1, X.2.2.2.2.2.2.2.2.2.2.2.2.1, X.2.2.2.2.2.2.2.2.2.2.2.2.2) p fd (nI v0) (by omega) hf) k4_69 cv_X5_puts 0 4 rfl rfl rfl [0, 1, 2, 3, 4, 5, 6, 7, 8, 9, 10, 11, 12] (by decide) rfl (wr := ([] : va_W)) [] rfl (by decide) (by decide) [0, 1, 2, 3, 4, 5, 6, 7, 8, 9, 10, 11, 12] (by decide) (ws' := wMo cI cC y (rowOf (sP T fd p (nI v0))) (X.1, (rowOf T), X.2.2.1, X.2.2.2.1, X.2.2.2.2.1, X.2.2.2.2.2.1, X.2.2.2.2.2.2.1, X.2.2.2.2.2.2.2.1, X.2.2.2.2.2.2.2.2.1, X.2.2.2.2.2.2.2.2.2.1, X.2.2.2.2.2.2.2.2.2.2.1, X.2.2.2.2.2.2.2.2.2.2.2.1, X.2.2.2.2.2.2.2.2.2.2.2.2.1, X.2.2.2.2.2.2.2.2.2.2.2.2.2)) rfl ⟨by decide, by decide⟩ rfl rfl ⟨by decide, by decide⟩ rfl rfl (Nat.le_of_ble_eq_true rfl) dX5_allThatFit_22 ?_
    refine aw_pc 25 rfl ?_
    refine aw_iconst C (1 : Int32) dX5_allThatFit_25 (by decide) ?_
    refine aw_istore C true (lv' := [(0, .ref (y 0)), (1, .int (nI s)), (2, .int (nI p)), (3, .int (nI fd)), (4, .int (nI m)), (5, .int (setBy (fun v => mTells (mPut T p (nI fd) (nI v)) p (fun y9 => X.2.2.2.2.2.2.2.2.2.2.2.2.1 (s * 40 + y9)) (ix (X.2.2.2.2.2.2.2.2.2.2.2.1 s))) v0)), (6, .int (nI v0)), (7, .int (1 : Int32))]) dX5_allThatFit_26 (by decide) rfl rfl ?_
    refine aw_iconst C (0 : Int32) dX5_allThatFit_28 (by decide) ?_
    refine aw_istore C true (lv' := [(0, .ref (y 0)), (1, .int (nI s)), (2, .int (nI p)), (3, .int (nI fd)), (4, .int (nI m)), (5, .int (setBy (fun v => mTells (mPut T p (nI fd) (nI v)) p (fun y9 => X.2.2.2.2.2.2.2.2.2.2.2.2.1 (s * 40 + y9)) (ix (X.2.2.2.2.2.2.2.2.2.2.2.1 s))) v0)), (6, .int (nI v0)), (7, .int (1 : Int32)), (8, .int (0 : Int32))]) dX5_allThatFit_29 (by decide) rfl rfl ?_
    refine aw_eq (lv' := [(0, .ref (y 0)), (1, .int (nI s)), (2, .int (nI p)), (3, .int (nI fd)), (4, .int (nI m)), (5, .int (setBy (fun v => mTells (mPut T p (nI fd) (nI v)) p (fun y9 => X.2.2.2.2.2.2.2.2.2.2.2.2.1 (s * 40 + y9)) (ix (X.2.2.2.2.2.2.2.2.2.2.2.1 s))) v0)), (6, .int (nI v0)), (7, .int (b2 (allB (tOk (sP T fd p (nI v0)) p (fun y9 => X.2.2.2.2.2.2.2.2.2.2.2.2.1 (s * 40 + y9))) 0))), (8, .int (nI 0))]) (ws' := wMo cI cC y (rowOf (tDays 0 (sP T fd p (nI v0)))) (X.1, (rowOf T), X.2.2.1, X.2.2.2.1, X.2.2.2.2.1, X.2.2.2.2.2.1, X.2.2.2.2.2.2.1, X.2.2.2.2.2.2.2.1, X.2.2.2.2.2.2.2.2.1, X.2.2.2.2.2.2.2.2.2.1, X.2.2.2.2.2.2.2.2.2.2.1, X.2.2.2.2.2.2.2.2.2.2.2.1, X.2.2.2.2.2.2.2.2.2.2.2.2.1, X.2.2.2.2.2.2.2.2.2.2.2.2.2)) (by first | rfl | (simp only [itr])) rfl (by rfl) ?_
    refine aw_loop (LV := fun i => [(0, .ref (y 0)), (1, .int (nI s)), (2, .int (nI p)), (3, .int (nI fd)), (4, .int (nI m)), (5, .int (setBy (fun v => mTells (mPut T p (nI fd) (nI v)) p (fun y9 => X.2.2.2.2.2.2.2.2.2.2.2.2.1 (s * 40 + y9)) (ix (X.2.2.2.2.2.2.2.2.2.2.2.1 s))) v0)), (6, .int (nI v0)), (7, .int (b2 (allB (tOk (sP T fd p (nI v0)) p (fun y9 => X.2.2.2.2.2.2.2.2.2.2.2.2.1 (s * 40 + y9))) i))), (8, .int (nI i))]) (WS := fun i => wMo cI cC y (rowOf (tDays i (sP T fd p (nI v0)))) (X.1, (rowOf T), X.2.2.1, X.2.2.2.1, X.2.2.2.2.1, X.2.2.2.2.2.1, X.2.2.2.2.2.2.1, X.2.2.2.2.2.2.2.1, X.2.2.2.2.2.2.2.2.1, X.2.2.2.2.2.2.2.2.2.1, X.2.2.2.2.2.2.2.2.2.2.1, X.2.2.2.2.2.2.2.2.2.2.2.1, X.2.2.2.2.2.2.2.2.2.2.2.2.1, X.2.2.2.2.2.2.2.2.2.2.2.2.2)) len (Inv := fun _ => True) trivial ?_ ?_
    · intro hv31
      refine aw_iload C dX5_allThatFit_31 rfl ?_
      refine aw_aload_n C dX5_allThatFit_33 rfl ?_
      refine aw_getf C 0 4 15 18 inX5 rfl (by decide) rfl k4_9 rfl rfl dX5_allThatFit_34 ?_
      refine aw_iload_n C dX5_allThatFit_37 rfl ?_
      refine aw_ialdN C 10 0 s rfl rfl rfl (by omega) (by decide) dX5_allThatFit_38 ?_
      refine aw_top (y := (nI len)) (by exact el) ?_
      refine aw_icmp_ge C 91 dX5_allThatFit_39 (by decide) (fun c_39 => ?_) (fun c_39 => absurd c_39 (fun z => z (Int32.le_refl _)))
      refine aw_pc 91 rfl ?_
      refine aw_aload_n C dX5_allThatFit_91 rfl ?_
      refine aw_callVdv C (As := []) (c_X5_laysBack l D cI cC adK adV y (tDays len (sP T fd p (nI v0))) (X.1, (rowOf T), X.2.2.1, X.2.2.2.1, X.2.2.2.2.1, X.2.2.2.2.2.1, X.2.2.2.2.2.2.1, X.2.2.2.2.2.2.2.1, X.2.2.2.2.2.2.2.2.1, X.2.2.2.2.2.2.2.2.2.1, X.2.2.2.2.2.2.2.2.2.2.1, X.2.2.2.2.2.2.2.2.2.2.2.1, X.2.2.2.2.2.2.2.2.2.2.2.2.1, X.2.2.2.2.2.2.2.2.2.2.2.2.2) ) k4_227 cv_X5_laysBack 0 4 rfl rfl rfl [0, 1, 2, 3, 4, 5, 6, 7, 8, 9, 10, 11, 12] (by decide) rfl (wr := ([] : va_W)) [] rfl (by decide) (by decide) [0, 1, 2, 3, 4, 5, 6, 7, 8, 9, 10, 11, 12] (by decide) (ws' := wMo cI cC y (rowOf T) (X.1, (rowOf T), X.2.2.1, X.2.2.2.1, X.2.2.2.2.1, X.2.2.2.2.2.1, X.2.2.2.2.2.2.1, X.2.2.2.2.2.2.2.1, X.2.2.2.2.2.2.2.2.1, X.2.2.2.2.2.2.2.2.2.1, X.2.2.2.2.2.2.2.2.2.2.1, X.2.2.2.2.2.2.2.2.2.2.2.1, X.2.2.2.2.2.2.2.2.2.2.2.2.1, X.2.2.2.2.2.2.2.2.2.2.2.2.2)) rfl ⟨by decide, by decide⟩ rfl rfl ⟨by decide, by decide⟩ rfl rfl (Nat.le_of_ble_eq_true rfl) dX5_allThatFit_92 ?_
      refine aw_iload C dX5_allThatFit_95 rfl ?_
      refine aw_iload C dX5_allThatFit_97 rfl ?_
      refine aw_ifeq_b C 109 dX5_allThatFit_99 (by decide) (fun c_99 => ?_) (fun c_99 => ?_)
      · skip
        refine aw_iconst C (0 : Int32) dX5_allThatFit_109 (by decide) ?_
        refine aw_ior C dX5_allThatFit_110 ?_
        refine aw_istore C false (lv' := [(0, .ref (y 0)), (1, .int (nI s)), (2, .int (nI p)), (3, .int (nI fd)), (4, .int (nI m)), (5, .int ((setBy (fun v => mTells (mPut T p (nI fd) (nI v)) p (fun y9 => X.2.2.2.2.2.2.2.2.2.2.2.2.1 (s * 40 + y9)) (ix (X.2.2.2.2.2.2.2.2.2.2.2.1 s))) v0) ||| (0 : Int32))), (6, .int (nI v0)), (7, .int (b2 (allB (tOk (sP T fd p (nI v0)) p (fun y9 => X.2.2.2.2.2.2.2.2.2.2.2.2.1 (s * 40 + y9))) len))), (8, .int (nI len))]) dX5_allThatFit_111 (by decide) rfl rfl ?_
        refine aw_iinc C (nI (v0 + 1)) dX5_allThatFit_113 rfl (inc_nI _ 1) (by decide) rfl (lv' := [(0, .ref (y 0)), (1, .int (nI s)), (2, .int (nI p)), (3, .int (nI fd)), (4, .int (nI m)), (5, .int ((setBy (fun v => mTells (mPut T p (nI fd) (nI v)) p (fun y9 => X.2.2.2.2.2.2.2.2.2.2.2.2.1 (s * 40 + y9)) (ix (X.2.2.2.2.2.2.2.2.2.2.2.1 s))) v0) ||| (0 : Int32))), (6, .int (nI (v0 + 1))), (7, .int (b2 (allB (tOk (sP T fd p (nI v0)) p (fun y9 => X.2.2.2.2.2.2.2.2.2.2.2.2.1 (s * 40 + y9))) len))), (8, .int (nI len))]) rfl ?_
        refine aw_goto C 6 dX5_allThatFit_116 (by decide) ?_
        refine aw_sub (lv' := [(0, .ref (y 0)), (1, .int (nI s)), (2, .int (nI p)), (3, .int (nI fd)), (4, .int (nI m)), (5, .int ((setBy (fun v => mTells (mPut T p (nI fd) (nI v)) p (fun y9 => X.2.2.2.2.2.2.2.2.2.2.2.2.1 (s * 40 + y9)) (ix (X.2.2.2.2.2.2.2.2.2.2.2.1 s))) v0) ||| (0 : Int32))), (6, .int (nI (v0 + 1)))]) [0, 1, 2, 3, 4, 5, 6] rfl ?_
        exact aw_eq (by first | (rw [fit_n (c := (fun v => mTells (mPut T p (nI fd) (nI v)) p (fun y9 => X.2.2.2.2.2.2.2.2.2.2.2.2.1 (s * 40 + y9)) (ix (X.2.2.2.2.2.2.2.2.2.2.2.1 s)))) (by show mTells (mPut T p (nI fd) (nI v0)) p (fun y9 => X.2.2.2.2.2.2.2.2.2.2.2.2.1 (s * 40 + y9)) (ix (X.2.2.2.2.2.2.2.2.2.2.2.1 s)) = _; rw [put_nI _ _ _ _ hf, exl]; exact allB_le c_44 (by omega))]) | (rw [fit_n (c := (fun v => mTells (mPut T p (nI fd) (nI v)) p (fun y9 => X.2.2.2.2.2.2.2.2.2.2.2.2.1 (s * 40 + y9)) (ix (X.2.2.2.2.2.2.2.2.2.2.2.1 s)))) (by show mTells (mPut T p (nI fd) (nI v0)) p (fun y9 => X.2.2.2.2.2.2.2.2.2.2.2.2.1 (s * 40 + y9)) (ix (X.2.2.2.2.2.2.2.2.2.2.2.1 s)) = _; rw [put_nI _ _ _ _ hf, exl]; exact c_99)]) | (rw [fit_y (c := (fun v => mTells (mPut T p (nI fd) (nI v)) p (fun y9 => X.2.2.2.2.2.2.2.2.2.2.2.2.1 (s * 40 + y9)) (ix (X.2.2.2.2.2.2.2.2.2.2.2.1 s)))) (by show mTells (mPut T p (nI fd) (nI v0)) p (fun y9 => X.2.2.2.2.2.2.2.2.2.2.2.2.1 (s * 40 + y9)) (ix (X.2.2.2.2.2.2.2.2.2.2.2.1 s)) = _; rw [put_nI _ _ _ _ hf, exl]; exact c_99)] <;> rfl)) rfl (by rfl) (ih6 trivial)
      · skip
        refine aw_pc 102 rfl ?_
        refine aw_iconst C (1 : Int32) dX5_allThatFit_102 (by decide) ?_
        refine aw_iload C dX5_allThatFit_103 rfl ?_
        refine aw_ishl C dX5_allThatFit_105 ?_
        refine aw_goto C 110 dX5_allThatFit_106 (by decide) ?_
        refine aw_ior C dX5_allThatFit_110 ?_
        refine aw_istore C false (lv' := [(0, .ref (y 0)), (1, .int (nI s)), (2, .int (nI p)), (3, .int (nI fd)), (4, .int (nI m)), (5, .int ((setBy (fun v => mTells (mPut T p (nI fd) (nI v)) p (fun y9 => X.2.2.2.2.2.2.2.2.2.2.2.2.1 (s * 40 + y9)) (ix (X.2.2.2.2.2.2.2.2.2.2.2.1 s))) v0) ||| ((1 : Int32) <<< ((nI v0) &&& 31)))), (6, .int (nI v0)), (7, .int (b2 (allB (tOk (sP T fd p (nI v0)) p (fun y9 => X.2.2.2.2.2.2.2.2.2.2.2.2.1 (s * 40 + y9))) len))), (8, .int (nI len))]) dX5_allThatFit_111 (by decide) rfl rfl ?_
        refine aw_iinc C (nI (v0 + 1)) dX5_allThatFit_113 rfl (inc_nI _ 1) (by decide) rfl (lv' := [(0, .ref (y 0)), (1, .int (nI s)), (2, .int (nI p)), (3, .int (nI fd)), (4, .int (nI m)), (5, .int ((setBy (fun v => mTells (mPut T p (nI fd) (nI v)) p (fun y9 => X.2.2.2.2.2.2.2.2.2.2.2.2.1 (s * 40 + y9)) (ix (X.2.2.2.2.2.2.2.2.2.2.2.1 s))) v0) ||| ((1 : Int32) <<< ((nI v0) &&& 31)))), (6, .int (nI (v0 + 1))), (7, .int (b2 (allB (tOk (sP T fd p (nI v0)) p (fun y9 => X.2.2.2.2.2.2.2.2.2.2.2.2.1 (s * 40 + y9))) len))), (8, .int (nI len))]) rfl ?_
        refine aw_goto C 6 dX5_allThatFit_116 (by decide) ?_
        refine aw_sub (lv' := [(0, .ref (y 0)), (1, .int (nI s)), (2, .int (nI p)), (3, .int (nI fd)), (4, .int (nI m)), (5, .int ((setBy (fun v => mTells (mPut T p (nI fd) (nI v)) p (fun y9 => X.2.2.2.2.2.2.2.2.2.2.2.2.1 (s * 40 + y9)) (ix (X.2.2.2.2.2.2.2.2.2.2.2.1 s))) v0) ||| ((1 : Int32) <<< ((nI v0) &&& 31)))), (6, .int (nI (v0 + 1)))]) [0, 1, 2, 3, 4, 5, 6] rfl ?_
        exact aw_eq (by first | (rw [fit_n (c := (fun v => mTells (mPut T p (nI fd) (nI v)) p (fun y9 => X.2.2.2.2.2.2.2.2.2.2.2.2.1 (s * 40 + y9)) (ix (X.2.2.2.2.2.2.2.2.2.2.2.1 s)))) (by show mTells (mPut T p (nI fd) (nI v0)) p (fun y9 => X.2.2.2.2.2.2.2.2.2.2.2.2.1 (s * 40 + y9)) (ix (X.2.2.2.2.2.2.2.2.2.2.2.1 s)) = _; rw [put_nI _ _ _ _ hf, exl]; exact allB_le c_44 (by omega))]) | (rw [fit_n (c := (fun v => mTells (mPut T p (nI fd) (nI v)) p (fun y9 => X.2.2.2.2.2.2.2.2.2.2.2.2.1 (s * 40 + y9)) (ix (X.2.2.2.2.2.2.2.2.2.2.2.1 s)))) (by show mTells (mPut T p (nI fd) (nI v0)) p (fun y9 => X.2.2.2.2.2.2.2.2.2.2.2.2.1 (s * 40 + y9)) (ix (X.2.2.2.2.2.2.2.2.2.2.2.1 s)) = _; rw [put_nI _ _ _ _ hf, exl]; exact c_99)]) | (rw [fit_y (c := (fun v => mTells (mPut T p (nI fd) (nI v)) p (fun y9 => X.2.2.2.2.2.2.2.2.2.2.2.2.1 (s * 40 + y9)) (ix (X.2.2.2.2.2.2.2.2.2.2.2.1 s)))) (by show mTells (mPut T p (nI fd) (nI v0)) p (fun y9 => X.2.2.2.2.2.2.2.2.2.2.2.2.1 (s * 40 + y9)) (ix (X.2.2.2.2.2.2.2.2.2.2.2.1 s)) = _; rw [put_nI _ _ _ _ hf, exl]; exact c_99)] <;> rfl)) rfl (by rfl) (ih6 trivial)
    · intro i hi31 hv31 ih31
      refine aw_iload C dX5_allThatFit_31 rfl ?_
      refine aw_aload_n C dX5_allThatFit_33 rfl ?_
      refine aw_pc 34 rfl ?_
      refine aw_getf C 0 4 15 18 inX5 rfl (by decide) rfl k4_9 rfl rfl dX5_allThatFit_34 ?_
      refine aw_iload_n C dX5_allThatFit_37 rfl ?_
      refine aw_ialdN C 10 0 s rfl rfl rfl (by omega) (by decide) dX5_allThatFit_38 ?_
      refine aw_top (y := (nI len)) (by exact el) ?_
      refine aw_icmp_ge C 91 dX5_allThatFit_39 (by decide) (fun c_39 => absurd c_39 (nI_ge hi31 (by omega))) (fun c_39 => ?_)
      refine aw_iload C dX5_allThatFit_42 rfl ?_
      refine aw_ifeq_b C 91 dX5_allThatFit_44 (by decide) (fun c_44 => ?_) (fun c_44 => ?_)
      · skip
        refine aw_eq (lv' := [(0, .ref (y 0)), (1, .int (nI s)), (2, .int (nI p)), (3, .int (nI fd)), (4, .int (nI m)), (5, .int (setBy (fun v => mTells (mPut T p (nI fd) (nI v)) p (fun y9 => X.2.2.2.2.2.2.2.2.2.2.2.2.1 (s * 40 + y9)) (ix (X.2.2.2.2.2.2.2.2.2.2.2.1 s))) v0)), (6, .int (nI v0)), (7, .int (b2 false)), (8, .int (nI i))]) (ws' := wMo cI cC y (rowOf (tDays i (sP T fd p (nI v0)))) (X.1, (rowOf T), X.2.2.1, X.2.2.2.1, X.2.2.2.2.1, X.2.2.2.2.2.1, X.2.2.2.2.2.2.1, X.2.2.2.2.2.2.2.1, X.2.2.2.2.2.2.2.2.1, X.2.2.2.2.2.2.2.2.2.1, X.2.2.2.2.2.2.2.2.2.2.1, X.2.2.2.2.2.2.2.2.2.2.2.1, X.2.2.2.2.2.2.2.2.2.2.2.2.1, X.2.2.2.2.2.2.2.2.2.2.2.2.2)) (by rw [c_44]) rfl rfl ?_
        refine aw_aload_n C dX5_allThatFit_91 rfl ?_
        refine aw_callVdv C (As := []) (c_X5_laysBack l D cI cC adK adV y (tDays i (sP T fd p (nI v0))) (X.1, (rowOf T), X.2.2.1, X.2.2.2.1, X.2.2.2.2.1, X.2.2.2.2.2.1, X.2.2.2.2.2.2.1, X.2.2.2.2.2.2.2.1, X.2.2.2.2.2.2.2.2.1, X.2.2.2.2.2.2.2.2.2.1, X.2.2.2.2.2.2.2.2.2.2.1, X.2.2.2.2.2.2.2.2.2.2.2.1, X.2.2.2.2.2.2.2.2.2.2.2.2.1, X.2.2.2.2.2.2.2.2.2.2.2.2.2) ) k4_227 cv_X5_laysBack 0 4 rfl rfl rfl [0, 1, 2, 3, 4, 5, 6, 7, 8, 9, 10, 11, 12] (by decide) rfl (wr := ([] : va_W)) [] rfl (by decide) (by decide) [0, 1, 2, 3, 4, 5, 6, 7, 8, 9, 10, 11, 12] (by decide) (ws' := wMo cI cC y (rowOf T) (X.1, (rowOf T), X.2.2.1, X.2.2.2.1, X.2.2.2.2.1, X.2.2.2.2.2.1, X.2.2.2.2.2.2.1, X.2.2.2.2.2.2.2.1, X.2.2.2.2.2.2.2.2.1, X.2.2.2.2.2.2.2.2.2.1, X.2.2.2.2.2.2.2.2.2.2.1, X.2.2.2.2.2.2.2.2.2.2.2.1, X.2.2.2.2.2.2.2.2.2.2.2.2.1, X.2.2.2.2.2.2.2.2.2.2.2.2.2)) rfl ⟨by decide, by decide⟩ rfl rfl ⟨by decide, by decide⟩ rfl rfl (Nat.le_of_ble_eq_true rfl) dX5_allThatFit_92 ?_
        refine aw_iload C dX5_allThatFit_95 rfl ?_
        refine aw_iload C dX5_allThatFit_97 rfl ?_
        refine aw_pc 99 rfl ?_
        refine aw_ifeq_b C 109 dX5_allThatFit_99 (by decide) (fun c_99 => ?_) (fun c_99 => absurd c_99 (by simp))
        refine aw_iconst C (0 : Int32) dX5_allThatFit_109 (by decide) ?_
        refine aw_ior C dX5_allThatFit_110 ?_
        refine aw_istore C false (lv' := [(0, .ref (y 0)), (1, .int (nI s)), (2, .int (nI p)), (3, .int (nI fd)), (4, .int (nI m)), (5, .int ((setBy (fun v => mTells (mPut T p (nI fd) (nI v)) p (fun y9 => X.2.2.2.2.2.2.2.2.2.2.2.2.1 (s * 40 + y9)) (ix (X.2.2.2.2.2.2.2.2.2.2.2.1 s))) v0) ||| (0 : Int32))), (6, .int (nI v0)), (7, .int (b2 false)), (8, .int (nI i))]) dX5_allThatFit_111 (by decide) rfl rfl ?_
        refine aw_iinc C (nI (v0 + 1)) dX5_allThatFit_113 rfl (inc_nI _ 1) (by decide) rfl (lv' := [(0, .ref (y 0)), (1, .int (nI s)), (2, .int (nI p)), (3, .int (nI fd)), (4, .int (nI m)), (5, .int ((setBy (fun v => mTells (mPut T p (nI fd) (nI v)) p (fun y9 => X.2.2.2.2.2.2.2.2.2.2.2.2.1 (s * 40 + y9)) (ix (X.2.2.2.2.2.2.2.2.2.2.2.1 s))) v0) ||| (0 : Int32))), (6, .int (nI (v0 + 1))), (7, .int (b2 false)), (8, .int (nI i))]) rfl ?_
        refine aw_goto C 6 dX5_allThatFit_116 (by decide) ?_
        refine aw_sub (lv' := [(0, .ref (y 0)), (1, .int (nI s)), (2, .int (nI p)), (3, .int (nI fd)), (4, .int (nI m)), (5, .int ((setBy (fun v => mTells (mPut T p (nI fd) (nI v)) p (fun y9 => X.2.2.2.2.2.2.2.2.2.2.2.2.1 (s * 40 + y9)) (ix (X.2.2.2.2.2.2.2.2.2.2.2.1 s))) v0) ||| (0 : Int32))), (6, .int (nI (v0 + 1)))]) [0, 1, 2, 3, 4, 5, 6] rfl ?_
        exact aw_eq (by first | (rw [fit_n (c := (fun v => mTells (mPut T p (nI fd) (nI v)) p (fun y9 => X.2.2.2.2.2.2.2.2.2.2.2.2.1 (s * 40 + y9)) (ix (X.2.2.2.2.2.2.2.2.2.2.2.1 s)))) (by show mTells (mPut T p (nI fd) (nI v0)) p (fun y9 => X.2.2.2.2.2.2.2.2.2.2.2.2.1 (s * 40 + y9)) (ix (X.2.2.2.2.2.2.2.2.2.2.2.1 s)) = _; rw [put_nI _ _ _ _ hf, exl]; exact allB_le c_44 (by omega))]) | (rw [fit_n (c := (fun v => mTells (mPut T p (nI fd) (nI v)) p (fun y9 => X.2.2.2.2.2.2.2.2.2.2.2.2.1 (s * 40 + y9)) (ix (X.2.2.2.2.2.2.2.2.2.2.2.1 s)))) (by show mTells (mPut T p (nI fd) (nI v0)) p (fun y9 => X.2.2.2.2.2.2.2.2.2.2.2.2.1 (s * 40 + y9)) (ix (X.2.2.2.2.2.2.2.2.2.2.2.1 s)) = _; rw [put_nI _ _ _ _ hf, exl]; exact c_99)]) | (rw [fit_y (c := (fun v => mTells (mPut T p (nI fd) (nI v)) p (fun y9 => X.2.2.2.2.2.2.2.2.2.2.2.2.1 (s * 40 + y9)) (ix (X.2.2.2.2.2.2.2.2.2.2.2.1 s)))) (by show mTells (mPut T p (nI fd) (nI v0)) p (fun y9 => X.2.2.2.2.2.2.2.2.2.2.2.2.1 (s * 40 + y9)) (ix (X.2.2.2.2.2.2.2.2.2.2.2.1 s)) = _; rw [put_nI _ _ _ _ hf, exl]; exact c_99)] <;> rfl)) rfl (by rfl) (ih6 trivial)
      · skip
        refine aw_aload_n C dX5_allThatFit_47 rfl ?_
        refine aw_iload_n C dX5_allThatFit_48 rfl ?_
        refine aw_iload C dX5_allThatFit_49 rfl ?_
        refine aw_callVp C (As := [.int (nI s), .int (nI i)]) (c_X5_told l D cI cC adK adV y (tDays i (sP T fd p (nI v0))) (X.1, (rowOf T), X.2.2.1, X.2.2.2.1, X.2.2.2.2.1, X.2.2.2.2.2.1, X.2.2.2.2.2.2.1, X.2.2.2.2.2.2.2.1, X.2.2.2.2.2.2.2.2.1, X.2.2.2.2.2.2.2.2.2.1, X.2.2.2.2.2.2.2.2.2.2.1, X.2.2.2.2.2.2.2.2.2.2.2.1, X.2.2.2.2.2.2.2.2.2.2.2.2.1, X.2.2.2.2.2.2.2.2.2.2.2.2.2) s i (by omega) (by omega)) k5_70 cv_X5_told 0 4 rfl rfl rfl [0, 1, 2, 3, 4, 5, 6, 7, 8, 9, 10, 11, 12] (by decide) rfl ⟨by decide, by decide⟩ rfl rfl ⟨by decide, by decide⟩ rfl rfl (Nat.le_of_ble_eq_true rfl) dX5_allThatFit_51 ?_
        refine aw_pc 54 rfl ?_
        refine aw_iconst C (-1 : Int32) dX5_allThatFit_54 (by decide) ?_
        refine aw_icmp_eq C 74 dX5_allThatFit_55 (by decide) (fun c_55 => ?_) (fun c_55 => ?_)
        · skip
          refine aw_iconst C (1 : Int32) dX5_allThatFit_74 (by decide) ?_
          refine aw_goto C 79 dX5_allThatFit_75 (by decide) ?_
          refine aw_istore C false (lv' := [(0, .ref (y 0)), (1, .int (nI s)), (2, .int (nI p)), (3, .int (nI fd)), (4, .int (nI m)), (5, .int (setBy (fun v => mTells (mPut T p (nI fd) (nI v)) p (fun y9 => X.2.2.2.2.2.2.2.2.2.2.2.2.1 (s * 40 + y9)) (ix (X.2.2.2.2.2.2.2.2.2.2.2.1 s))) v0)), (6, .int (nI v0)), (7, .int (1 : Int32)), (8, .int (nI i))]) dX5_allThatFit_79 (by decide) rfl rfl ?_
          refine aw_aload_n C dX5_allThatFit_81 rfl ?_
          refine aw_callVdv C (As := []) (c_X5_day l D cI cC adK adV y (tDays i (sP T fd p (nI v0))) (X.1, (rowOf T), X.2.2.1, X.2.2.2.1, X.2.2.2.2.1, X.2.2.2.2.2.1, X.2.2.2.2.2.2.1, X.2.2.2.2.2.2.2.1, X.2.2.2.2.2.2.2.2.1, X.2.2.2.2.2.2.2.2.2.1, X.2.2.2.2.2.2.2.2.2.2.1, X.2.2.2.2.2.2.2.2.2.2.2.1, X.2.2.2.2.2.2.2.2.2.2.2.2.1, X.2.2.2.2.2.2.2.2.2.2.2.2.2)  (days_ok hU i)) k4_171 cv_X5_day 0 4 rfl rfl rfl [0, 1, 2, 3, 4, 5, 6, 7, 8, 9, 10, 11, 12] (by decide) rfl (wr := ([] : va_W)) [] rfl (by decide) (by decide) [0, 1, 2, 3, 4, 5, 6, 7, 8, 9, 10, 11, 12] (by decide) (ws' := wMo cI cC y (rowOf (tDay (tDays i (sP T fd p (nI v0))))) (X.1, (rowOf T), X.2.2.1, X.2.2.2.1, X.2.2.2.2.1, X.2.2.2.2.2.1, X.2.2.2.2.2.2.1, X.2.2.2.2.2.2.2.1, X.2.2.2.2.2.2.2.2.1, X.2.2.2.2.2.2.2.2.2.1, X.2.2.2.2.2.2.2.2.2.2.1, X.2.2.2.2.2.2.2.2.2.2.2.1, X.2.2.2.2.2.2.2.2.2.2.2.2.1, X.2.2.2.2.2.2.2.2.2.2.2.2.2)) rfl ⟨by decide, by decide⟩ rfl rfl ⟨by decide, by decide⟩ rfl rfl (Nat.le_of_ble_eq_true rfl) dX5_allThatFit_82 ?_
          refine aw_iinc C (nI (i + 1)) dX5_allThatFit_85 rfl (inc_nI _ 1) (by decide) rfl (lv' := [(0, .ref (y 0)), (1, .int (nI s)), (2, .int (nI p)), (3, .int (nI fd)), (4, .int (nI m)), (5, .int (setBy (fun v => mTells (mPut T p (nI fd) (nI v)) p (fun y9 => X.2.2.2.2.2.2.2.2.2.2.2.2.1 (s * 40 + y9)) (ix (X.2.2.2.2.2.2.2.2.2.2.2.1 s))) v0)), (6, .int (nI v0)), (7, .int (1 : Int32)), (8, .int (nI (i + 1)))]) rfl ?_
          refine aw_goto C 31 dX5_allThatFit_88 (by decide) ?_
          exact aw_eq (by first | (rw [tok_1 c_44 c_55] <;> rfl) | (rw [tok_2 c_44 c_71] <;> rfl) | (rw [tok_3 (U := (sP T fd p (nI v0))) (p := p) (i := i) (g := (fun y9 => X.2.2.2.2.2.2.2.2.2.2.2.2.1 (s * 40 + y9))) c_55 c_71] <;> rfl)) rfl (by rfl) (ih31 trivial)
        · skip
          refine aw_aload_n C dX5_allThatFit_58 rfl ?_
          refine aw_pc 59 rfl ?_
          refine aw_iload_n C dX5_allThatFit_59 rfl ?_
          refine aw_iload C dX5_allThatFit_60 rfl ?_
          refine aw_callVp C (As := [.int (nI s), .int (nI i)]) (c_X5_told l D cI cC adK adV y (tDays i (sP T fd p (nI v0))) (X.1, (rowOf T), X.2.2.1, X.2.2.2.1, X.2.2.2.2.1, X.2.2.2.2.2.1, X.2.2.2.2.2.2.1, X.2.2.2.2.2.2.2.1, X.2.2.2.2.2.2.2.2.1, X.2.2.2.2.2.2.2.2.2.1, X.2.2.2.2.2.2.2.2.2.2.1, X.2.2.2.2.2.2.2.2.2.2.2.1, X.2.2.2.2.2.2.2.2.2.2.2.2.1, X.2.2.2.2.2.2.2.2.2.2.2.2.2) s i (by omega) (by omega)) k5_70 cv_X5_told 0 4 rfl rfl rfl [0, 1, 2, 3, 4, 5, 6, 7, 8, 9, 10, 11, 12] (by decide) rfl ⟨by decide, by decide⟩ rfl rfl ⟨by decide, by decide⟩ rfl rfl (Nat.le_of_ble_eq_true rfl) dX5_allThatFit_62 ?_
          refine aw_aload_n C dX5_allThatFit_65 rfl ?_
          refine aw_iload_n C dX5_allThatFit_66 rfl ?_
          refine aw_iconst C (3 : Int32) dX5_allThatFit_67 (by decide) ?_
          refine aw_callVp C (As := [.int (nI p), .int (3 : Int32)]) (c_X5_get l D cI cC adK adV y (tDays i (sP T fd p (nI v0))) (X.1, (rowOf T), X.2.2.1, X.2.2.2.1, X.2.2.2.2.1, X.2.2.2.2.2.1, X.2.2.2.2.2.2.1, X.2.2.2.2.2.2.2.1, X.2.2.2.2.2.2.2.2.1, X.2.2.2.2.2.2.2.2.2.1, X.2.2.2.2.2.2.2.2.2.2.1, X.2.2.2.2.2.2.2.2.2.2.2.1, X.2.2.2.2.2.2.2.2.2.2.2.2.1, X.2.2.2.2.2.2.2.2.2.2.2.2.2) p 3 (by omega) (by decide)) k4_85 cv_X5_get 0 4 rfl rfl rfl [0, 1, 2, 3, 4, 5, 6, 7, 8, 9, 10, 11, 12] (by decide) rfl ⟨by decide, by decide⟩ rfl rfl ⟨by decide, by decide⟩ rfl rfl (Nat.le_of_ble_eq_true rfl) dX5_allThatFit_68 ?_
          refine aw_icmp_ne C 78 dX5_allThatFit_71 (by decide) (fun c_71 => ?_) (fun c_71 => ?_)
          · skip
            refine aw_iconst C (0 : Int32) dX5_allThatFit_78 (by decide) ?_
            refine aw_istore C false (lv' := [(0, .ref (y 0)), (1, .int (nI s)), (2, .int (nI p)), (3, .int (nI fd)), (4, .int (nI m)), (5, .int (setBy (fun v => mTells (mPut T p (nI fd) (nI v)) p (fun y9 => X.2.2.2.2.2.2.2.2.2.2.2.2.1 (s * 40 + y9)) (ix (X.2.2.2.2.2.2.2.2.2.2.2.1 s))) v0)), (6, .int (nI v0)), (7, .int (0 : Int32)), (8, .int (nI i))]) dX5_allThatFit_79 (by decide) rfl rfl ?_
            refine aw_pc 81 rfl ?_
            refine aw_aload_n C dX5_allThatFit_81 rfl ?_
            refine aw_callVdv C (As := []) (c_X5_day l D cI cC adK adV y (tDays i (sP T fd p (nI v0))) (X.1, (rowOf T), X.2.2.1, X.2.2.2.1, X.2.2.2.2.1, X.2.2.2.2.2.1, X.2.2.2.2.2.2.1, X.2.2.2.2.2.2.2.1, X.2.2.2.2.2.2.2.2.1, X.2.2.2.2.2.2.2.2.2.1, X.2.2.2.2.2.2.2.2.2.2.1, X.2.2.2.2.2.2.2.2.2.2.2.1, X.2.2.2.2.2.2.2.2.2.2.2.2.1, X.2.2.2.2.2.2.2.2.2.2.2.2.2)  (days_ok hU i)) k4_171 cv_X5_day 0 4 rfl rfl rfl [0, 1, 2, 3, 4, 5, 6, 7, 8, 9, 10, 11, 12] (by decide) rfl (wr := ([] : va_W)) [] rfl (by decide) (by decide) [0, 1, 2, 3, 4, 5, 6, 7, 8, 9, 10, 11, 12] (by decide) (ws' := wMo cI cC y (rowOf (tDay (tDays i (sP T fd p (nI v0))))) (X.1, (rowOf T), X.2.2.1, X.2.2.2.1, X.2.2.2.2.1, X.2.2.2.2.2.1, X.2.2.2.2.2.2.1, X.2.2.2.2.2.2.2.1, X.2.2.2.2.2.2.2.2.1, X.2.2.2.2.2.2.2.2.2.1, X.2.2.2.2.2.2.2.2.2.2.1, X.2.2.2.2.2.2.2.2.2.2.2.1, X.2.2.2.2.2.2.2.2.2.2.2.2.1, X.2.2.2.2.2.2.2.2.2.2.2.2.2)) rfl ⟨by decide, by decide⟩ rfl rfl ⟨by decide, by decide⟩ rfl rfl (Nat.le_of_ble_eq_true rfl) dX5_allThatFit_82 ?_
            refine aw_iinc C (nI (i + 1)) dX5_allThatFit_85 rfl (inc_nI _ 1) (by decide) rfl (lv' := [(0, .ref (y 0)), (1, .int (nI s)), (2, .int (nI p)), (3, .int (nI fd)), (4, .int (nI m)), (5, .int (setBy (fun v => mTells (mPut T p (nI fd) (nI v)) p (fun y9 => X.2.2.2.2.2.2.2.2.2.2.2.2.1 (s * 40 + y9)) (ix (X.2.2.2.2.2.2.2.2.2.2.2.1 s))) v0)), (6, .int (nI v0)), (7, .int (0 : Int32)), (8, .int (nI (i + 1)))]) rfl ?_
            refine aw_goto C 31 dX5_allThatFit_88 (by decide) ?_
            exact aw_eq (by first | (rw [tok_1 c_44 c_55] <;> rfl) | (rw [tok_2 c_44 c_71] <;> rfl) | (rw [tok_3 (U := (sP T fd p (nI v0))) (p := p) (i := i) (g := (fun y9 => X.2.2.2.2.2.2.2.2.2.2.2.2.1 (s * 40 + y9))) c_55 c_71] <;> rfl)) rfl (by rfl) (ih31 trivial)
          · skip
            refine aw_iconst C (1 : Int32) dX5_allThatFit_74 (by decide) ?_
            refine aw_goto C 79 dX5_allThatFit_75 (by decide) ?_
            refine aw_istore C false (lv' := [(0, .ref (y 0)), (1, .int (nI s)), (2, .int (nI p)), (3, .int (nI fd)), (4, .int (nI m)), (5, .int (setBy (fun v => mTells (mPut T p (nI fd) (nI v)) p (fun y9 => X.2.2.2.2.2.2.2.2.2.2.2.2.1 (s * 40 + y9)) (ix (X.2.2.2.2.2.2.2.2.2.2.2.1 s))) v0)), (6, .int (nI v0)), (7, .int (1 : Int32)), (8, .int (nI i))]) dX5_allThatFit_79 (by decide) rfl rfl ?_
            refine aw_aload_n C dX5_allThatFit_81 rfl ?_
            refine aw_callVdv C (As := []) (c_X5_day l D cI cC adK adV y (tDays i (sP T fd p (nI v0))) (X.1, (rowOf T), X.2.2.1, X.2.2.2.1, X.2.2.2.2.1, X.2.2.2.2.2.1, X.2.2.2.2.2.2.1, X.2.2.2.2.2.2.2.1, X.2.2.2.2.2.2.2.2.1, X.2.2.2.2.2.2.2.2.2.1, X.2.2.2.2.2.2.2.2.2.2.1, X.2.2.2.2.2.2.2.2.2.2.2.1, X.2.2.2.2.2.2.2.2.2.2.2.2.1, X.2.2.2.2.2.2.2.2.2.2.2.2.2)  (days_ok hU i)) k4_171 cv_X5_day 0 4 rfl rfl rfl [0, 1, 2, 3, 4, 5, 6, 7, 8, 9, 10, 11, 12] (by decide) rfl (wr := ([] : va_W)) [] rfl (by decide) (by decide) [0, 1, 2, 3, 4, 5, 6, 7, 8, 9, 10, 11, 12] (by decide) (ws' := wMo cI cC y (rowOf (tDay (tDays i (sP T fd p (nI v0))))) (X.1, (rowOf T), X.2.2.1, X.2.2.2.1, X.2.2.2.2.1, X.2.2.2.2.2.1, X.2.2.2.2.2.2.1, X.2.2.2.2.2.2.2.1, X.2.2.2.2.2.2.2.2.1, X.2.2.2.2.2.2.2.2.2.1, X.2.2.2.2.2.2.2.2.2.2.1, X.2.2.2.2.2.2.2.2.2.2.2.1, X.2.2.2.2.2.2.2.2.2.2.2.2.1, X.2.2.2.2.2.2.2.2.2.2.2.2.2)) rfl ⟨by decide, by decide⟩ rfl rfl ⟨by decide, by decide⟩ rfl rfl (Nat.le_of_ble_eq_true rfl) dX5_allThatFit_82 ?_
            refine aw_iinc C (nI (i + 1)) dX5_allThatFit_85 rfl (inc_nI _ 1) (by decide) rfl (lv' := [(0, .ref (y 0)), (1, .int (nI s)), (2, .int (nI p)), (3, .int (nI fd)), (4, .int (nI m)), (5, .int (setBy (fun v => mTells (mPut T p (nI fd) (nI v)) p (fun y9 => X.2.2.2.2.2.2.2.2.2.2.2.2.1 (s * 40 + y9)) (ix (X.2.2.2.2.2.2.2.2.2.2.2.1 s))) v0)), (6, .int (nI v0)), (7, .int (1 : Int32)), (8, .int (nI (i + 1)))]) rfl ?_
            refine aw_pc 88 rfl ?_
            refine aw_goto C 31 dX5_allThatFit_88 (by decide) ?_
            exact aw_eq (by first | (rw [tok_1 c_44 c_55] <;> rfl) | (rw [tok_2 c_44 c_71] <;> rfl) | (rw [tok_3 (U := (sP T fd p (nI v0))) (p := p) (i := i) (g := (fun y9 => X.2.2.2.2.2.2.2.2.2.2.2.2.1 (s * 40 + y9))) c_55 c_71] <;> rfl)) rfl (by rfl) (ih31 trivial)
abbrev r_X5_fits : Room := { frames := 6, cells := 0, slots := 0, locals := 140 }
theorem cv_X5_fits : cV yX5_fits cX5_fits 4 (some .int) 2 := ⟨k5_52, k5_53, k5_54, k1_6, by decide, by decide, by decide +kernel⟩
set_option maxHeartbeats 4000000 in
set_option maxRecDepth 100000 in
theorem c_X5_fits (l : Launch) (D : va_G) (cI cC : ClassId) (adK adV : Nat → Nat) (y : Nat → Nat) (T K : Tw) (ik : Bool) (F f : Nat → Int32) (n : Nat) (s1 s2 s3 kr ar : Nat → Int32) (tk : Int32) (bg en : Nat) (vl : Int64) (cr : Nat → Int32) (hk : ik = true → kr = rowOf K) (ho : gOk T) (s : Int32) (u : Int32) (hS : sOk s2) : FC l yX5_fits (wW yX5_fits cX5_fits 4 (some .int)) r_X5_fits D (tyC cI cC) adK adV (wMo cI cC y (rowOf T) (kr, ar, ik, F, f, n, tk, bg, en, vl, s1, s2, s3, cr)) [.ref (y 0), .int s, .int u] 0 0 (pMo cI cC y (m_fits (T, K, ik, F, f, n, s1, s2, s3) s u)) := by
  refine FC.of (own := RX5) (by decide) rfl (Nat.le_of_ble_eq_true rfl) ?_
  intro p9 e9 s9 m9 args9 below9 meth9 c9 A9 C hr hlk hmn
  show AW p9 l e9 r_X5_fits s9 m9 args9 below9 meth9 c9 D A9 4 0 0 _ 0 [(0, .ref (y 0)), (1, .int s), (2, .int u)] [] _
  have hn := ho.n
  refine aw_aload_n C dX5_fits_0 rfl ?_
  refine aw_iload_n C dX5_fits_1 rfl ?_
  refine aw_iload_n C dX5_fits_2 rfl ?_
  refine aw_callVp C (As := [.int s, .int u]) (c_X5_wrongTold l D cI cC adK adV y T (kr, ar, ik, F, f, n, tk, bg, en, vl, s1, s2, s3, cr) s u hn) k5_55 cv_X5_wrongTold 0 4 rfl rfl rfl [0, 1, 2, 3, 4, 5, 6, 7, 8, 9, 10, 11, 12] (by decide) rfl ⟨by decide, by decide⟩ rfl rfl ⟨by decide, by decide⟩ rfl rfl (Nat.le_of_ble_eq_true rfl) dX5_fits_3 ?_
  rcases wT_c T s1 s u with ⟨wq1, ew⟩ | ⟨wq1, wq2, ew⟩ | ⟨wq1, wq2, wq3, ew⟩ | ⟨wq1, wq2, wq3, ew⟩
  · skip
    refine aw_top (y := (0 : Int32)) (by exact ew) ?_
    refine aw_istore_n C true (lv' := [(0, .ref (y 0)), (1, .int s), (2, .int u), (3, .int (0 : Int32))]) dX5_fits_6 (by decide) rfl rfl ?_
    refine aw_iload_n C dX5_fits_7 rfl ?_
    refine aw_if_lt C 19 dX5_fits_8 (by decide) (fun c_8 => absurd c_8 (by decide)) (fun c_8 => ?_)
    refine aw_aload_n C dX5_fits_11 rfl ?_
    refine aw_pc 12 rfl ?_
    refine aw_iload_n C dX5_fits_12 rfl ?_
    refine aw_callVd C (As := [.int (0 : Int32)]) (c_X5_no l D cI cC adK adV y T (kr, ar, ik, F, f, n, tk, bg, en, vl, s1, s2, s3, cr) 0 (by decide)) k4_60 cv_X5_no 0 4 rfl rfl rfl [0, 1, 2, 3, 4, 5, 6, 7, 8, 9, 10, 11, 12] (by decide) rfl (wr := ([] : va_W)) [] rfl (by decide) (by decide) [0, 1, 2, 3, 4, 5, 6, 7, 8, 9, 10, 11, 12] (by decide) (ws' := wMo cI cC y (rowOf T) (kr, ar, ik, (upd F 0 (F 0 + 1)), f, n, tk, bg, en, vl, s1, s2, s3, cr)) rfl ⟨by decide, by decide⟩ rfl rfl ⟨by decide, by decide⟩ rfl rfl (Nat.le_of_ble_eq_true rfl) dX5_fits_13 ?_
    refine aw_goto C 28 dX5_fits_16 (by decide) ?_
    have hm : m_fits (T, K, ik, F, f, n, s1, s2, s3) s u = ((fno 0), (T, K, ik, (upd F 0 (F 0 + 1)), f, n, s1, s2, s3)) := by simp only [m_fits, m_fit, wq1, decide_true, decide_false, Bool.not_true, Bool.not_false, Bool.true_and, Bool.false_and, Bool.and_true, Bool.and_false, Bool.true_or, Bool.false_or, Bool.or_true, Bool.or_false, cond_true, cond_false, eq_self, if_true, if_false, ite_true, ite_false] <;> rfl
    exact aw_iret C hr hlk dX5_fits_28 ⟨ri (by rw [hm]), kr, ar, tk, bg, en, vl, cr, by first | (rw [hm]; done) | (rw [hm]; rfl), by rw [hm]; exact hk⟩
  · skip
    refine aw_top (y := (5 : Int32)) (by exact ew) ?_
    refine aw_istore_n C true (lv' := [(0, .ref (y 0)), (1, .int s), (2, .int u), (3, .int (5 : Int32))]) dX5_fits_6 (by decide) rfl rfl ?_
    refine aw_iload_n C dX5_fits_7 rfl ?_
    refine aw_if_lt C 19 dX5_fits_8 (by decide) (fun c_8 => absurd c_8 (by decide)) (fun c_8 => ?_)
    refine aw_aload_n C dX5_fits_11 rfl ?_
    refine aw_iload_n C dX5_fits_12 rfl ?_
    refine aw_callVd C (As := [.int (5 : Int32)]) (c_X5_no l D cI cC adK adV y T (kr, ar, ik, F, f, n, tk, bg, en, vl, s1, s2, s3, cr) 5 (by decide)) k4_60 cv_X5_no 0 4 rfl rfl rfl [0, 1, 2, 3, 4, 5, 6, 7, 8, 9, 10, 11, 12] (by decide) rfl (wr := ([] : va_W)) [] rfl (by decide) (by decide) [0, 1, 2, 3, 4, 5, 6, 7, 8, 9, 10, 11, 12] (by decide) (ws' := wMo cI cC y (rowOf T) (kr, ar, ik, (upd F 5 (F 5 + 1)), f, n, tk, bg, en, vl, s1, s2, s3, cr)) rfl ⟨by decide, by decide⟩ rfl rfl ⟨by decide, by decide⟩ rfl rfl (Nat.le_of_ble_eq_true rfl) dX5_fits_13 ?_
    refine aw_pc 16 rfl ?_
    refine aw_goto C 28 dX5_fits_16 (by decide) ?_
    have hm : m_fits (T, K, ik, F, f, n, s1, s2, s3) s u = ((fno 5), (T, K, ik, (upd F 5 (F 5 + 1)), f, n, s1, s2, s3)) := by simp only [m_fits, m_fit, wq1, wq2, decide_true, decide_false, Bool.not_true, Bool.not_false, Bool.true_and, Bool.false_and, Bool.and_true, Bool.and_false, Bool.true_or, Bool.false_or, Bool.or_true, Bool.or_false, cond_true, cond_false, eq_self, if_true, if_false, ite_true, ite_false] <;> rfl
    exact aw_iret C hr hlk dX5_fits_28 ⟨ri (by rw [hm]), kr, ar, tk, bg, en, vl, cr, by first | (rw [hm]; done) | (rw [hm]; rfl), by rw [hm]; exact hk⟩
  · skip
    refine aw_top (y := (0 : Int32)) (by exact ew) ?_
    refine aw_istore_n C true (lv' := [(0, .ref (y 0)), (1, .int s), (2, .int u), (3, .int (0 : Int32))]) dX5_fits_6 (by decide) rfl rfl ?_
    refine aw_iload_n C dX5_fits_7 rfl ?_
    refine aw_if_lt C 19 dX5_fits_8 (by decide) (fun c_8 => absurd c_8 (by decide)) (fun c_8 => ?_)
    refine aw_aload_n C dX5_fits_11 rfl ?_
    refine aw_iload_n C dX5_fits_12 rfl ?_
    refine aw_callVd C (As := [.int (0 : Int32)]) (c_X5_no l D cI cC adK adV y T (kr, ar, ik, F, f, n, tk, bg, en, vl, s1, s2, s3, cr) 0 (by decide)) k4_60 cv_X5_no 0 4 rfl rfl rfl [0, 1, 2, 3, 4, 5, 6, 7, 8, 9, 10, 11, 12] (by decide) rfl (wr := ([] : va_W)) [] rfl (by decide) (by decide) [0, 1, 2, 3, 4, 5, 6, 7, 8, 9, 10, 11, 12] (by decide) (ws' := wMo cI cC y (rowOf T) (kr, ar, ik, (upd F 0 (F 0 + 1)), f, n, tk, bg, en, vl, s1, s2, s3, cr)) rfl ⟨by decide, by decide⟩ rfl rfl ⟨by decide, by decide⟩ rfl rfl (Nat.le_of_ble_eq_true rfl) dX5_fits_13 ?_
    refine aw_goto C 28 dX5_fits_16 (by decide) ?_
    have hm : m_fits (T, K, ik, F, f, n, s1, s2, s3) s u = ((fno 0), (T, K, ik, (upd F 0 (F 0 + 1)), f, n, s1, s2, s3)) := by simp only [m_fits, m_fit, wq1, wq2, wq3, decide_true, decide_false, Bool.not_true, Bool.not_false, Bool.true_and, Bool.false_and, Bool.and_true, Bool.and_false, Bool.true_or, Bool.false_or, Bool.or_true, Bool.or_false, cond_true, cond_false, eq_self, if_true, if_false, ite_true, ite_false] <;> rfl
    exact aw_iret C hr hlk dX5_fits_28 ⟨ri (by rw [hm]), kr, ar, tk, bg, en, vl, cr, by first | (rw [hm]; done) | (rw [hm]; rfl), by rw [hm]; exact hk⟩
  · skip
    refine aw_top (y := (-1 : Int32)) (by exact ew) ?_
    obtain ⟨es, hs⟩ := in0_ix (n := 4) (by decide) wq1
    refine aw_eq (lv' := [(0, .ref (y 0)), (1, .int (nI (ix s))), (2, .int u)]) (ws' := wMo cI cC y (rowOf T) (kr, ar, ik, F, f, n, tk, bg, en, vl, s1, s2, s3, cr)) (by rw [← es]) rfl rfl ?_
    have l1 := there_lt hn wq3
    have e1 : u = nI (ix u) := there_ix wq3
    refine aw_eq (lv' := [(0, .ref (y 0)), (1, .int (nI (ix s))), (2, .int (nI (ix u)))]) (ws' := wMo cI cC y (rowOf T) (kr, ar, ik, F, f, n, tk, bg, en, vl, s1, s2, s3, cr)) (by rw [← e1]) rfl rfl ?_
    refine aw_pc 6 rfl ?_
    refine aw_istore_n C true (lv' := [(0, .ref (y 0)), (1, .int (nI (ix s))), (2, .int (nI (ix u))), (3, .int (-1 : Int32))]) dX5_fits_6 (by decide) rfl rfl ?_
    refine aw_iload_n C dX5_fits_7 rfl ?_
    refine aw_if_lt C 19 dX5_fits_8 (by decide) (fun c_8 => ?_) (fun c_8 => absurd c_8 (by decide))
    refine aw_aload_n C dX5_fits_19 rfl ?_
    refine aw_iload_n C dX5_fits_20 rfl ?_
    refine aw_iload_n C dX5_fits_21 rfl ?_
    refine aw_iconst C (2 : Int32) dX5_fits_22 (by decide) ?_
    refine aw_bipush C (12 : Int32) dX5_fits_23 (by decide) ?_
    refine aw_callVd C (As := [.int (nI (ix s)), .int (nI (ix u)), .int (2 : Int32), .int (12 : Int32)]) (c_X5_allThatFit l D cI cC adK adV y T (kr, ar, ik, F, f, n, tk, bg, en, vl, s1, s2, s3, cr) (ix s) (ix u) 2 12 ho hs (by omega) (by decide) (by decide) (by decide) hS) k5_66 cv_X5_allThatFit 0 4 rfl rfl rfl [0, 1, 2, 3, 4, 5, 6, 7, 8, 9, 10, 11, 12] (by decide) rfl (wr := ([] : va_W)) [] rfl (by decide) (by decide) [0, 1, 2, 3, 4, 5, 6, 7, 8, 9, 10, 11, 12] (by decide) (ws' := wMo cI cC y (rowOf T) (kr, (ar0 ar (rowOf T) 12), ik, F, f, n, tk, bg, en, vl, s1, s2, s3, cr)) rfl ⟨by decide, by decide⟩ rfl rfl ⟨by decide, by decide⟩ rfl rfl (Nat.le_of_ble_eq_true rfl) dX5_fits_25 ?_
    have hm : m_fits (T, K, ik, F, f, n, s1, s2, s3) s u = ((mFit T (ix u) (nI 2) (fun y9 => s3 ((ix s) * 40 + y9)) (ix (s2 (ix s))) 12), (T, K, ik, F, f, n, s1, s2, s3)) := by simp only [m_fits, m_fit, wq1, wq2, wq3, decide_true, decide_false, Bool.not_true, Bool.not_false, Bool.true_and, Bool.false_and, Bool.and_true, Bool.and_false, Bool.true_or, Bool.false_or, Bool.or_true, Bool.or_false, cond_true, cond_false, eq_self, if_true, if_false, ite_true, ite_false] <;> rfl
    exact aw_iret C hr hlk dX5_fits_28 ⟨ri (by rw [hm]), kr, (ar0 ar (rowOf T) 12), tk, bg, en, vl, cr, by first | (rw [hm]; done) | (rw [hm]; rfl), by rw [hm]; exact hk⟩
abbrev r_X5_kinds : Room := { frames := 6, cells := 0, slots := 0, locals := 140 }
theorem cv_X5_kinds : cV yX5_kinds cX5_kinds 4 (some .int) 2 := ⟨k5_75, k5_76, k5_77, k1_6, by decide, by decide, by decide +kernel⟩
set_option maxHeartbeats 4000000 in
set_option maxRecDepth 100000 in
theorem c_X5_kinds (l : Launch) (D : va_G) (cI cC : ClassId) (adK adV : Nat → Nat) (y : Nat → Nat) (T K : Tw) (ik : Bool) (F f : Nat → Int32) (n : Nat) (s1 s2 s3 kr ar : Nat → Int32) (tk : Int32) (bg en : Nat) (vl : Int64) (cr : Nat → Int32) (hk : ik = true → kr = rowOf K) (ho : gOk T) (s : Int32) (u : Int32) (hS : sOk s2) : FC l yX5_kinds (wW yX5_kinds cX5_kinds 4 (some .int)) r_X5_kinds D (tyC cI cC) adK adV (wMo cI cC y (rowOf T) (kr, ar, ik, F, f, n, tk, bg, en, vl, s1, s2, s3, cr)) [.ref (y 0), .int s, .int u] 0 0 (pMo cI cC y (m_kinds (T, K, ik, F, f, n, s1, s2, s3) s u)) := by
  refine FC.of (own := RX5) (by decide) rfl (Nat.le_of_ble_eq_true rfl) ?_
  intro p9 e9 s9 m9 args9 below9 meth9 c9 A9 C hr hlk hmn
  show AW p9 l e9 r_X5_kinds s9 m9 args9 below9 meth9 c9 D A9 4 0 0 _ 0 [(0, .ref (y 0)), (1, .int s), (2, .int u)] [] _
  have hn := ho.n
  refine aw_aload_n C dX5_kinds_0 rfl ?_
  refine aw_iload_n C dX5_kinds_1 rfl ?_
  refine aw_iload_n C dX5_kinds_2 rfl ?_
  refine aw_callVp C (As := [.int s, .int u]) (c_X5_wrongTold l D cI cC adK adV y T (kr, ar, ik, F, f, n, tk, bg, en, vl, s1, s2, s3, cr) s u hn) k5_55 cv_X5_wrongTold 0 4 rfl rfl rfl [0, 1, 2, 3, 4, 5, 6, 7, 8, 9, 10, 11, 12] (by decide) rfl ⟨by decide, by decide⟩ rfl rfl ⟨by decide, by decide⟩ rfl rfl (Nat.le_of_ble_eq_true rfl) dX5_kinds_3 ?_
  rcases wT_c T s1 s u with ⟨wq1, ew⟩ | ⟨wq1, wq2, ew⟩ | ⟨wq1, wq2, wq3, ew⟩ | ⟨wq1, wq2, wq3, ew⟩
  · skip
    refine aw_top (y := (0 : Int32)) (by exact ew) ?_
    refine aw_istore_n C true (lv' := [(0, .ref (y 0)), (1, .int s), (2, .int u), (3, .int (0 : Int32))]) dX5_kinds_6 (by decide) rfl rfl ?_
    refine aw_iload_n C dX5_kinds_7 rfl ?_
    refine aw_if_lt C 19 dX5_kinds_8 (by decide) (fun c_8 => absurd c_8 (by decide)) (fun c_8 => ?_)
    refine aw_aload_n C dX5_kinds_11 rfl ?_
    refine aw_pc 12 rfl ?_
    refine aw_iload_n C dX5_kinds_12 rfl ?_
    refine aw_callVd C (As := [.int (0 : Int32)]) (c_X5_no l D cI cC adK adV y T (kr, ar, ik, F, f, n, tk, bg, en, vl, s1, s2, s3, cr) 0 (by decide)) k4_60 cv_X5_no 0 4 rfl rfl rfl [0, 1, 2, 3, 4, 5, 6, 7, 8, 9, 10, 11, 12] (by decide) rfl (wr := ([] : va_W)) [] rfl (by decide) (by decide) [0, 1, 2, 3, 4, 5, 6, 7, 8, 9, 10, 11, 12] (by decide) (ws' := wMo cI cC y (rowOf T) (kr, ar, ik, (upd F 0 (F 0 + 1)), f, n, tk, bg, en, vl, s1, s2, s3, cr)) rfl ⟨by decide, by decide⟩ rfl rfl ⟨by decide, by decide⟩ rfl rfl (Nat.le_of_ble_eq_true rfl) dX5_kinds_13 ?_
    refine aw_goto C 28 dX5_kinds_16 (by decide) ?_
    have hm : m_kinds (T, K, ik, F, f, n, s1, s2, s3) s u = ((fno 0), (T, K, ik, (upd F 0 (F 0 + 1)), f, n, s1, s2, s3)) := by simp only [m_kinds, m_fit, wq1, decide_true, decide_false, Bool.not_true, Bool.not_false, Bool.true_and, Bool.false_and, Bool.and_true, Bool.and_false, Bool.true_or, Bool.false_or, Bool.or_true, Bool.or_false, cond_true, cond_false, eq_self, if_true, if_false, ite_true, ite_false] <;> rfl
    exact aw_iret C hr hlk dX5_kinds_28 ⟨ri (by rw [hm]), kr, ar, tk, bg, en, vl, cr, by first | (rw [hm]; done) | (rw [hm]; rfl), by rw [hm]; exact hk⟩
  · skip
    refine aw_top (y := (5 : Int32)) (by exact ew) ?_
    refine aw_istore_n C true (lv' := [(0, .ref (y 0)), (1, .int s), (2, .int u), (3, .int (5 : Int32))]) dX5_kinds_6 (by decide) rfl rfl ?_
    refine aw_iload_n C dX5_kinds_7 rfl ?_
    refine aw_if_lt C 19 dX5_kinds_8 (by decide) (fun c_8 => absurd c_8 (by decide)) (fun c_8 => ?_)
    refine aw_aload_n C dX5_kinds_11 rfl ?_
    refine aw_iload_n C dX5_kinds_12 rfl ?_
    refine aw_callVd C (As := [.int (5 : Int32)]) (c_X5_no l D cI cC adK adV y T (kr, ar, ik, F, f, n, tk, bg, en, vl, s1, s2, s3, cr) 5 (by decide)) k4_60 cv_X5_no 0 4 rfl rfl rfl [0, 1, 2, 3, 4, 5, 6, 7, 8, 9, 10, 11, 12] (by decide) rfl (wr := ([] : va_W)) [] rfl (by decide) (by decide) [0, 1, 2, 3, 4, 5, 6, 7, 8, 9, 10, 11, 12] (by decide) (ws' := wMo cI cC y (rowOf T) (kr, ar, ik, (upd F 5 (F 5 + 1)), f, n, tk, bg, en, vl, s1, s2, s3, cr)) rfl ⟨by decide, by decide⟩ rfl rfl ⟨by decide, by decide⟩ rfl rfl (Nat.le_of_ble_eq_true rfl) dX5_kinds_13 ?_
    refine aw_pc 16 rfl ?_
    refine aw_goto C 28 dX5_kinds_16 (by decide) ?_
    have hm : m_kinds (T, K, ik, F, f, n, s1, s2, s3) s u = ((fno 5), (T, K, ik, (upd F 5 (F 5 + 1)), f, n, s1, s2, s3)) := by simp only [m_kinds, m_fit, wq1, wq2, decide_true, decide_false, Bool.not_true, Bool.not_false, Bool.true_and, Bool.false_and, Bool.and_true, Bool.and_false, Bool.true_or, Bool.false_or, Bool.or_true, Bool.or_false, cond_true, cond_false, eq_self, if_true, if_false, ite_true, ite_false] <;> rfl
    exact aw_iret C hr hlk dX5_kinds_28 ⟨ri (by rw [hm]), kr, ar, tk, bg, en, vl, cr, by first | (rw [hm]; done) | (rw [hm]; rfl), by rw [hm]; exact hk⟩
  · skip
    refine aw_top (y := (0 : Int32)) (by exact ew) ?_
    refine aw_istore_n C true (lv' := [(0, .ref (y 0)), (1, .int s), (2, .int u), (3, .int (0 : Int32))]) dX5_kinds_6 (by decide) rfl rfl ?_
    refine aw_iload_n C dX5_kinds_7 rfl ?_
    refine aw_if_lt C 19 dX5_kinds_8 (by decide) (fun c_8 => absurd c_8 (by decide)) (fun c_8 => ?_)
    refine aw_aload_n C dX5_kinds_11 rfl ?_
    refine aw_iload_n C dX5_kinds_12 rfl ?_
    refine aw_callVd C (As := [.int (0 : Int32)]) (c_X5_no l D cI cC adK adV y T (kr, ar, ik, F, f, n, tk, bg, en, vl, s1, s2, s3, cr) 0 (by decide)) k4_60 cv_X5_no 0 4 rfl rfl rfl [0, 1, 2, 3, 4, 5, 6, 7, 8, 9, 10, 11, 12] (by decide) rfl (wr := ([] : va_W)) [] rfl (by decide) (by decide) [0, 1, 2, 3, 4, 5, 6, 7, 8, 9, 10, 11, 12] (by decide) (ws' := wMo cI cC y (rowOf T) (kr, ar, ik, (upd F 0 (F 0 + 1)), f, n, tk, bg, en, vl, s1, s2, s3, cr)) rfl ⟨by decide, by decide⟩ rfl rfl ⟨by decide, by decide⟩ rfl rfl (Nat.le_of_ble_eq_true rfl) dX5_kinds_13 ?_
    refine aw_goto C 28 dX5_kinds_16 (by decide) ?_
    have hm : m_kinds (T, K, ik, F, f, n, s1, s2, s3) s u = ((fno 0), (T, K, ik, (upd F 0 (F 0 + 1)), f, n, s1, s2, s3)) := by simp only [m_kinds, m_fit, wq1, wq2, wq3, decide_true, decide_false, Bool.not_true, Bool.not_false, Bool.true_and, Bool.false_and, Bool.and_true, Bool.and_false, Bool.true_or, Bool.false_or, Bool.or_true, Bool.or_false, cond_true, cond_false, eq_self, if_true, if_false, ite_true, ite_false] <;> rfl
    exact aw_iret C hr hlk dX5_kinds_28 ⟨ri (by rw [hm]), kr, ar, tk, bg, en, vl, cr, by first | (rw [hm]; done) | (rw [hm]; rfl), by rw [hm]; exact hk⟩
  · skip
    refine aw_top (y := (-1 : Int32)) (by exact ew) ?_
    obtain ⟨es, hs⟩ := in0_ix (n := 4) (by decide) wq1
    refine aw_eq (lv' := [(0, .ref (y 0)), (1, .int (nI (ix s))), (2, .int u)]) (ws' := wMo cI cC y (rowOf T) (kr, ar, ik, F, f, n, tk, bg, en, vl, s1, s2, s3, cr)) (by rw [← es]) rfl rfl ?_
    have l1 := there_lt hn wq3
    have e1 : u = nI (ix u) := there_ix wq3
    refine aw_eq (lv' := [(0, .ref (y 0)), (1, .int (nI (ix s))), (2, .int (nI (ix u)))]) (ws' := wMo cI cC y (rowOf T) (kr, ar, ik, F, f, n, tk, bg, en, vl, s1, s2, s3, cr)) (by rw [← e1]) rfl rfl ?_
    refine aw_pc 6 rfl ?_
    refine aw_istore_n C true (lv' := [(0, .ref (y 0)), (1, .int (nI (ix s))), (2, .int (nI (ix u))), (3, .int (-1 : Int32))]) dX5_kinds_6 (by decide) rfl rfl ?_
    refine aw_iload_n C dX5_kinds_7 rfl ?_
    refine aw_if_lt C 19 dX5_kinds_8 (by decide) (fun c_8 => ?_) (fun c_8 => absurd c_8 (by decide))
    refine aw_aload_n C dX5_kinds_19 rfl ?_
    refine aw_iload_n C dX5_kinds_20 rfl ?_
    refine aw_iload_n C dX5_kinds_21 rfl ?_
    refine aw_iconst C (0 : Int32) dX5_kinds_22 (by decide) ?_
    refine aw_bipush C (7 : Int32) dX5_kinds_23 (by decide) ?_
    refine aw_callVd C (As := [.int (nI (ix s)), .int (nI (ix u)), .int (0 : Int32), .int (7 : Int32)]) (c_X5_allThatFit l D cI cC adK adV y T (kr, ar, ik, F, f, n, tk, bg, en, vl, s1, s2, s3, cr) (ix s) (ix u) 0 7 ho hs (by omega) (by decide) (by decide) (by decide) hS) k5_66 cv_X5_allThatFit 0 4 rfl rfl rfl [0, 1, 2, 3, 4, 5, 6, 7, 8, 9, 10, 11, 12] (by decide) rfl (wr := ([] : va_W)) [] rfl (by decide) (by decide) [0, 1, 2, 3, 4, 5, 6, 7, 8, 9, 10, 11, 12] (by decide) (ws' := wMo cI cC y (rowOf T) (kr, (ar0 ar (rowOf T) 7), ik, F, f, n, tk, bg, en, vl, s1, s2, s3, cr)) rfl ⟨by decide, by decide⟩ rfl rfl ⟨by decide, by decide⟩ rfl rfl (Nat.le_of_ble_eq_true rfl) dX5_kinds_25 ?_
    have hm : m_kinds (T, K, ik, F, f, n, s1, s2, s3) s u = ((mFit T (ix u) (nI 0) (fun y9 => s3 ((ix s) * 40 + y9)) (ix (s2 (ix s))) 7), (T, K, ik, F, f, n, s1, s2, s3)) := by simp only [m_kinds, m_fit, wq1, wq2, wq3, decide_true, decide_false, Bool.not_true, Bool.not_false, Bool.true_and, Bool.false_and, Bool.and_true, Bool.and_false, Bool.true_or, Bool.false_or, Bool.or_true, Bool.or_false, cond_true, cond_false, eq_self, if_true, if_false, ite_true, ite_false] <;> rfl
    exact aw_iret C hr hlk dX5_kinds_28 ⟨ri (by rw [hm]), kr, (ar0 ar (rowOf T) 7), tk, bg, en, vl, cr, by first | (rw [hm]; done) | (rw [hm]; rfl), by rw [hm]; exact hk⟩
