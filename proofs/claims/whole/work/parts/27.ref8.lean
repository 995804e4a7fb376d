/-! the reference: change, pairs, now -/
theorem and1 (x : Int32) : x &&& 1 = 0 ∨ x &&& 1 = 1 := by
  have e : (x &&& 1).toBitVec = x.toBitVec &&& 1#32 := rfl
  rw [BitVec.and_one_eq_setWidth_ofBool_getLsbD] at e
  cases h : x.toBitVec.getLsbD 0 <;> rw [h] at e
  · exact Or.inl (Int32.toBitVec_inj.mp e)
  · exact Or.inr (Int32.toBitVec_inj.mp e)
theorem mut_1 (T : Tw) (f p q : Nat) : tMut T f p q = (decide ((T.2.2.1 f p >>> (nI q &&& 31)) &&& 1 = 1) && decide ((T.2.2.1 f q >>> (nI p &&& 31)) &&& 1 = 1)) := rfl
theorem pair_add (T : Tw) (f p q : Nat) (x : Int32) : x + (((T.2.2.1 f p >>> (nI q &&& 31)) &&& (T.2.2.1 f q >>> (nI p &&& 31))) &&& 1) = bif tMut T f p q then x + 1 else x := by
  rw [mut_1]
  generalize T.2.2.1 f p >>> (nI q &&& 31) = A
  generalize T.2.2.1 f q >>> (nI p &&& 31) = B
  rw [Int32.and_assoc]
  rcases and1 B with h | h
  · rw [h, Int32.and_zero, Int32.add_zero]
    simp
  · rw [h]
    rcases and1 A with h2 | h2
    · rw [h2, Int32.add_zero]
      rfl
    · rw [h2]
      rfl
theorem oth_m : ∀ n, n < 9 → ∀ q, q < 8 → (((bitOf (nI n) - 1) &&& (bitOf (nI q) ^^^ -1)) ^^^ -1) &&& (-256) = -256 := by decide +kernel
theorem oth_e : ∀ n, n < 9 → ∃ j, j < 256 ∧ bitOf (nI n) - 1 = nI j := by
  intro n hn
  have h : ∀ n, n < 9 → bitOf (nI n) - 1 = nI (2 ^ n - 1) := by decide +kernel
  refine ⟨2 ^ n - 1, ?_, h n hn⟩
  have := Nat.pow_le_pow_right (n := 2) (by decide) (show n ≤ 8 by omega)
  omega
theorem oth_j : ∀ n, n < 9 → ∀ q, q < 8 → ∀ j, j < 256 → decide (nI j &&& (((bitOf (nI n) - 1) &&& (bitOf (nI q) ^^^ -1)) ^^^ -1) = 0) = (inL (nI j) 0 (bitOf (nI n) - 1) && decide (nI j >>> (nI q &&& 31) &&& 1 = 0)) := by decide +kernel
theorem hi_0 {v : Int32} (h : v &&& (-256) = 0) : ∃ j, j < 256 ∧ v = nI j := by
  have e : v = v &&& 255 := by
    have h1 : v.toBitVec &&& (-256 : Int32).toBitVec = 0#32 := congrArg Int32.toBitVec h
    apply Int32.toBitVec_inj.mp
    show v.toBitVec = v.toBitVec &&& 255#32
    have h2 : (-256 : Int32).toBitVec ||| 255#32 = BitVec.allOnes 32 := by decide
    calc v.toBitVec = v.toBitVec &&& BitVec.allOnes 32 := by rw [BitVec.and_allOnes]
      _ = v.toBitVec &&& ((-256 : Int32).toBitVec ||| 255#32) := by rw [h2]
      _ = (v.toBitVec &&& (-256 : Int32).toBitVec) ||| (v.toBitVec &&& 255#32) := by rw [BitVec.and_or_distrib_left]
      _ = v.toBitVec &&& 255#32 := by rw [h1, BitVec.zero_or]
  obtain ⟨j, hj, h2⟩ := pk_andE v (m := 255) 8 (by decide)
  exact ⟨j, hj, e.trans h2⟩
theorem oth_ok {T : Tw} {q : Nat} (v : Int32) (hn : T.1 ≤ 8) (hq : q < 8) : mOthers T q v = (inL v 0 ((1 : Int32) <<< (nI T.1 &&& 31) - 1) && decide (v >>> (nI q &&& 31) &&& 1 = 0)) := by
  by_cases h : v &&& (-256) = 0
  · obtain ⟨j, hj, rfl⟩ := hi_0 h
    exact oth_j T.1 (by omega) q hq j hj
  · have a : mOthers T q v = false := by
      unfold mOthers
      refine decide_eq_false (fun z => h ?_)
      rw [← oth_m T.1 (by omega) q hq, ← Int32.and_assoc]
      show (v &&& ((evb T &&& (bitOf (nI q) ^^^ -1)) ^^^ -1)) &&& (-256) = 0
      rw [z, Int32.zero_and]
    have b : inL v 0 ((1 : Int32) <<< (nI T.1 &&& 31) - 1) = false := by
      cases hb : inL v 0 ((1 : Int32) <<< (nI T.1 &&& 31) - 1) with
      | false => rfl
      | true =>
        exfalso
        rw [inL_le] at hb
        obtain ⟨c, hc, e⟩ := oth_e T.1 (by omega)
        have e : (1 : Int32) <<< (nI T.1 &&& 31) - 1 = nI c := e
        rw [e] at hb
        have h0 := (nd_and hb).1
        have h1 := (nd_and hb).2
        obtain ⟨j, hj, rfl⟩ := nI_of h0
        have h2 := (nI_leI hj (by omega)).mp h1
        exact h ((by decide +kernel : ∀ j, j < 256 → nI j &&& (-256) = 0) j (by omega))
    rw [a, b]
    rfl
theorem tbl7 {w : Int32} (h : in0 w 7 = true) (n0 : ¬ w = 0) (n1 : ¬ w = 1) (n2 : ¬ w = 2) (n3 : ¬ w = 3) (n4 : ¬ w = 4) (n5 : ¬ w = 5) (n6 : ¬ w = 6) : False := by
  obtain ⟨e, hl⟩ := in0_ix (n := 7) (by decide) h
  have m0 : ¬ ix w = 0 := fun q => n0 (by rw [e, q]; rfl)
  have m1 : ¬ ix w = 1 := fun q => n1 (by rw [e, q]; rfl)
  have m2 : ¬ ix w = 2 := fun q => n2 (by rw [e, q]; rfl)
  have m3 : ¬ ix w = 3 := fun q => n3 (by rw [e, q]; rfl)
  have m4 : ¬ ix w = 4 := fun q => n4 (by rw [e, q]; rfl)
  have m5 : ¬ ix w = 5 := fun q => n5 (by rw [e, q]; rfl)
  have m6 : ¬ ix w = 6 := fun q => n6 (by rw [e, q]; rfl)
  omega
theorem can_out {T : Tw} {p : Nat} {w v : Int32} (h : in0 w 7 = false) : mCan T p w v = false := by
  have n0 : ¬ w = 0 := fun e => by subst e; exact absurd h (by decide)
  have n1 : ¬ w = 1 := fun e => by subst e; exact absurd h (by decide)
  have n2 : ¬ w = 2 := fun e => by subst e; exact absurd h (by decide)
  have n3 : ¬ w = 3 := fun e => by subst e; exact absurd h (by decide)
  have n4 : ¬ w = 4 := fun e => by subst e; exact absurd h (by decide)
  have n5 : ¬ w = 5 := fun e => by subst e; exact absurd h (by decide)
  have n6 : ¬ w = 6 := fun e => by subst e; exact absurd h (by decide)
  unfold mCan
  rw [if_neg n0, if_neg n1, if_neg n2, if_neg n3, if_neg n4, if_neg n5, if_neg n6]
theorem chg_a {G : Sg} {u w v : Int32} (h : mThere G.1 u = false) : m_change G u w v = gno G 0 := by unfold m_change; rw [h]; rfl
theorem chg_b {G : Sg} {u w v : Int32} (h : mThere G.1 u = true) (h2 : mCan G.1 (ix u) w v = false) : m_change G u w v = gno G 0 := by unfold m_change; rw [h, h2]; rfl
theorem chg_c {G : Sg} {u w v : Int32} (h : mThere G.1 u = true) (h2 : mCan G.1 (ix u) w v = true) (e : w = nI (ix w)) (hl : ix w < 7) : m_change G u w v = (G.1.2.2.1 (ix w) (ix u), gT G (sP G.1 (ix w) (ix u) v)) := by
  unfold m_change
  rw [h, h2, ← trait_nI _ _ _ hl, ← put_nI _ _ _ _ hl, ← e]
  rfl

abbrev r_X5_canBe : Room := { frames := 2, cells := 0, slots := 0, locals := 42 }
theorem cv_X5_canBe : cV yX5_canBe cX5_canBe 4 (some .boolean) 3 := ⟨k4_114, k0_31, k4_115, k1_6, by decide, by decide, by decide +kernel⟩
set_option maxHeartbeats 4000000 in
set_option maxRecDepth 100000 in
theorem c_X5_canBe (l : Launch) (D : va_G) (cI cC : ClassId) (adK adV : Nat → Nat) (y : Nat → Nat) (T : Tw) (X : Mr) (q : Nat) (w : Int32) (v : Int32) (hq : q < 8) (hn : T.1 ≤ 8) (hw : in0 w 7 = true) : FC l yX5_canBe (wW yX5_canBe cX5_canBe 4 (some .boolean)) r_X5_canBe D (tyC cI cC) adK adV (wMo cI cC y (rowOf T) X) [.ref (y 0), .int (nI q), .int w, .int v] 0 0 (fQ (some (.int (b2 (mCan T q w v)))) (wMo cI cC y (rowOf T) X)) := by
  refine FC.of (own := RX5) (by decide) rfl (Nat.le_of_ble_eq_true rfl) ?_
  intro p9 e9 s9 m9 args9 below9 meth9 c9 A9 C hr hlk hmn
  show AW p9 l e9 r_X5_canBe s9 m9 args9 below9 meth9 c9 D A9 4 0 0 _ 0 [(0, .ref (y 0)), (1, .int (nI q)), (2, .int w), (3, .int v)] [] _
  refine aw_iload_n C dX5_canBe_0 rfl ?_
  by_cases s_1_0 : w = (0 : Int32)
  · skip
    refine aw_tabIn C (0) 44 dX5_canBe_1 (by rw [s_1_0]; rfl) (by decide) (by decide) rfl (by decide) ?_
    refine aw_iload_n C dX5_canBe_44 rfl ?_
    refine aw_iconst C (0 : Int32) dX5_canBe_45 (by decide) ?_
    refine aw_bipush C (6 : Int32) dX5_canBe_46 (by decide) ?_
    refine aw_callSp C (As := [.int v, .int (0 : Int32), .int (6 : Int32)]) (c_X5_in1 l D cI cC adK adV v (0 : Int32) (6 : Int32)) k4_54 cs_X5_in1 [] (by decide) rfl ⟨by decide, by decide⟩ rfl rfl ⟨by decide, by decide⟩ rfl rfl (Nat.le_of_ble_eq_true rfl) dX5_canBe_48 ?_
    exact aw_bret C (b := (inL v (0 : Int32) (6 : Int32))) hr hlk dX5_canBe_51 rfl ⟨rb (by simp only [mCan, if_pos s_1_0]; exact inL_in0 v (n := 7) (by decide) (by decide)), by rfl⟩
  by_cases s_1_1 : w = (1 : Int32)
  · skip
    refine aw_tabIn C (1) 52 dX5_canBe_1 (by rw [s_1_1]; rfl) (by decide) (by decide) rfl (by decide) ?_
    refine aw_iload_n C dX5_canBe_52 rfl ?_
    refine aw_callSp C (As := [.int v]) (c_X5_isCell l D cI cC adK adV v) k4_57 cs_X5_isCell [] (by decide) rfl ⟨by decide, by decide⟩ rfl rfl ⟨by decide, by decide⟩ rfl rfl (Nat.le_of_ble_eq_true rfl) dX5_canBe_53 ?_
    refine aw_pc 56 rfl ?_
    exact aw_bret C (b := (in0 v 16)) hr hlk dX5_canBe_56 rfl ⟨rb (by simp only [mCan, if_pos s_1_1, if_neg s_1_0]), by rfl⟩
  by_cases s_1_2 : w = (2 : Int32)
  · skip
    refine aw_tabIn C (2) 57 dX5_canBe_1 (by rw [s_1_2]; rfl) (by decide) (by decide) rfl (by decide) ?_
    refine aw_iload_n C dX5_canBe_57 rfl ?_
    refine aw_callSp C (As := [.int v]) (c_X5_isGuise l D cI cC adK adV v) k4_116 cs_X5_isGuise [] (by decide) rfl ⟨by decide, by decide⟩ rfl rfl ⟨by decide, by decide⟩ rfl rfl (Nat.le_of_ble_eq_true rfl) dX5_canBe_58 ?_
    exact aw_bret C (b := (in0 v 12)) hr hlk dX5_canBe_61 rfl ⟨rb (by simp only [mCan, if_pos s_1_2, if_neg s_1_0, if_neg s_1_1]), by rfl⟩
  by_cases s_1_3 : w = (3 : Int32)
  · skip
    refine aw_tabIn C (3) 78 dX5_canBe_1 (by rw [s_1_3]; rfl) (by decide) (by decide) rfl (by decide) ?_
    refine aw_iload_n C dX5_canBe_78 rfl ?_
    refine aw_iconst C (0 : Int32) dX5_canBe_79 (by decide) ?_
    refine aw_iconst C (1 : Int32) dX5_canBe_80 (by decide) ?_
    refine aw_aload_n C dX5_canBe_81 rfl ?_
    refine aw_getf C 0 4 0 18 inX5 rfl (by decide) rfl k3_234 rfl rfl dX5_canBe_82 ?_
    refine aw_iconst C (1 : Int32) dX5_canBe_85 (by decide) ?_
    refine aw_pc 86 rfl ?_
    refine aw_ialdN C 1 0 1 rfl rfl rfl (by decide) (by decide) dX5_canBe_86 ?_
    refine aw_top (y := (nI T.1)) rfl ?_
    refine aw_ishl C dX5_canBe_87 ?_
    refine aw_iconst C (1 : Int32) dX5_canBe_88 (by decide) ?_
    refine aw_isub C dX5_canBe_89 ?_
    refine aw_callSp C (As := [.int v, .int (0 : Int32), .int (((1 : Int32) <<< ((nI T.1) &&& 31)) - (1 : Int32))]) (c_X5_in1 l D cI cC adK adV v (0 : Int32) (((1 : Int32) <<< ((nI T.1) &&& 31)) - (1 : Int32))) k4_54 cs_X5_in1 [] (by decide) rfl ⟨by decide, by decide⟩ rfl rfl ⟨by decide, by decide⟩ rfl rfl (Nat.le_of_ble_eq_true rfl) dX5_canBe_90 ?_
    refine aw_ifeq_b C 108 dX5_canBe_93 (by decide) (fun c_93 => ?_) (fun c_93 => ?_)
    · skip
      refine aw_iconst C (0 : Int32) dX5_canBe_108 (by decide) ?_
      exact aw_bret C (b := false) hr hlk dX5_canBe_109 rfl ⟨rb (by have h9 := oth_ok v hn hq; simp only [mCan, if_pos s_1_3, if_neg s_1_0, if_neg s_1_1, if_neg s_1_2]; rw [h9]; simp only [c_93, decide_true, decide_false, Bool.not_true, Bool.not_false, Bool.true_and, Bool.false_and, Bool.and_true, Bool.and_false, Bool.true_or, Bool.false_or, Bool.or_true, Bool.or_false, cond_true, cond_false, eq_self, if_true, if_false, ite_true, ite_false]), by rfl⟩
    · skip
      refine aw_iload_n C dX5_canBe_96 rfl ?_
      refine aw_iload_n C dX5_canBe_97 rfl ?_
      refine aw_pc 98 rfl ?_
      refine aw_ishr C dX5_canBe_98 ?_
      refine aw_iconst C (1 : Int32) dX5_canBe_99 (by decide) ?_
      refine aw_iand C dX5_canBe_100 ?_
      refine aw_if_ne C 108 dX5_canBe_101 (by decide) (fun c_101 => ?_) (fun c_101 => ?_)
      · skip
        refine aw_iconst C (0 : Int32) dX5_canBe_108 (by decide) ?_
        exact aw_bret C (b := false) hr hlk dX5_canBe_109 rfl ⟨rb (by have h9 := oth_ok v hn hq; simp only [mCan, if_pos s_1_3, if_neg s_1_0, if_neg s_1_1, if_neg s_1_2]; rw [h9]; simp only [c_93, c_101, decide_true, decide_false, Bool.not_true, Bool.not_false, Bool.true_and, Bool.false_and, Bool.and_true, Bool.and_false, Bool.true_or, Bool.false_or, Bool.or_true, Bool.or_false, cond_true, cond_false, eq_self, if_true, if_false, ite_true, ite_false]), by rfl⟩
      · skip
        refine aw_iconst C (1 : Int32) dX5_canBe_104 (by decide) ?_
        refine aw_goto C 109 dX5_canBe_105 (by decide) ?_
        exact aw_bret C (b := true) hr hlk dX5_canBe_109 rfl ⟨rb (by have h9 := oth_ok v hn hq; simp only [mCan, if_pos s_1_3, if_neg s_1_0, if_neg s_1_1, if_neg s_1_2]; rw [h9]; simp only [c_93, c_101, decide_true, decide_false, Bool.not_true, Bool.not_false, Bool.true_and, Bool.false_and, Bool.and_true, Bool.and_false, Bool.true_or, Bool.false_or, Bool.or_true, Bool.or_false, cond_true, cond_false, eq_self, if_true, if_false, ite_true, ite_false]), by rfl⟩
  by_cases s_1_4 : w = (4 : Int32)
  · skip
    refine aw_tabIn C (4) 78 dX5_canBe_1 (by rw [s_1_4]; rfl) (by decide) (by decide) rfl (by decide) ?_
    refine aw_iload_n C dX5_canBe_78 rfl ?_
    refine aw_pc 79 rfl ?_
    refine aw_iconst C (0 : Int32) dX5_canBe_79 (by decide) ?_
    refine aw_iconst C (1 : Int32) dX5_canBe_80 (by decide) ?_
    refine aw_aload_n C dX5_canBe_81 rfl ?_
    refine aw_getf C 0 4 0 18 inX5 rfl (by decide) rfl k3_234 rfl rfl dX5_canBe_82 ?_
    refine aw_iconst C (1 : Int32) dX5_canBe_85 (by decide) ?_
    refine aw_ialdN C 1 0 1 rfl rfl rfl (by decide) (by decide) dX5_canBe_86 ?_
    refine aw_top (y := (nI T.1)) rfl ?_
    refine aw_ishl C dX5_canBe_87 ?_
    refine aw_iconst C (1 : Int32) dX5_canBe_88 (by decide) ?_
    refine aw_isub C dX5_canBe_89 ?_
    refine aw_callSp C (As := [.int v, .int (0 : Int32), .int (((1 : Int32) <<< ((nI T.1) &&& 31)) - (1 : Int32))]) (c_X5_in1 l D cI cC adK adV v (0 : Int32) (((1 : Int32) <<< ((nI T.1) &&& 31)) - (1 : Int32))) k4_54 cs_X5_in1 [] (by decide) rfl ⟨by decide, by decide⟩ rfl rfl ⟨by decide, by decide⟩ rfl rfl (Nat.le_of_ble_eq_true rfl) dX5_canBe_90 ?_
    refine aw_pc 93 rfl ?_
    refine aw_ifeq_b C 108 dX5_canBe_93 (by decide) (fun c_93 => ?_) (fun c_93 => ?_)
    · skip
      refine aw_iconst C (0 : Int32) dX5_canBe_108 (by decide) ?_
      exact aw_bret C (b := false) hr hlk dX5_canBe_109 rfl ⟨rb (by have h9 := oth_ok v hn hq; simp only [mCan, if_pos s_1_4, if_neg s_1_0, if_neg s_1_1, if_neg s_1_2, if_neg s_1_3]; rw [h9]; simp only [c_93, decide_true, decide_false, Bool.not_true, Bool.not_false, Bool.true_and, Bool.false_and, Bool.and_true, Bool.and_false, Bool.true_or, Bool.false_or, Bool.or_true, Bool.or_false, cond_true, cond_false, eq_self, if_true, if_false, ite_true, ite_false]), by rfl⟩
    · skip
      refine aw_iload_n C dX5_canBe_96 rfl ?_
      refine aw_iload_n C dX5_canBe_97 rfl ?_
      refine aw_ishr C dX5_canBe_98 ?_
      refine aw_iconst C (1 : Int32) dX5_canBe_99 (by decide) ?_
      refine aw_iand C dX5_canBe_100 ?_
      refine aw_if_ne C 108 dX5_canBe_101 (by decide) (fun c_101 => ?_) (fun c_101 => ?_)
      · skip
        refine aw_iconst C (0 : Int32) dX5_canBe_108 (by decide) ?_
        refine aw_pc 109 rfl ?_
        exact aw_bret C (b := false) hr hlk dX5_canBe_109 rfl ⟨rb (by have h9 := oth_ok v hn hq; simp only [mCan, if_pos s_1_4, if_neg s_1_0, if_neg s_1_1, if_neg s_1_2, if_neg s_1_3]; rw [h9]; simp only [c_93, c_101, decide_true, decide_false, Bool.not_true, Bool.not_false, Bool.true_and, Bool.false_and, Bool.and_true, Bool.and_false, Bool.true_or, Bool.false_or, Bool.or_true, Bool.or_false, cond_true, cond_false, eq_self, if_true, if_false, ite_true, ite_false]), by rfl⟩
      · skip
        refine aw_iconst C (1 : Int32) dX5_canBe_104 (by decide) ?_
        refine aw_goto C 109 dX5_canBe_105 (by decide) ?_
        exact aw_bret C (b := true) hr hlk dX5_canBe_109 rfl ⟨rb (by have h9 := oth_ok v hn hq; simp only [mCan, if_pos s_1_4, if_neg s_1_0, if_neg s_1_1, if_neg s_1_2, if_neg s_1_3]; rw [h9]; simp only [c_93, c_101, decide_true, decide_false, Bool.not_true, Bool.not_false, Bool.true_and, Bool.false_and, Bool.and_true, Bool.and_false, Bool.true_or, Bool.false_or, Bool.or_true, Bool.or_false, cond_true, cond_false, eq_self, if_true, if_false, ite_true, ite_false]), by rfl⟩
  by_cases s_1_5 : w = (5 : Int32)
  · skip
    refine aw_tabIn C (5) 62 dX5_canBe_1 (by rw [s_1_5]; rfl) (by decide) (by decide) rfl (by decide) ?_
    refine aw_iload_n C dX5_canBe_62 rfl ?_
    refine aw_iconst C (0 : Int32) dX5_canBe_63 (by decide) ?_
    refine aw_iconst C (1 : Int32) dX5_canBe_64 (by decide) ?_
    refine aw_callSp C (As := [.int v, .int (0 : Int32), .int (1 : Int32)]) (c_X5_in1 l D cI cC adK adV v (0 : Int32) (1 : Int32)) k4_54 cs_X5_in1 [] (by decide) rfl ⟨by decide, by decide⟩ rfl rfl ⟨by decide, by decide⟩ rfl rfl (Nat.le_of_ble_eq_true rfl) dX5_canBe_65 ?_
    exact aw_bret C (b := (inL v (0 : Int32) (1 : Int32))) hr hlk dX5_canBe_68 rfl ⟨rb (by simp only [mCan, if_pos s_1_5, if_neg s_1_0, if_neg s_1_1, if_neg s_1_2, if_neg s_1_3, if_neg s_1_4]; exact inL_in0 v (n := 2) (by decide) (by decide)), by rfl⟩
  by_cases s_1_6 : w = (6 : Int32)
  · skip
    refine aw_tabIn C (6) 69 dX5_canBe_1 (by rw [s_1_6]; rfl) (by decide) (by decide) rfl (by decide) ?_
    refine aw_iload_n C dX5_canBe_69 rfl ?_
    refine aw_pc 70 rfl ?_
    refine aw_iconst C (0 : Int32) dX5_canBe_70 (by decide) ?_
    refine aw_sipush C (9999 : Int32) dX5_canBe_71 (by decide) ?_
    refine aw_callSp C (As := [.int v, .int (0 : Int32), .int (9999 : Int32)]) (c_X5_in1 l D cI cC adK adV v (0 : Int32) (9999 : Int32)) k4_54 cs_X5_in1 [] (by decide) rfl ⟨by decide, by decide⟩ rfl rfl ⟨by decide, by decide⟩ rfl rfl (Nat.le_of_ble_eq_true rfl) dX5_canBe_74 ?_
    exact aw_bret C (b := (inL v (0 : Int32) (9999 : Int32))) hr hlk dX5_canBe_77 rfl ⟨rb (by simp only [mCan, if_pos s_1_6, if_neg s_1_0, if_neg s_1_1, if_neg s_1_2, if_neg s_1_3, if_neg s_1_4, if_neg s_1_5]; rfl), by rfl⟩
  refine aw_tabOut C 78 dX5_canBe_1 (by have q0 := ne_toInt s_1_0 (z := 0) rfl; have q1 := ne_toInt s_1_1 (z := 1) rfl; have q2 := ne_toInt s_1_2 (z := 2) rfl; have q3 := ne_toInt s_1_3 (z := 3) rfl; have q4 := ne_toInt s_1_4 (z := 4) rfl; have q5 := ne_toInt s_1_5 (z := 5) rfl; have q6 := ne_toInt s_1_6 (z := 6) rfl; omega) (by decide) ?_
  refine aw_iload_n C dX5_canBe_78 rfl ?_
  refine aw_iconst C (0 : Int32) dX5_canBe_79 (by decide) ?_
  refine aw_iconst C (1 : Int32) dX5_canBe_80 (by decide) ?_
  refine aw_aload_n C dX5_canBe_81 rfl ?_
  refine aw_getf C 0 4 0 18 inX5 rfl (by decide) rfl k3_234 rfl rfl dX5_canBe_82 ?_
  refine aw_iconst C (1 : Int32) dX5_canBe_85 (by decide) ?_
  refine aw_pc 86 rfl ?_
  refine aw_ialdN C 1 0 1 rfl rfl rfl (by decide) (by decide) dX5_canBe_86 ?_
  refine aw_top (y := (nI T.1)) rfl ?_
  refine aw_ishl C dX5_canBe_87 ?_
  refine aw_iconst C (1 : Int32) dX5_canBe_88 (by decide) ?_
  refine aw_isub C dX5_canBe_89 ?_
  refine aw_callSp C (As := [.int v, .int (0 : Int32), .int (((1 : Int32) <<< ((nI T.1) &&& 31)) - (1 : Int32))]) (c_X5_in1 l D cI cC adK adV v (0 : Int32) (((1 : Int32) <<< ((nI T.1) &&& 31)) - (1 : Int32))) k4_54 cs_X5_in1 [] (by decide) rfl ⟨by decide, by decide⟩ rfl rfl ⟨by decide, by decide⟩ rfl rfl (Nat.le_of_ble_eq_true rfl) dX5_canBe_90 ?_
  refine aw_ifeq_b C 108 dX5_canBe_93 (by decide) (fun c_93 => ?_) (fun c_93 => ?_)
  · skip
    refine aw_iconst C (0 : Int32) dX5_canBe_108 (by decide) ?_
    exact aw_bret C (b := false) hr hlk dX5_canBe_109 rfl ⟨rb (by exact (tbl7 hw s_1_0 s_1_1 s_1_2 s_1_3 s_1_4 s_1_5 s_1_6).elim), by rfl⟩
  · skip
    refine aw_iload_n C dX5_canBe_96 rfl ?_
    refine aw_iload_n C dX5_canBe_97 rfl ?_
    refine aw_pc 98 rfl ?_
    refine aw_ishr C dX5_canBe_98 ?_
    refine aw_iconst C (1 : Int32) dX5_canBe_99 (by decide) ?_
    refine aw_iand C dX5_canBe_100 ?_
    refine aw_if_ne C 108 dX5_canBe_101 (by decide) (fun c_101 => ?_) (fun c_101 => ?_)
    · skip
      refine aw_iconst C (0 : Int32) dX5_canBe_108 (by decide) ?_
      exact aw_bret C (b := false) hr hlk dX5_canBe_109 rfl ⟨rb (by exact (tbl7 hw s_1_0 s_1_1 s_1_2 s_1_3 s_1_4 s_1_5 s_1_6).elim), by rfl⟩
    · skip
      refine aw_iconst C (1 : Int32) dX5_canBe_104 (by decide) ?_
      refine aw_goto C 109 dX5_canBe_105 (by decide) ?_
      exact aw_bret C (b := true) hr hlk dX5_canBe_109 rfl ⟨rb (by exact (tbl7 hw s_1_0 s_1_1 s_1_2 s_1_3 s_1_4 s_1_5 s_1_6).elim), by rfl⟩
abbrev r_X5_change : Room := { frames := 3, cells := 0, slots := 0, locals := 65 }
theorem cv_X5_change : cV yX5_change cX5_change 5 (some .int) 3 := ⟨k4_109, k4_110, k4_111, k1_6, by decide, by decide, by decide +kernel⟩
set_option maxHeartbeats 4000000 in
set_option maxRecDepth 100000 in
theorem c_X5_change (l : Launch) (D : va_G) (cI cC : ClassId) (adK adV : Nat → Nat) (y : Nat → Nat) (T K : Tw) (ik : Bool) (F f : Nat → Int32) (n : Nat) (s1 s2 s3 kr ar : Nat → Int32) (tk : Int32) (bg en : Nat) (vl : Int64) (cr : Nat → Int32) (hk : ik = true → kr = rowOf K) (ho : gOk T) (u : Int32) (w : Int32) (v : Int32) : FC l yX5_change (wW yX5_change cX5_change 5 (some .int)) r_X5_change D (tyC cI cC) adK adV (wMo cI cC y (rowOf T) (kr, ar, ik, F, f, n, tk, bg, en, vl, s1, s2, s3, cr)) [.ref (y 0), .int u, .int w, .int v] 0 0 (pMo cI cC y (m_change (T, K, ik, F, f, n, s1, s2, s3) u w v)) := by
  refine FC.of (own := RX5) (by decide) rfl (Nat.le_of_ble_eq_true rfl) ?_
  intro p9 e9 s9 m9 args9 below9 meth9 c9 A9 C hr hlk hmn
  show AW p9 l e9 r_X5_change s9 m9 args9 below9 meth9 c9 D A9 5 0 0 _ 0 [(0, .ref (y 0)), (1, .int u), (2, .int w), (3, .int v)] [] _
  have hn := ho.n
  refine aw_aload_n C dX5_change_0 rfl ?_
  refine aw_iload_n C dX5_change_1 rfl ?_
  refine aw_callVp C (As := [.int u]) (c_X5_isPerson l D cI cC adK adV y T (kr, ar, ik, F, f, n, tk, bg, en, vl, s1, s2, s3, cr) u hn) k4_77 cv_X5_isPerson 0 4 rfl rfl rfl [0, 1, 2, 3, 4, 5, 6, 7, 8, 9, 10, 11, 12] (by decide) rfl ⟨by decide, by decide⟩ rfl rfl ⟨by decide, by decide⟩ rfl rfl (Nat.le_of_ble_eq_true rfl) dX5_change_2 ?_
  refine aw_ifeq_b C 28 dX5_change_5 (by decide) (fun c_5 => ?_) (fun c_5 => ?_)
  · skip
    refine aw_aload_n C dX5_change_28 rfl ?_
    refine aw_iconst C (0 : Int32) dX5_change_29 (by decide) ?_
    refine aw_callVd C (As := [.int (0 : Int32)]) (c_X5_no l D cI cC adK adV y T (kr, ar, ik, F, f, n, tk, bg, en, vl, s1, s2, s3, cr) 0 (by decide)) k4_60 cv_X5_no 0 4 rfl rfl rfl [0, 1, 2, 3, 4, 5, 6, 7, 8, 9, 10, 11, 12] (by decide) rfl (wr := ([] : va_W)) [] rfl (by decide) (by decide) [0, 1, 2, 3, 4, 5, 6, 7, 8, 9, 10, 11, 12] (by decide) (ws' := wMo cI cC y (rowOf T) (kr, ar, ik, (upd F 0 (F 0 + 1)), f, n, tk, bg, en, vl, s1, s2, s3, cr)) rfl ⟨by decide, by decide⟩ rfl rfl ⟨by decide, by decide⟩ rfl rfl (Nat.le_of_ble_eq_true rfl) dX5_change_30 ?_
    have hm : m_change (T, K, ik, F, f, n, s1, s2, s3) u w v = ((fno 0), (T, K, ik, (upd F 0 (F 0 + 1)), f, n, s1, s2, s3)) := by exact chg_a c_5
    exact aw_iret C hr hlk dX5_change_33 ⟨ri (by rw [hm]), kr, ar, tk, bg, en, vl, cr, by first | (rw [hm]; done) | (rw [hm]; rfl), by rw [hm]; exact hk⟩
  · skip
    have l1 := there_lt hn c_5
    have e1 : u = nI (ix u) := there_ix c_5
    refine aw_eq (lv' := [(0, .ref (y 0)), (1, .int (nI (ix u))), (2, .int w), (3, .int v)]) (ws' := wMo cI cC y (rowOf T) (kr, ar, ik, F, f, n, tk, bg, en, vl, s1, s2, s3, cr)) (by rw [← e1]) rfl rfl ?_
    refine aw_iload_n C dX5_change_8 rfl ?_
    refine aw_pc 9 rfl ?_
    refine aw_iconst C (0 : Int32) dX5_change_9 (by decide) ?_
    refine aw_bipush C (6 : Int32) dX5_change_10 (by decide) ?_
    refine aw_callSp C (As := [.int w, .int (0 : Int32), .int (6 : Int32)]) (c_X5_in1 l D cI cC adK adV w (0 : Int32) (6 : Int32)) k4_54 cs_X5_in1 [] (by decide) rfl ⟨by decide, by decide⟩ rfl rfl ⟨by decide, by decide⟩ rfl rfl (Nat.le_of_ble_eq_true rfl) dX5_change_12 ?_
    refine aw_top (y := b2 (in0 w 7)) (by exact congrArg b2 (inL_in0 w (n := 7) (by decide) (by decide))) ?_
    refine aw_ifeq_b C 28 dX5_change_15 (by decide) (fun c_15 => ?_) (fun c_15 => ?_)
    · skip
      refine aw_aload_n C dX5_change_28 rfl ?_
      refine aw_iconst C (0 : Int32) dX5_change_29 (by decide) ?_
      refine aw_callVd C (As := [.int (0 : Int32)]) (c_X5_no l D cI cC adK adV y T (kr, ar, ik, F, f, n, tk, bg, en, vl, s1, s2, s3, cr) 0 (by decide)) k4_60 cv_X5_no 0 4 rfl rfl rfl [0, 1, 2, 3, 4, 5, 6, 7, 8, 9, 10, 11, 12] (by decide) rfl (wr := ([] : va_W)) [] rfl (by decide) (by decide) [0, 1, 2, 3, 4, 5, 6, 7, 8, 9, 10, 11, 12] (by decide) (ws' := wMo cI cC y (rowOf T) (kr, ar, ik, (upd F 0 (F 0 + 1)), f, n, tk, bg, en, vl, s1, s2, s3, cr)) rfl ⟨by decide, by decide⟩ rfl rfl ⟨by decide, by decide⟩ rfl rfl (Nat.le_of_ble_eq_true rfl) dX5_change_30 ?_
      have hm : m_change (T, K, ik, F, f, n, s1, s2, s3) u w v = ((fno 0), (T, K, ik, (upd F 0 (F 0 + 1)), f, n, s1, s2, s3)) := by exact chg_b c_5 (can_out c_15)
      exact aw_iret C hr hlk dX5_change_33 ⟨ri (by rw [hm]), kr, ar, tk, bg, en, vl, cr, by first | (rw [hm]; done) | (rw [hm]; rfl), by rw [hm]; exact hk⟩
    · skip
      obtain ⟨e7, l7⟩ := in0_ix (n := 7) (by decide) c_15
      refine aw_aload_n C dX5_change_18 rfl ?_
      refine aw_iload_n C dX5_change_19 rfl ?_
      refine aw_pc 20 rfl ?_
      refine aw_iload_n C dX5_change_20 rfl ?_
      refine aw_iload_n C dX5_change_21 rfl ?_
      refine aw_callVp C (As := [.int (nI (ix u)), .int w, .int v]) (c_X5_canBe l D cI cC adK adV y T (kr, ar, ik, F, f, n, tk, bg, en, vl, s1, s2, s3, cr) (ix u) w v (by omega) hn (by assumption)) k4_112 cv_X5_canBe 0 4 rfl rfl rfl [0, 1, 2, 3, 4, 5, 6, 7, 8, 9, 10, 11, 12] (by decide) rfl ⟨by decide, by decide⟩ rfl rfl ⟨by decide, by decide⟩ rfl rfl (Nat.le_of_ble_eq_true rfl) dX5_change_22 ?_
      refine aw_ifne_b C 34 dX5_change_25 (by decide) (fun c_25 => ?_) (fun c_25 => ?_)
      · skip
        have e2 : w = nI (ix w) := e7
        refine aw_eq (lv' := [(0, .ref (y 0)), (1, .int (nI (ix u))), (2, .int (nI (ix w))), (3, .int v)]) (ws' := wMo cI cC y (rowOf T) (kr, ar, ik, F, f, n, tk, bg, en, vl, s1, s2, s3, cr)) (by rw [← e2]) rfl rfl ?_
        refine aw_aload_n C dX5_change_34 rfl ?_
        refine aw_iload_n C dX5_change_35 rfl ?_
        refine aw_iload_n C dX5_change_36 rfl ?_
        refine aw_callVp C (As := [.int (nI (ix u)), .int (nI (ix w))]) (c_X5_get l D cI cC adK adV y T (kr, ar, ik, F, f, n, tk, bg, en, vl, s1, s2, s3, cr) (ix u) (ix w) (by omega) l7) k4_85 cv_X5_get 0 4 rfl rfl rfl [0, 1, 2, 3, 4, 5, 6, 7, 8, 9, 10, 11, 12] (by decide) rfl ⟨by decide, by decide⟩ rfl rfl ⟨by decide, by decide⟩ rfl rfl (Nat.le_of_ble_eq_true rfl) dX5_change_37 ?_
        refine aw_istore C true (lv' := [(0, .ref (y 0)), (1, .int (nI (ix u))), (2, .int (nI (ix w))), (3, .int v), (4, .int (T.2.2.1 (ix w) (ix u)))]) dX5_change_40 (by decide) rfl rfl ?_
        refine aw_pc 42 rfl ?_
        refine aw_aload_n C dX5_change_42 rfl ?_
        refine aw_iload_n C dX5_change_43 rfl ?_
        refine aw_iload_n C dX5_change_44 rfl ?_
        refine aw_iload_n C dX5_change_45 rfl ?_
        refine aw_callVdv C (As := [.int (nI (ix u)), .int (nI (ix w)), .int v]) (c_X5_puts l D cI cC adK adV y T (kr, ar, ik, F, f, n, tk, bg, en, vl, s1, s2, s3, cr) (ix u) (ix w) v (by omega) l7) k4_69 cv_X5_puts 0 4 rfl rfl rfl [0, 1, 2, 3, 4, 5, 6, 7, 8, 9, 10, 11, 12] (by decide) rfl (wr := ([] : va_W)) [] rfl (by decide) (by decide) [0, 1, 2, 3, 4, 5, 6, 7, 8, 9, 10, 11, 12] (by decide) (ws' := wMo cI cC y (rowOf (sP T (ix w) (ix u) v)) (kr, ar, ik, F, f, n, tk, bg, en, vl, s1, s2, s3, cr)) rfl ⟨by decide, by decide⟩ rfl rfl ⟨by decide, by decide⟩ rfl rfl (Nat.le_of_ble_eq_true rfl) dX5_change_46 ?_
        refine aw_iload C dX5_change_49 rfl ?_
        have hm : m_change (T, K, ik, F, f, n, s1, s2, s3) u w v = ((T.2.2.1 (ix w) (ix u)), ((sP T (ix w) (ix u) v), K, ik, F, f, n, s1, s2, s3)) := by exact chg_c c_5 c_25 e7 l7
        exact aw_iret C hr hlk dX5_change_51 ⟨ri (by rw [hm]), kr, ar, tk, bg, en, vl, cr, by first | (rw [hm]; done) | (rw [hm]; rfl), by rw [hm]; exact hk⟩
      · skip
        refine aw_aload_n C dX5_change_28 rfl ?_
        refine aw_iconst C (0 : Int32) dX5_change_29 (by decide) ?_
        refine aw_callVd C (As := [.int (0 : Int32)]) (c_X5_no l D cI cC adK adV y T (kr, ar, ik, F, f, n, tk, bg, en, vl, s1, s2, s3, cr) 0 (by decide)) k4_60 cv_X5_no 0 4 rfl rfl rfl [0, 1, 2, 3, 4, 5, 6, 7, 8, 9, 10, 11, 12] (by decide) rfl (wr := ([] : va_W)) [] rfl (by decide) (by decide) [0, 1, 2, 3, 4, 5, 6, 7, 8, 9, 10, 11, 12] (by decide) (ws' := wMo cI cC y (rowOf T) (kr, ar, ik, (upd F 0 (F 0 + 1)), f, n, tk, bg, en, vl, s1, s2, s3, cr)) rfl ⟨by decide, by decide⟩ rfl rfl ⟨by decide, by decide⟩ rfl rfl (Nat.le_of_ble_eq_true rfl) dX5_change_30 ?_
        refine aw_pc 33 rfl ?_
        have hm : m_change (T, K, ik, F, f, n, s1, s2, s3) u w v = ((fno 0), (T, K, ik, (upd F 0 (F 0 + 1)), f, n, s1, s2, s3)) := by exact chg_b c_5 c_25
        exact aw_iret C hr hlk dX5_change_33 ⟨ri (by rw [hm]), kr, ar, tk, bg, en, vl, cr, by first | (rw [hm]; done) | (rw [hm]; rfl), by rw [hm]; exact hk⟩
abbrev r_X5_pairs : Room := { frames := 1, cells := 0, slots := 0, locals := 22 }
theorem cv_X5_pairs : cV yX5_pairs cX5_pairs 5 (some .int) 1 := ⟨k4_205, k0_46, k4_206, k1_6, by decide, by decide, by decide +kernel⟩
set_option maxHeartbeats 4000000 in
set_option maxRecDepth 100000 in
theorem c_X5_pairs (l : Launch) (D : va_G) (cI cC : ClassId) (adK adV : Nat → Nat) (y : Nat → Nat) (T : Tw) (X : Mr) (fd : Nat) (ho : gOk T) (hf : fd < 7) : FC l yX5_pairs (wW yX5_pairs cX5_pairs 5 (some .int)) r_X5_pairs D (tyC cI cC) adK adV (wMo cI cC y (rowOf T) X) [.ref (y 0), .int (nI fd)] 0 0 (fQ (some (.int (mPairs T fd))) (wMo cI cC y (rowOf T) X)) := by
  refine FC.of (own := RX5) (by decide) rfl (Nat.le_of_ble_eq_true rfl) ?_
  intro p9 e9 s9 m9 args9 below9 meth9 c9 A9 C hr hlk hmn
  show AW p9 l e9 r_X5_pairs s9 m9 args9 below9 meth9 c9 D A9 5 0 0 _ 0 [(0, .ref (y 0)), (1, .int (nI fd))] [] _
  have hn := ho.n
  refine aw_iconst C (0 : Int32) dX5_pairs_0 (by decide) ?_
  refine aw_istore_n C true (lv' := [(0, .ref (y 0)), (1, .int (nI fd)), (2, .int (0 : Int32))]) dX5_pairs_1 (by decide) rfl rfl ?_
  refine aw_iconst C (0 : Int32) dX5_pairs_2 (by decide) ?_
  refine aw_istore_n C true (lv' := [(0, .ref (y 0)), (1, .int (nI fd)), (2, .int (0 : Int32)), (3, .int (0 : Int32))]) dX5_pairs_3 (by decide) rfl rfl ?_
  refine aw_eq (lv' := [(0, .ref (y 0)), (1, .int (nI fd)), (2, .int (itr (fun a x => itr (fun j x => bif tMut T fd a (a + 1 + j) then x + 1 else x) (T.1 - (a + 1)) x) 0 0)), (3, .int (nI 0))]) (ws' := wMo cI cC y (rowOf T) X) (by first | rfl | (simp only [itr])) rfl (by rfl) ?_
  refine aw_loop (LV := fun i1 => [(0, .ref (y 0)), (1, .int (nI fd)), (2, .int (itr (fun a x => itr (fun j x => bif tMut T fd a (a + 1 + j) then x + 1 else x) (T.1 - (a + 1)) x) i1 0)), (3, .int (nI i1))]) (WS := fun i1 => wMo cI cC y (rowOf T) X) T.1 (Inv := fun _ => True) trivial ?_ ?_
  · intro hv4
    refine aw_iload_n C dX5_pairs_4 rfl ?_
    refine aw_aload_n C dX5_pairs_5 rfl ?_
    refine aw_getf C 0 4 0 18 inX5 rfl (by decide) rfl k3_234 rfl rfl dX5_pairs_6 ?_
    refine aw_iconst C (1 : Int32) dX5_pairs_9 (by decide) ?_
    refine aw_ialdN C 1 0 1 rfl rfl rfl (by decide) (by decide) dX5_pairs_10 ?_
    refine aw_top (y := (nI T.1)) rfl ?_
    refine aw_pc 11 rfl ?_
    refine aw_icmp_ge C 66 dX5_pairs_11 (by decide) (fun c_11 => ?_) (fun c_11 => absurd c_11 (fun z => z (Int32.le_refl _)))
    refine aw_iload_n C dX5_pairs_66 rfl ?_
    exact aw_iret C hr hlk dX5_pairs_67 ⟨ri (by first | rfl | (simp only [])), by rfl⟩
  · intro i1 hi4 hv4 ih4
    refine aw_iload_n C dX5_pairs_4 rfl ?_
    refine aw_aload_n C dX5_pairs_5 rfl ?_
    refine aw_getf C 0 4 0 18 inX5 rfl (by decide) rfl k3_234 rfl rfl dX5_pairs_6 ?_
    refine aw_iconst C (1 : Int32) dX5_pairs_9 (by decide) ?_
    refine aw_ialdN C 1 0 1 rfl rfl rfl (by decide) (by decide) dX5_pairs_10 ?_
    refine aw_top (y := (nI T.1)) rfl ?_
    refine aw_icmp_ge C 66 dX5_pairs_11 (by decide) (fun c_11 => absurd c_11 (nI_ge hi4 (by omega))) (fun c_11 => ?_)
    refine aw_iload_n C dX5_pairs_14 rfl ?_
    refine aw_pc 15 rfl ?_
    refine aw_iconst C (1 : Int32) dX5_pairs_15 (by decide) ?_
    refine aw_iadd C dX5_pairs_16 ?_
    refine aw_top (y := (nI (i1 + 1 + 0))) (by exact nI_1 _) ?_
    refine aw_istore C true (lv' := [(0, .ref (y 0)), (1, .int (nI fd)), (2, .int (itr (fun a x => itr (fun j x => bif tMut T fd a (a + 1 + j) then x + 1 else x) (T.1 - (a + 1)) x) i1 0)), (3, .int (nI i1)), (4, .int (nI (i1 + 1 + 0)))]) dX5_pairs_17 (by decide) rfl rfl ?_
    refine aw_eq (lv' := [(0, .ref (y 0)), (1, .int (nI fd)), (2, .int (itr (fun j x => bif tMut T fd i1 (i1 + 1 + j) then x + 1 else x) 0 (itr (fun a x => itr (fun j x => bif tMut T fd a (a + 1 + j) then x + 1 else x) (T.1 - (a + 1)) x) i1 0))), (3, .int (nI i1)), (4, .int (nI (i1 + 1 + 0)))]) (ws' := wMo cI cC y (rowOf T) X) (by first | rfl | (simp only [itr])) rfl (by rfl) ?_
    refine aw_loop (LV := fun j1 => [(0, .ref (y 0)), (1, .int (nI fd)), (2, .int (itr (fun j x => bif tMut T fd i1 (i1 + 1 + j) then x + 1 else x) j1 (itr (fun a x => itr (fun j x => bif tMut T fd a (a + 1 + j) then x + 1 else x) (T.1 - (a + 1)) x) i1 0))), (3, .int (nI i1)), (4, .int (nI (i1 + 1 + j1)))]) (WS := fun j1 => wMo cI cC y (rowOf T) X) (T.1 - (i1 + 1)) (Inv := fun _ => True) trivial ?_ ?_
    · intro hv19
      refine aw_iload C dX5_pairs_19 rfl ?_
      refine aw_aload_n C dX5_pairs_21 rfl ?_
      refine aw_getf C 0 4 0 18 inX5 rfl (by decide) rfl k3_234 rfl rfl dX5_pairs_22 ?_
      refine aw_iconst C (1 : Int32) dX5_pairs_25 (by decide) ?_
      refine aw_ialdN C 1 0 1 rfl rfl rfl (by decide) (by decide) dX5_pairs_26 ?_
      refine aw_top (y := (nI T.1)) rfl ?_
      refine aw_icmp_ge C 60 dX5_pairs_27 (by decide) (fun c_27 => ?_) (fun c_27 => absurd c_27 (fun z => z (nI_le (by omega) (by omega))))
      refine aw_iinc C (nI (i1 + 1)) dX5_pairs_60 rfl (inc_nI _ 1) (by decide) rfl (lv' := [(0, .ref (y 0)), (1, .int (nI fd)), (2, .int (itr (fun j x => bif tMut T fd i1 (i1 + 1 + j) then x + 1 else x) (T.1 - (i1 + 1)) (itr (fun a x => itr (fun j x => bif tMut T fd a (a + 1 + j) then x + 1 else x) (T.1 - (a + 1)) x) i1 0))), (3, .int (nI (i1 + 1))), (4, .int (nI (i1 + 1 + (T.1 - (i1 + 1)))))]) rfl ?_
      refine aw_pc 63 rfl ?_
      refine aw_goto C 4 dX5_pairs_63 (by decide) ?_
      refine aw_sub (lv' := [(0, .ref (y 0)), (1, .int (nI fd)), (2, .int (itr (fun j x => bif tMut T fd i1 (i1 + 1 + j) then x + 1 else x) (T.1 - (i1 + 1)) (itr (fun a x => itr (fun j x => bif tMut T fd a (a + 1 + j) then x + 1 else x) (T.1 - (a + 1)) x) i1 0))), (3, .int (nI (i1 + 1)))]) [0, 1, 2, 3] rfl ?_
      exact aw_eq (by first | rfl | (simp only [itr])) rfl (by first | rfl | (simp only [itr] <;> first | done | rfl)) (ih4 trivial)
    · intro j1 hi19 hv19 ih19
      refine aw_iload C dX5_pairs_19 rfl ?_
      refine aw_aload_n C dX5_pairs_21 rfl ?_
      refine aw_getf C 0 4 0 18 inX5 rfl (by decide) rfl k3_234 rfl rfl dX5_pairs_22 ?_
      refine aw_iconst C (1 : Int32) dX5_pairs_25 (by decide) ?_
      refine aw_ialdN C 1 0 1 rfl rfl rfl (by decide) (by decide) dX5_pairs_26 ?_
      refine aw_top (y := (nI T.1)) rfl ?_
      refine aw_icmp_ge C 60 dX5_pairs_27 (by decide) (fun c_27 => absurd c_27 (nI_ge (by omega) (by omega))) (fun c_27 => ?_)
      refine aw_iload_n C dX5_pairs_30 rfl ?_
      refine aw_aload_n C dX5_pairs_31 rfl ?_
      refine aw_iload_n C dX5_pairs_32 rfl ?_
      refine aw_pc 33 rfl ?_
      refine aw_iload_n C dX5_pairs_33 rfl ?_
      refine aw_callVp C (As := [.int (nI i1), .int (nI fd)]) (c_X5_get l D cI cC adK adV y T X i1 fd (by omega) hf) k4_85 cv_X5_get 0 4 rfl rfl rfl [0, 1, 2, 3, 4, 5, 6, 7, 8, 9, 10, 11, 12] (by decide) rfl ⟨by decide, by decide⟩ rfl rfl ⟨by decide, by decide⟩ rfl rfl (Nat.le_of_ble_eq_true rfl) dX5_pairs_34 ?_
      refine aw_iload C dX5_pairs_37 rfl ?_
      refine aw_ishr C dX5_pairs_39 ?_
      refine aw_aload_n C dX5_pairs_40 rfl ?_
      refine aw_iload C dX5_pairs_41 rfl ?_
      refine aw_iload_n C dX5_pairs_43 rfl ?_
      refine aw_callVp C (As := [.int (nI (i1 + 1 + j1)), .int (nI fd)]) (c_X5_get l D cI cC adK adV y T X (i1 + 1 + j1) fd (by omega) hf) k4_85 cv_X5_get 0 4 rfl rfl rfl [0, 1, 2, 3, 4, 5, 6, 7, 8, 9, 10, 11, 12] (by decide) rfl ⟨by decide, by decide⟩ rfl rfl ⟨by decide, by decide⟩ rfl rfl (Nat.le_of_ble_eq_true rfl) dX5_pairs_44 ?_
      refine aw_iload_n C dX5_pairs_47 rfl ?_
      refine aw_ishr C dX5_pairs_48 ?_
      refine aw_pc 49 rfl ?_
      refine aw_iand C dX5_pairs_49 ?_
      refine aw_iconst C (1 : Int32) dX5_pairs_50 (by decide) ?_
      refine aw_iand C dX5_pairs_51 ?_
      refine aw_iadd C dX5_pairs_52 ?_
      refine aw_istore_n C false (lv' := [(0, .ref (y 0)), (1, .int (nI fd)), (2, .int ((itr (fun j x => bif tMut T fd i1 (i1 + 1 + j) then x + 1 else x) j1 (itr (fun a x => itr (fun j x => bif tMut T fd a (a + 1 + j) then x + 1 else x) (T.1 - (a + 1)) x) i1 0)) + ((((T.2.2.1 fd i1) >>> ((nI (i1 + 1 + j1)) &&& 31)) &&& ((T.2.2.1 fd (i1 + 1 + j1)) >>> ((nI i1) &&& 31))) &&& (1 : Int32)))), (3, .int (nI i1)), (4, .int (nI (i1 + 1 + j1)))]) dX5_pairs_53 (by decide) rfl rfl ?_
      refine aw_iinc C (nI ((i1 + 1 + j1) + 1)) dX5_pairs_54 rfl (inc_nI _ 1) (by decide) rfl (lv' := [(0, .ref (y 0)), (1, .int (nI fd)), (2, .int ((itr (fun j x => bif tMut T fd i1 (i1 + 1 + j) then x + 1 else x) j1 (itr (fun a x => itr (fun j x => bif tMut T fd a (a + 1 + j) then x + 1 else x) (T.1 - (a + 1)) x) i1 0)) + ((((T.2.2.1 fd i1) >>> ((nI (i1 + 1 + j1)) &&& 31)) &&& ((T.2.2.1 fd (i1 + 1 + j1)) >>> ((nI i1) &&& 31))) &&& (1 : Int32)))), (3, .int (nI i1)), (4, .int (nI ((i1 + 1 + j1) + 1)))]) rfl ?_
      refine aw_goto C 19 dX5_pairs_57 (by decide) ?_
      exact aw_eq (by rw [itr_s, ← pair_add]; rfl) rfl (by first | rfl | (simp only [itr] <;> first | done | rfl)) (ih19 trivial)
abbrev r_X5_now : Room := { frames := 2, cells := 0, slots := 0, locals := 46 }
theorem cv_X5_now : cV yX5_now cX5_now 2 (some .int) 1 := ⟨k4_196, k4_197, k4_198, k1_6, by decide, by decide, by decide +kernel⟩
set_option maxHeartbeats 4000000 in
set_option maxRecDepth 100000 in
theorem c_X5_now (l : Launch) (D : va_G) (cI cC : ClassId) (adK adV : Nat → Nat) (y : Nat → Nat) (T K : Tw) (ik : Bool) (F f : Nat → Int32) (n : Nat) (s1 s2 s3 kr ar : Nat → Int32) (tk : Int32) (bg en : Nat) (vl : Int64) (cr : Nat → Int32) (hk : ik = true → kr = rowOf K) (ho : gOk T) (w : Int32) : FC l yX5_now (wW yX5_now cX5_now 2 (some .int)) r_X5_now D (tyC cI cC) adK adV (wMo cI cC y (rowOf T) (kr, ar, ik, F, f, n, tk, bg, en, vl, s1, s2, s3, cr)) [.ref (y 0), .int w] 0 0 (pMo cI cC y (m_now (T, K, ik, F, f, n, s1, s2, s3) w)) := by
  refine FC.of (own := RX5) (by decide) rfl (Nat.le_of_ble_eq_true rfl) ?_
  intro p9 e9 s9 m9 args9 below9 meth9 c9 A9 C hr hlk hmn
  show AW p9 l e9 r_X5_now s9 m9 args9 below9 meth9 c9 D A9 2 0 0 _ 0 [(0, .ref (y 0)), (1, .int w)] [] _
  have hn := ho.n
  refine aw_iload_n C dX5_now_0 rfl ?_
  by_cases s_1_0 : w = (0 : Int32)
  · skip
    refine aw_tabIn C (0) 48 dX5_now_1 (by rw [s_1_0]; rfl) (by decide) (by decide) rfl (by decide) ?_
    refine aw_aload_n C dX5_now_48 rfl ?_
    refine aw_getf C 0 4 0 18 inX5 rfl (by decide) rfl k3_234 rfl rfl dX5_now_49 ?_
    refine aw_iconst C (0 : Int32) dX5_now_52 (by decide) ?_
    refine aw_ialdN C 1 0 0 rfl rfl rfl (by decide) (by decide) dX5_now_53 ?_
    refine aw_top (y := (T.2.1 0)) rfl ?_
    have hm : m_now (T, K, ik, F, f, n, s1, s2, s3) w = ((T.2.1 0), (T, K, ik, F, f, n, s1, s2, s3)) := by simp only [m_now, if_pos s_1_0, decide_true, decide_false, Bool.not_true, Bool.not_false, Bool.true_and, Bool.false_and, Bool.and_true, Bool.and_false, Bool.true_or, Bool.false_or, Bool.or_true, Bool.or_false, cond_true, cond_false, eq_self, if_true, if_false, ite_true, ite_false] <;> rfl
    exact aw_iret C hr hlk dX5_now_54 ⟨ri (by rw [hm]), kr, ar, tk, bg, en, vl, cr, by first | (rw [hm]; done) | (rw [hm]; rfl), by rw [hm]; exact hk⟩
  by_cases s_1_1 : w = (1 : Int32)
  · skip
    refine aw_tabIn C (1) 55 dX5_now_1 (by rw [s_1_1]; rfl) (by decide) (by decide) rfl (by decide) ?_
    refine aw_aload_n C dX5_now_55 rfl ?_
    refine aw_getf C 0 4 0 18 inX5 rfl (by decide) rfl k3_234 rfl rfl dX5_now_56 ?_
    refine aw_pc 59 rfl ?_
    refine aw_iconst C (3 : Int32) dX5_now_59 (by decide) ?_
    refine aw_ialdN C 1 0 3 rfl rfl rfl (by decide) (by decide) dX5_now_60 ?_
    refine aw_top (y := (T.2.1 3)) rfl ?_
    have hm : m_now (T, K, ik, F, f, n, s1, s2, s3) w = ((T.2.1 3), (T, K, ik, F, f, n, s1, s2, s3)) := by simp only [m_now, if_pos s_1_1, if_neg s_1_0, decide_true, decide_false, Bool.not_true, Bool.not_false, Bool.true_and, Bool.false_and, Bool.and_true, Bool.and_false, Bool.true_or, Bool.false_or, Bool.or_true, Bool.or_false, cond_true, cond_false, eq_self, if_true, if_false, ite_true, ite_false] <;> rfl
    exact aw_iret C hr hlk dX5_now_61 ⟨ri (by rw [hm]), kr, ar, tk, bg, en, vl, cr, by first | (rw [hm]; done) | (rw [hm]; rfl), by rw [hm]; exact hk⟩
  by_cases s_1_2 : w = (2 : Int32)
  · skip
    refine aw_tabIn C (2) 62 dX5_now_1 (by rw [s_1_2]; rfl) (by decide) (by decide) rfl (by decide) ?_
    refine aw_aload_n C dX5_now_62 rfl ?_
    refine aw_callVp C (As := []) (c_X5_whoKnow l D cI cC adK adV y T (kr, ar, ik, F, f, n, tk, bg, en, vl, s1, s2, s3, cr)  ho) k4_199 cv_X5_whoKnow 0 4 rfl rfl rfl [0, 1, 2, 3, 4, 5, 6, 7, 8, 9, 10, 11, 12] (by decide) rfl ⟨by decide, by decide⟩ rfl rfl ⟨by decide, by decide⟩ rfl rfl (Nat.le_of_ble_eq_true rfl) dX5_now_63 ?_
    have hm : m_now (T, K, ik, F, f, n, s1, s2, s3) w = ((mKnowers T), (T, K, ik, F, f, n, s1, s2, s3)) := by simp only [m_now, if_pos s_1_2, if_neg s_1_0, if_neg s_1_1, decide_true, decide_false, Bool.not_true, Bool.not_false, Bool.true_and, Bool.false_and, Bool.and_true, Bool.and_false, Bool.true_or, Bool.false_or, Bool.or_true, Bool.or_false, cond_true, cond_false, eq_self, if_true, if_false, ite_true, ite_false] <;> rfl
    exact aw_iret C hr hlk dX5_now_66 ⟨ri (by rw [hm]), kr, ar, tk, bg, en, vl, cr, by first | (rw [hm]; done) | (rw [hm]; rfl), by rw [hm]; exact hk⟩
  by_cases s_1_3 : w = (3 : Int32)
  · skip
    refine aw_tabIn C (3) 67 dX5_now_1 (by rw [s_1_3]; rfl) (by decide) (by decide) rfl (by decide) ?_
    refine aw_aload_n C dX5_now_67 rfl ?_
    refine aw_iconst C (4 : Int32) dX5_now_68 (by decide) ?_
    refine aw_callVp C (As := [.int (4 : Int32)]) (c_X5_pairs l D cI cC adK adV y T (kr, ar, ik, F, f, n, tk, bg, en, vl, s1, s2, s3, cr) 4 ho (by decide)) k4_203 cv_X5_pairs 0 4 rfl rfl rfl [0, 1, 2, 3, 4, 5, 6, 7, 8, 9, 10, 11, 12] (by decide) rfl ⟨by decide, by decide⟩ rfl rfl ⟨by decide, by decide⟩ rfl rfl (Nat.le_of_ble_eq_true rfl) dX5_now_69 ?_
    have hm : m_now (T, K, ik, F, f, n, s1, s2, s3) w = ((mPairs T 4), (T, K, ik, F, f, n, s1, s2, s3)) := by simp only [m_now, if_pos s_1_3, if_neg s_1_0, if_neg s_1_1, if_neg s_1_2, decide_true, decide_false, Bool.not_true, Bool.not_false, Bool.true_and, Bool.false_and, Bool.and_true, Bool.and_false, Bool.true_or, Bool.false_or, Bool.or_true, Bool.or_false, cond_true, cond_false, eq_self, if_true, if_false, ite_true, ite_false] <;> rfl
    exact aw_iret C hr hlk dX5_now_72 ⟨ri (by rw [hm]), kr, ar, tk, bg, en, vl, cr, by first | (rw [hm]; done) | (rw [hm]; rfl), by rw [hm]; exact hk⟩
  by_cases s_1_4 : w = (4 : Int32)
  · skip
    refine aw_tabIn C (4) 73 dX5_now_1 (by rw [s_1_4]; rfl) (by decide) (by decide) rfl (by decide) ?_
    refine aw_pc 73 rfl ?_
    refine aw_aload_n C dX5_now_73 rfl ?_
    refine aw_iconst C (3 : Int32) dX5_now_74 (by decide) ?_
    refine aw_callVp C (As := [.int (3 : Int32)]) (c_X5_pairs l D cI cC adK adV y T (kr, ar, ik, F, f, n, tk, bg, en, vl, s1, s2, s3, cr) 3 ho (by decide)) k4_203 cv_X5_pairs 0 4 rfl rfl rfl [0, 1, 2, 3, 4, 5, 6, 7, 8, 9, 10, 11, 12] (by decide) rfl ⟨by decide, by decide⟩ rfl rfl ⟨by decide, by decide⟩ rfl rfl (Nat.le_of_ble_eq_true rfl) dX5_now_75 ?_
    have hm : m_now (T, K, ik, F, f, n, s1, s2, s3) w = ((mPairs T 3), (T, K, ik, F, f, n, s1, s2, s3)) := by simp only [m_now, if_pos s_1_4, if_neg s_1_0, if_neg s_1_1, if_neg s_1_2, if_neg s_1_3, decide_true, decide_false, Bool.not_true, Bool.not_false, Bool.true_and, Bool.false_and, Bool.and_true, Bool.and_false, Bool.true_or, Bool.false_or, Bool.or_true, Bool.or_false, cond_true, cond_false, eq_self, if_true, if_false, ite_true, ite_false] <;> rfl
    exact aw_iret C hr hlk dX5_now_78 ⟨ri (by rw [hm]), kr, ar, tk, bg, en, vl, cr, by first | (rw [hm]; done) | (rw [hm]; rfl), by rw [hm]; exact hk⟩
  by_cases s_1_5 : w = (5 : Int32)
  · skip
    refine aw_tabIn C (5) 79 dX5_now_1 (by rw [s_1_5]; rfl) (by decide) (by decide) rfl (by decide) ?_
    refine aw_aload_n C dX5_now_79 rfl ?_
    refine aw_callVp C (As := []) (c_X5_worn l D cI cC adK adV y T (kr, ar, ik, F, f, n, tk, bg, en, vl, s1, s2, s3, cr)  ho) k4_207 cv_X5_worn 0 4 rfl rfl rfl [0, 1, 2, 3, 4, 5, 6, 7, 8, 9, 10, 11, 12] (by decide) rfl ⟨by decide, by decide⟩ rfl rfl ⟨by decide, by decide⟩ rfl rfl (Nat.le_of_ble_eq_true rfl) dX5_now_80 ?_
    have hm : m_now (T, K, ik, F, f, n, s1, s2, s3) w = ((mWorn T), (T, K, ik, F, f, n, s1, s2, s3)) := by simp only [m_now, if_pos s_1_5, if_neg s_1_0, if_neg s_1_1, if_neg s_1_2, if_neg s_1_3, if_neg s_1_4, decide_true, decide_false, Bool.not_true, Bool.not_false, Bool.true_and, Bool.false_and, Bool.and_true, Bool.and_false, Bool.true_or, Bool.false_or, Bool.or_true, Bool.or_false, cond_true, cond_false, eq_self, if_true, if_false, ite_true, ite_false] <;> rfl
    exact aw_iret C hr hlk dX5_now_83 ⟨ri (by rw [hm]), kr, ar, tk, bg, en, vl, cr, by first | (rw [hm]; done) | (rw [hm]; rfl), by rw [hm]; exact hk⟩
  by_cases s_1_6 : w = (6 : Int32)
  · skip
    refine aw_tabIn C (6) 84 dX5_now_1 (by rw [s_1_6]; rfl) (by decide) (by decide) rfl (by decide) ?_
    refine aw_aload_n C dX5_now_84 rfl ?_
    refine aw_callVp C (As := []) (c_X5_passedAll l D cI cC adK adV y T (kr, ar, ik, F, f, n, tk, bg, en, vl, s1, s2, s3, cr)  ho) k4_211 cv_X5_passedAll 0 4 rfl rfl rfl [0, 1, 2, 3, 4, 5, 6, 7, 8, 9, 10, 11, 12] (by decide) rfl ⟨by decide, by decide⟩ rfl rfl ⟨by decide, by decide⟩ rfl rfl (Nat.le_of_ble_eq_true rfl) dX5_now_85 ?_
    have hm : m_now (T, K, ik, F, f, n, s1, s2, s3) w = ((mPassed T), (T, K, ik, F, f, n, s1, s2, s3)) := by simp only [m_now, if_pos s_1_6, if_neg s_1_0, if_neg s_1_1, if_neg s_1_2, if_neg s_1_3, if_neg s_1_4, if_neg s_1_5, decide_true, decide_false, Bool.not_true, Bool.not_false, Bool.true_and, Bool.false_and, Bool.and_true, Bool.and_false, Bool.true_or, Bool.false_or, Bool.or_true, Bool.or_false, cond_true, cond_false, eq_self, if_true, if_false, ite_true, ite_false] <;> rfl
    exact aw_iret C hr hlk dX5_now_88 ⟨ri (by rw [hm]), kr, ar, tk, bg, en, vl, cr, by first | (rw [hm]; done) | (rw [hm]; rfl), by rw [hm]; exact hk⟩
  by_cases s_1_7 : w = (7 : Int32)
  · skip
    refine aw_tabIn C (7) 89 dX5_now_1 (by rw [s_1_7]; rfl) (by decide) (by decide) rfl (by decide) ?_
    refine aw_pc 89 rfl ?_
    refine aw_aload_n C dX5_now_89 rfl ?_
    refine aw_callVp C (As := []) (c_X5_isBare l D cI cC adK adV y T (kr, ar, ik, F, f, n, tk, bg, en, vl, s1, s2, s3, cr) ) k4_89 cv_X5_isBare 0 4 rfl rfl rfl [0, 1, 2, 3, 4, 5, 6, 7, 8, 9, 10, 11, 12] (by decide) rfl ⟨by decide, by decide⟩ rfl rfl ⟨by decide, by decide⟩ rfl rfl (Nat.le_of_ble_eq_true rfl) dX5_now_90 ?_
    refine aw_ifeq_b C 100 dX5_now_93 (by decide) (fun c_93 => ?_) (fun c_93 => ?_)
    · skip
      refine aw_iconst C (0 : Int32) dX5_now_100 (by decide) ?_
      have hm : m_now (T, K, ik, F, f, n, s1, s2, s3) w = ((0 : Int32), (T, K, ik, F, f, n, s1, s2, s3)) := by simp only [m_now, if_pos s_1_7, if_neg s_1_0, if_neg s_1_1, if_neg s_1_2, if_neg s_1_3, if_neg s_1_4, if_neg s_1_5, if_neg s_1_6, c_93, decide_true, decide_false, Bool.not_true, Bool.not_false, Bool.true_and, Bool.false_and, Bool.and_true, Bool.and_false, Bool.true_or, Bool.false_or, Bool.or_true, Bool.or_false, cond_true, cond_false, eq_self, if_true, if_false, ite_true, ite_false] <;> rfl
      exact aw_iret C hr hlk dX5_now_101 ⟨ri (by rw [hm]), kr, ar, tk, bg, en, vl, cr, by first | (rw [hm]; done) | (rw [hm]; rfl), by rw [hm]; exact hk⟩
    · skip
      refine aw_iconst C (1 : Int32) dX5_now_96 (by decide) ?_
      refine aw_goto C 101 dX5_now_97 (by decide) ?_
      have hm : m_now (T, K, ik, F, f, n, s1, s2, s3) w = ((1 : Int32), (T, K, ik, F, f, n, s1, s2, s3)) := by simp only [m_now, if_pos s_1_7, if_neg s_1_0, if_neg s_1_1, if_neg s_1_2, if_neg s_1_3, if_neg s_1_4, if_neg s_1_5, if_neg s_1_6, c_93, decide_true, decide_false, Bool.not_true, Bool.not_false, Bool.true_and, Bool.false_and, Bool.and_true, Bool.and_false, Bool.true_or, Bool.false_or, Bool.or_true, Bool.or_false, cond_true, cond_false, eq_self, if_true, if_false, ite_true, ite_false] <;> rfl
      exact aw_iret C hr hlk dX5_now_101 ⟨ri (by rw [hm]), kr, ar, tk, bg, en, vl, cr, by first | (rw [hm]; done) | (rw [hm]; rfl), by rw [hm]; exact hk⟩
  refine aw_tabOut C 102 dX5_now_1 (by have q0 := ne_toInt s_1_0 (z := 0) rfl; have q1 := ne_toInt s_1_1 (z := 1) rfl; have q2 := ne_toInt s_1_2 (z := 2) rfl; have q3 := ne_toInt s_1_3 (z := 3) rfl; have q4 := ne_toInt s_1_4 (z := 4) rfl; have q5 := ne_toInt s_1_5 (z := 5) rfl; have q6 := ne_toInt s_1_6 (z := 6) rfl; have q7 := ne_toInt s_1_7 (z := 7) rfl; omega) (by decide) ?_
  refine aw_aload_n C dX5_now_102 rfl ?_
  refine aw_iconst C (0 : Int32) dX5_now_103 (by decide) ?_
  refine aw_pc 104 rfl ?_
  refine aw_callVd C (As := [.int (0 : Int32)]) (c_X5_no l D cI cC adK adV y T (kr, ar, ik, F, f, n, tk, bg, en, vl, s1, s2, s3, cr) 0 (by decide)) k4_60 cv_X5_no 0 4 rfl rfl rfl [0, 1, 2, 3, 4, 5, 6, 7, 8, 9, 10, 11, 12] (by decide) rfl (wr := ([] : va_W)) [] rfl (by decide) (by decide) [0, 1, 2, 3, 4, 5, 6, 7, 8, 9, 10, 11, 12] (by decide) (ws' := wMo cI cC y (rowOf T) (kr, ar, ik, (upd F 0 (F 0 + 1)), f, n, tk, bg, en, vl, s1, s2, s3, cr)) rfl ⟨by decide, by decide⟩ rfl rfl ⟨by decide, by decide⟩ rfl rfl (Nat.le_of_ble_eq_true rfl) dX5_now_104 ?_
  have hm : m_now (T, K, ik, F, f, n, s1, s2, s3) w = ((fno 0), (T, K, ik, (upd F 0 (F 0 + 1)), f, n, s1, s2, s3)) := by simp only [m_now, if_neg s_1_0, if_neg s_1_1, if_neg s_1_2, if_neg s_1_3, if_neg s_1_4, if_neg s_1_5, if_neg s_1_6, if_neg s_1_7, decide_true, decide_false, Bool.not_true, Bool.not_false, Bool.true_and, Bool.false_and, Bool.and_true, Bool.and_false, Bool.true_or, Bool.false_or, Bool.or_true, Bool.or_false, cond_true, cond_false, eq_self, if_true, if_false, ite_true, ite_false] <;> rfl
  exact aw_iret C hr hlk dX5_now_107 ⟨ri (by rw [hm]), kr, ar, tk, bg, en, vl, cr, by first | (rw [hm]; done) | (rw [hm]; rfl), by rw [hm]; exact hk⟩
