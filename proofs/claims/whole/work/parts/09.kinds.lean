/-! Kinds, bitCount, and the small methods of a Town -/
abbrev r_J6_bitCount_0f7a4 : Room := { frames := 0, cells := 0, slots := 0, locals := 0 }
theorem cs_J6_bitCount_0f7a4 : cS yJ6_bitCount_0f7a4 cJ6_bitCount_0f7a4 1 (some .int) 1 := ⟨k1_190, k1_191, k1_8, by decide, by decide, by decide +kernel⟩
set_option maxHeartbeats 4000000 in
set_option maxRecDepth 100000 in
theorem c_J6_bitCount_0f7a4 (l : Launch) (D : va_G) (cI cC : ClassId) (adK adV : Nat → Nat) (x : Int32) : FC l yJ6_bitCount_0f7a4 (wW yJ6_bitCount_0f7a4 cJ6_bitCount_0f7a4 1 (some .int)) r_J6_bitCount_0f7a4 D (tyC cI cC) adK adV (([] : va_W)) [.int x] 0 0 (fQ (some (.int (bcE x))) (([] : va_W))) := by
  refine FC.of (own := RJ6) (by decide) rfl (Nat.le_of_ble_eq_true rfl) ?_
  intro p9 e9 s9 m9 args9 below9 meth9 c9 A9 C hr hlk hmn
  show AW p9 l e9 r_J6_bitCount_0f7a4 s9 m9 args9 below9 meth9 c9 D A9 1 0 0 _ 0 [(0, .int x)] [] _
  refine aw_iload_n C dJ6_bitCount_0f7a4_0 rfl ?_
  refine aw_iload_n C dJ6_bitCount_0f7a4_1 rfl ?_
  refine aw_iconst C (1 : Int32) dJ6_bitCount_0f7a4_2 (by decide) ?_
  refine aw_iushr C dJ6_bitCount_0f7a4_3 ?_
  refine aw_ldcw C k1_192 dJ6_bitCount_0f7a4_4 ?_
  refine aw_iand C dJ6_bitCount_0f7a4_7 ?_
  refine aw_isub C dJ6_bitCount_0f7a4_8 ?_
  refine aw_istore_n C false (lv' := [(0, .int (x - ((us x (1 : Int32)) &&& (1431655765 : Int32))))]) dJ6_bitCount_0f7a4_9 (by decide) rfl rfl ?_
  refine aw_iload_n C dJ6_bitCount_0f7a4_10 rfl ?_
  refine aw_pc 11 rfl ?_
  refine aw_ldcw C k1_193 dJ6_bitCount_0f7a4_11 ?_
  refine aw_iand C dJ6_bitCount_0f7a4_14 ?_
  refine aw_iload_n C dJ6_bitCount_0f7a4_15 rfl ?_
  refine aw_iconst C (2 : Int32) dJ6_bitCount_0f7a4_16 (by decide) ?_
  refine aw_iushr C dJ6_bitCount_0f7a4_17 ?_
  refine aw_ldcw C k1_193 dJ6_bitCount_0f7a4_18 ?_
  refine aw_iand C dJ6_bitCount_0f7a4_21 ?_
  refine aw_iadd C dJ6_bitCount_0f7a4_22 ?_
  refine aw_istore_n C false (lv' := [(0, .int (((x - ((us x (1 : Int32)) &&& (1431655765 : Int32))) &&& (858993459 : Int32)) + ((us (x - ((us x (1 : Int32)) &&& (1431655765 : Int32))) (2 : Int32)) &&& (858993459 : Int32))))]) dJ6_bitCount_0f7a4_23 (by decide) rfl rfl ?_
  refine aw_iload_n C dJ6_bitCount_0f7a4_24 rfl ?_
  refine aw_pc 25 rfl ?_
  refine aw_iload_n C dJ6_bitCount_0f7a4_25 rfl ?_
  refine aw_iconst C (4 : Int32) dJ6_bitCount_0f7a4_26 (by decide) ?_
  refine aw_iushr C dJ6_bitCount_0f7a4_27 ?_
  refine aw_iadd C dJ6_bitCount_0f7a4_28 ?_
  refine aw_ldcw C k1_194 dJ6_bitCount_0f7a4_29 ?_
  refine aw_iand C dJ6_bitCount_0f7a4_32 ?_
  refine aw_istore_n C false (lv' := [(0, .int (((((x - ((us x (1 : Int32)) &&& (1431655765 : Int32))) &&& (858993459 : Int32)) + ((us (x - ((us x (1 : Int32)) &&& (1431655765 : Int32))) (2 : Int32)) &&& (858993459 : Int32))) + (us (((x - ((us x (1 : Int32)) &&& (1431655765 : Int32))) &&& (858993459 : Int32)) + ((us (x - ((us x (1 : Int32)) &&& (1431655765 : Int32))) (2 : Int32)) &&& (858993459 : Int32))) (4 : Int32))) &&& (252645135 : Int32)))]) dJ6_bitCount_0f7a4_33 (by decide) rfl rfl ?_
  refine aw_iload_n C dJ6_bitCount_0f7a4_34 rfl ?_
  refine aw_iload_n C dJ6_bitCount_0f7a4_35 rfl ?_
  refine aw_bipush C (8 : Int32) dJ6_bitCount_0f7a4_36 (by decide) ?_
  refine aw_pc 38 rfl ?_
  refine aw_iushr C dJ6_bitCount_0f7a4_38 ?_
  refine aw_iadd C dJ6_bitCount_0f7a4_39 ?_
  refine aw_istore_n C false (lv' := [(0, .int ((((((x - ((us x (1 : Int32)) &&& (1431655765 : Int32))) &&& (858993459 : Int32)) + ((us (x - ((us x (1 : Int32)) &&& (1431655765 : Int32))) (2 : Int32)) &&& (858993459 : Int32))) + (us (((x - ((us x (1 : Int32)) &&& (1431655765 : Int32))) &&& (858993459 : Int32)) + ((us (x - ((us x (1 : Int32)) &&& (1431655765 : Int32))) (2 : Int32)) &&& (858993459 : Int32))) (4 : Int32))) &&& (252645135 : Int32)) + (us (((((x - ((us x (1 : Int32)) &&& (1431655765 : Int32))) &&& (858993459 : Int32)) + ((us (x - ((us x (1 : Int32)) &&& (1431655765 : Int32))) (2 : Int32)) &&& (858993459 : Int32))) + (us (((x - ((us x (1 : Int32)) &&& (1431655765 : Int32))) &&& (858993459 : Int32)) + ((us (x - ((us x (1 : Int32)) &&& (1431655765 : Int32))) (2 : Int32)) &&& (858993459 : Int32))) (4 : Int32))) &&& (252645135 : Int32)) (8 : Int32))))]) dJ6_bitCount_0f7a4_40 (by decide) rfl rfl ?_
  refine aw_iload_n C dJ6_bitCount_0f7a4_41 rfl ?_
  refine aw_iload_n C dJ6_bitCount_0f7a4_42 rfl ?_
  refine aw_bipush C (16 : Int32) dJ6_bitCount_0f7a4_43 (by decide) ?_
  refine aw_iushr C dJ6_bitCount_0f7a4_45 ?_
  refine aw_iadd C dJ6_bitCount_0f7a4_46 ?_
  refine aw_istore_n C false (lv' := [(0, .int (((((((x - ((us x (1 : Int32)) &&& (1431655765 : Int32))) &&& (858993459 : Int32)) + ((us (x - ((us x (1 : Int32)) &&& (1431655765 : Int32))) (2 : Int32)) &&& (858993459 : Int32))) + (us (((x - ((us x (1 : Int32)) &&& (1431655765 : Int32))) &&& (858993459 : Int32)) + ((us (x - ((us x (1 : Int32)) &&& (1431655765 : Int32))) (2 : Int32)) &&& (858993459 : Int32))) (4 : Int32))) &&& (252645135 : Int32)) + (us (((((x - ((us x (1 : Int32)) &&& (1431655765 : Int32))) &&& (858993459 : Int32)) + ((us (x - ((us x (1 : Int32)) &&& (1431655765 : Int32))) (2 : Int32)) &&& (858993459 : Int32))) + (us (((x - ((us x (1 : Int32)) &&& (1431655765 : Int32))) &&& (858993459 : Int32)) + ((us (x - ((us x (1 : Int32)) &&& (1431655765 : Int32))) (2 : Int32)) &&& (858993459 : Int32))) (4 : Int32))) &&& (252645135 : Int32)) (8 : Int32))) + (us ((((((x - ((us x (1 : Int32)) &&& (1431655765 : Int32))) &&& (858993459 : Int32)) + ((us (x - ((us x (1 : Int32)) &&& (1431655765 : Int32))) (2 : Int32)) &&& (858993459 : Int32))) + (us (((x - ((us x (1 : Int32)) &&& (1431655765 : Int32))) &&& (858993459 : Int32)) + ((us (x - ((us x (1 : Int32)) &&& (1431655765 : Int32))) (2 : Int32)) &&& (858993459 : Int32))) (4 : Int32))) &&& (252645135 : Int32)) + (us (((((x - ((us x (1 : Int32)) &&& (1431655765 : Int32))) &&& (858993459 : Int32)) + ((us (x - ((us x (1 : Int32)) &&& (1431655765 : Int32))) (2 : Int32)) &&& (858993459 : Int32))) + (us (((x - ((us x (1 : Int32)) &&& (1431655765 : Int32))) &&& (858993459 : Int32)) + ((us (x - ((us x (1 : Int32)) &&& (1431655765 : Int32))) (2 : Int32)) &&& (858993459 : Int32))) (4 : Int32))) &&& (252645135 : Int32)) (8 : Int32))) (16 : Int32))))]) dJ6_bitCount_0f7a4_47 (by decide) rfl rfl ?_
  refine aw_iload_n C dJ6_bitCount_0f7a4_48 rfl ?_
  refine aw_pc 49 rfl ?_
  refine aw_bipush C (63 : Int32) dJ6_bitCount_0f7a4_49 (by decide) ?_
  refine aw_iand C dJ6_bitCount_0f7a4_51 ?_
  exact aw_iret C hr hlk dJ6_bitCount_0f7a4_52 ⟨ri (by first | rfl | (simp only [])), by rfl⟩
abbrev r_X3_isTheDay : Room := { frames := 0, cells := 0, slots := 0, locals := 0 }
theorem cs_X3_isTheDay : cS yX3_isTheDay cX3_isTheDay 1 (some .boolean) 1 := ⟨k1_181, k1_182, k1_2, by decide, by decide, by decide +kernel⟩
set_option maxHeartbeats 4000000 in
set_option maxRecDepth 100000 in
theorem c_X3_isTheDay (l : Launch) (D : va_G) (cI cC : ClassId) (adK adV : Nat → Nat) (d : Int32) : FC l yX3_isTheDay (wW yX3_isTheDay cX3_isTheDay 1 (some .boolean)) r_X3_isTheDay D (tyC cI cC) adK adV (([] : va_W)) [.int d] 0 0 (fQ (some (.int (b2 (mBare d)))) (([] : va_W))) := by
  refine FC.of (own := RX3) (by decide) rfl (Nat.le_of_ble_eq_true rfl) ?_
  intro p9 e9 s9 m9 args9 below9 meth9 c9 A9 C hr hlk hmn
  show AW p9 l e9 r_X3_isTheDay s9 m9 args9 below9 meth9 c9 D A9 1 0 0 _ 0 [(0, .int d)] [] _
  refine aw_iload_n C dX3_isTheDay_0 rfl ?_
  refine aw_bipush C (12 : Int32) dX3_isTheDay_1 (by decide) ?_
  refine aw_irem C dX3_isTheDay_3 (by decide) ?_
  refine aw_bipush C (11 : Int32) dX3_isTheDay_4 (by decide) ?_
  refine aw_icmp_ne C 13 dX3_isTheDay_6 (by decide) (fun c_6 => ?_) (fun c_6 => ?_)
  · skip
    refine aw_iconst C (0 : Int32) dX3_isTheDay_13 (by decide) ?_
    exact aw_bret C (b := false) hr hlk dX3_isTheDay_14 rfl ⟨rb (by unfold mBare; simp only [ir] at *; simp [*]), by rfl⟩
  · skip
    refine aw_iconst C (1 : Int32) dX3_isTheDay_9 (by decide) ?_
    refine aw_goto C 14 dX3_isTheDay_10 (by decide) ?_
    refine aw_pc 14 rfl ?_
    exact aw_bret C (b := true) hr hlk dX3_isTheDay_14 rfl ⟨rb (by unfold mBare; simp only [ir] at *; simp [*]), by rfl⟩
abbrev r_X0_above : Room := { frames := 0, cells := 0, slots := 0, locals := 0 }
theorem cs_X0_above : cS yX0_above cX0_above 1 (some .int) 1 := ⟨k3_151, k3_152, k1_7, by decide, by decide, by decide +kernel⟩
set_option maxHeartbeats 4000000 in
set_option maxRecDepth 100000 in
theorem c_X0_above (l : Launch) (D : va_G) (cI cC : ClassId) (adK adV : Nat → Nat) (k : Int32) : FC l yX0_above (wW yX0_above cX0_above 1 (some .int)) r_X0_above D (tyC cI cC) adK adV (([] : va_W)) [.int k] 0 0 (fQ (some (.int (mAbove k))) (([] : va_W))) := by
  refine FC.of (own := RX0) (by decide) rfl (Nat.le_of_ble_eq_true rfl) ?_
  intro p9 e9 s9 m9 args9 below9 meth9 c9 A9 C hr hlk hmn
  show AW p9 l e9 r_X0_above s9 m9 args9 below9 meth9 c9 D A9 1 0 0 _ 0 [(0, .int k)] [] _
  refine aw_iload_n C dX0_above_0 rfl ?_
  by_cases s_1_1 : k = (1 : Int32)
  · skip
    refine aw_tabIn C (1) 40 dX0_above_1 (by rw [s_1_1]; rfl) (by decide) (by decide) rfl (by decide) ?_
    refine aw_iconst C (0 : Int32) dX0_above_40 (by decide) ?_
    exact aw_iret C hr hlk dX0_above_41 ⟨ri (by simp only [if_pos s_1_1, mAbove] <;> first | done | rfl), by rfl⟩
  by_cases s_1_2 : k = (2 : Int32)
  · skip
    refine aw_tabIn C (2) 40 dX0_above_1 (by rw [s_1_2]; rfl) (by decide) (by decide) rfl (by decide) ?_
    refine aw_iconst C (0 : Int32) dX0_above_40 (by decide) ?_
    exact aw_iret C hr hlk dX0_above_41 ⟨ri (by simp only [if_pos s_1_2, if_neg s_1_1, mAbove] <;> first | done | rfl), by rfl⟩
  by_cases s_1_3 : k = (3 : Int32)
  · skip
    refine aw_tabIn C (3) 42 dX0_above_1 (by rw [s_1_3]; rfl) (by decide) (by decide) rfl (by decide) ?_
    refine aw_iconst C (2 : Int32) dX0_above_42 (by decide) ?_
    exact aw_iret C hr hlk dX0_above_43 ⟨ri (by simp only [if_pos s_1_3, if_neg s_1_1, if_neg s_1_2, mAbove] <;> first | done | rfl), by rfl⟩
  by_cases s_1_4 : k = (4 : Int32)
  · skip
    refine aw_tabIn C (4) 44 dX0_above_1 (by rw [s_1_4]; rfl) (by decide) (by decide) rfl (by decide) ?_
    refine aw_iconst C (3 : Int32) dX0_above_44 (by decide) ?_
    refine aw_pc 45 rfl ?_
    exact aw_iret C hr hlk dX0_above_45 ⟨ri (by simp only [if_pos s_1_4, if_neg s_1_1, if_neg s_1_2, if_neg s_1_3, mAbove] <;> first | done | rfl), by rfl⟩
  by_cases s_1_5 : k = (5 : Int32)
  · skip
    refine aw_tabIn C (5) 40 dX0_above_1 (by rw [s_1_5]; rfl) (by decide) (by decide) rfl (by decide) ?_
    refine aw_iconst C (0 : Int32) dX0_above_40 (by decide) ?_
    exact aw_iret C hr hlk dX0_above_41 ⟨ri (by simp only [if_pos s_1_5, if_neg s_1_1, if_neg s_1_2, if_neg s_1_3, if_neg s_1_4, mAbove] <;> first | done | rfl), by rfl⟩
  by_cases s_1_6 : k = (6 : Int32)
  · skip
    refine aw_tabIn C (6) 46 dX0_above_1 (by rw [s_1_6]; rfl) (by decide) (by decide) rfl (by decide) ?_
    refine aw_iconst C (1 : Int32) dX0_above_46 (by decide) ?_
    exact aw_iret C hr hlk dX0_above_47 ⟨ri (by simp only [if_pos s_1_6, if_neg s_1_1, if_neg s_1_2, if_neg s_1_3, if_neg s_1_4, if_neg s_1_5, mAbove] <;> first | done | rfl), by rfl⟩
  refine aw_tabOut C 48 dX0_above_1 (by have q0 := ne_toInt s_1_1 (z := 1) rfl; have q1 := ne_toInt s_1_2 (z := 2) rfl; have q2 := ne_toInt s_1_3 (z := 3) rfl; have q3 := ne_toInt s_1_4 (z := 4) rfl; have q4 := ne_toInt s_1_5 (z := 5) rfl; have q5 := ne_toInt s_1_6 (z := 6) rfl; omega) (by decide) ?_
  refine aw_iconst C (-1 : Int32) dX0_above_48 (by decide) ?_
  exact aw_iret C hr hlk dX0_above_49 ⟨ri (by simp only [if_neg s_1_1, if_neg s_1_2, if_neg s_1_3, if_neg s_1_4, if_neg s_1_5, if_neg s_1_6, mAbove] <;> first | done | rfl), by rfl⟩
abbrev r_X0_walk : Room := { frames := 1, cells := 0, slots := 0, locals := 20 }
theorem cs_X0_walk : cS yX0_walk cX0_walk 3 (some .int) 2 := ⟨k1_178, k1_179, k1_7, by decide, by decide, by decide +kernel⟩
set_option maxHeartbeats 4000000 in
set_option maxRecDepth 100000 in
theorem c_X0_walk (l : Launch) (D : va_G) (cI cC : ClassId) (adK adV : Nat → Nat) (k : Int32) (d : Int32) : FC l yX0_walk (wW yX0_walk cX0_walk 3 (some .int)) r_X0_walk D (tyC cI cC) adK adV (([] : va_W)) [.int k, .int d] 0 0 (fQ (some (.int (mWalk k d))) (([] : va_W))) := by
  refine FC.of (own := RX0) (by decide) rfl (Nat.le_of_ble_eq_true rfl) ?_
  intro p9 e9 s9 m9 args9 below9 meth9 c9 A9 C hr hlk hmn
  show AW p9 l e9 r_X0_walk s9 m9 args9 below9 meth9 c9 D A9 3 0 0 _ 0 [(0, .int k), (1, .int d)] [] _
  refine aw_iload_n C dX0_walk_0 rfl ?_
  refine aw_iconst C (2 : Int32) dX0_walk_1 (by decide) ?_
  refine aw_irem C dX0_walk_2 (by decide) ?_
  refine aw_istore_n C true (lv' := [(0, .int k), (1, .int d), (2, .int (ir d (2 : Int32)))]) dX0_walk_3 (by decide) rfl rfl ?_
  refine aw_iload_n C dX0_walk_4 rfl ?_
  by_cases s_5_1 : k = (1 : Int32)
  · skip
    refine aw_tabIn C (1) 44 dX0_walk_5 (by rw [s_5_1]; rfl) (by decide) (by decide) rfl (by decide) ?_
    refine aw_iconst C (3 : Int32) dX0_walk_44 (by decide) ?_
    exact aw_iret C hr hlk dX0_walk_45 ⟨ri (by simp only [if_pos s_5_1, mWalk, cond_true, cond_false] <;> first | done | rfl), by rfl⟩
  by_cases s_5_2 : k = (2 : Int32)
  · skip
    refine aw_tabIn C (2) 48 dX0_walk_5 (by rw [s_5_2]; rfl) (by decide) (by decide) rfl (by decide) ?_
    refine aw_iload_n C dX0_walk_48 rfl ?_
    refine aw_pc 49 rfl ?_
    exact aw_iret C hr hlk dX0_walk_49 ⟨ri (by simp only [if_pos s_5_2, if_neg s_5_1, mWalk, cond_true, cond_false] <;> first | done | rfl), by rfl⟩
  by_cases s_5_3 : k = (3 : Int32)
  · skip
    refine aw_tabIn C (3) 50 dX0_walk_5 (by rw [s_5_3]; rfl) (by decide) (by decide) rfl (by decide) ?_
    refine aw_iload_n C dX0_walk_50 rfl ?_
    refine aw_iconst C (1 : Int32) dX0_walk_51 (by decide) ?_
    refine aw_iadd C dX0_walk_52 ?_
    exact aw_iret C hr hlk dX0_walk_53 ⟨ri (by simp only [if_pos s_5_3, if_neg s_5_1, if_neg s_5_2, mWalk, cond_true, cond_false] <;> first | done | rfl), by rfl⟩
  by_cases s_5_4 : k = (4 : Int32)
  · skip
    refine aw_tabIn C (4) 54 dX0_walk_5 (by rw [s_5_4]; rfl) (by decide) (by decide) rfl (by decide) ?_
    refine aw_iload_n C dX0_walk_54 rfl ?_
    refine aw_callSp C (As := [.int d]) (c_X3_isTheDay l D cI cC adK adV d) k1_180 cs_X3_isTheDay [] (by decide) rfl ⟨by decide, by decide⟩ rfl rfl ⟨by decide, by decide⟩ rfl rfl (Nat.le_of_ble_eq_true rfl) dX0_walk_55 ?_
    refine aw_ifeq_b C 65 dX0_walk_58 (by decide) (fun c_58 => ?_) (fun c_58 => ?_)
    · skip
      refine aw_iconst C (0 : Int32) dX0_walk_65 (by decide) ?_
      exact aw_iret C hr hlk dX0_walk_66 ⟨ri (by simp only [if_pos s_5_4, if_neg s_5_1, if_neg s_5_2, if_neg s_5_3, c_58, mWalk, cond_true, cond_false] <;> first | done | rfl), by rfl⟩
    · skip
      refine aw_pc 61 rfl ?_
      refine aw_iconst C (5 : Int32) dX0_walk_61 (by decide) ?_
      refine aw_goto C 66 dX0_walk_62 (by decide) ?_
      exact aw_iret C hr hlk dX0_walk_66 ⟨ri (by simp only [if_pos s_5_4, if_neg s_5_1, if_neg s_5_2, if_neg s_5_3, c_58, mWalk, cond_true, cond_false] <;> first | done | rfl), by rfl⟩
  by_cases s_5_5 : k = (5 : Int32)
  · skip
    refine aw_tabIn C (5) 67 dX0_walk_5 (by rw [s_5_5]; rfl) (by decide) (by decide) rfl (by decide) ?_
    refine aw_iconst C (0 : Int32) dX0_walk_67 (by decide) ?_
    exact aw_iret C hr hlk dX0_walk_68 ⟨ri (by simp only [if_pos s_5_5, if_neg s_5_1, if_neg s_5_2, if_neg s_5_3, if_neg s_5_4, mWalk, cond_true, cond_false] <;> first | done | rfl), by rfl⟩
  by_cases s_5_6 : k = (6 : Int32)
  · skip
    refine aw_tabIn C (6) 46 dX0_walk_5 (by rw [s_5_6]; rfl) (by decide) (by decide) rfl (by decide) ?_
    refine aw_iconst C (2 : Int32) dX0_walk_46 (by decide) ?_
    exact aw_iret C hr hlk dX0_walk_47 ⟨ri (by simp only [if_pos s_5_6, if_neg s_5_1, if_neg s_5_2, if_neg s_5_3, if_neg s_5_4, if_neg s_5_5, mWalk, cond_true, cond_false] <;> first | done | rfl), by rfl⟩
  refine aw_tabOut C 69 dX0_walk_5 (by have q0 := ne_toInt s_5_1 (z := 1) rfl; have q1 := ne_toInt s_5_2 (z := 2) rfl; have q2 := ne_toInt s_5_3 (z := 3) rfl; have q3 := ne_toInt s_5_4 (z := 4) rfl; have q4 := ne_toInt s_5_5 (z := 5) rfl; have q5 := ne_toInt s_5_6 (z := 6) rfl; omega) (by decide) ?_
  refine aw_iconst C (1 : Int32) dX0_walk_69 (by decide) ?_
  exact aw_iret C hr hlk dX0_walk_70 ⟨ri (by simp only [if_neg s_5_1, if_neg s_5_2, if_neg s_5_3, if_neg s_5_4, if_neg s_5_5, if_neg s_5_6, mWalk, cond_true, cond_false] <;> first | done | rfl), by rfl⟩
abbrev r_X0_shift : Room := { frames := 0, cells := 0, slots := 0, locals := 0 }
theorem cs_X0_shift : cS yX0_shift cX0_shift 2 (some .int) 2 := ⟨k1_184, k1_185, k1_7, by decide, by decide, by decide +kernel⟩
set_option maxHeartbeats 4000000 in
set_option maxRecDepth 100000 in
theorem c_X0_shift (l : Launch) (D : va_G) (cI cC : ClassId) (adK adV : Nat → Nat) (k : Int32) (d : Int32) : FC l yX0_shift (wW yX0_shift cX0_shift 2 (some .int)) r_X0_shift D (tyC cI cC) adK adV (([] : va_W)) [.int k, .int d] 0 0 (fQ (some (.int (mShift k d))) (([] : va_W))) := by
  refine FC.of (own := RX0) (by decide) rfl (Nat.le_of_ble_eq_true rfl) ?_
  intro p9 e9 s9 m9 args9 below9 meth9 c9 A9 C hr hlk hmn
  show AW p9 l e9 r_X0_shift s9 m9 args9 below9 meth9 c9 D A9 2 0 0 _ 0 [(0, .int k), (1, .int d)] [] _
  refine aw_iload_n C dX0_shift_0 rfl ?_
  by_cases s_1_1 : k = (1 : Int32)
  · skip
    refine aw_tabIn C (1) 40 dX0_shift_1 (by rw [s_1_1]; rfl) (by decide) (by decide) rfl (by decide) ?_
    refine aw_iconst C (2 : Int32) dX0_shift_40 (by decide) ?_
    exact aw_iret C hr hlk dX0_shift_41 ⟨ri (by simp [if_pos s_1_1, mShift] <;> first | done | rfl), by rfl⟩
  by_cases s_1_2 : k = (2 : Int32)
  · skip
    refine aw_tabIn C (2) 42 dX0_shift_1 (by rw [s_1_2]; rfl) (by decide) (by decide) rfl (by decide) ?_
    refine aw_iconst C (0 : Int32) dX0_shift_42 (by decide) ?_
    exact aw_iret C hr hlk dX0_shift_43 ⟨ri (by simp [if_pos s_1_2, if_neg s_1_1, mShift] <;> first | done | rfl), by rfl⟩
  by_cases s_1_3 : k = (3 : Int32)
  · skip
    refine aw_tabIn C (3) 44 dX0_shift_1 (by rw [s_1_3]; rfl) (by decide) (by decide) rfl (by decide) ?_
    refine aw_iload_n C dX0_shift_44 rfl ?_
    refine aw_iconst C (3 : Int32) dX0_shift_45 (by decide) ?_
    refine aw_irem C dX0_shift_46 (by decide) ?_
    refine aw_pc 47 rfl ?_
    refine aw_if_ne C 54 dX0_shift_47 (by decide) (fun c_47 => ?_) (fun c_47 => ?_)
    · skip
      refine aw_iconst C (0 : Int32) dX0_shift_54 (by decide) ?_
      exact aw_iret C hr hlk dX0_shift_55 ⟨ri (by simp [if_pos s_1_3, if_neg s_1_1, if_neg s_1_2, c_47, mShift] <;> first | done | rfl), by rfl⟩
    · skip
      refine aw_iconst C (1 : Int32) dX0_shift_50 (by decide) ?_
      refine aw_goto C 55 dX0_shift_51 (by decide) ?_
      exact aw_iret C hr hlk dX0_shift_55 ⟨ri (by simp [if_pos s_1_3, if_neg s_1_1, if_neg s_1_2, c_47, mShift] <;> first | done | rfl), by rfl⟩
  by_cases s_1_4 : k = (4 : Int32)
  · skip
    refine aw_tabIn C (4) 56 dX0_shift_1 (by rw [s_1_4]; rfl) (by decide) (by decide) rfl (by decide) ?_
    refine aw_iconst C (5 : Int32) dX0_shift_56 (by decide) ?_
    exact aw_iret C hr hlk dX0_shift_57 ⟨ri (by simp [if_pos s_1_4, if_neg s_1_1, if_neg s_1_2, if_neg s_1_3, mShift] <;> first | done | rfl), by rfl⟩
  by_cases s_1_5 : k = (5 : Int32)
  · skip
    refine aw_tabIn C (5) 42 dX0_shift_1 (by rw [s_1_5]; rfl) (by decide) (by decide) rfl (by decide) ?_
    refine aw_iconst C (0 : Int32) dX0_shift_42 (by decide) ?_
    exact aw_iret C hr hlk dX0_shift_43 ⟨ri (by simp [if_pos s_1_5, if_neg s_1_1, if_neg s_1_2, if_neg s_1_3, if_neg s_1_4, mShift] <;> first | done | rfl), by rfl⟩
  by_cases s_1_6 : k = (6 : Int32)
  · skip
    refine aw_tabIn C (6) 40 dX0_shift_1 (by rw [s_1_6]; rfl) (by decide) (by decide) rfl (by decide) ?_
    refine aw_pc 40 rfl ?_
    refine aw_iconst C (2 : Int32) dX0_shift_40 (by decide) ?_
    exact aw_iret C hr hlk dX0_shift_41 ⟨ri (by simp [if_pos s_1_6, if_neg s_1_1, if_neg s_1_2, if_neg s_1_3, if_neg s_1_4, if_neg s_1_5, mShift] <;> first | done | rfl), by rfl⟩
  refine aw_tabOut C 58 dX0_shift_1 (by have q0 := ne_toInt s_1_1 (z := 1) rfl; have q1 := ne_toInt s_1_2 (z := 2) rfl; have q2 := ne_toInt s_1_3 (z := 3) rfl; have q3 := ne_toInt s_1_4 (z := 4) rfl; have q4 := ne_toInt s_1_5 (z := 5) rfl; have q5 := ne_toInt s_1_6 (z := 6) rfl; omega) (by decide) ?_
  refine aw_iconst C (1 : Int32) dX0_shift_58 (by decide) ?_
  exact aw_iret C hr hlk dX0_shift_59 ⟨ri (by simp [if_neg s_1_1, if_neg s_1_2, if_neg s_1_3, if_neg s_1_4, if_neg s_1_5, if_neg s_1_6, mShift] <;> first | done | rfl), by rfl⟩
abbrev r_X0_shine : Room := { frames := 0, cells := 0, slots := 0, locals := 0 }
theorem cs_X0_shine : cS yX0_shine cX0_shine 1 (some .int) 1 := ⟨k1_187, k1_188, k1_7, by decide, by decide, by decide +kernel⟩
set_option maxHeartbeats 4000000 in
set_option maxRecDepth 100000 in
theorem c_X0_shine (l : Launch) (D : va_G) (cI cC : ClassId) (adK adV : Nat → Nat) (k : Int32) : FC l yX0_shine (wW yX0_shine cX0_shine 1 (some .int)) r_X0_shine D (tyC cI cC) adK adV (([] : va_W)) [.int k] 0 0 (fQ (some (.int (mShine k))) (([] : va_W))) := by
  refine FC.of (own := RX0) (by decide) rfl (Nat.le_of_ble_eq_true rfl) ?_
  intro p9 e9 s9 m9 args9 below9 meth9 c9 A9 C hr hlk hmn
  show AW p9 l e9 r_X0_shine s9 m9 args9 below9 meth9 c9 D A9 1 0 0 _ 0 [(0, .int k)] [] _
  refine aw_iload_n C dX0_shine_0 rfl ?_
  by_cases s_1_1 : k = (1 : Int32)
  · skip
    refine aw_tabIn C (1) 40 dX0_shine_1 (by rw [s_1_1]; rfl) (by decide) (by decide) rfl (by decide) ?_
    refine aw_iconst C (0 : Int32) dX0_shine_40 (by decide) ?_
    exact aw_iret C hr hlk dX0_shine_41 ⟨ri (by simp only [if_pos s_1_1, mShine] <;> first | done | rfl), by rfl⟩
  by_cases s_1_2 : k = (2 : Int32)
  · skip
    refine aw_tabIn C (2) 42 dX0_shine_1 (by rw [s_1_2]; rfl) (by decide) (by decide) rfl (by decide) ?_
    refine aw_iconst C (2 : Int32) dX0_shine_42 (by decide) ?_
    exact aw_iret C hr hlk dX0_shine_43 ⟨ri (by simp only [if_pos s_1_2, if_neg s_1_1, mShine] <;> first | done | rfl), by rfl⟩
  by_cases s_1_3 : k = (3 : Int32)
  · skip
    refine aw_tabIn C (3) 42 dX0_shine_1 (by rw [s_1_3]; rfl) (by decide) (by decide) rfl (by decide) ?_
    refine aw_iconst C (2 : Int32) dX0_shine_42 (by decide) ?_
    exact aw_iret C hr hlk dX0_shine_43 ⟨ri (by simp only [if_pos s_1_3, if_neg s_1_1, if_neg s_1_2, mShine] <;> first | done | rfl), by rfl⟩
  by_cases s_1_4 : k = (4 : Int32)
  · skip
    refine aw_tabIn C (4) 44 dX0_shine_1 (by rw [s_1_4]; rfl) (by decide) (by decide) rfl (by decide) ?_
    refine aw_iconst C (4 : Int32) dX0_shine_44 (by decide) ?_
    refine aw_pc 45 rfl ?_
    exact aw_iret C hr hlk dX0_shine_45 ⟨ri (by simp only [if_pos s_1_4, if_neg s_1_1, if_neg s_1_2, if_neg s_1_3, mShine] <;> first | done | rfl), by rfl⟩
  by_cases s_1_5 : k = (5 : Int32)
  · skip
    refine aw_tabIn C (5) 40 dX0_shine_1 (by rw [s_1_5]; rfl) (by decide) (by decide) rfl (by decide) ?_
    refine aw_iconst C (0 : Int32) dX0_shine_40 (by decide) ?_
    exact aw_iret C hr hlk dX0_shine_41 ⟨ri (by simp only [if_pos s_1_5, if_neg s_1_1, if_neg s_1_2, if_neg s_1_3, if_neg s_1_4, mShine] <;> first | done | rfl), by rfl⟩
  by_cases s_1_6 : k = (6 : Int32)
  · skip
    refine aw_tabIn C (6) 40 dX0_shine_1 (by rw [s_1_6]; rfl) (by decide) (by decide) rfl (by decide) ?_
    refine aw_iconst C (0 : Int32) dX0_shine_40 (by decide) ?_
    exact aw_iret C hr hlk dX0_shine_41 ⟨ri (by simp only [if_pos s_1_6, if_neg s_1_1, if_neg s_1_2, if_neg s_1_3, if_neg s_1_4, if_neg s_1_5, mShine] <;> first | done | rfl), by rfl⟩
  refine aw_tabOut C 46 dX0_shine_1 (by have q0 := ne_toInt s_1_1 (z := 1) rfl; have q1 := ne_toInt s_1_2 (z := 2) rfl; have q2 := ne_toInt s_1_3 (z := 3) rfl; have q3 := ne_toInt s_1_4 (z := 4) rfl; have q4 := ne_toInt s_1_5 (z := 5) rfl; have q5 := ne_toInt s_1_6 (z := 6) rfl; omega) (by decide) ?_
  refine aw_iconst C (1 : Int32) dX0_shine_46 (by decide) ?_
  exact aw_iret C hr hlk dX0_shine_47 ⟨ri (by simp only [if_neg s_1_1, if_neg s_1_2, if_neg s_1_3, if_neg s_1_4, if_neg s_1_5, if_neg s_1_6, mShine] <;> first | done | rfl), by rfl⟩
abbrev r_X0_gladden : Room := { frames := 0, cells := 0, slots := 0, locals := 0 }
theorem cs_X0_gladden : cS yX0_gladden cX0_gladden 3 (some .int) 2 := ⟨k1_196, k1_197, k1_7, by decide, by decide, by decide +kernel⟩
set_option maxHeartbeats 4000000 in
set_option maxRecDepth 100000 in
theorem c_X0_gladden (l : Launch) (D : va_G) (cI cC : ClassId) (adK adV : Nat → Nat) (k : Int32) (c : Int32) : FC l yX0_gladden (wW yX0_gladden cX0_gladden 3 (some .int)) r_X0_gladden D (tyC cI cC) adK adV (([] : va_W)) [.int k, .int c] 0 0 (fQ (some (.int (mGlad k c))) (([] : va_W))) := by
  refine FC.of (own := RX0) (by decide) rfl (Nat.le_of_ble_eq_true rfl) ?_
  intro p9 e9 s9 m9 args9 below9 meth9 c9 A9 C hr hlk hmn
  show AW p9 l e9 r_X0_gladden s9 m9 args9 below9 meth9 c9 D A9 3 0 0 _ 0 [(0, .int k), (1, .int c)] [] _
  refine aw_iconst C (3 : Int32) dX0_gladden_0 (by decide) ?_
  refine aw_iload_n C dX0_gladden_1 rfl ?_
  refine aw_iadd C dX0_gladden_2 ?_
  refine aw_istore_n C true (lv' := [(0, .int k), (1, .int c), (2, .int ((3 : Int32) + c))]) dX0_gladden_3 (by decide) rfl rfl ?_
  refine aw_iload_n C dX0_gladden_4 rfl ?_
  by_cases s_5_2 : k = (2 : Int32)
  · skip
    refine aw_tabIn C (2) 43 dX0_gladden_5 (by rw [s_5_2]; rfl) (by decide) (by decide) rfl (by decide) ?_
    refine aw_iconst C (3 : Int32) dX0_gladden_43 (by decide) ?_
    exact aw_iret C hr hlk dX0_gladden_44 ⟨ri (by simp only [if_pos s_5_2, mGlad] <;> first | done | rfl), by rfl⟩
  by_cases s_5_3 : k = (3 : Int32)
  · skip
    refine aw_tabIn C (3) 45 dX0_gladden_5 (by rw [s_5_3]; rfl) (by decide) (by decide) rfl (by decide) ?_
    refine aw_iload_n C dX0_gladden_45 rfl ?_
    refine aw_pc 46 rfl ?_
    exact aw_iret C hr hlk dX0_gladden_46 ⟨ri (by simp only [if_pos s_5_3, if_neg s_5_2, mGlad] <;> first | done | rfl), by rfl⟩
  by_cases s_5_4 : k = (4 : Int32)
  · skip
    refine aw_tabIn C (4) 47 dX0_gladden_5 (by rw [s_5_4]; rfl) (by decide) (by decide) rfl (by decide) ?_
    refine aw_iconst C (3 : Int32) dX0_gladden_47 (by decide) ?_
    refine aw_iload_n C dX0_gladden_48 rfl ?_
    refine aw_imul C dX0_gladden_49 ?_
    exact aw_iret C hr hlk dX0_gladden_50 ⟨ri (by simp only [if_pos s_5_4, if_neg s_5_2, if_neg s_5_3, mGlad] <;> first | done | rfl), by rfl⟩
  by_cases s_5_5 : k = (5 : Int32)
  · skip
    refine aw_tabIn C (5) 51 dX0_gladden_5 (by rw [s_5_5]; rfl) (by decide) (by decide) rfl (by decide) ?_
    refine aw_iconst C (0 : Int32) dX0_gladden_51 (by decide) ?_
    exact aw_iret C hr hlk dX0_gladden_52 ⟨ri (by simp only [if_pos s_5_5, if_neg s_5_2, if_neg s_5_3, if_neg s_5_4, mGlad] <;> first | done | rfl), by rfl⟩
  by_cases s_5_6 : k = (6 : Int32)
  · skip
    refine aw_tabIn C (6) 40 dX0_gladden_5 (by rw [s_5_6]; rfl) (by decide) (by decide) rfl (by decide) ?_
    refine aw_bipush C (20 : Int32) dX0_gladden_40 (by decide) ?_
    exact aw_iret C hr hlk dX0_gladden_42 ⟨ri (by simp only [if_pos s_5_6, if_neg s_5_2, if_neg s_5_3, if_neg s_5_4, if_neg s_5_5, mGlad] <;> first | done | rfl), by rfl⟩
  refine aw_tabOut C 53 dX0_gladden_5 (by have q0 := ne_toInt s_5_2 (z := 2) rfl; have q1 := ne_toInt s_5_3 (z := 3) rfl; have q2 := ne_toInt s_5_4 (z := 4) rfl; have q3 := ne_toInt s_5_5 (z := 5) rfl; have q4 := ne_toInt s_5_6 (z := 6) rfl; omega) (by decide) ?_
  refine aw_iconst C (1 : Int32) dX0_gladden_53 (by decide) ?_
  refine aw_pc 54 rfl ?_
  exact aw_iret C hr hlk dX0_gladden_54 ⟨ri (by simp only [if_neg s_5_2, if_neg s_5_3, if_neg s_5_4, if_neg s_5_5, if_neg s_5_6, mGlad] <;> first | done | rfl), by rfl⟩
abbrev r_X0_mind : Room := { frames := 0, cells := 0, slots := 0, locals := 0 }
theorem cs_X0_mind : cS yX0_mind cX0_mind 6 (some .boolean) 4 := ⟨k1_225, k1_226, k1_7, by decide, by decide, by decide +kernel⟩
set_option maxHeartbeats 4000000 in
set_option maxRecDepth 100000 in
theorem c_X0_mind (l : Launch) (D : va_G) (cI cC : ClassId) (adK adV : Nat → Nat) (k : Int32) (g : Int32) (own : Int32) (no : Bool) : FC l yX0_mind (wW yX0_mind cX0_mind 6 (some .boolean)) r_X0_mind D (tyC cI cC) adK adV (([] : va_W)) [.int k, .int g, .int own, .int (b2 no)] 0 0 (fQ (some (.int (b2 (mMind k g own no)))) (([] : va_W))) := by
  refine FC.of (own := RX0) (by decide) rfl (Nat.le_of_ble_eq_true rfl) ?_
  intro p9 e9 s9 m9 args9 below9 meth9 c9 A9 C hr hlk hmn
  show AW p9 l e9 r_X0_mind s9 m9 args9 below9 meth9 c9 D A9 6 0 0 _ 0 [(0, .int k), (1, .int g), (2, .int own), (3, .int (b2 no))] [] _
  refine aw_iload_n C dX0_mind_0 rfl ?_
  refine aw_iconst C (5 : Int32) dX0_mind_1 (by decide) ?_
  refine aw_icmp_gt C 9 dX0_mind_2 (by decide) (fun c_2 => ?_) (fun c_2 => ?_)
  · skip
    refine aw_iconst C (0 : Int32) dX0_mind_9 (by decide) ?_
    refine aw_istore C true (lv' := [(0, .int k), (1, .int g), (2, .int own), (3, .int (b2 no)), (4, .int (0 : Int32))]) dX0_mind_10 (by decide) rfl rfl ?_
    refine aw_iload C dX0_mind_12 rfl ?_
    refine aw_if_ne C 22 dX0_mind_14 (by decide) (fun c_14 => absurd c_14 (by decide)) (fun c_14 => ?_)
    refine aw_iload_n C dX0_mind_17 rfl ?_
    refine aw_iload_n C dX0_mind_18 rfl ?_
    refine aw_pc 19 rfl ?_
    refine aw_icmp_ne C 26 dX0_mind_19 (by decide) (fun c_19 => ?_) (fun c_19 => ?_)
    · skip
      refine aw_iconst C (0 : Int32) dX0_mind_26 (by decide) ?_
      refine aw_istore C true (lv' := [(0, .int k), (1, .int g), (2, .int own), (3, .int (b2 no)), (4, .int (0 : Int32)), (5, .int (0 : Int32))]) dX0_mind_27 (by decide) rfl rfl ?_
      refine aw_iload_n C dX0_mind_29 rfl ?_
      by_cases s_30_1 : k = (1 : Int32)
      · skip
        refine aw_tabIn C (1) 68 dX0_mind_30 (by rw [s_30_1]; rfl) (by decide) (by decide) rfl (by decide) ?_
        refine aw_iconst C (1 : Int32) dX0_mind_68 (by decide) ?_
        exact aw_bret C (b := true) hr hlk dX0_mind_69 rfl ⟨rb (by first | (simp [mMind, *]; done) | (simp_all [mMind]; done)), by rfl⟩
      by_cases s_30_2 : k = (2 : Int32)
      · skip
        refine aw_tabIn C (2) 83 dX0_mind_30 (by rw [s_30_2]; rfl) (by decide) (by decide) rfl (by decide) ?_
        refine aw_iload C dX0_mind_83 rfl ?_
        exact aw_bret C (b := false) hr hlk dX0_mind_85 rfl ⟨rb (by first | (simp [mMind, *]; done) | (simp_all [mMind]; done)), by rfl⟩
      by_cases s_30_3 : k = (3 : Int32)
      · skip
        refine aw_tabIn C (3) 86 dX0_mind_30 (by rw [s_30_3]; rfl) (by decide) (by decide) rfl (by decide) ?_
        refine aw_iload C dX0_mind_86 rfl ?_
        refine aw_pc 88 rfl ?_
        exact aw_bret C (b := false) hr hlk dX0_mind_88 rfl ⟨rb (by first | (simp [mMind, *]; done) | (simp_all [mMind]; done)), by rfl⟩
      by_cases s_30_4 : k = (4 : Int32)
      · skip
        refine aw_tabIn C (4) 89 dX0_mind_30 (by rw [s_30_4]; rfl) (by decide) (by decide) rfl (by decide) ?_
        refine aw_iload_n C dX0_mind_89 rfl ?_
        refine aw_bipush C (9 : Int32) dX0_mind_90 (by decide) ?_
        refine aw_icmp_eq C 104 dX0_mind_92 (by decide) (fun c_92 => ?_) (fun c_92 => ?_)
        · skip
          refine aw_iconst C (1 : Int32) dX0_mind_104 (by decide) ?_
          refine aw_goto C 109 dX0_mind_105 (by decide) ?_
          exact aw_bret C (b := true) hr hlk dX0_mind_109 rfl ⟨rb (by first | (simp [mMind, *]; done) | (simp_all [mMind]; done)), by rfl⟩
        · skip
          refine aw_iload_n C dX0_mind_95 rfl ?_
          refine aw_ifeq_b C 108 dX0_mind_96 (by decide) (fun c_96 => ?_) (fun c_96 => ?_)
          · skip
            refine aw_iconst C (0 : Int32) dX0_mind_108 (by decide) ?_
            refine aw_pc 109 rfl ?_
            exact aw_bret C (b := false) hr hlk dX0_mind_109 rfl ⟨rb (by first | (simp [mMind, *]; done) | (simp_all [mMind]; done)), by rfl⟩
          · skip
            refine aw_iload C dX0_mind_99 rfl ?_
            refine aw_if_eq C 108 dX0_mind_101 (by decide) (fun c_101 => ?_) (fun c_101 => absurd c_101 (by decide))
            refine aw_iconst C (0 : Int32) dX0_mind_108 (by decide) ?_
            exact aw_bret C (b := false) hr hlk dX0_mind_109 rfl ⟨rb (by first | (simp [mMind, *]; done) | (simp_all [mMind]; done)), by rfl⟩
      by_cases s_30_5 : k = (5 : Int32)
      · skip
        refine aw_tabIn C (5) 110 dX0_mind_30 (by rw [s_30_5]; rfl) (by decide) (by decide) rfl (by decide) ?_
        refine aw_iconst C (0 : Int32) dX0_mind_110 (by decide) ?_
        exact aw_bret C (b := false) hr hlk dX0_mind_111 rfl ⟨rb (by first | (simp [mMind, *]; done) | (simp_all [mMind]; done)), by rfl⟩
      by_cases s_30_6 : k = (6 : Int32)
      · skip
        refine aw_tabIn C (6) 70 dX0_mind_30 (by rw [s_30_6]; rfl) (by decide) (by decide) rfl (by decide) ?_
        refine aw_iload_n C dX0_mind_70 rfl ?_
        refine aw_iconst C (2 : Int32) dX0_mind_71 (by decide) ?_
        refine aw_irem C dX0_mind_72 (by decide) ?_
        refine aw_pc 73 rfl ?_
        refine aw_iconst C (1 : Int32) dX0_mind_73 (by decide) ?_
        refine aw_icmp_ne C 81 dX0_mind_74 (by decide) (fun c_74 => ?_) (fun c_74 => ?_)
        · skip
          refine aw_iconst C (0 : Int32) dX0_mind_81 (by decide) ?_
          exact aw_bret C (b := false) hr hlk dX0_mind_82 rfl ⟨rb (by first | (simp [mMind, *]; done) | (simp_all [mMind]; done)), by rfl⟩
        · skip
          refine aw_iconst C (1 : Int32) dX0_mind_77 (by decide) ?_
          refine aw_goto C 82 dX0_mind_78 (by decide) ?_
          exact aw_bret C (b := true) hr hlk dX0_mind_82 rfl ⟨rb (by first | (simp [mMind, *]; done) | (simp_all [mMind]; done)), by rfl⟩
      refine aw_tabOut C 112 dX0_mind_30 (by have q0 := ne_toInt s_30_1 (z := 1) rfl; have q1 := ne_toInt s_30_2 (z := 2) rfl; have q2 := ne_toInt s_30_3 (z := 3) rfl; have q3 := ne_toInt s_30_4 (z := 4) rfl; have q4 := ne_toInt s_30_5 (z := 5) rfl; have q5 := ne_toInt s_30_6 (z := 6) rfl; omega) (by decide) ?_
      refine aw_iload_n C dX0_mind_112 rfl ?_
      refine aw_iload_n C dX0_mind_113 rfl ?_
      refine aw_icmp_eq C 121 dX0_mind_114 (by decide) (fun c_114 => ?_) (fun c_114 => ?_)
      · skip
        refine aw_pc 121 rfl ?_
        refine aw_iconst C (0 : Int32) dX0_mind_121 (by decide) ?_
        exact aw_bret C (b := false) hr hlk dX0_mind_122 rfl ⟨rb (by first | (simp [mMind, *]; done) | (simp_all [mMind]; done)), by rfl⟩
      · skip
        refine aw_iconst C (1 : Int32) dX0_mind_117 (by decide) ?_
        refine aw_goto C 122 dX0_mind_118 (by decide) ?_
        exact aw_bret C (b := true) hr hlk dX0_mind_122 rfl ⟨rb (by first | (simp [mMind, *]; done) | (simp_all [mMind]; done)), by rfl⟩
    · skip
      refine aw_iconst C (1 : Int32) dX0_mind_22 (by decide) ?_
      refine aw_goto C 27 dX0_mind_23 (by decide) ?_
      refine aw_istore C true (lv' := [(0, .int k), (1, .int g), (2, .int own), (3, .int (b2 no)), (4, .int (0 : Int32)), (5, .int (1 : Int32))]) dX0_mind_27 (by decide) rfl rfl ?_
      refine aw_iload_n C dX0_mind_29 rfl ?_
      by_cases s_30_1 : k = (1 : Int32)
      · skip
        refine aw_tabIn C (1) 68 dX0_mind_30 (by rw [s_30_1]; rfl) (by decide) (by decide) rfl (by decide) ?_
        refine aw_pc 68 rfl ?_
        refine aw_iconst C (1 : Int32) dX0_mind_68 (by decide) ?_
        exact aw_bret C (b := true) hr hlk dX0_mind_69 rfl ⟨rb (by first | (simp [mMind, *]; done) | (simp_all [mMind]; done)), by rfl⟩
      by_cases s_30_2 : k = (2 : Int32)
      · skip
        refine aw_tabIn C (2) 83 dX0_mind_30 (by rw [s_30_2]; rfl) (by decide) (by decide) rfl (by decide) ?_
        refine aw_iload C dX0_mind_83 rfl ?_
        exact aw_bret C (b := false) hr hlk dX0_mind_85 rfl ⟨rb (by first | (simp [mMind, *]; done) | (simp_all [mMind]; done)), by rfl⟩
      by_cases s_30_3 : k = (3 : Int32)
      · skip
        refine aw_tabIn C (3) 86 dX0_mind_30 (by rw [s_30_3]; rfl) (by decide) (by decide) rfl (by decide) ?_
        refine aw_iload C dX0_mind_86 rfl ?_
        exact aw_bret C (b := true) hr hlk dX0_mind_88 rfl ⟨rb (by first | (simp [mMind, *]; done) | (simp_all [mMind]; done)), by rfl⟩
      by_cases s_30_4 : k = (4 : Int32)
      · skip
        refine aw_tabIn C (4) 89 dX0_mind_30 (by rw [s_30_4]; rfl) (by decide) (by decide) rfl (by decide) ?_
        refine aw_iload_n C dX0_mind_89 rfl ?_
        refine aw_bipush C (9 : Int32) dX0_mind_90 (by decide) ?_
        refine aw_icmp_eq C 104 dX0_mind_92 (by decide) (fun c_92 => ?_) (fun c_92 => ?_)
        · skip
          refine aw_iconst C (1 : Int32) dX0_mind_104 (by decide) ?_
          refine aw_pc 105 rfl ?_
          refine aw_goto C 109 dX0_mind_105 (by decide) ?_
          exact aw_bret C (b := true) hr hlk dX0_mind_109 rfl ⟨rb (by first | (simp [mMind, *]; done) | (simp_all [mMind]; done)), by rfl⟩
        · skip
          refine aw_iload_n C dX0_mind_95 rfl ?_
          refine aw_ifeq_b C 108 dX0_mind_96 (by decide) (fun c_96 => ?_) (fun c_96 => ?_)
          · skip
            refine aw_iconst C (0 : Int32) dX0_mind_108 (by decide) ?_
            exact aw_bret C (b := false) hr hlk dX0_mind_109 rfl ⟨rb (by first | (simp [mMind, *]; done) | (simp_all [mMind]; done)), by rfl⟩
          · skip
            refine aw_iload C dX0_mind_99 rfl ?_
            refine aw_if_eq C 108 dX0_mind_101 (by decide) (fun c_101 => absurd c_101 (by decide)) (fun c_101 => ?_)
            refine aw_iconst C (1 : Int32) dX0_mind_104 (by decide) ?_
            refine aw_goto C 109 dX0_mind_105 (by decide) ?_
            refine aw_pc 109 rfl ?_
            exact aw_bret C (b := true) hr hlk dX0_mind_109 rfl ⟨rb (by first | (simp [mMind, *]; done) | (simp_all [mMind]; done)), by rfl⟩
      by_cases s_30_5 : k = (5 : Int32)
      · skip
        refine aw_tabIn C (5) 110 dX0_mind_30 (by rw [s_30_5]; rfl) (by decide) (by decide) rfl (by decide) ?_
        refine aw_iconst C (0 : Int32) dX0_mind_110 (by decide) ?_
        exact aw_bret C (b := false) hr hlk dX0_mind_111 rfl ⟨rb (by first | (simp [mMind, *]; done) | (simp_all [mMind]; done)), by rfl⟩
      by_cases s_30_6 : k = (6 : Int32)
      · skip
        refine aw_tabIn C (6) 70 dX0_mind_30 (by rw [s_30_6]; rfl) (by decide) (by decide) rfl (by decide) ?_
        refine aw_iload_n C dX0_mind_70 rfl ?_
        refine aw_iconst C (2 : Int32) dX0_mind_71 (by decide) ?_
        refine aw_irem C dX0_mind_72 (by decide) ?_
        refine aw_iconst C (1 : Int32) dX0_mind_73 (by decide) ?_
        refine aw_icmp_ne C 81 dX0_mind_74 (by decide) (fun c_74 => ?_) (fun c_74 => ?_)
        · skip
          refine aw_iconst C (0 : Int32) dX0_mind_81 (by decide) ?_
          exact aw_bret C (b := false) hr hlk dX0_mind_82 rfl ⟨rb (by first | (simp [mMind, *]; done) | (simp_all [mMind]; done)), by rfl⟩
        · skip
          refine aw_pc 77 rfl ?_
          refine aw_iconst C (1 : Int32) dX0_mind_77 (by decide) ?_
          refine aw_goto C 82 dX0_mind_78 (by decide) ?_
          exact aw_bret C (b := true) hr hlk dX0_mind_82 rfl ⟨rb (by first | (simp [mMind, *]; done) | (simp_all [mMind]; done)), by rfl⟩
      refine aw_tabOut C 112 dX0_mind_30 (by have q0 := ne_toInt s_30_1 (z := 1) rfl; have q1 := ne_toInt s_30_2 (z := 2) rfl; have q2 := ne_toInt s_30_3 (z := 3) rfl; have q3 := ne_toInt s_30_4 (z := 4) rfl; have q4 := ne_toInt s_30_5 (z := 5) rfl; have q5 := ne_toInt s_30_6 (z := 6) rfl; omega) (by decide) ?_
      refine aw_iload_n C dX0_mind_112 rfl ?_
      refine aw_iload_n C dX0_mind_113 rfl ?_
      refine aw_icmp_eq C 121 dX0_mind_114 (by decide) (fun c_114 => ?_) (fun c_114 => ?_)
      · skip
        refine aw_iconst C (0 : Int32) dX0_mind_121 (by decide) ?_
        exact aw_bret C (b := false) hr hlk dX0_mind_122 rfl ⟨rb (by first | (simp [mMind, *]; done) | (simp_all [mMind]; done)), by rfl⟩
      · skip
        refine aw_iconst C (1 : Int32) dX0_mind_117 (by decide) ?_
        refine aw_goto C 122 dX0_mind_118 (by decide) ?_
        refine aw_pc 122 rfl ?_
        exact aw_bret C (b := true) hr hlk dX0_mind_122 rfl ⟨rb (by first | (simp [mMind, *]; done) | (simp_all [mMind]; done)), by rfl⟩
  · skip
    refine aw_iconst C (1 : Int32) dX0_mind_5 (by decide) ?_
    refine aw_goto C 10 dX0_mind_6 (by decide) ?_
    refine aw_istore C true (lv' := [(0, .int k), (1, .int g), (2, .int own), (3, .int (b2 no)), (4, .int (1 : Int32))]) dX0_mind_10 (by decide) rfl rfl ?_
    refine aw_iload C dX0_mind_12 rfl ?_
    refine aw_if_ne C 22 dX0_mind_14 (by decide) (fun c_14 => ?_) (fun c_14 => absurd c_14 (by decide))
    refine aw_iconst C (1 : Int32) dX0_mind_22 (by decide) ?_
    refine aw_goto C 27 dX0_mind_23 (by decide) ?_
    refine aw_istore C true (lv' := [(0, .int k), (1, .int g), (2, .int own), (3, .int (b2 no)), (4, .int (1 : Int32)), (5, .int (1 : Int32))]) dX0_mind_27 (by decide) rfl rfl ?_
    refine aw_iload_n C dX0_mind_29 rfl ?_
    refine aw_pc 30 rfl ?_
    by_cases s_30_1 : k = (1 : Int32)
    · skip
      refine aw_tabIn C (1) 68 dX0_mind_30 (by rw [s_30_1]; rfl) (by decide) (by decide) rfl (by decide) ?_
      refine aw_iconst C (1 : Int32) dX0_mind_68 (by decide) ?_
      exact aw_bret C (b := true) hr hlk dX0_mind_69 rfl ⟨rb (by first | (simp [mMind, *]; done) | (simp_all [mMind]; done)), by rfl⟩
    by_cases s_30_2 : k = (2 : Int32)
    · skip
      refine aw_tabIn C (2) 83 dX0_mind_30 (by rw [s_30_2]; rfl) (by decide) (by decide) rfl (by decide) ?_
      refine aw_iload C dX0_mind_83 rfl ?_
      exact aw_bret C (b := true) hr hlk dX0_mind_85 rfl ⟨rb (by first | (simp [mMind, *]; done) | (simp_all [mMind]; done)), by rfl⟩
    by_cases s_30_3 : k = (3 : Int32)
    · skip
      refine aw_tabIn C (3) 86 dX0_mind_30 (by rw [s_30_3]; rfl) (by decide) (by decide) rfl (by decide) ?_
      refine aw_iload C dX0_mind_86 rfl ?_
      exact aw_bret C (b := true) hr hlk dX0_mind_88 rfl ⟨rb (by first | (simp [mMind, *]; done) | (simp_all [mMind]; done)), by rfl⟩
    by_cases s_30_4 : k = (4 : Int32)
    · skip
      refine aw_tabIn C (4) 89 dX0_mind_30 (by rw [s_30_4]; rfl) (by decide) (by decide) rfl (by decide) ?_
      refine aw_iload_n C dX0_mind_89 rfl ?_
      refine aw_bipush C (9 : Int32) dX0_mind_90 (by decide) ?_
      refine aw_icmp_eq C 104 dX0_mind_92 (by decide) (fun c_92 => ?_) (fun c_92 => ?_)
      · skip
        refine aw_pc 104 rfl ?_
        refine aw_iconst C (1 : Int32) dX0_mind_104 (by decide) ?_
        refine aw_goto C 109 dX0_mind_105 (by decide) ?_
        exact aw_bret C (b := true) hr hlk dX0_mind_109 rfl ⟨rb (by first | (simp [mMind, *]; done) | (simp_all [mMind]; done)), by rfl⟩
      · skip
        refine aw_iload_n C dX0_mind_95 rfl ?_
        refine aw_ifeq_b C 108 dX0_mind_96 (by decide) (fun c_96 => ?_) (fun c_96 => ?_)
        · skip
          refine aw_iconst C (0 : Int32) dX0_mind_108 (by decide) ?_
          exact aw_bret C (b := false) hr hlk dX0_mind_109 rfl ⟨rb (by first | (simp [mMind, *]; done) | (simp_all [mMind]; done)), by rfl⟩
        · skip
          refine aw_iload C dX0_mind_99 rfl ?_
          refine aw_if_eq C 108 dX0_mind_101 (by decide) (fun c_101 => absurd c_101 (by decide)) (fun c_101 => ?_)
          refine aw_iconst C (1 : Int32) dX0_mind_104 (by decide) ?_
          refine aw_pc 105 rfl ?_
          refine aw_goto C 109 dX0_mind_105 (by decide) ?_
          exact aw_bret C (b := true) hr hlk dX0_mind_109 rfl ⟨rb (by first | (simp [mMind, *]; done) | (simp_all [mMind]; done)), by rfl⟩
    by_cases s_30_5 : k = (5 : Int32)
    · skip
      refine aw_tabIn C (5) 110 dX0_mind_30 (by rw [s_30_5]; rfl) (by decide) (by decide) rfl (by decide) ?_
      refine aw_iconst C (0 : Int32) dX0_mind_110 (by decide) ?_
      exact aw_bret C (b := false) hr hlk dX0_mind_111 rfl ⟨rb (by first | (simp [mMind, *]; done) | (simp_all [mMind]; done)), by rfl⟩
    by_cases s_30_6 : k = (6 : Int32)
    · skip
      refine aw_tabIn C (6) 70 dX0_mind_30 (by rw [s_30_6]; rfl) (by decide) (by decide) rfl (by decide) ?_
      refine aw_iload_n C dX0_mind_70 rfl ?_
      refine aw_iconst C (2 : Int32) dX0_mind_71 (by decide) ?_
      refine aw_irem C dX0_mind_72 (by decide) ?_
      refine aw_iconst C (1 : Int32) dX0_mind_73 (by decide) ?_
      refine aw_icmp_ne C 81 dX0_mind_74 (by decide) (fun c_74 => ?_) (fun c_74 => ?_)
      · skip
        refine aw_iconst C (0 : Int32) dX0_mind_81 (by decide) ?_
        refine aw_pc 82 rfl ?_
        exact aw_bret C (b := false) hr hlk dX0_mind_82 rfl ⟨rb (by first | (simp [mMind, *]; done) | (simp_all [mMind]; done)), by rfl⟩
      · skip
        refine aw_iconst C (1 : Int32) dX0_mind_77 (by decide) ?_
        refine aw_goto C 82 dX0_mind_78 (by decide) ?_
        exact aw_bret C (b := true) hr hlk dX0_mind_82 rfl ⟨rb (by first | (simp [mMind, *]; done) | (simp_all [mMind]; done)), by rfl⟩
    refine aw_tabOut C 112 dX0_mind_30 (by have q0 := ne_toInt s_30_1 (z := 1) rfl; have q1 := ne_toInt s_30_2 (z := 2) rfl; have q2 := ne_toInt s_30_3 (z := 3) rfl; have q3 := ne_toInt s_30_4 (z := 4) rfl; have q4 := ne_toInt s_30_5 (z := 5) rfl; have q5 := ne_toInt s_30_6 (z := 6) rfl; omega) (by decide) ?_
    refine aw_iload_n C dX0_mind_112 rfl ?_
    refine aw_iload_n C dX0_mind_113 rfl ?_
    refine aw_icmp_eq C 121 dX0_mind_114 (by decide) (fun c_114 => ?_) (fun c_114 => ?_)
    · skip
      refine aw_iconst C (0 : Int32) dX0_mind_121 (by decide) ?_
      exact aw_bret C (b := false) hr hlk dX0_mind_122 rfl ⟨rb (by first | (simp [mMind, *]; done) | (simp_all [mMind]; done)), by rfl⟩
    · skip
      refine aw_iconst C (1 : Int32) dX0_mind_117 (by decide) ?_
      refine aw_pc 118 rfl ?_
      refine aw_goto C 122 dX0_mind_118 (by decide) ?_
      exact aw_bret C (b := true) hr hlk dX0_mind_122 rfl ⟨rb (by first | (simp [mMind, *]; done) | (simp_all [mMind]; done)), by rfl⟩
abbrev r_X4_isIn : Room := { frames := 0, cells := 0, slots := 0, locals := 0 }
theorem cs_X4_isIn : cS yX4_isIn cX4_isIn 2 (some .boolean) 2 := ⟨k1_144, k1_145, k1_1, by decide, by decide, by decide +kernel⟩
set_option maxHeartbeats 4000000 in
set_option maxRecDepth 100000 in
theorem c_X4_isIn (l : Launch) (D : va_G) (cI cC : ClassId) (adK adV : Nat → Nat) (v : Int32) (n : Int32) : FC l yX4_isIn (wW yX4_isIn cX4_isIn 2 (some .boolean)) r_X4_isIn D (tyC cI cC) adK adV (([] : va_W)) [.int v, .int n] 0 0 (fQ (some (.int (b2 (in0 v n)))) (([] : va_W))) := by
  refine FC.of (own := RX4) (by decide) rfl (Nat.le_of_ble_eq_true rfl) ?_
  intro p9 e9 s9 m9 args9 below9 meth9 c9 A9 C hr hlk hmn
  show AW p9 l e9 r_X4_isIn s9 m9 args9 below9 meth9 c9 D A9 2 0 0 _ 0 [(0, .int v), (1, .int n)] [] _
  refine aw_iload_n C dX4_isIn_0 rfl ?_
  refine aw_if_lt C 13 dX4_isIn_1 (by decide) (fun c_1 => ?_) (fun c_1 => ?_)
  · skip
    refine aw_iconst C (0 : Int32) dX4_isIn_13 (by decide) ?_
    exact aw_bret C (b := false) hr hlk dX4_isIn_14 rfl ⟨rb (by simp [in0, *]), by rfl⟩
  · skip
    refine aw_iload_n C dX4_isIn_4 rfl ?_
    refine aw_iload_n C dX4_isIn_5 rfl ?_
    refine aw_icmp_ge C 13 dX4_isIn_6 (by decide) (fun c_6 => ?_) (fun c_6 => ?_)
    · skip
      refine aw_iconst C (0 : Int32) dX4_isIn_13 (by decide) ?_
      exact aw_bret C (b := false) hr hlk dX4_isIn_14 rfl ⟨rb (by simp [in0, *]), by rfl⟩
    · skip
      refine aw_pc 9 rfl ?_
      refine aw_iconst C (1 : Int32) dX4_isIn_9 (by decide) ?_
      refine aw_goto C 14 dX4_isIn_10 (by decide) ?_
      exact aw_bret C (b := true) hr hlk dX4_isIn_14 rfl ⟨rb (by simp [in0, *]), by rfl⟩
abbrev r_X4_bit : Room := { frames := 0, cells := 0, slots := 0, locals := 0 }
theorem cs_X4_bit : cS yX4_bit cX4_bit 1 (some .int) 1 := ⟨k1_228, k1_229, k1_1, by decide, by decide, by decide +kernel⟩
set_option maxHeartbeats 4000000 in
set_option maxRecDepth 100000 in
theorem c_X4_bit (l : Launch) (D : va_G) (cI cC : ClassId) (adK adV : Nat → Nat) (b : Bool) : FC l yX4_bit (wW yX4_bit cX4_bit 1 (some .int)) r_X4_bit D (tyC cI cC) adK adV (([] : va_W)) [.int (b2 b)] 0 0 (fQ (some (.int (b2 b))) (([] : va_W))) := by
  refine FC.of (own := RX4) (by decide) rfl (Nat.le_of_ble_eq_true rfl) ?_
  intro p9 e9 s9 m9 args9 below9 meth9 c9 A9 C hr hlk hmn
  show AW p9 l e9 r_X4_bit s9 m9 args9 below9 meth9 c9 D A9 1 0 0 _ 0 [(0, .int (b2 b))] [] _
  refine aw_iload_n C dX4_bit_0 rfl ?_
  refine aw_ifeq_b C 8 dX4_bit_1 (by decide) (fun c_1 => ?_) (fun c_1 => ?_)
  · skip
    refine aw_iconst C (0 : Int32) dX4_bit_8 (by decide) ?_
    exact aw_iret C hr hlk dX4_bit_9 ⟨ri (by simp [b2, *]), by rfl⟩
  · skip
    refine aw_iconst C (1 : Int32) dX4_bit_4 (by decide) ?_
    refine aw_goto C 9 dX4_bit_5 (by decide) ?_
    exact aw_iret C hr hlk dX4_bit_9 ⟨ri (by simp [b2, *]), by rfl⟩
abbrev r_X3_holds : Room := { frames := 0, cells := 0, slots := 0, locals := 0 }
theorem cs_X3_holds : cS yX3_holds cX3_holds 2 (some .boolean) 2 := ⟨k2_28, k2_29, k1_2, by decide, by decide, by decide +kernel⟩
set_option maxHeartbeats 4000000 in
set_option maxRecDepth 100000 in
theorem c_X3_holds (l : Launch) (D : va_G) (cI cC : ClassId) (adK adV : Nat → Nat) (s : Int32) (q : Int32) : FC l yX3_holds (wW yX3_holds cX3_holds 2 (some .boolean)) r_X3_holds D (tyC cI cC) adK adV (([] : va_W)) [.int s, .int q] 0 0 (fQ (some (.int (b2 (hol s q)))) (([] : va_W))) := by
  refine FC.of (own := RX3) (by decide) rfl (Nat.le_of_ble_eq_true rfl) ?_
  intro p9 e9 s9 m9 args9 below9 meth9 c9 A9 C hr hlk hmn
  show AW p9 l e9 r_X3_holds s9 m9 args9 below9 meth9 c9 D A9 2 0 0 _ 0 [(0, .int s), (1, .int q)] [] _
  refine aw_iload_n C dX3_holds_0 rfl ?_
  refine aw_iload_n C dX3_holds_1 rfl ?_
  refine aw_ishr C dX3_holds_2 ?_
  refine aw_iconst C (1 : Int32) dX3_holds_3 (by decide) ?_
  refine aw_iand C dX3_holds_4 ?_
  refine aw_iconst C (1 : Int32) dX3_holds_5 (by decide) ?_
  refine aw_icmp_ne C 13 dX3_holds_6 (by decide) (fun c_6 => ?_) (fun c_6 => ?_)
  · skip
    refine aw_iconst C (0 : Int32) dX3_holds_13 (by decide) ?_
    exact aw_bret C (b := false) hr hlk dX3_holds_14 rfl ⟨rb (by simp [hol, *]), by rfl⟩
  · skip
    refine aw_pc 9 rfl ?_
    refine aw_iconst C (1 : Int32) dX3_holds_9 (by decide) ?_
    refine aw_goto C 14 dX3_holds_10 (by decide) ?_
    exact aw_bret C (b := true) hr hlk dX3_holds_14 rfl ⟨rb (by simp [hol, *]), by rfl⟩
abbrev r_X3_isThere : Room := { frames := 0, cells := 0, slots := 0, locals := 0 }
theorem cv_X3_isThere : cV yX3_isThere cX3_isThere 2 (some .boolean) 1 := ⟨k1_165, k1_166, k1_167, k1_2, by decide, by decide, by decide +kernel⟩
set_option maxHeartbeats 4000000 in
set_option maxRecDepth 100000 in
theorem c_X3_isThere (l : Launch) (D : va_G) (cI cC : ClassId) (adK adV : Nat → Nat) (h : Nat) (a : Nat → Nat) (T : Tw) (q : Int32) : FC l yX3_isThere (wW yX3_isThere cX3_isThere 2 (some .boolean)) r_X3_isThere D (tyC cI cC) adK adV (wTo cI h a T) [.ref h, .int q] 0 0 (fQ (some (.int (b2 (mThere T q)))) (wTo cI h a T)) := by
  refine FC.of (own := RX3) (by decide) rfl (Nat.le_of_ble_eq_true rfl) ?_
  intro p9 e9 s9 m9 args9 below9 meth9 c9 A9 C hr hlk hmn
  show AW p9 l e9 r_X3_isThere s9 m9 args9 below9 meth9 c9 D A9 2 0 0 _ 0 [(0, .ref h), (1, .int q)] [] _
  refine aw_iload_n C dX3_isThere_0 rfl ?_
  refine aw_if_lt C 16 dX3_isThere_1 (by decide) (fun c_1 => ?_) (fun c_1 => ?_)
  · skip
    refine aw_iconst C (0 : Int32) dX3_isThere_16 (by decide) ?_
    exact aw_bret C (b := false) hr hlk dX3_isThere_17 rfl ⟨rb (by simp [mThere, in0, *]), by rfl⟩
  · skip
    refine aw_iload_n C dX3_isThere_4 rfl ?_
    refine aw_aload_n C dX3_isThere_5 rfl ?_
    refine aw_getf C 0 2 0 12 inX3 rfl (by decide) rfl k1_32 rfl rfl dX3_isThere_6 ?_
    refine aw_icmp_ge C 16 dX3_isThere_9 (by decide) (fun c_9 => ?_) (fun c_9 => ?_)
    · skip
      refine aw_iconst C (0 : Int32) dX3_isThere_16 (by decide) ?_
      refine aw_pc 17 rfl ?_
      exact aw_bret C (b := false) hr hlk dX3_isThere_17 rfl ⟨rb (by simp [mThere, in0, *]), by rfl⟩
    · skip
      refine aw_iconst C (1 : Int32) dX3_isThere_12 (by decide) ?_
      refine aw_goto C 17 dX3_isThere_13 (by decide) ?_
      exact aw_bret C (b := true) hr hlk dX3_isThere_17 rfl ⟨rb (by simp [mThere, in0, *]), by rfl⟩
abbrev r_X3_isFull : Room := { frames := 0, cells := 0, slots := 0, locals := 0 }
theorem cv_X3_isFull : cV yX3_isFull cX3_isFull 1 (some .boolean) 0 := ⟨k1_152, k1_153, k1_154, k1_2, by decide, by decide, by decide +kernel⟩
set_option maxHeartbeats 4000000 in
set_option maxRecDepth 100000 in
theorem c_X3_isFull (l : Launch) (D : va_G) (cI cC : ClassId) (adK adV : Nat → Nat) (h : Nat) (a : Nat → Nat) (T : Tw) : FC l yX3_isFull (wW yX3_isFull cX3_isFull 1 (some .boolean)) r_X3_isFull D (tyC cI cC) adK adV (wTo cI h a T) [.ref h] 0 0 (fQ (some (.int (b2 (!decide (nI T.1 < 8))))) (wTo cI h a T)) := by
  refine FC.of (own := RX3) (by decide) rfl (Nat.le_of_ble_eq_true rfl) ?_
  intro p9 e9 s9 m9 args9 below9 meth9 c9 A9 C hr hlk hmn
  show AW p9 l e9 r_X3_isFull s9 m9 args9 below9 meth9 c9 D A9 1 0 0 _ 0 [(0, .ref h)] [] _
  refine aw_aload_n C dX3_isFull_0 rfl ?_
  refine aw_getf C 0 2 0 12 inX3 rfl (by decide) rfl k1_32 rfl rfl dX3_isFull_1 ?_
  refine aw_bipush C (8 : Int32) dX3_isFull_4 (by decide) ?_
  refine aw_icmp_lt C 13 dX3_isFull_6 (by decide) (fun c_6 => ?_) (fun c_6 => ?_)
  · skip
    refine aw_iconst C (0 : Int32) dX3_isFull_13 (by decide) ?_
    exact aw_bret C (b := false) hr hlk dX3_isFull_14 rfl ⟨rb (by simp [*]), by rfl⟩
  · skip
    refine aw_iconst C (1 : Int32) dX3_isFull_9 (by decide) ?_
    refine aw_goto C 14 dX3_isFull_10 (by decide) ?_
    exact aw_bret C (b := true) hr hlk dX3_isFull_14 rfl ⟨rb (by simp [*]), by rfl⟩
abbrev r_X3_everybody : Room := { frames := 0, cells := 0, slots := 0, locals := 0 }
theorem cv_X3_everybody : cV yX3_everybody cX3_everybody 1 (some .int) 0 := ⟨k1_212, k1_213, k1_214, k1_2, by decide, by decide, by decide +kernel⟩
set_option maxHeartbeats 4000000 in
set_option maxRecDepth 100000 in
theorem c_X3_everybody (l : Launch) (D : va_G) (cI cC : ClassId) (adK adV : Nat → Nat) (h : Nat) (a : Nat → Nat) (T : Tw) : FC l yX3_everybody (wW yX3_everybody cX3_everybody 1 (some .int)) r_X3_everybody D (tyC cI cC) adK adV (wTo cI h a T) [.ref h] 0 0 (fQ (some (.int (evb T))) (wTo cI h a T)) := by
  refine FC.of (own := RX3) (by decide) rfl (Nat.le_of_ble_eq_true rfl) ?_
  intro p9 e9 s9 m9 args9 below9 meth9 c9 A9 C hr hlk hmn
  show AW p9 l e9 r_X3_everybody s9 m9 args9 below9 meth9 c9 D A9 1 0 0 _ 0 [(0, .ref h)] [] _
  refine aw_iconst C (1 : Int32) dX3_everybody_0 (by decide) ?_
  refine aw_aload_n C dX3_everybody_1 rfl ?_
  refine aw_getf C 0 2 0 12 inX3 rfl (by decide) rfl k1_32 rfl rfl dX3_everybody_2 ?_
  refine aw_ishl C dX3_everybody_5 ?_
  refine aw_iconst C (1 : Int32) dX3_everybody_6 (by decide) ?_
  refine aw_isub C dX3_everybody_7 ?_
  exact aw_iret C hr hlk dX3_everybody_8 ⟨ri (by rfl), by rfl⟩
abbrev r_X3_areTwo : Room := { frames := 1, cells := 0, slots := 0, locals := 21 }
theorem cv_X3_areTwo : cV yX3_areTwo cX3_areTwo 3 (some .boolean) 2 := ⟨k1_235, k1_236, k1_237, k1_2, by decide, by decide, by decide +kernel⟩
set_option maxHeartbeats 4000000 in
set_option maxRecDepth 100000 in
theorem c_X3_areTwo (l : Launch) (D : va_G) (cI cC : ClassId) (adK adV : Nat → Nat) (h : Nat) (a : Nat → Nat) (T : Tw) (u : Int32) (v : Int32) : FC l yX3_areTwo (wW yX3_areTwo cX3_areTwo 3 (some .boolean)) r_X3_areTwo D (tyC cI cC) adK adV (wTo cI h a T) [.ref h, .int u, .int v] 0 0 (fQ (some (.int (b2 (mTwo T u v)))) (wTo cI h a T)) := by
  refine FC.of (own := RX3) (by decide) rfl (Nat.le_of_ble_eq_true rfl) ?_
  intro p9 e9 s9 m9 args9 below9 meth9 c9 A9 C hr hlk hmn
  show AW p9 l e9 r_X3_areTwo s9 m9 args9 below9 meth9 c9 D A9 3 0 0 _ 0 [(0, .ref h), (1, .int u), (2, .int v)] [] _
  refine aw_aload_n C dX3_areTwo_0 rfl ?_
  refine aw_iload_n C dX3_areTwo_1 rfl ?_
  refine aw_callVp C (As := [.int u]) (c_X3_isThere l D cI cC adK adV h a T u) k1_164 cv_X3_isThere 0 2 rfl rfl rfl [0, 1, 2, 3, 4, 5, 6, 7, 8] (by decide) rfl ⟨by decide, by decide⟩ rfl rfl ⟨by decide, by decide⟩ rfl rfl (Nat.le_of_ble_eq_true rfl) dX3_areTwo_2 ?_
  refine aw_ifeq_b C 25 dX3_areTwo_5 (by decide) (fun c_5 => ?_) (fun c_5 => ?_)
  · skip
    refine aw_iconst C (0 : Int32) dX3_areTwo_25 (by decide) ?_
    exact aw_bret C (b := false) hr hlk dX3_areTwo_26 rfl ⟨rb (by simp [mTwo, *]), by rfl⟩
  · skip
    refine aw_aload_n C dX3_areTwo_8 rfl ?_
    refine aw_iload_n C dX3_areTwo_9 rfl ?_
    refine aw_callVp C (As := [.int v]) (c_X3_isThere l D cI cC adK adV h a T v) k1_164 cv_X3_isThere 0 2 rfl rfl rfl [0, 1, 2, 3, 4, 5, 6, 7, 8] (by decide) rfl ⟨by decide, by decide⟩ rfl rfl ⟨by decide, by decide⟩ rfl rfl (Nat.le_of_ble_eq_true rfl) dX3_areTwo_10 ?_
    refine aw_pc 13 rfl ?_
    refine aw_ifeq_b C 25 dX3_areTwo_13 (by decide) (fun c_13 => ?_) (fun c_13 => ?_)
    · skip
      refine aw_iconst C (0 : Int32) dX3_areTwo_25 (by decide) ?_
      exact aw_bret C (b := false) hr hlk dX3_areTwo_26 rfl ⟨rb (by simp [mTwo, *]), by rfl⟩
    · skip
      refine aw_iload_n C dX3_areTwo_16 rfl ?_
      refine aw_iload_n C dX3_areTwo_17 rfl ?_
      refine aw_icmp_eq C 25 dX3_areTwo_18 (by decide) (fun c_18 => ?_) (fun c_18 => ?_)
      · skip
        refine aw_iconst C (0 : Int32) dX3_areTwo_25 (by decide) ?_
        exact aw_bret C (b := false) hr hlk dX3_areTwo_26 rfl ⟨rb (by simp [mTwo, *]), by rfl⟩
      · skip
        refine aw_iconst C (1 : Int32) dX3_areTwo_21 (by decide) ?_
        refine aw_goto C 26 dX3_areTwo_22 (by decide) ?_
        refine aw_pc 26 rfl ?_
        exact aw_bret C (b := true) hr hlk dX3_areTwo_26 rfl ⟨rb (by simp [mTwo, *]), by rfl⟩
abbrev r_X3_trait : Room := { frames := 2, cells := 0, slots := 0, locals := 42 }
theorem cv_X3_trait : cV yX3_trait cX3_trait 3 (some .int) 2 := ⟨k1_174, k1_175, k1_176, k1_2, by decide, by decide, by decide +kernel⟩
set_option maxHeartbeats 4000000 in
set_option maxRecDepth 100000 in
theorem c_X3_trait (l : Launch) (D : va_G) (cI cC : ClassId) (adK adV : Nat → Nat) (h : Nat) (a : Nat → Nat) (T : Tw) (q : Nat) (w : Int32) (hn : T.1 ≤ 8) (hq : q < T.1) : FC l yX3_trait (wW yX3_trait cX3_trait 3 (some .int)) r_X3_trait D (tyC cI cC) adK adV (wTo cI h a T) [.ref h, .int (nI q), .int w] 0 0 (fQ (some (.int (mTrait T q w))) (wTo cI h a T)) := by
  refine FC.of (own := RX3) (by decide) rfl (Nat.le_of_ble_eq_true rfl) ?_
  intro p9 e9 s9 m9 args9 below9 meth9 c9 A9 C hr hlk hmn
  show AW p9 l e9 r_X3_trait s9 m9 args9 below9 meth9 c9 D A9 3 0 0 _ 0 [(0, .ref h), (1, .int (nI q)), (2, .int w)] [] _
  refine aw_aload_n C dX3_trait_0 rfl ?_
  refine aw_iload_n C dX3_trait_1 rfl ?_
  refine aw_callVp C (As := [.int (nI q)]) (c_X3_isThere l D cI cC adK adV h a T (nI q)) k1_164 cv_X3_isThere 0 2 rfl rfl rfl [0, 1, 2, 3, 4, 5, 6, 7, 8] (by decide) rfl ⟨by decide, by decide⟩ rfl rfl ⟨by decide, by decide⟩ rfl rfl (Nat.le_of_ble_eq_true rfl) dX3_trait_2 ?_
  refine aw_ifne_b C 10 dX3_trait_5 (by decide) (fun c_5 => ?_) (fun c_5 => absurd c_5 ((by rw [there_nI hn hq]; exact Bool.noConfusion)))
  refine aw_iload_n C dX3_trait_10 rfl ?_
  by_cases s_11_0 : w = (0 : Int32)
  · skip
    refine aw_tabIn C (0) 64 dX3_trait_11 (by rw [s_11_0]; rfl) (by decide) (by decide) rfl (by decide) ?_
    refine aw_aload_n C dX3_trait_64 rfl ?_
    refine aw_getf C 0 2 5 12 inX3 rfl (by decide) rfl k1_43 rfl rfl dX3_trait_65 ?_
    refine aw_iload_n C dX3_trait_68 rfl ?_
    refine aw_pc 69 rfl ?_
    refine aw_ialdN C 2 0 q rfl rfl rfl (by omega) (by decide) dX3_trait_69 ?_
    exact aw_iret C hr hlk dX3_trait_70 ⟨ri (by simp only [if_pos s_11_0, mTrait] <;> first | done | rfl), by rfl⟩
  by_cases s_11_1 : w = (1 : Int32)
  · skip
    refine aw_tabIn C (1) 71 dX3_trait_11 (by rw [s_11_1]; rfl) (by decide) (by decide) rfl (by decide) ?_
    refine aw_aload_n C dX3_trait_71 rfl ?_
    refine aw_getf C 0 2 6 12 inX3 rfl (by decide) rfl k1_44 rfl rfl dX3_trait_72 ?_
    refine aw_iload_n C dX3_trait_75 rfl ?_
    refine aw_ialdN C 3 0 q rfl rfl rfl (by omega) (by decide) dX3_trait_76 ?_
    exact aw_iret C hr hlk dX3_trait_77 ⟨ri (by simp only [if_pos s_11_1, if_neg s_11_0, mTrait] <;> first | done | rfl), by rfl⟩
  by_cases s_11_2 : w = (2 : Int32)
  · skip
    refine aw_tabIn C (2) 78 dX3_trait_11 (by rw [s_11_2]; rfl) (by decide) (by decide) rfl (by decide) ?_
    refine aw_aload_n C dX3_trait_78 rfl ?_
    refine aw_getf C 0 2 7 12 inX3 rfl (by decide) rfl k1_45 rfl rfl dX3_trait_79 ?_
    refine aw_iload_n C dX3_trait_82 rfl ?_
    refine aw_pc 83 rfl ?_
    refine aw_ialdN C 4 0 q rfl rfl rfl (by omega) (by decide) dX3_trait_83 ?_
    exact aw_iret C hr hlk dX3_trait_84 ⟨ri (by simp only [if_pos s_11_2, if_neg s_11_0, if_neg s_11_1, mTrait] <;> first | done | rfl), by rfl⟩
  by_cases s_11_3 : w = (3 : Int32)
  · skip
    refine aw_tabIn C (3) 85 dX3_trait_11 (by rw [s_11_3]; rfl) (by decide) (by decide) rfl (by decide) ?_
    refine aw_aload_n C dX3_trait_85 rfl ?_
    refine aw_getf C 0 2 8 12 inX3 rfl (by decide) rfl k1_46 rfl rfl dX3_trait_86 ?_
    refine aw_iload_n C dX3_trait_89 rfl ?_
    refine aw_ialdN C 5 0 q rfl rfl rfl (by omega) (by decide) dX3_trait_90 ?_
    exact aw_iret C hr hlk dX3_trait_91 ⟨ri (by simp only [if_pos s_11_3, if_neg s_11_0, if_neg s_11_1, if_neg s_11_2, mTrait] <;> first | done | rfl), by rfl⟩
  by_cases s_11_4 : w = (4 : Int32)
  · skip
    refine aw_tabIn C (4) 92 dX3_trait_11 (by rw [s_11_4]; rfl) (by decide) (by decide) rfl (by decide) ?_
    refine aw_aload_n C dX3_trait_92 rfl ?_
    refine aw_getf C 0 2 9 12 inX3 rfl (by decide) rfl k1_47 rfl rfl dX3_trait_93 ?_
    refine aw_iload_n C dX3_trait_96 rfl ?_
    refine aw_pc 97 rfl ?_
    refine aw_ialdN C 6 0 q rfl rfl rfl (by omega) (by decide) dX3_trait_97 ?_
    exact aw_iret C hr hlk dX3_trait_98 ⟨ri (by simp only [if_pos s_11_4, if_neg s_11_0, if_neg s_11_1, if_neg s_11_2, if_neg s_11_3, mTrait] <;> first | done | rfl), by rfl⟩
  by_cases s_11_5 : w = (5 : Int32)
  · skip
    refine aw_tabIn C (5) 99 dX3_trait_11 (by rw [s_11_5]; rfl) (by decide) (by decide) rfl (by decide) ?_
    refine aw_aload_n C dX3_trait_99 rfl ?_
    refine aw_getf C 0 2 10 12 inX3 rfl (by decide) rfl k1_48 rfl rfl dX3_trait_100 ?_
    refine aw_iload_n C dX3_trait_103 rfl ?_
    refine aw_ialdN C 7 0 q rfl rfl rfl (by omega) (by decide) dX3_trait_104 ?_
    exact aw_iret C hr hlk dX3_trait_105 ⟨ri (by simp only [if_pos s_11_5, if_neg s_11_0, if_neg s_11_1, if_neg s_11_2, if_neg s_11_3, if_neg s_11_4, mTrait] <;> first | done | rfl), by rfl⟩
  by_cases s_11_6 : w = (6 : Int32)
  · skip
    refine aw_tabIn C (6) 106 dX3_trait_11 (by rw [s_11_6]; rfl) (by decide) (by decide) rfl (by decide) ?_
    refine aw_aload_n C dX3_trait_106 rfl ?_
    refine aw_getf C 0 2 11 12 inX3 rfl (by decide) rfl k1_49 rfl rfl dX3_trait_107 ?_
    refine aw_iload_n C dX3_trait_110 rfl ?_
    refine aw_pc 111 rfl ?_
    refine aw_ialdN C 8 0 q rfl rfl rfl (by omega) (by decide) dX3_trait_111 ?_
    exact aw_iret C hr hlk dX3_trait_112 ⟨ri (by simp only [if_pos s_11_6, if_neg s_11_0, if_neg s_11_1, if_neg s_11_2, if_neg s_11_3, if_neg s_11_4, if_neg s_11_5, mTrait] <;> first | done | rfl), by rfl⟩
  by_cases s_11_7 : w = (7 : Int32)
  · skip
    refine aw_tabIn C (7) 113 dX3_trait_11 (by rw [s_11_7]; rfl) (by decide) (by decide) rfl (by decide) ?_
    refine aw_aload_n C dX3_trait_113 rfl ?_
    refine aw_getf C 0 2 5 12 inX3 rfl (by decide) rfl k1_43 rfl rfl dX3_trait_114 ?_
    refine aw_iload_n C dX3_trait_117 rfl ?_
    refine aw_ialdN C 2 0 q rfl rfl rfl (by omega) (by decide) dX3_trait_118 ?_
    refine aw_aload_n C dX3_trait_119 rfl ?_
    refine aw_getf C 0 2 1 12 inX3 rfl (by decide) rfl k1_35 rfl rfl dX3_trait_120 ?_
    refine aw_callSp C (As := [.int (T.2.2.1 0 q), .int (T.2.1 0)]) (c_X0_walk l D cI cC adK adV (T.2.2.1 0 q) (T.2.1 0)) k1_177 cs_X0_walk [] (by decide) rfl ⟨by decide, by decide⟩ rfl rfl ⟨by decide, by decide⟩ rfl rfl (Nat.le_of_ble_eq_true rfl) dX3_trait_123 ?_
    exact aw_iret C hr hlk dX3_trait_126 ⟨ri (by simp only [if_pos s_11_7, if_neg s_11_0, if_neg s_11_1, if_neg s_11_2, if_neg s_11_3, if_neg s_11_4, if_neg s_11_5, if_neg s_11_6, mTrait] <;> first | done | rfl), by rfl⟩
  by_cases s_11_8 : w = (8 : Int32)
  · skip
    refine aw_tabIn C (8) 127 dX3_trait_11 (by rw [s_11_8]; rfl) (by decide) (by decide) rfl (by decide) ?_
    refine aw_pc 127 rfl ?_
    refine aw_aload_n C dX3_trait_127 rfl ?_
    refine aw_getf C 0 2 5 12 inX3 rfl (by decide) rfl k1_43 rfl rfl dX3_trait_128 ?_
    refine aw_iload_n C dX3_trait_131 rfl ?_
    refine aw_ialdN C 2 0 q rfl rfl rfl (by omega) (by decide) dX3_trait_132 ?_
    refine aw_aload_n C dX3_trait_133 rfl ?_
    refine aw_getf C 0 2 1 12 inX3 rfl (by decide) rfl k1_35 rfl rfl dX3_trait_134 ?_
    refine aw_callSp C (As := [.int (T.2.2.1 0 q), .int (T.2.1 0)]) (c_X0_shift l D cI cC adK adV (T.2.2.1 0 q) (T.2.1 0)) k1_183 cs_X0_shift [] (by decide) rfl ⟨by decide, by decide⟩ rfl rfl ⟨by decide, by decide⟩ rfl rfl (Nat.le_of_ble_eq_true rfl) dX3_trait_137 ?_
    exact aw_iret C hr hlk dX3_trait_140 ⟨ri (by simp only [if_pos s_11_8, if_neg s_11_0, if_neg s_11_1, if_neg s_11_2, if_neg s_11_3, if_neg s_11_4, if_neg s_11_5, if_neg s_11_6, if_neg s_11_7, mTrait] <;> first | done | rfl), by rfl⟩
  by_cases s_11_9 : w = (9 : Int32)
  · skip
    refine aw_tabIn C (9) 141 dX3_trait_11 (by rw [s_11_9]; rfl) (by decide) (by decide) rfl (by decide) ?_
    refine aw_aload_n C dX3_trait_141 rfl ?_
    refine aw_getf C 0 2 5 12 inX3 rfl (by decide) rfl k1_43 rfl rfl dX3_trait_142 ?_
    refine aw_pc 145 rfl ?_
    refine aw_iload_n C dX3_trait_145 rfl ?_
    refine aw_ialdN C 2 0 q rfl rfl rfl (by omega) (by decide) dX3_trait_146 ?_
    refine aw_callSp C (As := [.int (T.2.2.1 0 q)]) (c_X0_shine l D cI cC adK adV (T.2.2.1 0 q)) k1_186 cs_X0_shine [] (by decide) rfl ⟨by decide, by decide⟩ rfl rfl ⟨by decide, by decide⟩ rfl rfl (Nat.le_of_ble_eq_true rfl) dX3_trait_147 ?_
    exact aw_iret C hr hlk dX3_trait_150 ⟨ri (by simp only [if_pos s_11_9, if_neg s_11_0, if_neg s_11_1, if_neg s_11_2, if_neg s_11_3, if_neg s_11_4, if_neg s_11_5, if_neg s_11_6, if_neg s_11_7, if_neg s_11_8, mTrait] <;> first | done | rfl), by rfl⟩
  refine aw_tabOut C 151 dX3_trait_11 (by have q0 := ne_toInt s_11_0 (z := 0) rfl; have q1 := ne_toInt s_11_1 (z := 1) rfl; have q2 := ne_toInt s_11_2 (z := 2) rfl; have q3 := ne_toInt s_11_3 (z := 3) rfl; have q4 := ne_toInt s_11_4 (z := 4) rfl; have q5 := ne_toInt s_11_5 (z := 5) rfl; have q6 := ne_toInt s_11_6 (z := 6) rfl; have q7 := ne_toInt s_11_7 (z := 7) rfl; have q8 := ne_toInt s_11_8 (z := 8) rfl; have q9 := ne_toInt s_11_9 (z := 9) rfl; omega) (by decide) ?_
  refine aw_aload_n C dX3_trait_151 rfl ?_
  refine aw_getf C 0 2 5 12 inX3 rfl (by decide) rfl k1_43 rfl rfl dX3_trait_152 ?_
  refine aw_iload_n C dX3_trait_155 rfl ?_
  refine aw_ialdN C 2 0 q rfl rfl rfl (by omega) (by decide) dX3_trait_156 ?_
  refine aw_aload_n C dX3_trait_157 rfl ?_
  refine aw_getf C 0 2 9 12 inX3 rfl (by decide) rfl k1_47 rfl rfl dX3_trait_158 ?_
  refine aw_pc 161 rfl ?_
  refine aw_iload_n C dX3_trait_161 rfl ?_
  refine aw_ialdN C 6 0 q rfl rfl rfl (by omega) (by decide) dX3_trait_162 ?_
  refine aw_callSp C (As := [.int (T.2.2.1 4 q)]) (c_J6_bitCount_0f7a4 l D cI cC adK adV (T.2.2.1 4 q)) k1_189 cs_J6_bitCount_0f7a4 [] (by decide) rfl ⟨by decide, by decide⟩ rfl rfl ⟨by decide, by decide⟩ rfl rfl (Nat.le_of_ble_eq_true rfl) dX3_trait_163 ?_
  refine aw_callSp C (As := [.int (T.2.2.1 0 q), .int (bcE (T.2.2.1 4 q))]) (c_X0_gladden l D cI cC adK adV (T.2.2.1 0 q) (bcE (T.2.2.1 4 q))) k1_195 cs_X0_gladden [] (by decide) rfl ⟨by decide, by decide⟩ rfl rfl ⟨by decide, by decide⟩ rfl rfl (Nat.le_of_ble_eq_true rfl) dX3_trait_166 ?_
  exact aw_iret C hr hlk dX3_trait_169 ⟨ri (by simp only [if_neg s_11_0, if_neg s_11_1, if_neg s_11_2, if_neg s_11_3, if_neg s_11_4, if_neg s_11_5, if_neg s_11_6, if_neg s_11_7, if_neg s_11_8, if_neg s_11_9, mTrait] <;> first | done | rfl), by rfl⟩
abbrev r_X3_put : Room := { frames := 1, cells := 0, slots := 0, locals := 21 }
theorem cv_X3_put : cV yX3_put cX3_put 4 none 3 := ⟨k1_161, k1_162, k1_163, k1_2, by decide, by decide, by decide +kernel⟩
set_option maxHeartbeats 4000000 in
set_option maxRecDepth 100000 in
theorem c_X3_put (l : Launch) (D : va_G) (cI cC : ClassId) (adK adV : Nat → Nat) (h : Nat) (a : Nat → Nat) (T : Tw) (q : Nat) (w : Int32) (v : Int32) (hn : T.1 ≤ 8) (hq : q < T.1) : FC l yX3_put (wW yX3_put cX3_put 4 none) r_X3_put D (tyC cI cC) adK adV (wTo cI h a T) [.ref h, .int (nI q), .int w, .int v] 0 0 (fQ none (wTo cI h a (mPut T q w v))) := by
  refine FC.of (own := RX3) (by decide) rfl (Nat.le_of_ble_eq_true rfl) ?_
  intro p9 e9 s9 m9 args9 below9 meth9 c9 A9 C hr hlk hmn
  show AW p9 l e9 r_X3_put s9 m9 args9 below9 meth9 c9 D A9 4 0 0 _ 0 [(0, .ref h), (1, .int (nI q)), (2, .int w), (3, .int v)] [] _
  refine aw_aload_n C dX3_put_0 rfl ?_
  refine aw_iload_n C dX3_put_1 rfl ?_
  refine aw_callVp C (As := [.int (nI q)]) (c_X3_isThere l D cI cC adK adV h a T (nI q)) k1_164 cv_X3_isThere 0 2 rfl rfl rfl [0, 1, 2, 3, 4, 5, 6, 7, 8] (by decide) rfl ⟨by decide, by decide⟩ rfl rfl ⟨by decide, by decide⟩ rfl rfl (Nat.le_of_ble_eq_true rfl) dX3_put_2 ?_
  refine aw_ifne_b C 9 dX3_put_5 (by decide) (fun c_5 => ?_) (fun c_5 => absurd c_5 ((by rw [there_nI hn hq]; exact Bool.noConfusion)))
  refine aw_iload_n C dX3_put_9 rfl ?_
  by_cases s_10_0 : w = (0 : Int32)
  · skip
    refine aw_tabIn C (0) 52 dX3_put_10 (by rw [s_10_0]; rfl) (by decide) (by decide) rfl (by decide) ?_
    refine aw_aload_n C dX3_put_52 rfl ?_
    refine aw_getf C 0 2 5 12 inX3 rfl (by decide) rfl k1_43 rfl rfl dX3_put_53 ?_
    refine aw_iload_n C dX3_put_56 rfl ?_
    refine aw_pc 57 rfl ?_
    refine aw_iload_n C dX3_put_57 rfl ?_
    refine aw_iastN C 2 0 q rfl rfl rfl (by omega) (by decide) (ws' := wTo cI h a (sP T 0 q v)) rfl dX3_put_58 ?_
    refine aw_goto C 122 dX3_put_59 (by decide) ?_
    exact aw_vret C hr hlk dX3_put_122 ⟨rfl, by simp only [if_pos s_10_0, mPut] <;> first | done | rfl⟩
  by_cases s_10_1 : w = (1 : Int32)
  · skip
    refine aw_tabIn C (1) 62 dX3_put_10 (by rw [s_10_1]; rfl) (by decide) (by decide) rfl (by decide) ?_
    refine aw_aload_n C dX3_put_62 rfl ?_
    refine aw_getf C 0 2 6 12 inX3 rfl (by decide) rfl k1_44 rfl rfl dX3_put_63 ?_
    refine aw_iload_n C dX3_put_66 rfl ?_
    refine aw_iload_n C dX3_put_67 rfl ?_
    refine aw_iastN C 3 0 q rfl rfl rfl (by omega) (by decide) (ws' := wTo cI h a (sP T 1 q v)) rfl dX3_put_68 ?_
    refine aw_goto C 122 dX3_put_69 (by decide) ?_
    refine aw_pc 122 rfl ?_
    exact aw_vret C hr hlk dX3_put_122 ⟨rfl, by simp only [if_pos s_10_1, if_neg s_10_0, mPut] <;> first | done | rfl⟩
  by_cases s_10_2 : w = (2 : Int32)
  · skip
    refine aw_tabIn C (2) 72 dX3_put_10 (by rw [s_10_2]; rfl) (by decide) (by decide) rfl (by decide) ?_
    refine aw_aload_n C dX3_put_72 rfl ?_
    refine aw_getf C 0 2 7 12 inX3 rfl (by decide) rfl k1_45 rfl rfl dX3_put_73 ?_
    refine aw_iload_n C dX3_put_76 rfl ?_
    refine aw_iload_n C dX3_put_77 rfl ?_
    refine aw_iastN C 4 0 q rfl rfl rfl (by omega) (by decide) (ws' := wTo cI h a (sP T 2 q v)) rfl dX3_put_78 ?_
    refine aw_goto C 122 dX3_put_79 (by decide) ?_
    exact aw_vret C hr hlk dX3_put_122 ⟨rfl, by simp only [if_pos s_10_2, if_neg s_10_0, if_neg s_10_1, mPut] <;> first | done | rfl⟩
  by_cases s_10_3 : w = (3 : Int32)
  · skip
    refine aw_tabIn C (3) 82 dX3_put_10 (by rw [s_10_3]; rfl) (by decide) (by decide) rfl (by decide) ?_
    refine aw_aload_n C dX3_put_82 rfl ?_
    refine aw_getf C 0 2 8 12 inX3 rfl (by decide) rfl k1_46 rfl rfl dX3_put_83 ?_
    refine aw_pc 86 rfl ?_
    refine aw_iload_n C dX3_put_86 rfl ?_
    refine aw_iload_n C dX3_put_87 rfl ?_
    refine aw_iastN C 5 0 q rfl rfl rfl (by omega) (by decide) (ws' := wTo cI h a (sP T 3 q v)) rfl dX3_put_88 ?_
    refine aw_goto C 122 dX3_put_89 (by decide) ?_
    exact aw_vret C hr hlk dX3_put_122 ⟨rfl, by simp only [if_pos s_10_3, if_neg s_10_0, if_neg s_10_1, if_neg s_10_2, mPut] <;> first | done | rfl⟩
  by_cases s_10_4 : w = (4 : Int32)
  · skip
    refine aw_tabIn C (4) 92 dX3_put_10 (by rw [s_10_4]; rfl) (by decide) (by decide) rfl (by decide) ?_
    refine aw_aload_n C dX3_put_92 rfl ?_
    refine aw_getf C 0 2 9 12 inX3 rfl (by decide) rfl k1_47 rfl rfl dX3_put_93 ?_
    refine aw_iload_n C dX3_put_96 rfl ?_
    refine aw_iload_n C dX3_put_97 rfl ?_
    refine aw_iastN C 6 0 q rfl rfl rfl (by omega) (by decide) (ws' := wTo cI h a (sP T 4 q v)) rfl dX3_put_98 ?_
    refine aw_pc 99 rfl ?_
    refine aw_goto C 122 dX3_put_99 (by decide) ?_
    exact aw_vret C hr hlk dX3_put_122 ⟨rfl, by simp only [if_pos s_10_4, if_neg s_10_0, if_neg s_10_1, if_neg s_10_2, if_neg s_10_3, mPut] <;> first | done | rfl⟩
  by_cases s_10_5 : w = (5 : Int32)
  · skip
    refine aw_tabIn C (5) 102 dX3_put_10 (by rw [s_10_5]; rfl) (by decide) (by decide) rfl (by decide) ?_
    refine aw_aload_n C dX3_put_102 rfl ?_
    refine aw_getf C 0 2 10 12 inX3 rfl (by decide) rfl k1_48 rfl rfl dX3_put_103 ?_
    refine aw_iload_n C dX3_put_106 rfl ?_
    refine aw_iload_n C dX3_put_107 rfl ?_
    refine aw_iastN C 7 0 q rfl rfl rfl (by omega) (by decide) (ws' := wTo cI h a (sP T 5 q v)) rfl dX3_put_108 ?_
    refine aw_goto C 122 dX3_put_109 (by decide) ?_
    exact aw_vret C hr hlk dX3_put_122 ⟨rfl, by simp only [if_pos s_10_5, if_neg s_10_0, if_neg s_10_1, if_neg s_10_2, if_neg s_10_3, if_neg s_10_4, mPut] <;> first | done | rfl⟩
  by_cases s_10_6 : w = (6 : Int32)
  · skip
    refine aw_tabIn C (6) 112 dX3_put_10 (by rw [s_10_6]; rfl) (by decide) (by decide) rfl (by decide) ?_
    refine aw_aload_n C dX3_put_112 rfl ?_
    refine aw_pc 113 rfl ?_
    refine aw_getf C 0 2 11 12 inX3 rfl (by decide) rfl k1_49 rfl rfl dX3_put_113 ?_
    refine aw_iload_n C dX3_put_116 rfl ?_
    refine aw_iload_n C dX3_put_117 rfl ?_
    refine aw_iastN C 8 0 q rfl rfl rfl (by omega) (by decide) (ws' := wTo cI h a (sP T 6 q v)) rfl dX3_put_118 ?_
    refine aw_goto C 122 dX3_put_119 (by decide) ?_
    exact aw_vret C hr hlk dX3_put_122 ⟨rfl, by simp only [if_pos s_10_6, if_neg s_10_0, if_neg s_10_1, if_neg s_10_2, if_neg s_10_3, if_neg s_10_4, if_neg s_10_5, mPut] <;> first | done | rfl⟩
  refine aw_tabOut C 122 dX3_put_10 (by have q0 := ne_toInt s_10_0 (z := 0) rfl; have q1 := ne_toInt s_10_1 (z := 1) rfl; have q2 := ne_toInt s_10_2 (z := 2) rfl; have q3 := ne_toInt s_10_3 (z := 3) rfl; have q4 := ne_toInt s_10_4 (z := 4) rfl; have q5 := ne_toInt s_10_5 (z := 5) rfl; have q6 := ne_toInt s_10_6 (z := 6) rfl; omega) (by decide) ?_
  exact aw_vret C hr hlk dX3_put_122 ⟨rfl, by simp only [if_neg s_10_0, if_neg s_10_1, if_neg s_10_2, if_neg s_10_3, if_neg s_10_4, if_neg s_10_5, if_neg s_10_6, mPut] <;> first | done | rfl⟩
abbrev r_X3_distance : Room := { frames := 1, cells := 0, slots := 0, locals := 13 }
theorem cv_X3_distance : cV yX3_distance cX3_distance 4 (some .int) 2 := ⟨k1_239, k2_0, k2_1, k1_2, by decide, by decide, by decide +kernel⟩
set_option maxHeartbeats 4000000 in
set_option maxRecDepth 100000 in
theorem c_X3_distance (l : Launch) (D : va_G) (cI cC : ClassId) (adK adV : Nat → Nat) (h : Nat) (a : Nat → Nat) (T : Tw) (u : Nat) (v : Nat) (hu : u < 8) (hv : v < 8) : FC l yX3_distance (wW yX3_distance cX3_distance 4 (some .int)) r_X3_distance D (tyC cI cC) adK adV (wTo cI h a T) [.ref h, .int (nI u), .int (nI v)] 0 0 (fQ (some (.int (tFar T u v))) (wTo cI h a T)) := by
  refine FC.of (own := RX3) (by decide) rfl (Nat.le_of_ble_eq_true rfl) ?_
  intro p9 e9 s9 m9 args9 below9 meth9 c9 A9 C hr hlk hmn
  show AW p9 l e9 r_X3_distance s9 m9 args9 below9 meth9 c9 D A9 4 0 0 _ 0 [(0, .ref h), (1, .int (nI u)), (2, .int (nI v))] [] _
  refine aw_aload_n C dX3_distance_0 rfl ?_
  refine aw_getf C 0 2 6 12 inX3 rfl (by decide) rfl k1_44 rfl rfl dX3_distance_1 ?_
  refine aw_iload_n C dX3_distance_4 rfl ?_
  refine aw_ialdN C 3 0 u rfl rfl rfl (by omega) (by decide) dX3_distance_5 ?_
  refine aw_aload_n C dX3_distance_6 rfl ?_
  refine aw_getf C 0 2 6 12 inX3 rfl (by decide) rfl k1_44 rfl rfl dX3_distance_7 ?_
  refine aw_iload_n C dX3_distance_10 rfl ?_
  refine aw_ialdN C 3 0 v rfl rfl rfl (by omega) (by decide) dX3_distance_11 ?_
  refine aw_isub C dX3_distance_12 ?_
  refine aw_pc 13 rfl ?_
  refine aw_mabs C k2_2 (by decide) (Nat.le_of_ble_eq_true rfl) (by decide) (by decide) dX3_distance_13 ?_
  refine aw_istore_n C true (lv' := [(0, .ref h), (1, .int (nI u)), (2, .int (nI v)), (3, .int (ab ((T.2.2.1 1 u) - (T.2.2.1 1 v))))]) dX3_distance_16 (by decide) rfl rfl ?_
  refine aw_iload_n C dX3_distance_17 rfl ?_
  refine aw_bipush C (16 : Int32) dX3_distance_18 (by decide) ?_
  refine aw_iload_n C dX3_distance_20 rfl ?_
  refine aw_isub C dX3_distance_21 ?_
  refine aw_mmin C k2_5 (by decide) (Nat.le_of_ble_eq_true rfl) (by decide) (by decide) dX3_distance_22 ?_
  exact aw_iret C hr hlk dX3_distance_25 ⟨ri (by first | rfl | (simp only [])), by rfl⟩
abbrev r_X3_mindsGuise : Room := { frames := 1, cells := 0, slots := 0, locals := 25 }
theorem cv_X3_mindsGuise : cV yX3_mindsGuise cX3_mindsGuise 3 (some .boolean) 2 := ⟨k1_221, k1_222, k1_223, k1_2, by decide, by decide, by decide +kernel⟩
set_option maxHeartbeats 4000000 in
set_option maxRecDepth 100000 in
theorem c_X3_mindsGuise (l : Launch) (D : va_G) (cI cC : ClassId) (adK adV : Nat → Nat) (h : Nat) (a : Nat → Nat) (T : Tw) (q : Nat) (g : Int32) (hq : q < 8) : FC l yX3_mindsGuise (wW yX3_mindsGuise cX3_mindsGuise 3 (some .boolean)) r_X3_mindsGuise D (tyC cI cC) adK adV (wTo cI h a T) [.ref h, .int (nI q), .int g] 0 0 (fQ (some (.int (b2 (tMind T q g)))) (wTo cI h a T)) := by
  refine FC.of (own := RX3) (by decide) rfl (Nat.le_of_ble_eq_true rfl) ?_
  intro p9 e9 s9 m9 args9 below9 meth9 c9 A9 C hr hlk hmn
  show AW p9 l e9 r_X3_mindsGuise s9 m9 args9 below9 meth9 c9 D A9 3 0 0 _ 0 [(0, .ref h), (1, .int (nI q)), (2, .int g)] [] _
  refine aw_aload_n C dX3_mindsGuise_0 rfl ?_
  refine aw_getf C 0 2 5 12 inX3 rfl (by decide) rfl k1_43 rfl rfl dX3_mindsGuise_1 ?_
  refine aw_iload_n C dX3_mindsGuise_4 rfl ?_
  refine aw_ialdN C 2 0 q rfl rfl rfl (by omega) (by decide) dX3_mindsGuise_5 ?_
  refine aw_iload_n C dX3_mindsGuise_6 rfl ?_
  refine aw_aload_n C dX3_mindsGuise_7 rfl ?_
  refine aw_getf C 0 2 7 12 inX3 rfl (by decide) rfl k1_45 rfl rfl dX3_mindsGuise_8 ?_
  refine aw_iload_n C dX3_mindsGuise_11 rfl ?_
  refine aw_ialdN C 4 0 q rfl rfl rfl (by omega) (by decide) dX3_mindsGuise_12 ?_
  refine aw_pc 13 rfl ?_
  refine aw_aload_n C dX3_mindsGuise_13 rfl ?_
  refine aw_getf C 0 2 8 12 inX3 rfl (by decide) rfl k1_46 rfl rfl dX3_mindsGuise_14 ?_
  refine aw_iload_n C dX3_mindsGuise_17 rfl ?_
  refine aw_ialdN C 5 0 q rfl rfl rfl (by omega) (by decide) dX3_mindsGuise_18 ?_
  refine aw_if_ne C 26 dX3_mindsGuise_19 (by decide) (fun c_19 => ?_) (fun c_19 => ?_)
  · skip
    refine aw_iconst C (0 : Int32) dX3_mindsGuise_26 (by decide) ?_
    refine aw_callSp C (As := [.int (T.2.2.1 0 q), .int g, .int (T.2.2.1 2 q), .int (0 : Int32)]) (c_X0_mind l D cI cC adK adV (T.2.2.1 0 q) g (T.2.2.1 2 q) false) k1_224 cs_X0_mind [] (by decide) rfl ⟨by decide, by decide⟩ rfl rfl ⟨by decide, by decide⟩ rfl rfl (Nat.le_of_ble_eq_true rfl) dX3_mindsGuise_27 ?_
    exact aw_bret C (b := (mMind (T.2.2.1 0 q) g (T.2.2.1 2 q) false)) hr hlk dX3_mindsGuise_30 rfl ⟨rb (by simp [tMind, *]), by rfl⟩
  · skip
    refine aw_iconst C (1 : Int32) dX3_mindsGuise_22 (by decide) ?_
    refine aw_goto C 27 dX3_mindsGuise_23 (by decide) ?_
    refine aw_pc 27 rfl ?_
    refine aw_callSp C (As := [.int (T.2.2.1 0 q), .int g, .int (T.2.2.1 2 q), .int (1 : Int32)]) (c_X0_mind l D cI cC adK adV (T.2.2.1 0 q) g (T.2.2.1 2 q) true) k1_224 cs_X0_mind [] (by decide) rfl ⟨by decide, by decide⟩ rfl rfl ⟨by decide, by decide⟩ rfl rfl (Nat.le_of_ble_eq_true rfl) dX3_mindsGuise_27 ?_
    exact aw_bret C (b := (mMind (T.2.2.1 0 q) g (T.2.2.1 2 q) true)) hr hlk dX3_mindsGuise_30 rfl ⟨rb (by simp [tMind, *]), by rfl⟩
abbrev r_X3_hasDays : Room := { frames := 0, cells := 0, slots := 0, locals := 0 }
theorem cv_X3_hasDays : cV yX3_hasDays cX3_hasDays 2 (some .boolean) 1 := ⟨k2_44, k2_45, k2_46, k1_2, by decide, by decide, by decide +kernel⟩
set_option maxHeartbeats 4000000 in
set_option maxRecDepth 100000 in
theorem c_X3_hasDays (l : Launch) (D : va_G) (cI cC : ClassId) (adK adV : Nat → Nat) (h : Nat) (a : Nat → Nat) (T : Tw) (n : Int32) : FC l yX3_hasDays (wW yX3_hasDays cX3_hasDays 2 (some .boolean)) r_X3_hasDays D (tyC cI cC) adK adV (wTo cI h a T) [.ref h, .int n] 0 0 (fQ (some (.int (b2 (!decide (99999 - T.2.1 0 < n))))) (wTo cI h a T)) := by
  refine FC.of (own := RX3) (by decide) rfl (Nat.le_of_ble_eq_true rfl) ?_
  intro p9 e9 s9 m9 args9 below9 meth9 c9 A9 C hr hlk hmn
  show AW p9 l e9 r_X3_hasDays s9 m9 args9 below9 meth9 c9 D A9 2 0 0 _ 0 [(0, .ref h), (1, .int n)] [] _
  refine aw_iload_n C dX3_hasDays_0 rfl ?_
  refine aw_ldc C k2_47 dX3_hasDays_1 ?_
  refine aw_aload_n C dX3_hasDays_3 rfl ?_
  refine aw_getf C 0 2 1 12 inX3 rfl (by decide) rfl k1_35 rfl rfl dX3_hasDays_4 ?_
  refine aw_isub C dX3_hasDays_7 ?_
  refine aw_icmp_gt C 15 dX3_hasDays_8 (by decide) (fun c_8 => ?_) (fun c_8 => ?_)
  · skip
    refine aw_iconst C (0 : Int32) dX3_hasDays_15 (by decide) ?_
    exact aw_bret C (b := false) hr hlk dX3_hasDays_16 rfl ⟨rb (by simp [*]), by rfl⟩
  · skip
    refine aw_iconst C (1 : Int32) dX3_hasDays_11 (by decide) ?_
    refine aw_pc 12 rfl ?_
    refine aw_goto C 16 dX3_hasDays_12 (by decide) ?_
    exact aw_bret C (b := true) hr hlk dX3_hasDays_16 rfl ⟨rb (by simp [*]), by rfl⟩
abbrev r_X3_skipDays : Room := { frames := 1, cells := 0, slots := 0, locals := 14 }
theorem cv_X3_skipDays : cV yX3_skipDays cX3_skipDays 2 none 1 := ⟨k2_77, k2_78, k2_79, k1_2, by decide, by decide, by decide +kernel⟩
set_option maxHeartbeats 4000000 in
set_option maxRecDepth 100000 in
theorem c_X3_skipDays (l : Launch) (D : va_G) (cI cC : ClassId) (adK adV : Nat → Nat) (h : Nat) (a : Nat → Nat) (T : Tw) (n : Int32) : FC l yX3_skipDays (wW yX3_skipDays cX3_skipDays 2 none) r_X3_skipDays D (tyC cI cC) adK adV (wTo cI h a T) [.ref h, .int n] 0 0 (fQ none (wTo cI h a (tSkip T n))) := by
  refine FC.of (own := RX3) (by decide) rfl (Nat.le_of_ble_eq_true rfl) ?_
  intro p9 e9 s9 m9 args9 below9 meth9 c9 A9 C hr hlk hmn
  show AW p9 l e9 r_X3_skipDays s9 m9 args9 below9 meth9 c9 D A9 2 0 0 _ 0 [(0, .ref h), (1, .int n)] [] _
  refine aw_aload_n C dX3_skipDays_0 rfl ?_
  refine aw_ldc C k2_47 dX3_skipDays_1 ?_
  refine aw_aload_n C dX3_skipDays_3 rfl ?_
  refine aw_getf C 0 2 1 12 inX3 rfl (by decide) rfl k1_35 rfl rfl dX3_skipDays_4 ?_
  refine aw_iload_n C dX3_skipDays_7 rfl ?_
  refine aw_iadd C dX3_skipDays_8 ?_
  refine aw_mmin C k2_5 (by decide) (Nat.le_of_ble_eq_true rfl) (by decide) (by decide) dX3_skipDays_9 ?_
  refine aw_putf C 0 2 1 12 tyX3 inX3 tyX3_ok nmX3 rfl (by decide) rfl k1_35 rfl rfl rfl rfl rfl (Nat.le_of_ble_eq_true rfl) (ws' := wTo cI h a (sG T 0 (mn (99999 : Int32) ((T.2.1 0) + n)))) rfl dX3_skipDays_12 ?_
  exact aw_vret C hr hlk dX3_skipDays_15 ⟨rfl, by rfl⟩
