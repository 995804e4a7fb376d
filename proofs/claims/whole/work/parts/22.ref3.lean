/-! the reference: its row aside, its first calls -/
def cpy (f g : Nat → Int32) (i : Nat) : Nat → Int32 := fun j => if j < i then f j else g j
theorem cpy_0 (f g : Nat → Int32) : cpy f g 0 = g := by
  funext j
  exact if_neg (Nat.not_lt_zero j)
theorem cpy_s (f g : Nat → Int32) (i : Nat) : upd (cpy f g i) i (f i) = cpy f g (i + 1) := by
  funext j
  unfold upd cpy
  by_cases h : j = i
  · rw [if_pos h, if_pos (by omega), h]
  · rw [if_neg h]
    by_cases h2 : j < i
    · rw [if_pos h2, if_pos (by omega)]
    · rw [if_neg h2, if_neg (by omega)]
theorem cpy_e {f g : Nat → Int32} {n j : Nat} (h : j < n) : cpy f g n j = f j := if_pos h
def pMoW (cI cC : ClassId) (y : Nat → Nat) (G : Sg) (w : va_W) : Prop := ∃ (kr ar : Nat → Int32) (tk : Int32) (bg en : Nat) (vl : Int64) (cr : Nat → Int32), w = wMo cI cC y (rowOf G.1) (kr, ar, G.2.2.1, G.2.2.2.1, G.2.2.2.2.1, G.2.2.2.2.2.1, tk, bg, en, vl, G.2.2.2.2.2.2.1, G.2.2.2.2.2.2.2.1, G.2.2.2.2.2.2.2.2, cr) ∧ (G.2.2.1 = true → kr = rowOf G.2.1)
def pMo (cI cC : ClassId) (y : Nat → Nat) (o : Int32 × Sg) : Option Value → va_W → Prop := fun r w => r = some (.int o.1) ∧ pMoW cI cC y o.2 w
def pMoL (cI cC : ClassId) (y : Nat → Nat) (o : Int64 × Sg) : Option Value → va_W → Prop := fun r w => r = some (.long o.1) ∧ pMoW cI cC y o.2 w
theorem inL_le (v a b : Int32) : inL v a b = (!decide (v < a) && decide (v ≤ b)) := by
  unfold inL
  congr 1
  by_cases h : b < v
  · rw [decide_eq_true h, decide_eq_false (Int32.not_le.mpr h)]; rfl
  · rw [decide_eq_false h, decide_eq_true (Int32.not_lt.mp h)]; rfl
theorem trait_nI (T : Tw) (p : Nat) : ∀ j, j < 7 → mTrait T p (nI j) = T.2.2.1 j p
  | 0, _ => rfl
  | 1, _ => rfl
  | 2, _ => rfl
  | 3, _ => rfl
  | 4, _ => rfl
  | 5, _ => rfl
  | 6, _ => rfl
  | j + 7, h => absurd h (by omega)
theorem put_nI (T : Tw) (p : Nat) (v : Int32) : ∀ j, j < 7 → mPut T p (nI j) v = sP T j p v
  | 0, _ => rfl
  | 1, _ => rfl
  | 2, _ => rfl
  | 3, _ => rfl
  | 4, _ => rfl
  | 5, _ => rfl
  | 6, _ => rfl
  | j + 7, h => absurd h (by omega)
theorem zero_id {T : Tw} (h : gOk T) {i : Nat} (hi : i < 7) : sP T i T.1 0 = T := by
  have e := sP_id T i T.1
  rw [h.z i hi T.1 (Nat.le_refl _)] at e
  exact e
theorem full_8 {n : Nat} (hn : n ≤ 8) (h : ¬ nI n = 8) : n < 8 := by
  rcases Nat.lt_or_ge n 8 with q | q
  · exact q
  · exact absurd (show nI n = 8 by rw [show n = 8 from by omega]; rfl) h
theorem lt_8 {n : Nat} (h : n < 8) : nI n < 8 := nI_lt h (by decide)
theorem eq_8 {x : Int32} (h : x = 8) : ¬ x < 8 := by rw [h]; exact Int32.lt_irrefl

abbrev r_X5_setsAside : Room := { frames := 0, cells := 0, slots := 0, locals := 0 }
theorem cv_X5_setsAside : cV yX5_setsAside cX5_setsAside 2 none 0 := ⟨k4_225, k0_50, k4_226, k1_6, by decide, by decide, by decide +kernel⟩
set_option maxHeartbeats 4000000 in
set_option maxRecDepth 100000 in
theorem c_X5_setsAside (l : Launch) (D : va_G) (cI cC : ClassId) (adK adV : Nat → Nat) (y : Nat → Nat) (T : Tw) (X : Mr)  : FC l yX5_setsAside (wW yX5_setsAside cX5_setsAside 2 none) r_X5_setsAside D (tyC cI cC) adK adV (wMo cI cC y (rowOf T) X) [.ref (y 0)] 0 0 (fQ none (wMo cI cC y (rowOf T) (X.1, (rowOf T), X.2.2.1, X.2.2.2.1, X.2.2.2.2.1, X.2.2.2.2.2.1, X.2.2.2.2.2.2.1, X.2.2.2.2.2.2.2.1, X.2.2.2.2.2.2.2.2.1, X.2.2.2.2.2.2.2.2.2.1, X.2.2.2.2.2.2.2.2.2.2.1, X.2.2.2.2.2.2.2.2.2.2.2.1, X.2.2.2.2.2.2.2.2.2.2.2.2.1, X.2.2.2.2.2.2.2.2.2.2.2.2.2))) := by
  refine FC.of (own := RX5) (by decide) rfl (Nat.le_of_ble_eq_true rfl) ?_
  intro p9 e9 s9 m9 args9 below9 meth9 c9 A9 C hr hlk hmn
  show AW p9 l e9 r_X5_setsAside s9 m9 args9 below9 meth9 c9 D A9 2 0 0 _ 0 [(0, .ref (y 0))] [] _
  refine aw_iconst C (0 : Int32) dX5_setsAside_0 (by decide) ?_
  refine aw_istore_n C true (lv' := [(0, .ref (y 0)), (1, .int (0 : Int32))]) dX5_setsAside_1 (by decide) rfl rfl ?_
  refine aw_eq (lv' := [(0, .ref (y 0)), (1, .int (nI 0))]) (ws' := wMo cI cC y (rowOf T) (X.1, (cpy (rowOf T) X.2.1 0), X.2.2.1, X.2.2.2.1, X.2.2.2.2.1, X.2.2.2.2.2.1, X.2.2.2.2.2.2.1, X.2.2.2.2.2.2.2.1, X.2.2.2.2.2.2.2.2.1, X.2.2.2.2.2.2.2.2.2.1, X.2.2.2.2.2.2.2.2.2.2.1, X.2.2.2.2.2.2.2.2.2.2.2.1, X.2.2.2.2.2.2.2.2.2.2.2.2.1, X.2.2.2.2.2.2.2.2.2.2.2.2.2)) (by first | rfl | (simp only [itr])) rfl (by rw [cpy_0]) ?_
  refine aw_loop (LV := fun i => [(0, .ref (y 0)), (1, .int (nI i))]) (WS := fun i => wMo cI cC y (rowOf T) (X.1, (cpy (rowOf T) X.2.1 i), X.2.2.1, X.2.2.2.1, X.2.2.2.2.1, X.2.2.2.2.2.1, X.2.2.2.2.2.2.1, X.2.2.2.2.2.2.2.1, X.2.2.2.2.2.2.2.2.1, X.2.2.2.2.2.2.2.2.2.1, X.2.2.2.2.2.2.2.2.2.2.1, X.2.2.2.2.2.2.2.2.2.2.2.1, X.2.2.2.2.2.2.2.2.2.2.2.2.1, X.2.2.2.2.2.2.2.2.2.2.2.2.2)) 70 (Inv := fun _ => True) trivial ?_ ?_
  · intro hv2
    refine aw_iload_n C dX5_setsAside_2 rfl ?_
    refine aw_bipush C (70 : Int32) dX5_setsAside_3 (by decide) ?_
    refine aw_icmp_ge C 26 dX5_setsAside_5 (by decide) (fun c_5 => ?_) (fun c_5 => absurd c_5 (fun z => z (Int32.le_refl _)))
    refine aw_ext 3 rfl (fun j hj => cpy_e hj) (ws' := wMo cI cC y (rowOf T) (X.1, (rowOf T), X.2.2.1, X.2.2.2.1, X.2.2.2.2.1, X.2.2.2.2.2.1, X.2.2.2.2.2.2.1, X.2.2.2.2.2.2.2.1, X.2.2.2.2.2.2.2.2.1, X.2.2.2.2.2.2.2.2.2.1, X.2.2.2.2.2.2.2.2.2.2.1, X.2.2.2.2.2.2.2.2.2.2.2.1, X.2.2.2.2.2.2.2.2.2.2.2.2.1, X.2.2.2.2.2.2.2.2.2.2.2.2.2)) rfl ?_
    exact aw_vret C hr hlk dX5_setsAside_26 ⟨rfl, by rfl⟩
  · intro i hi2 hv2 ih2
    refine aw_iload_n C dX5_setsAside_2 rfl ?_
    refine aw_bipush C (70 : Int32) dX5_setsAside_3 (by decide) ?_
    refine aw_pc 5 rfl ?_
    refine aw_icmp_ge C 26 dX5_setsAside_5 (by decide) (fun c_5 => absurd c_5 (nI_ge (b := 70) hi2 (by omega))) (fun c_5 => ?_)
    refine aw_aload_n C dX5_setsAside_8 rfl ?_
    refine aw_getf C 0 4 2 18 inX5 rfl (by decide) rfl k3_236 rfl rfl dX5_setsAside_9 ?_
    refine aw_iload_n C dX5_setsAside_12 rfl ?_
    refine aw_aload_n C dX5_setsAside_13 rfl ?_
    refine aw_getf C 0 4 0 18 inX5 rfl (by decide) rfl k3_234 rfl rfl dX5_setsAside_14 ?_
    refine aw_iload_n C dX5_setsAside_17 rfl ?_
    refine aw_ialdN C 1 0 i rfl rfl rfl (by omega) (by decide) dX5_setsAside_18 ?_
    refine aw_iastN C 3 0 i rfl rfl rfl (by omega) (by decide) (ws' := wMo cI cC y (rowOf T) (X.1, (upd (cpy (rowOf T) X.2.1 i) i ((rowOf T) i)), X.2.2.1, X.2.2.2.1, X.2.2.2.2.1, X.2.2.2.2.2.1, X.2.2.2.2.2.2.1, X.2.2.2.2.2.2.2.1, X.2.2.2.2.2.2.2.2.1, X.2.2.2.2.2.2.2.2.2.1, X.2.2.2.2.2.2.2.2.2.2.1, X.2.2.2.2.2.2.2.2.2.2.2.1, X.2.2.2.2.2.2.2.2.2.2.2.2.1, X.2.2.2.2.2.2.2.2.2.2.2.2.2)) rfl dX5_setsAside_19 ?_
    refine aw_iinc C (nI (i + 1)) dX5_setsAside_20 rfl (inc_nI _ 1) (by decide) rfl (lv' := [(0, .ref (y 0)), (1, .int (nI (i + 1)))]) rfl ?_
    refine aw_pc 23 rfl ?_
    refine aw_goto C 2 dX5_setsAside_23 (by decide) ?_
    exact aw_eq (by first | rfl | (simp only [itr])) rfl (by rw [cpy_s]) (ih2 trivial)
abbrev r_X5_adds : Room := { frames := 1, cells := 0, slots := 0, locals := 23 }
theorem cv_X5_adds : cV yX5_adds cX5_adds 4 none 1 := ⟨k4_67, k0_22, k4_68, k1_6, by decide, by decide, by decide +kernel⟩
set_option maxHeartbeats 4000000 in
set_option maxRecDepth 100000 in
theorem c_X5_adds (l : Launch) (D : va_G) (cI cC : ClassId) (adK adV : Nat → Nat) (y : Nat → Nat) (T : Tw) (X : Mr) (k : Int32) (ho : gOk T) (h8 : T.1 < 8) : FC l yX5_adds (wW yX5_adds cX5_adds 4 none) r_X5_adds D (tyC cI cC) adK adV (wMo cI cC y (rowOf T) X) [.ref (y 0), .int k] 0 0 (fQ none (wMo cI cC y (rowOf (sN (sP T 0 T.1 k) (T.1 + 1))) X)) := by
  refine FC.of (own := RX5) (by decide) rfl (Nat.le_of_ble_eq_true rfl) ?_
  intro p9 e9 s9 m9 args9 below9 meth9 c9 A9 C hr hlk hmn
  show AW p9 l e9 r_X5_adds s9 m9 args9 below9 meth9 c9 D A9 4 0 0 _ 0 [(0, .ref (y 0)), (1, .int k)] [] _
  refine aw_aload_n C dX5_adds_0 rfl ?_
  refine aw_getf C 0 4 0 18 inX5 rfl (by decide) rfl k3_234 rfl rfl dX5_adds_1 ?_
  refine aw_iconst C (1 : Int32) dX5_adds_4 (by decide) ?_
  refine aw_ialdN C 1 0 1 rfl rfl rfl (by decide) (by decide) dX5_adds_5 ?_
  refine aw_top (y := (nI T.1)) rfl ?_
  refine aw_istore_n C true (lv' := [(0, .ref (y 0)), (1, .int k), (2, .int (nI T.1))]) dX5_adds_6 (by decide) rfl rfl ?_
  refine aw_iconst C (0 : Int32) dX5_adds_7 (by decide) ?_
  refine aw_istore_n C true (lv' := [(0, .ref (y 0)), (1, .int k), (2, .int (nI T.1)), (3, .int (0 : Int32))]) dX5_adds_8 (by decide) rfl rfl ?_
  refine aw_eq (lv' := [(0, .ref (y 0)), (1, .int k), (2, .int (nI T.1)), (3, .int (nI 0))]) (ws' := wMo cI cC y (rowOf T) X) (by first | rfl | (simp only [itr])) rfl (by rfl) ?_
  refine aw_loop (LV := fun i => [(0, .ref (y 0)), (1, .int k), (2, .int (nI T.1)), (3, .int (nI i))]) (WS := fun i => wMo cI cC y (rowOf T) X) 7 (Inv := fun _ => True) trivial ?_ ?_
  · intro hv9
    refine aw_iload_n C dX5_adds_9 rfl ?_
    refine aw_bipush C (7 : Int32) dX5_adds_10 (by decide) ?_
    refine aw_pc 12 rfl ?_
    refine aw_icmp_ge C 28 dX5_adds_12 (by decide) (fun c_12 => ?_) (fun c_12 => absurd c_12 (fun z => z (Int32.le_refl _)))
    refine aw_aload_n C dX5_adds_28 rfl ?_
    refine aw_iload_n C dX5_adds_29 rfl ?_
    refine aw_iconst C (0 : Int32) dX5_adds_30 (by decide) ?_
    refine aw_iload_n C dX5_adds_31 rfl ?_
    refine aw_callVdv C (As := [.int (nI T.1), .int (0 : Int32), .int k]) (c_X5_puts l D cI cC adK adV y T X T.1 0 k (by omega) (by decide)) k4_69 cv_X5_puts 0 4 rfl rfl rfl [0, 1, 2, 3, 4, 5, 6, 7, 8, 9, 10, 11, 12] (by decide) rfl (wr := ([] : va_W)) [] rfl (by decide) (by decide) [0, 1, 2, 3, 4, 5, 6, 7, 8, 9, 10, 11, 12] (by decide) (ws' := wMo cI cC y (rowOf (sP T 0 T.1 k)) X) rfl ⟨by decide, by decide⟩ rfl rfl ⟨by decide, by decide⟩ rfl rfl (Nat.le_of_ble_eq_true rfl) dX5_adds_32 ?_
    refine aw_aload_n C dX5_adds_35 rfl ?_
    refine aw_getf C 0 4 0 18 inX5 rfl (by decide) rfl k3_234 rfl rfl dX5_adds_36 ?_
    refine aw_iconst C (1 : Int32) dX5_adds_39 (by decide) ?_
    refine aw_dup2 C dX5_adds_40 rfl rfl ?_
    refine aw_pc 41 rfl ?_
    refine aw_ialdN C 1 0 1 rfl rfl rfl (by decide) (by decide) dX5_adds_41 ?_
    refine aw_top (y := (nI (sP T 0 T.1 k).1)) rfl ?_
    refine aw_iconst C (1 : Int32) dX5_adds_42 (by decide) ?_
    refine aw_iadd C dX5_adds_43 ?_
    refine aw_top (y := (nI (T.1 + 1))) (by exact nI_1 _) ?_
    refine aw_iastN C 1 0 1 rfl rfl rfl (by decide) (by decide) (ws' := wMo cI cC y (upd (rowOf (sP T 0 T.1 k)) 1 (nI (T.1 + 1))) X) rfl dX5_adds_44 ?_
    refine aw_eq (lv' := [(0, .ref (y 0)), (1, .int k), (2, .int (nI T.1)), (3, .int (nI 7))]) (ws' := wMo cI cC y (rowOf (sN (sP T 0 T.1 k) (T.1 + 1))) X) rfl rfl (by rw [row_N]) ?_
    exact aw_vret C hr hlk dX5_adds_45 ⟨rfl, by rfl⟩
  · intro i hi9 hv9 ih9
    refine aw_iload_n C dX5_adds_9 rfl ?_
    refine aw_bipush C (7 : Int32) dX5_adds_10 (by decide) ?_
    refine aw_icmp_ge C 28 dX5_adds_12 (by decide) (fun c_12 => absurd c_12 (nI_ge (b := 7) hi9 (by omega))) (fun c_12 => ?_)
    refine aw_aload_n C dX5_adds_15 rfl ?_
    refine aw_iload_n C dX5_adds_16 rfl ?_
    refine aw_pc 17 rfl ?_
    refine aw_iload_n C dX5_adds_17 rfl ?_
    refine aw_iconst C (0 : Int32) dX5_adds_18 (by decide) ?_
    refine aw_callVdv C (As := [.int (nI T.1), .int (nI i), .int (0 : Int32)]) (c_X5_puts l D cI cC adK adV y T X T.1 i (0 : Int32) (by omega) (by omega)) k4_69 cv_X5_puts 0 4 rfl rfl rfl [0, 1, 2, 3, 4, 5, 6, 7, 8, 9, 10, 11, 12] (by decide) rfl (wr := ([] : va_W)) [] rfl (by decide) (by decide) [0, 1, 2, 3, 4, 5, 6, 7, 8, 9, 10, 11, 12] (by decide) (ws' := wMo cI cC y (rowOf (sP T i T.1 (0 : Int32))) X) rfl ⟨by decide, by decide⟩ rfl rfl ⟨by decide, by decide⟩ rfl rfl (Nat.le_of_ble_eq_true rfl) dX5_adds_19 ?_
    refine aw_iinc C (nI (i + 1)) dX5_adds_22 rfl (inc_nI _ 1) (by decide) rfl (lv' := [(0, .ref (y 0)), (1, .int k), (2, .int (nI T.1)), (3, .int (nI (i + 1)))]) rfl ?_
    refine aw_goto C 9 dX5_adds_25 (by decide) ?_
    exact aw_eq (by first | rfl | (simp only [itr])) rfl (by rw [zero_id ho (by omega)]) (ih9 trivial)
abbrev r_X5_person : Room := { frames := 2, cells := 0, slots := 0, locals := 46 }
theorem cv_X5_person : cV yX5_person cX5_person 3 (some .int) 2 := ⟨k4_51, k4_52, k4_53, k1_6, by decide, by decide, by decide +kernel⟩
set_option maxHeartbeats 4000000 in
set_option maxRecDepth 100000 in
theorem c_X5_person (l : Launch) (D : va_G) (cI cC : ClassId) (adK adV : Nat → Nat) (y : Nat → Nat) (T K : Tw) (ik : Bool) (F f : Nat → Int32) (n : Nat) (s1 s2 s3 kr ar : Nat → Int32) (tk : Int32) (bg en : Nat) (vl : Int64) (cr : Nat → Int32) (hk : ik = true → kr = rowOf K) (ho : gOk T) (k : Int32) (c : Int32) : FC l yX5_person (wW yX5_person cX5_person 3 (some .int)) r_X5_person D (tyC cI cC) adK adV (wMo cI cC y (rowOf T) (kr, ar, ik, F, f, n, tk, bg, en, vl, s1, s2, s3, cr)) [.ref (y 0), .int k, .int c] 0 0 (pMo cI cC y (m_person (T, K, ik, F, f, n, s1, s2, s3) k c)) := by
  refine FC.of (own := RX5) (by decide) rfl (Nat.le_of_ble_eq_true rfl) ?_
  intro p9 e9 s9 m9 args9 below9 meth9 c9 A9 C hr hlk hmn
  show AW p9 l e9 r_X5_person s9 m9 args9 below9 meth9 c9 D A9 3 0 0 _ 0 [(0, .ref (y 0)), (1, .int k), (2, .int c)] [] _
  have hn := ho.n
  refine aw_iload_n C dX5_person_0 rfl ?_
  refine aw_iconst C (0 : Int32) dX5_person_1 (by decide) ?_
  refine aw_bipush C (6 : Int32) dX5_person_2 (by decide) ?_
  refine aw_callSp C (As := [.int k, .int (0 : Int32), .int (6 : Int32)]) (c_X5_in1 l D cI cC adK adV k (0 : Int32) (6 : Int32)) k4_54 cs_X5_in1 [] (by decide) rfl ⟨by decide, by decide⟩ rfl rfl ⟨by decide, by decide⟩ rfl rfl (Nat.le_of_ble_eq_true rfl) dX5_person_4 ?_
  refine aw_top (y := b2 (in0 k 7)) (by exact congrArg b2 (inL_in0 k (n := 7) (by decide) (by decide))) ?_
  refine aw_ifeq_b C 17 dX5_person_7 (by decide) (fun c_7 => ?_) (fun c_7 => ?_)
  · skip
    refine aw_aload_n C dX5_person_17 rfl ?_
    refine aw_iconst C (0 : Int32) dX5_person_18 (by decide) ?_
    refine aw_callVd C (As := [.int (0 : Int32)]) (c_X5_no l D cI cC adK adV y T (kr, ar, ik, F, f, n, tk, bg, en, vl, s1, s2, s3, cr) 0 (by decide)) k4_60 cv_X5_no 0 4 rfl rfl rfl [0, 1, 2, 3, 4, 5, 6, 7, 8, 9, 10, 11, 12] (by decide) rfl (wr := ([] : va_W)) [] rfl (by decide) (by decide) [0, 1, 2, 3, 4, 5, 6, 7, 8, 9, 10, 11, 12] (by decide) (ws' := wMo cI cC y (rowOf T) (kr, ar, ik, (upd F 0 (F 0 + 1)), f, n, tk, bg, en, vl, s1, s2, s3, cr)) rfl ⟨by decide, by decide⟩ rfl rfl ⟨by decide, by decide⟩ rfl rfl (Nat.le_of_ble_eq_true rfl) dX5_person_19 ?_
    have hm : m_person (T, K, ik, F, f, n, s1, s2, s3) k c = ((fno 0), (T, K, ik, (upd F 0 (F 0 + 1)), f, n, s1, s2, s3)) := by simp only [m_person, c_7, decide_true, decide_false, Bool.not_true, Bool.not_false, Bool.true_and, Bool.false_and, Bool.and_true, Bool.and_false, Bool.true_or, Bool.false_or, Bool.or_true, Bool.or_false, cond_true, cond_false, eq_self, if_true, if_false, ite_true, ite_false] <;> rfl
    exact aw_iret C hr hlk dX5_person_22 ⟨ri (by rw [hm]), kr, ar, tk, bg, en, vl, cr, by first | (rw [hm]; done) | (rw [hm]; rfl), by rw [hm]; exact hk⟩
  · skip
    refine aw_pc 10 rfl ?_
    refine aw_iload_n C dX5_person_10 rfl ?_
    refine aw_callSp C (As := [.int c]) (c_X5_isCell l D cI cC adK adV c) k4_57 cs_X5_isCell [] (by decide) rfl ⟨by decide, by decide⟩ rfl rfl ⟨by decide, by decide⟩ rfl rfl (Nat.le_of_ble_eq_true rfl) dX5_person_11 ?_
    refine aw_ifne_b C 23 dX5_person_14 (by decide) (fun c_14 => ?_) (fun c_14 => ?_)
    · skip
      refine aw_aload_n C dX5_person_23 rfl ?_
      refine aw_getf C 0 4 0 18 inX5 rfl (by decide) rfl k3_234 rfl rfl dX5_person_24 ?_
      refine aw_iconst C (1 : Int32) dX5_person_27 (by decide) ?_
      refine aw_ialdN C 1 0 1 rfl rfl rfl (by decide) (by decide) dX5_person_28 ?_
      refine aw_top (y := (nI T.1)) rfl ?_
      refine aw_bipush C (8 : Int32) dX5_person_29 (by decide) ?_
      refine aw_icmp_ne C 40 dX5_person_31 (by decide) (fun c_31 => ?_) (fun c_31 => ?_)
      · skip
        have c8 := full_8 hn c_31
        have c9 := lt_8 c8
        refine aw_aload_n C dX5_person_40 rfl ?_
        refine aw_pc 41 rfl ?_
        refine aw_iload_n C dX5_person_41 rfl ?_
        refine aw_callVdv C (As := [.int k]) (c_X5_adds l D cI cC adK adV y T (kr, ar, ik, F, f, n, tk, bg, en, vl, s1, s2, s3, cr) k ho (by omega)) k4_65 cv_X5_adds 0 4 rfl rfl rfl [0, 1, 2, 3, 4, 5, 6, 7, 8, 9, 10, 11, 12] (by decide) rfl (wr := ([] : va_W)) [] rfl (by decide) (by decide) [0, 1, 2, 3, 4, 5, 6, 7, 8, 9, 10, 11, 12] (by decide) (ws' := wMo cI cC y (rowOf (sN (sP T 0 T.1 k) (T.1 + 1))) (kr, ar, ik, F, f, n, tk, bg, en, vl, s1, s2, s3, cr)) rfl ⟨by decide, by decide⟩ rfl rfl ⟨by decide, by decide⟩ rfl rfl (Nat.le_of_ble_eq_true rfl) dX5_person_42 ?_
        refine aw_aload_n C dX5_person_45 rfl ?_
        refine aw_aload_n C dX5_person_46 rfl ?_
        refine aw_getf C 0 4 0 18 inX5 rfl (by decide) rfl k3_234 rfl rfl dX5_person_47 ?_
        refine aw_iconst C (1 : Int32) dX5_person_50 (by decide) ?_
        refine aw_ialdN C 1 0 1 rfl rfl rfl (by decide) (by decide) dX5_person_51 ?_
        refine aw_top (y := (nI (sN (sP T 0 T.1 k) (T.1 + 1)).1)) rfl ?_
        refine aw_iconst C (1 : Int32) dX5_person_52 (by decide) ?_
        refine aw_isub C dX5_person_53 ?_
        refine aw_top (y := (nI T.1)) (by exact nI_pred _) ?_
        refine aw_iconst C (1 : Int32) dX5_person_54 (by decide) ?_
        refine aw_pc 55 rfl ?_
        refine aw_iload_n C dX5_person_55 rfl ?_
        refine aw_callVdv C (As := [.int (nI T.1), .int (1 : Int32), .int c]) (c_X5_puts l D cI cC adK adV y (sN (sP T 0 T.1 k) (T.1 + 1)) (kr, ar, ik, F, f, n, tk, bg, en, vl, s1, s2, s3, cr) T.1 1 c (by omega) (by decide)) k4_69 cv_X5_puts 0 4 rfl rfl rfl [0, 1, 2, 3, 4, 5, 6, 7, 8, 9, 10, 11, 12] (by decide) rfl (wr := ([] : va_W)) [] rfl (by decide) (by decide) [0, 1, 2, 3, 4, 5, 6, 7, 8, 9, 10, 11, 12] (by decide) (ws' := wMo cI cC y (rowOf (sP (sN (sP T 0 T.1 k) (T.1 + 1)) 1 T.1 c)) (kr, ar, ik, F, f, n, tk, bg, en, vl, s1, s2, s3, cr)) rfl ⟨by decide, by decide⟩ rfl rfl ⟨by decide, by decide⟩ rfl rfl (Nat.le_of_ble_eq_true rfl) dX5_person_56 ?_
        refine aw_aload_n C dX5_person_59 rfl ?_
        refine aw_getf C 0 4 0 18 inX5 rfl (by decide) rfl k3_234 rfl rfl dX5_person_60 ?_
        refine aw_iconst C (1 : Int32) dX5_person_63 (by decide) ?_
        refine aw_ialdN C 1 0 1 rfl rfl rfl (by decide) (by decide) dX5_person_64 ?_
        refine aw_top (y := (nI (sP (sN (sP T 0 T.1 k) (T.1 + 1)) 1 T.1 c).1)) rfl ?_
        refine aw_iconst C (1 : Int32) dX5_person_65 (by decide) ?_
        refine aw_isub C dX5_person_66 ?_
        refine aw_top (y := (nI T.1)) (by exact nI_pred _) ?_
        have hm : m_person (T, K, ik, F, f, n, s1, s2, s3) k c = ((nI T.1), ((sP (sN (sP T 0 T.1 k) (T.1 + 1)) 1 T.1 c), K, ik, F, f, n, s1, s2, s3)) := by simp only [m_person, c_7, c_14, c_31, c9, decide_true, decide_false, Bool.not_true, Bool.not_false, Bool.true_and, Bool.false_and, Bool.and_true, Bool.and_false, Bool.true_or, Bool.false_or, Bool.or_true, Bool.or_false, cond_true, cond_false, eq_self, if_true, if_false, ite_true, ite_false] <;> rfl
        exact aw_iret C hr hlk dX5_person_67 ⟨ri (by rw [hm]), kr, ar, tk, bg, en, vl, cr, by first | (rw [hm]; done) | (rw [hm]; rfl), by rw [hm]; exact hk⟩
      · skip
        have c9 := eq_8 c_31
        refine aw_aload_n C dX5_person_34 rfl ?_
        refine aw_pc 35 rfl ?_
        refine aw_iconst C (1 : Int32) dX5_person_35 (by decide) ?_
        refine aw_callVd C (As := [.int (1 : Int32)]) (c_X5_no l D cI cC adK adV y T (kr, ar, ik, F, f, n, tk, bg, en, vl, s1, s2, s3, cr) 1 (by decide)) k4_60 cv_X5_no 0 4 rfl rfl rfl [0, 1, 2, 3, 4, 5, 6, 7, 8, 9, 10, 11, 12] (by decide) rfl (wr := ([] : va_W)) [] rfl (by decide) (by decide) [0, 1, 2, 3, 4, 5, 6, 7, 8, 9, 10, 11, 12] (by decide) (ws' := wMo cI cC y (rowOf T) (kr, ar, ik, (upd F 1 (F 1 + 1)), f, n, tk, bg, en, vl, s1, s2, s3, cr)) rfl ⟨by decide, by decide⟩ rfl rfl ⟨by decide, by decide⟩ rfl rfl (Nat.le_of_ble_eq_true rfl) dX5_person_36 ?_
        have hm : m_person (T, K, ik, F, f, n, s1, s2, s3) k c = ((fno 1), (T, K, ik, (upd F 1 (F 1 + 1)), f, n, s1, s2, s3)) := by simp only [m_person, c_7, c_14, c_31, c9, decide_true, decide_false, Bool.not_true, Bool.not_false, Bool.true_and, Bool.false_and, Bool.and_true, Bool.and_false, Bool.true_or, Bool.false_or, Bool.or_true, Bool.or_false, cond_true, cond_false, eq_self, if_true, if_false, ite_true, ite_false] <;> rfl
        exact aw_iret C hr hlk dX5_person_39 ⟨ri (by rw [hm]), kr, ar, tk, bg, en, vl, cr, by first | (rw [hm]; done) | (rw [hm]; rfl), by rw [hm]; exact hk⟩
    · skip
      refine aw_aload_n C dX5_person_17 rfl ?_
      refine aw_iconst C (0 : Int32) dX5_person_18 (by decide) ?_
      refine aw_callVd C (As := [.int (0 : Int32)]) (c_X5_no l D cI cC adK adV y T (kr, ar, ik, F, f, n, tk, bg, en, vl, s1, s2, s3, cr) 0 (by decide)) k4_60 cv_X5_no 0 4 rfl rfl rfl [0, 1, 2, 3, 4, 5, 6, 7, 8, 9, 10, 11, 12] (by decide) rfl (wr := ([] : va_W)) [] rfl (by decide) (by decide) [0, 1, 2, 3, 4, 5, 6, 7, 8, 9, 10, 11, 12] (by decide) (ws' := wMo cI cC y (rowOf T) (kr, ar, ik, (upd F 0 (F 0 + 1)), f, n, tk, bg, en, vl, s1, s2, s3, cr)) rfl ⟨by decide, by decide⟩ rfl rfl ⟨by decide, by decide⟩ rfl rfl (Nat.le_of_ble_eq_true rfl) dX5_person_19 ?_
      have hm : m_person (T, K, ik, F, f, n, s1, s2, s3) k c = ((fno 0), (T, K, ik, (upd F 0 (F 0 + 1)), f, n, s1, s2, s3)) := by simp only [m_person, c_7, c_14, decide_true, decide_false, Bool.not_true, Bool.not_false, Bool.true_and, Bool.false_and, Bool.and_true, Bool.and_false, Bool.true_or, Bool.false_or, Bool.or_true, Bool.or_false, cond_true, cond_false, eq_self, if_true, if_false, ite_true, ite_false] <;> rfl
      exact aw_iret C hr hlk dX5_person_22 ⟨ri (by rw [hm]), kr, ar, tk, bg, en, vl, cr, by first | (rw [hm]; done) | (rw [hm]; rfl), by rw [hm]; exact hk⟩
abbrev r_X5_far : Room := { frames := 3, cells := 0, slots := 0, locals := 65 }
theorem cv_X5_far : cV yX5_far cX5_far 3 (some .int) 2 := ⟨k4_128, k4_129, k4_130, k1_6, by decide, by decide, by decide +kernel⟩
set_option maxHeartbeats 4000000 in
set_option maxRecDepth 100000 in
theorem c_X5_far (l : Launch) (D : va_G) (cI cC : ClassId) (adK adV : Nat → Nat) (y : Nat → Nat) (T K : Tw) (ik : Bool) (F f : Nat → Int32) (n : Nat) (s1 s2 s3 kr ar : Nat → Int32) (tk : Int32) (bg en : Nat) (vl : Int64) (cr : Nat → Int32) (hk : ik = true → kr = rowOf K) (ho : gOk T) (u : Int32) (v : Int32) : FC l yX5_far (wW yX5_far cX5_far 3 (some .int)) r_X5_far D (tyC cI cC) adK adV (wMo cI cC y (rowOf T) (kr, ar, ik, F, f, n, tk, bg, en, vl, s1, s2, s3, cr)) [.ref (y 0), .int u, .int v] 0 0 (pMo cI cC y (m_far (T, K, ik, F, f, n, s1, s2, s3) u v)) := by
  refine FC.of (own := RX5) (by decide) rfl (Nat.le_of_ble_eq_true rfl) ?_
  intro p9 e9 s9 m9 args9 below9 meth9 c9 A9 C hr hlk hmn
  show AW p9 l e9 r_X5_far s9 m9 args9 below9 meth9 c9 D A9 3 0 0 _ 0 [(0, .ref (y 0)), (1, .int u), (2, .int v)] [] _
  have hn := ho.n
  refine aw_aload_n C dX5_far_0 rfl ?_
  refine aw_iload_n C dX5_far_1 rfl ?_
  refine aw_iload_n C dX5_far_2 rfl ?_
  refine aw_callVp C (As := [.int u, .int v]) (c_X5_areTwo l D cI cC adK adV y T (kr, ar, ik, F, f, n, tk, bg, en, vl, s1, s2, s3, cr) u v hn) k4_131 cv_X5_areTwo 0 4 rfl rfl rfl [0, 1, 2, 3, 4, 5, 6, 7, 8, 9, 10, 11, 12] (by decide) rfl ⟨by decide, by decide⟩ rfl rfl ⟨by decide, by decide⟩ rfl rfl (Nat.le_of_ble_eq_true rfl) dX5_far_3 ?_
  refine aw_ifeq_b C 18 dX5_far_6 (by decide) (fun c_6 => ?_) (fun c_6 => ?_)
  · skip
    refine aw_aload_n C dX5_far_18 rfl ?_
    refine aw_iconst C (0 : Int32) dX5_far_19 (by decide) ?_
    refine aw_callVd C (As := [.int (0 : Int32)]) (c_X5_no l D cI cC adK adV y T (kr, ar, ik, F, f, n, tk, bg, en, vl, s1, s2, s3, cr) 0 (by decide)) k4_60 cv_X5_no 0 4 rfl rfl rfl [0, 1, 2, 3, 4, 5, 6, 7, 8, 9, 10, 11, 12] (by decide) rfl (wr := ([] : va_W)) [] rfl (by decide) (by decide) [0, 1, 2, 3, 4, 5, 6, 7, 8, 9, 10, 11, 12] (by decide) (ws' := wMo cI cC y (rowOf T) (kr, ar, ik, (upd F 0 (F 0 + 1)), f, n, tk, bg, en, vl, s1, s2, s3, cr)) rfl ⟨by decide, by decide⟩ rfl rfl ⟨by decide, by decide⟩ rfl rfl (Nat.le_of_ble_eq_true rfl) dX5_far_20 ?_
    have hm : m_far (T, K, ik, F, f, n, s1, s2, s3) u v = ((fno 0), (T, K, ik, (upd F 0 (F 0 + 1)), f, n, s1, s2, s3)) := by simp only [m_far, c_6, decide_true, decide_false, Bool.not_true, Bool.not_false, Bool.true_and, Bool.false_and, Bool.and_true, Bool.and_false, Bool.true_or, Bool.false_or, Bool.or_true, Bool.or_false, cond_true, cond_false, eq_self, if_true, if_false, ite_true, ite_false] <;> rfl
    exact aw_iret C hr hlk dX5_far_23 ⟨ri (by rw [hm]), kr, ar, tk, bg, en, vl, cr, by first | (rw [hm]; done) | (rw [hm]; rfl), by rw [hm]; exact hk⟩
  · skip
    obtain ⟨q1, q2, q3⟩ := two_u c_6
    have l1 := there_lt hn q1
    have l2 := there_lt hn q2
    have e1 : u = nI (ix u) := there_ix q1
    refine aw_eq (lv' := [(0, .ref (y 0)), (1, .int (nI (ix u))), (2, .int v)]) (ws' := wMo cI cC y (rowOf T) (kr, ar, ik, F, f, n, tk, bg, en, vl, s1, s2, s3, cr)) (by rw [← e1]) rfl rfl ?_
    have e2 : v = nI (ix v) := there_ix q2
    refine aw_eq (lv' := [(0, .ref (y 0)), (1, .int (nI (ix u))), (2, .int (nI (ix v)))]) (ws' := wMo cI cC y (rowOf T) (kr, ar, ik, F, f, n, tk, bg, en, vl, s1, s2, s3, cr)) (by rw [← e2]) rfl rfl ?_
    refine aw_pc 9 rfl ?_
    refine aw_aload_n C dX5_far_9 rfl ?_
    refine aw_iload_n C dX5_far_10 rfl ?_
    refine aw_iload_n C dX5_far_11 rfl ?_
    refine aw_callVp C (As := [.int (nI (ix u)), .int (nI (ix v))]) (c_X5_farOf l D cI cC adK adV y T (kr, ar, ik, F, f, n, tk, bg, en, vl, s1, s2, s3, cr) (ix u) (ix v) (by omega) (by omega) ho) k4_135 cv_X5_farOf 0 4 rfl rfl rfl [0, 1, 2, 3, 4, 5, 6, 7, 8, 9, 10, 11, 12] (by decide) rfl ⟨by decide, by decide⟩ rfl rfl ⟨by decide, by decide⟩ rfl rfl (Nat.le_of_ble_eq_true rfl) dX5_far_12 ?_
    refine aw_goto C 23 dX5_far_15 (by decide) ?_
    have hm : m_far (T, K, ik, F, f, n, s1, s2, s3) u v = ((tFar T (ix u) (ix v)), (T, K, ik, F, f, n, s1, s2, s3)) := by simp only [m_far, c_6, decide_true, decide_false, Bool.not_true, Bool.not_false, Bool.true_and, Bool.false_and, Bool.and_true, Bool.and_false, Bool.true_or, Bool.false_or, Bool.or_true, Bool.or_false, cond_true, cond_false, eq_self, if_true, if_false, ite_true, ite_false] <;> rfl
    exact aw_iret C hr hlk dX5_far_23 ⟨ri (by rw [hm]), kr, ar, tk, bg, en, vl, cr, by first | (rw [hm]; done) | (rw [hm]; rfl), by rw [hm]; exact hk⟩
