/-! the reference: nights, odds -/
theorem put_1 (U : Tw) (p : Nat) (v : Int32) : mPut U p 1 v = sP U 1 p v := rfl
theorem put_2 (U : Tw) (p : Nat) (v : Int32) : mPut U p 2 v = sP U 2 p v := rfl
theorem gOk_G2 {T : Tw} {v : Int32} (h : gOk T) : gOk (sG T 2 v) := gOk_mk h.n h.f h.d h.j h.z
theorem draw_ok {T : Tw} (h : gOk T) : gOk (tDraw T) := gOk_G2 h
theorem rg_us8 (x : Int32) : rgO (us x 8) 16777216 := by
  have h := pk_ushr x 8 8 (by decide)
  have e : (us x 8).toBitVec.toNat = x.toBitVec.toNat / 2 ^ 8 := h
  have hl : x.toBitVec.toNat < 2 ^ 32 := x.toBitVec.isLt
  refine ⟨x.toBitVec.toNat / 2 ^ 8, by omega, ?_⟩
  apply Int32.toBitVec_inj.mp
  apply BitVec.eq_of_toNat_eq
  rw [e, pk_tn (by omega)]
theorem rg_draw (T : Tw) : rgO (mDraw T) 16777216 := rg_us8 _
theorem nStep_y9 {U : Tw} (h : mThere (tDraw (tDraw (tDraw U))) (ir (mDraw U) 8) = true) : nStep U = tDay (sP (sP (tDraw (tDraw (tDraw U))) 1 (ix (ir (mDraw U) 8)) (ir (mDraw (tDraw U)) 16)) 2 (ix (ir (mDraw U) 8)) (ir (mDraw (tDraw (tDraw U))) 12)) := by
  rw [nStep_y h, put_1, put_2]
theorem nput_ok {U : Tw} {p : Nat} {c g : Int32} (h : gOk U) (hp : p < U.1) (hc : rgO c 16777216) (hg : rgO g 16777216) : gOk (sP (sP U 1 p (ir c 16)) 2 p (ir g 12)) :=
  gOk_P (gOk_P h (by decide) hp (rg_mod (d := 16) hc (by decide) (by decide) (by decide))) (by decide) hp (rg_mod (d := 12) hg (by decide) (by decide) (by decide))
theorem nStep_ok {U : Tw} (h : gOk U) : gOk (nStep U) := by
  have h3 := draw_ok (draw_ok (draw_ok h))
  cases c : mThere (tDraw (tDraw (tDraw U))) (ir (mDraw U) 8) with
  | false => rw [nStep_o c]; exact day_ok h3
  | true => rw [nStep_y9 c]; exact day_ok (nput_ok h3 (there_lt h3.n c) (rg_draw _) (rg_draw _))
theorem night_ok {T : Tw} (h : gOk T) (n : Nat) : gOk (tNight n T) :=
  itr_ok (m := n) (fun _ _ => nStep_n _) (fun _ _ _ hU _ => nStep_ok hU) h n (Nat.le_refl _)
theorem odds_a {G : Sg} {u k w : Int32} (h : mThere G.1 u = false) : m_odds G u k w = ((fno 0).toInt64, (gno G 0).2) := by unfold m_odds; rw [h, Bool.false_and, cond_false]
theorem odds_eq (u k w : Int32) (G : Sg) : m_odds G u k w = bif mThere G.1 u && ((!decide (k < 0) && decide (k ≤ 17)) && (!decide (w < 0) && decide (w ≤ 1))) then (lN (oP (ix (mMinded G.1 (ix u))) w ^ ix k), G) else ((fno 0).toInt64, (gno G 0).2) := by unfold m_odds; rw [Bool.and_assoc (!decide (k < 0))]
theorem odds_b {G : Sg} {u k w : Int32} (h : (!decide (k < 0) && decide (k ≤ 17)) = false) : m_odds G u k w = ((fno 0).toInt64, (gno G 0).2) := by rw [odds_eq, h, Bool.false_and, Bool.and_false, cond_false]
theorem odds_c {G : Sg} {u k w : Int32} (h : (!decide (w < 0) && decide (w ≤ 1)) = false) : m_odds G u k w = ((fno 0).toInt64, (gno G 0).2) := by rw [odds_eq, h, Bool.and_false, Bool.and_false, cond_false]
theorem odds_y {G : Sg} {u k w : Int32} {v : Int64} (h1 : mThere G.1 u = true) (h2 : (!decide (k < 0) && decide (k ≤ 17)) = true) (h3 : (!decide (w < 0) && decide (w ≤ 1)) = true) (e : lN (oP (ix (mMinded G.1 (ix u))) w ^ ix k) = v) : m_odds G u k w = (v, G) := by rw [odds_eq, h1, h2, h3, Bool.and_self, Bool.and_self, cond_true, e]
def GI (A B i : Nat) (x : Nat × Nat) : Prop := x.1 < 2 ^ 63 ∧ x.2 < 2 ^ 63 ∧ 0 < B ∧ Nat.gcd x.1 x.2 = Nat.gcd A B ∧ x.2 + i ≤ B
theorem gi_0 {A B : Nat} (h1 : A < 2 ^ 63) (h2 : B < 2 ^ 63) (h3 : 0 < B) : GI A B 0 (A, B) := ⟨h1, h2, h3, rfl, Nat.le_refl _⟩
theorem gi_s {A B i : Nat} {x : Nat × Nat} (h : GI A B i x) (hz : ¬ x.2 = 0) : GI A B (i + 1) (x.2, x.1 % x.2) := by
  obtain ⟨h1, h2, h3, h4, h5⟩ := h
  have hm : x.1 % x.2 < x.2 := Nat.mod_lt _ (by omega)
  refine ⟨h2, by show x.1 % x.2 < 2 ^ 63; omega, h3, ?_, by show x.1 % x.2 + (i + 1) ≤ B; omega⟩
  show Nat.gcd x.2 (x.1 % x.2) = _
  rw [← h4, Nat.gcd_comm x.2, ← Nat.gcd_rec, Nat.gcd_comm]
theorem gi_e {A B : Nat} {x : Nat × Nat} (h : GI A B B x) : x.2 = 0 := by
  have := h.2.2.2.2
  omega
theorem gi_r {A B i : Nat} {x : Nat × Nat} (h : GI A B i x) (hz : x.2 = 0) : x.1 = Nat.gcd A B := by
  have h4 := h.2.2.2.1
  rw [hz, Nat.gcd_zero_right] at h4
  exact h4
theorem gi_n {A B i : Nat} {x : Nat × Nat} (h : GI A B i x) (hz : x.2 = 0) : ¬ lN x.1 = 0 := by
  have e := gi_r h hz
  have p : 0 < Nat.gcd A B := Nat.gcd_pos_of_pos_right _ h.2.2.1
  intro z
  have z : lN x.1 = lN 0 := z
  rw [pk_lEQ h.1 (by decide)] at z
  omega
theorem lc0 {b : Nat} (hb : b < 2 ^ 63) : lg_cmp (lN b) 0 = 0 ↔ b = 0 := (lg_cmp_eq _ _).trans (pk_lEQ (b := 0) hb (by decide))
theorem lne0 {b : Nat} (hb : b < 2 ^ 63) (h : ¬ b = 0) : ¬ lN b = 0 := fun z => h ((pk_lEQ (b := 0) hb (by decide)).mp z)
theorem pow_m {m k : Nat} (hm : m < 13) (hk : k ≤ 17) : m ^ k < 2 ^ 63 := by
  have a := Nat.pow_le_pow_left (show m ≤ 12 by omega) k
  have b := Nat.pow_le_pow_right (show 0 < 12 by decide) hk
  exact Nat.lt_of_le_of_lt (Nat.le_trans a b) (by decide)
theorem odds_r0 {m k a : Nat} {w : Int32} (hm : m < 13) (hk : k ≤ 17) (hw : w = 0) (e : a = Nat.gcd (m ^ k) (12 ^ k)) : lN (m ^ k) / lN a = lN (oP m w ^ k) := by
  have p : 0 < Nat.gcd m 12 := Nat.gcd_pos_of_pos_right _ (by decide)
  have q : Nat.gcd m 12 < 13 := Nat.lt_succ_of_le (Nat.gcd_le_right _ (by decide))
  rw [e, Nat.pow_gcd_pow, pk_lDiv (pow_m hm hk) (Nat.pow_pos p) (pow_m q hk), ← Nat.div_pow (Nat.gcd_dvd_left _ _), oP, if_pos hw]
theorem odds_r1 {m k a : Nat} {w : Int32} (hm : m < 13) (hk : k ≤ 17) (hw : ¬ w = 0) (e : a = Nat.gcd (m ^ k) (12 ^ k)) : lN (12 ^ k) / lN a = lN (oP m w ^ k) := by
  have p : 0 < Nat.gcd m 12 := Nat.gcd_pos_of_pos_right _ (by decide)
  have q : Nat.gcd m 12 < 13 := Nat.lt_succ_of_le (Nat.gcd_le_right _ (by decide))
  rw [e, Nat.pow_gcd_pow, pk_lDiv (pow_m (by decide) hk) (Nat.pow_pos p) (pow_m q hk), ← Nat.div_pow (Nat.gcd_dvd_right _ _), oP, if_neg hw]

abbrev r_X5_draw : Room := { frames := 0, cells := 0, slots := 0, locals := 0 }
theorem cv_X5_draw : cV yX5_draw cX5_draw 1 (some .int) 0 := ⟨k5_84, k0_62, k5_85, k1_6, by decide, by decide, by decide +kernel⟩
set_option maxHeartbeats 4000000 in
set_option maxRecDepth 100000 in
theorem c_X5_draw (l : Launch) (D : va_G) (cI cC : ClassId) (adK adV : Nat → Nat) (y : Nat → Nat) (T : Tw) (X : Mr)  : FC l yX5_draw (wW yX5_draw cX5_draw 1 (some .int)) r_X5_draw D (tyC cI cC) adK adV (wMo cI cC y (rowOf T) X) [.ref (y 0)] 0 0 (fQ (some (.int (mDraw T))) (wMo cI cC y (rowOf (tDraw T)) X)) := by
  refine FC.of (own := RX5) (by decide) rfl (Nat.le_of_ble_eq_true rfl) ?_
  intro p9 e9 s9 m9 args9 below9 meth9 c9 A9 C hr hlk hmn
  show AW p9 l e9 r_X5_draw s9 m9 args9 below9 meth9 c9 D A9 1 0 0 _ 0 [(0, .ref (y 0))] [] _
  obtain ⟨v0, hv0⟩ : ∃ v0, v0 = T.2.1 2 * 1103515245 + 12345 := ⟨_, rfl⟩
  refine aw_aload_n C dX5_draw_0 rfl ?_
  refine aw_getf C 0 4 0 18 inX5 rfl (by decide) rfl k3_234 rfl rfl dX5_draw_1 ?_
  refine aw_iconst C (2 : Int32) dX5_draw_4 (by decide) ?_
  refine aw_aload_n C dX5_draw_5 rfl ?_
  refine aw_getf C 0 4 0 18 inX5 rfl (by decide) rfl k3_234 rfl rfl dX5_draw_6 ?_
  refine aw_iconst C (2 : Int32) dX5_draw_9 (by decide) ?_
  refine aw_ialdN C 1 0 2 rfl rfl rfl (by decide) (by decide) dX5_draw_10 ?_
  refine aw_top (y := (T.2.1 2)) rfl ?_
  refine aw_ldc C k5_86 dX5_draw_11 ?_
  refine aw_imul C dX5_draw_13 ?_
  refine aw_pc 14 rfl ?_
  refine aw_sipush C (12345 : Int32) dX5_draw_14 (by decide) ?_
  refine aw_iadd C dX5_draw_17 ?_
  refine aw_top (y := v0) (by rw [hv0]) ?_
  refine aw_iastN C 1 0 2 rfl rfl rfl (by decide) (by decide) (ws' := wMo cI cC y (upd (rowOf T) 2 v0) X) rfl dX5_draw_18 ?_
  refine aw_eq (lv' := [(0, .ref (y 0))]) (ws' := wMo cI cC y (rowOf (sG T 2 v0)) X) rfl rfl (by rw [row_G2]) ?_
  refine aw_aload_n C dX5_draw_19 rfl ?_
  refine aw_getf C 0 4 0 18 inX5 rfl (by decide) rfl k3_234 rfl rfl dX5_draw_20 ?_
  refine aw_iconst C (2 : Int32) dX5_draw_23 (by decide) ?_
  refine aw_ialdN C 1 0 2 rfl rfl rfl (by decide) (by decide) dX5_draw_24 ?_
  refine aw_top (y := ((sG T 2 v0).2.1 2)) rfl ?_
  refine aw_bipush C (8 : Int32) dX5_draw_25 (by decide) ?_
  refine aw_iushr C dX5_draw_27 ?_
  exact aw_iret C hr hlk dX5_draw_28 ⟨ri (by exact congrArg (fun q9 => us q9 8) hv0), by rw [hv0]; rfl⟩
theorem c_X5_drawE (l : Launch) (D : va_G) (cI cC : ClassId) (adK adV : Nat → Nat) (y : Nat → Nat) (T : Tw) (X : Mr) (T1 : Tw) (v : Int32) (e1 : T1 = tDraw T) (e2 : v = mDraw T) : FC l yX5_draw (wW yX5_draw cX5_draw 1 (some .int)) r_X5_draw D (tyC cI cC) adK adV (wMo cI cC y (rowOf T) X) [.ref (y 0)] 0 0 (fQ (some (.int v)) (wMo cI cC y (rowOf T1) X)) := by
  subst e1
  subst e2
  exact c_X5_draw l D cI cC adK adV y T X

abbrev r_X5_night : Room := { frames := 5, cells := 0, slots := 0, locals := 112 }
theorem cv_X5_night : cV yX5_night cX5_night 6 (some .int) 1 := ⟨k5_79, k5_80, k5_81, k1_6, by decide, by decide, by decide +kernel⟩
set_option maxHeartbeats 4000000 in
set_option maxRecDepth 100000 in
theorem c_X5_night (l : Launch) (D : va_G) (cI cC : ClassId) (adK adV : Nat → Nat) (y : Nat → Nat) (T K : Tw) (ik : Bool) (F f : Nat → Int32) (n : Nat) (s1 s2 s3 kr ar : Nat → Int32) (tk : Int32) (bg en : Nat) (vl : Int64) (cr : Nat → Int32) (hk : ik = true → kr = rowOf K) (ho : gOk T) (k : Int32) : FC l yX5_night (wW yX5_night cX5_night 6 (some .int)) r_X5_night D (tyC cI cC) adK adV (wMo cI cC y (rowOf T) (kr, ar, ik, F, f, n, tk, bg, en, vl, s1, s2, s3, cr)) [.ref (y 0), .int k] 0 0 (pMo cI cC y (m_night (T, K, ik, F, f, n, s1, s2, s3) k)) := by
  refine FC.of (own := RX5) (by decide) rfl (Nat.le_of_ble_eq_true rfl) ?_
  intro p9 e9 s9 m9 args9 below9 meth9 c9 A9 C hr hlk hmn
  show AW p9 l e9 r_X5_night s9 m9 args9 below9 meth9 c9 D A9 6 0 0 _ 0 [(0, .ref (y 0)), (1, .int k)] [] _
  have hn := ho.n
  refine aw_iload_n C dX5_night_0 rfl ?_
  refine aw_iconst C (1 : Int32) dX5_night_1 (by decide) ?_
  refine aw_bipush C (20 : Int32) dX5_night_2 (by decide) ?_
  refine aw_callSp C (As := [.int k, .int (1 : Int32), .int (20 : Int32)]) (c_X5_in1 l D cI cC adK adV k (1 : Int32) (20 : Int32)) k4_54 cs_X5_in1 [] (by decide) rfl ⟨by decide, by decide⟩ rfl rfl ⟨by decide, by decide⟩ rfl rfl (Nat.le_of_ble_eq_true rfl) dX5_night_4 ?_
  refine aw_top (y := b2 (!decide (k < (1 : Int32)) && decide (k ≤ (20 : Int32)))) (by exact congrArg b2 (inL_le _ _ _)) ?_
  refine aw_ifne_b C 16 dX5_night_7 (by decide) (fun c_7 => ?_) (fun c_7 => ?_)
  · skip
    have l1 : ix k ≤ 20 := le_b c_7 (le_1 c_7) (by decide)
    have ek := ix_eq (le_1 c_7)
    have gd := go_day ho.d (show ix k ≤ 60 by omega)
    rw [← ek] at gd
    have e1 : k = nI (ix k) := ix_eq (le_1 c_7)
    refine aw_eq (lv' := [(0, .ref (y 0)), (1, .int (nI (ix k)))]) (ws' := wMo cI cC y (rowOf T) (kr, ar, ik, F, f, n, tk, bg, en, vl, s1, s2, s3, cr)) (by rw [← e1]) rfl rfl ?_
    refine aw_aload_n C dX5_night_16 rfl ?_
    refine aw_getf C 0 4 0 18 inX5 rfl (by decide) rfl k3_234 rfl rfl dX5_night_17 ?_
    refine aw_iconst C (0 : Int32) dX5_night_20 (by decide) ?_
    refine aw_ialdN C 1 0 0 rfl rfl rfl (by decide) (by decide) dX5_night_21 ?_
    refine aw_top (y := (T.2.1 0)) rfl ?_
    refine aw_pc 22 rfl ?_
    refine aw_iload_n C dX5_night_22 rfl ?_
    refine aw_iadd C dX5_night_23 ?_
    refine aw_ldc C k4_166 dX5_night_24 ?_
    refine aw_icmp_le C 35 dX5_night_26 (by decide) (fun c_26 => ?_) (fun c_26 => ?_)
    · skip
      have c9 : ¬ 99999 - T.2.1 0 < k := fun z => gd.mp z (by rw [ek]; exact c_26)
      refine aw_iconst C (0 : Int32) dX5_night_35 (by decide) ?_
      refine aw_istore_n C true (lv' := [(0, .ref (y 0)), (1, .int (nI (ix k))), (2, .int (0 : Int32))]) dX5_night_36 (by decide) rfl rfl ?_
      refine aw_eq (lv' := [(0, .ref (y 0)), (1, .int (nI (ix k))), (2, .int (nI 0))]) (ws' := wMo cI cC y (rowOf (itr (fun _ U => nStep U) 0 T)) (kr, ar, ik, F, f, n, tk, bg, en, vl, s1, s2, s3, cr)) (by first | rfl | (simp only [itr, c_7, c_26])) rfl (by rfl) ?_
      refine aw_loop (LV := fun i => [(0, .ref (y 0)), (1, .int (nI (ix k))), (2, .int (nI i))]) (WS := fun i => wMo cI cC y (rowOf (itr (fun _ U => nStep U) i T)) (kr, ar, ik, F, f, n, tk, bg, en, vl, s1, s2, s3, cr)) (ix k) (Inv := fun _ => True) trivial ?_ ?_
      · intro hv37
        refine aw_iload_n C dX5_night_37 rfl ?_
        refine aw_iload_n C dX5_night_38 rfl ?_
        refine aw_icmp_ge C 102 dX5_night_39 (by decide) (fun c_39 => ?_) (fun c_39 => absurd c_39 (fun z => z (Int32.le_refl _)))
        refine aw_aload_n C dX5_night_102 rfl ?_
        refine aw_pc 103 rfl ?_
        refine aw_getf C 0 4 0 18 inX5 rfl (by decide) rfl k3_234 rfl rfl dX5_night_103 ?_
        refine aw_iconst C (3 : Int32) dX5_night_106 (by decide) ?_
        refine aw_ialdN C 1 0 3 rfl rfl rfl (by decide) (by decide) dX5_night_107 ?_
        refine aw_top (y := ((itr (fun _ U => nStep U) (ix k) T).2.1 3)) rfl ?_
        have hm : m_night (T, K, ik, F, f, n, s1, s2, s3) k = (((itr (fun _ U => nStep U) (ix k) T).2.1 3), ((itr (fun _ U => nStep U) (ix k) T), K, ik, F, f, n, s1, s2, s3)) := by simp only [m_night, c_7, c9, decide_true, decide_false, Bool.not_true, Bool.not_false, Bool.true_and, Bool.false_and, Bool.and_true, Bool.and_false, Bool.true_or, Bool.false_or, Bool.or_true, Bool.or_false, cond_true, cond_false, eq_self, if_true, if_false, ite_true, ite_false] <;> rfl
        exact aw_iret C hr hlk dX5_night_108 ⟨ri (by rw [hm]), kr, ar, tk, bg, en, vl, cr, by first | (rw [hm]; done) | (rw [hm]; rfl), by rw [hm]; exact hk⟩
      · intro i hi37 hv37 ih37
        refine aw_iload_n C dX5_night_37 rfl ?_
        refine aw_iload_n C dX5_night_38 rfl ?_
        refine aw_icmp_ge C 102 dX5_night_39 (by decide) (fun c_39 => absurd c_39 (nI_ge hi37 (by omega))) (fun c_39 => ?_)
        have o0 := night_ok ho i
        unfold tNight at o0
        generalize hY0 : (itr (fun _ U => nStep U) i T) = Y0 at o0 ⊢
        refine aw_aload_n C dX5_night_42 rfl ?_
        obtain ⟨Y1, hY1⟩ : ∃ y9, y9 = tDraw Y0 := ⟨_, rfl⟩
        obtain ⟨v1, hv1⟩ : ∃ y9, y9 = mDraw Y0 := ⟨_, rfl⟩
        refine aw_callVd C (As := []) (c_X5_drawE l D cI cC adK adV y Y0 (kr, ar, ik, F, f, n, tk, bg, en, vl, s1, s2, s3, cr) Y1 v1 hY1 hv1) k5_82 cv_X5_draw 0 4 rfl rfl rfl [0, 1, 2, 3, 4, 5, 6, 7, 8, 9, 10, 11, 12] (by decide) rfl (wr := ([] : va_W)) [] rfl (by decide) (by decide) [0, 1, 2, 3, 4, 5, 6, 7, 8, 9, 10, 11, 12] (by decide) (ws' := wMo cI cC y (rowOf Y1) (kr, ar, ik, F, f, n, tk, bg, en, vl, s1, s2, s3, cr)) rfl ⟨by decide, by decide⟩ rfl rfl ⟨by decide, by decide⟩ rfl rfl (Nat.le_of_ble_eq_true rfl) dX5_night_43 ?_
        refine aw_bipush C (8 : Int32) dX5_night_46 (by decide) ?_
        refine aw_pc 48 rfl ?_
        refine aw_irem C dX5_night_48 (by decide) ?_
        refine aw_istore_n C true (lv' := [(0, .ref (y 0)), (1, .int (nI (ix k))), (2, .int (nI i)), (3, .int (ir v1 (8 : Int32)))]) dX5_night_49 (by decide) rfl rfl ?_
        refine aw_aload_n C dX5_night_50 rfl ?_
        obtain ⟨Y2, hY2⟩ : ∃ y9, y9 = tDraw Y1 := ⟨_, rfl⟩
        obtain ⟨v2, hv2⟩ : ∃ y9, y9 = mDraw Y1 := ⟨_, rfl⟩
        refine aw_callVd C (As := []) (c_X5_drawE l D cI cC adK adV y Y1 (kr, ar, ik, F, f, n, tk, bg, en, vl, s1, s2, s3, cr) Y2 v2 hY2 hv2) k5_82 cv_X5_draw 0 4 rfl rfl rfl [0, 1, 2, 3, 4, 5, 6, 7, 8, 9, 10, 11, 12] (by decide) rfl (wr := ([] : va_W)) [] rfl (by decide) (by decide) [0, 1, 2, 3, 4, 5, 6, 7, 8, 9, 10, 11, 12] (by decide) (ws' := wMo cI cC y (rowOf Y2) (kr, ar, ik, F, f, n, tk, bg, en, vl, s1, s2, s3, cr)) rfl ⟨by decide, by decide⟩ rfl rfl ⟨by decide, by decide⟩ rfl rfl (Nat.le_of_ble_eq_true rfl) dX5_night_51 ?_
        refine aw_bipush C (16 : Int32) dX5_night_54 (by decide) ?_
        refine aw_irem C dX5_night_56 (by decide) ?_
        refine aw_istore C true (lv' := [(0, .ref (y 0)), (1, .int (nI (ix k))), (2, .int (nI i)), (3, .int (ir v1 (8 : Int32))), (4, .int (ir v2 (16 : Int32)))]) dX5_night_57 (by decide) rfl rfl ?_
        refine aw_aload_n C dX5_night_59 rfl ?_
        obtain ⟨Y3, hY3⟩ : ∃ y9, y9 = tDraw Y2 := ⟨_, rfl⟩
        obtain ⟨v3, hv3⟩ : ∃ y9, y9 = mDraw Y2 := ⟨_, rfl⟩
        refine aw_callVd C (As := []) (c_X5_drawE l D cI cC adK adV y Y2 (kr, ar, ik, F, f, n, tk, bg, en, vl, s1, s2, s3, cr) Y3 v3 hY3 hv3) k5_82 cv_X5_draw 0 4 rfl rfl rfl [0, 1, 2, 3, 4, 5, 6, 7, 8, 9, 10, 11, 12] (by decide) rfl (wr := ([] : va_W)) [] rfl (by decide) (by decide) [0, 1, 2, 3, 4, 5, 6, 7, 8, 9, 10, 11, 12] (by decide) (ws' := wMo cI cC y (rowOf Y3) (kr, ar, ik, F, f, n, tk, bg, en, vl, s1, s2, s3, cr)) rfl ⟨by decide, by decide⟩ rfl rfl ⟨by decide, by decide⟩ rfl rfl (Nat.le_of_ble_eq_true rfl) dX5_night_60 ?_
        refine aw_bipush C (12 : Int32) dX5_night_63 (by decide) ?_
        refine aw_pc 65 rfl ?_
        refine aw_irem C dX5_night_65 (by decide) ?_
        refine aw_istore C true (lv' := [(0, .ref (y 0)), (1, .int (nI (ix k))), (2, .int (nI i)), (3, .int (ir v1 (8 : Int32))), (4, .int (ir v2 (16 : Int32))), (5, .int (ir v3 (12 : Int32)))]) dX5_night_66 (by decide) rfl rfl ?_
        have o3 : gOk Y3 := by rw [hY3, hY2, hY1]; exact draw_ok (draw_ok (draw_ok o0))
        have n3 := o3.n
        refine aw_aload_n C dX5_night_68 rfl ?_
        refine aw_iload_n C dX5_night_69 rfl ?_
        refine aw_callVp C (As := [.int (ir v1 (8 : Int32))]) (c_X5_isPerson l D cI cC adK adV y Y3 (kr, ar, ik, F, f, n, tk, bg, en, vl, s1, s2, s3, cr) (ir v1 (8 : Int32)) n3) k4_77 cv_X5_isPerson 0 4 rfl rfl rfl [0, 1, 2, 3, 4, 5, 6, 7, 8, 9, 10, 11, 12] (by decide) rfl ⟨by decide, by decide⟩ rfl rfl ⟨by decide, by decide⟩ rfl rfl (Nat.le_of_ble_eq_true rfl) dX5_night_70 ?_
        refine aw_ifeq_b C 92 dX5_night_73 (by decide) (fun c_73 => ?_) (fun c_73 => ?_)
        · skip
          refine aw_aload_n C dX5_night_92 rfl ?_
          refine aw_callVdv C (As := []) (c_X5_day l D cI cC adK adV y Y3 (kr, ar, ik, F, f, n, tk, bg, en, vl, s1, s2, s3, cr)  (by first | exact oA | exact o3)) k4_171 cv_X5_day 0 4 rfl rfl rfl [0, 1, 2, 3, 4, 5, 6, 7, 8, 9, 10, 11, 12] (by decide) rfl (wr := ([] : va_W)) [] rfl (by decide) (by decide) [0, 1, 2, 3, 4, 5, 6, 7, 8, 9, 10, 11, 12] (by decide) (ws' := wMo cI cC y (rowOf (tDay Y3)) (kr, ar, ik, F, f, n, tk, bg, en, vl, s1, s2, s3, cr)) rfl ⟨by decide, by decide⟩ rfl rfl ⟨by decide, by decide⟩ rfl rfl (Nat.le_of_ble_eq_true rfl) dX5_night_93 ?_
          refine aw_iinc C (nI (i + 1)) dX5_night_96 rfl (inc_nI _ 1) (by decide) rfl (lv' := [(0, .ref (y 0)), (1, .int (nI (ix k))), (2, .int (nI (i + 1))), (3, .int (ir v1 (8 : Int32))), (4, .int (ir v2 (16 : Int32))), (5, .int (ir v3 (12 : Int32)))]) rfl ?_
          refine aw_goto C 37 dX5_night_99 (by decide) ?_
          refine aw_sub (lv' := [(0, .ref (y 0)), (1, .int (nI (ix k))), (2, .int (nI (i + 1)))]) [0, 1, 2] rfl ?_
          exact aw_eq (by first | rfl | (simp only [itr, c_7, c_26, c_73])) rfl (by subst hv3 hY3 hv2 hY2 hv1 hY1 hY0; rw [itr_s]; first | rw [nStep_y9 c_73] | rw [nStep_o c_73]) (ih37 trivial)
        · skip
          have l3 := there_lt n3 c_73
          have oA := nput_ok o3 l3 (hv2 ▸ rg_draw _) (hv3 ▸ rg_draw _)
          have e2 : (ir v1 (8 : Int32)) = nI (ix (ir v1 (8 : Int32))) := there_ix c_73
          refine aw_eq (lv' := [(0, .ref (y 0)), (1, .int (nI (ix k))), (2, .int (nI i)), (3, .int (nI (ix (ir v1 (8 : Int32))))), (4, .int (ir v2 (16 : Int32))), (5, .int (ir v3 (12 : Int32)))]) (ws' := wMo cI cC y (rowOf Y3) (kr, ar, ik, F, f, n, tk, bg, en, vl, s1, s2, s3, cr)) (by rw [← e2]) rfl rfl ?_
          refine aw_pc 76 rfl ?_
          refine aw_aload_n C dX5_night_76 rfl ?_
          refine aw_iload_n C dX5_night_77 rfl ?_
          refine aw_iconst C (1 : Int32) dX5_night_78 (by decide) ?_
          refine aw_iload C dX5_night_79 rfl ?_
          refine aw_callVdv C (As := [.int (nI (ix (ir v1 (8 : Int32)))), .int (1 : Int32), .int (ir v2 (16 : Int32))]) (c_X5_puts l D cI cC adK adV y Y3 (kr, ar, ik, F, f, n, tk, bg, en, vl, s1, s2, s3, cr) (ix (ir v1 (8 : Int32))) 1 (ir v2 (16 : Int32)) (by omega) (by decide)) k4_69 cv_X5_puts 0 4 rfl rfl rfl [0, 1, 2, 3, 4, 5, 6, 7, 8, 9, 10, 11, 12] (by decide) rfl (wr := ([] : va_W)) [] rfl (by decide) (by decide) [0, 1, 2, 3, 4, 5, 6, 7, 8, 9, 10, 11, 12] (by decide) (ws' := wMo cI cC y (rowOf (sP Y3 1 (ix (ir v1 (8 : Int32))) (ir v2 (16 : Int32)))) (kr, ar, ik, F, f, n, tk, bg, en, vl, s1, s2, s3, cr)) rfl ⟨by decide, by decide⟩ rfl rfl ⟨by decide, by decide⟩ rfl rfl (Nat.le_of_ble_eq_true rfl) dX5_night_81 ?_
          refine aw_aload_n C dX5_night_84 rfl ?_
          refine aw_iload_n C dX5_night_85 rfl ?_
          refine aw_iconst C (2 : Int32) dX5_night_86 (by decide) ?_
          refine aw_iload C dX5_night_87 rfl ?_
          refine aw_callVdv C (As := [.int (nI (ix (ir v1 (8 : Int32)))), .int (2 : Int32), .int (ir v3 (12 : Int32))]) (c_X5_puts l D cI cC adK adV y (sP Y3 1 (ix (ir v1 (8 : Int32))) (ir v2 (16 : Int32))) (kr, ar, ik, F, f, n, tk, bg, en, vl, s1, s2, s3, cr) (ix (ir v1 (8 : Int32))) 2 (ir v3 (12 : Int32)) (by omega) (by decide)) k4_69 cv_X5_puts 0 4 rfl rfl rfl [0, 1, 2, 3, 4, 5, 6, 7, 8, 9, 10, 11, 12] (by decide) rfl (wr := ([] : va_W)) [] rfl (by decide) (by decide) [0, 1, 2, 3, 4, 5, 6, 7, 8, 9, 10, 11, 12] (by decide) (ws' := wMo cI cC y (rowOf (sP (sP Y3 1 (ix (ir v1 (8 : Int32))) (ir v2 (16 : Int32))) 2 (ix (ir v1 (8 : Int32))) (ir v3 (12 : Int32)))) (kr, ar, ik, F, f, n, tk, bg, en, vl, s1, s2, s3, cr)) rfl ⟨by decide, by decide⟩ rfl rfl ⟨by decide, by decide⟩ rfl rfl (Nat.le_of_ble_eq_true rfl) dX5_night_89 ?_
          refine aw_pc 92 rfl ?_
          refine aw_aload_n C dX5_night_92 rfl ?_
          refine aw_callVdv C (As := []) (c_X5_day l D cI cC adK adV y (sP (sP Y3 1 (ix (ir v1 (8 : Int32))) (ir v2 (16 : Int32))) 2 (ix (ir v1 (8 : Int32))) (ir v3 (12 : Int32))) (kr, ar, ik, F, f, n, tk, bg, en, vl, s1, s2, s3, cr)  (by first | exact oA | exact o3)) k4_171 cv_X5_day 0 4 rfl rfl rfl [0, 1, 2, 3, 4, 5, 6, 7, 8, 9, 10, 11, 12] (by decide) rfl (wr := ([] : va_W)) [] rfl (by decide) (by decide) [0, 1, 2, 3, 4, 5, 6, 7, 8, 9, 10, 11, 12] (by decide) (ws' := wMo cI cC y (rowOf (tDay (sP (sP Y3 1 (ix (ir v1 (8 : Int32))) (ir v2 (16 : Int32))) 2 (ix (ir v1 (8 : Int32))) (ir v3 (12 : Int32))))) (kr, ar, ik, F, f, n, tk, bg, en, vl, s1, s2, s3, cr)) rfl ⟨by decide, by decide⟩ rfl rfl ⟨by decide, by decide⟩ rfl rfl (Nat.le_of_ble_eq_true rfl) dX5_night_93 ?_
          refine aw_iinc C (nI (i + 1)) dX5_night_96 rfl (inc_nI _ 1) (by decide) rfl (lv' := [(0, .ref (y 0)), (1, .int (nI (ix k))), (2, .int (nI (i + 1))), (3, .int (nI (ix (ir v1 (8 : Int32))))), (4, .int (ir v2 (16 : Int32))), (5, .int (ir v3 (12 : Int32)))]) rfl ?_
          refine aw_goto C 37 dX5_night_99 (by decide) ?_
          refine aw_sub (lv' := [(0, .ref (y 0)), (1, .int (nI (ix k))), (2, .int (nI (i + 1)))]) [0, 1, 2] rfl ?_
          exact aw_eq (by first | rfl | (simp only [itr, c_7, c_26, c_73])) rfl (by subst hv3 hY3 hv2 hY2 hv1 hY1 hY0; rw [itr_s]; first | rw [nStep_y9 c_73] | rw [nStep_o c_73]) (ih37 trivial)
    · skip
      have c9 : 99999 - T.2.1 0 < k := gd.mpr (by rw [ek]; exact c_26)
      refine aw_aload_n C dX5_night_29 rfl ?_
      refine aw_iconst C (4 : Int32) dX5_night_30 (by decide) ?_
      refine aw_callVd C (As := [.int (4 : Int32)]) (c_X5_no l D cI cC adK adV y T (kr, ar, ik, F, f, n, tk, bg, en, vl, s1, s2, s3, cr) 4 (by decide)) k4_60 cv_X5_no 0 4 rfl rfl rfl [0, 1, 2, 3, 4, 5, 6, 7, 8, 9, 10, 11, 12] (by decide) rfl (wr := ([] : va_W)) [] rfl (by decide) (by decide) [0, 1, 2, 3, 4, 5, 6, 7, 8, 9, 10, 11, 12] (by decide) (ws' := wMo cI cC y (rowOf T) (kr, ar, ik, (upd F 4 (F 4 + 1)), f, n, tk, bg, en, vl, s1, s2, s3, cr)) rfl ⟨by decide, by decide⟩ rfl rfl ⟨by decide, by decide⟩ rfl rfl (Nat.le_of_ble_eq_true rfl) dX5_night_31 ?_
      have hm : m_night (T, K, ik, F, f, n, s1, s2, s3) k = ((fno 4), (T, K, ik, (upd F 4 (F 4 + 1)), f, n, s1, s2, s3)) := by simp only [m_night, c_7, c_26, c9, decide_true, decide_false, Bool.not_true, Bool.not_false, Bool.true_and, Bool.false_and, Bool.and_true, Bool.and_false, Bool.true_or, Bool.false_or, Bool.or_true, Bool.or_false, cond_true, cond_false, eq_self, if_true, if_false, ite_true, ite_false] <;> rfl
      exact aw_iret C hr hlk dX5_night_34 ⟨ri (by rw [hm]), kr, ar, tk, bg, en, vl, cr, by first | (rw [hm]; done) | (rw [hm]; rfl), by rw [hm]; exact hk⟩
  · skip
    refine aw_aload_n C dX5_night_10 rfl ?_
    refine aw_iconst C (0 : Int32) dX5_night_11 (by decide) ?_
    refine aw_pc 12 rfl ?_
    refine aw_callVd C (As := [.int (0 : Int32)]) (c_X5_no l D cI cC adK adV y T (kr, ar, ik, F, f, n, tk, bg, en, vl, s1, s2, s3, cr) 0 (by decide)) k4_60 cv_X5_no 0 4 rfl rfl rfl [0, 1, 2, 3, 4, 5, 6, 7, 8, 9, 10, 11, 12] (by decide) rfl (wr := ([] : va_W)) [] rfl (by decide) (by decide) [0, 1, 2, 3, 4, 5, 6, 7, 8, 9, 10, 11, 12] (by decide) (ws' := wMo cI cC y (rowOf T) (kr, ar, ik, (upd F 0 (F 0 + 1)), f, n, tk, bg, en, vl, s1, s2, s3, cr)) rfl ⟨by decide, by decide⟩ rfl rfl ⟨by decide, by decide⟩ rfl rfl (Nat.le_of_ble_eq_true rfl) dX5_night_12 ?_
    have hm : m_night (T, K, ik, F, f, n, s1, s2, s3) k = ((fno 0), (T, K, ik, (upd F 0 (F 0 + 1)), f, n, s1, s2, s3)) := by simp only [m_night, c_7, decide_true, decide_false, Bool.not_true, Bool.not_false, Bool.true_and, Bool.false_and, Bool.and_true, Bool.and_false, Bool.true_or, Bool.false_or, Bool.or_true, Bool.or_false, cond_true, cond_false, eq_self, if_true, if_false, ite_true, ite_false] <;> rfl
    exact aw_iret C hr hlk dX5_night_15 ⟨ri (by rw [hm]), kr, ar, tk, bg, en, vl, cr, by first | (rw [hm]; done) | (rw [hm]; rfl), by rw [hm]; exact hk⟩
abbrev r_X5_odds : Room := { frames := 2, cells := 0, slots := 0, locals := 45 }
theorem cv_X5_odds : cV yX5_odds cX5_odds 15 (some .long) 3 := ⟨k5_88, k5_89, k5_90, k1_6, by decide, by decide, by decide +kernel⟩
set_option maxHeartbeats 4000000 in
set_option maxRecDepth 100000 in
theorem c_X5_odds (l : Launch) (D : va_G) (cI cC : ClassId) (adK adV : Nat → Nat) (y : Nat → Nat) (T K : Tw) (ik : Bool) (F f : Nat → Int32) (n : Nat) (s1 s2 s3 kr ar : Nat → Int32) (tk : Int32) (bg en : Nat) (vl : Int64) (cr : Nat → Int32) (hk : ik = true → kr = rowOf K) (ho : gOk T) (u : Int32) (k : Int32) (w : Int32) : FC l yX5_odds (wW yX5_odds cX5_odds 15 (some .long)) r_X5_odds D (tyC cI cC) adK adV (wMo cI cC y (rowOf T) (kr, ar, ik, F, f, n, tk, bg, en, vl, s1, s2, s3, cr)) [.ref (y 0), .int u, .int k, .int w] 0 0 (pMoL cI cC y (m_odds (T, K, ik, F, f, n, s1, s2, s3) u k w)) := by
  refine FC.of (own := RX5) (by decide) rfl (Nat.le_of_ble_eq_true rfl) ?_
  intro p9 e9 s9 m9 args9 below9 meth9 c9 A9 C hr hlk hmn
  show AW p9 l e9 r_X5_odds s9 m9 args9 below9 meth9 c9 D A9 15 0 0 _ 0 [(0, .ref (y 0)), (1, .int u), (2, .int k), (3, .int w)] [] _
  have hn := ho.n
  refine aw_aload_n C dX5_odds_0 rfl ?_
  refine aw_iload_n C dX5_odds_1 rfl ?_
  refine aw_callVp C (As := [.int u]) (c_X5_isPerson l D cI cC adK adV y T (kr, ar, ik, F, f, n, tk, bg, en, vl, s1, s2, s3, cr) u hn) k4_77 cv_X5_isPerson 0 4 rfl rfl rfl [0, 1, 2, 3, 4, 5, 6, 7, 8, 9, 10, 11, 12] (by decide) rfl ⟨by decide, by decide⟩ rfl rfl ⟨by decide, by decide⟩ rfl rfl (Nat.le_of_ble_eq_true rfl) dX5_odds_2 ?_
  refine aw_ifeq_b C 27 dX5_odds_5 (by decide) (fun c_5 => ?_) (fun c_5 => ?_)
  · skip
    refine aw_aload_n C dX5_odds_27 rfl ?_
    refine aw_iconst C (0 : Int32) dX5_odds_28 (by decide) ?_
    refine aw_callVd C (As := [.int (0 : Int32)]) (c_X5_no l D cI cC adK adV y T (kr, ar, ik, F, f, n, tk, bg, en, vl, s1, s2, s3, cr) 0 (by decide)) k4_60 cv_X5_no 0 4 rfl rfl rfl [0, 1, 2, 3, 4, 5, 6, 7, 8, 9, 10, 11, 12] (by decide) rfl (wr := ([] : va_W)) [] rfl (by decide) (by decide) [0, 1, 2, 3, 4, 5, 6, 7, 8, 9, 10, 11, 12] (by decide) (ws' := wMo cI cC y (rowOf T) (kr, ar, ik, (upd F 0 (F 0 + 1)), f, n, tk, bg, en, vl, s1, s2, s3, cr)) rfl ⟨by decide, by decide⟩ rfl rfl ⟨by decide, by decide⟩ rfl rfl (Nat.le_of_ble_eq_true rfl) dX5_odds_29 ?_
    refine aw_i2l C dX5_odds_32 ?_
    have hm : m_odds (T, K, ik, F, f, n, s1, s2, s3) u k w = (((fno 0).toInt64), (T, K, ik, (upd F 0 (F 0 + 1)), f, n, s1, s2, s3)) := by exact odds_a c_5
    exact aw_lret C hr hlk dX5_odds_33 ⟨rl (by rw [hm]), kr, ar, tk, bg, en, vl, cr, by first | (rw [hm]; done) | (rw [hm]; rfl), by rw [hm]; exact hk⟩
  · skip
    refine aw_pc 8 rfl ?_
    refine aw_iload_n C dX5_odds_8 rfl ?_
    refine aw_iconst C (0 : Int32) dX5_odds_9 (by decide) ?_
    refine aw_bipush C (17 : Int32) dX5_odds_10 (by decide) ?_
    refine aw_callSp C (As := [.int k, .int (0 : Int32), .int (17 : Int32)]) (c_X5_in1 l D cI cC adK adV k (0 : Int32) (17 : Int32)) k4_54 cs_X5_in1 [] (by decide) rfl ⟨by decide, by decide⟩ rfl rfl ⟨by decide, by decide⟩ rfl rfl (Nat.le_of_ble_eq_true rfl) dX5_odds_12 ?_
    refine aw_top (y := b2 (!decide (k < (0 : Int32)) && decide (k ≤ (17 : Int32)))) (by exact congrArg b2 (inL_le _ _ _)) ?_
    refine aw_ifeq_b C 27 dX5_odds_15 (by decide) (fun c_15 => ?_) (fun c_15 => ?_)
    · skip
      refine aw_aload_n C dX5_odds_27 rfl ?_
      refine aw_iconst C (0 : Int32) dX5_odds_28 (by decide) ?_
      refine aw_callVd C (As := [.int (0 : Int32)]) (c_X5_no l D cI cC adK adV y T (kr, ar, ik, F, f, n, tk, bg, en, vl, s1, s2, s3, cr) 0 (by decide)) k4_60 cv_X5_no 0 4 rfl rfl rfl [0, 1, 2, 3, 4, 5, 6, 7, 8, 9, 10, 11, 12] (by decide) rfl (wr := ([] : va_W)) [] rfl (by decide) (by decide) [0, 1, 2, 3, 4, 5, 6, 7, 8, 9, 10, 11, 12] (by decide) (ws' := wMo cI cC y (rowOf T) (kr, ar, ik, (upd F 0 (F 0 + 1)), f, n, tk, bg, en, vl, s1, s2, s3, cr)) rfl ⟨by decide, by decide⟩ rfl rfl ⟨by decide, by decide⟩ rfl rfl (Nat.le_of_ble_eq_true rfl) dX5_odds_29 ?_
      refine aw_i2l C dX5_odds_32 ?_
      have hm : m_odds (T, K, ik, F, f, n, s1, s2, s3) u k w = (((fno 0).toInt64), (T, K, ik, (upd F 0 (F 0 + 1)), f, n, s1, s2, s3)) := by exact odds_b c_15
      exact aw_lret C hr hlk dX5_odds_33 ⟨rl (by rw [hm]), kr, ar, tk, bg, en, vl, cr, by first | (rw [hm]; done) | (rw [hm]; rfl), by rw [hm]; exact hk⟩
    · skip
      refine aw_pc 18 rfl ?_
      refine aw_iload_n C dX5_odds_18 rfl ?_
      refine aw_iconst C (0 : Int32) dX5_odds_19 (by decide) ?_
      refine aw_iconst C (1 : Int32) dX5_odds_20 (by decide) ?_
      refine aw_callSp C (As := [.int w, .int (0 : Int32), .int (1 : Int32)]) (c_X5_in1 l D cI cC adK adV w (0 : Int32) (1 : Int32)) k4_54 cs_X5_in1 [] (by decide) rfl ⟨by decide, by decide⟩ rfl rfl ⟨by decide, by decide⟩ rfl rfl (Nat.le_of_ble_eq_true rfl) dX5_odds_21 ?_
      refine aw_top (y := b2 (!decide (w < (0 : Int32)) && decide (w ≤ (1 : Int32)))) (by exact congrArg b2 (inL_le _ _ _)) ?_
      refine aw_ifne_b C 34 dX5_odds_24 (by decide) (fun c_24 => ?_) (fun c_24 => ?_)
      · skip
        have l1 := there_lt hn c_5
        have l2 : ix k ≤ 17 := le_b c_15 (le_0 c_15) (by decide)
        have e1 : u = nI (ix u) := there_ix c_5
        refine aw_eq (lv' := [(0, .ref (y 0)), (1, .int (nI (ix u))), (2, .int k), (3, .int w)]) (ws' := wMo cI cC y (rowOf T) (kr, ar, ik, F, f, n, tk, bg, en, vl, s1, s2, s3, cr)) (by rw [← e1]) rfl rfl ?_
        have e2 : k = nI (ix k) := ix_eq (le_0 c_15)
        refine aw_eq (lv' := [(0, .ref (y 0)), (1, .int (nI (ix u))), (2, .int (nI (ix k))), (3, .int w)]) (ws' := wMo cI cC y (rowOf T) (kr, ar, ik, F, f, n, tk, bg, en, vl, s1, s2, s3, cr)) (by rw [← e2]) rfl rfl ?_
        refine aw_iconst C (0 : Int32) dX5_odds_34 (by decide) ?_
        refine aw_istore C true (lv' := [(0, .ref (y 0)), (1, .int (nI (ix u))), (2, .int (nI (ix k))), (3, .int w), (4, .int (0 : Int32))]) dX5_odds_35 (by decide) rfl rfl ?_
        refine aw_iconst C (0 : Int32) dX5_odds_37 (by decide) ?_
        refine aw_istore C true (lv' := [(0, .ref (y 0)), (1, .int (nI (ix u))), (2, .int (nI (ix k))), (3, .int w), (4, .int (0 : Int32)), (5, .int (0 : Int32))]) dX5_odds_38 (by decide) rfl rfl ?_
        refine aw_eq (lv' := [(0, .ref (y 0)), (1, .int (nI (ix u))), (2, .int (nI (ix k))), (3, .int w), (4, .int (itr (fun g x => bif tMind T (ix u) (nI g) then x + 1 else x) 0 0)), (5, .int (nI 0))]) (ws' := wMo cI cC y (rowOf T) (kr, ar, ik, F, f, n, tk, bg, en, vl, s1, s2, s3, cr)) (by first | rfl | (simp only [itr, c_5, c_15, c_24])) rfl (by rfl) ?_
        refine aw_loop (LV := fun i => [(0, .ref (y 0)), (1, .int (nI (ix u))), (2, .int (nI (ix k))), (3, .int w), (4, .int (itr (fun g x => bif tMind T (ix u) (nI g) then x + 1 else x) i 0)), (5, .int (nI i))]) (WS := fun i => wMo cI cC y (rowOf T) (kr, ar, ik, F, f, n, tk, bg, en, vl, s1, s2, s3, cr)) 12 (Inv := fun _ => True) trivial ?_ ?_
        · intro hv40
          refine aw_iload C dX5_odds_40 rfl ?_
          refine aw_pc 42 rfl ?_
          refine aw_bipush C (12 : Int32) dX5_odds_42 (by decide) ?_
          refine aw_icmp_ge C 73 dX5_odds_44 (by decide) (fun c_44 => ?_) (fun c_44 => absurd c_44 (fun z => z (by decide)))
          obtain ⟨mi, hmi, emi⟩ := minded_le T (ix u) 12 (by decide)
          have exi : ix (mMinded T (ix u)) = mi := by rw [show mMinded T (ix u) = nI mi from emi, ix_nI (by omega)]
          refine aw_eq (lv' := [(0, .ref (y 0)), (1, .int (nI (ix u))), (2, .int (nI (ix k))), (3, .int w), (4, .int (nI mi)), (5, .int (nI 12))]) (ws' := wMo cI cC y (rowOf T) (kr, ar, ik, F, f, n, tk, bg, en, vl, s1, s2, s3, cr)) (by rw [emi]) rfl rfl ?_
          refine aw_lconst C (1 : Int64) dX5_odds_73 (by decide) ?_
          refine aw_lstore C false (lv' := [(0, .ref (y 0)), (1, .int (nI (ix u))), (2, .int (nI (ix k))), (3, .int w), (4, .int (nI mi)), (5, .long (1 : Int64))]) dX5_odds_74 (by decide) rfl rfl ?_
          refine aw_lconst C (1 : Int64) dX5_odds_76 (by decide) ?_
          refine aw_lstore C true (lv' := [(0, .ref (y 0)), (1, .int (nI (ix u))), (2, .int (nI (ix k))), (3, .int w), (4, .int (nI mi)), (5, .long (1 : Int64)), (7, .long (1 : Int64))]) dX5_odds_77 (by decide) rfl rfl ?_
          refine aw_iconst C (0 : Int32) dX5_odds_79 (by decide) ?_
          refine aw_istore C true (lv' := [(0, .ref (y 0)), (1, .int (nI (ix u))), (2, .int (nI (ix k))), (3, .int w), (4, .int (nI mi)), (5, .long (1 : Int64)), (7, .long (1 : Int64)), (9, .int (0 : Int32))]) dX5_odds_80 (by decide) rfl rfl ?_
          refine aw_eq (lv' := [(0, .ref (y 0)), (1, .int (nI (ix u))), (2, .int (nI (ix k))), (3, .int w), (4, .int (nI mi)), (5, .long (lN (mi ^ 0))), (7, .long (lN (12 ^ 0))), (9, .int (nI 0))]) (ws' := wMo cI cC y (rowOf T) (kr, ar, ik, F, f, n, tk, bg, en, vl, s1, s2, s3, cr)) (by rfl) rfl (by rfl) ?_
          refine aw_loop (LV := fun i => [(0, .ref (y 0)), (1, .int (nI (ix u))), (2, .int (nI (ix k))), (3, .int w), (4, .int (nI mi)), (5, .long (lN (mi ^ i))), (7, .long (lN (12 ^ i))), (9, .int (nI i))]) (WS := fun i => wMo cI cC y (rowOf T) (kr, ar, ik, F, f, n, tk, bg, en, vl, s1, s2, s3, cr)) (ix k) (Inv := fun _ => True) trivial ?_ ?_
          · intro hv82
            refine aw_iload C dX5_odds_82 rfl ?_
            refine aw_pc 84 rfl ?_
            refine aw_iload_n C dX5_odds_84 rfl ?_
            refine aw_icmp_ge C 110 dX5_odds_85 (by decide) (fun c_85 => ?_) (fun c_85 => absurd c_85 (fun z => z (Int32.le_refl _)))
            refine aw_lload C dX5_odds_110 rfl ?_
            refine aw_lstore C false (lv' := [(0, .ref (y 0)), (1, .int (nI (ix u))), (2, .int (nI (ix k))), (3, .int w), (4, .int (nI mi)), (5, .long (lN (mi ^ (ix k)))), (7, .long (lN (12 ^ (ix k)))), (9, .long (lN (mi ^ (ix k))))]) dX5_odds_112 (by decide) rfl rfl ?_
            refine aw_lload C dX5_odds_114 rfl ?_
            refine aw_lstore C true (lv' := [(0, .ref (y 0)), (1, .int (nI (ix u))), (2, .int (nI (ix k))), (3, .int w), (4, .int (nI mi)), (5, .long (lN (mi ^ (ix k)))), (7, .long (lN (12 ^ (ix k)))), (9, .long (lN (mi ^ (ix k)))), (11, .long (lN (12 ^ (ix k))))]) dX5_odds_116 (by decide) rfl rfl ?_
            refine aw_eq (lv' := [(0, .ref (y 0)), (1, .int (nI (ix u))), (2, .int (nI (ix k))), (3, .int w), (4, .int (nI mi)), (5, .long (lN (mi ^ (ix k)))), (7, .long (lN (12 ^ (ix k)))), (9, .long (lN (mi ^ ix k, 12 ^ ix k).1)), (11, .long (lN (mi ^ ix k, 12 ^ ix k).2))]) (ws' := wMo cI cC y (rowOf T) (kr, ar, ik, F, f, n, tk, bg, en, vl, s1, s2, s3, cr)) (by first | rfl | (simp only [itr, c_5, c_15, c_24])) rfl (by rfl) ?_
            refine aw_loopE (σ := Nat × Nat) (LV := fun i xx => [(0, .ref (y 0)), (1, .int (nI (ix u))), (2, .int (nI (ix k))), (3, .int w), (4, .int (nI mi)), (5, .long (lN (mi ^ (ix k)))), (7, .long (lN (12 ^ (ix k)))), (9, .long (lN xx.1)), (11, .long (lN xx.2))]) (WS := fun i xx => wMo cI cC y (rowOf T) (kr, ar, ik, F, f, n, tk, bg, en, vl, s1, s2, s3, cr)) (12 ^ ix k) (Inv := fun i x => GI (mi ^ ix k) (12 ^ ix k) i x) (gi_0 (pow_m (by omega) l2) (pow_m (by decide) l2) (Nat.pow_pos (by decide))) ?_ ?_
            · intro xx hv118
              refine aw_lload C dX5_odds_118 rfl ?_
              refine aw_lconst C (0 : Int64) dX5_odds_120 (by decide) ?_
              refine aw_lcmp C dX5_odds_121 ?_
              refine aw_if_eq C 143 dX5_odds_122 (by decide) (fun c_122 => ?_) (fun c_122 => absurd c_122 (fun z => z ((lc0 hv118.2.1).mpr (gi_e hv118))))
              refine aw_pc 143 rfl ?_
              have hz := (lc0 hv118.2.1).mp c_122
              have hg := gi_r hv118 hz
              refine aw_iload_n C dX5_odds_143 rfl ?_
              refine aw_if_ne C 155 dX5_odds_144 (by decide) (fun c_144 => ?_) (fun c_144 => ?_)
              · skip
                refine aw_lload C dX5_odds_155 rfl ?_
                refine aw_lload C dX5_odds_157 rfl ?_
                refine aw_ldiv C dX5_odds_159 (gi_n hv118 hz) ?_
                have hm : m_odds (T, K, ik, F, f, n, s1, s2, s3) u k w = (((lN (12 ^ (ix k))) / (lN xx.1)), (T, K, ik, F, f, n, s1, s2, s3)) := by exact odds_y c_5 c_15 c_24 (by show lN (oP (ix (mMinded T (ix u))) w ^ ix k) = _; rw [exi]; first | exact (odds_r0 (by omega) l2 c_144 hg).symm | exact (odds_r1 (by omega) l2 c_144 hg).symm)
                exact aw_lret C hr hlk dX5_odds_160 ⟨rl (by rw [hm]), kr, ar, tk, bg, en, vl, cr, by first | (rw [hm]; done) | (rw [hm]; rfl), by rw [hm]; exact hk⟩
              · skip
                refine aw_lload C dX5_odds_147 rfl ?_
                refine aw_lload C dX5_odds_149 rfl ?_
                refine aw_ldiv C dX5_odds_151 (gi_n hv118 hz) ?_
                refine aw_goto C 160 dX5_odds_152 (by decide) ?_
                refine aw_pc 160 rfl ?_
                have hm : m_odds (T, K, ik, F, f, n, s1, s2, s3) u k w = (((lN (mi ^ (ix k))) / (lN xx.1)), (T, K, ik, F, f, n, s1, s2, s3)) := by exact odds_y c_5 c_15 c_24 (by show lN (oP (ix (mMinded T (ix u))) w ^ ix k) = _; rw [exi]; first | exact (odds_r0 (by omega) l2 c_144 hg).symm | exact (odds_r1 (by omega) l2 c_144 hg).symm)
                exact aw_lret C hr hlk dX5_odds_160 ⟨rl (by rw [hm]), kr, ar, tk, bg, en, vl, cr, by first | (rw [hm]; done) | (rw [hm]; rfl), by rw [hm]; exact hk⟩
            · intro i xx hi118 hv118 ih118
              refine aw_lload C dX5_odds_118 rfl ?_
              refine aw_lconst C (0 : Int64) dX5_odds_120 (by decide) ?_
              refine aw_lcmp C dX5_odds_121 ?_
              refine aw_if_eq C 143 dX5_odds_122 (by decide) (fun c_122 => ?_) (fun c_122 => ?_)
              · skip
                have hz := (lc0 hv118.2.1).mp c_122
                have hg := gi_r hv118 hz
                refine aw_iload_n C dX5_odds_143 rfl ?_
                refine aw_if_ne C 155 dX5_odds_144 (by decide) (fun c_144 => ?_) (fun c_144 => ?_)
                · skip
                  refine aw_lload C dX5_odds_155 rfl ?_
                  refine aw_lload C dX5_odds_157 rfl ?_
                  refine aw_ldiv C dX5_odds_159 (gi_n hv118 hz) ?_
                  refine aw_pc 160 rfl ?_
                  have hm : m_odds (T, K, ik, F, f, n, s1, s2, s3) u k w = (((lN (12 ^ (ix k))) / (lN xx.1)), (T, K, ik, F, f, n, s1, s2, s3)) := by exact odds_y c_5 c_15 c_24 (by show lN (oP (ix (mMinded T (ix u))) w ^ ix k) = _; rw [exi]; first | exact (odds_r0 (by omega) l2 c_144 hg).symm | exact (odds_r1 (by omega) l2 c_144 hg).symm)
                  exact aw_lret C hr hlk dX5_odds_160 ⟨rl (by rw [hm]), kr, ar, tk, bg, en, vl, cr, by first | (rw [hm]; done) | (rw [hm]; rfl), by rw [hm]; exact hk⟩
                · skip
                  refine aw_lload C dX5_odds_147 rfl ?_
                  refine aw_lload C dX5_odds_149 rfl ?_
                  refine aw_ldiv C dX5_odds_151 (gi_n hv118 hz) ?_
                  refine aw_goto C 160 dX5_odds_152 (by decide) ?_
                  have hm : m_odds (T, K, ik, F, f, n, s1, s2, s3) u k w = (((lN (mi ^ (ix k))) / (lN xx.1)), (T, K, ik, F, f, n, s1, s2, s3)) := by exact odds_y c_5 c_15 c_24 (by show lN (oP (ix (mMinded T (ix u))) w ^ ix k) = _; rw [exi]; first | exact (odds_r0 (by omega) l2 c_144 hg).symm | exact (odds_r1 (by omega) l2 c_144 hg).symm)
                  exact aw_lret C hr hlk dX5_odds_160 ⟨rl (by rw [hm]), kr, ar, tk, bg, en, vl, cr, by first | (rw [hm]; done) | (rw [hm]; rfl), by rw [hm]; exact hk⟩
              · skip
                have hz : ¬ xx.2 = 0 := fun z => c_122 ((lc0 hv118.2.1).mpr z)
                refine aw_lload C dX5_odds_125 rfl ?_
                refine aw_lload C dX5_odds_127 rfl ?_
                refine aw_lrem C dX5_odds_129 (lne0 hv118.2.1 hz) ?_
                refine aw_topv (y := .long (lN (xx.1 % xx.2))) (by rw [pk_lRem hv118.1 (by omega) hv118.2.1]) ?_
                refine aw_lstore C true (lv' := [(0, .ref (y 0)), (1, .int (nI (ix u))), (2, .int (nI (ix k))), (3, .int w), (4, .int (nI mi)), (5, .long (lN (mi ^ (ix k)))), (7, .long (lN (12 ^ (ix k)))), (9, .long (lN xx.1)), (11, .long (lN xx.2)), (13, .long (lN (xx.1 % xx.2)))]) dX5_odds_130 (by decide) rfl rfl ?_
                refine aw_pc 132 rfl ?_
                refine aw_lload C dX5_odds_132 rfl ?_
                refine aw_lstore C false (lv' := [(0, .ref (y 0)), (1, .int (nI (ix u))), (2, .int (nI (ix k))), (3, .int w), (4, .int (nI mi)), (5, .long (lN (mi ^ (ix k)))), (7, .long (lN (12 ^ (ix k)))), (9, .long (lN xx.2)), (11, .long (lN xx.2)), (13, .long (lN (xx.1 % xx.2)))]) dX5_odds_134 (by decide) rfl rfl ?_
                refine aw_lload C dX5_odds_136 rfl ?_
                refine aw_lstore C false (lv' := [(0, .ref (y 0)), (1, .int (nI (ix u))), (2, .int (nI (ix k))), (3, .int w), (4, .int (nI mi)), (5, .long (lN (mi ^ (ix k)))), (7, .long (lN (12 ^ (ix k)))), (9, .long (lN xx.2)), (11, .long (lN (xx.1 % xx.2))), (13, .long (lN (xx.1 % xx.2)))]) dX5_odds_138 (by decide) rfl rfl ?_
                refine aw_goto C 118 dX5_odds_140 (by decide) ?_
                refine aw_sub (lv' := [(0, .ref (y 0)), (1, .int (nI (ix u))), (2, .int (nI (ix k))), (3, .int w), (4, .int (nI mi)), (5, .long (lN (mi ^ (ix k)))), (7, .long (lN (12 ^ (ix k)))), (9, .long (lN xx.2)), (11, .long (lN (xx.1 % xx.2)))]) [0, 1, 2, 3, 4, 5, 6, 7, 8] rfl ?_
                exact aw_eq (by first | rfl | (simp only [itr, c_5, c_15, c_24, c_122])) rfl (by first | rfl | (simp only [itr, c_5, c_15, c_24, c_122] <;> first | done | rfl)) (ih118 (xx.2, (xx.1 % xx.2)) (gi_s hv118 hz))
          · intro i hi82 hv82 ih82
            refine aw_iload C dX5_odds_82 rfl ?_
            refine aw_iload_n C dX5_odds_84 rfl ?_
            refine aw_icmp_ge C 110 dX5_odds_85 (by decide) (fun c_85 => absurd c_85 (nI_ge hi82 (by omega))) (fun c_85 => ?_)
            refine aw_lload C dX5_odds_88 rfl ?_
            refine aw_iload C dX5_odds_90 rfl ?_
            refine aw_pc 92 rfl ?_
            refine aw_i2l C dX5_odds_92 ?_
            refine aw_lmul C dX5_odds_93 ?_
            refine aw_lstore C false (lv' := [(0, .ref (y 0)), (1, .int (nI (ix u))), (2, .int (nI (ix k))), (3, .int w), (4, .int (nI mi)), (5, .long ((lN (mi ^ i)) * ((nI mi).toInt64))), (7, .long (lN (12 ^ i))), (9, .int (nI i))]) dX5_odds_94 (by decide) rfl rfl ?_
            refine aw_lload C dX5_odds_96 rfl ?_
            refine aw_ldc2 C k5_91 dX5_odds_98 ?_
            refine aw_lmul C dX5_odds_101 ?_
            refine aw_lstore C false (lv' := [(0, .ref (y 0)), (1, .int (nI (ix u))), (2, .int (nI (ix k))), (3, .int w), (4, .int (nI mi)), (5, .long ((lN (mi ^ i)) * ((nI mi).toInt64))), (7, .long ((lN (12 ^ i)) * (12 : Int64))), (9, .int (nI i))]) dX5_odds_102 (by decide) rfl rfl ?_
            refine aw_iinc C (nI (i + 1)) dX5_odds_104 rfl (inc_nI _ 1) (by decide) rfl (lv' := [(0, .ref (y 0)), (1, .int (nI (ix u))), (2, .int (nI (ix k))), (3, .int w), (4, .int (nI mi)), (5, .long ((lN (mi ^ i)) * ((nI mi).toInt64))), (7, .long ((lN (12 ^ i)) * (12 : Int64))), (9, .int (nI (i + 1)))]) rfl ?_
            refine aw_goto C 82 dX5_odds_107 (by decide) ?_
            exact aw_eq (by rw [nI_l (by omega), lN_mul, show (12 : Int64) = lN 12 from rfl, lN_mul] <;> rfl) rfl (by first | rfl | (simp only [itr, c_5, c_15, c_24] <;> first | done | rfl)) (ih82 trivial)
        · intro i hi40 hv40 ih40
          refine aw_iload C dX5_odds_40 rfl ?_
          refine aw_pc 42 rfl ?_
          refine aw_bipush C (12 : Int32) dX5_odds_42 (by decide) ?_
          refine aw_icmp_ge C 73 dX5_odds_44 (by decide) (fun c_44 => absurd c_44 (nI_ge (b := 12) hi40 (by decide))) (fun c_44 => ?_)
          refine aw_iload C dX5_odds_47 rfl ?_
          refine aw_aload_n C dX5_odds_49 rfl ?_
          refine aw_iload_n C dX5_odds_50 rfl ?_
          refine aw_iload C dX5_odds_51 rfl ?_
          refine aw_callVp C (As := [.int (nI (ix u)), .int (nI i)]) (c_X5_mindsOf l D cI cC adK adV y T (kr, ar, ik, F, f, n, tk, bg, en, vl, s1, s2, s3, cr) (ix u) (nI i) (by omega)) k4_123 cv_X5_mindsOf 0 4 rfl rfl rfl [0, 1, 2, 3, 4, 5, 6, 7, 8, 9, 10, 11, 12] (by decide) rfl ⟨by decide, by decide⟩ rfl rfl ⟨by decide, by decide⟩ rfl rfl (Nat.le_of_ble_eq_true rfl) dX5_odds_53 ?_
          refine aw_ifeq_b C 63 dX5_odds_56 (by decide) (fun c_56 => ?_) (fun c_56 => ?_)
          · skip
            refine aw_iconst C (0 : Int32) dX5_odds_63 (by decide) ?_
            refine aw_iadd C dX5_odds_64 ?_
            refine aw_pc 65 rfl ?_
            refine aw_istore C false (lv' := [(0, .ref (y 0)), (1, .int (nI (ix u))), (2, .int (nI (ix k))), (3, .int w), (4, .int ((itr (fun g x => bif tMind T (ix u) (nI g) then x + 1 else x) i 0) + (0 : Int32))), (5, .int (nI i))]) dX5_odds_65 (by decide) rfl rfl ?_
            refine aw_iinc C (nI (i + 1)) dX5_odds_67 rfl (inc_nI _ 1) (by decide) rfl (lv' := [(0, .ref (y 0)), (1, .int (nI (ix u))), (2, .int (nI (ix k))), (3, .int w), (4, .int ((itr (fun g x => bif tMind T (ix u) (nI g) then x + 1 else x) i 0) + (0 : Int32))), (5, .int (nI (i + 1)))]) rfl ?_
            refine aw_goto C 40 dX5_odds_70 (by decide) ?_
            exact aw_eq (by first | (rw [itr_s, c_56, cond_true]) | (rw [itr_s, c_56, cond_false, Int32.add_zero])) rfl (by first | rfl | (simp only [itr, c_5, c_15, c_24, c_56] <;> first | done | rfl)) (ih40 trivial)
          · skip
            refine aw_iconst C (1 : Int32) dX5_odds_59 (by decide) ?_
            refine aw_goto C 64 dX5_odds_60 (by decide) ?_
            refine aw_iadd C dX5_odds_64 ?_
            refine aw_istore C false (lv' := [(0, .ref (y 0)), (1, .int (nI (ix u))), (2, .int (nI (ix k))), (3, .int w), (4, .int ((itr (fun g x => bif tMind T (ix u) (nI g) then x + 1 else x) i 0) + (1 : Int32))), (5, .int (nI i))]) dX5_odds_65 (by decide) rfl rfl ?_
            refine aw_iinc C (nI (i + 1)) dX5_odds_67 rfl (inc_nI _ 1) (by decide) rfl (lv' := [(0, .ref (y 0)), (1, .int (nI (ix u))), (2, .int (nI (ix k))), (3, .int w), (4, .int ((itr (fun g x => bif tMind T (ix u) (nI g) then x + 1 else x) i 0) + (1 : Int32))), (5, .int (nI (i + 1)))]) rfl ?_
            refine aw_goto C 40 dX5_odds_70 (by decide) ?_
            exact aw_eq (by first | (rw [itr_s, c_56, cond_true]) | (rw [itr_s, c_56, cond_false, Int32.add_zero])) rfl (by first | rfl | (simp only [itr, c_5, c_15, c_24, c_56] <;> first | done | rfl)) (ih40 trivial)
      · skip
        refine aw_aload_n C dX5_odds_27 rfl ?_
        refine aw_pc 28 rfl ?_
        refine aw_iconst C (0 : Int32) dX5_odds_28 (by decide) ?_
        refine aw_callVd C (As := [.int (0 : Int32)]) (c_X5_no l D cI cC adK adV y T (kr, ar, ik, F, f, n, tk, bg, en, vl, s1, s2, s3, cr) 0 (by decide)) k4_60 cv_X5_no 0 4 rfl rfl rfl [0, 1, 2, 3, 4, 5, 6, 7, 8, 9, 10, 11, 12] (by decide) rfl (wr := ([] : va_W)) [] rfl (by decide) (by decide) [0, 1, 2, 3, 4, 5, 6, 7, 8, 9, 10, 11, 12] (by decide) (ws' := wMo cI cC y (rowOf T) (kr, ar, ik, (upd F 0 (F 0 + 1)), f, n, tk, bg, en, vl, s1, s2, s3, cr)) rfl ⟨by decide, by decide⟩ rfl rfl ⟨by decide, by decide⟩ rfl rfl (Nat.le_of_ble_eq_true rfl) dX5_odds_29 ?_
        refine aw_i2l C dX5_odds_32 ?_
        have hm : m_odds (T, K, ik, F, f, n, s1, s2, s3) u k w = (((fno 0).toInt64), (T, K, ik, (upd F 0 (F 0 + 1)), f, n, s1, s2, s3)) := by exact odds_c c_24
        exact aw_lret C hr hlk dX5_odds_33 ⟨rl (by rw [hm]), kr, ar, tk, bg, en, vl, cr, by first | (rw [hm]; done) | (rw [hm]; rfl), by rw [hm]; exact hk⟩
