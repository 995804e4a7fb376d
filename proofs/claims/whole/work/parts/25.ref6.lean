/-! the reference: when, now, two, best places -/
theorem sg_eta (M : Int32 × Sg) : M = (M.1, (M.2.1, M.2.2.1, M.2.2.2.1, M.2.2.2.2.1, M.2.2.2.2.2.1, M.2.2.2.2.2.2.1, M.2.2.2.2.2.2.2.1, M.2.2.2.2.2.2.2.2.1, M.2.2.2.2.2.2.2.2.2)) := rfl
theorem so_0 (T : Tw) (p q : Nat) : mSo T p q 0 = tMut T 3 p q := rfl
theorem so_1 (T : Tw) (p q : Nat) : mSo T p q 1 = tMut T 4 p q := rfl
theorem so_2 {T : Tw} (h : gOk T) (p q : Nat) : mSo T p q 2 = decide (T.2.2.1 1 p = T.2.2.1 1 q) := far_at h p q
theorem first_c {G : Sg} {c d : Nat → Bool} (h : ∀ k, c k = d k) : mFirst G c = mFirst G d := by rw [show c = d from funext h]

abbrev r_X5_seed : Room := { frames := 0, cells := 0, slots := 0, locals := 0 }
theorem cv_X5_seed : cV yX5_seed cX5_seed 3 (some .int) 1 := ⟨k5_93, k5_94, k5_95, k1_6, by decide, by decide, by decide +kernel⟩
set_option maxHeartbeats 4000000 in
set_option maxRecDepth 100000 in
theorem c_X5_seed (l : Launch) (D : va_G) (cI cC : ClassId) (adK adV : Nat → Nat) (y : Nat → Nat) (T K : Tw) (ik : Bool) (F f : Nat → Int32) (n : Nat) (s1 s2 s3 kr ar : Nat → Int32) (tk : Int32) (bg en : Nat) (vl : Int64) (cr : Nat → Int32) (hk : ik = true → kr = rowOf K) (ho : gOk T) (v : Int32) : FC l yX5_seed (wW yX5_seed cX5_seed 3 (some .int)) r_X5_seed D (tyC cI cC) adK adV (wMo cI cC y (rowOf T) (kr, ar, ik, F, f, n, tk, bg, en, vl, s1, s2, s3, cr)) [.ref (y 0), .int v] 0 0 (pMo cI cC y (m_seed (T, K, ik, F, f, n, s1, s2, s3) v)) := by
  refine FC.of (own := RX5) (by decide) rfl (Nat.le_of_ble_eq_true rfl) ?_
  intro p9 e9 s9 m9 args9 below9 meth9 c9 A9 C hr hlk hmn
  show AW p9 l e9 r_X5_seed s9 m9 args9 below9 meth9 c9 D A9 3 0 0 _ 0 [(0, .ref (y 0)), (1, .int v)] [] _
  have hn := ho.n
  refine aw_aload_n C dX5_seed_0 rfl ?_
  refine aw_getf C 0 4 0 18 inX5 rfl (by decide) rfl k3_234 rfl rfl dX5_seed_1 ?_
  refine aw_iconst C (2 : Int32) dX5_seed_4 (by decide) ?_
  refine aw_ialdN C 1 0 2 rfl rfl rfl (by decide) (by decide) dX5_seed_5 ?_
  refine aw_top (y := (T.2.1 2)) rfl ?_
  refine aw_istore_n C true (lv' := [(0, .ref (y 0)), (1, .int v), (2, .int (T.2.1 2))]) dX5_seed_6 (by decide) rfl rfl ?_
  refine aw_aload_n C dX5_seed_7 rfl ?_
  refine aw_getf C 0 4 0 18 inX5 rfl (by decide) rfl k3_234 rfl rfl dX5_seed_8 ?_
  refine aw_iconst C (2 : Int32) dX5_seed_11 (by decide) ?_
  refine aw_iload_n C dX5_seed_12 rfl ?_
  refine aw_pc 13 rfl ?_
  refine aw_iastN C 1 0 2 rfl rfl rfl (by decide) (by decide) (ws' := wMo cI cC y (upd (rowOf T) 2 v) (kr, ar, ik, F, f, n, tk, bg, en, vl, s1, s2, s3, cr)) rfl dX5_seed_13 ?_
  refine aw_eq (lv' := [(0, .ref (y 0)), (1, .int v), (2, .int (T.2.1 2))]) (ws' := wMo cI cC y (rowOf (sG T 2 v)) (kr, ar, ik, F, f, n, tk, bg, en, vl, s1, s2, s3, cr)) rfl rfl (by rw [row_G2]) ?_
  refine aw_iload_n C dX5_seed_14 rfl ?_
  have hm : m_seed (T, K, ik, F, f, n, s1, s2, s3) v = ((T.2.1 2), ((sG T 2 v), K, ik, F, f, n, s1, s2, s3)) := by rfl
  exact aw_iret C hr hlk dX5_seed_15 ⟨ri (by rw [hm]), kr, ar, tk, bg, en, vl, cr, by first | (rw [hm]; done) | (rw [hm]; rfl), by rw [hm]; exact hk⟩
