/-! BareThursday: told meetings, nights, the tape, sheets -/
def nP (U : Tw) : Int32 := ir (mDraw U) 8
def nStep (U : Tw) : Tw :=
  let U3 := tDraw (tDraw (tDraw U))
  tDay (bif mThere U3 (ir (mDraw U) 8) then mPut (mPut U3 (ix (ir (mDraw U) 8)) 1 (ir (mDraw (tDraw U)) 16)) (ix (ir (mDraw U) 8)) 2 (ir (mDraw (tDraw (tDraw U))) 12) else U3)
theorem nStep_n (U : Tw) : (nStep U).1 = U.1 := by
  unfold nStep
  dsimp only
  rw [day_n]
  cases mThere (tDraw (tDraw (tDraw U))) (ir (mDraw U) 8)
  · rfl
  · exact (put_n _ _ _ _).trans (put_n _ _ _ _)
theorem draw_n (U : Tw) : (tDraw U).1 = U.1 := rfl
theorem nStep_y {U : Tw} (h : mThere (tDraw (tDraw (tDraw U))) (ir (mDraw U) 8) = true) : nStep U = tDay (mPut (mPut (tDraw (tDraw (tDraw U))) (ix (ir (mDraw U) 8)) 1 (ir (mDraw (tDraw U)) 16)) (ix (ir (mDraw U) 8)) 2 (ir (mDraw (tDraw (tDraw U))) 12)) := by
  show tDay (bif mThere (tDraw (tDraw (tDraw U))) (ir (mDraw U) 8) then _ else _) = _
  rw [h]
  rfl
theorem nStep_o {U : Tw} (h : mThere (tDraw (tDraw (tDraw U))) (ir (mDraw U) 8) = false) : nStep U = tDay (tDraw (tDraw (tDraw U))) := by
  show tDay (bif mThere (tDraw (tDraw (tDraw U))) (ir (mDraw U) 8) then _ else _) = _
  rw [h]
  rfl
def tNight (k : Nat) (T : Tw) : Tw := itr (fun _ U => nStep U) k T
def m_night (G : Sg) (k : Int32) : Int32 × Sg := bif !decide (k < 1) && decide (k ≤ 20) then (bif !decide (99999 - G.1.2.1 0 < k) then ((tNight (ix k) G.1).2.1 3, gT G (tNight (ix k) G.1)) else gno G 4) else gno G 0
def tpF (b : Int32) (k n : Nat) (j : Nat) (f : Nat → Int32) : Nat → Int32 := itr (fun j f => upd f (n + j) (us b (8 * (nI (k - j) - 1)) &&& 255)) j f
def m_feed (G : Sg) (b k : Int32) : Int32 × Sg := bif !decide (k < 1) && decide (k ≤ 4) then (bif decide (k ≤ 120 - nI G.2.2.2.2.2.1) then (nI (G.2.2.2.2.2.1 + ix k), gQ G (tpF b (ix k) G.2.2.2.2.2.1 (ix k) G.2.2.2.2.1) (G.2.2.2.2.2.1 + ix k)) else gno G 1) else gno G 0
def ldN (T : Tw) (g : Nat → Int32) (m : Nat) : Nat := fst9 (fun i => !in0 (g i) 12) m
def tLoad (T : Tw) (g : Nat → Int32) (m : Nat) : Tw := itr (fun i U => mPut U i 2 (g i)) m T
theorem load_n (T : Tw) (g : Nat → Int32) (m : Nat) : (tLoad T g m).1 = T.1 := itr_n (fun _ _ => put_n _ _ _ _) T m
def m_load (G : Sg) (s : Int32) : Int32 × Sg := bif in0 s 4 then (bif decide (G.2.2.2.2.2.2.1 (ix s) = 0) then gno G 5 else
  (nI (ldN G.1 (shRow G (ix s)) (min (ix (G.2.2.2.2.2.2.2.1 (ix s))) G.1.1)), gT G (tLoad G.1 (shRow G (ix s)) (ldN G.1 (shRow G (ix s)) (min (ix (G.2.2.2.2.2.2.2.1 (ix s))) G.1.1))))) else gno G 0
def jgC (T : Tw) (g : Nat → Int32) (i : Nat) : Bool := !(mThere T (nI i) && decide (g i = mTrait T i 4))
def m_judge (G : Sg) (s : Int32) : Int32 × Sg := bif in0 s 4 then (bif decide (G.2.2.2.2.2.2.1 (ix s) = 0) then gno G 5 else
  (let L := ix (G.2.2.2.2.2.2.2.1 (ix s)); let j := fst9 (jgC G.1 (shRow G (ix s))) L; (bif decide (j < L) then 1 + nI j else 0, G))) else gno G 0
theorem there_inv {T : Tw} {i : Nat} (hi : i < 2 ^ 31) (hn : T.1 ≤ 8) (h : mThere T (nI i) = true) : i < T.1 := by
  have := there_lt hn h
  rwa [ix_nI hi] at this
theorem min_nI {a b : Nat} (ha : a < 2 ^ 31) (hb : b < 2 ^ 31) : mn (nI a) (nI b) = nI (min a b) := by
  unfold mn
  by_cases h : nI b < nI a
  · rw [if_pos h, Nat.min_eq_right (Nat.le_of_lt ((nI_ltI hb ha).mp h))]
  · rw [if_neg h, Nat.min_eq_left (Nat.not_lt.mp (fun q => h ((nI_ltI hb ha).mpr q)))]
theorem room_le {n : Nat} {k : Int32} (hn : n ≤ 120) (h0 : ¬ k < 0) (h4 : k ≤ 4) (h : k ≤ 120 - nI n) : n + ix k ≤ 120 := by
  obtain ⟨a, ha, rfl⟩ := nI_of h0
  rw [ix_nI ha]
  rw [show (120 : Int32) = nI 120 from rfl, pk_sub hn] at h
  have := (nI_leI ha (by omega)).mp h
  omega
def dv (m : Nat) : Nat := 12 - fst9 (fun j => decide (ir (nI m) (nI (12 - j)) = 0) && decide (ir 12 (nI (12 - j)) = 0)) 11
def fstF (c : Nat → Bool) : Nat → Nat → Nat
  | i, 0 => i
  | i, k + 1 => bif c i then i else fstF c (i + 1) k
theorem fst9_F {c : Nat → Bool} : ∀ (k i : Nat), (∀ j, j < i → c j = false) → fst9 c (i + k) = fstF c i k
  | 0, i, h => fst9_none h
  | k + 1, i, h => by
    cases hc : c i with
    | true =>
      rw [fst9_at h hc (by omega), fstF, hc]
      rfl
    | false =>
      rw [fstF, hc, show i + (k + 1) = i + 1 + k by omega, fst9_F k (i + 1) (all_s h hc)]
      rfl
theorem fst9_z (c : Nat → Bool) (n : Nat) : fst9 c n = fstF c 0 n := by
  have h := fst9_F (c := c) n 0 (fun k hk => absurd hk (Nat.not_lt_zero k))
  rwa [Nat.zero_add] at h
theorem dv_F : ∀ m, m < 13 → 12 - fstF (fun j => decide (ir (nI m) (nI (12 - j)) = 0) && decide (ir 12 (nI (12 - j)) = 0)) 0 11 = Nat.gcd m 12 ∧ 0 < Nat.gcd m 12 ∧ Nat.gcd m 12 ≤ 12 := by decide +kernel
theorem dv_ok (m : Nat) (hm : m < 13) : dv m = Nat.gcd m 12 ∧ 0 < dv m ∧ dv m ≤ 12 := by
  obtain ⟨h1, h2, h3⟩ := dv_F m hm
  have e : dv m = Nat.gcd m 12 := by rw [dv, fst9_z]; exact h1
  exact ⟨e, by rw [e]; exact h2, by rw [e]; exact h3⟩
theorem dec_nI {a : Nat} (h : 0 < a) : nI a + Int32.ofInt (-1) = nI (a - 1) := sb_m1 h
def oP (m : Nat) (w : Int32) : Nat := (if w = 0 then m else 12) / Nat.gcd m 12
theorem minded_le (T : Tw) (q : Nat) : ∀ i, i ≤ 12 → ∃ k : Nat, k ≤ i ∧ itr (fun g x => bif tMind T q (nI g) then x + 1 else x) i (0 : Int32) = nI k
  | 0, _ => ⟨0, Nat.le_refl _, rfl⟩
  | i + 1, h => by
    obtain ⟨k, hk, e⟩ := minded_le T q i (by omega)
    rw [itr_s, e]
    cases tMind T q (nI i)
    · exact ⟨k, by omega, rfl⟩
    · exact ⟨k + 1, by omega, nI_1 k⟩
theorem odds_p0 {m : Nat} {w : Int32} (hm : m < 13) (h : w = 0) : (nI m / nI (dv m)).toInt64 = lN (oP m w) := by
  obtain ⟨h1, h2, h3⟩ := dv_ok m hm
  rw [pk_div (by omega) h2 (by omega), nI_l (Nat.lt_of_le_of_lt (Nat.div_le_self _ _) (by omega)), oP, if_pos h, h1]
theorem odds_p1 {m : Nat} {w : Int32} (hm : m < 13) (h : ¬ w = 0) : ((12 : Int32) / nI (dv m)).toInt64 = lN (oP m w) := by
  obtain ⟨h1, h2, h3⟩ := dv_ok m hm
  rw [show (12 : Int32) = nI 12 from rfl, pk_div (by decide) h2 (by omega), nI_l (Nat.lt_of_le_of_lt (Nat.div_le_self _ _) (by omega)), oP, if_neg h, h1]
def m_odds (G : Sg) (u k w : Int32) : Int64 × Sg := bif mThere G.1 u && (!decide (k < 0) && (decide (k ≤ 17) && (!decide (w < 0) && decide (w ≤ 1)))) then (lN (oP (ix (mMinded G.1 (ix u))) w ^ ix k), G) else ((fno 0).toInt64, (gno G 0).2)

abbrev r_X4_fitting : Room := { frames := 6, cells := 0, slots := 0, locals := 134 }
theorem cv_X4_fitting : cV yX4_fitting cX4_fitting 7 (some .int) 4 := ⟨k2_184, k0_9, k2_185, k1_1, by decide, by decide, by decide +kernel⟩
set_option maxHeartbeats 4000000 in
set_option maxRecDepth 100000 in
theorem c_X4_fitting (l : Launch) (D : va_G) (cI cC : ClassId) (adK adV : Nat → Nat) (z : Nat → Nat) (T R K : Tw) (ik : Bool) (F f : Nat → Int32) (n : Nat) (tk : Int32) (bg en : Nat) (nm : Int32) (s1 s2 s3 : Nat → Int32) (s : Int32) (u : Int32) (w : Int32) (vals : Nat) (hn : T.1 ≤ 8) (hw : vals < 2 ^ 20) (hS : sOk s2) : FC l yX4_fitting (wW yX4_fitting cX4_fitting 7 (some .int)) r_X4_fitting D (tyC cI cC) adK adV (wBa cI z T R K ik F f n tk bg en nm s1 s2 s3) [.ref (z 0), .int s, .int u, .int w, .int (nI vals)] 0 0 (pBa cI z (m_fit (T, K, ik, F, f, n, s1, s2, s3) s u w vals)) := by
  refine FC.of (own := RX4) (by decide) rfl (Nat.le_of_ble_eq_true rfl) ?_
  intro p9 e9 s9 m9 args9 below9 meth9 c9 A9 C hr hlk hmn
  show AW p9 l e9 r_X4_fitting s9 m9 args9 below9 meth9 c9 D A9 7 0 0 _ 0 [(0, .ref (z 0)), (1, .int s), (2, .int u), (3, .int w), (4, .int (nI vals))] [] _
  refine aw_eq (lv' := [(0, .ref (z 0)), (1, .int s), (2, .int u), (3, .int w), (4, .int (nI vals))]) (ws' := fl [wMa cI z ik F, wTo cI (z 2) (zT z) T, wTo cI (z 3) (zR z) R, wTo cI (z 4) (zK z) K, wTp cI (z 5) (z 6) f n tk bg en nm, wSh cI (z 7) (zS z) s1 s2 s3]) rfl rfl rfl ?_
  have J8 : m_fit (T, K, ik, F, f, n, s1, s2, s3) s u w vals = gno (T, K, ik, F, f, n, s1, s2, s3) 0 → AW p9 l e9 r_X4_fitting s9 m9 args9 below9 meth9 c9 D A9 7 0 0 (aQ below9 args9 s9 D A9 0 0 (pBa cI z (m_fit (T, K, ik, F, f, n, s1, s2, s3) s u w vals))) 8 [(0, .ref (z 0))] [] (fl [wMa cI z ik F, wTo cI (z 2) (zT z) T, wTo cI (z 3) (zR z) R, wTo cI (z 4) (zK z) K, wTp cI (z 5) (z 6) f n tk bg en nm, wSh cI (z 7) (zS z) s1 s2 s3]) := by
    intro hj
    refine aw_aload_n C dX4_fitting_8 rfl ?_
    refine aw_iconst C (0 : Int32) dX4_fitting_9 (by decide) ?_
    refine aw_gVd C (As := [.int (0 : Int32)]) (c_X4_finding l D cI cC adK adV z ik F 0 (by decide)) k1_146 cv_X4_finding 3 rfl rfl rfl [0, 1, 2, 3, 4, 5] (fl1 _) rfl 6 rfl (by decide) (gc := [wMa cI z ik F]) (gr := [wTo cI (z 2) (zT z) T, wTo cI (z 3) (zR z) R, wTo cI (z 4) (zK z) K, wTp cI (z 5) (z 6) f n tk bg en nm, wSh cI (z 7) (zS z) s1 s2 s3]) (gc1 := [wMa cI z ik (upd F 0 (F 0 + 1))]) (gs' := [wMa cI z ik (upd F 0 (F 0 + 1)), wTo cI (z 2) (zT z) T, wTo cI (z 3) (zR z) R, wTo cI (z 4) (zK z) K, wTp cI (z 5) (z 6) f n tk bg en nm, wSh cI (z 7) (zS z) s1 s2 s3]) (fl1 _) rfl rfl ⟨by decide, by decide⟩ rfl rfl ⟨by decide, by decide⟩ rfl rfl (Nat.le_of_ble_eq_true rfl) dX4_fitting_10 ?_
    have hm : m_fit (T, K, ik, F, f, n, s1, s2, s3) s u w vals = ((fno 0), (T, K, ik, (upd F 0 (F 0 + 1)), f, n, s1, s2, s3)) := by rw [hj]; rfl
    exact aw_iret C hr hlk dX4_fitting_13 ⟨ri (by rw [hm]), R, tk, bg, en, nm, by rw [hm]; rfl⟩
  have J25 : m_fit (T, K, ik, F, f, n, s1, s2, s3) s u w vals = gno (T, K, ik, F, f, n, s1, s2, s3) 5 → AW p9 l e9 r_X4_fitting s9 m9 args9 below9 meth9 c9 D A9 7 0 0 (aQ below9 args9 s9 D A9 0 0 (pBa cI z (m_fit (T, K, ik, F, f, n, s1, s2, s3) s u w vals))) 25 [(0, .ref (z 0))] [] (fl [wMa cI z ik F, wTo cI (z 2) (zT z) T, wTo cI (z 3) (zR z) R, wTo cI (z 4) (zK z) K, wTp cI (z 5) (z 6) f n tk bg en nm, wSh cI (z 7) (zS z) s1 s2 s3]) := by
    intro hj
    refine aw_aload_n C dX4_fitting_25 rfl ?_
    refine aw_iconst C (5 : Int32) dX4_fitting_26 (by decide) ?_
    refine aw_gVd C (As := [.int (5 : Int32)]) (c_X4_finding l D cI cC adK adV z ik F 5 (by decide)) k1_146 cv_X4_finding 3 rfl rfl rfl [0, 1, 2, 3, 4, 5] (fl1 _) rfl 6 rfl (by decide) (gc := [wMa cI z ik F]) (gr := [wTo cI (z 2) (zT z) T, wTo cI (z 3) (zR z) R, wTo cI (z 4) (zK z) K, wTp cI (z 5) (z 6) f n tk bg en nm, wSh cI (z 7) (zS z) s1 s2 s3]) (gc1 := [wMa cI z ik (upd F 5 (F 5 + 1))]) (gs' := [wMa cI z ik (upd F 5 (F 5 + 1)), wTo cI (z 2) (zT z) T, wTo cI (z 3) (zR z) R, wTo cI (z 4) (zK z) K, wTp cI (z 5) (z 6) f n tk bg en nm, wSh cI (z 7) (zS z) s1 s2 s3]) (fl1 _) rfl rfl ⟨by decide, by decide⟩ rfl rfl ⟨by decide, by decide⟩ rfl rfl (Nat.le_of_ble_eq_true rfl) dX4_fitting_27 ?_
    have hm : m_fit (T, K, ik, F, f, n, s1, s2, s3) s u w vals = ((fno 5), (T, K, ik, (upd F 5 (F 5 + 1)), f, n, s1, s2, s3)) := by rw [hj]; rfl
    exact aw_iret C hr hlk dX4_fitting_30 ⟨ri (by rw [hm]), R, tk, bg, en, nm, by rw [hm]; rfl⟩
  have J42 : m_fit (T, K, ik, F, f, n, s1, s2, s3) s u w vals = gno (T, K, ik, F, f, n, s1, s2, s3) 0 → AW p9 l e9 r_X4_fitting s9 m9 args9 below9 meth9 c9 D A9 7 0 0 (aQ below9 args9 s9 D A9 0 0 (pBa cI z (m_fit (T, K, ik, F, f, n, s1, s2, s3) s u w vals))) 42 [(0, .ref (z 0))] [] (fl [wMa cI z ik F, wTo cI (z 2) (zT z) T, wTo cI (z 3) (zR z) R, wTo cI (z 4) (zK z) K, wTp cI (z 5) (z 6) f n tk bg en nm, wSh cI (z 7) (zS z) s1 s2 s3]) := by
    intro hj
    refine aw_aload_n C dX4_fitting_42 rfl ?_
    refine aw_pc 43 rfl ?_
    refine aw_iconst C (0 : Int32) dX4_fitting_43 (by decide) ?_
    refine aw_gVd C (As := [.int (0 : Int32)]) (c_X4_finding l D cI cC adK adV z ik F 0 (by decide)) k1_146 cv_X4_finding 3 rfl rfl rfl [0, 1, 2, 3, 4, 5] (fl1 _) rfl 6 rfl (by decide) (gc := [wMa cI z ik F]) (gr := [wTo cI (z 2) (zT z) T, wTo cI (z 3) (zR z) R, wTo cI (z 4) (zK z) K, wTp cI (z 5) (z 6) f n tk bg en nm, wSh cI (z 7) (zS z) s1 s2 s3]) (gc1 := [wMa cI z ik (upd F 0 (F 0 + 1))]) (gs' := [wMa cI z ik (upd F 0 (F 0 + 1)), wTo cI (z 2) (zT z) T, wTo cI (z 3) (zR z) R, wTo cI (z 4) (zK z) K, wTp cI (z 5) (z 6) f n tk bg en nm, wSh cI (z 7) (zS z) s1 s2 s3]) (fl1 _) rfl rfl ⟨by decide, by decide⟩ rfl rfl ⟨by decide, by decide⟩ rfl rfl (Nat.le_of_ble_eq_true rfl) dX4_fitting_44 ?_
    have hm : m_fit (T, K, ik, F, f, n, s1, s2, s3) s u w vals = ((fno 0), (T, K, ik, (upd F 0 (F 0 + 1)), f, n, s1, s2, s3)) := by rw [hj]; rfl
    exact aw_iret C hr hlk dX4_fitting_47 ⟨ri (by rw [hm]), R, tk, bg, en, nm, by rw [hm]; rfl⟩
  refine aw_iload_n C dX4_fitting_0 rfl ?_
  refine aw_iconst C (4 : Int32) dX4_fitting_1 (by decide) ?_
  refine aw_callSp C (As := [.int s, .int (4 : Int32)]) (c_X4_isIn l D cI cC adK adV s (4 : Int32)) k1_143 cs_X4_isIn [] (by decide) rfl ⟨by decide, by decide⟩ rfl rfl ⟨by decide, by decide⟩ rfl rfl (Nat.le_of_ble_eq_true rfl) dX4_fitting_2 ?_
  refine aw_ifne_b C 14 dX4_fitting_5 (by decide) (fun c_5 => ?_) (fun c_5 => ?_)
  · skip
    have hs : ix s < 4 := (in0_ix (n := 4) (by decide) c_5).2
    have e1 : s = nI (ix s) := (in0_ix (n := 4) (by decide) c_5).1
    refine aw_eq (lv' := [(0, .ref (z 0)), (1, .int (nI (ix s))), (2, .int u), (3, .int w), (4, .int (nI vals))]) (ws' := fl [wMa cI z ik F, wTo cI (z 2) (zT z) T, wTo cI (z 3) (zR z) R, wTo cI (z 4) (zK z) K, wTp cI (z 5) (z 6) f n tk bg en nm, wSh cI (z 7) (zS z) s1 s2 s3]) (by rw [← e1]) rfl rfl ?_
    refine aw_aload_n C dX4_fitting_14 rfl ?_
    refine aw_getf C 0 3 5 7 inX4 rfl (by decide) rfl k1_122 rfl rfl dX4_fitting_15 ?_
    refine aw_iload_n C dX4_fitting_18 rfl ?_
    refine aw_pc 19 rfl ?_
    refine aw_gVp C (As := [.int (nI (ix s))]) (c_X1_isMissing l D cI cC adK adV (z 7) (zS z) s1 s2 s3 (ix s) (by omega)) k2_186 cv_X1_isMissing 0 rfl rfl rfl [5, 0, 1, 2, 3, 4] (fl1 _) rfl 6 rfl (by decide) ⟨by decide, by decide⟩ rfl rfl ⟨by decide, by decide⟩ rfl rfl (Nat.le_of_ble_eq_true rfl) dX4_fitting_19 ?_
    refine aw_ifeq_b C 31 dX4_fitting_22 (by decide) (fun c_22 => ?_) (fun c_22 => ?_)
    · skip
      refine aw_aload_n C dX4_fitting_31 rfl ?_
      refine aw_getf C 0 3 0 7 inX4 rfl (by decide) rfl k1_117 rfl rfl dX4_fitting_32 ?_
      refine aw_iload_n C dX4_fitting_35 rfl ?_
      refine aw_gVp C (As := [.int u]) (c_X3_isThere l D cI cC adK adV (z 2) (zT z) T u) k1_172 cv_X3_isThere 2 rfl rfl rfl [1, 0, 2, 3, 4, 5] (fl1 _) rfl 6 rfl (by decide) ⟨by decide, by decide⟩ rfl rfl ⟨by decide, by decide⟩ rfl rfl (Nat.le_of_ble_eq_true rfl) dX4_fitting_36 ?_
      refine aw_ifne_b C 48 dX4_fitting_39 (by decide) (fun c_39 => ?_) (fun c_39 => ?_)
      · skip
        have l1 := there_lt hn c_39
        have e2 : u = nI (ix u) := there_ix c_39
        refine aw_eq (lv' := [(0, .ref (z 0)), (1, .int (nI (ix s))), (2, .int (nI (ix u))), (3, .int w), (4, .int (nI vals))]) (ws' := fl [wMa cI z ik F, wTo cI (z 2) (zT z) T, wTo cI (z 3) (zR z) R, wTo cI (z 4) (zK z) K, wTp cI (z 5) (z 6) f n tk bg en nm, wSh cI (z 7) (zS z) s1 s2 s3]) (by rw [← e2]) rfl rfl ?_
        refine aw_iconst C (0 : Int32) dX4_fitting_48 (by decide) ?_
        refine aw_istore C true (lv' := [(0, .ref (z 0)), (1, .int (nI (ix s))), (2, .int (nI (ix u))), (3, .int w), (4, .int (nI vals)), (5, .int (0 : Int32))]) dX4_fitting_49 (by decide) rfl rfl ?_
        refine aw_iconst C (0 : Int32) dX4_fitting_51 (by decide) ?_
        refine aw_pc 52 rfl ?_
        refine aw_istore C true (lv' := [(0, .ref (z 0)), (1, .int (nI (ix s))), (2, .int (nI (ix u))), (3, .int w), (4, .int (nI vals)), (5, .int (0 : Int32)), (6, .int (0 : Int32))]) dX4_fitting_52 (by decide) rfl rfl ?_
        refine aw_eq (lv' := [(0, .ref (z 0)), (1, .int (nI (ix s))), (2, .int (nI (ix u))), (3, .int w), (4, .int (nI vals)), (5, .int (setBy (fun v => mTells (mPut T (ix u) w (nI v)) (ix u) (fun i => s3 (ix s * 40 + i)) (ix (s2 (ix s)))) 0)), (6, .int (nI 0))]) (ws' := fl [wMa cI z ik F, wTo cI (z 2) (zT z) T, wTo cI (z 3) (zR z) ((R, tk, bg, en, nm).1), wTo cI (z 4) (zK z) K, wTp cI (z 5) (z 6) f n ((R, tk, bg, en, nm).2.1) ((R, tk, bg, en, nm).2.2.1) ((R, tk, bg, en, nm).2.2.2.1) ((R, tk, bg, en, nm).2.2.2.2), wSh cI (z 7) (zS z) s1 s2 s3]) (by first | rfl | (simp only [itr, c_5, c_22, c_39])) rfl (by rfl) ?_
        refine aw_loopE (σ := Tw × Int32 × Nat × Nat × Int32) (LV := fun v0 x1 => [(0, .ref (z 0)), (1, .int (nI (ix s))), (2, .int (nI (ix u))), (3, .int w), (4, .int (nI vals)), (5, .int (setBy (fun v => mTells (mPut T (ix u) w (nI v)) (ix u) (fun i => s3 (ix s * 40 + i)) (ix (s2 (ix s)))) v0)), (6, .int (nI v0))]) (WS := fun v0 x1 => fl [wMa cI z ik F, wTo cI (z 2) (zT z) T, wTo cI (z 3) (zR z) x1.1, wTo cI (z 4) (zK z) K, wTp cI (z 5) (z 6) f n x1.2.1 x1.2.2.1 x1.2.2.2.1 x1.2.2.2.2, wSh cI (z 7) (zS z) s1 s2 s3]) vals (Inv := fun _ _ => True) trivial ?_ ?_
        · intro x1 hv54
          refine aw_iload C dX4_fitting_54 rfl ?_
          refine aw_iload C dX4_fitting_56 rfl ?_
          refine aw_icmp_ge C 107 dX4_fitting_58 (by decide) (fun c_58 => ?_) (fun c_58 => absurd c_58 (fun z => z (Int32.le_refl _)))
          refine aw_iload C dX4_fitting_107 rfl ?_
          have hm : m_fit (T, K, ik, F, f, n, s1, s2, s3) s u w vals = ((setBy (fun v => mTells (mPut T (ix u) w (nI v)) (ix u) (fun i => s3 (ix s * 40 + i)) (ix (s2 (ix s)))) vals), (T, K, ik, F, f, n, s1, s2, s3)) := by simp only [m_fit, c_5, c_22, c_39, decide_true, decide_false, Bool.not_true, Bool.not_false, Bool.true_and, Bool.false_and, Bool.and_true, Bool.and_false, Bool.true_or, Bool.false_or, Bool.or_true, Bool.or_false, cond_true, cond_false, eq_self, if_true, if_false, ite_true, ite_false] <;> rfl
          exact aw_iret C hr hlk dX4_fitting_109 ⟨ri (by rw [hm]), x1.1, x1.2.1, x1.2.2.1, x1.2.2.2.1, x1.2.2.2.2, by rw [hm]; rfl⟩
        · intro v0 x1 hi54 hv54 ih54
          refine aw_iload C dX4_fitting_54 rfl ?_
          refine aw_iload C dX4_fitting_56 rfl ?_
          refine aw_icmp_ge C 107 dX4_fitting_58 (by decide) (fun c_58 => absurd c_58 (nI_ge hi54 (by omega))) (fun c_58 => ?_)
          refine aw_aload_n C dX4_fitting_61 rfl ?_
          refine aw_pc 62 rfl ?_
          refine aw_getf C 0 3 1 7 inX4 rfl (by decide) rfl k1_118 rfl rfl dX4_fitting_62 ?_
          refine aw_aload_n C dX4_fitting_65 rfl ?_
          refine aw_getf C 0 3 0 7 inX4 rfl (by decide) rfl k1_117 rfl rfl dX4_fitting_66 ?_
          refine aw_gVdv C (As := [.ref (z 2)]) (c_X3_become l D cI cC adK adV (z 3) (z 2) (zR z) (zT z) x1.1 T) k2_113 cv_X3_become 2 rfl rfl rfl [2, 1, 0, 3, 4, 5] (fl2 _ _) rfl 6 rfl (by decide) (gc := [wTo cI (z 3) (zR z) x1.1, wTo cI (z 2) (zT z) T]) (gr := [wMa cI z ik F, wTo cI (z 4) (zK z) K, wTp cI (z 5) (z 6) f n x1.2.1 x1.2.2.1 x1.2.2.2.1 x1.2.2.2.2, wSh cI (z 7) (zS z) s1 s2 s3]) (gc1 := [wTo cI (z 3) (zR z) T, wTo cI (z 2) (zT z) T]) (gs' := [wMa cI z ik F, wTo cI (z 2) (zT z) T, wTo cI (z 3) (zR z) T, wTo cI (z 4) (zK z) K, wTp cI (z 5) (z 6) f n x1.2.1 x1.2.2.1 x1.2.2.2.1 x1.2.2.2.2, wSh cI (z 7) (zS z) s1 s2 s3]) (fl2 _ _) rfl rfl ⟨by decide, by decide⟩ rfl rfl ⟨by decide, by decide⟩ rfl rfl (Nat.le_of_ble_eq_true rfl) dX4_fitting_69 ?_
          refine aw_aload_n C dX4_fitting_72 rfl ?_
          refine aw_getf C 0 3 1 7 inX4 rfl (by decide) rfl k1_118 rfl rfl dX4_fitting_73 ?_
          refine aw_iload_n C dX4_fitting_76 rfl ?_
          refine aw_iload_n C dX4_fitting_77 rfl ?_
          refine aw_iload C dX4_fitting_78 rfl ?_
          refine aw_gVdv C (As := [.int (nI (ix u)), .int w, .int (nI v0)]) (c_X3_put l D cI cC adK adV (z 3) (zR z) T (ix u) w (nI v0) hn l1) k1_215 cv_X3_put 2 rfl rfl rfl [2, 0, 1, 3, 4, 5] (fl1 _) rfl 6 rfl (by decide) (gc := [wTo cI (z 3) (zR z) T]) (gr := [wMa cI z ik F, wTo cI (z 2) (zT z) T, wTo cI (z 4) (zK z) K, wTp cI (z 5) (z 6) f n x1.2.1 x1.2.2.1 x1.2.2.2.1 x1.2.2.2.2, wSh cI (z 7) (zS z) s1 s2 s3]) (gc1 := [wTo cI (z 3) (zR z) (mPut T (ix u) w (nI v0))]) (gs' := [wMa cI z ik F, wTo cI (z 2) (zT z) T, wTo cI (z 3) (zR z) (mPut T (ix u) w (nI v0)), wTo cI (z 4) (zK z) K, wTp cI (z 5) (z 6) f n x1.2.1 x1.2.2.1 x1.2.2.2.1 x1.2.2.2.2, wSh cI (z 7) (zS z) s1 s2 s3]) (fl1 _) rfl rfl ⟨by decide, by decide⟩ rfl rfl ⟨by decide, by decide⟩ rfl rfl (Nat.le_of_ble_eq_true rfl) dX4_fitting_80 ?_
          refine aw_pc 83 rfl ?_
          refine aw_aload_n C dX4_fitting_83 rfl ?_
          refine aw_iload_n C dX4_fitting_84 rfl ?_
          refine aw_iload_n C dX4_fitting_85 rfl ?_
          refine aw_gV C (As := [.int (nI (ix s)), .int (nI (ix u))]) (c_X4_meetsAsTold l D cI cC adK adV z T (mPut T (ix u) w (nI v0)) K ik F f n x1.2.1 x1.2.2.1 x1.2.2.2.1 x1.2.2.2.2 s1 s2 s3 (ix s) (ix u) (by rw [put_n]; exact hn) (by rw [put_n]; exact l1) hs hS) k2_190 cv_X4_meetsAsTold 3 rfl rfl rfl [0, 1, 2, 3, 4, 5] (gc := [wMa cI z ik F, wTo cI (z 2) (zT z) T, wTo cI (z 3) (zR z) (mPut T (ix u) w (nI v0)), wTo cI (z 4) (zK z) K, wTp cI (z 5) (z 6) f n x1.2.1 x1.2.2.1 x1.2.2.2.1 x1.2.2.2.2, wSh cI (z 7) (zS z) s1 s2 s3]) (gr := []) rfl rfl 6 rfl (by decide) ⟨by decide, by decide⟩ rfl rfl ⟨by decide, by decide⟩ rfl rfl (Nat.le_of_ble_eq_true rfl) dX4_fitting_86 ?_
          rintro _ _ ⟨rfl, R2, tk2, bg2, en2, nm2, rfl⟩
          refine aw_eq (lv' := [(0, .ref (z 0)), (1, .int (nI (ix s))), (2, .int (nI (ix u))), (3, .int w), (4, .int (nI vals)), (5, .int (setBy (fun v => mTells (mPut T (ix u) w (nI v)) (ix u) (fun i => s3 (ix s * 40 + i)) (ix (s2 (ix s)))) v0)), (6, .int (nI v0))]) (st' := [.int (b2 (mTells (mPut T (ix u) w (nI v0)) (ix u) (fun i => s3 ((ix s) * 40 + i)) (ix (s2 (ix s)))))]) (ws' := fl [wMa cI z ik F, wTo cI (z 2) (zT z) T, wTo cI (z 3) (zR z) R2, wTo cI (z 4) (zK z) K, wTp cI (z 5) (z 6) f n tk2 bg2 en2 nm2, wSh cI (z 7) (zS z) s1 s2 s3]) rfl rfl rfl ?_
          refine aw_ifeq_b C 101 dX4_fitting_89 (by decide) (fun c_89 => ?_) (fun c_89 => ?_)
          · skip
            refine aw_iinc C (nI (v0 + 1)) dX4_fitting_101 rfl (inc_nI _ 1) (by decide) rfl (lv' := [(0, .ref (z 0)), (1, .int (nI (ix s))), (2, .int (nI (ix u))), (3, .int w), (4, .int (nI vals)), (5, .int (setBy (fun v => mTells (mPut T (ix u) w (nI v)) (ix u) (fun i => s3 (ix s * 40 + i)) (ix (s2 (ix s)))) v0)), (6, .int (nI (v0 + 1)))]) rfl ?_
            refine aw_goto C 54 dX4_fitting_104 (by decide) ?_
            exact aw_eq (by simp only [setBy, itr_s, c_89, cond_true, cond_false] <;> rfl) rfl (by first | rfl | (simp only [itr, c_5, c_22, c_39, c_89] <;> first | done | rfl)) (ih54 (R2, tk2, bg2, en2, nm2) trivial)
          · skip
            refine aw_iload C dX4_fitting_92 rfl ?_
            refine aw_iconst C (1 : Int32) dX4_fitting_94 (by decide) ?_
            refine aw_iload C dX4_fitting_95 rfl ?_
            refine aw_pc 97 rfl ?_
            refine aw_ishl C dX4_fitting_97 ?_
            refine aw_ior C dX4_fitting_98 ?_
            refine aw_istore C false (lv' := [(0, .ref (z 0)), (1, .int (nI (ix s))), (2, .int (nI (ix u))), (3, .int w), (4, .int (nI vals)), (5, .int ((setBy (fun v => mTells (mPut T (ix u) w (nI v)) (ix u) (fun i => s3 (ix s * 40 + i)) (ix (s2 (ix s)))) v0) ||| ((1 : Int32) <<< ((nI v0) &&& 31)))), (6, .int (nI v0))]) dX4_fitting_99 (by decide) rfl rfl ?_
            refine aw_iinc C (nI (v0 + 1)) dX4_fitting_101 rfl (inc_nI _ 1) (by decide) rfl (lv' := [(0, .ref (z 0)), (1, .int (nI (ix s))), (2, .int (nI (ix u))), (3, .int w), (4, .int (nI vals)), (5, .int ((setBy (fun v => mTells (mPut T (ix u) w (nI v)) (ix u) (fun i => s3 (ix s * 40 + i)) (ix (s2 (ix s)))) v0) ||| ((1 : Int32) <<< ((nI v0) &&& 31)))), (6, .int (nI (v0 + 1)))]) rfl ?_
            refine aw_goto C 54 dX4_fitting_104 (by decide) ?_
            exact aw_eq (by simp only [setBy, itr_s, c_89, cond_true, cond_false] <;> rfl) rfl (by first | rfl | (simp only [itr, c_5, c_22, c_39, c_89] <;> first | done | rfl)) (ih54 (R2, tk2, bg2, en2, nm2) trivial)
      · skip
        refine aw_sub (lv' := [(0, .ref (z 0))]) [0] rfl ?_
        exact J42 (by simp only [m_fit, c_5, c_22, c_39, decide_true, decide_false, Bool.not_true, Bool.not_false, Bool.true_and, Bool.false_and, Bool.and_true, Bool.and_false, Bool.true_or, Bool.false_or, Bool.or_true, Bool.or_false, cond_true, cond_false, eq_self, if_true, if_false, ite_true, ite_false] <;> rfl)
    · skip
      refine aw_sub (lv' := [(0, .ref (z 0))]) [0] rfl ?_
      exact J25 (by simp only [m_fit, c_5, c_22, decide_true, decide_false, Bool.not_true, Bool.not_false, Bool.true_and, Bool.false_and, Bool.and_true, Bool.and_false, Bool.true_or, Bool.false_or, Bool.or_true, Bool.or_false, cond_true, cond_false, eq_self, if_true, if_false, ite_true, ite_false] <;> rfl)
  · skip
    refine aw_sub (lv' := [(0, .ref (z 0))]) [0] rfl ?_
    exact J8 (by simp only [m_fit, c_5, decide_true, decide_false, Bool.not_true, Bool.not_false, Bool.true_and, Bool.false_and, Bool.and_true, Bool.and_false, Bool.true_or, Bool.false_or, Bool.or_true, Bool.or_false, cond_true, cond_false, eq_self, if_true, if_false, ite_true, ite_false] <;> rfl)
abbrev r_X4_fits : Room := { frames := 7, cells := 0, slots := 0, locals := 160 }
theorem cv_X4_fits : cV yX4_fits cX4_fits 3 (some .int) 2 := ⟨k2_179, k2_180, k2_181, k1_1, by decide, by decide, by decide +kernel⟩
set_option maxHeartbeats 4000000 in
set_option maxRecDepth 100000 in
theorem c_X4_fits (l : Launch) (D : va_G) (cI cC : ClassId) (adK adV : Nat → Nat) (z : Nat → Nat) (T R K : Tw) (ik : Bool) (F f : Nat → Int32) (n : Nat) (tk : Int32) (bg en : Nat) (nm : Int32) (s1 s2 s3 : Nat → Int32) (s : Int32) (u : Int32) (hn : T.1 ≤ 8) (hS : sOk s2) : FC l yX4_fits (wW yX4_fits cX4_fits 3 (some .int)) r_X4_fits D (tyC cI cC) adK adV (wBa cI z T R K ik F f n tk bg en nm s1 s2 s3) [.ref (z 0), .int s, .int u] 0 0 (pBa cI z (m_fits (T, K, ik, F, f, n, s1, s2, s3) s u)) := by
  refine FC.of (own := RX4) (by decide) rfl (Nat.le_of_ble_eq_true rfl) ?_
  intro p9 e9 s9 m9 args9 below9 meth9 c9 A9 C hr hlk hmn
  show AW p9 l e9 r_X4_fits s9 m9 args9 below9 meth9 c9 D A9 3 0 0 _ 0 [(0, .ref (z 0)), (1, .int s), (2, .int u)] [] _
  refine aw_eq (lv' := [(0, .ref (z 0)), (1, .int s), (2, .int u)]) (ws' := fl [wMa cI z ik F, wTo cI (z 2) (zT z) T, wTo cI (z 3) (zR z) R, wTo cI (z 4) (zK z) K, wTp cI (z 5) (z 6) f n tk bg en nm, wSh cI (z 7) (zS z) s1 s2 s3]) rfl rfl rfl ?_
  refine aw_aload_n C dX4_fits_0 rfl ?_
  refine aw_iload_n C dX4_fits_1 rfl ?_
  refine aw_iload_n C dX4_fits_2 rfl ?_
  refine aw_iconst C (2 : Int32) dX4_fits_3 (by decide) ?_
  refine aw_bipush C (12 : Int32) dX4_fits_4 (by decide) ?_
  refine aw_gV C (As := [.int s, .int u, .int (2 : Int32), .int (12 : Int32)]) (c_X4_fitting l D cI cC adK adV z T R K ik F f n tk bg en nm s1 s2 s3 s u (2 : Int32) 12 hn (by decide) hS) k2_182 cv_X4_fitting 3 rfl rfl rfl [0, 1, 2, 3, 4, 5] (gc := [wMa cI z ik F, wTo cI (z 2) (zT z) T, wTo cI (z 3) (zR z) R, wTo cI (z 4) (zK z) K, wTp cI (z 5) (z 6) f n tk bg en nm, wSh cI (z 7) (zS z) s1 s2 s3]) (gr := []) rfl rfl 6 rfl (by decide) ⟨by decide, by decide⟩ rfl rfl ⟨by decide, by decide⟩ rfl rfl (Nat.le_of_ble_eq_true rfl) dX4_fits_6 ?_
  rintro _ _ ⟨rfl, R9, tk9, bg9, en9, nm9, rfl⟩
  exact aw_iret C hr hlk dX4_fits_9 ⟨rfl, R9, tk9, bg9, en9, nm9, rfl⟩
abbrev r_X4_kinds : Room := { frames := 7, cells := 0, slots := 0, locals := 160 }
theorem cv_X4_kinds : cV yX4_kinds cX4_kinds 3 (some .int) 2 := ⟨k2_203, k2_204, k2_205, k1_1, by decide, by decide, by decide +kernel⟩
set_option maxHeartbeats 4000000 in
set_option maxRecDepth 100000 in
theorem c_X4_kinds (l : Launch) (D : va_G) (cI cC : ClassId) (adK adV : Nat → Nat) (z : Nat → Nat) (T R K : Tw) (ik : Bool) (F f : Nat → Int32) (n : Nat) (tk : Int32) (bg en : Nat) (nm : Int32) (s1 s2 s3 : Nat → Int32) (s : Int32) (u : Int32) (hn : T.1 ≤ 8) (hS : sOk s2) : FC l yX4_kinds (wW yX4_kinds cX4_kinds 3 (some .int)) r_X4_kinds D (tyC cI cC) adK adV (wBa cI z T R K ik F f n tk bg en nm s1 s2 s3) [.ref (z 0), .int s, .int u] 0 0 (pBa cI z (m_kinds (T, K, ik, F, f, n, s1, s2, s3) s u)) := by
  refine FC.of (own := RX4) (by decide) rfl (Nat.le_of_ble_eq_true rfl) ?_
  intro p9 e9 s9 m9 args9 below9 meth9 c9 A9 C hr hlk hmn
  show AW p9 l e9 r_X4_kinds s9 m9 args9 below9 meth9 c9 D A9 3 0 0 _ 0 [(0, .ref (z 0)), (1, .int s), (2, .int u)] [] _
  refine aw_eq (lv' := [(0, .ref (z 0)), (1, .int s), (2, .int u)]) (ws' := fl [wMa cI z ik F, wTo cI (z 2) (zT z) T, wTo cI (z 3) (zR z) R, wTo cI (z 4) (zK z) K, wTp cI (z 5) (z 6) f n tk bg en nm, wSh cI (z 7) (zS z) s1 s2 s3]) rfl rfl rfl ?_
  refine aw_aload_n C dX4_kinds_0 rfl ?_
  refine aw_iload_n C dX4_kinds_1 rfl ?_
  refine aw_iload_n C dX4_kinds_2 rfl ?_
  refine aw_iconst C (0 : Int32) dX4_kinds_3 (by decide) ?_
  refine aw_bipush C (7 : Int32) dX4_kinds_4 (by decide) ?_
  refine aw_gV C (As := [.int s, .int u, .int (0 : Int32), .int (7 : Int32)]) (c_X4_fitting l D cI cC adK adV z T R K ik F f n tk bg en nm s1 s2 s3 s u (0 : Int32) 7 hn (by decide) hS) k2_182 cv_X4_fitting 3 rfl rfl rfl [0, 1, 2, 3, 4, 5] (gc := [wMa cI z ik F, wTo cI (z 2) (zT z) T, wTo cI (z 3) (zR z) R, wTo cI (z 4) (zK z) K, wTp cI (z 5) (z 6) f n tk bg en nm, wSh cI (z 7) (zS z) s1 s2 s3]) (gr := []) rfl rfl 6 rfl (by decide) ⟨by decide, by decide⟩ rfl rfl ⟨by decide, by decide⟩ rfl rfl (Nat.le_of_ble_eq_true rfl) dX4_kinds_6 ?_
  rintro _ _ ⟨rfl, R9, tk9, bg9, en9, nm9, rfl⟩
  exact aw_iret C hr hlk dX4_kinds_9 ⟨rfl, R9, tk9, bg9, en9, nm9, rfl⟩
abbrev r_X4_divisorWithGuises : Room := { frames := 0, cells := 0, slots := 0, locals := 0 }
theorem cs_X4_divisorWithGuises : cS yX4_divisorWithGuises cX4_divisorWithGuises 2 (some .int) 1 := ⟨k2_224, k2_225, k1_1, by decide, by decide, by decide +kernel⟩
set_option maxHeartbeats 4000000 in
set_option maxRecDepth 100000 in
theorem c_X4_divisorWithGuises (l : Launch) (D : va_G) (cI cC : ClassId) (adK adV : Nat → Nat) (m : Nat) (hm : m < 13) : FC l yX4_divisorWithGuises (wW yX4_divisorWithGuises cX4_divisorWithGuises 2 (some .int)) r_X4_divisorWithGuises D (tyC cI cC) adK adV (([] : va_W)) [.int (nI m)] 0 0 (fQ (some (.int (nI (dv m)))) (([] : va_W))) := by
  refine FC.of (own := RX4) (by decide) rfl (Nat.le_of_ble_eq_true rfl) ?_
  intro p9 e9 s9 m9 args9 below9 meth9 c9 A9 C hr hlk hmn
  show AW p9 l e9 r_X4_divisorWithGuises s9 m9 args9 below9 meth9 c9 D A9 2 0 0 _ 0 [(0, .int (nI m))] [] _
  refine aw_bipush C (12 : Int32) dX4_divisorWithGuises_0 (by decide) ?_
  refine aw_istore_n C true (lv' := [(0, .int (nI m)), (1, .int (12 : Int32))]) dX4_divisorWithGuises_2 (by decide) rfl rfl ?_
  refine aw_eq (lv' := [(0, .int (nI m)), (1, .int (nI (12 - 0)))]) (ws' := ([] : va_W)) (by first | rfl | (simp only [itr])) rfl (by rfl) ?_
  refine aw_loop (LV := fun j => [(0, .int (nI m)), (1, .int (nI (12 - j)))]) (WS := fun j => ([] : va_W)) 11 (Inv := fun i => ∀ j, j < i → (decide (ir (nI m) (nI (12 - j)) = 0) && decide (ir 12 (nI (12 - j)) = 0)) = false) (fun k hk => absurd hk (Nat.not_lt_zero k)) ?_ ?_
  · intro hv3
    refine aw_iload_n C dX4_divisorWithGuises_3 rfl ?_
    refine aw_iconst C (1 : Int32) dX4_divisorWithGuises_4 (by decide) ?_
    refine aw_icmp_le C 29 dX4_divisorWithGuises_5 (by decide) (fun c_5 => ?_) (fun c_5 => absurd c_5 (fun z => z (by decide)))
    refine aw_iconst C (1 : Int32) dX4_divisorWithGuises_29 (by decide) ?_
    exact aw_iret C hr hlk dX4_divisorWithGuises_30 ⟨ri (by rw [dv, fst9_none hv3] <;> rfl), by rfl⟩
  · intro j hi3 hv3 ih3
    refine aw_iload_n C dX4_divisorWithGuises_3 rfl ?_
    refine aw_iconst C (1 : Int32) dX4_divisorWithGuises_4 (by decide) ?_
    refine aw_pc 5 rfl ?_
    refine aw_icmp_le C 29 dX4_divisorWithGuises_5 (by decide) (fun c_5 => absurd c_5 (nI_ge (a := 1) (by omega) (by omega))) (fun c_5 => ?_)
    refine aw_iload_n C dX4_divisorWithGuises_8 rfl ?_
    refine aw_iload_n C dX4_divisorWithGuises_9 rfl ?_
    refine aw_irem C dX4_divisorWithGuises_10 (nI_ne0 (by omega) (by omega)) ?_
    refine aw_if_ne C 23 dX4_divisorWithGuises_11 (by decide) (fun c_11 => ?_) (fun c_11 => ?_)
    · skip
      refine aw_iinc C (nI (12 - (j + 1))) dX4_divisorWithGuises_23 rfl (dec_nI (by omega)) (by decide) rfl (lv' := [(0, .int (nI m)), (1, .int (nI (12 - (j + 1))))]) rfl ?_
      refine aw_goto C 3 dX4_divisorWithGuises_26 (by decide) ?_
      exact aw_eq (by first | rfl | (simp only [itr, c_11])) rfl (by first | rfl | (simp only [itr, c_11] <;> first | done | rfl)) (ih3 (all_s hv3 (by simp only [itr, c_11, decide_true, decide_false, Bool.not_true, Bool.not_false, Bool.true_and, Bool.false_and, Bool.and_true, Bool.and_false, Bool.true_or, Bool.false_or, Bool.or_true, Bool.or_false, cond_true, cond_false, eq_self, if_true, if_false, ite_true, ite_false])))
    · skip
      refine aw_bipush C (12 : Int32) dX4_divisorWithGuises_14 (by decide) ?_
      refine aw_iload_n C dX4_divisorWithGuises_16 rfl ?_
      refine aw_irem C dX4_divisorWithGuises_17 (nI_ne0 (by omega) (by omega)) ?_
      refine aw_pc 18 rfl ?_
      refine aw_if_ne C 23 dX4_divisorWithGuises_18 (by decide) (fun c_18 => ?_) (fun c_18 => ?_)
      · skip
        refine aw_iinc C (nI (12 - (j + 1))) dX4_divisorWithGuises_23 rfl (dec_nI (by omega)) (by decide) rfl (lv' := [(0, .int (nI m)), (1, .int (nI (12 - (j + 1))))]) rfl ?_
        refine aw_goto C 3 dX4_divisorWithGuises_26 (by decide) ?_
        exact aw_eq (by first | rfl | (simp only [itr, c_11, c_18])) rfl (by first | rfl | (simp only [itr, c_11, c_18] <;> first | done | rfl)) (ih3 (all_s hv3 (by simp only [itr, c_11, c_18, decide_true, decide_false, Bool.not_true, Bool.not_false, Bool.true_and, Bool.false_and, Bool.and_true, Bool.and_false, Bool.true_or, Bool.false_or, Bool.or_true, Bool.or_false, cond_true, cond_false, eq_self, if_true, if_false, ite_true, ite_false])))
      · skip
        refine aw_iload_n C dX4_divisorWithGuises_21 rfl ?_
        exact aw_iret C hr hlk dX4_divisorWithGuises_22 ⟨ri (by rw [dv, fst9_at hv3 (by simp only [c_11, c_18, decide_true, decide_false, Bool.not_true, Bool.not_false, Bool.true_and, Bool.false_and, Bool.and_true, Bool.and_false, Bool.true_or, Bool.false_or, Bool.or_true, Bool.or_false, cond_true, cond_false, eq_self, if_true, if_false, ite_true, ite_false]) hi3]), by rfl⟩

abbrev r_X4_odds : Room := { frames := 3, cells := 0, slots := 0, locals := 70 }
theorem cv_X4_odds : cV yX4_odds cX4_odds 11 (some .long) 3 := ⟨k2_216, k2_217, k2_218, k1_1, by decide, by decide, by decide +kernel⟩
set_option maxHeartbeats 4000000 in
set_option maxRecDepth 100000 in
theorem c_X4_odds (l : Launch) (D : va_G) (cI cC : ClassId) (adK adV : Nat → Nat) (z : Nat → Nat) (T R K : Tw) (ik : Bool) (F f : Nat → Int32) (n : Nat) (tk : Int32) (bg en : Nat) (nm : Int32) (s1 s2 s3 : Nat → Int32) (u : Int32) (k : Int32) (w : Int32) (hn : T.1 ≤ 8) : FC l yX4_odds (wW yX4_odds cX4_odds 11 (some .long)) r_X4_odds D (tyC cI cC) adK adV (wBa cI z T R K ik F f n tk bg en nm s1 s2 s3) [.ref (z 0), .int u, .int k, .int w] 0 0 (pBaL cI z (m_odds (T, K, ik, F, f, n, s1, s2, s3) u k w)) := by
  refine FC.of (own := RX4) (by decide) rfl (Nat.le_of_ble_eq_true rfl) ?_
  intro p9 e9 s9 m9 args9 below9 meth9 c9 A9 C hr hlk hmn
  show AW p9 l e9 r_X4_odds s9 m9 args9 below9 meth9 c9 D A9 11 0 0 _ 0 [(0, .ref (z 0)), (1, .int u), (2, .int k), (3, .int w)] [] _
  refine aw_eq (lv' := [(0, .ref (z 0)), (1, .int u), (2, .int k), (3, .int w)]) (ws' := fl [wMa cI z ik F, wTo cI (z 2) (zT z) T, wTo cI (z 3) (zR z) R, wTo cI (z 4) (zK z) K, wTp cI (z 5) (z 6) f n tk bg en nm, wSh cI (z 7) (zS z) s1 s2 s3]) rfl rfl rfl ?_
  refine aw_aload_n C dX4_odds_0 rfl ?_
  refine aw_getf C 0 3 0 7 inX4 rfl (by decide) rfl k1_117 rfl rfl dX4_odds_1 ?_
  refine aw_iload_n C dX4_odds_4 rfl ?_
  refine aw_gVp C (As := [.int u]) (c_X3_isThere l D cI cC adK adV (z 2) (zT z) T u) k1_172 cv_X3_isThere 2 rfl rfl rfl [1, 0, 2, 3, 4, 5] (fl1 _) rfl 6 rfl (by decide) ⟨by decide, by decide⟩ rfl rfl ⟨by decide, by decide⟩ rfl rfl (Nat.le_of_ble_eq_true rfl) dX4_odds_5 ?_
  refine aw_ifeq_b C 30 dX4_odds_8 (by decide) (fun c_8 => ?_) (fun c_8 => ?_)
  · skip
    refine aw_aload_n C dX4_odds_30 rfl ?_
    refine aw_iconst C (0 : Int32) dX4_odds_31 (by decide) ?_
    refine aw_gVd C (As := [.int (0 : Int32)]) (c_X4_finding l D cI cC adK adV z ik F 0 (by decide)) k1_146 cv_X4_finding 3 rfl rfl rfl [0, 1, 2, 3, 4, 5] (fl1 _) rfl 6 rfl (by decide) (gc := [wMa cI z ik F]) (gr := [wTo cI (z 2) (zT z) T, wTo cI (z 3) (zR z) R, wTo cI (z 4) (zK z) K, wTp cI (z 5) (z 6) f n tk bg en nm, wSh cI (z 7) (zS z) s1 s2 s3]) (gc1 := [wMa cI z ik (upd F 0 (F 0 + 1))]) (gs' := [wMa cI z ik (upd F 0 (F 0 + 1)), wTo cI (z 2) (zT z) T, wTo cI (z 3) (zR z) R, wTo cI (z 4) (zK z) K, wTp cI (z 5) (z 6) f n tk bg en nm, wSh cI (z 7) (zS z) s1 s2 s3]) (fl1 _) rfl rfl ⟨by decide, by decide⟩ rfl rfl ⟨by decide, by decide⟩ rfl rfl (Nat.le_of_ble_eq_true rfl) dX4_odds_32 ?_
    refine aw_i2l C dX4_odds_35 ?_
    refine aw_pc 36 rfl ?_
    have hm : m_odds (T, K, ik, F, f, n, s1, s2, s3) u k w = (((fno 0).toInt64), (T, K, ik, (upd F 0 (F 0 + 1)), f, n, s1, s2, s3)) := by first | (simp only [m_odds, c_8, c_12, c_18, c_22, c_27, decide_true, decide_false, Bool.not_true, Bool.not_false, Bool.true_and, Bool.false_and, Bool.and_true, Bool.and_false, Bool.true_or, Bool.false_or, Bool.or_true, Bool.or_false, cond_true, cond_false, eq_self, if_true, if_false, ite_true, ite_false] <;> rfl) | (simp only [m_odds, c_8, c_12, c_18, c_22, decide_true, decide_false, Bool.not_true, Bool.not_false, Bool.true_and, Bool.false_and, Bool.and_true, Bool.and_false, Bool.true_or, Bool.false_or, Bool.or_true, Bool.or_false, cond_true, cond_false, eq_self, if_true, if_false, ite_true, ite_false] <;> rfl) | (simp only [m_odds, c_8, c_12, decide_eq_false (Int32.not_le.mpr c_18), decide_true, decide_false, Bool.not_true, Bool.not_false, Bool.true_and, Bool.false_and, Bool.and_true, Bool.and_false, Bool.true_or, Bool.false_or, Bool.or_true, Bool.or_false, cond_true, cond_false, eq_self, if_true, if_false, ite_true, ite_false] <;> rfl) | (simp only [m_odds, c_8, c_12, decide_true, decide_false, Bool.not_true, Bool.not_false, Bool.true_and, Bool.false_and, Bool.and_true, Bool.and_false, Bool.true_or, Bool.false_or, Bool.or_true, Bool.or_false, cond_true, cond_false, eq_self, if_true, if_false, ite_true, ite_false] <;> rfl) | (simp only [m_odds, c_8, decide_true, decide_false, Bool.not_true, Bool.not_false, Bool.true_and, Bool.false_and, Bool.and_true, Bool.and_false, Bool.true_or, Bool.false_or, Bool.or_true, Bool.or_false, cond_true, cond_false, eq_self, if_true, if_false, ite_true, ite_false] <;> rfl)
    exact aw_lret C hr hlk dX4_odds_36 ⟨rl (by rw [hm]), R, tk, bg, en, nm, by rw [hm]; rfl⟩
  · skip
    refine aw_iload_n C dX4_odds_11 rfl ?_
    refine aw_if_lt C 30 dX4_odds_12 (by decide) (fun c_12 => ?_) (fun c_12 => ?_)
    · skip
      refine aw_aload_n C dX4_odds_30 rfl ?_
      refine aw_iconst C (0 : Int32) dX4_odds_31 (by decide) ?_
      refine aw_gVd C (As := [.int (0 : Int32)]) (c_X4_finding l D cI cC adK adV z ik F 0 (by decide)) k1_146 cv_X4_finding 3 rfl rfl rfl [0, 1, 2, 3, 4, 5] (fl1 _) rfl 6 rfl (by decide) (gc := [wMa cI z ik F]) (gr := [wTo cI (z 2) (zT z) T, wTo cI (z 3) (zR z) R, wTo cI (z 4) (zK z) K, wTp cI (z 5) (z 6) f n tk bg en nm, wSh cI (z 7) (zS z) s1 s2 s3]) (gc1 := [wMa cI z ik (upd F 0 (F 0 + 1))]) (gs' := [wMa cI z ik (upd F 0 (F 0 + 1)), wTo cI (z 2) (zT z) T, wTo cI (z 3) (zR z) R, wTo cI (z 4) (zK z) K, wTp cI (z 5) (z 6) f n tk bg en nm, wSh cI (z 7) (zS z) s1 s2 s3]) (fl1 _) rfl rfl ⟨by decide, by decide⟩ rfl rfl ⟨by decide, by decide⟩ rfl rfl (Nat.le_of_ble_eq_true rfl) dX4_odds_32 ?_
      refine aw_i2l C dX4_odds_35 ?_
      have hm : m_odds (T, K, ik, F, f, n, s1, s2, s3) u k w = (((fno 0).toInt64), (T, K, ik, (upd F 0 (F 0 + 1)), f, n, s1, s2, s3)) := by first | (simp only [m_odds, c_8, c_12, c_18, c_22, c_27, decide_true, decide_false, Bool.not_true, Bool.not_false, Bool.true_and, Bool.false_and, Bool.and_true, Bool.and_false, Bool.true_or, Bool.false_or, Bool.or_true, Bool.or_false, cond_true, cond_false, eq_self, if_true, if_false, ite_true, ite_false] <;> rfl) | (simp only [m_odds, c_8, c_12, c_18, c_22, decide_true, decide_false, Bool.not_true, Bool.not_false, Bool.true_and, Bool.false_and, Bool.and_true, Bool.and_false, Bool.true_or, Bool.false_or, Bool.or_true, Bool.or_false, cond_true, cond_false, eq_self, if_true, if_false, ite_true, ite_false] <;> rfl) | (simp only [m_odds, c_8, c_12, decide_eq_false (Int32.not_le.mpr c_18), decide_true, decide_false, Bool.not_true, Bool.not_false, Bool.true_and, Bool.false_and, Bool.and_true, Bool.and_false, Bool.true_or, Bool.false_or, Bool.or_true, Bool.or_false, cond_true, cond_false, eq_self, if_true, if_false, ite_true, ite_false] <;> rfl) | (simp only [m_odds, c_8, c_12, decide_true, decide_false, Bool.not_true, Bool.not_false, Bool.true_and, Bool.false_and, Bool.and_true, Bool.and_false, Bool.true_or, Bool.false_or, Bool.or_true, Bool.or_false, cond_true, cond_false, eq_self, if_true, if_false, ite_true, ite_false] <;> rfl) | (simp only [m_odds, c_8, decide_true, decide_false, Bool.not_true, Bool.not_false, Bool.true_and, Bool.false_and, Bool.and_true, Bool.and_false, Bool.true_or, Bool.false_or, Bool.or_true, Bool.or_false, cond_true, cond_false, eq_self, if_true, if_false, ite_true, ite_false] <;> rfl)
      exact aw_lret C hr hlk dX4_odds_36 ⟨rl (by rw [hm]), R, tk, bg, en, nm, by rw [hm]; rfl⟩
    · skip
      refine aw_iload_n C dX4_odds_15 rfl ?_
      refine aw_bipush C (17 : Int32) dX4_odds_16 (by decide) ?_
      refine aw_pc 18 rfl ?_
      refine aw_icmp_gt C 30 dX4_odds_18 (by decide) (fun c_18 => ?_) (fun c_18 => ?_)
      · skip
        refine aw_aload_n C dX4_odds_30 rfl ?_
        refine aw_iconst C (0 : Int32) dX4_odds_31 (by decide) ?_
        refine aw_gVd C (As := [.int (0 : Int32)]) (c_X4_finding l D cI cC adK adV z ik F 0 (by decide)) k1_146 cv_X4_finding 3 rfl rfl rfl [0, 1, 2, 3, 4, 5] (fl1 _) rfl 6 rfl (by decide) (gc := [wMa cI z ik F]) (gr := [wTo cI (z 2) (zT z) T, wTo cI (z 3) (zR z) R, wTo cI (z 4) (zK z) K, wTp cI (z 5) (z 6) f n tk bg en nm, wSh cI (z 7) (zS z) s1 s2 s3]) (gc1 := [wMa cI z ik (upd F 0 (F 0 + 1))]) (gs' := [wMa cI z ik (upd F 0 (F 0 + 1)), wTo cI (z 2) (zT z) T, wTo cI (z 3) (zR z) R, wTo cI (z 4) (zK z) K, wTp cI (z 5) (z 6) f n tk bg en nm, wSh cI (z 7) (zS z) s1 s2 s3]) (fl1 _) rfl rfl ⟨by decide, by decide⟩ rfl rfl ⟨by decide, by decide⟩ rfl rfl (Nat.le_of_ble_eq_true rfl) dX4_odds_32 ?_
        refine aw_i2l C dX4_odds_35 ?_
        have hm : m_odds (T, K, ik, F, f, n, s1, s2, s3) u k w = (((fno 0).toInt64), (T, K, ik, (upd F 0 (F 0 + 1)), f, n, s1, s2, s3)) := by first | (simp only [m_odds, c_8, c_12, c_18, c_22, c_27, decide_true, decide_false, Bool.not_true, Bool.not_false, Bool.true_and, Bool.false_and, Bool.and_true, Bool.and_false, Bool.true_or, Bool.false_or, Bool.or_true, Bool.or_false, cond_true, cond_false, eq_self, if_true, if_false, ite_true, ite_false] <;> rfl) | (simp only [m_odds, c_8, c_12, c_18, c_22, decide_true, decide_false, Bool.not_true, Bool.not_false, Bool.true_and, Bool.false_and, Bool.and_true, Bool.and_false, Bool.true_or, Bool.false_or, Bool.or_true, Bool.or_false, cond_true, cond_false, eq_self, if_true, if_false, ite_true, ite_false] <;> rfl) | (simp only [m_odds, c_8, c_12, decide_eq_false (Int32.not_le.mpr c_18), decide_true, decide_false, Bool.not_true, Bool.not_false, Bool.true_and, Bool.false_and, Bool.and_true, Bool.and_false, Bool.true_or, Bool.false_or, Bool.or_true, Bool.or_false, cond_true, cond_false, eq_self, if_true, if_false, ite_true, ite_false] <;> rfl) | (simp only [m_odds, c_8, c_12, decide_true, decide_false, Bool.not_true, Bool.not_false, Bool.true_and, Bool.false_and, Bool.and_true, Bool.and_false, Bool.true_or, Bool.false_or, Bool.or_true, Bool.or_false, cond_true, cond_false, eq_self, if_true, if_false, ite_true, ite_false] <;> rfl) | (simp only [m_odds, c_8, decide_true, decide_false, Bool.not_true, Bool.not_false, Bool.true_and, Bool.false_and, Bool.and_true, Bool.and_false, Bool.true_or, Bool.false_or, Bool.or_true, Bool.or_false, cond_true, cond_false, eq_self, if_true, if_false, ite_true, ite_false] <;> rfl)
        exact aw_lret C hr hlk dX4_odds_36 ⟨rl (by rw [hm]), R, tk, bg, en, nm, by rw [hm]; rfl⟩
      · skip
        refine aw_iload_n C dX4_odds_21 rfl ?_
        refine aw_if_lt C 30 dX4_odds_22 (by decide) (fun c_22 => ?_) (fun c_22 => ?_)
        · skip
          refine aw_aload_n C dX4_odds_30 rfl ?_
          refine aw_iconst C (0 : Int32) dX4_odds_31 (by decide) ?_
          refine aw_pc 32 rfl ?_
          refine aw_gVd C (As := [.int (0 : Int32)]) (c_X4_finding l D cI cC adK adV z ik F 0 (by decide)) k1_146 cv_X4_finding 3 rfl rfl rfl [0, 1, 2, 3, 4, 5] (fl1 _) rfl 6 rfl (by decide) (gc := [wMa cI z ik F]) (gr := [wTo cI (z 2) (zT z) T, wTo cI (z 3) (zR z) R, wTo cI (z 4) (zK z) K, wTp cI (z 5) (z 6) f n tk bg en nm, wSh cI (z 7) (zS z) s1 s2 s3]) (gc1 := [wMa cI z ik (upd F 0 (F 0 + 1))]) (gs' := [wMa cI z ik (upd F 0 (F 0 + 1)), wTo cI (z 2) (zT z) T, wTo cI (z 3) (zR z) R, wTo cI (z 4) (zK z) K, wTp cI (z 5) (z 6) f n tk bg en nm, wSh cI (z 7) (zS z) s1 s2 s3]) (fl1 _) rfl rfl ⟨by decide, by decide⟩ rfl rfl ⟨by decide, by decide⟩ rfl rfl (Nat.le_of_ble_eq_true rfl) dX4_odds_32 ?_
          refine aw_i2l C dX4_odds_35 ?_
          have hm : m_odds (T, K, ik, F, f, n, s1, s2, s3) u k w = (((fno 0).toInt64), (T, K, ik, (upd F 0 (F 0 + 1)), f, n, s1, s2, s3)) := by first | (simp only [m_odds, c_8, c_12, c_18, c_22, c_27, decide_true, decide_false, Bool.not_true, Bool.not_false, Bool.true_and, Bool.false_and, Bool.and_true, Bool.and_false, Bool.true_or, Bool.false_or, Bool.or_true, Bool.or_false, cond_true, cond_false, eq_self, if_true, if_false, ite_true, ite_false] <;> rfl) | (simp only [m_odds, c_8, c_12, c_18, c_22, decide_true, decide_false, Bool.not_true, Bool.not_false, Bool.true_and, Bool.false_and, Bool.and_true, Bool.and_false, Bool.true_or, Bool.false_or, Bool.or_true, Bool.or_false, cond_true, cond_false, eq_self, if_true, if_false, ite_true, ite_false] <;> rfl) | (simp only [m_odds, c_8, c_12, decide_eq_false (Int32.not_le.mpr c_18), decide_true, decide_false, Bool.not_true, Bool.not_false, Bool.true_and, Bool.false_and, Bool.and_true, Bool.and_false, Bool.true_or, Bool.false_or, Bool.or_true, Bool.or_false, cond_true, cond_false, eq_self, if_true, if_false, ite_true, ite_false] <;> rfl) | (simp only [m_odds, c_8, c_12, decide_true, decide_false, Bool.not_true, Bool.not_false, Bool.true_and, Bool.false_and, Bool.and_true, Bool.and_false, Bool.true_or, Bool.false_or, Bool.or_true, Bool.or_false, cond_true, cond_false, eq_self, if_true, if_false, ite_true, ite_false] <;> rfl) | (simp only [m_odds, c_8, decide_true, decide_false, Bool.not_true, Bool.not_false, Bool.true_and, Bool.false_and, Bool.and_true, Bool.and_false, Bool.true_or, Bool.false_or, Bool.or_true, Bool.or_false, cond_true, cond_false, eq_self, if_true, if_false, ite_true, ite_false] <;> rfl)
          exact aw_lret C hr hlk dX4_odds_36 ⟨rl (by rw [hm]), R, tk, bg, en, nm, by rw [hm]; rfl⟩
        · skip
          refine aw_iload_n C dX4_odds_25 rfl ?_
          refine aw_iconst C (1 : Int32) dX4_odds_26 (by decide) ?_
          refine aw_icmp_le C 37 dX4_odds_27 (by decide) (fun c_27 => ?_) (fun c_27 => ?_)
          · skip
            have l1 := there_lt hn c_8
            have l2 : ix k ≤ 17 := ix_le c_12 (by decide) (Int32.not_lt.mp c_18)
            obtain ⟨mi, hmi, emi⟩ := minded_le T (ix u) 12 (by decide)
            have emi : mMinded T (ix u) = nI mi := emi
            have exi : ix (mMinded T (ix u)) = mi := by rw [emi, ix_nI (by omega)]
            have dvo := dv_ok mi (by omega)
            have e1 : u = nI (ix u) := there_ix c_8
            refine aw_eq (lv' := [(0, .ref (z 0)), (1, .int (nI (ix u))), (2, .int k), (3, .int w)]) (ws' := fl [wMa cI z ik F, wTo cI (z 2) (zT z) T, wTo cI (z 3) (zR z) R, wTo cI (z 4) (zK z) K, wTp cI (z 5) (z 6) f n tk bg en nm, wSh cI (z 7) (zS z) s1 s2 s3]) (by rw [← e1]) rfl rfl ?_
            have e2 : k = nI (ix k) := ix_eq c_12
            refine aw_eq (lv' := [(0, .ref (z 0)), (1, .int (nI (ix u))), (2, .int (nI (ix k))), (3, .int w)]) (ws' := fl [wMa cI z ik F, wTo cI (z 2) (zT z) T, wTo cI (z 3) (zR z) R, wTo cI (z 4) (zK z) K, wTp cI (z 5) (z 6) f n tk bg en nm, wSh cI (z 7) (zS z) s1 s2 s3]) (by rw [← e2]) rfl rfl ?_
            refine aw_aload_n C dX4_odds_37 rfl ?_
            refine aw_getf C 0 3 0 7 inX4 rfl (by decide) rfl k1_117 rfl rfl dX4_odds_38 ?_
            refine aw_iload_n C dX4_odds_41 rfl ?_
            refine aw_gVp C (As := [.int (nI (ix u))]) (c_X3_mindedGuises l D cI cC adK adV (z 2) (zT z) T (ix u) (by omega)) k2_219 cv_X3_mindedGuises 2 rfl rfl rfl [1, 0, 2, 3, 4, 5] (fl1 _) rfl 6 rfl (by decide) ⟨by decide, by decide⟩ rfl rfl ⟨by decide, by decide⟩ rfl rfl (Nat.le_of_ble_eq_true rfl) dX4_odds_42 ?_
            refine aw_pc 45 rfl ?_
            refine aw_top (y := (nI mi)) (by exact emi) ?_
            refine aw_istore C true (lv' := [(0, .ref (z 0)), (1, .int (nI (ix u))), (2, .int (nI (ix k))), (3, .int w), (4, .int (nI mi))]) dX4_odds_45 (by decide) rfl rfl ?_
            refine aw_iload C dX4_odds_47 rfl ?_
            refine aw_callSp C (As := [.int (nI mi)]) (c_X4_divisorWithGuises l D cI cC adK adV mi (by omega)) k2_223 cs_X4_divisorWithGuises [] (by decide) rfl ⟨by decide, by decide⟩ rfl rfl ⟨by decide, by decide⟩ rfl rfl (Nat.le_of_ble_eq_true rfl) dX4_odds_49 ?_
            refine aw_istore C true (lv' := [(0, .ref (z 0)), (1, .int (nI (ix u))), (2, .int (nI (ix k))), (3, .int w), (4, .int (nI mi)), (5, .int (nI (dv mi)))]) dX4_odds_52 (by decide) rfl rfl ?_
            refine aw_iload_n C dX4_odds_54 rfl ?_
            refine aw_if_ne C 63 dX4_odds_55 (by decide) (fun c_55 => ?_) (fun c_55 => ?_)
            · skip
              refine aw_bipush C (12 : Int32) dX4_odds_63 (by decide) ?_
              refine aw_iload C dX4_odds_65 rfl ?_
              refine aw_idiv C dX4_odds_67 (nI_ne0 dvo.2.1 (by omega)) ?_
              refine aw_i2l C dX4_odds_68 ?_
              refine aw_pc 69 rfl ?_
              refine aw_topv (y := .long (lN (oP mi w))) (by first | exact congrArg Value.long (odds_p0 (by omega) c_55) | exact congrArg Value.long (odds_p1 (by omega) c_55)) ?_
              refine aw_lstore C true (lv' := [(0, .ref (z 0)), (1, .int (nI (ix u))), (2, .int (nI (ix k))), (3, .int w), (4, .int (nI mi)), (5, .int (nI (dv mi))), (6, .long (lN (oP mi w)))]) dX4_odds_69 (by decide) rfl rfl ?_
              refine aw_lconst C (1 : Int64) dX4_odds_71 (by decide) ?_
              refine aw_lstore C true (lv' := [(0, .ref (z 0)), (1, .int (nI (ix u))), (2, .int (nI (ix k))), (3, .int w), (4, .int (nI mi)), (5, .int (nI (dv mi))), (6, .long (lN (oP mi w))), (8, .long (1 : Int64))]) dX4_odds_72 (by decide) rfl rfl ?_
              refine aw_iconst C (0 : Int32) dX4_odds_74 (by decide) ?_
              refine aw_istore C true (lv' := [(0, .ref (z 0)), (1, .int (nI (ix u))), (2, .int (nI (ix k))), (3, .int w), (4, .int (nI mi)), (5, .int (nI (dv mi))), (6, .long (lN (oP mi w))), (8, .long (1 : Int64)), (10, .int (0 : Int32))]) dX4_odds_75 (by decide) rfl rfl ?_
              refine aw_eq (lv' := [(0, .ref (z 0)), (1, .int (nI (ix u))), (2, .int (nI (ix k))), (3, .int w), (4, .int (nI mi)), (5, .int (nI (dv mi))), (6, .long (lN (oP mi w))), (8, .long (lN (oP mi w ^ 0))), (10, .int (nI 0))]) (ws' := fl [wMa cI z ik F, wTo cI (z 2) (zT z) T, wTo cI (z 3) (zR z) R, wTo cI (z 4) (zK z) K, wTp cI (z 5) (z 6) f n tk bg en nm, wSh cI (z 7) (zS z) s1 s2 s3]) (by rfl) rfl (by rfl) ?_
              refine aw_loop (LV := fun i => [(0, .ref (z 0)), (1, .int (nI (ix u))), (2, .int (nI (ix k))), (3, .int w), (4, .int (nI mi)), (5, .int (nI (dv mi))), (6, .long (lN (oP mi w))), (8, .long (lN (oP mi w ^ i))), (10, .int (nI i))]) (WS := fun i => fl [wMa cI z ik F, wTo cI (z 2) (zT z) T, wTo cI (z 3) (zR z) R, wTo cI (z 4) (zK z) K, wTp cI (z 5) (z 6) f n tk bg en nm, wSh cI (z 7) (zS z) s1 s2 s3]) (ix k) (Inv := fun _ => True) trivial ?_ ?_
              · intro hv77
                refine aw_iload C dX4_odds_77 rfl ?_
                refine aw_iload_n C dX4_odds_79 rfl ?_
                refine aw_icmp_ge C 96 dX4_odds_80 (by decide) (fun c_80 => ?_) (fun c_80 => absurd c_80 (fun z => z (Int32.le_refl _)))
                refine aw_lload C dX4_odds_96 rfl ?_
                have hm : m_odds (T, K, ik, F, f, n, s1, s2, s3) u k w = ((lN (oP mi w ^ (ix k))), (T, K, ik, F, f, n, s1, s2, s3)) := by simp only [m_odds, c_8, c_12, exi, decide_true, decide_false, Bool.not_true, Bool.not_false, Bool.true_and, Bool.false_and, Bool.and_true, Bool.and_false, Bool.true_or, Bool.false_or, Bool.or_true, Bool.or_false, cond_true, cond_false, eq_self, if_true, if_false, ite_true, ite_false]; simp only [decide_eq_true (Int32.not_lt.mp c_18), c_22, c_27, decide_true, decide_false, Bool.not_true, Bool.not_false, Bool.true_and, Bool.false_and, Bool.and_true, Bool.and_false, Bool.true_or, Bool.false_or, Bool.or_true, Bool.or_false, cond_true, cond_false, eq_self, if_true, if_false, ite_true, ite_false]
                exact aw_lret C hr hlk dX4_odds_98 ⟨rl (by rw [hm]), R, tk, bg, en, nm, by rw [hm]; rfl⟩
              · intro i hi77 hv77 ih77
                refine aw_pc 77 rfl ?_
                refine aw_iload C dX4_odds_77 rfl ?_
                refine aw_iload_n C dX4_odds_79 rfl ?_
                refine aw_icmp_ge C 96 dX4_odds_80 (by decide) (fun c_80 => absurd c_80 (nI_ge hi77 (by omega))) (fun c_80 => ?_)
                refine aw_lload C dX4_odds_83 rfl ?_
                refine aw_lload C dX4_odds_85 rfl ?_
                refine aw_lmul C dX4_odds_87 ?_
                refine aw_lstore C false (lv' := [(0, .ref (z 0)), (1, .int (nI (ix u))), (2, .int (nI (ix k))), (3, .int w), (4, .int (nI mi)), (5, .int (nI (dv mi))), (6, .long (lN (oP mi w))), (8, .long ((lN (oP mi w ^ i)) * (lN (oP mi w)))), (10, .int (nI i))]) dX4_odds_88 (by decide) rfl rfl ?_
                refine aw_iinc C (nI (i + 1)) dX4_odds_90 rfl (inc_nI _ 1) (by decide) rfl (lv' := [(0, .ref (z 0)), (1, .int (nI (ix u))), (2, .int (nI (ix k))), (3, .int w), (4, .int (nI mi)), (5, .int (nI (dv mi))), (6, .long (lN (oP mi w))), (8, .long ((lN (oP mi w ^ i)) * (lN (oP mi w)))), (10, .int (nI (i + 1)))]) rfl ?_
                refine aw_goto C 77 dX4_odds_93 (by decide) ?_
                exact aw_eq (by rw [lN_mul]; rfl) rfl (by first | rfl | (simp only [itr, c_8, c_12, c_18, c_22, c_27, c_55] <;> first | done | rfl)) (ih77 trivial)
            · skip
              refine aw_iload C dX4_odds_58 rfl ?_
              refine aw_pc 60 rfl ?_
              refine aw_goto C 65 dX4_odds_60 (by decide) ?_
              refine aw_iload C dX4_odds_65 rfl ?_
              refine aw_idiv C dX4_odds_67 (nI_ne0 dvo.2.1 (by omega)) ?_
              refine aw_i2l C dX4_odds_68 ?_
              refine aw_topv (y := .long (lN (oP mi w))) (by first | exact congrArg Value.long (odds_p0 (by omega) c_55) | exact congrArg Value.long (odds_p1 (by omega) c_55)) ?_
              refine aw_lstore C true (lv' := [(0, .ref (z 0)), (1, .int (nI (ix u))), (2, .int (nI (ix k))), (3, .int w), (4, .int (nI mi)), (5, .int (nI (dv mi))), (6, .long (lN (oP mi w)))]) dX4_odds_69 (by decide) rfl rfl ?_
              refine aw_lconst C (1 : Int64) dX4_odds_71 (by decide) ?_
              refine aw_lstore C true (lv' := [(0, .ref (z 0)), (1, .int (nI (ix u))), (2, .int (nI (ix k))), (3, .int w), (4, .int (nI mi)), (5, .int (nI (dv mi))), (6, .long (lN (oP mi w))), (8, .long (1 : Int64))]) dX4_odds_72 (by decide) rfl rfl ?_
              refine aw_iconst C (0 : Int32) dX4_odds_74 (by decide) ?_
              refine aw_istore C true (lv' := [(0, .ref (z 0)), (1, .int (nI (ix u))), (2, .int (nI (ix k))), (3, .int w), (4, .int (nI mi)), (5, .int (nI (dv mi))), (6, .long (lN (oP mi w))), (8, .long (1 : Int64)), (10, .int (0 : Int32))]) dX4_odds_75 (by decide) rfl rfl ?_
              refine aw_eq (lv' := [(0, .ref (z 0)), (1, .int (nI (ix u))), (2, .int (nI (ix k))), (3, .int w), (4, .int (nI mi)), (5, .int (nI (dv mi))), (6, .long (lN (oP mi w))), (8, .long (lN (oP mi w ^ 0))), (10, .int (nI 0))]) (ws' := fl [wMa cI z ik F, wTo cI (z 2) (zT z) T, wTo cI (z 3) (zR z) R, wTo cI (z 4) (zK z) K, wTp cI (z 5) (z 6) f n tk bg en nm, wSh cI (z 7) (zS z) s1 s2 s3]) (by rfl) rfl (by rfl) ?_
              refine aw_loop (LV := fun i => [(0, .ref (z 0)), (1, .int (nI (ix u))), (2, .int (nI (ix k))), (3, .int w), (4, .int (nI mi)), (5, .int (nI (dv mi))), (6, .long (lN (oP mi w))), (8, .long (lN (oP mi w ^ i))), (10, .int (nI i))]) (WS := fun i => fl [wMa cI z ik F, wTo cI (z 2) (zT z) T, wTo cI (z 3) (zR z) R, wTo cI (z 4) (zK z) K, wTp cI (z 5) (z 6) f n tk bg en nm, wSh cI (z 7) (zS z) s1 s2 s3]) (ix k) (Inv := fun _ => True) trivial ?_ ?_
              · intro hv77
                refine aw_iload C dX4_odds_77 rfl ?_
                refine aw_pc 79 rfl ?_
                refine aw_iload_n C dX4_odds_79 rfl ?_
                refine aw_icmp_ge C 96 dX4_odds_80 (by decide) (fun c_80 => ?_) (fun c_80 => absurd c_80 (fun z => z (Int32.le_refl _)))
                refine aw_lload C dX4_odds_96 rfl ?_
                have hm : m_odds (T, K, ik, F, f, n, s1, s2, s3) u k w = ((lN (oP mi w ^ (ix k))), (T, K, ik, F, f, n, s1, s2, s3)) := by simp only [m_odds, c_8, c_12, exi, decide_true, decide_false, Bool.not_true, Bool.not_false, Bool.true_and, Bool.false_and, Bool.and_true, Bool.and_false, Bool.true_or, Bool.false_or, Bool.or_true, Bool.or_false, cond_true, cond_false, eq_self, if_true, if_false, ite_true, ite_false]; simp only [decide_eq_true (Int32.not_lt.mp c_18), c_22, c_27, decide_true, decide_false, Bool.not_true, Bool.not_false, Bool.true_and, Bool.false_and, Bool.and_true, Bool.and_false, Bool.true_or, Bool.false_or, Bool.or_true, Bool.or_false, cond_true, cond_false, eq_self, if_true, if_false, ite_true, ite_false]
                exact aw_lret C hr hlk dX4_odds_98 ⟨rl (by rw [hm]), R, tk, bg, en, nm, by rw [hm]; rfl⟩
              · intro i hi77 hv77 ih77
                refine aw_iload C dX4_odds_77 rfl ?_
                refine aw_iload_n C dX4_odds_79 rfl ?_
                refine aw_icmp_ge C 96 dX4_odds_80 (by decide) (fun c_80 => absurd c_80 (nI_ge hi77 (by omega))) (fun c_80 => ?_)
                refine aw_lload C dX4_odds_83 rfl ?_
                refine aw_lload C dX4_odds_85 rfl ?_
                refine aw_lmul C dX4_odds_87 ?_
                refine aw_pc 88 rfl ?_
                refine aw_lstore C false (lv' := [(0, .ref (z 0)), (1, .int (nI (ix u))), (2, .int (nI (ix k))), (3, .int w), (4, .int (nI mi)), (5, .int (nI (dv mi))), (6, .long (lN (oP mi w))), (8, .long ((lN (oP mi w ^ i)) * (lN (oP mi w)))), (10, .int (nI i))]) dX4_odds_88 (by decide) rfl rfl ?_
                refine aw_iinc C (nI (i + 1)) dX4_odds_90 rfl (inc_nI _ 1) (by decide) rfl (lv' := [(0, .ref (z 0)), (1, .int (nI (ix u))), (2, .int (nI (ix k))), (3, .int w), (4, .int (nI mi)), (5, .int (nI (dv mi))), (6, .long (lN (oP mi w))), (8, .long ((lN (oP mi w ^ i)) * (lN (oP mi w)))), (10, .int (nI (i + 1)))]) rfl ?_
                refine aw_goto C 77 dX4_odds_93 (by decide) ?_
                exact aw_eq (by rw [lN_mul]; rfl) rfl (by first | rfl | (simp only [itr, c_8, c_12, c_18, c_22, c_27, c_55] <;> first | done | rfl)) (ih77 trivial)
          · skip
            refine aw_aload_n C dX4_odds_30 rfl ?_
            refine aw_iconst C (0 : Int32) dX4_odds_31 (by decide) ?_
            refine aw_gVd C (As := [.int (0 : Int32)]) (c_X4_finding l D cI cC adK adV z ik F 0 (by decide)) k1_146 cv_X4_finding 3 rfl rfl rfl [0, 1, 2, 3, 4, 5] (fl1 _) rfl 6 rfl (by decide) (gc := [wMa cI z ik F]) (gr := [wTo cI (z 2) (zT z) T, wTo cI (z 3) (zR z) R, wTo cI (z 4) (zK z) K, wTp cI (z 5) (z 6) f n tk bg en nm, wSh cI (z 7) (zS z) s1 s2 s3]) (gc1 := [wMa cI z ik (upd F 0 (F 0 + 1))]) (gs' := [wMa cI z ik (upd F 0 (F 0 + 1)), wTo cI (z 2) (zT z) T, wTo cI (z 3) (zR z) R, wTo cI (z 4) (zK z) K, wTp cI (z 5) (z 6) f n tk bg en nm, wSh cI (z 7) (zS z) s1 s2 s3]) (fl1 _) rfl rfl ⟨by decide, by decide⟩ rfl rfl ⟨by decide, by decide⟩ rfl rfl (Nat.le_of_ble_eq_true rfl) dX4_odds_32 ?_
            refine aw_i2l C dX4_odds_35 ?_
            have hm : m_odds (T, K, ik, F, f, n, s1, s2, s3) u k w = (((fno 0).toInt64), (T, K, ik, (upd F 0 (F 0 + 1)), f, n, s1, s2, s3)) := by first | (simp only [m_odds, c_8, c_12, c_18, c_22, c_27, decide_true, decide_false, Bool.not_true, Bool.not_false, Bool.true_and, Bool.false_and, Bool.and_true, Bool.and_false, Bool.true_or, Bool.false_or, Bool.or_true, Bool.or_false, cond_true, cond_false, eq_self, if_true, if_false, ite_true, ite_false] <;> rfl) | (simp only [m_odds, c_8, c_12, c_18, c_22, decide_true, decide_false, Bool.not_true, Bool.not_false, Bool.true_and, Bool.false_and, Bool.and_true, Bool.and_false, Bool.true_or, Bool.false_or, Bool.or_true, Bool.or_false, cond_true, cond_false, eq_self, if_true, if_false, ite_true, ite_false] <;> rfl) | (simp only [m_odds, c_8, c_12, decide_eq_false (Int32.not_le.mpr c_18), decide_true, decide_false, Bool.not_true, Bool.not_false, Bool.true_and, Bool.false_and, Bool.and_true, Bool.and_false, Bool.true_or, Bool.false_or, Bool.or_true, Bool.or_false, cond_true, cond_false, eq_self, if_true, if_false, ite_true, ite_false] <;> rfl) | (simp only [m_odds, c_8, c_12, decide_true, decide_false, Bool.not_true, Bool.not_false, Bool.true_and, Bool.false_and, Bool.and_true, Bool.and_false, Bool.true_or, Bool.false_or, Bool.or_true, Bool.or_false, cond_true, cond_false, eq_self, if_true, if_false, ite_true, ite_false] <;> rfl) | (simp only [m_odds, c_8, decide_true, decide_false, Bool.not_true, Bool.not_false, Bool.true_and, Bool.false_and, Bool.and_true, Bool.and_false, Bool.true_or, Bool.false_or, Bool.or_true, Bool.or_false, cond_true, cond_false, eq_self, if_true, if_false, ite_true, ite_false] <;> rfl)
            exact aw_lret C hr hlk dX4_odds_36 ⟨rl (by rw [hm]), R, tk, bg, en, nm, by rw [hm]; rfl⟩
