/-! the reference: tokens, words, numbers -/
theorem mo_put3 (cI cC : ClassId) (y : Nat → Nat) (sr : Nat → Int32) (kr : Nat → Int32) (ar : Nat → Int32) (ik : Bool) (F : Nat → Int32) (f : Nat → Int32) (n : Nat) (tk : Int32) (bg : Nat) (en : Nat) (vl : Int64) (s1 : Nat → Int32) (s2 : Nat → Int32) (s3 : Nat → Int32) (cr : Nat → Int32) (g : Bool) : (wMo cI cC y sr (kr, ar, ik, F, f, n, tk, bg, en, vl, s1, s2, s3, cr)).set 0 (y 0, .inr (4, ([.ref (y 1), .ref (y 2), .ref (y 3), .int (b2 ik), .ref (y 4), .ref (y 5), .int (nI n), .int tk, .int (nI bg), .int (nI en), .long vl, .ref (y 6), .ref (y 7), .ref (y 8), .ref (y 9), .ref (y 10), .ref (y 11), .ref (y 12)] : List Value).set 3 (.int (b2 g)))) = wMo cI cC y sr (kr, ar, g, F, f, n, tk, bg, en, vl, s1, s2, s3, cr) := rfl
theorem mo_put6 (cI cC : ClassId) (y : Nat → Nat) (sr : Nat → Int32) (kr : Nat → Int32) (ar : Nat → Int32) (ik : Bool) (F : Nat → Int32) (f : Nat → Int32) (n : Nat) (tk : Int32) (bg : Nat) (en : Nat) (vl : Int64) (s1 : Nat → Int32) (s2 : Nat → Int32) (s3 : Nat → Int32) (cr : Nat → Int32) (g : Nat) : (wMo cI cC y sr (kr, ar, ik, F, f, n, tk, bg, en, vl, s1, s2, s3, cr)).set 0 (y 0, .inr (4, ([.ref (y 1), .ref (y 2), .ref (y 3), .int (b2 ik), .ref (y 4), .ref (y 5), .int (nI n), .int tk, .int (nI bg), .int (nI en), .long vl, .ref (y 6), .ref (y 7), .ref (y 8), .ref (y 9), .ref (y 10), .ref (y 11), .ref (y 12)] : List Value).set 6 (.int (nI g)))) = wMo cI cC y sr (kr, ar, ik, F, f, g, tk, bg, en, vl, s1, s2, s3, cr) := rfl
theorem mo_put7 (cI cC : ClassId) (y : Nat → Nat) (sr : Nat → Int32) (kr : Nat → Int32) (ar : Nat → Int32) (ik : Bool) (F : Nat → Int32) (f : Nat → Int32) (n : Nat) (tk : Int32) (bg : Nat) (en : Nat) (vl : Int64) (s1 : Nat → Int32) (s2 : Nat → Int32) (s3 : Nat → Int32) (cr : Nat → Int32) (g : Int32) : (wMo cI cC y sr (kr, ar, ik, F, f, n, tk, bg, en, vl, s1, s2, s3, cr)).set 0 (y 0, .inr (4, ([.ref (y 1), .ref (y 2), .ref (y 3), .int (b2 ik), .ref (y 4), .ref (y 5), .int (nI n), .int tk, .int (nI bg), .int (nI en), .long vl, .ref (y 6), .ref (y 7), .ref (y 8), .ref (y 9), .ref (y 10), .ref (y 11), .ref (y 12)] : List Value).set 7 (.int g))) = wMo cI cC y sr (kr, ar, ik, F, f, n, g, bg, en, vl, s1, s2, s3, cr) := rfl
theorem mo_put8 (cI cC : ClassId) (y : Nat → Nat) (sr : Nat → Int32) (kr : Nat → Int32) (ar : Nat → Int32) (ik : Bool) (F : Nat → Int32) (f : Nat → Int32) (n : Nat) (tk : Int32) (bg : Nat) (en : Nat) (vl : Int64) (s1 : Nat → Int32) (s2 : Nat → Int32) (s3 : Nat → Int32) (cr : Nat → Int32) (g : Nat) : (wMo cI cC y sr (kr, ar, ik, F, f, n, tk, bg, en, vl, s1, s2, s3, cr)).set 0 (y 0, .inr (4, ([.ref (y 1), .ref (y 2), .ref (y 3), .int (b2 ik), .ref (y 4), .ref (y 5), .int (nI n), .int tk, .int (nI bg), .int (nI en), .long vl, .ref (y 6), .ref (y 7), .ref (y 8), .ref (y 9), .ref (y 10), .ref (y 11), .ref (y 12)] : List Value).set 8 (.int (nI g)))) = wMo cI cC y sr (kr, ar, ik, F, f, n, tk, g, en, vl, s1, s2, s3, cr) := rfl
theorem mo_put9 (cI cC : ClassId) (y : Nat → Nat) (sr : Nat → Int32) (kr : Nat → Int32) (ar : Nat → Int32) (ik : Bool) (F : Nat → Int32) (f : Nat → Int32) (n : Nat) (tk : Int32) (bg : Nat) (en : Nat) (vl : Int64) (s1 : Nat → Int32) (s2 : Nat → Int32) (s3 : Nat → Int32) (cr : Nat → Int32) (g : Nat) : (wMo cI cC y sr (kr, ar, ik, F, f, n, tk, bg, en, vl, s1, s2, s3, cr)).set 0 (y 0, .inr (4, ([.ref (y 1), .ref (y 2), .ref (y 3), .int (b2 ik), .ref (y 4), .ref (y 5), .int (nI n), .int tk, .int (nI bg), .int (nI en), .long vl, .ref (y 6), .ref (y 7), .ref (y 8), .ref (y 9), .ref (y 10), .ref (y 11), .ref (y 12)] : List Value).set 9 (.int (nI g)))) = wMo cI cC y sr (kr, ar, ik, F, f, n, tk, bg, g, vl, s1, s2, s3, cr) := rfl
theorem mo_put10 (cI cC : ClassId) (y : Nat → Nat) (sr : Nat → Int32) (kr : Nat → Int32) (ar : Nat → Int32) (ik : Bool) (F : Nat → Int32) (f : Nat → Int32) (n : Nat) (tk : Int32) (bg : Nat) (en : Nat) (vl : Int64) (s1 : Nat → Int32) (s2 : Nat → Int32) (s3 : Nat → Int32) (cr : Nat → Int32) (g : Int64) : (wMo cI cC y sr (kr, ar, ik, F, f, n, tk, bg, en, vl, s1, s2, s3, cr)).set 0 (y 0, .inr (4, ([.ref (y 1), .ref (y 2), .ref (y 3), .int (b2 ik), .ref (y 4), .ref (y 5), .int (nI n), .int tk, .int (nI bg), .int (nI en), .long vl, .ref (y 6), .ref (y 7), .ref (y 8), .ref (y 9), .ref (y 10), .ref (y 11), .ref (y 12)] : List Value).set 10 (.long g))) = wMo cI cC y sr (kr, ar, ik, F, f, n, tk, bg, en, g, s1, s2, s3, cr) := rfl
def vwI (f : Nat → Int32) (b j : Nat) : Int64 := itr (fun j v => bif decide (9999999999999 < v) then v else v * 27 + (f (b + j)).toInt64 - 96) j 0
def vdI (f : Nat → Int32) (b j : Nat) : Int64 := itr (fun j v => bif decide (999 < v) then v else v * 10 + (f (b + j)).toInt64 - 48) j 0
def vlR (f : Nat → Int32) (n p : Nat) : Int64 := bif decide (n ≤ p) then 0 else bif isL (f p) then vwI f p (runL f n p - p) else bif isD (f p) then vdI f p (runD f n p - p) else 0
def tkR (f : Nat → Int32) (n p : Nat) : Int32 := bif decide (n ≤ p) then 0 else bif isL (f p) then 1 else bif isD (f p) then (bif decide (999 < vdI f p (runD f n p - p)) then 4 else 2) else bif decide (f p = 59) then 3 else 4
theorem vw_y {f : Nat → Int32} {b j : Nat} (h : ¬ lg_cmp (vwI f b j) 9999999999999 ≤ 0) : vwI f b (j + 1) = vwI f b j := by
  rw [lg_cmp_le] at h
  show (bif decide (9999999999999 < vwI f b j) then _ else _) = _
  rw [decide_eq_true (Int64.not_le.mp h), cond_true]
  rfl
theorem vw_n {f : Nat → Int32} {b j : Nat} (h : lg_cmp (vwI f b j) 9999999999999 ≤ 0) : vwI f b (j + 1) = vwI f b j * 27 + (f (b + j)).toInt64 - 96 := by
  rw [lg_cmp_le] at h
  show (bif decide (9999999999999 < vwI f b j) then _ else _) = _
  rw [decide_eq_false (Int64.not_lt.mpr h), cond_false]
  rfl
theorem vd_y {f : Nat → Int32} {b j : Nat} (h : ¬ lg_cmp (vdI f b j) 999 ≤ 0) : vdI f b (j + 1) = vdI f b j := by
  rw [lg_cmp_le] at h
  show (bif decide (999 < vdI f b j) then _ else _) = _
  rw [decide_eq_true (Int64.not_le.mp h), cond_true]
  rfl
theorem vd_n {f : Nat → Int32} {b j : Nat} (h : lg_cmp (vdI f b j) 999 ≤ 0) : vdI f b (j + 1) = vdI f b j * 10 + (f (b + j)).toInt64 - 48 := by
  rw [lg_cmp_le] at h
  show (bif decide (999 < vdI f b j) then _ else _) = _
  rw [decide_eq_false (Int64.not_lt.mpr h), cond_false]
  rfl
theorem st_0 {f : Nat → Int32} {n p : Nat} (h : decide (n ≤ p) = true) : tkR f n p = 0 ∧ tkE f n p = p ∧ vlR f n p = 0 := by
  unfold tkR tkE vlR
  rw [h, cond_true, cond_true, cond_true]
  exact ⟨rfl, rfl, rfl⟩
theorem st_L {f : Nat → Int32} {n p : Nat} (h : decide (n ≤ p) = false) (h1 : isL (f p) = true) : tkR f n p = 1 ∧ tkE f n p = runL f n p ∧ vlR f n p = vwI f p (runL f n p - p) := by
  unfold tkR tkE vlR
  rw [h, h1, cond_false, cond_false, cond_false, cond_true, cond_true, cond_true]
  exact ⟨rfl, rfl, rfl⟩
theorem st_D {f : Nat → Int32} {n p : Nat} (h : decide (n ≤ p) = false) (h1 : isL (f p) = false) (h2 : isD (f p) = true) : tkR f n p = (bif decide (999 < vdI f p (runD f n p - p)) then 4 else 2) ∧ tkE f n p = runD f n p ∧ vlR f n p = vdI f p (runD f n p - p) := by
  unfold tkR tkE vlR
  rw [h, h1, h2, cond_false, cond_false, cond_false, cond_false, cond_false, cond_false, cond_true, cond_true, cond_true]
  exact ⟨rfl, rfl, rfl⟩
theorem st_X {f : Nat → Int32} {n p : Nat} (h : decide (n ≤ p) = false) (h1 : isL (f p) = false) (h2 : isD (f p) = false) : tkR f n p = (bif decide (f p = 59) then 3 else 4) ∧ tkE f n p = p + 1 ∧ vlR f n p = 0 := by
  unfold tkR tkE vlR
  rw [h, h1, h2, cond_false, cond_false, cond_false, cond_false, cond_false, cond_false, cond_false, cond_false, cond_false]
  exact ⟨rfl, rfl, rfl⟩
theorem t999_y {v : Int64} (h : ¬ lg_cmp v 999 ≤ 0) : (4 : Int32) = (bif decide (999 < v) then 4 else 2) := by
  rw [lg_cmp_le] at h
  rw [decide_eq_true (Int64.not_le.mp h), cond_true]
theorem t999_n {v : Int64} (h : lg_cmp v 999 ≤ 0) : (2 : Int32) = (bif decide (999 < v) then 4 else 2) := by
  rw [lg_cmp_le] at h
  rw [decide_eq_false (Int64.not_lt.mpr h), cond_false]

abbrev r_X5_isLetter : Room := { frames := 1, cells := 0, slots := 0, locals := 22 }
theorem cs_X5_isLetter : cS yX5_isLetter cX5_isLetter 1 (some .boolean) 1 := ⟨k5_113, k5_114, k1_6, by decide, by decide, by decide +kernel⟩
set_option maxHeartbeats 4000000 in
set_option maxRecDepth 100000 in
theorem c_X5_isLetter (l : Launch) (D : va_G) (cI cC : ClassId) (adK adV : Nat → Nat) (v : Int32) : FC l yX5_isLetter (wW yX5_isLetter cX5_isLetter 1 (some .boolean)) r_X5_isLetter D (tyC cI cC) adK adV (([] : va_W)) [.int v] 0 0 (fQ (some (.int (b2 (isL v)))) (([] : va_W))) := by
  refine FC.of (own := RX5) (by decide) rfl (Nat.le_of_ble_eq_true rfl) ?_
  intro p9 e9 s9 m9 args9 below9 meth9 c9 A9 C hr hlk hmn
  show AW p9 l e9 r_X5_isLetter s9 m9 args9 below9 meth9 c9 D A9 1 0 0 _ 0 [(0, .int v)] [] _
  refine aw_iload_n C dX5_isLetter_0 rfl ?_
  refine aw_bipush C (97 : Int32) dX5_isLetter_1 (by decide) ?_
  refine aw_bipush C (122 : Int32) dX5_isLetter_3 (by decide) ?_
  refine aw_callSp C (As := [.int v, .int (97 : Int32), .int (122 : Int32)]) (c_X5_in1 l D cI cC adK adV v (97 : Int32) (122 : Int32)) k4_54 cs_X5_in1 [] (by decide) rfl ⟨by decide, by decide⟩ rfl rfl ⟨by decide, by decide⟩ rfl rfl (Nat.le_of_ble_eq_true rfl) dX5_isLetter_5 ?_
  exact aw_bret C (b := (inL v (97 : Int32) (122 : Int32))) hr hlk dX5_isLetter_8 rfl ⟨rb (by rfl), by rfl⟩
abbrev r_X5_isDigit : Room := { frames := 1, cells := 0, slots := 0, locals := 22 }
theorem cs_X5_isDigit : cS yX5_isDigit cX5_isDigit 1 (some .boolean) 1 := ⟨k5_119, k5_120, k1_6, by decide, by decide, by decide +kernel⟩
set_option maxHeartbeats 4000000 in
set_option maxRecDepth 100000 in
theorem c_X5_isDigit (l : Launch) (D : va_G) (cI cC : ClassId) (adK adV : Nat → Nat) (v : Int32) : FC l yX5_isDigit (wW yX5_isDigit cX5_isDigit 1 (some .boolean)) r_X5_isDigit D (tyC cI cC) adK adV (([] : va_W)) [.int v] 0 0 (fQ (some (.int (b2 (isD v)))) (([] : va_W))) := by
  refine FC.of (own := RX5) (by decide) rfl (Nat.le_of_ble_eq_true rfl) ?_
  intro p9 e9 s9 m9 args9 below9 meth9 c9 A9 C hr hlk hmn
  show AW p9 l e9 r_X5_isDigit s9 m9 args9 below9 meth9 c9 D A9 1 0 0 _ 0 [(0, .int v)] [] _
  refine aw_iload_n C dX5_isDigit_0 rfl ?_
  refine aw_bipush C (48 : Int32) dX5_isDigit_1 (by decide) ?_
  refine aw_bipush C (57 : Int32) dX5_isDigit_3 (by decide) ?_
  refine aw_callSp C (As := [.int v, .int (48 : Int32), .int (57 : Int32)]) (c_X5_in1 l D cI cC adK adV v (48 : Int32) (57 : Int32)) k4_54 cs_X5_in1 [] (by decide) rfl ⟨by decide, by decide⟩ rfl rfl ⟨by decide, by decide⟩ rfl rfl (Nat.le_of_ble_eq_true rfl) dX5_isDigit_5 ?_
  exact aw_bret C (b := (inL v (48 : Int32) (57 : Int32))) hr hlk dX5_isDigit_8 rfl ⟨rb (by rfl), by rfl⟩
abbrev r_X5_nextToken : Room := { frames := 2, cells := 0, slots := 0, locals := 42 }
theorem cv_X5_nextToken : cV yX5_nextToken cX5_nextToken 1 none 0 := ⟨k5_110, k0_63, k5_111, k1_6, by decide, by decide, by decide +kernel⟩
set_option maxHeartbeats 4000000 in
set_option maxRecDepth 100000 in
theorem c_X5_nextToken (l : Launch) (D : va_G) (cI cC : ClassId) (adK adV : Nat → Nat) (y : Nat → Nat) (sr : Nat → Int32) (kr : Nat → Int32) (ar : Nat → Int32) (ik : Bool) (F : Nat → Int32) (f : Nat → Int32) (n : Nat) (tk : Int32) (bg : Nat) (en : Nat) (vl : Int64) (s1 : Nat → Int32) (s2 : Nat → Int32) (s3 : Nat → Int32) (cr : Nat → Int32) (he : en ≤ n) (hn : n ≤ 120) : FC l yX5_nextToken (wW yX5_nextToken cX5_nextToken 1 none) r_X5_nextToken D (tyC cI cC) adK adV (wMo cI cC y sr (kr, ar, ik, F, f, n, tk, bg, en, vl, s1, s2, s3, cr)) [.ref (y 0)] 0 0 (fQ none (wMo cI cC y sr (kr, ar, ik, F, f, n, (tkR f n (skp f n en)), (skp f n en), (tkE f n (skp f n en)), (vlR f n (skp f n en)), s1, s2, s3, cr))) := by
  refine FC.of (own := RX5) (by decide) rfl (Nat.le_of_ble_eq_true rfl) ?_
  intro p9 e9 s9 m9 args9 below9 meth9 c9 A9 C hr hlk hmn
  show AW p9 l e9 r_X5_nextToken s9 m9 args9 below9 meth9 c9 D A9 1 0 0 _ 0 [(0, .ref (y 0))] [] _
  refine aw_aload_n C dX5_nextToken_0 rfl ?_
  refine aw_aload_n C dX5_nextToken_1 rfl ?_
  refine aw_getf C 0 4 9 18 inX5 rfl (by decide) rfl k4_3 rfl rfl dX5_nextToken_2 ?_
  refine aw_top (y := (nI en)) rfl ?_
  refine aw_putf C 0 4 8 18 tyX5 inX5 tyX5_ok nmX5 rfl (by decide) rfl k4_2 rfl rfl rfl rfl rfl (Nat.le_of_ble_eq_true rfl) (ws' := wMo cI cC y sr (kr, ar, ik, F, f, n, tk, en, en, vl, s1, s2, s3, cr)) (mo_put8 ..) dX5_nextToken_5 ?_
  refine aw_eq (lv' := [(0, .ref (y 0))]) (ws' := wMo cI cC y sr (kr, ar, ik, F, f, n, tk, (en + 0), en, vl, s1, s2, s3, cr)) (by first | rfl | (simp only [itr])) rfl (by rfl) ?_
  refine aw_loop (LV := fun i => [(0, .ref (y 0))]) (WS := fun i => wMo cI cC y sr (kr, ar, ik, F, f, n, tk, (en + i), en, vl, s1, s2, s3, cr)) (n - en) (Inv := fun i => ∀ k, k < i → (!decide (f (en + k) = 32)) = false) (fun k hk => absurd hk (Nat.not_lt_zero k)) ?_ ?_
  · intro hv8
    refine aw_aload_n C dX5_nextToken_8 rfl ?_
    refine aw_getf C 0 4 8 18 inX5 rfl (by decide) rfl k4_2 rfl rfl dX5_nextToken_9 ?_
    refine aw_top (y := (nI (en + (n - en)))) rfl ?_
    refine aw_aload_n C dX5_nextToken_12 rfl ?_
    refine aw_getf C 0 4 6 18 inX5 rfl (by decide) rfl k4_0 rfl rfl dX5_nextToken_13 ?_
    refine aw_top (y := (nI n)) rfl ?_
    refine aw_icmp_ge C 46 dX5_nextToken_16 (by decide) (fun c_16 => ?_) (fun c_16 => absurd c_16 (fun z => z (nI_le (by omega) (by omega))))
    refine aw_pc 46 rfl ?_
    refine aw_eq (lv' := [(0, .ref (y 0))]) (ws' := wMo cI cC y sr (kr, ar, ik, F, f, n, tk, (skp f n en), en, vl, s1, s2, s3, cr)) rfl rfl (by first | (rw [skp, fst9_at hv8 (by show (!decide (f (en + i) = 32)) = true; rw [decide_eq_false c_30]; rfl) hi8]) | (rw [skp, fst9_none hv8])) ?_
    have hpn : (skp f n en) ≤ n := skp_le he
    refine aw_aload_n C dX5_nextToken_46 rfl ?_
    refine aw_aload_n C dX5_nextToken_47 rfl ?_
    refine aw_getf C 0 4 8 18 inX5 rfl (by decide) rfl k4_2 rfl rfl dX5_nextToken_48 ?_
    refine aw_top (y := (nI (skp f n en))) rfl ?_
    refine aw_putf C 0 4 9 18 tyX5 inX5 tyX5_ok nmX5 rfl (by decide) rfl k4_3 rfl rfl rfl rfl rfl (Nat.le_of_ble_eq_true rfl) (ws' := wMo cI cC y sr (kr, ar, ik, F, f, n, tk, (skp f n en), (skp f n en), vl, s1, s2, s3, cr)) (mo_put9 ..) dX5_nextToken_51 ?_
    refine aw_aload_n C dX5_nextToken_54 rfl ?_
    refine aw_lconst C (0 : Int64) dX5_nextToken_55 (by decide) ?_
    refine aw_putf C 0 4 10 18 tyX5 inX5 tyX5_ok nmX5 rfl (by decide) rfl k4_4 rfl rfl rfl rfl rfl (Nat.le_of_ble_eq_true rfl) (ws' := wMo cI cC y sr (kr, ar, ik, F, f, n, tk, (skp f n en), (skp f n en), (0 : Int64), s1, s2, s3, cr)) (mo_put10 ..) dX5_nextToken_56 ?_
    refine aw_aload_n C dX5_nextToken_59 rfl ?_
    refine aw_getf C 0 4 8 18 inX5 rfl (by decide) rfl k4_2 rfl rfl dX5_nextToken_60 ?_
    refine aw_top (y := (nI (skp f n en))) rfl ?_
    refine aw_pc 63 rfl ?_
    refine aw_aload_n C dX5_nextToken_63 rfl ?_
    refine aw_getf C 0 4 6 18 inX5 rfl (by decide) rfl k4_0 rfl rfl dX5_nextToken_64 ?_
    refine aw_top (y := (nI n)) rfl ?_
    refine aw_icmp_ne C 78 dX5_nextToken_67 (by decide) (fun c_67 => ?_) (fun c_67 => ?_)
    · skip
      have hlt : (skp f n en) < n := Nat.lt_of_le_of_ne hpn (fun z => c_67 (by rw [z]))
      have d0 : decide (n ≤ (skp f n en)) = false := decide_eq_false (by omega)
      refine aw_aload_n C dX5_nextToken_78 rfl ?_
      refine aw_getf C 0 4 5 18 inX5 rfl (by decide) rfl k3_239 rfl rfl dX5_nextToken_79 ?_
      refine aw_aload_n C dX5_nextToken_82 rfl ?_
      refine aw_getf C 0 4 8 18 inX5 rfl (by decide) rfl k4_2 rfl rfl dX5_nextToken_83 ?_
      refine aw_top (y := (nI (skp f n en))) rfl ?_
      refine aw_ialdN C 5 0 (skp f n en) rfl rfl rfl (by omega) (by decide) dX5_nextToken_86 ?_
      refine aw_top (y := (f (skp f n en))) rfl ?_
      refine aw_callSp C (As := [.int (f (skp f n en))]) (c_X5_isLetter l D cI cC adK adV (f (skp f n en))) k5_112 cs_X5_isLetter [] (by decide) rfl ⟨by decide, by decide⟩ rfl rfl ⟨by decide, by decide⟩ rfl rfl (Nat.le_of_ble_eq_true rfl) dX5_nextToken_87 ?_
      refine aw_ifeq_b C 182 dX5_nextToken_90 (by decide) (fun c_90 => ?_) (fun c_90 => ?_)
      · skip
        have d1 : isL (f (skp f n en)) = false := c_90
        refine aw_pc 182 rfl ?_
        refine aw_aload_n C dX5_nextToken_182 rfl ?_
        refine aw_getf C 0 4 5 18 inX5 rfl (by decide) rfl k3_239 rfl rfl dX5_nextToken_183 ?_
        refine aw_aload_n C dX5_nextToken_186 rfl ?_
        refine aw_getf C 0 4 8 18 inX5 rfl (by decide) rfl k4_2 rfl rfl dX5_nextToken_187 ?_
        refine aw_top (y := (nI (skp f n en))) rfl ?_
        refine aw_ialdN C 5 0 (skp f n en) rfl rfl rfl (by omega) (by decide) dX5_nextToken_190 ?_
        refine aw_top (y := (f (skp f n en))) rfl ?_
        refine aw_callSp C (As := [.int (f (skp f n en))]) (c_X5_isDigit l D cI cC adK adV (f (skp f n en))) k5_118 cs_X5_isDigit [] (by decide) rfl ⟨by decide, by decide⟩ rfl rfl ⟨by decide, by decide⟩ rfl rfl (Nat.le_of_ble_eq_true rfl) dX5_nextToken_191 ?_
        refine aw_ifeq_b C 304 dX5_nextToken_194 (by decide) (fun c_194 => ?_) (fun c_194 => ?_)
        · skip
          have d2 : isD (f (skp f n en)) = false := c_194
          refine aw_aload_n C dX5_nextToken_304 rfl ?_
          refine aw_aload_n C dX5_nextToken_305 rfl ?_
          refine aw_getf C 0 4 5 18 inX5 rfl (by decide) rfl k3_239 rfl rfl dX5_nextToken_306 ?_
          refine aw_pc 309 rfl ?_
          refine aw_aload_n C dX5_nextToken_309 rfl ?_
          refine aw_getf C 0 4 8 18 inX5 rfl (by decide) rfl k4_2 rfl rfl dX5_nextToken_310 ?_
          refine aw_top (y := (nI (skp f n en))) rfl ?_
          refine aw_ialdN C 5 0 (skp f n en) rfl rfl rfl (by omega) (by decide) dX5_nextToken_313 ?_
          refine aw_top (y := (f (skp f n en))) rfl ?_
          refine aw_bipush C (59 : Int32) dX5_nextToken_314 (by decide) ?_
          refine aw_icmp_ne C 323 dX5_nextToken_316 (by decide) (fun c_316 => ?_) (fun c_316 => ?_)
          · skip
            refine aw_iconst C (4 : Int32) dX5_nextToken_323 (by decide) ?_
            refine aw_putf C 0 4 7 18 tyX5 inX5 tyX5_ok nmX5 rfl (by decide) rfl k4_1 rfl rfl rfl rfl rfl (Nat.le_of_ble_eq_true rfl) (ws' := wMo cI cC y sr (kr, ar, ik, F, f, n, (4 : Int32), (skp f n en), (skp f n en), (0 : Int64), s1, s2, s3, cr)) (mo_put7 ..) dX5_nextToken_324 ?_
            refine aw_aload_n C dX5_nextToken_327 rfl ?_
            refine aw_dup C dX5_nextToken_328 rfl ?_
            refine aw_getf C 0 4 9 18 inX5 rfl (by decide) rfl k4_3 rfl rfl dX5_nextToken_329 ?_
            refine aw_top (y := (nI (skp f n en))) rfl ?_
            refine aw_pc 332 rfl ?_
            refine aw_iconst C (1 : Int32) dX5_nextToken_332 (by decide) ?_
            refine aw_iadd C dX5_nextToken_333 ?_
            refine aw_top (y := (nI ((skp f n en) + 1))) (by exact nI_1 _) ?_
            refine aw_putf C 0 4 9 18 tyX5 inX5 tyX5_ok nmX5 rfl (by decide) rfl k4_3 rfl rfl rfl rfl rfl (Nat.le_of_ble_eq_true rfl) (ws' := wMo cI cC y sr (kr, ar, ik, F, f, n, (4 : Int32), (skp f n en), ((skp f n en) + 1), (0 : Int64), s1, s2, s3, cr)) (mo_put9 ..) dX5_nextToken_334 ?_
            exact aw_vret C hr hlk dX5_nextToken_337 ⟨rfl, by obtain ⟨a1, a2, a3⟩ := st_X d0 d1 d2; rw [a1, a2, a3]; first | rw [decide_eq_true c_316, cond_true] | rw [decide_eq_false c_316, cond_false]⟩
          · skip
            refine aw_iconst C (3 : Int32) dX5_nextToken_319 (by decide) ?_
            refine aw_goto C 324 dX5_nextToken_320 (by decide) ?_
            refine aw_putf C 0 4 7 18 tyX5 inX5 tyX5_ok nmX5 rfl (by decide) rfl k4_1 rfl rfl rfl rfl rfl (Nat.le_of_ble_eq_true rfl) (ws' := wMo cI cC y sr (kr, ar, ik, F, f, n, (3 : Int32), (skp f n en), (skp f n en), (0 : Int64), s1, s2, s3, cr)) (mo_put7 ..) dX5_nextToken_324 ?_
            refine aw_aload_n C dX5_nextToken_327 rfl ?_
            refine aw_dup C dX5_nextToken_328 rfl ?_
            refine aw_getf C 0 4 9 18 inX5 rfl (by decide) rfl k4_3 rfl rfl dX5_nextToken_329 ?_
            refine aw_top (y := (nI (skp f n en))) rfl ?_
            refine aw_pc 332 rfl ?_
            refine aw_iconst C (1 : Int32) dX5_nextToken_332 (by decide) ?_
            refine aw_iadd C dX5_nextToken_333 ?_
            refine aw_top (y := (nI ((skp f n en) + 1))) (by exact nI_1 _) ?_
            refine aw_putf C 0 4 9 18 tyX5 inX5 tyX5_ok nmX5 rfl (by decide) rfl k4_3 rfl rfl rfl rfl rfl (Nat.le_of_ble_eq_true rfl) (ws' := wMo cI cC y sr (kr, ar, ik, F, f, n, (3 : Int32), (skp f n en), ((skp f n en) + 1), (0 : Int64), s1, s2, s3, cr)) (mo_put9 ..) dX5_nextToken_334 ?_
            exact aw_vret C hr hlk dX5_nextToken_337 ⟨rfl, by obtain ⟨a1, a2, a3⟩ := st_X d0 d1 d2; rw [a1, a2, a3]; first | rw [decide_eq_true c_316, cond_true] | rw [decide_eq_false c_316, cond_false]⟩
        · skip
          have d2 : isD (f (skp f n en)) = true := c_194
          refine aw_eq (lv' := [(0, .ref (y 0))]) (ws' := wMo cI cC y sr (kr, ar, ik, F, f, n, tk, (skp f n en), ((skp f n en) + 0), (vdI f (skp f n en) 0), s1, s2, s3, cr)) (by first | rfl | (simp only [itr, c_67, c_90, c_194])) rfl (by rfl) ?_
          refine aw_loop (LV := fun j => [(0, .ref (y 0))]) (WS := fun j => wMo cI cC y sr (kr, ar, ik, F, f, n, tk, (skp f n en), ((skp f n en) + j), (vdI f (skp f n en) j), s1, s2, s3, cr)) (n - (skp f n en)) (Inv := fun i => ∀ k, k < i → (!isD (f ((skp f n en) + k))) = false) (fun k hk => absurd hk (Nat.not_lt_zero k)) ?_ ?_
          · intro hv197
            refine aw_aload_n C dX5_nextToken_197 rfl ?_
            refine aw_getf C 0 4 9 18 inX5 rfl (by decide) rfl k4_3 rfl rfl dX5_nextToken_198 ?_
            refine aw_top (y := (nI ((skp f n en) + (n - (skp f n en))))) rfl ?_
            refine aw_aload_n C dX5_nextToken_201 rfl ?_
            refine aw_getf C 0 4 6 18 inX5 rfl (by decide) rfl k4_0 rfl rfl dX5_nextToken_202 ?_
            refine aw_top (y := (nI n)) rfl ?_
            refine aw_icmp_ge C 281 dX5_nextToken_205 (by decide) (fun c_205 => ?_) (fun c_205 => absurd c_205 (fun z => z (nI_le (by omega) (by omega))))
            refine aw_aload_n C dX5_nextToken_281 rfl ?_
            refine aw_pc 282 rfl ?_
            refine aw_aload_n C dX5_nextToken_282 rfl ?_
            refine aw_getf C 0 4 10 18 inX5 rfl (by decide) rfl k4_4 rfl rfl dX5_nextToken_283 ?_
            refine aw_topv (y := .long (vdI f (skp f n en) (n - (skp f n en)))) rfl ?_
            refine aw_ldc2 C k5_121 dX5_nextToken_286 ?_
            refine aw_lcmp C dX5_nextToken_289 ?_
            refine aw_if_le C 297 dX5_nextToken_290 (by decide) (fun c_290 => ?_) (fun c_290 => ?_)
            · skip
              refine aw_iconst C (2 : Int32) dX5_nextToken_297 (by decide) ?_
              refine aw_putf C 0 4 7 18 tyX5 inX5 tyX5_ok nmX5 rfl (by decide) rfl k4_1 rfl rfl rfl rfl rfl (Nat.le_of_ble_eq_true rfl) (ws' := wMo cI cC y sr (kr, ar, ik, F, f, n, (2 : Int32), (skp f n en), ((skp f n en) + (n - (skp f n en))), (vdI f (skp f n en) (n - (skp f n en))), s1, s2, s3, cr)) (mo_put7 ..) dX5_nextToken_298 ?_
              refine aw_goto C 337 dX5_nextToken_301 (by decide) ?_
              exact aw_vret C hr hlk dX5_nextToken_337 ⟨rfl, by have hr : runD f n (skp f n en) = (skp f n en) + (n - (skp f n en)) := by {first | (rw [runD, fst9_at hv197 (by show (!isD (f ((skp f n en) + j))) = true; rw [show isD (f ((skp f n en) + j)) = false from c_220]; rfl) hi197]) | (rw [runD, fst9_none hv197])}; obtain ⟨a1, a2, a3⟩ := st_D d0 d1 d2; rw [a1, a2, a3, hr, Nat.add_sub_cancel_left]; first | rw [← t999_y c_290] | rw [← t999_n c_290]⟩
            · skip
              refine aw_iconst C (4 : Int32) dX5_nextToken_293 (by decide) ?_
              refine aw_pc 294 rfl ?_
              refine aw_goto C 298 dX5_nextToken_294 (by decide) ?_
              refine aw_putf C 0 4 7 18 tyX5 inX5 tyX5_ok nmX5 rfl (by decide) rfl k4_1 rfl rfl rfl rfl rfl (Nat.le_of_ble_eq_true rfl) (ws' := wMo cI cC y sr (kr, ar, ik, F, f, n, (4 : Int32), (skp f n en), ((skp f n en) + (n - (skp f n en))), (vdI f (skp f n en) (n - (skp f n en))), s1, s2, s3, cr)) (mo_put7 ..) dX5_nextToken_298 ?_
              refine aw_goto C 337 dX5_nextToken_301 (by decide) ?_
              exact aw_vret C hr hlk dX5_nextToken_337 ⟨rfl, by have hr : runD f n (skp f n en) = (skp f n en) + (n - (skp f n en)) := by {first | (rw [runD, fst9_at hv197 (by show (!isD (f ((skp f n en) + j))) = true; rw [show isD (f ((skp f n en) + j)) = false from c_220]; rfl) hi197]) | (rw [runD, fst9_none hv197])}; obtain ⟨a1, a2, a3⟩ := st_D d0 d1 d2; rw [a1, a2, a3, hr, Nat.add_sub_cancel_left]; first | rw [← t999_y c_290] | rw [← t999_n c_290]⟩
          · intro j hi197 hv197 ih197
            refine aw_aload_n C dX5_nextToken_197 rfl ?_
            refine aw_getf C 0 4 9 18 inX5 rfl (by decide) rfl k4_3 rfl rfl dX5_nextToken_198 ?_
            refine aw_top (y := (nI ((skp f n en) + j))) rfl ?_
            refine aw_aload_n C dX5_nextToken_201 rfl ?_
            refine aw_getf C 0 4 6 18 inX5 rfl (by decide) rfl k4_0 rfl rfl dX5_nextToken_202 ?_
            refine aw_top (y := (nI n)) rfl ?_
            refine aw_icmp_ge C 281 dX5_nextToken_205 (by decide) (fun c_205 => absurd c_205 (nI_ge (by omega) (by omega))) (fun c_205 => ?_)
            refine aw_aload_n C dX5_nextToken_208 rfl ?_
            refine aw_pc 209 rfl ?_
            refine aw_getf C 0 4 5 18 inX5 rfl (by decide) rfl k3_239 rfl rfl dX5_nextToken_209 ?_
            refine aw_aload_n C dX5_nextToken_212 rfl ?_
            refine aw_getf C 0 4 9 18 inX5 rfl (by decide) rfl k4_3 rfl rfl dX5_nextToken_213 ?_
            refine aw_top (y := (nI ((skp f n en) + j))) rfl ?_
            refine aw_ialdN C 5 0 ((skp f n en) + j) rfl rfl rfl (by omega) (by decide) dX5_nextToken_216 ?_
            refine aw_top (y := (f ((skp f n en) + j))) rfl ?_
            refine aw_callSp C (As := [.int (f ((skp f n en) + j))]) (c_X5_isDigit l D cI cC adK adV (f ((skp f n en) + j))) k5_118 cs_X5_isDigit [] (by decide) rfl ⟨by decide, by decide⟩ rfl rfl ⟨by decide, by decide⟩ rfl rfl (Nat.le_of_ble_eq_true rfl) dX5_nextToken_217 ?_
            refine aw_ifeq_b C 281 dX5_nextToken_220 (by decide) (fun c_220 => ?_) (fun c_220 => ?_)
            · skip
              refine aw_aload_n C dX5_nextToken_281 rfl ?_
              refine aw_aload_n C dX5_nextToken_282 rfl ?_
              refine aw_getf C 0 4 10 18 inX5 rfl (by decide) rfl k4_4 rfl rfl dX5_nextToken_283 ?_
              refine aw_topv (y := .long (vdI f (skp f n en) j)) rfl ?_
              refine aw_ldc2 C k5_121 dX5_nextToken_286 ?_
              refine aw_pc 289 rfl ?_
              refine aw_lcmp C dX5_nextToken_289 ?_
              refine aw_if_le C 297 dX5_nextToken_290 (by decide) (fun c_290 => ?_) (fun c_290 => ?_)
              · skip
                refine aw_iconst C (2 : Int32) dX5_nextToken_297 (by decide) ?_
                refine aw_putf C 0 4 7 18 tyX5 inX5 tyX5_ok nmX5 rfl (by decide) rfl k4_1 rfl rfl rfl rfl rfl (Nat.le_of_ble_eq_true rfl) (ws' := wMo cI cC y sr (kr, ar, ik, F, f, n, (2 : Int32), (skp f n en), ((skp f n en) + j), (vdI f (skp f n en) j), s1, s2, s3, cr)) (mo_put7 ..) dX5_nextToken_298 ?_
                refine aw_goto C 337 dX5_nextToken_301 (by decide) ?_
                exact aw_vret C hr hlk dX5_nextToken_337 ⟨rfl, by have hr : runD f n (skp f n en) = (skp f n en) + j := by {first | (rw [runD, fst9_at hv197 (by show (!isD (f ((skp f n en) + j))) = true; rw [show isD (f ((skp f n en) + j)) = false from c_220]; rfl) hi197]) | (rw [runD, fst9_none hv197])}; obtain ⟨a1, a2, a3⟩ := st_D d0 d1 d2; rw [a1, a2, a3, hr, Nat.add_sub_cancel_left]; first | rw [← t999_y c_290] | rw [← t999_n c_290]⟩
              · skip
                refine aw_iconst C (4 : Int32) dX5_nextToken_293 (by decide) ?_
                refine aw_goto C 298 dX5_nextToken_294 (by decide) ?_
                refine aw_putf C 0 4 7 18 tyX5 inX5 tyX5_ok nmX5 rfl (by decide) rfl k4_1 rfl rfl rfl rfl rfl (Nat.le_of_ble_eq_true rfl) (ws' := wMo cI cC y sr (kr, ar, ik, F, f, n, (4 : Int32), (skp f n en), ((skp f n en) + j), (vdI f (skp f n en) j), s1, s2, s3, cr)) (mo_put7 ..) dX5_nextToken_298 ?_
                refine aw_goto C 337 dX5_nextToken_301 (by decide) ?_
                refine aw_pc 337 rfl ?_
                exact aw_vret C hr hlk dX5_nextToken_337 ⟨rfl, by have hr : runD f n (skp f n en) = (skp f n en) + j := by {first | (rw [runD, fst9_at hv197 (by show (!isD (f ((skp f n en) + j))) = true; rw [show isD (f ((skp f n en) + j)) = false from c_220]; rfl) hi197]) | (rw [runD, fst9_none hv197])}; obtain ⟨a1, a2, a3⟩ := st_D d0 d1 d2; rw [a1, a2, a3, hr, Nat.add_sub_cancel_left]; first | rw [← t999_y c_290] | rw [← t999_n c_290]⟩
            · skip
              refine aw_aload_n C dX5_nextToken_223 rfl ?_
              refine aw_aload_n C dX5_nextToken_224 rfl ?_
              refine aw_getf C 0 4 10 18 inX5 rfl (by decide) rfl k4_4 rfl rfl dX5_nextToken_225 ?_
              refine aw_topv (y := .long (vdI f (skp f n en) j)) rfl ?_
              refine aw_ldc2 C k5_121 dX5_nextToken_228 ?_
              refine aw_lcmp C dX5_nextToken_231 ?_
              refine aw_if_le C 242 dX5_nextToken_232 (by decide) (fun c_232 => ?_) (fun c_232 => ?_)
              · skip
                refine aw_aload_n C dX5_nextToken_242 rfl ?_
                refine aw_getf C 0 4 10 18 inX5 rfl (by decide) rfl k4_4 rfl rfl dX5_nextToken_243 ?_
                refine aw_topv (y := .long (vdI f (skp f n en) j)) rfl ?_
                refine aw_ldc2 C k5_122 dX5_nextToken_246 ?_
                refine aw_pc 249 rfl ?_
                refine aw_lmul C dX5_nextToken_249 ?_
                refine aw_aload_n C dX5_nextToken_250 rfl ?_
                refine aw_getf C 0 4 5 18 inX5 rfl (by decide) rfl k3_239 rfl rfl dX5_nextToken_251 ?_
                refine aw_aload_n C dX5_nextToken_254 rfl ?_
                refine aw_getf C 0 4 9 18 inX5 rfl (by decide) rfl k4_3 rfl rfl dX5_nextToken_255 ?_
                refine aw_top (y := (nI ((skp f n en) + j))) rfl ?_
                refine aw_ialdN C 5 0 ((skp f n en) + j) rfl rfl rfl (by omega) (by decide) dX5_nextToken_258 ?_
                refine aw_top (y := (f ((skp f n en) + j))) rfl ?_
                refine aw_i2l C dX5_nextToken_259 ?_
                refine aw_ladd C dX5_nextToken_260 ?_
                refine aw_ldc2 C k5_123 dX5_nextToken_261 ?_
                refine aw_lsub C dX5_nextToken_264 ?_
                refine aw_pc 265 rfl ?_
                refine aw_putf C 0 4 10 18 tyX5 inX5 tyX5_ok nmX5 rfl (by decide) rfl k4_4 rfl rfl rfl rfl rfl (Nat.le_of_ble_eq_true rfl) (ws' := wMo cI cC y sr (kr, ar, ik, F, f, n, tk, (skp f n en), ((skp f n en) + j), ((((vdI f (skp f n en) j) * (10 : Int64)) + ((f ((skp f n en) + j)).toInt64)) - (48 : Int64)), s1, s2, s3, cr)) (mo_put10 ..) dX5_nextToken_265 ?_
                refine aw_aload_n C dX5_nextToken_268 rfl ?_
                refine aw_dup C dX5_nextToken_269 rfl ?_
                refine aw_getf C 0 4 9 18 inX5 rfl (by decide) rfl k4_3 rfl rfl dX5_nextToken_270 ?_
                refine aw_top (y := (nI ((skp f n en) + j))) rfl ?_
                refine aw_iconst C (1 : Int32) dX5_nextToken_273 (by decide) ?_
                refine aw_iadd C dX5_nextToken_274 ?_
                refine aw_top (y := (nI ((skp f n en) + j + 1))) (by exact nI_1 _) ?_
                refine aw_putf C 0 4 9 18 tyX5 inX5 tyX5_ok nmX5 rfl (by decide) rfl k4_3 rfl rfl rfl rfl rfl (Nat.le_of_ble_eq_true rfl) (ws' := wMo cI cC y sr (kr, ar, ik, F, f, n, tk, (skp f n en), ((skp f n en) + j + 1), ((((vdI f (skp f n en) j) * (10 : Int64)) + ((f ((skp f n en) + j)).toInt64)) - (48 : Int64)), s1, s2, s3, cr)) (mo_put9 ..) dX5_nextToken_275 ?_
                refine aw_goto C 197 dX5_nextToken_278 (by decide) ?_
                exact aw_eq (by first | rfl | (simp only [itr, c_67, c_90, c_194, c_220, c_232])) rfl (by first | (rw [vd_y c_232] <;> rfl) | (rw [vd_n c_232] <;> rfl)) (ih197 (all_s hv197 (by rw [show isD (f ((skp f n en) + j)) = true from c_220]; rfl)))
              · skip
                refine aw_aload_n C dX5_nextToken_235 rfl ?_
                refine aw_getf C 0 4 10 18 inX5 rfl (by decide) rfl k4_4 rfl rfl dX5_nextToken_236 ?_
                refine aw_topv (y := .long (vdI f (skp f n en) j)) rfl ?_
                refine aw_pc 239 rfl ?_
                refine aw_goto C 265 dX5_nextToken_239 (by decide) ?_
                refine aw_putf C 0 4 10 18 tyX5 inX5 tyX5_ok nmX5 rfl (by decide) rfl k4_4 rfl rfl rfl rfl rfl (Nat.le_of_ble_eq_true rfl) (ws' := wMo cI cC y sr (kr, ar, ik, F, f, n, tk, (skp f n en), ((skp f n en) + j), (vdI f (skp f n en) j), s1, s2, s3, cr)) (mo_put10 ..) dX5_nextToken_265 ?_
                refine aw_aload_n C dX5_nextToken_268 rfl ?_
                refine aw_dup C dX5_nextToken_269 rfl ?_
                refine aw_getf C 0 4 9 18 inX5 rfl (by decide) rfl k4_3 rfl rfl dX5_nextToken_270 ?_
                refine aw_top (y := (nI ((skp f n en) + j))) rfl ?_
                refine aw_iconst C (1 : Int32) dX5_nextToken_273 (by decide) ?_
                refine aw_iadd C dX5_nextToken_274 ?_
                refine aw_top (y := (nI ((skp f n en) + j + 1))) (by exact nI_1 _) ?_
                refine aw_putf C 0 4 9 18 tyX5 inX5 tyX5_ok nmX5 rfl (by decide) rfl k4_3 rfl rfl rfl rfl rfl (Nat.le_of_ble_eq_true rfl) (ws' := wMo cI cC y sr (kr, ar, ik, F, f, n, tk, (skp f n en), ((skp f n en) + j + 1), (vdI f (skp f n en) j), s1, s2, s3, cr)) (mo_put9 ..) dX5_nextToken_275 ?_
                refine aw_goto C 197 dX5_nextToken_278 (by decide) ?_
                exact aw_eq (by first | rfl | (simp only [itr, c_67, c_90, c_194, c_220, c_232])) rfl (by first | (rw [vd_y c_232] <;> rfl) | (rw [vd_n c_232] <;> rfl)) (ih197 (all_s hv197 (by rw [show isD (f ((skp f n en) + j)) = true from c_220]; rfl)))
      · skip
        have d1 : isL (f (skp f n en)) = true := c_90
        refine aw_aload_n C dX5_nextToken_93 rfl ?_
        refine aw_pc 94 rfl ?_
        refine aw_iconst C (1 : Int32) dX5_nextToken_94 (by decide) ?_
        refine aw_putf C 0 4 7 18 tyX5 inX5 tyX5_ok nmX5 rfl (by decide) rfl k4_1 rfl rfl rfl rfl rfl (Nat.le_of_ble_eq_true rfl) (ws' := wMo cI cC y sr (kr, ar, ik, F, f, n, (1 : Int32), (skp f n en), (skp f n en), (0 : Int64), s1, s2, s3, cr)) (mo_put7 ..) dX5_nextToken_95 ?_
        refine aw_eq (lv' := [(0, .ref (y 0))]) (ws' := wMo cI cC y sr (kr, ar, ik, F, f, n, (1 : Int32), (skp f n en), ((skp f n en) + 0), (vwI f (skp f n en) 0), s1, s2, s3, cr)) (by first | rfl | (simp only [itr, c_67, c_90])) rfl (by rfl) ?_
        refine aw_loop (LV := fun j => [(0, .ref (y 0))]) (WS := fun j => wMo cI cC y sr (kr, ar, ik, F, f, n, (1 : Int32), (skp f n en), ((skp f n en) + j), (vwI f (skp f n en) j), s1, s2, s3, cr)) (n - (skp f n en)) (Inv := fun i => ∀ k, k < i → (!isL (f ((skp f n en) + k))) = false) (fun k hk => absurd hk (Nat.not_lt_zero k)) ?_ ?_
        · intro hv98
          refine aw_aload_n C dX5_nextToken_98 rfl ?_
          refine aw_getf C 0 4 9 18 inX5 rfl (by decide) rfl k4_3 rfl rfl dX5_nextToken_99 ?_
          refine aw_top (y := (nI ((skp f n en) + (n - (skp f n en))))) rfl ?_
          refine aw_aload_n C dX5_nextToken_102 rfl ?_
          refine aw_getf C 0 4 6 18 inX5 rfl (by decide) rfl k4_0 rfl rfl dX5_nextToken_103 ?_
          refine aw_top (y := (nI n)) rfl ?_
          refine aw_icmp_ge C 337 dX5_nextToken_106 (by decide) (fun c_106 => ?_) (fun c_106 => absurd c_106 (fun z => z (nI_le (by omega) (by omega))))
          exact aw_vret C hr hlk dX5_nextToken_337 ⟨rfl, by have hr : runL f n (skp f n en) = (skp f n en) + (n - (skp f n en)) := by {first | (rw [runL, fst9_at hv98 (by show (!isL (f ((skp f n en) + j))) = true; rw [show isL (f ((skp f n en) + j)) = false from c_121]; rfl) hi98]) | (rw [runL, fst9_none hv98])}; obtain ⟨a1, a2, a3⟩ := st_L d0 d1; rw [a1, a2, a3, hr, Nat.add_sub_cancel_left]⟩
        · intro j hi98 hv98 ih98
          refine aw_aload_n C dX5_nextToken_98 rfl ?_
          refine aw_getf C 0 4 9 18 inX5 rfl (by decide) rfl k4_3 rfl rfl dX5_nextToken_99 ?_
          refine aw_top (y := (nI ((skp f n en) + j))) rfl ?_
          refine aw_pc 102 rfl ?_
          refine aw_aload_n C dX5_nextToken_102 rfl ?_
          refine aw_getf C 0 4 6 18 inX5 rfl (by decide) rfl k4_0 rfl rfl dX5_nextToken_103 ?_
          refine aw_top (y := (nI n)) rfl ?_
          refine aw_icmp_ge C 337 dX5_nextToken_106 (by decide) (fun c_106 => absurd c_106 (nI_ge (by omega) (by omega))) (fun c_106 => ?_)
          refine aw_aload_n C dX5_nextToken_109 rfl ?_
          refine aw_getf C 0 4 5 18 inX5 rfl (by decide) rfl k3_239 rfl rfl dX5_nextToken_110 ?_
          refine aw_aload_n C dX5_nextToken_113 rfl ?_
          refine aw_getf C 0 4 9 18 inX5 rfl (by decide) rfl k4_3 rfl rfl dX5_nextToken_114 ?_
          refine aw_top (y := (nI ((skp f n en) + j))) rfl ?_
          refine aw_ialdN C 5 0 ((skp f n en) + j) rfl rfl rfl (by omega) (by decide) dX5_nextToken_117 ?_
          refine aw_top (y := (f ((skp f n en) + j))) rfl ?_
          refine aw_callSp C (As := [.int (f ((skp f n en) + j))]) (c_X5_isLetter l D cI cC adK adV (f ((skp f n en) + j))) k5_112 cs_X5_isLetter [] (by decide) rfl ⟨by decide, by decide⟩ rfl rfl ⟨by decide, by decide⟩ rfl rfl (Nat.le_of_ble_eq_true rfl) dX5_nextToken_118 ?_
          refine aw_ifeq_b C 337 dX5_nextToken_121 (by decide) (fun c_121 => ?_) (fun c_121 => ?_)
          · skip
            refine aw_pc 337 rfl ?_
            exact aw_vret C hr hlk dX5_nextToken_337 ⟨rfl, by have hr : runL f n (skp f n en) = (skp f n en) + j := by {first | (rw [runL, fst9_at hv98 (by show (!isL (f ((skp f n en) + j))) = true; rw [show isL (f ((skp f n en) + j)) = false from c_121]; rfl) hi98]) | (rw [runL, fst9_none hv98])}; obtain ⟨a1, a2, a3⟩ := st_L d0 d1; rw [a1, a2, a3, hr, Nat.add_sub_cancel_left]⟩
          · skip
            refine aw_aload_n C dX5_nextToken_124 rfl ?_
            refine aw_aload_n C dX5_nextToken_125 rfl ?_
            refine aw_getf C 0 4 10 18 inX5 rfl (by decide) rfl k4_4 rfl rfl dX5_nextToken_126 ?_
            refine aw_topv (y := .long (vwI f (skp f n en) j)) rfl ?_
            refine aw_ldc2 C k5_115 dX5_nextToken_129 ?_
            refine aw_lcmp C dX5_nextToken_132 ?_
            refine aw_if_le C 143 dX5_nextToken_133 (by decide) (fun c_133 => ?_) (fun c_133 => ?_)
            · skip
              refine aw_aload_n C dX5_nextToken_143 rfl ?_
              refine aw_getf C 0 4 10 18 inX5 rfl (by decide) rfl k4_4 rfl rfl dX5_nextToken_144 ?_
              refine aw_topv (y := .long (vwI f (skp f n en) j)) rfl ?_
              refine aw_ldc2 C k5_116 dX5_nextToken_147 ?_
              refine aw_pc 150 rfl ?_
              refine aw_lmul C dX5_nextToken_150 ?_
              refine aw_aload_n C dX5_nextToken_151 rfl ?_
              refine aw_getf C 0 4 5 18 inX5 rfl (by decide) rfl k3_239 rfl rfl dX5_nextToken_152 ?_
              refine aw_aload_n C dX5_nextToken_155 rfl ?_
              refine aw_getf C 0 4 9 18 inX5 rfl (by decide) rfl k4_3 rfl rfl dX5_nextToken_156 ?_
              refine aw_top (y := (nI ((skp f n en) + j))) rfl ?_
              refine aw_ialdN C 5 0 ((skp f n en) + j) rfl rfl rfl (by omega) (by decide) dX5_nextToken_159 ?_
              refine aw_top (y := (f ((skp f n en) + j))) rfl ?_
              refine aw_i2l C dX5_nextToken_160 ?_
              refine aw_ladd C dX5_nextToken_161 ?_
              refine aw_ldc2 C k5_117 dX5_nextToken_162 ?_
              refine aw_lsub C dX5_nextToken_165 ?_
              refine aw_pc 166 rfl ?_
              refine aw_putf C 0 4 10 18 tyX5 inX5 tyX5_ok nmX5 rfl (by decide) rfl k4_4 rfl rfl rfl rfl rfl (Nat.le_of_ble_eq_true rfl) (ws' := wMo cI cC y sr (kr, ar, ik, F, f, n, (1 : Int32), (skp f n en), ((skp f n en) + j), ((((vwI f (skp f n en) j) * (27 : Int64)) + ((f ((skp f n en) + j)).toInt64)) - (96 : Int64)), s1, s2, s3, cr)) (mo_put10 ..) dX5_nextToken_166 ?_
              refine aw_aload_n C dX5_nextToken_169 rfl ?_
              refine aw_dup C dX5_nextToken_170 rfl ?_
              refine aw_getf C 0 4 9 18 inX5 rfl (by decide) rfl k4_3 rfl rfl dX5_nextToken_171 ?_
              refine aw_top (y := (nI ((skp f n en) + j))) rfl ?_
              refine aw_iconst C (1 : Int32) dX5_nextToken_174 (by decide) ?_
              refine aw_iadd C dX5_nextToken_175 ?_
              refine aw_top (y := (nI ((skp f n en) + j + 1))) (by exact nI_1 _) ?_
              refine aw_putf C 0 4 9 18 tyX5 inX5 tyX5_ok nmX5 rfl (by decide) rfl k4_3 rfl rfl rfl rfl rfl (Nat.le_of_ble_eq_true rfl) (ws' := wMo cI cC y sr (kr, ar, ik, F, f, n, (1 : Int32), (skp f n en), ((skp f n en) + j + 1), ((((vwI f (skp f n en) j) * (27 : Int64)) + ((f ((skp f n en) + j)).toInt64)) - (96 : Int64)), s1, s2, s3, cr)) (mo_put9 ..) dX5_nextToken_176 ?_
              refine aw_goto C 98 dX5_nextToken_179 (by decide) ?_
              exact aw_eq (by first | rfl | (simp only [itr, c_67, c_90, c_121, c_133])) rfl (by first | (rw [vw_y c_133] <;> rfl) | (rw [vw_n c_133] <;> rfl)) (ih98 (all_s hv98 (by rw [show isL (f ((skp f n en) + j)) = true from c_121]; rfl)))
            · skip
              refine aw_aload_n C dX5_nextToken_136 rfl ?_
              refine aw_getf C 0 4 10 18 inX5 rfl (by decide) rfl k4_4 rfl rfl dX5_nextToken_137 ?_
              refine aw_topv (y := .long (vwI f (skp f n en) j)) rfl ?_
              refine aw_pc 140 rfl ?_
              refine aw_goto C 166 dX5_nextToken_140 (by decide) ?_
              refine aw_putf C 0 4 10 18 tyX5 inX5 tyX5_ok nmX5 rfl (by decide) rfl k4_4 rfl rfl rfl rfl rfl (Nat.le_of_ble_eq_true rfl) (ws' := wMo cI cC y sr (kr, ar, ik, F, f, n, (1 : Int32), (skp f n en), ((skp f n en) + j), (vwI f (skp f n en) j), s1, s2, s3, cr)) (mo_put10 ..) dX5_nextToken_166 ?_
              refine aw_aload_n C dX5_nextToken_169 rfl ?_
              refine aw_dup C dX5_nextToken_170 rfl ?_
              refine aw_getf C 0 4 9 18 inX5 rfl (by decide) rfl k4_3 rfl rfl dX5_nextToken_171 ?_
              refine aw_top (y := (nI ((skp f n en) + j))) rfl ?_
              refine aw_iconst C (1 : Int32) dX5_nextToken_174 (by decide) ?_
              refine aw_iadd C dX5_nextToken_175 ?_
              refine aw_top (y := (nI ((skp f n en) + j + 1))) (by exact nI_1 _) ?_
              refine aw_putf C 0 4 9 18 tyX5 inX5 tyX5_ok nmX5 rfl (by decide) rfl k4_3 rfl rfl rfl rfl rfl (Nat.le_of_ble_eq_true rfl) (ws' := wMo cI cC y sr (kr, ar, ik, F, f, n, (1 : Int32), (skp f n en), ((skp f n en) + j + 1), (vwI f (skp f n en) j), s1, s2, s3, cr)) (mo_put9 ..) dX5_nextToken_176 ?_
              refine aw_goto C 98 dX5_nextToken_179 (by decide) ?_
              exact aw_eq (by first | rfl | (simp only [itr, c_67, c_90, c_121, c_133])) rfl (by first | (rw [vw_y c_133] <;> rfl) | (rw [vw_n c_133] <;> rfl)) (ih98 (all_s hv98 (by rw [show isL (f ((skp f n en) + j)) = true from c_121]; rfl)))
    · skip
      have d0 : decide (n ≤ (skp f n en)) = true := decide_eq_true (Nat.le_of_eq (nI_eqn (by omega) (by omega) c_67).symm)
      refine aw_aload_n C dX5_nextToken_70 rfl ?_
      refine aw_pc 71 rfl ?_
      refine aw_iconst C (0 : Int32) dX5_nextToken_71 (by decide) ?_
      refine aw_putf C 0 4 7 18 tyX5 inX5 tyX5_ok nmX5 rfl (by decide) rfl k4_1 rfl rfl rfl rfl rfl (Nat.le_of_ble_eq_true rfl) (ws' := wMo cI cC y sr (kr, ar, ik, F, f, n, (0 : Int32), (skp f n en), (skp f n en), (0 : Int64), s1, s2, s3, cr)) (mo_put7 ..) dX5_nextToken_72 ?_
      refine aw_goto C 337 dX5_nextToken_75 (by decide) ?_
      exact aw_vret C hr hlk dX5_nextToken_337 ⟨rfl, by obtain ⟨a1, a2, a3⟩ := st_0 d0; rw [a1, a2, a3]⟩
  · intro i hi8 hv8 ih8
    refine aw_aload_n C dX5_nextToken_8 rfl ?_
    refine aw_getf C 0 4 8 18 inX5 rfl (by decide) rfl k4_2 rfl rfl dX5_nextToken_9 ?_
    refine aw_top (y := (nI (en + i))) rfl ?_
    refine aw_aload_n C dX5_nextToken_12 rfl ?_
    refine aw_getf C 0 4 6 18 inX5 rfl (by decide) rfl k4_0 rfl rfl dX5_nextToken_13 ?_
    refine aw_top (y := (nI n)) rfl ?_
    refine aw_icmp_ge C 46 dX5_nextToken_16 (by decide) (fun c_16 => absurd c_16 (nI_ge (by omega) (by omega))) (fun c_16 => ?_)
    refine aw_aload_n C dX5_nextToken_19 rfl ?_
    refine aw_pc 20 rfl ?_
    refine aw_getf C 0 4 5 18 inX5 rfl (by decide) rfl k3_239 rfl rfl dX5_nextToken_20 ?_
    refine aw_aload_n C dX5_nextToken_23 rfl ?_
    refine aw_getf C 0 4 8 18 inX5 rfl (by decide) rfl k4_2 rfl rfl dX5_nextToken_24 ?_
    refine aw_top (y := (nI (en + i))) rfl ?_
    refine aw_ialdN C 5 0 (en + i) rfl rfl rfl (by omega) (by decide) dX5_nextToken_27 ?_
    refine aw_top (y := (f (en + i))) rfl ?_
    refine aw_bipush C (32 : Int32) dX5_nextToken_28 (by decide) ?_
    refine aw_icmp_ne C 46 dX5_nextToken_30 (by decide) (fun c_30 => ?_) (fun c_30 => ?_)
    · skip
      refine aw_eq (lv' := [(0, .ref (y 0))]) (ws' := wMo cI cC y sr (kr, ar, ik, F, f, n, tk, (skp f n en), en, vl, s1, s2, s3, cr)) rfl rfl (by first | (rw [skp, fst9_at hv8 (by show (!decide (f (en + i) = 32)) = true; rw [decide_eq_false c_30]; rfl) hi8]) | (rw [skp, fst9_none hv8])) ?_
      have hpn : (skp f n en) ≤ n := skp_le he
      refine aw_aload_n C dX5_nextToken_46 rfl ?_
      refine aw_aload_n C dX5_nextToken_47 rfl ?_
      refine aw_getf C 0 4 8 18 inX5 rfl (by decide) rfl k4_2 rfl rfl dX5_nextToken_48 ?_
      refine aw_top (y := (nI (skp f n en))) rfl ?_
      refine aw_pc 51 rfl ?_
      refine aw_putf C 0 4 9 18 tyX5 inX5 tyX5_ok nmX5 rfl (by decide) rfl k4_3 rfl rfl rfl rfl rfl (Nat.le_of_ble_eq_true rfl) (ws' := wMo cI cC y sr (kr, ar, ik, F, f, n, tk, (skp f n en), (skp f n en), vl, s1, s2, s3, cr)) (mo_put9 ..) dX5_nextToken_51 ?_
      refine aw_aload_n C dX5_nextToken_54 rfl ?_
      refine aw_lconst C (0 : Int64) dX5_nextToken_55 (by decide) ?_
      refine aw_putf C 0 4 10 18 tyX5 inX5 tyX5_ok nmX5 rfl (by decide) rfl k4_4 rfl rfl rfl rfl rfl (Nat.le_of_ble_eq_true rfl) (ws' := wMo cI cC y sr (kr, ar, ik, F, f, n, tk, (skp f n en), (skp f n en), (0 : Int64), s1, s2, s3, cr)) (mo_put10 ..) dX5_nextToken_56 ?_
      refine aw_aload_n C dX5_nextToken_59 rfl ?_
      refine aw_getf C 0 4 8 18 inX5 rfl (by decide) rfl k4_2 rfl rfl dX5_nextToken_60 ?_
      refine aw_top (y := (nI (skp f n en))) rfl ?_
      refine aw_aload_n C dX5_nextToken_63 rfl ?_
      refine aw_getf C 0 4 6 18 inX5 rfl (by decide) rfl k4_0 rfl rfl dX5_nextToken_64 ?_
      refine aw_top (y := (nI n)) rfl ?_
      refine aw_icmp_ne C 78 dX5_nextToken_67 (by decide) (fun c_67 => ?_) (fun c_67 => ?_)
      · skip
        have hlt : (skp f n en) < n := Nat.lt_of_le_of_ne hpn (fun z => c_67 (by rw [z]))
        have d0 : decide (n ≤ (skp f n en)) = false := decide_eq_false (by omega)
        refine aw_aload_n C dX5_nextToken_78 rfl ?_
        refine aw_pc 79 rfl ?_
        refine aw_getf C 0 4 5 18 inX5 rfl (by decide) rfl k3_239 rfl rfl dX5_nextToken_79 ?_
        refine aw_aload_n C dX5_nextToken_82 rfl ?_
        refine aw_getf C 0 4 8 18 inX5 rfl (by decide) rfl k4_2 rfl rfl dX5_nextToken_83 ?_
        refine aw_top (y := (nI (skp f n en))) rfl ?_
        refine aw_ialdN C 5 0 (skp f n en) rfl rfl rfl (by omega) (by decide) dX5_nextToken_86 ?_
        refine aw_top (y := (f (skp f n en))) rfl ?_
        refine aw_callSp C (As := [.int (f (skp f n en))]) (c_X5_isLetter l D cI cC adK adV (f (skp f n en))) k5_112 cs_X5_isLetter [] (by decide) rfl ⟨by decide, by decide⟩ rfl rfl ⟨by decide, by decide⟩ rfl rfl (Nat.le_of_ble_eq_true rfl) dX5_nextToken_87 ?_
        refine aw_ifeq_b C 182 dX5_nextToken_90 (by decide) (fun c_90 => ?_) (fun c_90 => ?_)
        · skip
          have d1 : isL (f (skp f n en)) = false := c_90
          refine aw_aload_n C dX5_nextToken_182 rfl ?_
          refine aw_getf C 0 4 5 18 inX5 rfl (by decide) rfl k3_239 rfl rfl dX5_nextToken_183 ?_
          refine aw_aload_n C dX5_nextToken_186 rfl ?_
          refine aw_getf C 0 4 8 18 inX5 rfl (by decide) rfl k4_2 rfl rfl dX5_nextToken_187 ?_
          refine aw_top (y := (nI (skp f n en))) rfl ?_
          refine aw_pc 190 rfl ?_
          refine aw_ialdN C 5 0 (skp f n en) rfl rfl rfl (by omega) (by decide) dX5_nextToken_190 ?_
          refine aw_top (y := (f (skp f n en))) rfl ?_
          refine aw_callSp C (As := [.int (f (skp f n en))]) (c_X5_isDigit l D cI cC adK adV (f (skp f n en))) k5_118 cs_X5_isDigit [] (by decide) rfl ⟨by decide, by decide⟩ rfl rfl ⟨by decide, by decide⟩ rfl rfl (Nat.le_of_ble_eq_true rfl) dX5_nextToken_191 ?_
          refine aw_ifeq_b C 304 dX5_nextToken_194 (by decide) (fun c_194 => ?_) (fun c_194 => ?_)
          · skip
            have d2 : isD (f (skp f n en)) = false := c_194
            refine aw_aload_n C dX5_nextToken_304 rfl ?_
            refine aw_aload_n C dX5_nextToken_305 rfl ?_
            refine aw_getf C 0 4 5 18 inX5 rfl (by decide) rfl k3_239 rfl rfl dX5_nextToken_306 ?_
            refine aw_aload_n C dX5_nextToken_309 rfl ?_
            refine aw_getf C 0 4 8 18 inX5 rfl (by decide) rfl k4_2 rfl rfl dX5_nextToken_310 ?_
            refine aw_top (y := (nI (skp f n en))) rfl ?_
            refine aw_ialdN C 5 0 (skp f n en) rfl rfl rfl (by omega) (by decide) dX5_nextToken_313 ?_
            refine aw_top (y := (f (skp f n en))) rfl ?_
            refine aw_bipush C (59 : Int32) dX5_nextToken_314 (by decide) ?_
            refine aw_pc 316 rfl ?_
            refine aw_icmp_ne C 323 dX5_nextToken_316 (by decide) (fun c_316 => ?_) (fun c_316 => ?_)
            · skip
              refine aw_iconst C (4 : Int32) dX5_nextToken_323 (by decide) ?_
              refine aw_putf C 0 4 7 18 tyX5 inX5 tyX5_ok nmX5 rfl (by decide) rfl k4_1 rfl rfl rfl rfl rfl (Nat.le_of_ble_eq_true rfl) (ws' := wMo cI cC y sr (kr, ar, ik, F, f, n, (4 : Int32), (skp f n en), (skp f n en), (0 : Int64), s1, s2, s3, cr)) (mo_put7 ..) dX5_nextToken_324 ?_
              refine aw_aload_n C dX5_nextToken_327 rfl ?_
              refine aw_dup C dX5_nextToken_328 rfl ?_
              refine aw_getf C 0 4 9 18 inX5 rfl (by decide) rfl k4_3 rfl rfl dX5_nextToken_329 ?_
              refine aw_top (y := (nI (skp f n en))) rfl ?_
              refine aw_iconst C (1 : Int32) dX5_nextToken_332 (by decide) ?_
              refine aw_iadd C dX5_nextToken_333 ?_
              refine aw_top (y := (nI ((skp f n en) + 1))) (by exact nI_1 _) ?_
              refine aw_putf C 0 4 9 18 tyX5 inX5 tyX5_ok nmX5 rfl (by decide) rfl k4_3 rfl rfl rfl rfl rfl (Nat.le_of_ble_eq_true rfl) (ws' := wMo cI cC y sr (kr, ar, ik, F, f, n, (4 : Int32), (skp f n en), ((skp f n en) + 1), (0 : Int64), s1, s2, s3, cr)) (mo_put9 ..) dX5_nextToken_334 ?_
              exact aw_vret C hr hlk dX5_nextToken_337 ⟨rfl, by obtain ⟨a1, a2, a3⟩ := st_X d0 d1 d2; rw [a1, a2, a3]; first | rw [decide_eq_true c_316, cond_true] | rw [decide_eq_false c_316, cond_false]⟩
            · skip
              refine aw_pc 319 rfl ?_
              refine aw_iconst C (3 : Int32) dX5_nextToken_319 (by decide) ?_
              refine aw_goto C 324 dX5_nextToken_320 (by decide) ?_
              refine aw_putf C 0 4 7 18 tyX5 inX5 tyX5_ok nmX5 rfl (by decide) rfl k4_1 rfl rfl rfl rfl rfl (Nat.le_of_ble_eq_true rfl) (ws' := wMo cI cC y sr (kr, ar, ik, F, f, n, (3 : Int32), (skp f n en), (skp f n en), (0 : Int64), s1, s2, s3, cr)) (mo_put7 ..) dX5_nextToken_324 ?_
              refine aw_aload_n C dX5_nextToken_327 rfl ?_
              refine aw_dup C dX5_nextToken_328 rfl ?_
              refine aw_getf C 0 4 9 18 inX5 rfl (by decide) rfl k4_3 rfl rfl dX5_nextToken_329 ?_
              refine aw_top (y := (nI (skp f n en))) rfl ?_
              refine aw_iconst C (1 : Int32) dX5_nextToken_332 (by decide) ?_
              refine aw_iadd C dX5_nextToken_333 ?_
              refine aw_top (y := (nI ((skp f n en) + 1))) (by exact nI_1 _) ?_
              refine aw_putf C 0 4 9 18 tyX5 inX5 tyX5_ok nmX5 rfl (by decide) rfl k4_3 rfl rfl rfl rfl rfl (Nat.le_of_ble_eq_true rfl) (ws' := wMo cI cC y sr (kr, ar, ik, F, f, n, (3 : Int32), (skp f n en), ((skp f n en) + 1), (0 : Int64), s1, s2, s3, cr)) (mo_put9 ..) dX5_nextToken_334 ?_
              exact aw_vret C hr hlk dX5_nextToken_337 ⟨rfl, by obtain ⟨a1, a2, a3⟩ := st_X d0 d1 d2; rw [a1, a2, a3]; first | rw [decide_eq_true c_316, cond_true] | rw [decide_eq_false c_316, cond_false]⟩
          · skip
            have d2 : isD (f (skp f n en)) = true := c_194
            refine aw_eq (lv' := [(0, .ref (y 0))]) (ws' := wMo cI cC y sr (kr, ar, ik, F, f, n, tk, (skp f n en), ((skp f n en) + 0), (vdI f (skp f n en) 0), s1, s2, s3, cr)) (by first | rfl | (simp only [itr, c_30, c_67, c_90, c_194])) rfl (by rfl) ?_
            refine aw_loop (LV := fun j => [(0, .ref (y 0))]) (WS := fun j => wMo cI cC y sr (kr, ar, ik, F, f, n, tk, (skp f n en), ((skp f n en) + j), (vdI f (skp f n en) j), s1, s2, s3, cr)) (n - (skp f n en)) (Inv := fun i => ∀ k, k < i → (!isD (f ((skp f n en) + k))) = false) (fun k hk => absurd hk (Nat.not_lt_zero k)) ?_ ?_
            · intro hv197
              refine aw_pc 197 rfl ?_
              refine aw_aload_n C dX5_nextToken_197 rfl ?_
              refine aw_getf C 0 4 9 18 inX5 rfl (by decide) rfl k4_3 rfl rfl dX5_nextToken_198 ?_
              refine aw_top (y := (nI ((skp f n en) + (n - (skp f n en))))) rfl ?_
              refine aw_aload_n C dX5_nextToken_201 rfl ?_
              refine aw_getf C 0 4 6 18 inX5 rfl (by decide) rfl k4_0 rfl rfl dX5_nextToken_202 ?_
              refine aw_top (y := (nI n)) rfl ?_
              refine aw_icmp_ge C 281 dX5_nextToken_205 (by decide) (fun c_205 => ?_) (fun c_205 => absurd c_205 (fun z => z (nI_le (by omega) (by omega))))
              refine aw_aload_n C dX5_nextToken_281 rfl ?_
              refine aw_aload_n C dX5_nextToken_282 rfl ?_
              refine aw_getf C 0 4 10 18 inX5 rfl (by decide) rfl k4_4 rfl rfl dX5_nextToken_283 ?_
              refine aw_topv (y := .long (vdI f (skp f n en) (n - (skp f n en)))) rfl ?_
              refine aw_ldc2 C k5_121 dX5_nextToken_286 ?_
              refine aw_lcmp C dX5_nextToken_289 ?_
              refine aw_pc 290 rfl ?_
              refine aw_if_le C 297 dX5_nextToken_290 (by decide) (fun c_290 => ?_) (fun c_290 => ?_)
              · skip
                refine aw_iconst C (2 : Int32) dX5_nextToken_297 (by decide) ?_
                refine aw_putf C 0 4 7 18 tyX5 inX5 tyX5_ok nmX5 rfl (by decide) rfl k4_1 rfl rfl rfl rfl rfl (Nat.le_of_ble_eq_true rfl) (ws' := wMo cI cC y sr (kr, ar, ik, F, f, n, (2 : Int32), (skp f n en), ((skp f n en) + (n - (skp f n en))), (vdI f (skp f n en) (n - (skp f n en))), s1, s2, s3, cr)) (mo_put7 ..) dX5_nextToken_298 ?_
                refine aw_goto C 337 dX5_nextToken_301 (by decide) ?_
                exact aw_vret C hr hlk dX5_nextToken_337 ⟨rfl, by have hr : runD f n (skp f n en) = (skp f n en) + (n - (skp f n en)) := by {first | (rw [runD, fst9_at hv197 (by show (!isD (f ((skp f n en) + j))) = true; rw [show isD (f ((skp f n en) + j)) = false from c_220]; rfl) hi197]) | (rw [runD, fst9_none hv197])}; obtain ⟨a1, a2, a3⟩ := st_D d0 d1 d2; rw [a1, a2, a3, hr, Nat.add_sub_cancel_left]; first | rw [← t999_y c_290] | rw [← t999_n c_290]⟩
              · skip
                refine aw_iconst C (4 : Int32) dX5_nextToken_293 (by decide) ?_
                refine aw_goto C 298 dX5_nextToken_294 (by decide) ?_
                refine aw_putf C 0 4 7 18 tyX5 inX5 tyX5_ok nmX5 rfl (by decide) rfl k4_1 rfl rfl rfl rfl rfl (Nat.le_of_ble_eq_true rfl) (ws' := wMo cI cC y sr (kr, ar, ik, F, f, n, (4 : Int32), (skp f n en), ((skp f n en) + (n - (skp f n en))), (vdI f (skp f n en) (n - (skp f n en))), s1, s2, s3, cr)) (mo_put7 ..) dX5_nextToken_298 ?_
                refine aw_goto C 337 dX5_nextToken_301 (by decide) ?_
                exact aw_vret C hr hlk dX5_nextToken_337 ⟨rfl, by have hr : runD f n (skp f n en) = (skp f n en) + (n - (skp f n en)) := by {first | (rw [runD, fst9_at hv197 (by show (!isD (f ((skp f n en) + j))) = true; rw [show isD (f ((skp f n en) + j)) = false from c_220]; rfl) hi197]) | (rw [runD, fst9_none hv197])}; obtain ⟨a1, a2, a3⟩ := st_D d0 d1 d2; rw [a1, a2, a3, hr, Nat.add_sub_cancel_left]; first | rw [← t999_y c_290] | rw [← t999_n c_290]⟩
            · intro j hi197 hv197 ih197
              refine aw_pc 197 rfl ?_
              refine aw_aload_n C dX5_nextToken_197 rfl ?_
              refine aw_getf C 0 4 9 18 inX5 rfl (by decide) rfl k4_3 rfl rfl dX5_nextToken_198 ?_
              refine aw_top (y := (nI ((skp f n en) + j))) rfl ?_
              refine aw_aload_n C dX5_nextToken_201 rfl ?_
              refine aw_getf C 0 4 6 18 inX5 rfl (by decide) rfl k4_0 rfl rfl dX5_nextToken_202 ?_
              refine aw_top (y := (nI n)) rfl ?_
              refine aw_icmp_ge C 281 dX5_nextToken_205 (by decide) (fun c_205 => absurd c_205 (nI_ge (by omega) (by omega))) (fun c_205 => ?_)
              refine aw_aload_n C dX5_nextToken_208 rfl ?_
              refine aw_getf C 0 4 5 18 inX5 rfl (by decide) rfl k3_239 rfl rfl dX5_nextToken_209 ?_
              refine aw_aload_n C dX5_nextToken_212 rfl ?_
              refine aw_getf C 0 4 9 18 inX5 rfl (by decide) rfl k4_3 rfl rfl dX5_nextToken_213 ?_
              refine aw_top (y := (nI ((skp f n en) + j))) rfl ?_
              refine aw_ialdN C 5 0 ((skp f n en) + j) rfl rfl rfl (by omega) (by decide) dX5_nextToken_216 ?_
              refine aw_top (y := (f ((skp f n en) + j))) rfl ?_
              refine aw_pc 217 rfl ?_
              refine aw_callSp C (As := [.int (f ((skp f n en) + j))]) (c_X5_isDigit l D cI cC adK adV (f ((skp f n en) + j))) k5_118 cs_X5_isDigit [] (by decide) rfl ⟨by decide, by decide⟩ rfl rfl ⟨by decide, by decide⟩ rfl rfl (Nat.le_of_ble_eq_true rfl) dX5_nextToken_217 ?_
              refine aw_ifeq_b C 281 dX5_nextToken_220 (by decide) (fun c_220 => ?_) (fun c_220 => ?_)
              · skip
                refine aw_aload_n C dX5_nextToken_281 rfl ?_
                refine aw_aload_n C dX5_nextToken_282 rfl ?_
                refine aw_getf C 0 4 10 18 inX5 rfl (by decide) rfl k4_4 rfl rfl dX5_nextToken_283 ?_
                refine aw_topv (y := .long (vdI f (skp f n en) j)) rfl ?_
                refine aw_ldc2 C k5_121 dX5_nextToken_286 ?_
                refine aw_lcmp C dX5_nextToken_289 ?_
                refine aw_if_le C 297 dX5_nextToken_290 (by decide) (fun c_290 => ?_) (fun c_290 => ?_)
                · skip
                  refine aw_iconst C (2 : Int32) dX5_nextToken_297 (by decide) ?_
                  refine aw_putf C 0 4 7 18 tyX5 inX5 tyX5_ok nmX5 rfl (by decide) rfl k4_1 rfl rfl rfl rfl rfl (Nat.le_of_ble_eq_true rfl) (ws' := wMo cI cC y sr (kr, ar, ik, F, f, n, (2 : Int32), (skp f n en), ((skp f n en) + j), (vdI f (skp f n en) j), s1, s2, s3, cr)) (mo_put7 ..) dX5_nextToken_298 ?_
                  refine aw_pc 301 rfl ?_
                  refine aw_goto C 337 dX5_nextToken_301 (by decide) ?_
                  exact aw_vret C hr hlk dX5_nextToken_337 ⟨rfl, by have hr : runD f n (skp f n en) = (skp f n en) + j := by {first | (rw [runD, fst9_at hv197 (by show (!isD (f ((skp f n en) + j))) = true; rw [show isD (f ((skp f n en) + j)) = false from c_220]; rfl) hi197]) | (rw [runD, fst9_none hv197])}; obtain ⟨a1, a2, a3⟩ := st_D d0 d1 d2; rw [a1, a2, a3, hr, Nat.add_sub_cancel_left]; first | rw [← t999_y c_290] | rw [← t999_n c_290]⟩
                · skip
                  refine aw_iconst C (4 : Int32) dX5_nextToken_293 (by decide) ?_
                  refine aw_goto C 298 dX5_nextToken_294 (by decide) ?_
                  refine aw_putf C 0 4 7 18 tyX5 inX5 tyX5_ok nmX5 rfl (by decide) rfl k4_1 rfl rfl rfl rfl rfl (Nat.le_of_ble_eq_true rfl) (ws' := wMo cI cC y sr (kr, ar, ik, F, f, n, (4 : Int32), (skp f n en), ((skp f n en) + j), (vdI f (skp f n en) j), s1, s2, s3, cr)) (mo_put7 ..) dX5_nextToken_298 ?_
                  refine aw_goto C 337 dX5_nextToken_301 (by decide) ?_
                  exact aw_vret C hr hlk dX5_nextToken_337 ⟨rfl, by have hr : runD f n (skp f n en) = (skp f n en) + j := by {first | (rw [runD, fst9_at hv197 (by show (!isD (f ((skp f n en) + j))) = true; rw [show isD (f ((skp f n en) + j)) = false from c_220]; rfl) hi197]) | (rw [runD, fst9_none hv197])}; obtain ⟨a1, a2, a3⟩ := st_D d0 d1 d2; rw [a1, a2, a3, hr, Nat.add_sub_cancel_left]; first | rw [← t999_y c_290] | rw [← t999_n c_290]⟩
              · skip
                refine aw_aload_n C dX5_nextToken_223 rfl ?_
                refine aw_aload_n C dX5_nextToken_224 rfl ?_
                refine aw_getf C 0 4 10 18 inX5 rfl (by decide) rfl k4_4 rfl rfl dX5_nextToken_225 ?_
                refine aw_topv (y := .long (vdI f (skp f n en) j)) rfl ?_
                refine aw_pc 228 rfl ?_
                refine aw_ldc2 C k5_121 dX5_nextToken_228 ?_
                refine aw_lcmp C dX5_nextToken_231 ?_
                refine aw_if_le C 242 dX5_nextToken_232 (by decide) (fun c_232 => ?_) (fun c_232 => ?_)
                · skip
                  refine aw_aload_n C dX5_nextToken_242 rfl ?_
                  refine aw_getf C 0 4 10 18 inX5 rfl (by decide) rfl k4_4 rfl rfl dX5_nextToken_243 ?_
                  refine aw_topv (y := .long (vdI f (skp f n en) j)) rfl ?_
                  refine aw_ldc2 C k5_122 dX5_nextToken_246 ?_
                  refine aw_lmul C dX5_nextToken_249 ?_
                  refine aw_aload_n C dX5_nextToken_250 rfl ?_
                  refine aw_getf C 0 4 5 18 inX5 rfl (by decide) rfl k3_239 rfl rfl dX5_nextToken_251 ?_
                  refine aw_aload_n C dX5_nextToken_254 rfl ?_
                  refine aw_pc 255 rfl ?_
                  refine aw_getf C 0 4 9 18 inX5 rfl (by decide) rfl k4_3 rfl rfl dX5_nextToken_255 ?_
                  refine aw_top (y := (nI ((skp f n en) + j))) rfl ?_
                  refine aw_ialdN C 5 0 ((skp f n en) + j) rfl rfl rfl (by omega) (by decide) dX5_nextToken_258 ?_
                  refine aw_top (y := (f ((skp f n en) + j))) rfl ?_
                  refine aw_i2l C dX5_nextToken_259 ?_
                  refine aw_ladd C dX5_nextToken_260 ?_
                  refine aw_ldc2 C k5_123 dX5_nextToken_261 ?_
                  refine aw_lsub C dX5_nextToken_264 ?_
                  refine aw_putf C 0 4 10 18 tyX5 inX5 tyX5_ok nmX5 rfl (by decide) rfl k4_4 rfl rfl rfl rfl rfl (Nat.le_of_ble_eq_true rfl) (ws' := wMo cI cC y sr (kr, ar, ik, F, f, n, tk, (skp f n en), ((skp f n en) + j), ((((vdI f (skp f n en) j) * (10 : Int64)) + ((f ((skp f n en) + j)).toInt64)) - (48 : Int64)), s1, s2, s3, cr)) (mo_put10 ..) dX5_nextToken_265 ?_
                  refine aw_aload_n C dX5_nextToken_268 rfl ?_
                  refine aw_dup C dX5_nextToken_269 rfl ?_
                  refine aw_getf C 0 4 9 18 inX5 rfl (by decide) rfl k4_3 rfl rfl dX5_nextToken_270 ?_
                  refine aw_top (y := (nI ((skp f n en) + j))) rfl ?_
                  refine aw_pc 273 rfl ?_
                  refine aw_iconst C (1 : Int32) dX5_nextToken_273 (by decide) ?_
                  refine aw_iadd C dX5_nextToken_274 ?_
                  refine aw_top (y := (nI ((skp f n en) + j + 1))) (by exact nI_1 _) ?_
                  refine aw_putf C 0 4 9 18 tyX5 inX5 tyX5_ok nmX5 rfl (by decide) rfl k4_3 rfl rfl rfl rfl rfl (Nat.le_of_ble_eq_true rfl) (ws' := wMo cI cC y sr (kr, ar, ik, F, f, n, tk, (skp f n en), ((skp f n en) + j + 1), ((((vdI f (skp f n en) j) * (10 : Int64)) + ((f ((skp f n en) + j)).toInt64)) - (48 : Int64)), s1, s2, s3, cr)) (mo_put9 ..) dX5_nextToken_275 ?_
                  refine aw_goto C 197 dX5_nextToken_278 (by decide) ?_
                  exact aw_eq (by first | rfl | (simp only [itr, c_30, c_67, c_90, c_194, c_220, c_232])) rfl (by first | (rw [vd_y c_232] <;> rfl) | (rw [vd_n c_232] <;> rfl)) (ih197 (all_s hv197 (by rw [show isD (f ((skp f n en) + j)) = true from c_220]; rfl)))
                · skip
                  refine aw_aload_n C dX5_nextToken_235 rfl ?_
                  refine aw_getf C 0 4 10 18 inX5 rfl (by decide) rfl k4_4 rfl rfl dX5_nextToken_236 ?_
                  refine aw_topv (y := .long (vdI f (skp f n en) j)) rfl ?_
                  refine aw_goto C 265 dX5_nextToken_239 (by decide) ?_
                  refine aw_putf C 0 4 10 18 tyX5 inX5 tyX5_ok nmX5 rfl (by decide) rfl k4_4 rfl rfl rfl rfl rfl (Nat.le_of_ble_eq_true rfl) (ws' := wMo cI cC y sr (kr, ar, ik, F, f, n, tk, (skp f n en), ((skp f n en) + j), (vdI f (skp f n en) j), s1, s2, s3, cr)) (mo_put10 ..) dX5_nextToken_265 ?_
                  refine aw_aload_n C dX5_nextToken_268 rfl ?_
                  refine aw_dup C dX5_nextToken_269 rfl ?_
                  refine aw_pc 270 rfl ?_
                  refine aw_getf C 0 4 9 18 inX5 rfl (by decide) rfl k4_3 rfl rfl dX5_nextToken_270 ?_
                  refine aw_top (y := (nI ((skp f n en) + j))) rfl ?_
                  refine aw_iconst C (1 : Int32) dX5_nextToken_273 (by decide) ?_
                  refine aw_iadd C dX5_nextToken_274 ?_
                  refine aw_top (y := (nI ((skp f n en) + j + 1))) (by exact nI_1 _) ?_
                  refine aw_putf C 0 4 9 18 tyX5 inX5 tyX5_ok nmX5 rfl (by decide) rfl k4_3 rfl rfl rfl rfl rfl (Nat.le_of_ble_eq_true rfl) (ws' := wMo cI cC y sr (kr, ar, ik, F, f, n, tk, (skp f n en), ((skp f n en) + j + 1), (vdI f (skp f n en) j), s1, s2, s3, cr)) (mo_put9 ..) dX5_nextToken_275 ?_
                  refine aw_goto C 197 dX5_nextToken_278 (by decide) ?_
                  exact aw_eq (by first | rfl | (simp only [itr, c_30, c_67, c_90, c_194, c_220, c_232])) rfl (by first | (rw [vd_y c_232] <;> rfl) | (rw [vd_n c_232] <;> rfl)) (ih197 (all_s hv197 (by rw [show isD (f ((skp f n en) + j)) = true from c_220]; rfl)))
        · skip
          have d1 : isL (f (skp f n en)) = true := c_90
          refine aw_aload_n C dX5_nextToken_93 rfl ?_
          refine aw_iconst C (1 : Int32) dX5_nextToken_94 (by decide) ?_
          refine aw_putf C 0 4 7 18 tyX5 inX5 tyX5_ok nmX5 rfl (by decide) rfl k4_1 rfl rfl rfl rfl rfl (Nat.le_of_ble_eq_true rfl) (ws' := wMo cI cC y sr (kr, ar, ik, F, f, n, (1 : Int32), (skp f n en), (skp f n en), (0 : Int64), s1, s2, s3, cr)) (mo_put7 ..) dX5_nextToken_95 ?_
          refine aw_eq (lv' := [(0, .ref (y 0))]) (ws' := wMo cI cC y sr (kr, ar, ik, F, f, n, (1 : Int32), (skp f n en), ((skp f n en) + 0), (vwI f (skp f n en) 0), s1, s2, s3, cr)) (by first | rfl | (simp only [itr, c_30, c_67, c_90])) rfl (by rfl) ?_
          refine aw_loop (LV := fun j => [(0, .ref (y 0))]) (WS := fun j => wMo cI cC y sr (kr, ar, ik, F, f, n, (1 : Int32), (skp f n en), ((skp f n en) + j), (vwI f (skp f n en) j), s1, s2, s3, cr)) (n - (skp f n en)) (Inv := fun i => ∀ k, k < i → (!isL (f ((skp f n en) + k))) = false) (fun k hk => absurd hk (Nat.not_lt_zero k)) ?_ ?_
          · intro hv98
            refine aw_aload_n C dX5_nextToken_98 rfl ?_
            refine aw_getf C 0 4 9 18 inX5 rfl (by decide) rfl k4_3 rfl rfl dX5_nextToken_99 ?_
            refine aw_top (y := (nI ((skp f n en) + (n - (skp f n en))))) rfl ?_
            refine aw_pc 102 rfl ?_
            refine aw_aload_n C dX5_nextToken_102 rfl ?_
            refine aw_getf C 0 4 6 18 inX5 rfl (by decide) rfl k4_0 rfl rfl dX5_nextToken_103 ?_
            refine aw_top (y := (nI n)) rfl ?_
            refine aw_icmp_ge C 337 dX5_nextToken_106 (by decide) (fun c_106 => ?_) (fun c_106 => absurd c_106 (fun z => z (nI_le (by omega) (by omega))))
            exact aw_vret C hr hlk dX5_nextToken_337 ⟨rfl, by have hr : runL f n (skp f n en) = (skp f n en) + (n - (skp f n en)) := by {first | (rw [runL, fst9_at hv98 (by show (!isL (f ((skp f n en) + j))) = true; rw [show isL (f ((skp f n en) + j)) = false from c_121]; rfl) hi98]) | (rw [runL, fst9_none hv98])}; obtain ⟨a1, a2, a3⟩ := st_L d0 d1; rw [a1, a2, a3, hr, Nat.add_sub_cancel_left]⟩
          · intro j hi98 hv98 ih98
            refine aw_aload_n C dX5_nextToken_98 rfl ?_
            refine aw_getf C 0 4 9 18 inX5 rfl (by decide) rfl k4_3 rfl rfl dX5_nextToken_99 ?_
            refine aw_top (y := (nI ((skp f n en) + j))) rfl ?_
            refine aw_aload_n C dX5_nextToken_102 rfl ?_
            refine aw_getf C 0 4 6 18 inX5 rfl (by decide) rfl k4_0 rfl rfl dX5_nextToken_103 ?_
            refine aw_top (y := (nI n)) rfl ?_
            refine aw_icmp_ge C 337 dX5_nextToken_106 (by decide) (fun c_106 => absurd c_106 (nI_ge (by omega) (by omega))) (fun c_106 => ?_)
            refine aw_aload_n C dX5_nextToken_109 rfl ?_
            refine aw_pc 110 rfl ?_
            refine aw_getf C 0 4 5 18 inX5 rfl (by decide) rfl k3_239 rfl rfl dX5_nextToken_110 ?_
            refine aw_aload_n C dX5_nextToken_113 rfl ?_
            refine aw_getf C 0 4 9 18 inX5 rfl (by decide) rfl k4_3 rfl rfl dX5_nextToken_114 ?_
            refine aw_top (y := (nI ((skp f n en) + j))) rfl ?_
            refine aw_ialdN C 5 0 ((skp f n en) + j) rfl rfl rfl (by omega) (by decide) dX5_nextToken_117 ?_
            refine aw_top (y := (f ((skp f n en) + j))) rfl ?_
            refine aw_callSp C (As := [.int (f ((skp f n en) + j))]) (c_X5_isLetter l D cI cC adK adV (f ((skp f n en) + j))) k5_112 cs_X5_isLetter [] (by decide) rfl ⟨by decide, by decide⟩ rfl rfl ⟨by decide, by decide⟩ rfl rfl (Nat.le_of_ble_eq_true rfl) dX5_nextToken_118 ?_
            refine aw_ifeq_b C 337 dX5_nextToken_121 (by decide) (fun c_121 => ?_) (fun c_121 => ?_)
            · skip
              exact aw_vret C hr hlk dX5_nextToken_337 ⟨rfl, by have hr : runL f n (skp f n en) = (skp f n en) + j := by {first | (rw [runL, fst9_at hv98 (by show (!isL (f ((skp f n en) + j))) = true; rw [show isL (f ((skp f n en) + j)) = false from c_121]; rfl) hi98]) | (rw [runL, fst9_none hv98])}; obtain ⟨a1, a2, a3⟩ := st_L d0 d1; rw [a1, a2, a3, hr, Nat.add_sub_cancel_left]⟩
            · skip
              refine aw_aload_n C dX5_nextToken_124 rfl ?_
              refine aw_aload_n C dX5_nextToken_125 rfl ?_
              refine aw_getf C 0 4 10 18 inX5 rfl (by decide) rfl k4_4 rfl rfl dX5_nextToken_126 ?_
              refine aw_topv (y := .long (vwI f (skp f n en) j)) rfl ?_
              refine aw_pc 129 rfl ?_
              refine aw_ldc2 C k5_115 dX5_nextToken_129 ?_
              refine aw_lcmp C dX5_nextToken_132 ?_
              refine aw_if_le C 143 dX5_nextToken_133 (by decide) (fun c_133 => ?_) (fun c_133 => ?_)
              · skip
                refine aw_aload_n C dX5_nextToken_143 rfl ?_
                refine aw_getf C 0 4 10 18 inX5 rfl (by decide) rfl k4_4 rfl rfl dX5_nextToken_144 ?_
                refine aw_topv (y := .long (vwI f (skp f n en) j)) rfl ?_
                refine aw_ldc2 C k5_116 dX5_nextToken_147 ?_
                refine aw_lmul C dX5_nextToken_150 ?_
                refine aw_aload_n C dX5_nextToken_151 rfl ?_
                refine aw_getf C 0 4 5 18 inX5 rfl (by decide) rfl k3_239 rfl rfl dX5_nextToken_152 ?_
                refine aw_aload_n C dX5_nextToken_155 rfl ?_
                refine aw_pc 156 rfl ?_
                refine aw_getf C 0 4 9 18 inX5 rfl (by decide) rfl k4_3 rfl rfl dX5_nextToken_156 ?_
                refine aw_top (y := (nI ((skp f n en) + j))) rfl ?_
                refine aw_ialdN C 5 0 ((skp f n en) + j) rfl rfl rfl (by omega) (by decide) dX5_nextToken_159 ?_
                refine aw_top (y := (f ((skp f n en) + j))) rfl ?_
                refine aw_i2l C dX5_nextToken_160 ?_
                refine aw_ladd C dX5_nextToken_161 ?_
                refine aw_ldc2 C k5_117 dX5_nextToken_162 ?_
                refine aw_lsub C dX5_nextToken_165 ?_
                refine aw_putf C 0 4 10 18 tyX5 inX5 tyX5_ok nmX5 rfl (by decide) rfl k4_4 rfl rfl rfl rfl rfl (Nat.le_of_ble_eq_true rfl) (ws' := wMo cI cC y sr (kr, ar, ik, F, f, n, (1 : Int32), (skp f n en), ((skp f n en) + j), ((((vwI f (skp f n en) j) * (27 : Int64)) + ((f ((skp f n en) + j)).toInt64)) - (96 : Int64)), s1, s2, s3, cr)) (mo_put10 ..) dX5_nextToken_166 ?_
                refine aw_aload_n C dX5_nextToken_169 rfl ?_
                refine aw_dup C dX5_nextToken_170 rfl ?_
                refine aw_getf C 0 4 9 18 inX5 rfl (by decide) rfl k4_3 rfl rfl dX5_nextToken_171 ?_
                refine aw_top (y := (nI ((skp f n en) + j))) rfl ?_
                refine aw_pc 174 rfl ?_
                refine aw_iconst C (1 : Int32) dX5_nextToken_174 (by decide) ?_
                refine aw_iadd C dX5_nextToken_175 ?_
                refine aw_top (y := (nI ((skp f n en) + j + 1))) (by exact nI_1 _) ?_
                refine aw_putf C 0 4 9 18 tyX5 inX5 tyX5_ok nmX5 rfl (by decide) rfl k4_3 rfl rfl rfl rfl rfl (Nat.le_of_ble_eq_true rfl) (ws' := wMo cI cC y sr (kr, ar, ik, F, f, n, (1 : Int32), (skp f n en), ((skp f n en) + j + 1), ((((vwI f (skp f n en) j) * (27 : Int64)) + ((f ((skp f n en) + j)).toInt64)) - (96 : Int64)), s1, s2, s3, cr)) (mo_put9 ..) dX5_nextToken_176 ?_
                refine aw_goto C 98 dX5_nextToken_179 (by decide) ?_
                exact aw_eq (by first | rfl | (simp only [itr, c_30, c_67, c_90, c_121, c_133])) rfl (by first | (rw [vw_y c_133] <;> rfl) | (rw [vw_n c_133] <;> rfl)) (ih98 (all_s hv98 (by rw [show isL (f ((skp f n en) + j)) = true from c_121]; rfl)))
              · skip
                refine aw_aload_n C dX5_nextToken_136 rfl ?_
                refine aw_getf C 0 4 10 18 inX5 rfl (by decide) rfl k4_4 rfl rfl dX5_nextToken_137 ?_
                refine aw_topv (y := .long (vwI f (skp f n en) j)) rfl ?_
                refine aw_goto C 166 dX5_nextToken_140 (by decide) ?_
                refine aw_putf C 0 4 10 18 tyX5 inX5 tyX5_ok nmX5 rfl (by decide) rfl k4_4 rfl rfl rfl rfl rfl (Nat.le_of_ble_eq_true rfl) (ws' := wMo cI cC y sr (kr, ar, ik, F, f, n, (1 : Int32), (skp f n en), ((skp f n en) + j), (vwI f (skp f n en) j), s1, s2, s3, cr)) (mo_put10 ..) dX5_nextToken_166 ?_
                refine aw_aload_n C dX5_nextToken_169 rfl ?_
                refine aw_dup C dX5_nextToken_170 rfl ?_
                refine aw_pc 171 rfl ?_
                refine aw_getf C 0 4 9 18 inX5 rfl (by decide) rfl k4_3 rfl rfl dX5_nextToken_171 ?_
                refine aw_top (y := (nI ((skp f n en) + j))) rfl ?_
                refine aw_iconst C (1 : Int32) dX5_nextToken_174 (by decide) ?_
                refine aw_iadd C dX5_nextToken_175 ?_
                refine aw_top (y := (nI ((skp f n en) + j + 1))) (by exact nI_1 _) ?_
                refine aw_putf C 0 4 9 18 tyX5 inX5 tyX5_ok nmX5 rfl (by decide) rfl k4_3 rfl rfl rfl rfl rfl (Nat.le_of_ble_eq_true rfl) (ws' := wMo cI cC y sr (kr, ar, ik, F, f, n, (1 : Int32), (skp f n en), ((skp f n en) + j + 1), (vwI f (skp f n en) j), s1, s2, s3, cr)) (mo_put9 ..) dX5_nextToken_176 ?_
                refine aw_goto C 98 dX5_nextToken_179 (by decide) ?_
                exact aw_eq (by first | rfl | (simp only [itr, c_30, c_67, c_90, c_121, c_133])) rfl (by first | (rw [vw_y c_133] <;> rfl) | (rw [vw_n c_133] <;> rfl)) (ih98 (all_s hv98 (by rw [show isL (f ((skp f n en) + j)) = true from c_121]; rfl)))
      · skip
        have d0 : decide (n ≤ (skp f n en)) = true := decide_eq_true (Nat.le_of_eq (nI_eqn (by omega) (by omega) c_67).symm)
        refine aw_aload_n C dX5_nextToken_70 rfl ?_
        refine aw_iconst C (0 : Int32) dX5_nextToken_71 (by decide) ?_
        refine aw_putf C 0 4 7 18 tyX5 inX5 tyX5_ok nmX5 rfl (by decide) rfl k4_1 rfl rfl rfl rfl rfl (Nat.le_of_ble_eq_true rfl) (ws' := wMo cI cC y sr (kr, ar, ik, F, f, n, (0 : Int32), (skp f n en), (skp f n en), (0 : Int64), s1, s2, s3, cr)) (mo_put7 ..) dX5_nextToken_72 ?_
        refine aw_goto C 337 dX5_nextToken_75 (by decide) ?_
        exact aw_vret C hr hlk dX5_nextToken_337 ⟨rfl, by obtain ⟨a1, a2, a3⟩ := st_0 d0; rw [a1, a2, a3]⟩
    · skip
      refine aw_pc 33 rfl ?_
      refine aw_aload_n C dX5_nextToken_33 rfl ?_
      refine aw_dup C dX5_nextToken_34 rfl ?_
      refine aw_getf C 0 4 8 18 inX5 rfl (by decide) rfl k4_2 rfl rfl dX5_nextToken_35 ?_
      refine aw_top (y := (nI (en + i))) rfl ?_
      refine aw_iconst C (1 : Int32) dX5_nextToken_38 (by decide) ?_
      refine aw_iadd C dX5_nextToken_39 ?_
      refine aw_top (y := (nI (en + i + 1))) (by exact nI_1 _) ?_
      refine aw_putf C 0 4 8 18 tyX5 inX5 tyX5_ok nmX5 rfl (by decide) rfl k4_2 rfl rfl rfl rfl rfl (Nat.le_of_ble_eq_true rfl) (ws' := wMo cI cC y sr (kr, ar, ik, F, f, n, tk, (en + i + 1), en, vl, s1, s2, s3, cr)) (mo_put8 ..) dX5_nextToken_40 ?_
      refine aw_goto C 8 dX5_nextToken_43 (by decide) ?_
      exact aw_eq (by first | rfl | (simp only [itr, c_30])) rfl (by rfl) (ih8 (all_s hv8 (by rw [decide_eq_true c_30]; rfl)))
theorem c_X5_nextTokenS (l : Launch) (D : va_G) (cI cC : ClassId) (adK adV : Nat → Nat) (y : Nat → Nat) (sr : Nat → Int32) (kr : Nat → Int32) (ar : Nat → Int32) (ik : Bool) (F : Nat → Int32) (f : Nat → Int32) (n : Nat) (s1 : Nat → Int32) (s2 : Nat → Int32) (s3 : Nat → Int32) (cr : Nat → Int32) (p : Nat) (hp : p ≤ n) (hn : n ≤ 120) : FC l yX5_nextToken (wW yX5_nextToken cX5_nextToken 1 none) r_X5_nextToken D (tyC cI cC) adK adV (wMo cI cC y sr (kr, ar, ik, F, f, n, (tkR f n p), p, (tkE f n p), (vlR f n p), s1, s2, s3, cr)) [.ref (y 0)] 0 0 (fQ none (wMo cI cC y sr (kr, ar, ik, F, f, n, (tkR f n (nx f n p)), (nx f n p), (tkE f n (nx f n p)), (vlR f n (nx f n p)), s1, s2, s3, cr))) := c_X5_nextToken l D cI cC adK adV y sr kr ar ik F f n (tkR f n p) p (tkE f n p) (vlR f n p) s1 s2 s3 cr (tkE_le hp) hn

