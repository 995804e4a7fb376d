/-! the reference: sheets -/
theorem mo_set2 (cI cC : ClassId) (y : Nat → Nat) (sr : Nat → Int32) (kr : Nat → Int32) (ar : Nat → Int32) (ik : Bool) (F : Nat → Int32) (f : Nat → Int32) (n : Nat) (tk : Int32) (bg : Nat) (en : Nat) (vl : Int64) (s1 : Nat → Int32) (s2 : Nat → Int32) (s3 : Nat → Int32) (cr : Nat → Int32) (g : Nat → Int32) : (wMo cI cC y sr (kr, ar, ik, F, f, n, tk, bg, en, vl, s1, s2, s3, cr)).set 2 (y 2, .inl (cI, 70, .inl g)) = wMo cI cC y sr (g, ar, ik, F, f, n, tk, bg, en, vl, s1, s2, s3, cr) := rfl
theorem mo_set3 (cI cC : ClassId) (y : Nat → Nat) (sr : Nat → Int32) (kr : Nat → Int32) (ar : Nat → Int32) (ik : Bool) (F : Nat → Int32) (f : Nat → Int32) (n : Nat) (tk : Int32) (bg : Nat) (en : Nat) (vl : Int64) (s1 : Nat → Int32) (s2 : Nat → Int32) (s3 : Nat → Int32) (cr : Nat → Int32) (g : Nat → Int32) : (wMo cI cC y sr (kr, ar, ik, F, f, n, tk, bg, en, vl, s1, s2, s3, cr)).set 3 (y 3, .inl (cI, 70, .inl g)) = wMo cI cC y sr (kr, g, ik, F, f, n, tk, bg, en, vl, s1, s2, s3, cr) := rfl
theorem mo_set4 (cI cC : ClassId) (y : Nat → Nat) (sr : Nat → Int32) (kr : Nat → Int32) (ar : Nat → Int32) (ik : Bool) (F : Nat → Int32) (f : Nat → Int32) (n : Nat) (tk : Int32) (bg : Nat) (en : Nat) (vl : Int64) (s1 : Nat → Int32) (s2 : Nat → Int32) (s3 : Nat → Int32) (cr : Nat → Int32) (g : Nat → Int32) : (wMo cI cC y sr (kr, ar, ik, F, f, n, tk, bg, en, vl, s1, s2, s3, cr)).set 4 (y 4, .inl (cI, 7, .inl g)) = wMo cI cC y sr (kr, ar, ik, g, f, n, tk, bg, en, vl, s1, s2, s3, cr) := rfl
theorem mo_set5 (cI cC : ClassId) (y : Nat → Nat) (sr : Nat → Int32) (kr : Nat → Int32) (ar : Nat → Int32) (ik : Bool) (F : Nat → Int32) (f : Nat → Int32) (n : Nat) (tk : Int32) (bg : Nat) (en : Nat) (vl : Int64) (s1 : Nat → Int32) (s2 : Nat → Int32) (s3 : Nat → Int32) (cr : Nat → Int32) (g : Nat → Int32) : (wMo cI cC y sr (kr, ar, ik, F, f, n, tk, bg, en, vl, s1, s2, s3, cr)).set 5 (y 5, .inl (cI, 120, .inl g)) = wMo cI cC y sr (kr, ar, ik, F, g, n, tk, bg, en, vl, s1, s2, s3, cr) := rfl
theorem mo_set9 (cI cC : ClassId) (y : Nat → Nat) (sr : Nat → Int32) (kr : Nat → Int32) (ar : Nat → Int32) (ik : Bool) (F : Nat → Int32) (f : Nat → Int32) (n : Nat) (tk : Int32) (bg : Nat) (en : Nat) (vl : Int64) (s1 : Nat → Int32) (s2 : Nat → Int32) (s3 : Nat → Int32) (cr : Nat → Int32) (g : Nat → Int32) : (wMo cI cC y sr (kr, ar, ik, F, f, n, tk, bg, en, vl, s1, s2, s3, cr)).set 9 (y 9, .inl (cI, 4, .inl g)) = wMo cI cC y sr (kr, ar, ik, F, f, n, tk, bg, en, vl, g, s2, s3, cr) := rfl
theorem mo_set10 (cI cC : ClassId) (y : Nat → Nat) (sr : Nat → Int32) (kr : Nat → Int32) (ar : Nat → Int32) (ik : Bool) (F : Nat → Int32) (f : Nat → Int32) (n : Nat) (tk : Int32) (bg : Nat) (en : Nat) (vl : Int64) (s1 : Nat → Int32) (s2 : Nat → Int32) (s3 : Nat → Int32) (cr : Nat → Int32) (g : Nat → Int32) : (wMo cI cC y sr (kr, ar, ik, F, f, n, tk, bg, en, vl, s1, s2, s3, cr)).set 10 (y 10, .inl (cI, 4, .inl g)) = wMo cI cC y sr (kr, ar, ik, F, f, n, tk, bg, en, vl, s1, g, s3, cr) := rfl
theorem mo_set11 (cI cC : ClassId) (y : Nat → Nat) (sr : Nat → Int32) (kr : Nat → Int32) (ar : Nat → Int32) (ik : Bool) (F : Nat → Int32) (f : Nat → Int32) (n : Nat) (tk : Int32) (bg : Nat) (en : Nat) (vl : Int64) (s1 : Nat → Int32) (s2 : Nat → Int32) (s3 : Nat → Int32) (cr : Nat → Int32) (g : Nat → Int32) : (wMo cI cC y sr (kr, ar, ik, F, f, n, tk, bg, en, vl, s1, s2, s3, cr)).set 11 (y 11, .inl (cI, 160, .inl g)) = wMo cI cC y sr (kr, ar, ik, F, f, n, tk, bg, en, vl, s1, s2, g, cr) := rfl
theorem mo_set12 (cI cC : ClassId) (y : Nat → Nat) (sr : Nat → Int32) (kr : Nat → Int32) (ar : Nat → Int32) (ik : Bool) (F : Nat → Int32) (f : Nat → Int32) (n : Nat) (tk : Int32) (bg : Nat) (en : Nat) (vl : Int64) (s1 : Nat → Int32) (s2 : Nat → Int32) (s3 : Nat → Int32) (cr : Nat → Int32) (g : Nat → Int32) : (wMo cI cC y sr (kr, ar, ik, F, f, n, tk, bg, en, vl, s1, s2, s3, cr)).set 12 (y 12, .inl (cI, 40, .inl g)) = wMo cI cC y sr (kr, ar, ik, F, f, n, tk, bg, en, vl, s1, s2, s3, g) := rfl
theorem inL_len {i L : Int32} (h : ∃ k : Nat, k ≤ 40 ∧ L = nI k) : inL i 0 (L - 1) = in0 i L := by
  obtain ⟨k, hk, rfl⟩ := h
  rcases Nat.eq_zero_or_pos k with q | q
  · subst q
    unfold inL in0
    congr 2
  · exact inL_in0 i q (by omega)
theorem upd_at {f : Nat → Int32} {k : Nat} {v : Int32} : upd f k v k = v := if_pos rfl
theorem tl_ix3 (s i k : Nat) : (40 : Int32) * nI s + nI i + nI k = nI (s * 40 + i + k) := by
  rw [tl_ix, nI_add]
theorem lowB_8 {b v : Int32} (h : b = 8) : v.toInt8.toInt32 = lowB b v := (if_pos h).symm
theorem lowB_16 {b v : Int32} (h : ¬ b = 8) (h2 : b = 16) : v.toInt16.toInt32 = lowB b v := by
  unfold lowB
  rw [if_neg h, if_pos h2]
theorem lowB_n {b v : Int32} (h : ¬ b = 8) (h2 : ¬ b = 16) : v = lowB b v := by
  unfold lowB
  rw [if_neg h, if_neg h2]
def cpyA (f g : Nat → Int32) (a j : Nat) : Nat → Int32 := fun i => if i < j then f (a + i) else g i
theorem cpyA_0 (f g : Nat → Int32) (a : Nat) : cpyA f g a 0 = g := by
  funext i
  exact if_neg (Nat.not_lt_zero i)
theorem cpyA_s (f g : Nat → Int32) (a j : Nat) : upd (cpyA f g a j) j (f (a + j)) = cpyA f g a (j + 1) := by
  funext i
  unfold upd cpyA
  by_cases h : i = j
  · rw [if_pos h, if_pos (by omega), h]
  · rw [if_neg h]
    by_cases h2 : i < j
    · rw [if_pos h2, if_pos (by omega)]
    · rw [if_neg h2, if_neg (by omega)]
theorem cpyA_e {f g : Nat → Int32} {a n j : Nat} (h : j < n) : cpyA f g a n j = f (a + j) := if_pos h
theorem hPart_f1 {L i k : Int32} (h : k < 0) : hPart L i k = false := by unfold hPart; rw [decide_eq_true h, Bool.not_true, Bool.false_and, Bool.and_false]
theorem hPart_f2 {L i k : Int32} (h : i < 0) : hPart L i k = false := by unfold hPart; rw [decide_eq_true h, Bool.not_true, Bool.false_and]
theorem hPart_f3 {L i k : Int32} (h : ¬ i ≤ L - k) : hPart L i k = false := by unfold hPart; rw [decide_eq_true (Int32.not_le.mp h), Bool.not_true, Bool.and_false, Bool.and_false]
theorem hPart_t {L i k : Int32} (h1 : ¬ k < 0) (h2 : ¬ i < 0) (h3 : i ≤ L - k) : hPart L i k = true := by unfold hPart; rw [decide_eq_false h1, decide_eq_false h2, decide_eq_false (Int32.not_lt.mpr h3)]; rfl

theorem va_cpy_0 (f g : Nat → Int32) (i j : Nat) : va_cpy f g i j 0 = g := by
  funext q
  unfold va_cpy
  rw [if_neg (by omega)]
theorem va_cpy_s (f g : Nat → Int32) (i j k : Nat) : upd (va_cpy f g i j k) (j + k) (f (i + k)) = va_cpy f g i j (k + 1) := by
  funext q
  unfold upd va_cpy
  by_cases h : q = j + k
  · rw [if_pos h, if_pos (by omega), h, show i + (j + k - j) = i + k by omega]
  · rw [if_neg h]
    by_cases h2 : j ≤ q ∧ q < j + k
    · rw [if_pos h2, if_pos (by omega)]
    · rw [if_neg h2, if_neg (by omega)]

theorem load_s (T : Tw) (g : Nat → Int32) (i : Nat) : tLoad T g (i + 1) = sP (tLoad T g i) 2 i (g i) := put_nI (tLoad T g i) i (g i) 2 (by decide)
theorem load_e {G : Sg} {s : Int32} {r : Nat} (h1 : in0 s 4 = true) (h2 : ¬ G.2.2.2.2.2.2.1 (ix s) = 0) (e : ldN G.1 (shRow G (ix s)) (min (ix (G.2.2.2.2.2.2.2.1 (ix s))) G.1.1) = r) : m_load G s = (nI r, gT G (tLoad G.1 (shRow G (ix s)) r)) := by
  unfold m_load
  rw [h1, decide_eq_false h2, e]
  rfl
theorem jg_n {T : Tw} {g : Nat → Int32} {i : Nat} (h : mThere T (nI i) = true) (e : T.2.2.1 4 i = g i) : jgC T g i = false := by
  unfold jgC
  rw [h, decide_eq_true (show g i = mTrait T i 4 from e.symm)]
  rfl
theorem jg_y1 {T : Tw} {g : Nat → Int32} {i : Nat} (h : mThere T (nI i) = false) : jgC T g i = true := by
  unfold jgC
  rw [h]
  rfl
theorem jg_y2 {T : Tw} {g : Nat → Int32} {i : Nat} (e : ¬ T.2.2.1 4 i = g i) : jgC T g i = true := by
  unfold jgC
  rw [decide_eq_false (show ¬ g i = mTrait T i 4 from fun z => e z.symm), Bool.and_false]
  rfl
theorem jdg_y {G : Sg} {s : Int32} {i len : Nat} (h1 : in0 s 4 = true) (h2 : ¬ G.2.2.2.2.2.2.1 (ix s) = 0) (e : ix (G.2.2.2.2.2.2.2.1 (ix s)) = len) (hi : i < len) (e2 : fst9 (jgC G.1 (shRow G (ix s))) len = i) : m_judge G s = (1 + nI i, G) := by
  unfold m_judge
  rw [h1, decide_eq_false h2, e]
  dsimp only
  rw [e2, decide_eq_true hi]
  rfl
theorem jdg_n {G : Sg} {s : Int32} {len : Nat} (h1 : in0 s 4 = true) (h2 : ¬ G.2.2.2.2.2.2.1 (ix s) = 0) (e : ix (G.2.2.2.2.2.2.2.1 (ix s)) = len) (e2 : fst9 (jgC G.1 (shRow G (ix s))) len = len) : m_judge G s = (0, G) := by
  unfold m_judge
  rw [h1, decide_eq_false h2, e]
  dsimp only
  rw [e2, decide_eq_false (Nat.lt_irrefl _)]
  rfl

abbrev r_X5_sheet : Room := { frames := 2, cells := 0, slots := 0, locals := 42 }
theorem cv_X5_sheet : cV yX5_sheet cX5_sheet 5 (some .int) 3 := ⟨k5_159, k5_160, k5_161, k1_6, by decide, by decide, by decide +kernel⟩
set_option maxHeartbeats 4000000 in
set_option maxRecDepth 100000 in
theorem c_X5_sheet (l : Launch) (D : va_G) (cI cC : ClassId) (adK adV : Nat → Nat) (y : Nat → Nat) (T K : Tw) (ik : Bool) (F f : Nat → Int32) (n : Nat) (s1 s2 s3 kr ar : Nat → Int32) (tk : Int32) (bg en : Nat) (vl : Int64) (cr : Nat → Int32) (hk : ik = true → kr = rowOf K) (ho : gOk T) (s : Int32) (b : Int32) (v : Int32) : FC l yX5_sheet (wW yX5_sheet cX5_sheet 5 (some .int)) r_X5_sheet D (tyC cI cC) adK adV (wMo cI cC y (rowOf T) (kr, ar, ik, F, f, n, tk, bg, en, vl, s1, s2, s3, cr)) [.ref (y 0), .int s, .int b, .int v] 0 0 (pMo cI cC y (m_sheet (T, K, ik, F, f, n, s1, s2, s3) s b v)) := by
  refine FC.of (own := RX5) (by decide) rfl (Nat.le_of_ble_eq_true rfl) ?_
  intro p9 e9 s9 m9 args9 below9 meth9 c9 A9 C hr hlk hmn
  show AW p9 l e9 r_X5_sheet s9 m9 args9 below9 meth9 c9 D A9 5 0 0 _ 0 [(0, .ref (y 0)), (1, .int s), (2, .int b), (3, .int v)] [] _
  have hn := ho.n
  have J35 : (in0 s 4 && (decide (b = 0) || (decide (b = 8) || (decide (b = 16) || decide (b = 32))))) = true → AW p9 l e9 r_X5_sheet s9 m9 args9 below9 meth9 c9 D A9 5 0 0 (aQ below9 args9 s9 D A9 0 0 (pMo cI cC y (m_sheet (T, K, ik, F, f, n, s1, s2, s3) s b v))) 35 [(0, .ref (y 0)), (1, .int s), (2, .int b), (3, .int v)] [] (wMo cI cC y (rowOf T) (kr, ar, ik, F, f, n, tk, bg, en, vl, s1, s2, s3, cr)) := by
    intro hj
    refine aw_iload_n C dX5_sheet_35 rfl ?_
    refine aw_if_ge C 46 dX5_sheet_36 (by decide) (fun c_36 => ?_) (fun c_36 => ?_)
    · skip
      refine aw_iload_n C dX5_sheet_46 rfl ?_
      refine aw_bipush C (40 : Int32) dX5_sheet_47 (by decide) ?_
      refine aw_icmp_le C 58 dX5_sheet_49 (by decide) (fun c_49 => ?_) (fun c_49 => ?_)
      · skip
        obtain ⟨es, hs⟩ := in0_ix (n := 4) (by decide) (and_2 hj).1
        refine aw_eq (lv' := [(0, .ref (y 0)), (1, .int (nI (ix s))), (2, .int b), (3, .int v)]) (ws' := wMo cI cC y (rowOf T) (kr, ar, ik, F, f, n, tk, bg, en, vl, s1, s2, s3, cr)) (by rw [← es]) rfl rfl ?_
        refine aw_aload_n C dX5_sheet_58 rfl ?_
        refine aw_getf C 0 4 14 18 inX5 rfl (by decide) rfl k4_8 rfl rfl dX5_sheet_59 ?_
        refine aw_iload_n C dX5_sheet_62 rfl ?_
        refine aw_pc 63 rfl ?_
        refine aw_iload_n C dX5_sheet_63 rfl ?_
        refine aw_iastN C 9 0 (ix s) rfl rfl rfl (by omega) (by decide) (ws' := wMo cI cC y (rowOf T) (kr, ar, ik, F, f, n, tk, bg, en, vl, (upd s1 (ix s) b), s2, s3, cr)) (mo_set9 ..) dX5_sheet_64 ?_
        refine aw_aload_n C dX5_sheet_65 rfl ?_
        refine aw_getf C 0 4 15 18 inX5 rfl (by decide) rfl k4_9 rfl rfl dX5_sheet_66 ?_
        refine aw_iload_n C dX5_sheet_69 rfl ?_
        refine aw_iload_n C dX5_sheet_70 rfl ?_
        refine aw_if_ne C 78 dX5_sheet_71 (by decide) (fun c_71 => ?_) (fun c_71 => ?_)
        · skip
          refine aw_iload_n C dX5_sheet_78 rfl ?_
          refine aw_iastN C 10 0 (ix s) rfl rfl rfl (by omega) (by decide) (ws' := wMo cI cC y (rowOf T) (kr, ar, ik, F, f, n, tk, bg, en, vl, (upd s1 (ix s) b), (upd s2 (ix s) v), s3, cr)) (mo_set10 ..) dX5_sheet_79 ?_
          refine aw_iconst C (0 : Int32) dX5_sheet_80 (by decide) ?_
          refine aw_pc 81 rfl ?_
          refine aw_istore C true (lv' := [(0, .ref (y 0)), (1, .int (nI (ix s))), (2, .int b), (3, .int v), (4, .int (0 : Int32))]) dX5_sheet_81 (by decide) rfl rfl ?_
          refine aw_eq (lv' := [(0, .ref (y 0)), (1, .int (nI (ix s))), (2, .int b), (3, .int v), (4, .int (nI 0))]) (ws' := wMo cI cC y (rowOf T) (kr, ar, ik, F, f, n, tk, bg, en, vl, (upd s1 (ix s) b), (upd s2 (ix s) v), (fillF s3 (ix s * 40) (ix s * 40 + 0) 0), cr)) (by first | rfl | (simp only [itr, hj, c_36, c_49, c_71])) rfl (by rw [fillF_0]) ?_
          refine aw_loop (LV := fun i => [(0, .ref (y 0)), (1, .int (nI (ix s))), (2, .int b), (3, .int v), (4, .int (nI i))]) (WS := fun i => wMo cI cC y (rowOf T) (kr, ar, ik, F, f, n, tk, bg, en, vl, (upd s1 (ix s) b), (upd s2 (ix s) v), (fillF s3 (ix s * 40) (ix s * 40 + i) 0), cr)) 40 (Inv := fun _ => True) trivial ?_ ?_
          · intro hv83
            refine aw_iload C dX5_sheet_83 rfl ?_
            refine aw_bipush C (40 : Int32) dX5_sheet_85 (by decide) ?_
            refine aw_icmp_ge C 109 dX5_sheet_87 (by decide) (fun c_87 => ?_) (fun c_87 => absurd c_87 (fun z => z (by decide)))
            refine aw_aload_n C dX5_sheet_109 rfl ?_
            refine aw_getf C 0 4 15 18 inX5 rfl (by decide) rfl k4_9 rfl rfl dX5_sheet_110 ?_
            refine aw_iload_n C dX5_sheet_113 rfl ?_
            refine aw_ialdN C 10 0 (ix s) rfl rfl rfl (by omega) (by decide) dX5_sheet_114 ?_
            refine aw_top (y := ((upd s2 (ix s) v) (ix s))) rfl ?_
            have hm : m_sheet (T, K, ik, F, f, n, s1, s2, s3) s b v = (((upd s2 (ix s) v) (ix s)), (T, K, ik, F, f, n, (upd s1 (ix s) b), (upd s2 (ix s) v), (fillF s3 (ix s * 40) (ix s * 40 + 40) 0))) := by unfold m_sheet; rw [hj, decide_eq_true c_36, decide_eq_true c_49]; dsimp only [cond_true]; (first | rw [if_pos c_71] | rw [if_neg c_71]) <;> rfl
            exact aw_iret C hr hlk dX5_sheet_115 ⟨ri (by rw [hm]), kr, ar, tk, bg, en, vl, cr, by first | (rw [hm]; done) | (rw [hm]; rfl), by rw [hm]; exact hk⟩
          · intro i hi83 hv83 ih83
            refine aw_iload C dX5_sheet_83 rfl ?_
            refine aw_pc 85 rfl ?_
            refine aw_bipush C (40 : Int32) dX5_sheet_85 (by decide) ?_
            refine aw_icmp_ge C 109 dX5_sheet_87 (by decide) (fun c_87 => absurd c_87 (nI_ge (b := 40) hi83 (by decide))) (fun c_87 => ?_)
            refine aw_aload_n C dX5_sheet_90 rfl ?_
            refine aw_getf C 0 4 16 18 inX5 rfl (by decide) rfl k4_10 rfl rfl dX5_sheet_91 ?_
            refine aw_bipush C (40 : Int32) dX5_sheet_94 (by decide) ?_
            refine aw_iload_n C dX5_sheet_96 rfl ?_
            refine aw_imul C dX5_sheet_97 ?_
            refine aw_iload C dX5_sheet_98 rfl ?_
            refine aw_iadd C dX5_sheet_100 ?_
            refine aw_iconst C (0 : Int32) dX5_sheet_101 (by decide) ?_
            refine aw_pc 102 rfl ?_
            refine aw_iastN C 11 0 (ix s * 40 + i) rfl rfl (tl_ix (ix s) i) (by omega) (by decide) (ws' := wMo cI cC y (rowOf T) (kr, ar, ik, F, f, n, tk, bg, en, vl, (upd s1 (ix s) b), (upd s2 (ix s) v), (upd (fillF s3 (ix s * 40) (ix s * 40 + i) 0) (ix s * 40 + i) (0 : Int32)), cr)) (mo_set11 ..) dX5_sheet_102 ?_
            refine aw_iinc C (nI (i + 1)) dX5_sheet_103 rfl (inc_nI _ 1) (by decide) rfl (lv' := [(0, .ref (y 0)), (1, .int (nI (ix s))), (2, .int b), (3, .int v), (4, .int (nI (i + 1)))]) rfl ?_
            refine aw_goto C 83 dX5_sheet_106 (by decide) ?_
            exact aw_eq (by first | rfl | (simp only [itr, hj, c_36, c_49, c_71])) rfl (by rw [fillF_s]) (ih83 trivial)
        · skip
          refine aw_iconst C (0 : Int32) dX5_sheet_74 (by decide) ?_
          refine aw_goto C 79 dX5_sheet_75 (by decide) ?_
          refine aw_iastN C 10 0 (ix s) rfl rfl rfl (by omega) (by decide) (ws' := wMo cI cC y (rowOf T) (kr, ar, ik, F, f, n, tk, bg, en, vl, (upd s1 (ix s) b), (upd s2 (ix s) (0 : Int32)), s3, cr)) (mo_set10 ..) dX5_sheet_79 ?_
          refine aw_iconst C (0 : Int32) dX5_sheet_80 (by decide) ?_
          refine aw_istore C true (lv' := [(0, .ref (y 0)), (1, .int (nI (ix s))), (2, .int b), (3, .int v), (4, .int (0 : Int32))]) dX5_sheet_81 (by decide) rfl rfl ?_
          refine aw_eq (lv' := [(0, .ref (y 0)), (1, .int (nI (ix s))), (2, .int b), (3, .int v), (4, .int (nI 0))]) (ws' := wMo cI cC y (rowOf T) (kr, ar, ik, F, f, n, tk, bg, en, vl, (upd s1 (ix s) b), (upd s2 (ix s) (0 : Int32)), (fillF s3 (ix s * 40) (ix s * 40 + 0) 0), cr)) (by first | rfl | (simp only [itr, hj, c_36, c_49, c_71])) rfl (by rw [fillF_0]) ?_
          refine aw_loop (LV := fun i => [(0, .ref (y 0)), (1, .int (nI (ix s))), (2, .int b), (3, .int v), (4, .int (nI i))]) (WS := fun i => wMo cI cC y (rowOf T) (kr, ar, ik, F, f, n, tk, bg, en, vl, (upd s1 (ix s) b), (upd s2 (ix s) (0 : Int32)), (fillF s3 (ix s * 40) (ix s * 40 + i) 0), cr)) 40 (Inv := fun _ => True) trivial ?_ ?_
          · intro hv83
            refine aw_iload C dX5_sheet_83 rfl ?_
            refine aw_bipush C (40 : Int32) dX5_sheet_85 (by decide) ?_
            refine aw_pc 87 rfl ?_
            refine aw_icmp_ge C 109 dX5_sheet_87 (by decide) (fun c_87 => ?_) (fun c_87 => absurd c_87 (fun z => z (by decide)))
            refine aw_aload_n C dX5_sheet_109 rfl ?_
            refine aw_getf C 0 4 15 18 inX5 rfl (by decide) rfl k4_9 rfl rfl dX5_sheet_110 ?_
            refine aw_iload_n C dX5_sheet_113 rfl ?_
            refine aw_ialdN C 10 0 (ix s) rfl rfl rfl (by omega) (by decide) dX5_sheet_114 ?_
            refine aw_top (y := ((upd s2 (ix s) (0 : Int32)) (ix s))) rfl ?_
            have hm : m_sheet (T, K, ik, F, f, n, s1, s2, s3) s b v = (((upd s2 (ix s) (0 : Int32)) (ix s)), (T, K, ik, F, f, n, (upd s1 (ix s) b), (upd s2 (ix s) (0 : Int32)), (fillF s3 (ix s * 40) (ix s * 40 + 40) 0))) := by unfold m_sheet; rw [hj, decide_eq_true c_36, decide_eq_true c_49]; dsimp only [cond_true]; (first | rw [if_pos c_71] | rw [if_neg c_71]) <;> rfl
            exact aw_iret C hr hlk dX5_sheet_115 ⟨ri (by rw [hm]), kr, ar, tk, bg, en, vl, cr, by first | (rw [hm]; done) | (rw [hm]; rfl), by rw [hm]; exact hk⟩
          · intro i hi83 hv83 ih83
            refine aw_iload C dX5_sheet_83 rfl ?_
            refine aw_bipush C (40 : Int32) dX5_sheet_85 (by decide) ?_
            refine aw_icmp_ge C 109 dX5_sheet_87 (by decide) (fun c_87 => absurd c_87 (nI_ge (b := 40) hi83 (by decide))) (fun c_87 => ?_)
            refine aw_aload_n C dX5_sheet_90 rfl ?_
            refine aw_pc 91 rfl ?_
            refine aw_getf C 0 4 16 18 inX5 rfl (by decide) rfl k4_10 rfl rfl dX5_sheet_91 ?_
            refine aw_bipush C (40 : Int32) dX5_sheet_94 (by decide) ?_
            refine aw_iload_n C dX5_sheet_96 rfl ?_
            refine aw_imul C dX5_sheet_97 ?_
            refine aw_iload C dX5_sheet_98 rfl ?_
            refine aw_iadd C dX5_sheet_100 ?_
            refine aw_iconst C (0 : Int32) dX5_sheet_101 (by decide) ?_
            refine aw_iastN C 11 0 (ix s * 40 + i) rfl rfl (tl_ix (ix s) i) (by omega) (by decide) (ws' := wMo cI cC y (rowOf T) (kr, ar, ik, F, f, n, tk, bg, en, vl, (upd s1 (ix s) b), (upd s2 (ix s) (0 : Int32)), (upd (fillF s3 (ix s * 40) (ix s * 40 + i) 0) (ix s * 40 + i) (0 : Int32)), cr)) (mo_set11 ..) dX5_sheet_102 ?_
            refine aw_iinc C (nI (i + 1)) dX5_sheet_103 rfl (inc_nI _ 1) (by decide) rfl (lv' := [(0, .ref (y 0)), (1, .int (nI (ix s))), (2, .int b), (3, .int v), (4, .int (nI (i + 1)))]) rfl ?_
            refine aw_goto C 83 dX5_sheet_106 (by decide) ?_
            exact aw_eq (by first | rfl | (simp only [itr, hj, c_36, c_49, c_71])) rfl (by rw [fillF_s]) (ih83 trivial)
      · skip
        refine aw_pc 52 rfl ?_
        refine aw_aload_n C dX5_sheet_52 rfl ?_
        refine aw_iconst C (0 : Int32) dX5_sheet_53 (by decide) ?_
        refine aw_callVd C (As := [.int (0 : Int32)]) (c_X5_no l D cI cC adK adV y T (kr, ar, ik, F, f, n, tk, bg, en, vl, s1, s2, s3, cr) 0 (by decide)) k4_60 cv_X5_no 0 4 rfl rfl rfl [0, 1, 2, 3, 4, 5, 6, 7, 8, 9, 10, 11, 12] (by decide) rfl (wr := ([] : va_W)) [] rfl (by decide) (by decide) [0, 1, 2, 3, 4, 5, 6, 7, 8, 9, 10, 11, 12] (by decide) (ws' := wMo cI cC y (rowOf T) (kr, ar, ik, (upd F 0 (F 0 + 1)), f, n, tk, bg, en, vl, s1, s2, s3, cr)) rfl ⟨by decide, by decide⟩ rfl rfl ⟨by decide, by decide⟩ rfl rfl (Nat.le_of_ble_eq_true rfl) dX5_sheet_54 ?_
        have hm : m_sheet (T, K, ik, F, f, n, s1, s2, s3) s b v = ((fno 0), (T, K, ik, (upd F 0 (F 0 + 1)), f, n, s1, s2, s3)) := by simp only [m_sheet, hj, c_36, c_49, decide_true, decide_false, Bool.not_true, Bool.not_false, Bool.true_and, Bool.false_and, Bool.and_true, Bool.and_false, Bool.true_or, Bool.false_or, Bool.or_true, Bool.or_false, cond_true, cond_false, eq_self, if_true, if_false, ite_true, ite_false] <;> rfl
        exact aw_iret C hr hlk dX5_sheet_57 ⟨ri (by rw [hm]), kr, ar, tk, bg, en, vl, cr, by first | (rw [hm]; done) | (rw [hm]; rfl), by rw [hm]; exact hk⟩
    · skip
      refine aw_aload_n C dX5_sheet_39 rfl ?_
      refine aw_bipush C (6 : Int32) dX5_sheet_40 (by decide) ?_
      refine aw_callVd C (As := [.int (6 : Int32)]) (c_X5_no l D cI cC adK adV y T (kr, ar, ik, F, f, n, tk, bg, en, vl, s1, s2, s3, cr) 6 (by decide)) k4_60 cv_X5_no 0 4 rfl rfl rfl [0, 1, 2, 3, 4, 5, 6, 7, 8, 9, 10, 11, 12] (by decide) rfl (wr := ([] : va_W)) [] rfl (by decide) (by decide) [0, 1, 2, 3, 4, 5, 6, 7, 8, 9, 10, 11, 12] (by decide) (ws' := wMo cI cC y (rowOf T) (kr, ar, ik, (upd F 6 (F 6 + 1)), f, n, tk, bg, en, vl, s1, s2, s3, cr)) rfl ⟨by decide, by decide⟩ rfl rfl ⟨by decide, by decide⟩ rfl rfl (Nat.le_of_ble_eq_true rfl) dX5_sheet_42 ?_
      have hm : m_sheet (T, K, ik, F, f, n, s1, s2, s3) s b v = ((fno 6), (T, K, ik, (upd F 6 (F 6 + 1)), f, n, s1, s2, s3)) := by simp only [m_sheet, hj, c_36, decide_true, decide_false, Bool.not_true, Bool.not_false, Bool.true_and, Bool.false_and, Bool.and_true, Bool.and_false, Bool.true_or, Bool.false_or, Bool.or_true, Bool.or_false, cond_true, cond_false, eq_self, if_true, if_false, ite_true, ite_false] <;> rfl
      exact aw_iret C hr hlk dX5_sheet_45 ⟨ri (by rw [hm]), kr, ar, tk, bg, en, vl, cr, by first | (rw [hm]; done) | (rw [hm]; rfl), by rw [hm]; exact hk⟩
  refine aw_iload_n C dX5_sheet_0 rfl ?_
  refine aw_callSp C (As := [.int s]) (c_X5_isSheet l D cI cC adK adV s) k5_63 cs_X5_isSheet [] (by decide) rfl ⟨by decide, by decide⟩ rfl rfl ⟨by decide, by decide⟩ rfl rfl (Nat.le_of_ble_eq_true rfl) dX5_sheet_1 ?_
  refine aw_pc 4 rfl ?_
  refine aw_ifeq_b C 29 dX5_sheet_4 (by decide) (fun c_4 => ?_) (fun c_4 => ?_)
  · skip
    refine aw_aload_n C dX5_sheet_29 rfl ?_
    refine aw_iconst C (0 : Int32) dX5_sheet_30 (by decide) ?_
    refine aw_callVd C (As := [.int (0 : Int32)]) (c_X5_no l D cI cC adK adV y T (kr, ar, ik, F, f, n, tk, bg, en, vl, s1, s2, s3, cr) 0 (by decide)) k4_60 cv_X5_no 0 4 rfl rfl rfl [0, 1, 2, 3, 4, 5, 6, 7, 8, 9, 10, 11, 12] (by decide) rfl (wr := ([] : va_W)) [] rfl (by decide) (by decide) [0, 1, 2, 3, 4, 5, 6, 7, 8, 9, 10, 11, 12] (by decide) (ws' := wMo cI cC y (rowOf T) (kr, ar, ik, (upd F 0 (F 0 + 1)), f, n, tk, bg, en, vl, s1, s2, s3, cr)) rfl ⟨by decide, by decide⟩ rfl rfl ⟨by decide, by decide⟩ rfl rfl (Nat.le_of_ble_eq_true rfl) dX5_sheet_31 ?_
    have hm : m_sheet (T, K, ik, F, f, n, s1, s2, s3) s b v = ((fno 0), (T, K, ik, (upd F 0 (F 0 + 1)), f, n, s1, s2, s3)) := by simp only [m_sheet, c_4, decide_true, decide_false, Bool.not_true, Bool.not_false, Bool.true_and, Bool.false_and, Bool.and_true, Bool.and_false, Bool.true_or, Bool.false_or, Bool.or_true, Bool.or_false, cond_true, cond_false, eq_self, if_true, if_false, ite_true, ite_false] <;> rfl
    exact aw_iret C hr hlk dX5_sheet_34 ⟨ri (by rw [hm]), kr, ar, tk, bg, en, vl, cr, by first | (rw [hm]; done) | (rw [hm]; rfl), by rw [hm]; exact hk⟩
  · skip
    refine aw_iload_n C dX5_sheet_7 rfl ?_
    refine aw_if_eq C 35 dX5_sheet_8 (by decide) (fun c_8 => ?_) (fun c_8 => ?_)
    · skip
      exact J35 (by simp only [c_4, c_8, decide_true, decide_false, Bool.not_true, Bool.not_false, Bool.true_and, Bool.false_and, Bool.and_true, Bool.and_false, Bool.true_or, Bool.false_or, Bool.or_true, Bool.or_false, cond_true, cond_false, eq_self, if_true, if_false, ite_true, ite_false])
    · skip
      refine aw_iload_n C dX5_sheet_11 rfl ?_
      refine aw_bipush C (8 : Int32) dX5_sheet_12 (by decide) ?_
      refine aw_icmp_eq C 35 dX5_sheet_14 (by decide) (fun c_14 => ?_) (fun c_14 => ?_)
      · skip
        exact J35 (by simp only [c_4, c_8, c_14, decide_true, decide_false, Bool.not_true, Bool.not_false, Bool.true_and, Bool.false_and, Bool.and_true, Bool.and_false, Bool.true_or, Bool.false_or, Bool.or_true, Bool.or_false, cond_true, cond_false, eq_self, if_true, if_false, ite_true, ite_false])
      · skip
        refine aw_pc 17 rfl ?_
        refine aw_iload_n C dX5_sheet_17 rfl ?_
        refine aw_bipush C (16 : Int32) dX5_sheet_18 (by decide) ?_
        refine aw_icmp_eq C 35 dX5_sheet_20 (by decide) (fun c_20 => ?_) (fun c_20 => ?_)
        · skip
          exact J35 (by simp only [c_4, c_8, c_14, c_20, decide_true, decide_false, Bool.not_true, Bool.not_false, Bool.true_and, Bool.false_and, Bool.and_true, Bool.and_false, Bool.true_or, Bool.false_or, Bool.or_true, Bool.or_false, cond_true, cond_false, eq_self, if_true, if_false, ite_true, ite_false])
        · skip
          refine aw_iload_n C dX5_sheet_23 rfl ?_
          refine aw_bipush C (32 : Int32) dX5_sheet_24 (by decide) ?_
          refine aw_icmp_eq C 35 dX5_sheet_26 (by decide) (fun c_26 => ?_) (fun c_26 => ?_)
          · skip
            exact J35 (by simp only [c_4, c_8, c_14, c_20, c_26, decide_true, decide_false, Bool.not_true, Bool.not_false, Bool.true_and, Bool.false_and, Bool.and_true, Bool.and_false, Bool.true_or, Bool.false_or, Bool.or_true, Bool.or_false, cond_true, cond_false, eq_self, if_true, if_false, ite_true, ite_false])
          · skip
            refine aw_aload_n C dX5_sheet_29 rfl ?_
            refine aw_iconst C (0 : Int32) dX5_sheet_30 (by decide) ?_
            refine aw_callVd C (As := [.int (0 : Int32)]) (c_X5_no l D cI cC adK adV y T (kr, ar, ik, F, f, n, tk, bg, en, vl, s1, s2, s3, cr) 0 (by decide)) k4_60 cv_X5_no 0 4 rfl rfl rfl [0, 1, 2, 3, 4, 5, 6, 7, 8, 9, 10, 11, 12] (by decide) rfl (wr := ([] : va_W)) [] rfl (by decide) (by decide) [0, 1, 2, 3, 4, 5, 6, 7, 8, 9, 10, 11, 12] (by decide) (ws' := wMo cI cC y (rowOf T) (kr, ar, ik, (upd F 0 (F 0 + 1)), f, n, tk, bg, en, vl, s1, s2, s3, cr)) rfl ⟨by decide, by decide⟩ rfl rfl ⟨by decide, by decide⟩ rfl rfl (Nat.le_of_ble_eq_true rfl) dX5_sheet_31 ?_
            have hm : m_sheet (T, K, ik, F, f, n, s1, s2, s3) s b v = ((fno 0), (T, K, ik, (upd F 0 (F 0 + 1)), f, n, s1, s2, s3)) := by simp only [m_sheet, c_4, c_8, c_14, c_20, c_26, decide_true, decide_false, Bool.not_true, Bool.not_false, Bool.true_and, Bool.false_and, Bool.and_true, Bool.and_false, Bool.true_or, Bool.false_or, Bool.or_true, Bool.or_false, cond_true, cond_false, eq_self, if_true, if_false, ite_true, ite_false] <;> rfl
            exact aw_iret C hr hlk dX5_sheet_34 ⟨ri (by rw [hm]), kr, ar, tk, bg, en, vl, cr, by first | (rw [hm]; done) | (rw [hm]; rfl), by rw [hm]; exact hk⟩
abbrev r_X5_write : Room := { frames := 3, cells := 0, slots := 0, locals := 63 }
theorem cv_X5_write : cV yX5_write cX5_write 5 (some .int) 3 := ⟨k5_163, k5_164, k5_165, k1_6, by decide, by decide, by decide +kernel⟩
set_option maxHeartbeats 4000000 in
set_option maxRecDepth 100000 in
theorem c_X5_write (l : Launch) (D : va_G) (cI cC : ClassId) (adK adV : Nat → Nat) (y : Nat → Nat) (T K : Tw) (ik : Bool) (F f : Nat → Int32) (n : Nat) (s1 s2 s3 kr ar : Nat → Int32) (tk : Int32) (bg en : Nat) (vl : Int64) (cr : Nat → Int32) (hk : ik = true → kr = rowOf K) (ho : gOk T) (s : Int32) (i : Int32) (v : Int32) (hS : sOk s2) : FC l yX5_write (wW yX5_write cX5_write 5 (some .int)) r_X5_write D (tyC cI cC) adK adV (wMo cI cC y (rowOf T) (kr, ar, ik, F, f, n, tk, bg, en, vl, s1, s2, s3, cr)) [.ref (y 0), .int s, .int i, .int v] 0 0 (pMo cI cC y (m_write (T, K, ik, F, f, n, s1, s2, s3) s i v)) := by
  refine FC.of (own := RX5) (by decide) rfl (Nat.le_of_ble_eq_true rfl) ?_
  intro p9 e9 s9 m9 args9 below9 meth9 c9 A9 C hr hlk hmn
  show AW p9 l e9 r_X5_write s9 m9 args9 below9 meth9 c9 D A9 5 0 0 _ 0 [(0, .ref (y 0)), (1, .int s), (2, .int i), (3, .int v)] [] _
  have hn := ho.n
  refine aw_aload_n C dX5_write_0 rfl ?_
  refine aw_iload_n C dX5_write_1 rfl ?_
  refine aw_callVp C (As := [.int s]) (c_X5_wrongSheet l D cI cC adK adV y T (kr, ar, ik, F, f, n, tk, bg, en, vl, s1, s2, s3, cr) s) k5_59 cv_X5_wrongSheet 0 4 rfl rfl rfl [0, 1, 2, 3, 4, 5, 6, 7, 8, 9, 10, 11, 12] (by decide) rfl ⟨by decide, by decide⟩ rfl rfl ⟨by decide, by decide⟩ rfl rfl (Nat.le_of_ble_eq_true rfl) dX5_write_2 ?_
  rcases wS_c s1 s with ⟨wq1, ew⟩ | ⟨wq1, wq2, ew⟩ | ⟨wq1, wq2, ew⟩
  · skip
    refine aw_top (y := (0 : Int32)) (by exact ew) ?_
    refine aw_istore C true (lv' := [(0, .ref (y 0)), (1, .int s), (2, .int i), (3, .int v), (4, .int (0 : Int32))]) dX5_write_5 (by decide) rfl rfl ?_
    refine aw_iload C dX5_write_7 rfl ?_
    refine aw_if_ge C 31 dX5_write_9 (by decide) (fun c_9 => ?_) (fun c_9 => absurd c_9 (by decide))
    refine aw_iload C dX5_write_31 rfl ?_
    refine aw_if_lt C 43 dX5_write_33 (by decide) (fun c_33 => absurd c_33 (by decide)) (fun c_33 => ?_)
    refine aw_pc 36 rfl ?_
    refine aw_aload_n C dX5_write_36 rfl ?_
    refine aw_iload C dX5_write_37 rfl ?_
    refine aw_callVd C (As := [.int (0 : Int32)]) (c_X5_no l D cI cC adK adV y T (kr, ar, ik, F, f, n, tk, bg, en, vl, s1, s2, s3, cr) 0 (by decide)) k4_60 cv_X5_no 0 4 rfl rfl rfl [0, 1, 2, 3, 4, 5, 6, 7, 8, 9, 10, 11, 12] (by decide) rfl (wr := ([] : va_W)) [] rfl (by decide) (by decide) [0, 1, 2, 3, 4, 5, 6, 7, 8, 9, 10, 11, 12] (by decide) (ws' := wMo cI cC y (rowOf T) (kr, ar, ik, (upd F 0 (F 0 + 1)), f, n, tk, bg, en, vl, s1, s2, s3, cr)) rfl ⟨by decide, by decide⟩ rfl rfl ⟨by decide, by decide⟩ rfl rfl (Nat.le_of_ble_eq_true rfl) dX5_write_39 ?_
    have hm : m_write (T, K, ik, F, f, n, s1, s2, s3) s i v = ((fno 0), (T, K, ik, (upd F 0 (F 0 + 1)), f, n, s1, s2, s3)) := by simp only [m_write, wq1, decide_true, decide_false, Bool.not_true, Bool.not_false, Bool.true_and, Bool.false_and, Bool.and_true, Bool.and_false, Bool.true_or, Bool.false_or, Bool.or_true, Bool.or_false, cond_true, cond_false, eq_self, if_true, if_false, ite_true, ite_false] <;> rfl
    exact aw_iret C hr hlk dX5_write_42 ⟨ri (by rw [hm]), kr, ar, tk, bg, en, vl, cr, by first | (rw [hm]; done) | (rw [hm]; rfl), by rw [hm]; exact hk⟩
  · skip
    refine aw_top (y := (5 : Int32)) (by exact ew) ?_
    refine aw_istore C true (lv' := [(0, .ref (y 0)), (1, .int s), (2, .int i), (3, .int v), (4, .int (5 : Int32))]) dX5_write_5 (by decide) rfl rfl ?_
    refine aw_iload C dX5_write_7 rfl ?_
    refine aw_if_ge C 31 dX5_write_9 (by decide) (fun c_9 => ?_) (fun c_9 => absurd c_9 (by decide))
    refine aw_iload C dX5_write_31 rfl ?_
    refine aw_if_lt C 43 dX5_write_33 (by decide) (fun c_33 => absurd c_33 (by decide)) (fun c_33 => ?_)
    refine aw_aload_n C dX5_write_36 rfl ?_
    refine aw_pc 37 rfl ?_
    refine aw_iload C dX5_write_37 rfl ?_
    refine aw_callVd C (As := [.int (5 : Int32)]) (c_X5_no l D cI cC adK adV y T (kr, ar, ik, F, f, n, tk, bg, en, vl, s1, s2, s3, cr) 5 (by decide)) k4_60 cv_X5_no 0 4 rfl rfl rfl [0, 1, 2, 3, 4, 5, 6, 7, 8, 9, 10, 11, 12] (by decide) rfl (wr := ([] : va_W)) [] rfl (by decide) (by decide) [0, 1, 2, 3, 4, 5, 6, 7, 8, 9, 10, 11, 12] (by decide) (ws' := wMo cI cC y (rowOf T) (kr, ar, ik, (upd F 5 (F 5 + 1)), f, n, tk, bg, en, vl, s1, s2, s3, cr)) rfl ⟨by decide, by decide⟩ rfl rfl ⟨by decide, by decide⟩ rfl rfl (Nat.le_of_ble_eq_true rfl) dX5_write_39 ?_
    have hm : m_write (T, K, ik, F, f, n, s1, s2, s3) s i v = ((fno 5), (T, K, ik, (upd F 5 (F 5 + 1)), f, n, s1, s2, s3)) := by simp only [m_write, wq1, wq2, decide_true, decide_false, Bool.not_true, Bool.not_false, Bool.true_and, Bool.false_and, Bool.and_true, Bool.and_false, Bool.true_or, Bool.false_or, Bool.or_true, Bool.or_false, cond_true, cond_false, eq_self, if_true, if_false, ite_true, ite_false] <;> rfl
    exact aw_iret C hr hlk dX5_write_42 ⟨ri (by rw [hm]), kr, ar, tk, bg, en, vl, cr, by first | (rw [hm]; done) | (rw [hm]; rfl), by rw [hm]; exact hk⟩
  · skip
    refine aw_top (y := (-1 : Int32)) (by exact ew) ?_
    obtain ⟨es, hs⟩ := in0_ix (n := 4) (by decide) wq1
    refine aw_eq (lv' := [(0, .ref (y 0)), (1, .int (nI (ix s))), (2, .int i), (3, .int v)]) (ws' := wMo cI cC y (rowOf T) (kr, ar, ik, F, f, n, tk, bg, en, vl, s1, s2, s3, cr)) (by rw [← es]) rfl rfl ?_
    refine aw_istore C true (lv' := [(0, .ref (y 0)), (1, .int (nI (ix s))), (2, .int i), (3, .int v), (4, .int (-1 : Int32))]) dX5_write_5 (by decide) rfl rfl ?_
    refine aw_iload C dX5_write_7 rfl ?_
    refine aw_if_ge C 31 dX5_write_9 (by decide) (fun c_9 => absurd c_9 (by decide)) (fun c_9 => ?_)
    refine aw_iload_n C dX5_write_12 rfl ?_
    refine aw_iconst C (0 : Int32) dX5_write_13 (by decide) ?_
    refine aw_aload_n C dX5_write_14 rfl ?_
    refine aw_getf C 0 4 15 18 inX5 rfl (by decide) rfl k4_9 rfl rfl dX5_write_15 ?_
    refine aw_pc 18 rfl ?_
    refine aw_iload_n C dX5_write_18 rfl ?_
    refine aw_ialdN C 10 0 (ix s) rfl rfl rfl (by omega) (by decide) dX5_write_19 ?_
    refine aw_top (y := (s2 (ix s))) rfl ?_
    refine aw_iconst C (1 : Int32) dX5_write_20 (by decide) ?_
    refine aw_isub C dX5_write_21 ?_
    refine aw_callSp C (As := [.int i, .int (0 : Int32), .int ((s2 (ix s)) - (1 : Int32))]) (c_X5_in1 l D cI cC adK adV i (0 : Int32) ((s2 (ix s)) - (1 : Int32))) k4_54 cs_X5_in1 [] (by decide) rfl ⟨by decide, by decide⟩ rfl rfl ⟨by decide, by decide⟩ rfl rfl (Nat.le_of_ble_eq_true rfl) dX5_write_22 ?_
    refine aw_top (y := b2 (in0 i (s2 (ix s)))) (by exact congrArg b2 (inL_len (hS _ hs))) ?_
    refine aw_ifne_b C 31 dX5_write_25 (by decide) (fun c_25 => ?_) (fun c_25 => ?_)
    · skip
      have hI := in0_40 hS hs c_25
      have hI2 := hI.2
      have e1 : i = nI (ix i) := hI.1
      refine aw_eq (lv' := [(0, .ref (y 0)), (1, .int (nI (ix s))), (2, .int (nI (ix i))), (3, .int v), (4, .int (-1 : Int32))]) (ws' := wMo cI cC y (rowOf T) (kr, ar, ik, F, f, n, tk, bg, en, vl, s1, s2, s3, cr)) (by rw [← e1]) rfl rfl ?_
      refine aw_iload C dX5_write_31 rfl ?_
      refine aw_if_lt C 43 dX5_write_33 (by decide) (fun c_33 => ?_) (fun c_33 => absurd c_33 (by decide))
      refine aw_aload_n C dX5_write_43 rfl ?_
      refine aw_getf C 0 4 16 18 inX5 rfl (by decide) rfl k4_10 rfl rfl dX5_write_44 ?_
      refine aw_pc 47 rfl ?_
      refine aw_bipush C (40 : Int32) dX5_write_47 (by decide) ?_
      refine aw_iload_n C dX5_write_49 rfl ?_
      refine aw_imul C dX5_write_50 ?_
      refine aw_iload_n C dX5_write_51 rfl ?_
      refine aw_iadd C dX5_write_52 ?_
      refine aw_aload_n C dX5_write_53 rfl ?_
      refine aw_getf C 0 4 14 18 inX5 rfl (by decide) rfl k4_8 rfl rfl dX5_write_54 ?_
      refine aw_iload_n C dX5_write_57 rfl ?_
      refine aw_ialdN C 9 0 (ix s) rfl rfl rfl (by omega) (by decide) dX5_write_58 ?_
      refine aw_top (y := (s1 (ix s))) rfl ?_
      refine aw_bipush C (8 : Int32) dX5_write_59 (by decide) ?_
      refine aw_pc 61 rfl ?_
      refine aw_icmp_ne C 69 dX5_write_61 (by decide) (fun c_61 => ?_) (fun c_61 => ?_)
      · skip
        refine aw_aload_n C dX5_write_69 rfl ?_
        refine aw_getf C 0 4 14 18 inX5 rfl (by decide) rfl k4_8 rfl rfl dX5_write_70 ?_
        refine aw_iload_n C dX5_write_73 rfl ?_
        refine aw_ialdN C 9 0 (ix s) rfl rfl rfl (by omega) (by decide) dX5_write_74 ?_
        refine aw_top (y := (s1 (ix s))) rfl ?_
        refine aw_bipush C (16 : Int32) dX5_write_75 (by decide) ?_
        refine aw_icmp_ne C 85 dX5_write_77 (by decide) (fun c_77 => ?_) (fun c_77 => ?_)
        · skip
          refine aw_iload_n C dX5_write_85 rfl ?_
          refine aw_top (y := (lowB (s1 (ix s)) v)) (by first | exact lowB_8 c_61 | exact lowB_16 c_61 c_77 | exact lowB_n c_61 c_77) ?_
          refine aw_iastN C 11 0 (ix s * 40 + ix i) rfl rfl (tl_ix (ix s) (ix i)) (by omega) (by decide) (ws' := wMo cI cC y (rowOf T) (kr, ar, ik, F, f, n, tk, bg, en, vl, s1, s2, (upd s3 (ix s * 40 + ix i) (lowB (s1 (ix s)) v)), cr)) (mo_set11 ..) dX5_write_86 ?_
          refine aw_iconst C (1 : Int32) dX5_write_87 (by decide) ?_
          refine aw_pc 88 rfl ?_
          have hm : m_write (T, K, ik, F, f, n, s1, s2, s3) s i v = ((1 : Int32), (T, K, ik, F, f, n, s1, s2, (upd s3 (ix s * 40 + ix i) (lowB (s1 (ix s)) v)))) := by simp only [m_write, wq1, wq2, c_25, decide_true, decide_false, Bool.not_true, Bool.not_false, Bool.true_and, Bool.false_and, Bool.and_true, Bool.and_false, Bool.true_or, Bool.false_or, Bool.or_true, Bool.or_false, cond_true, cond_false, eq_self, if_true, if_false, ite_true, ite_false] <;> rfl
          exact aw_iret C hr hlk dX5_write_88 ⟨ri (by rw [hm]), kr, ar, tk, bg, en, vl, cr, by first | (rw [hm]; done) | (rw [hm]; rfl), by rw [hm]; exact hk⟩
        · skip
          refine aw_iload_n C dX5_write_80 rfl ?_
          refine aw_i2s C dX5_write_81 ?_
          refine aw_goto C 86 dX5_write_82 (by decide) ?_
          refine aw_top (y := (lowB (s1 (ix s)) v)) (by first | exact lowB_8 c_61 | exact lowB_16 c_61 c_77 | exact lowB_n c_61 c_77) ?_
          refine aw_iastN C 11 0 (ix s * 40 + ix i) rfl rfl (tl_ix (ix s) (ix i)) (by omega) (by decide) (ws' := wMo cI cC y (rowOf T) (kr, ar, ik, F, f, n, tk, bg, en, vl, s1, s2, (upd s3 (ix s * 40 + ix i) (lowB (s1 (ix s)) v)), cr)) (mo_set11 ..) dX5_write_86 ?_
          refine aw_iconst C (1 : Int32) dX5_write_87 (by decide) ?_
          have hm : m_write (T, K, ik, F, f, n, s1, s2, s3) s i v = ((1 : Int32), (T, K, ik, F, f, n, s1, s2, (upd s3 (ix s * 40 + ix i) (lowB (s1 (ix s)) v)))) := by simp only [m_write, wq1, wq2, c_25, decide_true, decide_false, Bool.not_true, Bool.not_false, Bool.true_and, Bool.false_and, Bool.and_true, Bool.and_false, Bool.true_or, Bool.false_or, Bool.or_true, Bool.or_false, cond_true, cond_false, eq_self, if_true, if_false, ite_true, ite_false] <;> rfl
          exact aw_iret C hr hlk dX5_write_88 ⟨ri (by rw [hm]), kr, ar, tk, bg, en, vl, cr, by first | (rw [hm]; done) | (rw [hm]; rfl), by rw [hm]; exact hk⟩
      · skip
        refine aw_iload_n C dX5_write_64 rfl ?_
        refine aw_i2b C dX5_write_65 ?_
        refine aw_goto C 86 dX5_write_66 (by decide) ?_
        refine aw_pc 86 rfl ?_
        refine aw_top (y := (lowB (s1 (ix s)) v)) (by first | exact lowB_8 c_61 | exact lowB_16 c_61 c_77 | exact lowB_n c_61 c_77) ?_
        refine aw_iastN C 11 0 (ix s * 40 + ix i) rfl rfl (tl_ix (ix s) (ix i)) (by omega) (by decide) (ws' := wMo cI cC y (rowOf T) (kr, ar, ik, F, f, n, tk, bg, en, vl, s1, s2, (upd s3 (ix s * 40 + ix i) (lowB (s1 (ix s)) v)), cr)) (mo_set11 ..) dX5_write_86 ?_
        refine aw_iconst C (1 : Int32) dX5_write_87 (by decide) ?_
        have hm : m_write (T, K, ik, F, f, n, s1, s2, s3) s i v = ((1 : Int32), (T, K, ik, F, f, n, s1, s2, (upd s3 (ix s * 40 + ix i) (lowB (s1 (ix s)) v)))) := by simp only [m_write, wq1, wq2, c_25, decide_true, decide_false, Bool.not_true, Bool.not_false, Bool.true_and, Bool.false_and, Bool.and_true, Bool.and_false, Bool.true_or, Bool.false_or, Bool.or_true, Bool.or_false, cond_true, cond_false, eq_self, if_true, if_false, ite_true, ite_false] <;> rfl
        exact aw_iret C hr hlk dX5_write_88 ⟨ri (by rw [hm]), kr, ar, tk, bg, en, vl, cr, by first | (rw [hm]; done) | (rw [hm]; rfl), by rw [hm]; exact hk⟩
    · skip
      refine aw_iconst C (0 : Int32) dX5_write_28 (by decide) ?_
      refine aw_istore C false (lv' := [(0, .ref (y 0)), (1, .int (nI (ix s))), (2, .int i), (3, .int v), (4, .int (0 : Int32))]) dX5_write_29 (by decide) rfl rfl ?_
      refine aw_iload C dX5_write_31 rfl ?_
      refine aw_if_lt C 43 dX5_write_33 (by decide) (fun c_33 => absurd c_33 (by decide)) (fun c_33 => ?_)
      refine aw_aload_n C dX5_write_36 rfl ?_
      refine aw_iload C dX5_write_37 rfl ?_
      refine aw_callVd C (As := [.int (0 : Int32)]) (c_X5_no l D cI cC adK adV y T (kr, ar, ik, F, f, n, tk, bg, en, vl, s1, s2, s3, cr) 0 (by decide)) k4_60 cv_X5_no 0 4 rfl rfl rfl [0, 1, 2, 3, 4, 5, 6, 7, 8, 9, 10, 11, 12] (by decide) rfl (wr := ([] : va_W)) [] rfl (by decide) (by decide) [0, 1, 2, 3, 4, 5, 6, 7, 8, 9, 10, 11, 12] (by decide) (ws' := wMo cI cC y (rowOf T) (kr, ar, ik, (upd F 0 (F 0 + 1)), f, n, tk, bg, en, vl, s1, s2, s3, cr)) rfl ⟨by decide, by decide⟩ rfl rfl ⟨by decide, by decide⟩ rfl rfl (Nat.le_of_ble_eq_true rfl) dX5_write_39 ?_
      refine aw_pc 42 rfl ?_
      have hm : m_write (T, K, ik, F, f, n, s1, s2, s3) s i v = ((fno 0), (T, K, ik, (upd F 0 (F 0 + 1)), f, n, s1, s2, s3)) := by simp only [m_write, wq1, wq2, c_25, decide_true, decide_false, Bool.not_true, Bool.not_false, Bool.true_and, Bool.false_and, Bool.and_true, Bool.and_false, Bool.true_or, Bool.false_or, Bool.or_true, Bool.or_false, cond_true, cond_false, eq_self, if_true, if_false, ite_true, ite_false] <;> rfl
      exact aw_iret C hr hlk dX5_write_42 ⟨ri (by rw [hm]), kr, ar, tk, bg, en, vl, cr, by first | (rw [hm]; done) | (rw [hm]; rfl), by rw [hm]; exact hk⟩
abbrev r_X5_copy : Room := { frames := 2, cells := 0, slots := 0, locals := 42 }
theorem cv_X5_copy : cV yX5_copy cX5_copy 7 (some .int) 5 := ⟨k5_167, k5_168, k5_169, k1_6, by decide, by decide, by decide +kernel⟩
set_option maxHeartbeats 4000000 in
set_option maxRecDepth 100000 in
theorem c_X5_copy (l : Launch) (D : va_G) (cI cC : ClassId) (adK adV : Nat → Nat) (y : Nat → Nat) (T K : Tw) (ik : Bool) (F f : Nat → Int32) (n : Nat) (s1 s2 s3 kr ar : Nat → Int32) (tk : Int32) (bg en : Nat) (vl : Int64) (cr : Nat → Int32) (hk : ik = true → kr = rowOf K) (ho : gOk T) (s : Int32) (i : Int32) (t : Int32) (j : Int32) (k : Int32) (hS : sOk s2) : FC l yX5_copy (wW yX5_copy cX5_copy 7 (some .int)) r_X5_copy D (tyC cI cC) adK adV (wMo cI cC y (rowOf T) (kr, ar, ik, F, f, n, tk, bg, en, vl, s1, s2, s3, cr)) [.ref (y 0), .int s, .int i, .int t, .int j, .int k] 0 0 (pMo cI cC y (m_copy (T, K, ik, F, f, n, s1, s2, s3) s i t j k)) := by
  refine FC.of (own := RX5) (by decide) rfl (Nat.le_of_ble_eq_true rfl) ?_
  intro p9 e9 s9 m9 args9 below9 meth9 c9 A9 C hr hlk hmn
  show AW p9 l e9 r_X5_copy s9 m9 args9 below9 meth9 c9 D A9 7 0 0 _ 0 [(0, .ref (y 0)), (1, .int s), (2, .int i), (3, .int t), (4, .int j), (5, .int k)] [] _
  have hn := ho.n
  refine aw_iload_n C dX5_copy_0 rfl ?_
  refine aw_callSp C (As := [.int s]) (c_X5_isSheet l D cI cC adK adV s) k5_63 cs_X5_isSheet [] (by decide) rfl ⟨by decide, by decide⟩ rfl rfl ⟨by decide, by decide⟩ rfl rfl (Nat.le_of_ble_eq_true rfl) dX5_copy_1 ?_
  refine aw_ifeq_b C 14 dX5_copy_4 (by decide) (fun c_4 => ?_) (fun c_4 => ?_)
  · skip
    refine aw_aload_n C dX5_copy_14 rfl ?_
    refine aw_iconst C (0 : Int32) dX5_copy_15 (by decide) ?_
    refine aw_callVd C (As := [.int (0 : Int32)]) (c_X5_no l D cI cC adK adV y T (kr, ar, ik, F, f, n, tk, bg, en, vl, s1, s2, s3, cr) 0 (by decide)) k4_60 cv_X5_no 0 4 rfl rfl rfl [0, 1, 2, 3, 4, 5, 6, 7, 8, 9, 10, 11, 12] (by decide) rfl (wr := ([] : va_W)) [] rfl (by decide) (by decide) [0, 1, 2, 3, 4, 5, 6, 7, 8, 9, 10, 11, 12] (by decide) (ws' := wMo cI cC y (rowOf T) (kr, ar, ik, (upd F 0 (F 0 + 1)), f, n, tk, bg, en, vl, s1, s2, s3, cr)) rfl ⟨by decide, by decide⟩ rfl rfl ⟨by decide, by decide⟩ rfl rfl (Nat.le_of_ble_eq_true rfl) dX5_copy_16 ?_
    have hm : m_copy (T, K, ik, F, f, n, s1, s2, s3) s i t j k = ((fno 0), (T, K, ik, (upd F 0 (F 0 + 1)), f, n, s1, s2, s3)) := by simp only [m_copy, c_4, decide_true, decide_false, Bool.not_true, Bool.not_false, Bool.true_and, Bool.false_and, Bool.and_true, Bool.and_false, Bool.true_or, Bool.false_or, Bool.or_true, Bool.or_false, cond_true, cond_false, eq_self, if_true, if_false, ite_true, ite_false] <;> rfl
    exact aw_iret C hr hlk dX5_copy_19 ⟨ri (by rw [hm]), kr, ar, tk, bg, en, vl, cr, by first | (rw [hm]; done) | (rw [hm]; rfl), by rw [hm]; exact hk⟩
  · skip
    refine aw_iload_n C dX5_copy_7 rfl ?_
    refine aw_callSp C (As := [.int t]) (c_X5_isSheet l D cI cC adK adV t) k5_63 cs_X5_isSheet [] (by decide) rfl ⟨by decide, by decide⟩ rfl rfl ⟨by decide, by decide⟩ rfl rfl (Nat.le_of_ble_eq_true rfl) dX5_copy_8 ?_
    refine aw_pc 11 rfl ?_
    refine aw_ifne_b C 20 dX5_copy_11 (by decide) (fun c_11 => ?_) (fun c_11 => ?_)
    · skip
      obtain ⟨es9, hs⟩ := in0_ix (n := 4) (by decide) c_4
      have e1 : s = nI (ix s) := es9
      refine aw_eq (lv' := [(0, .ref (y 0)), (1, .int (nI (ix s))), (2, .int i), (3, .int t), (4, .int j), (5, .int k)]) (ws' := wMo cI cC y (rowOf T) (kr, ar, ik, F, f, n, tk, bg, en, vl, s1, s2, s3, cr)) (by rw [← e1]) rfl rfl ?_
      obtain ⟨et9, ht⟩ := in0_ix (n := 4) (by decide) c_11
      have e2 : t = nI (ix t) := et9
      refine aw_eq (lv' := [(0, .ref (y 0)), (1, .int (nI (ix s))), (2, .int i), (3, .int (nI (ix t))), (4, .int j), (5, .int k)]) (ws' := wMo cI cC y (rowOf T) (kr, ar, ik, F, f, n, tk, bg, en, vl, s1, s2, s3, cr)) (by rw [← e2]) rfl rfl ?_
      refine aw_aload_n C dX5_copy_20 rfl ?_
      refine aw_getf C 0 4 14 18 inX5 rfl (by decide) rfl k4_8 rfl rfl dX5_copy_21 ?_
      refine aw_iload_n C dX5_copy_24 rfl ?_
      refine aw_ialdN C 9 0 (ix s) rfl rfl rfl (by omega) (by decide) dX5_copy_25 ?_
      refine aw_top (y := (s1 (ix s))) rfl ?_
      refine aw_if_eq C 38 dX5_copy_26 (by decide) (fun c_26 => ?_) (fun c_26 => ?_)
      · skip
        refine aw_aload_n C dX5_copy_38 rfl ?_
        refine aw_iconst C (5 : Int32) dX5_copy_39 (by decide) ?_
        refine aw_callVd C (As := [.int (5 : Int32)]) (c_X5_no l D cI cC adK adV y T (kr, ar, ik, F, f, n, tk, bg, en, vl, s1, s2, s3, cr) 5 (by decide)) k4_60 cv_X5_no 0 4 rfl rfl rfl [0, 1, 2, 3, 4, 5, 6, 7, 8, 9, 10, 11, 12] (by decide) rfl (wr := ([] : va_W)) [] rfl (by decide) (by decide) [0, 1, 2, 3, 4, 5, 6, 7, 8, 9, 10, 11, 12] (by decide) (ws' := wMo cI cC y (rowOf T) (kr, ar, ik, (upd F 5 (F 5 + 1)), f, n, tk, bg, en, vl, s1, s2, s3, cr)) rfl ⟨by decide, by decide⟩ rfl rfl ⟨by decide, by decide⟩ rfl rfl (Nat.le_of_ble_eq_true rfl) dX5_copy_40 ?_
        have hm : m_copy (T, K, ik, F, f, n, s1, s2, s3) s i t j k = ((fno 5), (T, K, ik, (upd F 5 (F 5 + 1)), f, n, s1, s2, s3)) := by simp only [m_copy, c_4, c_11, c_26, decide_true, decide_false, Bool.not_true, Bool.not_false, Bool.true_and, Bool.false_and, Bool.and_true, Bool.and_false, Bool.true_or, Bool.false_or, Bool.or_true, Bool.or_false, cond_true, cond_false, eq_self, if_true, if_false, ite_true, ite_false] <;> rfl
        exact aw_iret C hr hlk dX5_copy_43 ⟨ri (by rw [hm]), kr, ar, tk, bg, en, vl, cr, by first | (rw [hm]; done) | (rw [hm]; rfl), by rw [hm]; exact hk⟩
      · skip
        refine aw_pc 29 rfl ?_
        refine aw_aload_n C dX5_copy_29 rfl ?_
        refine aw_getf C 0 4 14 18 inX5 rfl (by decide) rfl k4_8 rfl rfl dX5_copy_30 ?_
        refine aw_iload_n C dX5_copy_33 rfl ?_
        refine aw_ialdN C 9 0 (ix t) rfl rfl rfl (by omega) (by decide) dX5_copy_34 ?_
        refine aw_top (y := (s1 (ix t))) rfl ?_
        refine aw_if_ne C 44 dX5_copy_35 (by decide) (fun c_35 => ?_) (fun c_35 => ?_)
        · skip
          refine aw_aload_n C dX5_copy_44 rfl ?_
          refine aw_getf C 0 4 14 18 inX5 rfl (by decide) rfl k4_8 rfl rfl dX5_copy_45 ?_
          refine aw_iload_n C dX5_copy_48 rfl ?_
          refine aw_ialdN C 9 0 (ix s) rfl rfl rfl (by omega) (by decide) dX5_copy_49 ?_
          refine aw_top (y := (s1 (ix s))) rfl ?_
          refine aw_aload_n C dX5_copy_50 rfl ?_
          refine aw_pc 51 rfl ?_
          refine aw_getf C 0 4 14 18 inX5 rfl (by decide) rfl k4_8 rfl rfl dX5_copy_51 ?_
          refine aw_iload_n C dX5_copy_54 rfl ?_
          refine aw_ialdN C 9 0 (ix t) rfl rfl rfl (by omega) (by decide) dX5_copy_55 ?_
          refine aw_top (y := (s1 (ix t))) rfl ?_
          refine aw_icmp_eq C 65 dX5_copy_56 (by decide) (fun c_56 => ?_) (fun c_56 => ?_)
          · skip
            refine aw_iload C dX5_copy_65 rfl ?_
            refine aw_if_lt C 106 dX5_copy_67 (by decide) (fun c_67 => ?_) (fun c_67 => ?_)
            · skip
              refine aw_aload_n C dX5_copy_106 rfl ?_
              refine aw_iconst C (0 : Int32) dX5_copy_107 (by decide) ?_
              refine aw_callVd C (As := [.int (0 : Int32)]) (c_X5_no l D cI cC adK adV y T (kr, ar, ik, F, f, n, tk, bg, en, vl, s1, s2, s3, cr) 0 (by decide)) k4_60 cv_X5_no 0 4 rfl rfl rfl [0, 1, 2, 3, 4, 5, 6, 7, 8, 9, 10, 11, 12] (by decide) rfl (wr := ([] : va_W)) [] rfl (by decide) (by decide) [0, 1, 2, 3, 4, 5, 6, 7, 8, 9, 10, 11, 12] (by decide) (ws' := wMo cI cC y (rowOf T) (kr, ar, ik, (upd F 0 (F 0 + 1)), f, n, tk, bg, en, vl, s1, s2, s3, cr)) rfl ⟨by decide, by decide⟩ rfl rfl ⟨by decide, by decide⟩ rfl rfl (Nat.le_of_ble_eq_true rfl) dX5_copy_108 ?_
              have hm : m_copy (T, K, ik, F, f, n, s1, s2, s3) s i t j k = ((fno 0), (T, K, ik, (upd F 0 (F 0 + 1)), f, n, s1, s2, s3)) := by have gg : (hPart (s2 (ix s)) i k && hPart (s2 (ix t)) j k) = false := by {first | (rw [hPart_f1 c_67]; rfl) | (rw [hPart_f2 c_71]; rfl) | (rw [hPart_f2 (i := j) c_76, Bool.and_false]) | (rw [hPart_f3 (Int32.not_le.mpr c_89)]; rfl) | (rw [hPart_f3 (i := j) c_103, Bool.and_false])}; simp only [m_copy, c_4, c_11, c_26, c_35, c_56, gg, decide_true, decide_false, Bool.not_true, Bool.not_false, Bool.true_and, Bool.false_and, Bool.and_true, Bool.and_false, Bool.true_or, Bool.false_or, Bool.or_true, Bool.or_false, cond_true, cond_false, eq_self, if_true, if_false, ite_true, ite_false] <;> rfl
              exact aw_iret C hr hlk dX5_copy_111 ⟨ri (by rw [hm]), kr, ar, tk, bg, en, vl, cr, by first | (rw [hm]; done) | (rw [hm]; rfl), by rw [hm]; exact hk⟩
            · skip
              refine aw_pc 70 rfl ?_
              refine aw_iload_n C dX5_copy_70 rfl ?_
              refine aw_if_lt C 106 dX5_copy_71 (by decide) (fun c_71 => ?_) (fun c_71 => ?_)
              · skip
                refine aw_aload_n C dX5_copy_106 rfl ?_
                refine aw_iconst C (0 : Int32) dX5_copy_107 (by decide) ?_
                refine aw_callVd C (As := [.int (0 : Int32)]) (c_X5_no l D cI cC adK adV y T (kr, ar, ik, F, f, n, tk, bg, en, vl, s1, s2, s3, cr) 0 (by decide)) k4_60 cv_X5_no 0 4 rfl rfl rfl [0, 1, 2, 3, 4, 5, 6, 7, 8, 9, 10, 11, 12] (by decide) rfl (wr := ([] : va_W)) [] rfl (by decide) (by decide) [0, 1, 2, 3, 4, 5, 6, 7, 8, 9, 10, 11, 12] (by decide) (ws' := wMo cI cC y (rowOf T) (kr, ar, ik, (upd F 0 (F 0 + 1)), f, n, tk, bg, en, vl, s1, s2, s3, cr)) rfl ⟨by decide, by decide⟩ rfl rfl ⟨by decide, by decide⟩ rfl rfl (Nat.le_of_ble_eq_true rfl) dX5_copy_108 ?_
                have hm : m_copy (T, K, ik, F, f, n, s1, s2, s3) s i t j k = ((fno 0), (T, K, ik, (upd F 0 (F 0 + 1)), f, n, s1, s2, s3)) := by have gg : (hPart (s2 (ix s)) i k && hPart (s2 (ix t)) j k) = false := by {first | (rw [hPart_f1 c_67]; rfl) | (rw [hPart_f2 c_71]; rfl) | (rw [hPart_f2 (i := j) c_76, Bool.and_false]) | (rw [hPart_f3 (Int32.not_le.mpr c_89)]; rfl) | (rw [hPart_f3 (i := j) c_103, Bool.and_false])}; simp only [m_copy, c_4, c_11, c_26, c_35, c_56, gg, decide_true, decide_false, Bool.not_true, Bool.not_false, Bool.true_and, Bool.false_and, Bool.and_true, Bool.and_false, Bool.true_or, Bool.false_or, Bool.or_true, Bool.or_false, cond_true, cond_false, eq_self, if_true, if_false, ite_true, ite_false] <;> rfl
                exact aw_iret C hr hlk dX5_copy_111 ⟨ri (by rw [hm]), kr, ar, tk, bg, en, vl, cr, by first | (rw [hm]; done) | (rw [hm]; rfl), by rw [hm]; exact hk⟩
              · skip
                refine aw_iload C dX5_copy_74 rfl ?_
                refine aw_if_lt C 106 dX5_copy_76 (by decide) (fun c_76 => ?_) (fun c_76 => ?_)
                · skip
                  refine aw_aload_n C dX5_copy_106 rfl ?_
                  refine aw_iconst C (0 : Int32) dX5_copy_107 (by decide) ?_
                  refine aw_pc 108 rfl ?_
                  refine aw_callVd C (As := [.int (0 : Int32)]) (c_X5_no l D cI cC adK adV y T (kr, ar, ik, F, f, n, tk, bg, en, vl, s1, s2, s3, cr) 0 (by decide)) k4_60 cv_X5_no 0 4 rfl rfl rfl [0, 1, 2, 3, 4, 5, 6, 7, 8, 9, 10, 11, 12] (by decide) rfl (wr := ([] : va_W)) [] rfl (by decide) (by decide) [0, 1, 2, 3, 4, 5, 6, 7, 8, 9, 10, 11, 12] (by decide) (ws' := wMo cI cC y (rowOf T) (kr, ar, ik, (upd F 0 (F 0 + 1)), f, n, tk, bg, en, vl, s1, s2, s3, cr)) rfl ⟨by decide, by decide⟩ rfl rfl ⟨by decide, by decide⟩ rfl rfl (Nat.le_of_ble_eq_true rfl) dX5_copy_108 ?_
                  have hm : m_copy (T, K, ik, F, f, n, s1, s2, s3) s i t j k = ((fno 0), (T, K, ik, (upd F 0 (F 0 + 1)), f, n, s1, s2, s3)) := by have gg : (hPart (s2 (ix s)) i k && hPart (s2 (ix t)) j k) = false := by {first | (rw [hPart_f1 c_67]; rfl) | (rw [hPart_f2 c_71]; rfl) | (rw [hPart_f2 (i := j) c_76, Bool.and_false]) | (rw [hPart_f3 (Int32.not_le.mpr c_89)]; rfl) | (rw [hPart_f3 (i := j) c_103, Bool.and_false])}; simp only [m_copy, c_4, c_11, c_26, c_35, c_56, gg, decide_true, decide_false, Bool.not_true, Bool.not_false, Bool.true_and, Bool.false_and, Bool.and_true, Bool.and_false, Bool.true_or, Bool.false_or, Bool.or_true, Bool.or_false, cond_true, cond_false, eq_self, if_true, if_false, ite_true, ite_false] <;> rfl
                  exact aw_iret C hr hlk dX5_copy_111 ⟨ri (by rw [hm]), kr, ar, tk, bg, en, vl, cr, by first | (rw [hm]; done) | (rw [hm]; rfl), by rw [hm]; exact hk⟩
                · skip
                  refine aw_iload_n C dX5_copy_79 rfl ?_
                  refine aw_aload_n C dX5_copy_80 rfl ?_
                  refine aw_getf C 0 4 15 18 inX5 rfl (by decide) rfl k4_9 rfl rfl dX5_copy_81 ?_
                  refine aw_iload_n C dX5_copy_84 rfl ?_
                  refine aw_ialdN C 10 0 (ix s) rfl rfl rfl (by omega) (by decide) dX5_copy_85 ?_
                  refine aw_top (y := (s2 (ix s))) rfl ?_
                  refine aw_iload C dX5_copy_86 rfl ?_
                  refine aw_isub C dX5_copy_88 ?_
                  refine aw_icmp_gt C 106 dX5_copy_89 (by decide) (fun c_89 => ?_) (fun c_89 => ?_)
                  · skip
                    refine aw_pc 106 rfl ?_
                    refine aw_aload_n C dX5_copy_106 rfl ?_
                    refine aw_iconst C (0 : Int32) dX5_copy_107 (by decide) ?_
                    refine aw_callVd C (As := [.int (0 : Int32)]) (c_X5_no l D cI cC adK adV y T (kr, ar, ik, F, f, n, tk, bg, en, vl, s1, s2, s3, cr) 0 (by decide)) k4_60 cv_X5_no 0 4 rfl rfl rfl [0, 1, 2, 3, 4, 5, 6, 7, 8, 9, 10, 11, 12] (by decide) rfl (wr := ([] : va_W)) [] rfl (by decide) (by decide) [0, 1, 2, 3, 4, 5, 6, 7, 8, 9, 10, 11, 12] (by decide) (ws' := wMo cI cC y (rowOf T) (kr, ar, ik, (upd F 0 (F 0 + 1)), f, n, tk, bg, en, vl, s1, s2, s3, cr)) rfl ⟨by decide, by decide⟩ rfl rfl ⟨by decide, by decide⟩ rfl rfl (Nat.le_of_ble_eq_true rfl) dX5_copy_108 ?_
                    have hm : m_copy (T, K, ik, F, f, n, s1, s2, s3) s i t j k = ((fno 0), (T, K, ik, (upd F 0 (F 0 + 1)), f, n, s1, s2, s3)) := by have gg : (hPart (s2 (ix s)) i k && hPart (s2 (ix t)) j k) = false := by {first | (rw [hPart_f1 c_67]; rfl) | (rw [hPart_f2 c_71]; rfl) | (rw [hPart_f2 (i := j) c_76, Bool.and_false]) | (rw [hPart_f3 (Int32.not_le.mpr c_89)]; rfl) | (rw [hPart_f3 (i := j) c_103, Bool.and_false])}; simp only [m_copy, c_4, c_11, c_26, c_35, c_56, gg, decide_true, decide_false, Bool.not_true, Bool.not_false, Bool.true_and, Bool.false_and, Bool.and_true, Bool.and_false, Bool.true_or, Bool.false_or, Bool.or_true, Bool.or_false, cond_true, cond_false, eq_self, if_true, if_false, ite_true, ite_false] <;> rfl
                    exact aw_iret C hr hlk dX5_copy_111 ⟨ri (by rw [hm]), kr, ar, tk, bg, en, vl, cr, by first | (rw [hm]; done) | (rw [hm]; rfl), by rw [hm]; exact hk⟩
                  · skip
                    refine aw_iload C dX5_copy_92 rfl ?_
                    refine aw_aload_n C dX5_copy_94 rfl ?_
                    refine aw_getf C 0 4 15 18 inX5 rfl (by decide) rfl k4_9 rfl rfl dX5_copy_95 ?_
                    refine aw_iload_n C dX5_copy_98 rfl ?_
                    refine aw_ialdN C 10 0 (ix t) rfl rfl rfl (by omega) (by decide) dX5_copy_99 ?_
                    refine aw_top (y := (s2 (ix t))) rfl ?_
                    refine aw_iload C dX5_copy_100 rfl ?_
                    refine aw_pc 102 rfl ?_
                    refine aw_isub C dX5_copy_102 ?_
                    refine aw_icmp_le C 112 dX5_copy_103 (by decide) (fun c_103 => ?_) (fun c_103 => ?_)
                    · skip
                      have g1 : hPart (s2 (ix s)) i k = true := hPart_t c_67 c_71 (Int32.not_lt.mp c_89)
                      have g2 : hPart (s2 (ix t)) j k = true := hPart_t c_67 c_76 c_103
                      have p1 := part_le hS hs g1
                      have p2 := part_le hS ht g2
                      have p3 := p1.2.2
                      have p4 := p2.2.2
                      have e3 : i = nI (ix i) := p1.1
                      refine aw_eq (lv' := [(0, .ref (y 0)), (1, .int (nI (ix s))), (2, .int (nI (ix i))), (3, .int (nI (ix t))), (4, .int j), (5, .int k)]) (ws' := wMo cI cC y (rowOf T) (kr, ar, ik, F, f, n, tk, bg, en, vl, s1, s2, s3, cr)) (by rw [← e3]) rfl rfl ?_
                      have e4 : j = nI (ix j) := p2.1
                      refine aw_eq (lv' := [(0, .ref (y 0)), (1, .int (nI (ix s))), (2, .int (nI (ix i))), (3, .int (nI (ix t))), (4, .int (nI (ix j))), (5, .int k)]) (ws' := wMo cI cC y (rowOf T) (kr, ar, ik, F, f, n, tk, bg, en, vl, s1, s2, s3, cr)) (by rw [← e4]) rfl rfl ?_
                      have e5 : k = nI (ix k) := p1.2.1
                      refine aw_eq (lv' := [(0, .ref (y 0)), (1, .int (nI (ix s))), (2, .int (nI (ix i))), (3, .int (nI (ix t))), (4, .int (nI (ix j))), (5, .int (nI (ix k)))]) (ws' := wMo cI cC y (rowOf T) (kr, ar, ik, F, f, n, tk, bg, en, vl, s1, s2, s3, cr)) (by rw [← e5]) rfl rfl ?_
                      refine aw_iconst C (0 : Int32) dX5_copy_112 (by decide) ?_
                      refine aw_istore C true (lv' := [(0, .ref (y 0)), (1, .int (nI (ix s))), (2, .int (nI (ix i))), (3, .int (nI (ix t))), (4, .int (nI (ix j))), (5, .int (nI (ix k))), (6, .int (0 : Int32))]) dX5_copy_113 (by decide) rfl rfl ?_
                      refine aw_eq (lv' := [(0, .ref (y 0)), (1, .int (nI (ix s))), (2, .int (nI (ix i))), (3, .int (nI (ix t))), (4, .int (nI (ix j))), (5, .int (nI (ix k))), (6, .int (nI 0))]) (ws' := wMo cI cC y (rowOf T) (kr, ar, ik, F, f, n, tk, bg, en, vl, s1, s2, s3, (cpyA s3 cr (ix s * 40 + ix i) 0))) (by first | rfl | (simp only [itr, c_4, c_11, c_26, c_35, c_56, c_67, c_71, c_76, c_89, c_103])) rfl (by rw [cpyA_0]) ?_
                      refine aw_loop (LV := fun q1 => [(0, .ref (y 0)), (1, .int (nI (ix s))), (2, .int (nI (ix i))), (3, .int (nI (ix t))), (4, .int (nI (ix j))), (5, .int (nI (ix k))), (6, .int (nI q1))]) (WS := fun q1 => wMo cI cC y (rowOf T) (kr, ar, ik, F, f, n, tk, bg, en, vl, s1, s2, s3, (cpyA s3 cr (ix s * 40 + ix i) q1))) (ix k) (Inv := fun _ => True) trivial ?_ ?_
                      · intro hv115
                        refine aw_iload C dX5_copy_115 rfl ?_
                        refine aw_iload C dX5_copy_117 rfl ?_
                        refine aw_icmp_ge C 149 dX5_copy_119 (by decide) (fun c_119 => ?_) (fun c_119 => absurd c_119 (fun z => z (Int32.le_refl _)))
                        refine aw_iconst C (0 : Int32) dX5_copy_149 (by decide) ?_
                        refine aw_istore C false (lv' := [(0, .ref (y 0)), (1, .int (nI (ix s))), (2, .int (nI (ix i))), (3, .int (nI (ix t))), (4, .int (nI (ix j))), (5, .int (nI (ix k))), (6, .int (0 : Int32))]) dX5_copy_150 (by decide) rfl rfl ?_
                        refine aw_eq (lv' := [(0, .ref (y 0)), (1, .int (nI (ix s))), (2, .int (nI (ix i))), (3, .int (nI (ix t))), (4, .int (nI (ix j))), (5, .int (nI (ix k))), (6, .int (nI 0))]) (ws' := wMo cI cC y (rowOf T) (kr, ar, ik, F, f, n, tk, bg, en, vl, s1, s2, (va_cpy s3 s3 (ix s * 40 + ix i) (ix t * 40 + ix j) 0), (cpyA s3 cr (ix s * 40 + ix i) (ix k)))) (by first | rfl | (simp only [itr, c_4, c_11, c_26, c_35, c_56, c_67, c_71, c_76, c_89, c_103])) rfl (by rw [va_cpy_0]) ?_
                        refine aw_loop (LV := fun q2 => [(0, .ref (y 0)), (1, .int (nI (ix s))), (2, .int (nI (ix i))), (3, .int (nI (ix t))), (4, .int (nI (ix j))), (5, .int (nI (ix k))), (6, .int (nI q2))]) (WS := fun q2 => wMo cI cC y (rowOf T) (kr, ar, ik, F, f, n, tk, bg, en, vl, s1, s2, (va_cpy s3 s3 (ix s * 40 + ix i) (ix t * 40 + ix j) q2), (cpyA s3 cr (ix s * 40 + ix i) (ix k)))) (ix k) (Inv := fun _ => True) trivial ?_ ?_
                        · intro hv152
                          refine aw_iload C dX5_copy_152 rfl ?_
                          refine aw_pc 154 rfl ?_
                          refine aw_iload C dX5_copy_154 rfl ?_
                          refine aw_icmp_ge C 187 dX5_copy_156 (by decide) (fun c_156 => ?_) (fun c_156 => absurd c_156 (fun z => z (Int32.le_refl _)))
                          refine aw_iload C dX5_copy_187 rfl ?_
                          have hm : m_copy (T, K, ik, F, f, n, s1, s2, s3) s i t j k = ((nI (ix k)), (T, K, ik, F, f, n, s1, s2, (va_cpy s3 s3 (ix s * 40 + ix i) (ix t * 40 + ix j) (ix k)))) := by simp only [m_copy, c_4, c_11, c_26, c_35, c_56, g1, g2, decide_true, decide_false, Bool.not_true, Bool.not_false, Bool.true_and, Bool.false_and, Bool.and_true, Bool.and_false, Bool.true_or, Bool.false_or, Bool.or_true, Bool.or_false, cond_true, cond_false, eq_self, if_true, if_false, ite_true, ite_false]; first | done | rfl | (rw [← p1.2.1] <;> rfl)
                          exact aw_iret C hr hlk dX5_copy_189 ⟨ri (by rw [hm]), kr, ar, tk, bg, en, vl, (cpyA s3 cr (ix s * 40 + ix i) (ix k)), by first | (rw [hm]; done) | (rw [hm]; rfl), by rw [hm]; exact hk⟩
                        · intro q2 hi152 hv152 ih152
                          refine aw_iload C dX5_copy_152 rfl ?_
                          refine aw_iload C dX5_copy_154 rfl ?_
                          refine aw_icmp_ge C 187 dX5_copy_156 (by decide) (fun c_156 => absurd c_156 (nI_ge hi152 (by omega))) (fun c_156 => ?_)
                          refine aw_aload_n C dX5_copy_159 rfl ?_
                          refine aw_getf C 0 4 16 18 inX5 rfl (by decide) rfl k4_10 rfl rfl dX5_copy_160 ?_
                          refine aw_bipush C (40 : Int32) dX5_copy_163 (by decide) ?_
                          refine aw_pc 165 rfl ?_
                          refine aw_iload_n C dX5_copy_165 rfl ?_
                          refine aw_imul C dX5_copy_166 ?_
                          refine aw_iload C dX5_copy_167 rfl ?_
                          refine aw_iadd C dX5_copy_169 ?_
                          refine aw_iload C dX5_copy_170 rfl ?_
                          refine aw_iadd C dX5_copy_172 ?_
                          refine aw_aload_n C dX5_copy_173 rfl ?_
                          refine aw_getf C 0 4 17 18 inX5 rfl (by decide) rfl k4_11 rfl rfl dX5_copy_174 ?_
                          refine aw_iload C dX5_copy_177 rfl ?_
                          refine aw_ialdN C 12 0 q2 rfl rfl rfl (by omega) (by decide) dX5_copy_179 ?_
                          refine aw_top (y := ((cpyA s3 cr (ix s * 40 + ix i) (ix k)) q2)) rfl ?_
                          refine aw_pc 180 rfl ?_
                          refine aw_iastN C 11 0 (ix t * 40 + ix j + q2) rfl rfl (tl_ix3 _ _ _) (by omega) (by decide) (ws' := wMo cI cC y (rowOf T) (kr, ar, ik, F, f, n, tk, bg, en, vl, s1, s2, (upd (va_cpy s3 s3 (ix s * 40 + ix i) (ix t * 40 + ix j) q2) (ix t * 40 + ix j + q2) ((cpyA s3 cr (ix s * 40 + ix i) (ix k)) q2)), (cpyA s3 cr (ix s * 40 + ix i) (ix k)))) (mo_set11 ..) dX5_copy_180 ?_
                          refine aw_iinc C (nI (q2 + 1)) dX5_copy_181 rfl (inc_nI _ 1) (by decide) rfl (lv' := [(0, .ref (y 0)), (1, .int (nI (ix s))), (2, .int (nI (ix i))), (3, .int (nI (ix t))), (4, .int (nI (ix j))), (5, .int (nI (ix k))), (6, .int (nI (q2 + 1)))]) rfl ?_
                          refine aw_goto C 152 dX5_copy_184 (by decide) ?_
                          exact aw_eq (by first | rfl | (simp only [itr, c_4, c_11, c_26, c_35, c_56, c_67, c_71, c_76, c_89, c_103])) rfl (by rw [cpyA_e (by omega), va_cpy_s]) (ih152 trivial)
                      · intro q1 hi115 hv115 ih115
                        refine aw_iload C dX5_copy_115 rfl ?_
                        refine aw_iload C dX5_copy_117 rfl ?_
                        refine aw_icmp_ge C 149 dX5_copy_119 (by decide) (fun c_119 => absurd c_119 (nI_ge hi115 (by omega))) (fun c_119 => ?_)
                        refine aw_aload_n C dX5_copy_122 rfl ?_
                        refine aw_getf C 0 4 17 18 inX5 rfl (by decide) rfl k4_11 rfl rfl dX5_copy_123 ?_
                        refine aw_iload C dX5_copy_126 rfl ?_
                        refine aw_aload_n C dX5_copy_128 rfl ?_
                        refine aw_pc 129 rfl ?_
                        refine aw_getf C 0 4 16 18 inX5 rfl (by decide) rfl k4_10 rfl rfl dX5_copy_129 ?_
                        refine aw_bipush C (40 : Int32) dX5_copy_132 (by decide) ?_
                        refine aw_iload_n C dX5_copy_134 rfl ?_
                        refine aw_imul C dX5_copy_135 ?_
                        refine aw_iload_n C dX5_copy_136 rfl ?_
                        refine aw_iadd C dX5_copy_137 ?_
                        refine aw_iload C dX5_copy_138 rfl ?_
                        refine aw_iadd C dX5_copy_140 ?_
                        refine aw_ialdN C 11 0 (ix s * 40 + ix i + q1) rfl rfl (tl_ix3 _ _ _) (by omega) (by decide) dX5_copy_141 ?_
                        refine aw_top (y := (s3 (ix s * 40 + ix i + q1))) rfl ?_
                        refine aw_iastN C 12 0 q1 rfl rfl rfl (by omega) (by decide) (ws' := wMo cI cC y (rowOf T) (kr, ar, ik, F, f, n, tk, bg, en, vl, s1, s2, s3, (upd (cpyA s3 cr (ix s * 40 + ix i) q1) q1 (s3 (ix s * 40 + ix i + q1))))) (mo_set12 ..) dX5_copy_142 ?_
                        refine aw_pc 143 rfl ?_
                        refine aw_iinc C (nI (q1 + 1)) dX5_copy_143 rfl (inc_nI _ 1) (by decide) rfl (lv' := [(0, .ref (y 0)), (1, .int (nI (ix s))), (2, .int (nI (ix i))), (3, .int (nI (ix t))), (4, .int (nI (ix j))), (5, .int (nI (ix k))), (6, .int (nI (q1 + 1)))]) rfl ?_
                        refine aw_goto C 115 dX5_copy_146 (by decide) ?_
                        exact aw_eq (by first | rfl | (simp only [itr, c_4, c_11, c_26, c_35, c_56, c_67, c_71, c_76, c_89, c_103])) rfl (by rw [cpyA_s]) (ih115 trivial)
                    · skip
                      refine aw_aload_n C dX5_copy_106 rfl ?_
                      refine aw_iconst C (0 : Int32) dX5_copy_107 (by decide) ?_
                      refine aw_callVd C (As := [.int (0 : Int32)]) (c_X5_no l D cI cC adK adV y T (kr, ar, ik, F, f, n, tk, bg, en, vl, s1, s2, s3, cr) 0 (by decide)) k4_60 cv_X5_no 0 4 rfl rfl rfl [0, 1, 2, 3, 4, 5, 6, 7, 8, 9, 10, 11, 12] (by decide) rfl (wr := ([] : va_W)) [] rfl (by decide) (by decide) [0, 1, 2, 3, 4, 5, 6, 7, 8, 9, 10, 11, 12] (by decide) (ws' := wMo cI cC y (rowOf T) (kr, ar, ik, (upd F 0 (F 0 + 1)), f, n, tk, bg, en, vl, s1, s2, s3, cr)) rfl ⟨by decide, by decide⟩ rfl rfl ⟨by decide, by decide⟩ rfl rfl (Nat.le_of_ble_eq_true rfl) dX5_copy_108 ?_
                      have hm : m_copy (T, K, ik, F, f, n, s1, s2, s3) s i t j k = ((fno 0), (T, K, ik, (upd F 0 (F 0 + 1)), f, n, s1, s2, s3)) := by have gg : (hPart (s2 (ix s)) i k && hPart (s2 (ix t)) j k) = false := by {first | (rw [hPart_f1 c_67]; rfl) | (rw [hPart_f2 c_71]; rfl) | (rw [hPart_f2 (i := j) c_76, Bool.and_false]) | (rw [hPart_f3 (Int32.not_le.mpr c_89)]; rfl) | (rw [hPart_f3 (i := j) c_103, Bool.and_false])}; simp only [m_copy, c_4, c_11, c_26, c_35, c_56, gg, decide_true, decide_false, Bool.not_true, Bool.not_false, Bool.true_and, Bool.false_and, Bool.and_true, Bool.and_false, Bool.true_or, Bool.false_or, Bool.or_true, Bool.or_false, cond_true, cond_false, eq_self, if_true, if_false, ite_true, ite_false] <;> rfl
                      exact aw_iret C hr hlk dX5_copy_111 ⟨ri (by rw [hm]), kr, ar, tk, bg, en, vl, cr, by first | (rw [hm]; done) | (rw [hm]; rfl), by rw [hm]; exact hk⟩
          · skip
            refine aw_aload_n C dX5_copy_59 rfl ?_
            refine aw_iconst C (2 : Int32) dX5_copy_60 (by decide) ?_
            refine aw_callVd C (As := [.int (2 : Int32)]) (c_X5_no l D cI cC adK adV y T (kr, ar, ik, F, f, n, tk, bg, en, vl, s1, s2, s3, cr) 2 (by decide)) k4_60 cv_X5_no 0 4 rfl rfl rfl [0, 1, 2, 3, 4, 5, 6, 7, 8, 9, 10, 11, 12] (by decide) rfl (wr := ([] : va_W)) [] rfl (by decide) (by decide) [0, 1, 2, 3, 4, 5, 6, 7, 8, 9, 10, 11, 12] (by decide) (ws' := wMo cI cC y (rowOf T) (kr, ar, ik, (upd F 2 (F 2 + 1)), f, n, tk, bg, en, vl, s1, s2, s3, cr)) rfl ⟨by decide, by decide⟩ rfl rfl ⟨by decide, by decide⟩ rfl rfl (Nat.le_of_ble_eq_true rfl) dX5_copy_61 ?_
            have hm : m_copy (T, K, ik, F, f, n, s1, s2, s3) s i t j k = ((fno 2), (T, K, ik, (upd F 2 (F 2 + 1)), f, n, s1, s2, s3)) := by simp only [m_copy, c_4, c_11, c_26, c_35, c_56, decide_true, decide_false, Bool.not_true, Bool.not_false, Bool.true_and, Bool.false_and, Bool.and_true, Bool.and_false, Bool.true_or, Bool.false_or, Bool.or_true, Bool.or_false, cond_true, cond_false, eq_self, if_true, if_false, ite_true, ite_false] <;> rfl
            exact aw_iret C hr hlk dX5_copy_64 ⟨ri (by rw [hm]), kr, ar, tk, bg, en, vl, cr, by first | (rw [hm]; done) | (rw [hm]; rfl), by rw [hm]; exact hk⟩
        · skip
          refine aw_pc 38 rfl ?_
          refine aw_aload_n C dX5_copy_38 rfl ?_
          refine aw_iconst C (5 : Int32) dX5_copy_39 (by decide) ?_
          refine aw_callVd C (As := [.int (5 : Int32)]) (c_X5_no l D cI cC adK adV y T (kr, ar, ik, F, f, n, tk, bg, en, vl, s1, s2, s3, cr) 5 (by decide)) k4_60 cv_X5_no 0 4 rfl rfl rfl [0, 1, 2, 3, 4, 5, 6, 7, 8, 9, 10, 11, 12] (by decide) rfl (wr := ([] : va_W)) [] rfl (by decide) (by decide) [0, 1, 2, 3, 4, 5, 6, 7, 8, 9, 10, 11, 12] (by decide) (ws' := wMo cI cC y (rowOf T) (kr, ar, ik, (upd F 5 (F 5 + 1)), f, n, tk, bg, en, vl, s1, s2, s3, cr)) rfl ⟨by decide, by decide⟩ rfl rfl ⟨by decide, by decide⟩ rfl rfl (Nat.le_of_ble_eq_true rfl) dX5_copy_40 ?_
          have hm : m_copy (T, K, ik, F, f, n, s1, s2, s3) s i t j k = ((fno 5), (T, K, ik, (upd F 5 (F 5 + 1)), f, n, s1, s2, s3)) := by simp only [m_copy, c_4, c_11, c_26, c_35, decide_true, decide_false, Bool.not_true, Bool.not_false, Bool.true_and, Bool.false_and, Bool.and_true, Bool.and_false, Bool.true_or, Bool.false_or, Bool.or_true, Bool.or_false, cond_true, cond_false, eq_self, if_true, if_false, ite_true, ite_false] <;> rfl
          exact aw_iret C hr hlk dX5_copy_43 ⟨ri (by rw [hm]), kr, ar, tk, bg, en, vl, cr, by first | (rw [hm]; done) | (rw [hm]; rfl), by rw [hm]; exact hk⟩
    · skip
      refine aw_aload_n C dX5_copy_14 rfl ?_
      refine aw_iconst C (0 : Int32) dX5_copy_15 (by decide) ?_
      refine aw_callVd C (As := [.int (0 : Int32)]) (c_X5_no l D cI cC adK adV y T (kr, ar, ik, F, f, n, tk, bg, en, vl, s1, s2, s3, cr) 0 (by decide)) k4_60 cv_X5_no 0 4 rfl rfl rfl [0, 1, 2, 3, 4, 5, 6, 7, 8, 9, 10, 11, 12] (by decide) rfl (wr := ([] : va_W)) [] rfl (by decide) (by decide) [0, 1, 2, 3, 4, 5, 6, 7, 8, 9, 10, 11, 12] (by decide) (ws' := wMo cI cC y (rowOf T) (kr, ar, ik, (upd F 0 (F 0 + 1)), f, n, tk, bg, en, vl, s1, s2, s3, cr)) rfl ⟨by decide, by decide⟩ rfl rfl ⟨by decide, by decide⟩ rfl rfl (Nat.le_of_ble_eq_true rfl) dX5_copy_16 ?_
      have hm : m_copy (T, K, ik, F, f, n, s1, s2, s3) s i t j k = ((fno 0), (T, K, ik, (upd F 0 (F 0 + 1)), f, n, s1, s2, s3)) := by simp only [m_copy, c_4, c_11, decide_true, decide_false, Bool.not_true, Bool.not_false, Bool.true_and, Bool.false_and, Bool.and_true, Bool.and_false, Bool.true_or, Bool.false_or, Bool.or_true, Bool.or_false, cond_true, cond_false, eq_self, if_true, if_false, ite_true, ite_false] <;> rfl
      exact aw_iret C hr hlk dX5_copy_19 ⟨ri (by rw [hm]), kr, ar, tk, bg, en, vl, cr, by first | (rw [hm]; done) | (rw [hm]; rfl), by rw [hm]; exact hk⟩
abbrev r_X5_load : Room := { frames := 3, cells := 0, slots := 0, locals := 63 }
theorem cv_X5_load : cV yX5_load cX5_load 4 (some .int) 1 := ⟨k5_171, k5_172, k5_173, k1_6, by decide, by decide, by decide +kernel⟩
set_option maxHeartbeats 4000000 in
set_option maxRecDepth 100000 in
theorem c_X5_load (l : Launch) (D : va_G) (cI cC : ClassId) (adK adV : Nat → Nat) (y : Nat → Nat) (T K : Tw) (ik : Bool) (F f : Nat → Int32) (n : Nat) (s1 s2 s3 kr ar : Nat → Int32) (tk : Int32) (bg en : Nat) (vl : Int64) (cr : Nat → Int32) (hk : ik = true → kr = rowOf K) (ho : gOk T) (s : Int32) (hS : sOk s2) : FC l yX5_load (wW yX5_load cX5_load 4 (some .int)) r_X5_load D (tyC cI cC) adK adV (wMo cI cC y (rowOf T) (kr, ar, ik, F, f, n, tk, bg, en, vl, s1, s2, s3, cr)) [.ref (y 0), .int s] 0 0 (pMo cI cC y (m_load (T, K, ik, F, f, n, s1, s2, s3) s)) := by
  refine FC.of (own := RX5) (by decide) rfl (Nat.le_of_ble_eq_true rfl) ?_
  intro p9 e9 s9 m9 args9 below9 meth9 c9 A9 C hr hlk hmn
  show AW p9 l e9 r_X5_load s9 m9 args9 below9 meth9 c9 D A9 4 0 0 _ 0 [(0, .ref (y 0)), (1, .int s)] [] _
  have hn := ho.n
  refine aw_aload_n C dX5_load_0 rfl ?_
  refine aw_iload_n C dX5_load_1 rfl ?_
  refine aw_callVp C (As := [.int s]) (c_X5_wrongSheet l D cI cC adK adV y T (kr, ar, ik, F, f, n, tk, bg, en, vl, s1, s2, s3, cr) s) k5_59 cv_X5_wrongSheet 0 4 rfl rfl rfl [0, 1, 2, 3, 4, 5, 6, 7, 8, 9, 10, 11, 12] (by decide) rfl ⟨by decide, by decide⟩ rfl rfl ⟨by decide, by decide⟩ rfl rfl (Nat.le_of_ble_eq_true rfl) dX5_load_2 ?_
  rcases wS_c s1 s with ⟨wq1, ew⟩ | ⟨wq1, wq2, ew⟩ | ⟨wq1, wq2, ew⟩
  · skip
    refine aw_top (y := (0 : Int32)) (by exact ew) ?_
    refine aw_istore_n C true (lv' := [(0, .ref (y 0)), (1, .int s), (2, .int (0 : Int32))]) dX5_load_5 (by decide) rfl rfl ?_
    refine aw_iload_n C dX5_load_6 rfl ?_
    refine aw_if_lt C 16 dX5_load_7 (by decide) (fun c_7 => absurd c_7 (by decide)) (fun c_7 => ?_)
    refine aw_aload_n C dX5_load_10 rfl ?_
    refine aw_iload_n C dX5_load_11 rfl ?_
    refine aw_pc 12 rfl ?_
    refine aw_callVd C (As := [.int (0 : Int32)]) (c_X5_no l D cI cC adK adV y T (kr, ar, ik, F, f, n, tk, bg, en, vl, s1, s2, s3, cr) 0 (by decide)) k4_60 cv_X5_no 0 4 rfl rfl rfl [0, 1, 2, 3, 4, 5, 6, 7, 8, 9, 10, 11, 12] (by decide) rfl (wr := ([] : va_W)) [] rfl (by decide) (by decide) [0, 1, 2, 3, 4, 5, 6, 7, 8, 9, 10, 11, 12] (by decide) (ws' := wMo cI cC y (rowOf T) (kr, ar, ik, (upd F 0 (F 0 + 1)), f, n, tk, bg, en, vl, s1, s2, s3, cr)) rfl ⟨by decide, by decide⟩ rfl rfl ⟨by decide, by decide⟩ rfl rfl (Nat.le_of_ble_eq_true rfl) dX5_load_12 ?_
    have hm : m_load (T, K, ik, F, f, n, s1, s2, s3) s = ((fno 0), (T, K, ik, (upd F 0 (F 0 + 1)), f, n, s1, s2, s3)) := by simp only [m_load, wq1, decide_true, decide_false, Bool.not_true, Bool.not_false, Bool.true_and, Bool.false_and, Bool.and_true, Bool.and_false, Bool.true_or, Bool.false_or, Bool.or_true, Bool.or_false, cond_true, cond_false, eq_self, if_true, if_false, ite_true, ite_false] <;> rfl
    exact aw_iret C hr hlk dX5_load_15 ⟨ri (by rw [hm]), kr, ar, tk, bg, en, vl, cr, by first | (rw [hm]; done) | (rw [hm]; rfl), by rw [hm]; exact hk⟩
  · skip
    refine aw_top (y := (5 : Int32)) (by exact ew) ?_
    refine aw_istore_n C true (lv' := [(0, .ref (y 0)), (1, .int s), (2, .int (5 : Int32))]) dX5_load_5 (by decide) rfl rfl ?_
    refine aw_iload_n C dX5_load_6 rfl ?_
    refine aw_if_lt C 16 dX5_load_7 (by decide) (fun c_7 => absurd c_7 (by decide)) (fun c_7 => ?_)
    refine aw_aload_n C dX5_load_10 rfl ?_
    refine aw_iload_n C dX5_load_11 rfl ?_
    refine aw_callVd C (As := [.int (5 : Int32)]) (c_X5_no l D cI cC adK adV y T (kr, ar, ik, F, f, n, tk, bg, en, vl, s1, s2, s3, cr) 5 (by decide)) k4_60 cv_X5_no 0 4 rfl rfl rfl [0, 1, 2, 3, 4, 5, 6, 7, 8, 9, 10, 11, 12] (by decide) rfl (wr := ([] : va_W)) [] rfl (by decide) (by decide) [0, 1, 2, 3, 4, 5, 6, 7, 8, 9, 10, 11, 12] (by decide) (ws' := wMo cI cC y (rowOf T) (kr, ar, ik, (upd F 5 (F 5 + 1)), f, n, tk, bg, en, vl, s1, s2, s3, cr)) rfl ⟨by decide, by decide⟩ rfl rfl ⟨by decide, by decide⟩ rfl rfl (Nat.le_of_ble_eq_true rfl) dX5_load_12 ?_
    have hm : m_load (T, K, ik, F, f, n, s1, s2, s3) s = ((fno 5), (T, K, ik, (upd F 5 (F 5 + 1)), f, n, s1, s2, s3)) := by simp only [m_load, wq1, wq2, decide_true, decide_false, Bool.not_true, Bool.not_false, Bool.true_and, Bool.false_and, Bool.and_true, Bool.and_false, Bool.true_or, Bool.false_or, Bool.or_true, Bool.or_false, cond_true, cond_false, eq_self, if_true, if_false, ite_true, ite_false] <;> rfl
    exact aw_iret C hr hlk dX5_load_15 ⟨ri (by rw [hm]), kr, ar, tk, bg, en, vl, cr, by first | (rw [hm]; done) | (rw [hm]; rfl), by rw [hm]; exact hk⟩
  · skip
    refine aw_top (y := (-1 : Int32)) (by exact ew) ?_
    obtain ⟨es, hs⟩ := in0_ix (n := 4) (by decide) wq1
    refine aw_eq (lv' := [(0, .ref (y 0)), (1, .int (nI (ix s)))]) (ws' := wMo cI cC y (rowOf T) (kr, ar, ik, F, f, n, tk, bg, en, vl, s1, s2, s3, cr)) (by rw [← es]) rfl rfl ?_
    obtain ⟨len, hl, el⟩ := hS (ix s) hs
    have exl : ix (s2 (ix s)) = len := by rw [el, ix_nI (by omega)]
    refine aw_istore_n C true (lv' := [(0, .ref (y 0)), (1, .int (nI (ix s))), (2, .int (-1 : Int32))]) dX5_load_5 (by decide) rfl rfl ?_
    refine aw_pc 6 rfl ?_
    refine aw_iload_n C dX5_load_6 rfl ?_
    refine aw_if_lt C 16 dX5_load_7 (by decide) (fun c_7 => ?_) (fun c_7 => absurd c_7 (by decide))
    refine aw_iconst C (0 : Int32) dX5_load_16 (by decide) ?_
    refine aw_istore_n C true (lv' := [(0, .ref (y 0)), (1, .int (nI (ix s))), (2, .int (-1 : Int32)), (3, .int (0 : Int32))]) dX5_load_17 (by decide) rfl rfl ?_
    refine aw_eq (lv' := [(0, .ref (y 0)), (1, .int (nI (ix s))), (2, .int (-1 : Int32)), (3, .int (nI 0))]) (ws' := wMo cI cC y (rowOf (tLoad T (fun y9 => s3 (ix s * 40 + y9)) 0)) (kr, ar, ik, F, f, n, tk, bg, en, vl, s1, s2, s3, cr)) (by first | rfl | (simp only [itr, wq1, wq2])) rfl (by rfl) ?_
    refine aw_loop (LV := fun i => [(0, .ref (y 0)), (1, .int (nI (ix s))), (2, .int (-1 : Int32)), (3, .int (nI i))]) (WS := fun i => wMo cI cC y (rowOf (tLoad T (fun y9 => s3 (ix s * 40 + y9)) i)) (kr, ar, ik, F, f, n, tk, bg, en, vl, s1, s2, s3, cr)) len (Inv := fun i => i ≤ T.1 ∧ ∀ k, k < i → (!in0 (s3 (ix s * 40 + k)) 12) = false) ⟨Nat.zero_le _, fun k hk => absurd hk (Nat.not_lt_zero k)⟩ ?_ ?_
    · intro hv18
      refine aw_iload_n C dX5_load_18 rfl ?_
      refine aw_aload_n C dX5_load_19 rfl ?_
      refine aw_getf C 0 4 15 18 inX5 rfl (by decide) rfl k4_9 rfl rfl dX5_load_20 ?_
      refine aw_iload_n C dX5_load_23 rfl ?_
      refine aw_ialdN C 10 0 (ix s) rfl rfl rfl (by omega) (by decide) dX5_load_24 ?_
      refine aw_top (y := (s2 (ix s))) rfl ?_
      refine aw_top (y := (nI len)) (by exact el) ?_
      refine aw_icmp_ge C 68 dX5_load_25 (by decide) (fun c_25 => ?_) (fun c_25 => absurd c_25 (fun z => z (Int32.le_refl _)))
      refine aw_pc 68 rfl ?_
      refine aw_iload_n C dX5_load_68 rfl ?_
      have hm : m_load (T, K, ik, F, f, n, s1, s2, s3) s = ((nI len), ((tLoad T (fun y9 => s3 (ix s * 40 + y9)) len), K, ik, F, f, n, s1, s2, s3)) := by exact load_e wq1 wq2 (by show ldN T (fun y9 => s3 (ix s * 40 + y9)) (min (ix (s2 (ix s))) T.1) = _; rw [exl]; first | exact fst9_at hv18.2 (by simp only [c_47, decide_true, decide_false, Bool.not_true, Bool.not_false, Bool.true_and, Bool.false_and, Bool.and_true, Bool.and_false, Bool.true_or, Bool.false_or, Bool.or_true, Bool.or_false, cond_true, cond_false, eq_self, if_true, if_false, ite_true, ite_false]) (Nat.lt_min.mpr ⟨hi18, l3⟩) | (rw [Nat.min_eq_left hv18.1]; exact fst9_none hv18.2) | (rw [show min len T.1 = i by have := hv18.1; omega]; exact fst9_none hv18.2))
      exact aw_iret C hr hlk dX5_load_69 ⟨ri (by rw [hm]), kr, ar, tk, bg, en, vl, cr, by first | (rw [hm]; done) | (rw [hm]; rfl), by rw [hm]; exact hk⟩
    · intro i hi18 hv18 ih18
      refine aw_iload_n C dX5_load_18 rfl ?_
      refine aw_aload_n C dX5_load_19 rfl ?_
      refine aw_getf C 0 4 15 18 inX5 rfl (by decide) rfl k4_9 rfl rfl dX5_load_20 ?_
      refine aw_iload_n C dX5_load_23 rfl ?_
      refine aw_ialdN C 10 0 (ix s) rfl rfl rfl (by omega) (by decide) dX5_load_24 ?_
      refine aw_top (y := (s2 (ix s))) rfl ?_
      refine aw_top (y := (nI len)) (by exact el) ?_
      refine aw_icmp_ge C 68 dX5_load_25 (by decide) (fun c_25 => absurd c_25 (nI_ge hi18 (by omega))) (fun c_25 => ?_)
      refine aw_iload_n C dX5_load_28 rfl ?_
      refine aw_aload_n C dX5_load_29 rfl ?_
      refine aw_pc 30 rfl ?_
      refine aw_getf C 0 4 0 18 inX5 rfl (by decide) rfl k3_234 rfl rfl dX5_load_30 ?_
      refine aw_iconst C (1 : Int32) dX5_load_33 (by decide) ?_
      refine aw_ialdN C 1 0 1 rfl rfl rfl (by decide) (by decide) dX5_load_34 ?_
      refine aw_top (y := (nI (tLoad T (fun y9 => s3 (ix s * 40 + y9)) i).1)) rfl ?_
      refine aw_top (y := (nI T.1)) (by rw [load_n]) ?_
      refine aw_icmp_ge C 68 dX5_load_35 (by decide) (fun c_35 => ?_) (fun c_35 => ?_)
      · skip
        have l3 : T.1 ≤ i := (nI_leI (by omega) (by omega)).mp c_35
        refine aw_iload_n C dX5_load_68 rfl ?_
        have hm : m_load (T, K, ik, F, f, n, s1, s2, s3) s = ((nI i), ((tLoad T (fun y9 => s3 (ix s * 40 + y9)) i), K, ik, F, f, n, s1, s2, s3)) := by exact load_e wq1 wq2 (by show ldN T (fun y9 => s3 (ix s * 40 + y9)) (min (ix (s2 (ix s))) T.1) = _; rw [exl]; first | exact fst9_at hv18.2 (by simp only [c_47, decide_true, decide_false, Bool.not_true, Bool.not_false, Bool.true_and, Bool.false_and, Bool.and_true, Bool.and_false, Bool.true_or, Bool.false_or, Bool.or_true, Bool.or_false, cond_true, cond_false, eq_self, if_true, if_false, ite_true, ite_false]) (Nat.lt_min.mpr ⟨hi18, l3⟩) | (rw [Nat.min_eq_left hv18.1]; exact fst9_none hv18.2) | (rw [show min len T.1 = i by have := hv18.1; omega]; exact fst9_none hv18.2))
        exact aw_iret C hr hlk dX5_load_69 ⟨ri (by rw [hm]), kr, ar, tk, bg, en, vl, cr, by first | (rw [hm]; done) | (rw [hm]; rfl), by rw [hm]; exact hk⟩
      · skip
        have l3 : i < T.1 := Nat.lt_of_not_le (fun z => c_35 (nI_le z (by omega)))
        refine aw_aload_n C dX5_load_38 rfl ?_
        refine aw_iload_n C dX5_load_39 rfl ?_
        refine aw_iload_n C dX5_load_40 rfl ?_
        refine aw_callVp C (As := [.int (nI (ix s)), .int (nI i)]) (c_X5_told l D cI cC adK adV y (tLoad T (fun y9 => s3 (ix s * 40 + y9)) i) (kr, ar, ik, F, f, n, tk, bg, en, vl, s1, s2, s3, cr) (ix s) i (by omega) (by omega)) k5_70 cv_X5_told 0 4 rfl rfl rfl [0, 1, 2, 3, 4, 5, 6, 7, 8, 9, 10, 11, 12] (by decide) rfl ⟨by decide, by decide⟩ rfl rfl ⟨by decide, by decide⟩ rfl rfl (Nat.le_of_ble_eq_true rfl) dX5_load_41 ?_
        refine aw_pc 44 rfl ?_
        refine aw_callSp C (As := [.int (s3 ((ix s) * 40 + i))]) (c_X5_isGuise l D cI cC adK adV (s3 ((ix s) * 40 + i))) k4_116 cs_X5_isGuise [] (by decide) rfl ⟨by decide, by decide⟩ rfl rfl ⟨by decide, by decide⟩ rfl rfl (Nat.le_of_ble_eq_true rfl) dX5_load_44 ?_
        refine aw_ifeq_b C 68 dX5_load_47 (by decide) (fun c_47 => ?_) (fun c_47 => ?_)
        · skip
          refine aw_iload_n C dX5_load_68 rfl ?_
          have hm : m_load (T, K, ik, F, f, n, s1, s2, s3) s = ((nI i), ((tLoad T (fun y9 => s3 (ix s * 40 + y9)) i), K, ik, F, f, n, s1, s2, s3)) := by exact load_e wq1 wq2 (by show ldN T (fun y9 => s3 (ix s * 40 + y9)) (min (ix (s2 (ix s))) T.1) = _; rw [exl]; first | exact fst9_at hv18.2 (by simp only [c_47, decide_true, decide_false, Bool.not_true, Bool.not_false, Bool.true_and, Bool.false_and, Bool.and_true, Bool.and_false, Bool.true_or, Bool.false_or, Bool.or_true, Bool.or_false, cond_true, cond_false, eq_self, if_true, if_false, ite_true, ite_false]) (Nat.lt_min.mpr ⟨hi18, l3⟩) | (rw [Nat.min_eq_left hv18.1]; exact fst9_none hv18.2) | (rw [show min len T.1 = i by have := hv18.1; omega]; exact fst9_none hv18.2))
          exact aw_iret C hr hlk dX5_load_69 ⟨ri (by rw [hm]), kr, ar, tk, bg, en, vl, cr, by first | (rw [hm]; done) | (rw [hm]; rfl), by rw [hm]; exact hk⟩
        · skip
          refine aw_aload_n C dX5_load_50 rfl ?_
          refine aw_iload_n C dX5_load_51 rfl ?_
          refine aw_iconst C (2 : Int32) dX5_load_52 (by decide) ?_
          refine aw_aload_n C dX5_load_53 rfl ?_
          refine aw_iload_n C dX5_load_54 rfl ?_
          refine aw_iload_n C dX5_load_55 rfl ?_
          refine aw_pc 56 rfl ?_
          refine aw_callVp C (As := [.int (nI (ix s)), .int (nI i)]) (c_X5_told l D cI cC adK adV y (tLoad T (fun y9 => s3 (ix s * 40 + y9)) i) (kr, ar, ik, F, f, n, tk, bg, en, vl, s1, s2, s3, cr) (ix s) i (by omega) (by omega)) k5_70 cv_X5_told 0 4 rfl rfl rfl [0, 1, 2, 3, 4, 5, 6, 7, 8, 9, 10, 11, 12] (by decide) rfl ⟨by decide, by decide⟩ rfl rfl ⟨by decide, by decide⟩ rfl rfl (Nat.le_of_ble_eq_true rfl) dX5_load_56 ?_
          refine aw_callVdv C (As := [.int (nI i), .int (2 : Int32), .int (s3 ((ix s) * 40 + i))]) (c_X5_puts l D cI cC adK adV y (tLoad T (fun y9 => s3 (ix s * 40 + y9)) i) (kr, ar, ik, F, f, n, tk, bg, en, vl, s1, s2, s3, cr) i 2 (s3 ((ix s) * 40 + i)) (by omega) (by decide)) k4_69 cv_X5_puts 0 4 rfl rfl rfl [0, 1, 2, 3, 4, 5, 6, 7, 8, 9, 10, 11, 12] (by decide) rfl (wr := ([] : va_W)) [] rfl (by decide) (by decide) [0, 1, 2, 3, 4, 5, 6, 7, 8, 9, 10, 11, 12] (by decide) (ws' := wMo cI cC y (rowOf (sP (tLoad T (fun y9 => s3 (ix s * 40 + y9)) i) 2 i (s3 ((ix s) * 40 + i)))) (kr, ar, ik, F, f, n, tk, bg, en, vl, s1, s2, s3, cr)) rfl ⟨by decide, by decide⟩ rfl rfl ⟨by decide, by decide⟩ rfl rfl (Nat.le_of_ble_eq_true rfl) dX5_load_59 ?_
          refine aw_iinc C (nI (i + 1)) dX5_load_62 rfl (inc_nI _ 1) (by decide) rfl (lv' := [(0, .ref (y 0)), (1, .int (nI (ix s))), (2, .int (-1 : Int32)), (3, .int (nI (i + 1)))]) rfl ?_
          refine aw_goto C 18 dX5_load_65 (by decide) ?_
          exact aw_eq (by first | rfl | (simp only [itr, wq1, wq2, c_35, c_47])) rfl (by rw [load_s]) (ih18 (⟨l3, all_s hv18.2 (by simp only [c_47, decide_true, decide_false, Bool.not_true, Bool.not_false, Bool.true_and, Bool.false_and, Bool.and_true, Bool.and_false, Bool.true_or, Bool.false_or, Bool.or_true, Bool.or_false, cond_true, cond_false, eq_self, if_true, if_false, ite_true, ite_false])⟩))
abbrev r_X5_judge : Room := { frames := 3, cells := 0, slots := 0, locals := 63 }
theorem cv_X5_judge : cV yX5_judge cX5_judge 4 (some .int) 1 := ⟨k5_175, k5_176, k5_177, k1_6, by decide, by decide, by decide +kernel⟩
set_option maxHeartbeats 4000000 in
set_option maxRecDepth 100000 in
theorem c_X5_judge (l : Launch) (D : va_G) (cI cC : ClassId) (adK adV : Nat → Nat) (y : Nat → Nat) (T K : Tw) (ik : Bool) (F f : Nat → Int32) (n : Nat) (s1 s2 s3 kr ar : Nat → Int32) (tk : Int32) (bg en : Nat) (vl : Int64) (cr : Nat → Int32) (hk : ik = true → kr = rowOf K) (ho : gOk T) (s : Int32) (hS : sOk s2) : FC l yX5_judge (wW yX5_judge cX5_judge 4 (some .int)) r_X5_judge D (tyC cI cC) adK adV (wMo cI cC y (rowOf T) (kr, ar, ik, F, f, n, tk, bg, en, vl, s1, s2, s3, cr)) [.ref (y 0), .int s] 0 0 (pMo cI cC y (m_judge (T, K, ik, F, f, n, s1, s2, s3) s)) := by
  refine FC.of (own := RX5) (by decide) rfl (Nat.le_of_ble_eq_true rfl) ?_
  intro p9 e9 s9 m9 args9 below9 meth9 c9 A9 C hr hlk hmn
  show AW p9 l e9 r_X5_judge s9 m9 args9 below9 meth9 c9 D A9 4 0 0 _ 0 [(0, .ref (y 0)), (1, .int s)] [] _
  have hn := ho.n
  refine aw_aload_n C dX5_judge_0 rfl ?_
  refine aw_iload_n C dX5_judge_1 rfl ?_
  refine aw_callVp C (As := [.int s]) (c_X5_wrongSheet l D cI cC adK adV y T (kr, ar, ik, F, f, n, tk, bg, en, vl, s1, s2, s3, cr) s) k5_59 cv_X5_wrongSheet 0 4 rfl rfl rfl [0, 1, 2, 3, 4, 5, 6, 7, 8, 9, 10, 11, 12] (by decide) rfl ⟨by decide, by decide⟩ rfl rfl ⟨by decide, by decide⟩ rfl rfl (Nat.le_of_ble_eq_true rfl) dX5_judge_2 ?_
  rcases wS_c s1 s with ⟨wq1, ew⟩ | ⟨wq1, wq2, ew⟩ | ⟨wq1, wq2, ew⟩
  · skip
    refine aw_top (y := (0 : Int32)) (by exact ew) ?_
    refine aw_istore_n C true (lv' := [(0, .ref (y 0)), (1, .int s), (2, .int (0 : Int32))]) dX5_judge_5 (by decide) rfl rfl ?_
    refine aw_iload_n C dX5_judge_6 rfl ?_
    refine aw_if_lt C 16 dX5_judge_7 (by decide) (fun c_7 => absurd c_7 (by decide)) (fun c_7 => ?_)
    refine aw_aload_n C dX5_judge_10 rfl ?_
    refine aw_iload_n C dX5_judge_11 rfl ?_
    refine aw_pc 12 rfl ?_
    refine aw_callVd C (As := [.int (0 : Int32)]) (c_X5_no l D cI cC adK adV y T (kr, ar, ik, F, f, n, tk, bg, en, vl, s1, s2, s3, cr) 0 (by decide)) k4_60 cv_X5_no 0 4 rfl rfl rfl [0, 1, 2, 3, 4, 5, 6, 7, 8, 9, 10, 11, 12] (by decide) rfl (wr := ([] : va_W)) [] rfl (by decide) (by decide) [0, 1, 2, 3, 4, 5, 6, 7, 8, 9, 10, 11, 12] (by decide) (ws' := wMo cI cC y (rowOf T) (kr, ar, ik, (upd F 0 (F 0 + 1)), f, n, tk, bg, en, vl, s1, s2, s3, cr)) rfl ⟨by decide, by decide⟩ rfl rfl ⟨by decide, by decide⟩ rfl rfl (Nat.le_of_ble_eq_true rfl) dX5_judge_12 ?_
    have hm : m_judge (T, K, ik, F, f, n, s1, s2, s3) s = ((fno 0), (T, K, ik, (upd F 0 (F 0 + 1)), f, n, s1, s2, s3)) := by simp only [m_judge, wq1, decide_true, decide_false, Bool.not_true, Bool.not_false, Bool.true_and, Bool.false_and, Bool.and_true, Bool.and_false, Bool.true_or, Bool.false_or, Bool.or_true, Bool.or_false, cond_true, cond_false, eq_self, if_true, if_false, ite_true, ite_false] <;> rfl
    exact aw_iret C hr hlk dX5_judge_15 ⟨ri (by rw [hm]), kr, ar, tk, bg, en, vl, cr, by first | (rw [hm]; done) | (rw [hm]; rfl), by rw [hm]; exact hk⟩
  · skip
    refine aw_top (y := (5 : Int32)) (by exact ew) ?_
    refine aw_istore_n C true (lv' := [(0, .ref (y 0)), (1, .int s), (2, .int (5 : Int32))]) dX5_judge_5 (by decide) rfl rfl ?_
    refine aw_iload_n C dX5_judge_6 rfl ?_
    refine aw_if_lt C 16 dX5_judge_7 (by decide) (fun c_7 => absurd c_7 (by decide)) (fun c_7 => ?_)
    refine aw_aload_n C dX5_judge_10 rfl ?_
    refine aw_iload_n C dX5_judge_11 rfl ?_
    refine aw_callVd C (As := [.int (5 : Int32)]) (c_X5_no l D cI cC adK adV y T (kr, ar, ik, F, f, n, tk, bg, en, vl, s1, s2, s3, cr) 5 (by decide)) k4_60 cv_X5_no 0 4 rfl rfl rfl [0, 1, 2, 3, 4, 5, 6, 7, 8, 9, 10, 11, 12] (by decide) rfl (wr := ([] : va_W)) [] rfl (by decide) (by decide) [0, 1, 2, 3, 4, 5, 6, 7, 8, 9, 10, 11, 12] (by decide) (ws' := wMo cI cC y (rowOf T) (kr, ar, ik, (upd F 5 (F 5 + 1)), f, n, tk, bg, en, vl, s1, s2, s3, cr)) rfl ⟨by decide, by decide⟩ rfl rfl ⟨by decide, by decide⟩ rfl rfl (Nat.le_of_ble_eq_true rfl) dX5_judge_12 ?_
    have hm : m_judge (T, K, ik, F, f, n, s1, s2, s3) s = ((fno 5), (T, K, ik, (upd F 5 (F 5 + 1)), f, n, s1, s2, s3)) := by simp only [m_judge, wq1, wq2, decide_true, decide_false, Bool.not_true, Bool.not_false, Bool.true_and, Bool.false_and, Bool.and_true, Bool.and_false, Bool.true_or, Bool.false_or, Bool.or_true, Bool.or_false, cond_true, cond_false, eq_self, if_true, if_false, ite_true, ite_false] <;> rfl
    exact aw_iret C hr hlk dX5_judge_15 ⟨ri (by rw [hm]), kr, ar, tk, bg, en, vl, cr, by first | (rw [hm]; done) | (rw [hm]; rfl), by rw [hm]; exact hk⟩
  · skip
    refine aw_top (y := (-1 : Int32)) (by exact ew) ?_
    obtain ⟨es, hs⟩ := in0_ix (n := 4) (by decide) wq1
    refine aw_eq (lv' := [(0, .ref (y 0)), (1, .int (nI (ix s)))]) (ws' := wMo cI cC y (rowOf T) (kr, ar, ik, F, f, n, tk, bg, en, vl, s1, s2, s3, cr)) (by rw [← es]) rfl rfl ?_
    obtain ⟨len, hl, el⟩ := hS (ix s) hs
    have exl : ix (s2 (ix s)) = len := by rw [el, ix_nI (by omega)]
    refine aw_istore_n C true (lv' := [(0, .ref (y 0)), (1, .int (nI (ix s))), (2, .int (-1 : Int32))]) dX5_judge_5 (by decide) rfl rfl ?_
    refine aw_pc 6 rfl ?_
    refine aw_iload_n C dX5_judge_6 rfl ?_
    refine aw_if_lt C 16 dX5_judge_7 (by decide) (fun c_7 => ?_) (fun c_7 => absurd c_7 (by decide))
    refine aw_iconst C (0 : Int32) dX5_judge_16 (by decide) ?_
    refine aw_istore_n C true (lv' := [(0, .ref (y 0)), (1, .int (nI (ix s))), (2, .int (-1 : Int32)), (3, .int (0 : Int32))]) dX5_judge_17 (by decide) rfl rfl ?_
    refine aw_eq (lv' := [(0, .ref (y 0)), (1, .int (nI (ix s))), (2, .int (-1 : Int32)), (3, .int (nI 0))]) (ws' := wMo cI cC y (rowOf T) (kr, ar, ik, F, f, n, tk, bg, en, vl, s1, s2, s3, cr)) (by first | rfl | (simp only [itr, wq1, wq2])) rfl (by rfl) ?_
    refine aw_loop (LV := fun i => [(0, .ref (y 0)), (1, .int (nI (ix s))), (2, .int (-1 : Int32)), (3, .int (nI i))]) (WS := fun i => wMo cI cC y (rowOf T) (kr, ar, ik, F, f, n, tk, bg, en, vl, s1, s2, s3, cr)) len (Inv := fun i => ∀ k, k < i → jgC T (fun y9 => s3 (ix s * 40 + y9)) k = false) (fun k hk => absurd hk (Nat.not_lt_zero k)) ?_ ?_
    · intro hv18
      refine aw_iload_n C dX5_judge_18 rfl ?_
      refine aw_aload_n C dX5_judge_19 rfl ?_
      refine aw_getf C 0 4 15 18 inX5 rfl (by decide) rfl k4_9 rfl rfl dX5_judge_20 ?_
      refine aw_iload_n C dX5_judge_23 rfl ?_
      refine aw_ialdN C 10 0 (ix s) rfl rfl rfl (by omega) (by decide) dX5_judge_24 ?_
      refine aw_top (y := (s2 (ix s))) rfl ?_
      refine aw_top (y := (nI len)) (by exact el) ?_
      refine aw_icmp_ge C 61 dX5_judge_25 (by decide) (fun c_25 => ?_) (fun c_25 => absurd c_25 (fun z => z (Int32.le_refl _)))
      refine aw_pc 61 rfl ?_
      refine aw_iconst C (0 : Int32) dX5_judge_61 (by decide) ?_
      have hm : m_judge (T, K, ik, F, f, n, s1, s2, s3) s = ((0 : Int32), (T, K, ik, F, f, n, s1, s2, s3)) := by exact jdg_n wq1 wq2 exl (fst9_none hv18)
      exact aw_iret C hr hlk dX5_judge_62 ⟨ri (by rw [hm]), kr, ar, tk, bg, en, vl, cr, by first | (rw [hm]; done) | (rw [hm]; rfl), by rw [hm]; exact hk⟩
    · intro i hi18 hv18 ih18
      refine aw_iload_n C dX5_judge_18 rfl ?_
      refine aw_aload_n C dX5_judge_19 rfl ?_
      refine aw_getf C 0 4 15 18 inX5 rfl (by decide) rfl k4_9 rfl rfl dX5_judge_20 ?_
      refine aw_iload_n C dX5_judge_23 rfl ?_
      refine aw_ialdN C 10 0 (ix s) rfl rfl rfl (by omega) (by decide) dX5_judge_24 ?_
      refine aw_top (y := (s2 (ix s))) rfl ?_
      refine aw_top (y := (nI len)) (by exact el) ?_
      refine aw_icmp_ge C 61 dX5_judge_25 (by decide) (fun c_25 => absurd c_25 (nI_ge hi18 (by omega))) (fun c_25 => ?_)
      refine aw_aload_n C dX5_judge_28 rfl ?_
      refine aw_iload_n C dX5_judge_29 rfl ?_
      refine aw_pc 30 rfl ?_
      refine aw_callVp C (As := [.int (nI i)]) (c_X5_isPerson l D cI cC adK adV y T (kr, ar, ik, F, f, n, tk, bg, en, vl, s1, s2, s3, cr) (nI i) hn) k4_77 cv_X5_isPerson 0 4 rfl rfl rfl [0, 1, 2, 3, 4, 5, 6, 7, 8, 9, 10, 11, 12] (by decide) rfl ⟨by decide, by decide⟩ rfl rfl ⟨by decide, by decide⟩ rfl rfl (Nat.le_of_ble_eq_true rfl) dX5_judge_30 ?_
      refine aw_ifeq_b C 51 dX5_judge_33 (by decide) (fun c_33 => ?_) (fun c_33 => ?_)
      · skip
        refine aw_iconst C (1 : Int32) dX5_judge_51 (by decide) ?_
        refine aw_iload_n C dX5_judge_52 rfl ?_
        refine aw_iadd C dX5_judge_53 ?_
        have hm : m_judge (T, K, ik, F, f, n, s1, s2, s3) s = (((1 : Int32) + (nI i)), (T, K, ik, F, f, n, s1, s2, s3)) := by exact jdg_y wq1 wq2 exl hi18 (fst9_at hv18 (by first | exact jg_y1 c_33 | exact jg_y2 c_48) hi18)
        exact aw_iret C hr hlk dX5_judge_54 ⟨ri (by rw [hm]), kr, ar, tk, bg, en, vl, cr, by first | (rw [hm]; done) | (rw [hm]; rfl), by rw [hm]; exact hk⟩
      · skip
        have l3 := there_inv (by omega) hn c_33
        refine aw_aload_n C dX5_judge_36 rfl ?_
        refine aw_iload_n C dX5_judge_37 rfl ?_
        refine aw_iconst C (4 : Int32) dX5_judge_38 (by decide) ?_
        refine aw_callVp C (As := [.int (nI i), .int (4 : Int32)]) (c_X5_get l D cI cC adK adV y T (kr, ar, ik, F, f, n, tk, bg, en, vl, s1, s2, s3, cr) i 4 (by omega) (by decide)) k4_85 cv_X5_get 0 4 rfl rfl rfl [0, 1, 2, 3, 4, 5, 6, 7, 8, 9, 10, 11, 12] (by decide) rfl ⟨by decide, by decide⟩ rfl rfl ⟨by decide, by decide⟩ rfl rfl (Nat.le_of_ble_eq_true rfl) dX5_judge_39 ?_
        refine aw_pc 42 rfl ?_
        refine aw_aload_n C dX5_judge_42 rfl ?_
        refine aw_iload_n C dX5_judge_43 rfl ?_
        refine aw_iload_n C dX5_judge_44 rfl ?_
        refine aw_callVp C (As := [.int (nI (ix s)), .int (nI i)]) (c_X5_told l D cI cC adK adV y T (kr, ar, ik, F, f, n, tk, bg, en, vl, s1, s2, s3, cr) (ix s) i (by omega) (by omega)) k5_70 cv_X5_told 0 4 rfl rfl rfl [0, 1, 2, 3, 4, 5, 6, 7, 8, 9, 10, 11, 12] (by decide) rfl ⟨by decide, by decide⟩ rfl rfl ⟨by decide, by decide⟩ rfl rfl (Nat.le_of_ble_eq_true rfl) dX5_judge_45 ?_
        refine aw_icmp_eq C 55 dX5_judge_48 (by decide) (fun c_48 => ?_) (fun c_48 => ?_)
        · skip
          refine aw_iinc C (nI (i + 1)) dX5_judge_55 rfl (inc_nI _ 1) (by decide) rfl (lv' := [(0, .ref (y 0)), (1, .int (nI (ix s))), (2, .int (-1 : Int32)), (3, .int (nI (i + 1)))]) rfl ?_
          refine aw_goto C 18 dX5_judge_58 (by decide) ?_
          exact aw_eq (by first | rfl | (simp only [itr, wq1, wq2, c_33, c_48])) rfl (by first | rfl | (simp only [itr, wq1, wq2, c_33, c_48] <;> first | done | rfl)) (ih18 (all_s hv18 (jg_n c_33 c_48)))
        · skip
          refine aw_iconst C (1 : Int32) dX5_judge_51 (by decide) ?_
          refine aw_iload_n C dX5_judge_52 rfl ?_
          refine aw_iadd C dX5_judge_53 ?_
          refine aw_pc 54 rfl ?_
          have hm : m_judge (T, K, ik, F, f, n, s1, s2, s3) s = (((1 : Int32) + (nI i)), (T, K, ik, F, f, n, s1, s2, s3)) := by exact jdg_y wq1 wq2 exl hi18 (fst9_at hv18 (by first | exact jg_y1 c_33 | exact jg_y2 c_48) hi18)
          exact aw_iret C hr hlk dX5_judge_54 ⟨ri (by rw [hm]), kr, ar, tk, bg, en, vl, cr, by first | (rw [hm]; done) | (rw [hm]; rfl), by rw [hm]; exact hk⟩
