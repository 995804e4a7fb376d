/-! BareThursday: more of its calls -/
def mUnder (k u : Int32) : Bool := decide (itr (fun _ x => bif decide (x = u) then x else mAbove x) 3 k = u)
theorem under_st {k u : Int32} {i : Nat} (h : itr (fun _ x => bif decide (x = u) then x else mAbove x) i k = u) : ∀ {n : Nat}, i ≤ n → itr (fun _ x => bif decide (x = u) then x else mAbove x) n k = u
  | 0, hn => by
    have e : i = 0 := by omega
    subst e
    exact h
  | n + 1, hn => by
    by_cases e : i = n + 1
    · subst e
      exact h
    · rw [itr_s, under_st h (by omega), decide_eq_true rfl]
      rfl
def gS (G : Sg) (a b c : Nat → Int32) : Sg := (G.1, G.2.1, G.2.2.1, G.2.2.2.1, G.2.2.2.2.1, G.2.2.2.2.2.1, a, b, c)
def gQ (G : Sg) (f : Nat → Int32) (n : Nat) : Sg := (G.1, G.2.1, G.2.2.1, G.2.2.2.1, f, n, G.2.2.2.2.2.2)
def gK (G : Sg) (K : Tw) (ik : Bool) : Sg := (G.1, K, ik, G.2.2.2)
def m_seed (G : Sg) (v : Int32) : Int32 × Sg := (G.1.2.1 2, gT G (sG G.1 2 v))
def m_wipe (G : Sg) : Int32 × Sg := (nI G.2.2.2.2.2.1, gQ G G.2.2.2.2.1 0)
def m_hold (G : Sg) (s u : Int32) : Int32 × Sg := bif in0 s 10 && (decide (u = -1) || mThere G.1 u) then (1, gT G (sS G.1 (ix s) u)) else gno G 0
def m_as (G : Sg) (s k : Int32) : Int32 × Sg := bif in0 s 10 && in0 k 7 then (bif mThere G.1 (G.1.2.2.2 (ix s)) then (bif mUnder (mTrait G.1 (ix (G.1.2.2.2 (ix s))) 0) k then (G.1.2.2.2 (ix s), G) else gno G 2) else gno G 5) else gno G 0
def m_sheet (G : Sg) (s b v : Int32) : Int32 × Sg := bif in0 s 4 && (decide (b = 0) || (decide (b = 8) || (decide (b = 16) || decide (b = 32)))) then (bif decide (0 ≤ v) then (bif decide (v ≤ 40) then
  (let L := (if b = 0 then (0 : Int32) else v); (upd G.2.2.2.2.2.2.2.1 (ix s) L (ix s), gS G (upd G.2.2.2.2.2.2.1 (ix s) b) (upd G.2.2.2.2.2.2.2.1 (ix s) L) (fillF G.2.2.2.2.2.2.2.2 (ix s * 40) (ix s * 40 + 40) 0))) else gno G 0) else gno G 6) else gno G 0
def m_write (G : Sg) (s i v : Int32) : Int32 × Sg := bif in0 s 4 then (bif decide (G.2.2.2.2.2.2.1 (ix s) = 0) then gno G 5 else bif in0 i (G.2.2.2.2.2.2.2.1 (ix s)) then (1, gS G G.2.2.2.2.2.2.1 G.2.2.2.2.2.2.2.1 (upd G.2.2.2.2.2.2.2.2 (ix s * 40 + ix i) (lowB (G.2.2.2.2.2.2.1 (ix s)) v))) else gno G 0) else gno G 0
def hPart (L i k : Int32) : Bool := !decide (i < 0) && (!decide (k < 0) && !decide (L - k < i))
def m_copy (G : Sg) (s i t j k : Int32) : Int32 × Sg := bif in0 s 4 && in0 t 4 then (bif !decide (G.2.2.2.2.2.2.1 (ix s) = 0) && !decide (G.2.2.2.2.2.2.1 (ix t) = 0) then (bif decide (G.2.2.2.2.2.2.1 (ix s) = G.2.2.2.2.2.2.1 (ix t)) then
  (bif hPart (G.2.2.2.2.2.2.2.1 (ix s)) i k && hPart (G.2.2.2.2.2.2.2.1 (ix t)) j k then (k, gS G G.2.2.2.2.2.2.1 G.2.2.2.2.2.2.2.1 (va_cpy G.2.2.2.2.2.2.2.2 G.2.2.2.2.2.2.2.2 (ix s * 40 + ix i) (ix t * 40 + ix j) (ix k))) else gno G 0) else gno G 2) else gno G 5) else gno G 0
def m_image (G : Sg) : Int32 × Sg := (1, gK G G.1 true)
def m_undo (G : Sg) : Int32 × Sg := bif G.2.2.1 then (G.2.1.2.1 0, gT G G.2.1) else gno G 3
def m_tear (G : Sg) : Int32 × Sg := (b2 G.2.2.1, gK G G.2.1 false)
def m_count (G : Sg) (w : Int32) : Int32 × Sg := if w = 0 then (G.1.2.1 0, G) else if w = 1 then (nI G.1.1, G) else if w = 2 then (G.1.2.1 3, G) else if w = 3 then (mPairs G.1 4, G) else if w = 4 then (mPassed G.1, G) else if w = 5 then (nI G.2.2.2.2.2.1, G) else if w = 6 then (G.1.2.1 2, G) else if w = 7 then (mHeld G.1, G) else gno G 0
def m_status (G : Sg) (w : Int32) : Int32 × Sg := if w = -1 then (itr (fun k x => x + G.2.2.2.1 k) 7 0, G) else bif in0 w 7 then (G.2.2.2.1 (ix w), G) else gno G 0
/-- lengths of sheets are what they may be -/
def sOk (s2 : Nat → Int32) : Prop := ∀ s, s < 4 → ∃ k : Nat, k ≤ 40 ∧ s2 s = nI k
theorem in0_40 {s2 : Nat → Int32} {s : Nat} {i : Int32} (h : sOk s2) (hs : s < 4) (c : in0 i (s2 s) = true) : i = nI (ix i) ∧ ix i < 40 := by
  obtain ⟨k, hk, e⟩ := h s hs
  rw [e] at c
  obtain ⟨h1, h2⟩ := in0_ix (by omega) c
  exact ⟨h1, by omega⟩
theorem part_le {s2 : Nat → Int32} {s : Nat} {i k : Int32} (h : sOk s2) (hs : s < 4) (c : hPart (s2 s) i k = true) : i = nI (ix i) ∧ k = nI (ix k) ∧ ix i + ix k ≤ 40 := by
  obtain ⟨m, hm, e⟩ := h s hs
  rw [e] at c
  unfold hPart at c
  simp only [Bool.and_eq_true, Bool.not_eq_true', decide_eq_false_iff_not] at c
  obtain ⟨c1, c2, c3⟩ := c
  have e1 := ix_eq c1
  have e2 := ix_eq c2
  refine ⟨e1, e2, ?_⟩
  obtain ⟨a, ha, rfl⟩ := nI_of c1
  obtain ⟨b, hb, rfl⟩ := nI_of c2
  rw [ix_nI ha, ix_nI hb]
  rcases Nat.lt_or_ge m b with q | q
  · exfalso
    apply c3
    rw [Int32.lt_iff_toInt_lt, nI_toInt ha]
    rw [Int32.toInt_sub, nI_toInt (by omega), nI_toInt hb, Int.bmod_eq_of_le (by omega) (by omega)]
    omega
  · rw [pk_sub q] at c3
    have h4 := (nI_leI ha (by omega)).mp (Int32.not_lt.mp c3)
    omega

abbrev r_X0_isUnder : Room := { frames := 1, cells := 0, slots := 0, locals := 20 }
theorem cs_X0_isUnder : cS yX0_isUnder cX0_isUnder 4 (some .boolean) 2 := ⟨k3_148, k3_149, k1_7, by decide, by decide, by decide +kernel⟩
set_option maxHeartbeats 4000000 in
set_option maxRecDepth 100000 in
theorem c_X0_isUnder (l : Launch) (D : va_G) (cI cC : ClassId) (adK adV : Nat → Nat) (k : Int32) (u : Int32) : FC l yX0_isUnder (wW yX0_isUnder cX0_isUnder 4 (some .boolean)) r_X0_isUnder D (tyC cI cC) adK adV (([] : va_W)) [.int k, .int u] 0 0 (fQ (some (.int (b2 (mUnder k u)))) (([] : va_W))) := by
  refine FC.of (own := RX0) (by decide) rfl (Nat.le_of_ble_eq_true rfl) ?_
  intro p9 e9 s9 m9 args9 below9 meth9 c9 A9 C hr hlk hmn
  show AW p9 l e9 r_X0_isUnder s9 m9 args9 below9 meth9 c9 D A9 4 0 0 _ 0 [(0, .int k), (1, .int u)] [] _
  refine aw_iload_n C dX0_isUnder_0 rfl ?_
  refine aw_istore_n C true (lv' := [(0, .int k), (1, .int u), (2, .int k)]) dX0_isUnder_1 (by decide) rfl rfl ?_
  refine aw_iconst C (0 : Int32) dX0_isUnder_2 (by decide) ?_
  refine aw_istore_n C true (lv' := [(0, .int k), (1, .int u), (2, .int k), (3, .int (0 : Int32))]) dX0_isUnder_3 (by decide) rfl rfl ?_
  refine aw_eq (lv' := [(0, .int k), (1, .int u), (2, .int (itr (fun _ x => bif decide (x = u) then x else mAbove x) 0 k)), (3, .int (nI 0))]) (ws' := ([] : va_W)) (by first | rfl | (simp only [itr])) rfl (by rfl) ?_
  refine aw_loop (LV := fun i => [(0, .int k), (1, .int u), (2, .int (itr (fun _ x => bif decide (x = u) then x else mAbove x) i k)), (3, .int (nI i))]) (WS := fun i => ([] : va_W)) 3 (Inv := fun _ => True) trivial ?_ ?_
  · intro hv4
    refine aw_iload_n C dX0_isUnder_4 rfl ?_
    refine aw_iconst C (3 : Int32) dX0_isUnder_5 (by decide) ?_
    refine aw_icmp_ge C 25 dX0_isUnder_6 (by decide) (fun c_6 => ?_) (fun c_6 => absurd c_6 (fun z => z (by decide)))
    refine aw_iload_n C dX0_isUnder_25 rfl ?_
    refine aw_iload_n C dX0_isUnder_26 rfl ?_
    refine aw_pc 27 rfl ?_
    refine aw_icmp_ne C 34 dX0_isUnder_27 (by decide) (fun c_27 => ?_) (fun c_27 => ?_)
    · skip
      refine aw_iconst C (0 : Int32) dX0_isUnder_34 (by decide) ?_
      exact aw_bret C (b := false) hr hlk dX0_isUnder_35 rfl ⟨rb (by first | exact absurd c_11 c_27 | (rw [mUnder, decide_eq_true (under_st c_11 (by omega))]) | (simp only [mUnder, c_27, decide_true, decide_false, Bool.not_true, Bool.not_false, Bool.true_and, Bool.false_and, Bool.and_true, Bool.and_false, Bool.true_or, Bool.false_or, Bool.or_true, Bool.or_false, cond_true, cond_false, eq_self, if_true, if_false, ite_true, ite_false])), by rfl⟩
    · skip
      refine aw_iconst C (1 : Int32) dX0_isUnder_30 (by decide) ?_
      refine aw_goto C 35 dX0_isUnder_31 (by decide) ?_
      exact aw_bret C (b := true) hr hlk dX0_isUnder_35 rfl ⟨rb (by first | exact absurd c_11 c_27 | (rw [mUnder, decide_eq_true (under_st c_11 (by omega))]) | (simp only [mUnder, c_27, decide_true, decide_false, Bool.not_true, Bool.not_false, Bool.true_and, Bool.false_and, Bool.and_true, Bool.and_false, Bool.true_or, Bool.false_or, Bool.or_true, Bool.or_false, cond_true, cond_false, eq_self, if_true, if_false, ite_true, ite_false])), by rfl⟩
  · intro i hi4 hv4 ih4
    refine aw_iload_n C dX0_isUnder_4 rfl ?_
    refine aw_iconst C (3 : Int32) dX0_isUnder_5 (by decide) ?_
    refine aw_icmp_ge C 25 dX0_isUnder_6 (by decide) (fun c_6 => absurd c_6 (nI_ge (b := 3) hi4 (by decide))) (fun c_6 => ?_)
    refine aw_iload_n C dX0_isUnder_9 rfl ?_
    refine aw_pc 10 rfl ?_
    refine aw_iload_n C dX0_isUnder_10 rfl ?_
    refine aw_icmp_eq C 25 dX0_isUnder_11 (by decide) (fun c_11 => ?_) (fun c_11 => ?_)
    · skip
      refine aw_iload_n C dX0_isUnder_25 rfl ?_
      refine aw_iload_n C dX0_isUnder_26 rfl ?_
      refine aw_icmp_ne C 34 dX0_isUnder_27 (by decide) (fun c_27 => ?_) (fun c_27 => ?_)
      · skip
        refine aw_iconst C (0 : Int32) dX0_isUnder_34 (by decide) ?_
        exact aw_bret C (b := false) hr hlk dX0_isUnder_35 rfl ⟨rb (by first | exact absurd c_11 c_27 | (rw [mUnder, decide_eq_true (under_st c_11 (by omega))]) | (simp only [mUnder, c_11, c_27, decide_true, decide_false, Bool.not_true, Bool.not_false, Bool.true_and, Bool.false_and, Bool.and_true, Bool.and_false, Bool.true_or, Bool.false_or, Bool.or_true, Bool.or_false, cond_true, cond_false, eq_self, if_true, if_false, ite_true, ite_false])), by rfl⟩
      · skip
        refine aw_iconst C (1 : Int32) dX0_isUnder_30 (by decide) ?_
        refine aw_goto C 35 dX0_isUnder_31 (by decide) ?_
        exact aw_bret C (b := true) hr hlk dX0_isUnder_35 rfl ⟨rb (by first | exact absurd c_11 c_27 | (rw [mUnder, decide_eq_true (under_st c_11 (by omega))]) | (simp only [mUnder, c_11, c_27, decide_true, decide_false, Bool.not_true, Bool.not_false, Bool.true_and, Bool.false_and, Bool.and_true, Bool.and_false, Bool.true_or, Bool.false_or, Bool.or_true, Bool.or_false, cond_true, cond_false, eq_self, if_true, if_false, ite_true, ite_false])), by rfl⟩
    · skip
      refine aw_pc 14 rfl ?_
      refine aw_iload_n C dX0_isUnder_14 rfl ?_
      refine aw_callSp C (As := [.int (itr (fun _ x => bif decide (x = u) then x else mAbove x) i k)]) (c_X0_above l D cI cC adK adV (itr (fun _ x => bif decide (x = u) then x else mAbove x) i k)) k3_150 cs_X0_above [] (by decide) rfl ⟨by decide, by decide⟩ rfl rfl ⟨by decide, by decide⟩ rfl rfl (Nat.le_of_ble_eq_true rfl) dX0_isUnder_15 ?_
      refine aw_istore_n C false (lv' := [(0, .int k), (1, .int u), (2, .int (mAbove (itr (fun _ x => bif decide (x = u) then x else mAbove x) i k))), (3, .int (nI i))]) dX0_isUnder_18 (by decide) rfl rfl ?_
      refine aw_iinc C (nI (i + 1)) dX0_isUnder_19 rfl (inc_nI _ 1) (by decide) rfl (lv' := [(0, .int k), (1, .int u), (2, .int (mAbove (itr (fun _ x => bif decide (x = u) then x else mAbove x) i k))), (3, .int (nI (i + 1)))]) rfl ?_
      refine aw_goto C 4 dX0_isUnder_22 (by decide) ?_
      exact aw_eq (by rw [itr_s, decide_eq_false c_11]; rfl) rfl (by first | rfl | (simp only [itr, c_11] <;> first | done | rfl)) (ih4 trivial)
abbrev r_X4_seed : Room := { frames := 0, cells := 0, slots := 0, locals := 0 }
theorem cv_X4_seed : cV yX4_seed cX4_seed 3 (some .int) 1 := ⟨k2_227, k2_228, k2_229, k1_1, by decide, by decide, by decide +kernel⟩
set_option maxHeartbeats 4000000 in
set_option maxRecDepth 100000 in
theorem c_X4_seed (l : Launch) (D : va_G) (cI cC : ClassId) (adK adV : Nat → Nat) (z : Nat → Nat) (T R K : Tw) (ik : Bool) (F f : Nat → Int32) (n : Nat) (tk : Int32) (bg en : Nat) (nm : Int32) (s1 s2 s3 : Nat → Int32) (v : Int32) : FC l yX4_seed (wW yX4_seed cX4_seed 3 (some .int)) r_X4_seed D (tyC cI cC) adK adV (wBa cI z T R K ik F f n tk bg en nm s1 s2 s3) [.ref (z 0), .int v] 0 0 (pBa cI z (m_seed (T, K, ik, F, f, n, s1, s2, s3) v)) := by
  refine FC.of (own := RX4) (by decide) rfl (Nat.le_of_ble_eq_true rfl) ?_
  intro p9 e9 s9 m9 args9 below9 meth9 c9 A9 C hr hlk hmn
  show AW p9 l e9 r_X4_seed s9 m9 args9 below9 meth9 c9 D A9 3 0 0 _ 0 [(0, .ref (z 0)), (1, .int v)] [] _
  refine aw_eq (lv' := [(0, .ref (z 0)), (1, .int v)]) (ws' := fl [wMa cI z ik F, wTo cI (z 2) (zT z) T, wTo cI (z 3) (zR z) R, wTo cI (z 4) (zK z) K, wTp cI (z 5) (z 6) f n tk bg en nm, wSh cI (z 7) (zS z) s1 s2 s3]) rfl rfl rfl ?_
  refine aw_aload_n C dX4_seed_0 rfl ?_
  refine aw_getf C 0 3 0 7 inX4 rfl (by decide) rfl k1_117 rfl rfl dX4_seed_1 ?_
  refine aw_getf C 2 2 3 12 inX3 rfl (by decide) rfl k1_40 rfl rfl dX4_seed_4 ?_
  refine aw_istore_n C true (lv' := [(0, .ref (z 0)), (1, .int v), (2, .int (T.2.1 2))]) dX4_seed_7 (by decide) rfl rfl ?_
  refine aw_aload_n C dX4_seed_8 rfl ?_
  refine aw_getf C 0 3 0 7 inX4 rfl (by decide) rfl k1_117 rfl rfl dX4_seed_9 ?_
  refine aw_iload_n C dX4_seed_12 rfl ?_
  refine aw_putf C 2 2 3 12 tyX3 inX3 tyX3_ok nmX3 rfl (by decide) rfl k1_40 rfl rfl rfl rfl rfl (Nat.le_of_ble_eq_true rfl) (ws' := fl [wMa cI z ik F, wTo cI (z 2) (zT z) (sG T 2 v), wTo cI (z 3) (zR z) R, wTo cI (z 4) (zK z) K, wTp cI (z 5) (z 6) f n tk bg en nm, wSh cI (z 7) (zS z) s1 s2 s3]) rfl dX4_seed_13 ?_
  refine aw_iload_n C dX4_seed_16 rfl ?_
  refine aw_pc 17 rfl ?_
  have hm : m_seed (T, K, ik, F, f, n, s1, s2, s3) v = ((T.2.1 2), ((sG T 2 v), K, ik, F, f, n, s1, s2, s3)) := by rfl
  exact aw_iret C hr hlk dX4_seed_17 ⟨ri (by rw [hm]), R, tk, bg, en, nm, by rw [hm]; rfl⟩
abbrev r_X4_wipe : Room := { frames := 1, cells := 0, slots := 0, locals := 21 }
theorem cv_X4_wipe : cV yX4_wipe cX4_wipe 1 (some .int) 0 := ⟨k3_7, k3_8, k3_9, k1_1, by decide, by decide, by decide +kernel⟩
set_option maxHeartbeats 4000000 in
set_option maxRecDepth 100000 in
theorem c_X4_wipe (l : Launch) (D : va_G) (cI cC : ClassId) (adK adV : Nat → Nat) (z : Nat → Nat) (T R K : Tw) (ik : Bool) (F f : Nat → Int32) (n : Nat) (tk : Int32) (bg en : Nat) (nm : Int32) (s1 s2 s3 : Nat → Int32)  : FC l yX4_wipe (wW yX4_wipe cX4_wipe 1 (some .int)) r_X4_wipe D (tyC cI cC) adK adV (wBa cI z T R K ik F f n tk bg en nm s1 s2 s3) [.ref (z 0)] 0 0 (pBa cI z (m_wipe (T, K, ik, F, f, n, s1, s2, s3))) := by
  refine FC.of (own := RX4) (by decide) rfl (Nat.le_of_ble_eq_true rfl) ?_
  intro p9 e9 s9 m9 args9 below9 meth9 c9 A9 C hr hlk hmn
  show AW p9 l e9 r_X4_wipe s9 m9 args9 below9 meth9 c9 D A9 1 0 0 _ 0 [(0, .ref (z 0))] [] _
  refine aw_eq (lv' := [(0, .ref (z 0))]) (ws' := fl [wMa cI z ik F, wTo cI (z 2) (zT z) T, wTo cI (z 3) (zR z) R, wTo cI (z 4) (zK z) K, wTp cI (z 5) (z 6) f n tk bg en nm, wSh cI (z 7) (zS z) s1 s2 s3]) rfl rfl rfl ?_
  refine aw_aload_n C dX4_wipe_0 rfl ?_
  refine aw_getf C 0 3 4 7 inX4 rfl (by decide) rfl k1_121 rfl rfl dX4_wipe_1 ?_
  refine aw_gVd C (As := []) (c_X2_empty l D cI cC adK adV (z 5) (z 6) f n tk bg en nm ) k3_10 cv_X2_empty 1 rfl rfl rfl [4, 0, 1, 2, 3, 5] (fl1 _) rfl 6 rfl (by decide) (gc := [wTp cI (z 5) (z 6) f n tk bg en nm]) (gr := [wMa cI z ik F, wTo cI (z 2) (zT z) T, wTo cI (z 3) (zR z) R, wTo cI (z 4) (zK z) K, wSh cI (z 7) (zS z) s1 s2 s3]) (gc1 := [wTp cI (z 5) (z 6) f 0 tk bg en nm]) (gs' := [wMa cI z ik F, wTo cI (z 2) (zT z) T, wTo cI (z 3) (zR z) R, wTo cI (z 4) (zK z) K, wTp cI (z 5) (z 6) f 0 tk bg en nm, wSh cI (z 7) (zS z) s1 s2 s3]) (fl1 _) rfl rfl ⟨by decide, by decide⟩ rfl rfl ⟨by decide, by decide⟩ rfl rfl (Nat.le_of_ble_eq_true rfl) dX4_wipe_4 ?_
  have hm : m_wipe (T, K, ik, F, f, n, s1, s2, s3) = ((nI n), (T, K, ik, F, f, 0, s1, s2, s3)) := by rfl
  exact aw_iret C hr hlk dX4_wipe_7 ⟨ri (by rw [hm]), R, tk, bg, en, nm, by rw [hm]; rfl⟩
abbrev r_X4_hold : Room := { frames := 2, cells := 0, slots := 0, locals := 42 }
theorem cv_X4_hold : cV yX4_hold cX4_hold 3 (some .int) 2 := ⟨k3_140, k3_141, k3_142, k1_1, by decide, by decide, by decide +kernel⟩
set_option maxHeartbeats 4000000 in
set_option maxRecDepth 100000 in
theorem c_X4_hold (l : Launch) (D : va_G) (cI cC : ClassId) (adK adV : Nat → Nat) (z : Nat → Nat) (T R K : Tw) (ik : Bool) (F f : Nat → Int32) (n : Nat) (tk : Int32) (bg en : Nat) (nm : Int32) (s1 s2 s3 : Nat → Int32) (s : Int32) (u : Int32) : FC l yX4_hold (wW yX4_hold cX4_hold 3 (some .int)) r_X4_hold D (tyC cI cC) adK adV (wBa cI z T R K ik F f n tk bg en nm s1 s2 s3) [.ref (z 0), .int s, .int u] 0 0 (pBa cI z (m_hold (T, K, ik, F, f, n, s1, s2, s3) s u)) := by
  refine FC.of (own := RX4) (by decide) rfl (Nat.le_of_ble_eq_true rfl) ?_
  intro p9 e9 s9 m9 args9 below9 meth9 c9 A9 C hr hlk hmn
  show AW p9 l e9 r_X4_hold s9 m9 args9 below9 meth9 c9 D A9 3 0 0 _ 0 [(0, .ref (z 0)), (1, .int s), (2, .int u)] [] _
  refine aw_eq (lv' := [(0, .ref (z 0)), (1, .int s), (2, .int u)]) (ws' := fl [wMa cI z ik F, wTo cI (z 2) (zT z) T, wTo cI (z 3) (zR z) R, wTo cI (z 4) (zK z) K, wTp cI (z 5) (z 6) f n tk bg en nm, wSh cI (z 7) (zS z) s1 s2 s3]) rfl rfl rfl ?_
  have J25 : m_hold (T, K, ik, F, f, n, s1, s2, s3) s u = gno (T, K, ik, F, f, n, s1, s2, s3) 0 → AW p9 l e9 r_X4_hold s9 m9 args9 below9 meth9 c9 D A9 3 0 0 (aQ below9 args9 s9 D A9 0 0 (pBa cI z (m_hold (T, K, ik, F, f, n, s1, s2, s3) s u))) 25 [(0, .ref (z 0))] [] (fl [wMa cI z ik F, wTo cI (z 2) (zT z) T, wTo cI (z 3) (zR z) R, wTo cI (z 4) (zK z) K, wTp cI (z 5) (z 6) f n tk bg en nm, wSh cI (z 7) (zS z) s1 s2 s3]) := by
    intro hj
    refine aw_aload_n C dX4_hold_25 rfl ?_
    refine aw_iconst C (0 : Int32) dX4_hold_26 (by decide) ?_
    refine aw_gVd C (As := [.int (0 : Int32)]) (c_X4_finding l D cI cC adK adV z ik F 0 (by decide)) k1_146 cv_X4_finding 3 rfl rfl rfl [0, 1, 2, 3, 4, 5] (fl1 _) rfl 6 rfl (by decide) (gc := [wMa cI z ik F]) (gr := [wTo cI (z 2) (zT z) T, wTo cI (z 3) (zR z) R, wTo cI (z 4) (zK z) K, wTp cI (z 5) (z 6) f n tk bg en nm, wSh cI (z 7) (zS z) s1 s2 s3]) (gc1 := [wMa cI z ik (upd F 0 (F 0 + 1))]) (gs' := [wMa cI z ik (upd F 0 (F 0 + 1)), wTo cI (z 2) (zT z) T, wTo cI (z 3) (zR z) R, wTo cI (z 4) (zK z) K, wTp cI (z 5) (z 6) f n tk bg en nm, wSh cI (z 7) (zS z) s1 s2 s3]) (fl1 _) rfl rfl ⟨by decide, by decide⟩ rfl rfl ⟨by decide, by decide⟩ rfl rfl (Nat.le_of_ble_eq_true rfl) dX4_hold_27 ?_
    have hm : m_hold (T, K, ik, F, f, n, s1, s2, s3) s u = ((fno 0), (T, K, ik, (upd F 0 (F 0 + 1)), f, n, s1, s2, s3)) := by rw [hj]; rfl
    exact aw_iret C hr hlk dX4_hold_30 ⟨ri (by rw [hm]), R, tk, bg, en, nm, by rw [hm]; rfl⟩
  refine aw_iload_n C dX4_hold_0 rfl ?_
  refine aw_bipush C (10 : Int32) dX4_hold_1 (by decide) ?_
  refine aw_callSp C (As := [.int s, .int (10 : Int32)]) (c_X4_isIn l D cI cC adK adV s (10 : Int32)) k1_143 cs_X4_isIn [] (by decide) rfl ⟨by decide, by decide⟩ rfl rfl ⟨by decide, by decide⟩ rfl rfl (Nat.le_of_ble_eq_true rfl) dX4_hold_3 ?_
  refine aw_ifeq_b C 25 dX4_hold_6 (by decide) (fun c_6 => ?_) (fun c_6 => ?_)
  · skip
    refine aw_sub (lv' := [(0, .ref (z 0))]) [0] rfl ?_
    exact J25 (by simp only [m_hold, c_6, decide_true, decide_false, Bool.not_true, Bool.not_false, Bool.true_and, Bool.false_and, Bool.and_true, Bool.and_false, Bool.true_or, Bool.false_or, Bool.or_true, Bool.or_false, cond_true, cond_false, eq_self, if_true, if_false, ite_true, ite_false] <;> rfl)
  · skip
    refine aw_iload_n C dX4_hold_9 rfl ?_
    refine aw_pc 10 rfl ?_
    refine aw_iconst C (-1 : Int32) dX4_hold_10 (by decide) ?_
    refine aw_icmp_eq C 31 dX4_hold_11 (by decide) (fun c_11 => ?_) (fun c_11 => ?_)
    · skip
      have hs : ix s < 10 := (in0_ix (n := 10) (by decide) c_6).2
      have es : s = nI (ix s) := (in0_ix (n := 10) (by decide) c_6).1
      refine aw_eq (lv' := [(0, .ref (z 0)), (1, .int (nI (ix s))), (2, .int u)]) (ws' := fl [wMa cI z ik F, wTo cI (z 2) (zT z) T, wTo cI (z 3) (zR z) R, wTo cI (z 4) (zK z) K, wTp cI (z 5) (z 6) f n tk bg en nm, wSh cI (z 7) (zS z) s1 s2 s3]) (by rw [← es]) rfl rfl ?_
      refine aw_aload_n C dX4_hold_31 rfl ?_
      refine aw_getf C 0 3 0 7 inX4 rfl (by decide) rfl k1_117 rfl rfl dX4_hold_32 ?_
      refine aw_getf C 2 2 4 12 inX3 rfl (by decide) rfl k1_42 rfl rfl dX4_hold_35 ?_
      refine aw_iload_n C dX4_hold_38 rfl ?_
      refine aw_iload_n C dX4_hold_39 rfl ?_
      refine aw_iastN C 3 0 (ix s) rfl rfl rfl (by omega) (by decide) (ws' := fl [wMa cI z ik F, wTo cI (z 2) (zT z) (sS T (ix s) u), wTo cI (z 3) (zR z) R, wTo cI (z 4) (zK z) K, wTp cI (z 5) (z 6) f n tk bg en nm, wSh cI (z 7) (zS z) s1 s2 s3]) rfl dX4_hold_40 ?_
      refine aw_iconst C (1 : Int32) dX4_hold_41 (by decide) ?_
      have hm : m_hold (T, K, ik, F, f, n, s1, s2, s3) s u = ((1 : Int32), ((sS T (ix s) u), K, ik, F, f, n, s1, s2, s3)) := by simp only [m_hold, c_6, c_11, decide_true, decide_false, Bool.not_true, Bool.not_false, Bool.true_and, Bool.false_and, Bool.and_true, Bool.and_false, Bool.true_or, Bool.false_or, Bool.or_true, Bool.or_false, cond_true, cond_false, eq_self, if_true, if_false, ite_true, ite_false] <;> rfl
      exact aw_iret C hr hlk dX4_hold_42 ⟨ri (by rw [hm]), R, tk, bg, en, nm, by rw [hm]; rfl⟩
    · skip
      refine aw_pc 14 rfl ?_
      refine aw_aload_n C dX4_hold_14 rfl ?_
      refine aw_getf C 0 3 0 7 inX4 rfl (by decide) rfl k1_117 rfl rfl dX4_hold_15 ?_
      refine aw_iload_n C dX4_hold_18 rfl ?_
      refine aw_gVp C (As := [.int u]) (c_X3_isThere l D cI cC adK adV (z 2) (zT z) T u) k1_172 cv_X3_isThere 2 rfl rfl rfl [1, 0, 2, 3, 4, 5] (fl1 _) rfl 6 rfl (by decide) ⟨by decide, by decide⟩ rfl rfl ⟨by decide, by decide⟩ rfl rfl (Nat.le_of_ble_eq_true rfl) dX4_hold_19 ?_
      refine aw_ifne_b C 31 dX4_hold_22 (by decide) (fun c_22 => ?_) (fun c_22 => ?_)
      · skip
        have hs : ix s < 10 := (in0_ix (n := 10) (by decide) c_6).2
        have es : s = nI (ix s) := (in0_ix (n := 10) (by decide) c_6).1
        refine aw_eq (lv' := [(0, .ref (z 0)), (1, .int (nI (ix s))), (2, .int u)]) (ws' := fl [wMa cI z ik F, wTo cI (z 2) (zT z) T, wTo cI (z 3) (zR z) R, wTo cI (z 4) (zK z) K, wTp cI (z 5) (z 6) f n tk bg en nm, wSh cI (z 7) (zS z) s1 s2 s3]) (by rw [← es]) rfl rfl ?_
        refine aw_aload_n C dX4_hold_31 rfl ?_
        refine aw_getf C 0 3 0 7 inX4 rfl (by decide) rfl k1_117 rfl rfl dX4_hold_32 ?_
        refine aw_getf C 2 2 4 12 inX3 rfl (by decide) rfl k1_42 rfl rfl dX4_hold_35 ?_
        refine aw_iload_n C dX4_hold_38 rfl ?_
        refine aw_iload_n C dX4_hold_39 rfl ?_
        refine aw_pc 40 rfl ?_
        refine aw_iastN C 3 0 (ix s) rfl rfl rfl (by omega) (by decide) (ws' := fl [wMa cI z ik F, wTo cI (z 2) (zT z) (sS T (ix s) u), wTo cI (z 3) (zR z) R, wTo cI (z 4) (zK z) K, wTp cI (z 5) (z 6) f n tk bg en nm, wSh cI (z 7) (zS z) s1 s2 s3]) rfl dX4_hold_40 ?_
        refine aw_iconst C (1 : Int32) dX4_hold_41 (by decide) ?_
        have hm : m_hold (T, K, ik, F, f, n, s1, s2, s3) s u = ((1 : Int32), ((sS T (ix s) u), K, ik, F, f, n, s1, s2, s3)) := by simp only [m_hold, c_6, c_11, c_22, decide_true, decide_false, Bool.not_true, Bool.not_false, Bool.true_and, Bool.false_and, Bool.and_true, Bool.and_false, Bool.true_or, Bool.false_or, Bool.or_true, Bool.or_false, cond_true, cond_false, eq_self, if_true, if_false, ite_true, ite_false] <;> rfl
        exact aw_iret C hr hlk dX4_hold_42 ⟨ri (by rw [hm]), R, tk, bg, en, nm, by rw [hm]; rfl⟩
      · skip
        refine aw_sub (lv' := [(0, .ref (z 0))]) [0] rfl ?_
        exact J25 (by simp only [m_hold, c_6, c_11, c_22, decide_true, decide_false, Bool.not_true, Bool.not_false, Bool.true_and, Bool.false_and, Bool.and_true, Bool.and_false, Bool.true_or, Bool.false_or, Bool.or_true, Bool.or_false, cond_true, cond_false, eq_self, if_true, if_false, ite_true, ite_false] <;> rfl)
abbrev r_X4_as : Room := { frames := 3, cells := 0, slots := 0, locals := 64 }
theorem cv_X4_as : cV yX4_as cX4_as 4 (some .int) 2 := ⟨k3_144, k3_145, k3_146, k1_1, by decide, by decide, by decide +kernel⟩
set_option maxHeartbeats 4000000 in
set_option maxRecDepth 100000 in
theorem c_X4_as (l : Launch) (D : va_G) (cI cC : ClassId) (adK adV : Nat → Nat) (z : Nat → Nat) (T R K : Tw) (ik : Bool) (F f : Nat → Int32) (n : Nat) (tk : Int32) (bg en : Nat) (nm : Int32) (s1 s2 s3 : Nat → Int32) (s : Int32) (k : Int32) (hn : T.1 ≤ 8) : FC l yX4_as (wW yX4_as cX4_as 4 (some .int)) r_X4_as D (tyC cI cC) adK adV (wBa cI z T R K ik F f n tk bg en nm s1 s2 s3) [.ref (z 0), .int s, .int k] 0 0 (pBa cI z (m_as (T, K, ik, F, f, n, s1, s2, s3) s k)) := by
  refine FC.of (own := RX4) (by decide) rfl (Nat.le_of_ble_eq_true rfl) ?_
  intro p9 e9 s9 m9 args9 below9 meth9 c9 A9 C hr hlk hmn
  show AW p9 l e9 r_X4_as s9 m9 args9 below9 meth9 c9 D A9 4 0 0 _ 0 [(0, .ref (z 0)), (1, .int s), (2, .int k)] [] _
  refine aw_eq (lv' := [(0, .ref (z 0)), (1, .int s), (2, .int k)]) (ws' := fl [wMa cI z ik F, wTo cI (z 2) (zT z) T, wTo cI (z 3) (zR z) R, wTo cI (z 4) (zK z) K, wTp cI (z 5) (z 6) f n tk bg en nm, wSh cI (z 7) (zS z) s1 s2 s3]) rfl rfl rfl ?_
  have J18 : m_as (T, K, ik, F, f, n, s1, s2, s3) s k = gno (T, K, ik, F, f, n, s1, s2, s3) 0 → AW p9 l e9 r_X4_as s9 m9 args9 below9 meth9 c9 D A9 4 0 0 (aQ below9 args9 s9 D A9 0 0 (pBa cI z (m_as (T, K, ik, F, f, n, s1, s2, s3) s k))) 18 [(0, .ref (z 0))] [] (fl [wMa cI z ik F, wTo cI (z 2) (zT z) T, wTo cI (z 3) (zR z) R, wTo cI (z 4) (zK z) K, wTp cI (z 5) (z 6) f n tk bg en nm, wSh cI (z 7) (zS z) s1 s2 s3]) := by
    intro hj
    refine aw_aload_n C dX4_as_18 rfl ?_
    refine aw_iconst C (0 : Int32) dX4_as_19 (by decide) ?_
    refine aw_gVd C (As := [.int (0 : Int32)]) (c_X4_finding l D cI cC adK adV z ik F 0 (by decide)) k1_146 cv_X4_finding 3 rfl rfl rfl [0, 1, 2, 3, 4, 5] (fl1 _) rfl 6 rfl (by decide) (gc := [wMa cI z ik F]) (gr := [wTo cI (z 2) (zT z) T, wTo cI (z 3) (zR z) R, wTo cI (z 4) (zK z) K, wTp cI (z 5) (z 6) f n tk bg en nm, wSh cI (z 7) (zS z) s1 s2 s3]) (gc1 := [wMa cI z ik (upd F 0 (F 0 + 1))]) (gs' := [wMa cI z ik (upd F 0 (F 0 + 1)), wTo cI (z 2) (zT z) T, wTo cI (z 3) (zR z) R, wTo cI (z 4) (zK z) K, wTp cI (z 5) (z 6) f n tk bg en nm, wSh cI (z 7) (zS z) s1 s2 s3]) (fl1 _) rfl rfl ⟨by decide, by decide⟩ rfl rfl ⟨by decide, by decide⟩ rfl rfl (Nat.le_of_ble_eq_true rfl) dX4_as_20 ?_
    have hm : m_as (T, K, ik, F, f, n, s1, s2, s3) s k = ((fno 0), (T, K, ik, (upd F 0 (F 0 + 1)), f, n, s1, s2, s3)) := by rw [hj]; rfl
    exact aw_iret C hr hlk dX4_as_23 ⟨ri (by rw [hm]), R, tk, bg, en, nm, by rw [hm]; rfl⟩
  have J45 : m_as (T, K, ik, F, f, n, s1, s2, s3) s k = gno (T, K, ik, F, f, n, s1, s2, s3) 5 → AW p9 l e9 r_X4_as s9 m9 args9 below9 meth9 c9 D A9 4 0 0 (aQ below9 args9 s9 D A9 0 0 (pBa cI z (m_as (T, K, ik, F, f, n, s1, s2, s3) s k))) 45 [(0, .ref (z 0))] [] (fl [wMa cI z ik F, wTo cI (z 2) (zT z) T, wTo cI (z 3) (zR z) R, wTo cI (z 4) (zK z) K, wTp cI (z 5) (z 6) f n tk bg en nm, wSh cI (z 7) (zS z) s1 s2 s3]) := by
    intro hj
    refine aw_aload_n C dX4_as_45 rfl ?_
    refine aw_iconst C (5 : Int32) dX4_as_46 (by decide) ?_
    refine aw_gVd C (As := [.int (5 : Int32)]) (c_X4_finding l D cI cC adK adV z ik F 5 (by decide)) k1_146 cv_X4_finding 3 rfl rfl rfl [0, 1, 2, 3, 4, 5] (fl1 _) rfl 6 rfl (by decide) (gc := [wMa cI z ik F]) (gr := [wTo cI (z 2) (zT z) T, wTo cI (z 3) (zR z) R, wTo cI (z 4) (zK z) K, wTp cI (z 5) (z 6) f n tk bg en nm, wSh cI (z 7) (zS z) s1 s2 s3]) (gc1 := [wMa cI z ik (upd F 5 (F 5 + 1))]) (gs' := [wMa cI z ik (upd F 5 (F 5 + 1)), wTo cI (z 2) (zT z) T, wTo cI (z 3) (zR z) R, wTo cI (z 4) (zK z) K, wTp cI (z 5) (z 6) f n tk bg en nm, wSh cI (z 7) (zS z) s1 s2 s3]) (fl1 _) rfl rfl ⟨by decide, by decide⟩ rfl rfl ⟨by decide, by decide⟩ rfl rfl (Nat.le_of_ble_eq_true rfl) dX4_as_47 ?_
    have hm : m_as (T, K, ik, F, f, n, s1, s2, s3) s k = ((fno 5), (T, K, ik, (upd F 5 (F 5 + 1)), f, n, s1, s2, s3)) := by rw [hj]; rfl
    exact aw_iret C hr hlk dX4_as_50 ⟨ri (by rw [hm]), R, tk, bg, en, nm, by rw [hm]; rfl⟩
  have J67 : m_as (T, K, ik, F, f, n, s1, s2, s3) s k = gno (T, K, ik, F, f, n, s1, s2, s3) 2 → AW p9 l e9 r_X4_as s9 m9 args9 below9 meth9 c9 D A9 4 0 0 (aQ below9 args9 s9 D A9 0 0 (pBa cI z (m_as (T, K, ik, F, f, n, s1, s2, s3) s k))) 67 [(0, .ref (z 0))] [] (fl [wMa cI z ik F, wTo cI (z 2) (zT z) T, wTo cI (z 3) (zR z) R, wTo cI (z 4) (zK z) K, wTp cI (z 5) (z 6) f n tk bg en nm, wSh cI (z 7) (zS z) s1 s2 s3]) := by
    intro hj
    refine aw_aload_n C dX4_as_67 rfl ?_
    refine aw_pc 68 rfl ?_
    refine aw_iconst C (2 : Int32) dX4_as_68 (by decide) ?_
    refine aw_gVd C (As := [.int (2 : Int32)]) (c_X4_finding l D cI cC adK adV z ik F 2 (by decide)) k1_146 cv_X4_finding 3 rfl rfl rfl [0, 1, 2, 3, 4, 5] (fl1 _) rfl 6 rfl (by decide) (gc := [wMa cI z ik F]) (gr := [wTo cI (z 2) (zT z) T, wTo cI (z 3) (zR z) R, wTo cI (z 4) (zK z) K, wTp cI (z 5) (z 6) f n tk bg en nm, wSh cI (z 7) (zS z) s1 s2 s3]) (gc1 := [wMa cI z ik (upd F 2 (F 2 + 1))]) (gs' := [wMa cI z ik (upd F 2 (F 2 + 1)), wTo cI (z 2) (zT z) T, wTo cI (z 3) (zR z) R, wTo cI (z 4) (zK z) K, wTp cI (z 5) (z 6) f n tk bg en nm, wSh cI (z 7) (zS z) s1 s2 s3]) (fl1 _) rfl rfl ⟨by decide, by decide⟩ rfl rfl ⟨by decide, by decide⟩ rfl rfl (Nat.le_of_ble_eq_true rfl) dX4_as_69 ?_
    have hm : m_as (T, K, ik, F, f, n, s1, s2, s3) s k = ((fno 2), (T, K, ik, (upd F 2 (F 2 + 1)), f, n, s1, s2, s3)) := by rw [hj]; rfl
    exact aw_iret C hr hlk dX4_as_72 ⟨ri (by rw [hm]), R, tk, bg, en, nm, by rw [hm]; rfl⟩
  refine aw_iload_n C dX4_as_0 rfl ?_
  refine aw_bipush C (10 : Int32) dX4_as_1 (by decide) ?_
  refine aw_callSp C (As := [.int s, .int (10 : Int32)]) (c_X4_isIn l D cI cC adK adV s (10 : Int32)) k1_143 cs_X4_isIn [] (by decide) rfl ⟨by decide, by decide⟩ rfl rfl ⟨by decide, by decide⟩ rfl rfl (Nat.le_of_ble_eq_true rfl) dX4_as_3 ?_
  refine aw_ifeq_b C 18 dX4_as_6 (by decide) (fun c_6 => ?_) (fun c_6 => ?_)
  · skip
    refine aw_sub (lv' := [(0, .ref (z 0))]) [0] rfl ?_
    exact J18 (by simp only [m_as, c_6, decide_true, decide_false, Bool.not_true, Bool.not_false, Bool.true_and, Bool.false_and, Bool.and_true, Bool.and_false, Bool.true_or, Bool.false_or, Bool.or_true, Bool.or_false, cond_true, cond_false, eq_self, if_true, if_false, ite_true, ite_false] <;> rfl)
  · skip
    refine aw_iload_n C dX4_as_9 rfl ?_
    refine aw_bipush C (7 : Int32) dX4_as_10 (by decide) ?_
    refine aw_callSp C (As := [.int k, .int (7 : Int32)]) (c_X4_isIn l D cI cC adK adV k (7 : Int32)) k1_143 cs_X4_isIn [] (by decide) rfl ⟨by decide, by decide⟩ rfl rfl ⟨by decide, by decide⟩ rfl rfl (Nat.le_of_ble_eq_true rfl) dX4_as_12 ?_
    refine aw_pc 15 rfl ?_
    refine aw_ifne_b C 24 dX4_as_15 (by decide) (fun c_15 => ?_) (fun c_15 => ?_)
    · skip
      have hs : ix s < 10 := (in0_ix (n := 10) (by decide) c_6).2
      have e1 : s = nI (ix s) := (in0_ix (n := 10) (by decide) c_6).1
      refine aw_eq (lv' := [(0, .ref (z 0)), (1, .int (nI (ix s))), (2, .int k)]) (ws' := fl [wMa cI z ik F, wTo cI (z 2) (zT z) T, wTo cI (z 3) (zR z) R, wTo cI (z 4) (zK z) K, wTp cI (z 5) (z 6) f n tk bg en nm, wSh cI (z 7) (zS z) s1 s2 s3]) (by rw [← e1]) rfl rfl ?_
      refine aw_aload_n C dX4_as_24 rfl ?_
      refine aw_getf C 0 3 0 7 inX4 rfl (by decide) rfl k1_117 rfl rfl dX4_as_25 ?_
      refine aw_getf C 2 2 4 12 inX3 rfl (by decide) rfl k1_42 rfl rfl dX4_as_28 ?_
      refine aw_iload_n C dX4_as_31 rfl ?_
      refine aw_ialdN C 3 0 (ix s) rfl rfl rfl (by omega) (by decide) dX4_as_32 ?_
      refine aw_istore_n C true (lv' := [(0, .ref (z 0)), (1, .int (nI (ix s))), (2, .int k), (3, .int (T.2.2.2 (ix s)))]) dX4_as_33 (by decide) rfl rfl ?_
      refine aw_aload_n C dX4_as_34 rfl ?_
      refine aw_getf C 0 3 0 7 inX4 rfl (by decide) rfl k1_117 rfl rfl dX4_as_35 ?_
      refine aw_iload_n C dX4_as_38 rfl ?_
      refine aw_pc 39 rfl ?_
      refine aw_gVp C (As := [.int (T.2.2.2 (ix s))]) (c_X3_isThere l D cI cC adK adV (z 2) (zT z) T (T.2.2.2 (ix s))) k1_172 cv_X3_isThere 2 rfl rfl rfl [1, 0, 2, 3, 4, 5] (fl1 _) rfl 6 rfl (by decide) ⟨by decide, by decide⟩ rfl rfl ⟨by decide, by decide⟩ rfl rfl (Nat.le_of_ble_eq_true rfl) dX4_as_39 ?_
      refine aw_ifne_b C 51 dX4_as_42 (by decide) (fun c_42 => ?_) (fun c_42 => ?_)
      · skip
        have e2 : (T.2.2.2 (ix s)) = nI (ix (T.2.2.2 (ix s))) := there_ix c_42
        refine aw_eq (lv' := [(0, .ref (z 0)), (1, .int (nI (ix s))), (2, .int k), (3, .int (nI (ix (T.2.2.2 (ix s)))))]) (ws' := fl [wMa cI z ik F, wTo cI (z 2) (zT z) T, wTo cI (z 3) (zR z) R, wTo cI (z 4) (zK z) K, wTp cI (z 5) (z 6) f n tk bg en nm, wSh cI (z 7) (zS z) s1 s2 s3]) (by rw [← e2]) rfl rfl ?_
        refine aw_aload_n C dX4_as_51 rfl ?_
        refine aw_getf C 0 3 0 7 inX4 rfl (by decide) rfl k1_117 rfl rfl dX4_as_52 ?_
        refine aw_iload_n C dX4_as_55 rfl ?_
        refine aw_iconst C (0 : Int32) dX4_as_56 (by decide) ?_
        refine aw_gVp C (As := [.int (nI (ix (T.2.2.2 (ix s)))), .int (0 : Int32)]) (c_X3_trait l D cI cC adK adV (z 2) (zT z) T (ix (T.2.2.2 (ix s))) (0 : Int32) hn (there_lt hn c_42)) k1_173 cv_X3_trait 2 rfl rfl rfl [1, 0, 2, 3, 4, 5] (fl1 _) rfl 6 rfl (by decide) ⟨by decide, by decide⟩ rfl rfl ⟨by decide, by decide⟩ rfl rfl (Nat.le_of_ble_eq_true rfl) dX4_as_57 ?_
        refine aw_iload_n C dX4_as_60 rfl ?_
        refine aw_callSp C (As := [.int (mTrait T (ix (T.2.2.2 (ix s))) (0 : Int32)), .int k]) (c_X0_isUnder l D cI cC adK adV (mTrait T (ix (T.2.2.2 (ix s))) (0 : Int32)) k) k3_147 cs_X0_isUnder [] (by decide) rfl ⟨by decide, by decide⟩ rfl rfl ⟨by decide, by decide⟩ rfl rfl (Nat.le_of_ble_eq_true rfl) dX4_as_61 ?_
        refine aw_ifne_b C 73 dX4_as_64 (by decide) (fun c_64 => ?_) (fun c_64 => ?_)
        · skip
          refine aw_pc 73 rfl ?_
          refine aw_iload_n C dX4_as_73 rfl ?_
          have hm : m_as (T, K, ik, F, f, n, s1, s2, s3) s k = ((nI (ix (T.2.2.2 (ix s)))), (T, K, ik, F, f, n, s1, s2, s3)) := by simp only [m_as, c_6, c_15, c_42, c_64, decide_true, decide_false, Bool.not_true, Bool.not_false, Bool.true_and, Bool.false_and, Bool.and_true, Bool.and_false, Bool.true_or, Bool.false_or, Bool.or_true, Bool.or_false, cond_true, cond_false, eq_self, if_true, if_false, ite_true, ite_false] <;> first | rfl | (rw [← there_ix c_42])
          exact aw_iret C hr hlk dX4_as_74 ⟨ri (by rw [hm]), R, tk, bg, en, nm, by rw [hm]; rfl⟩
        · skip
          refine aw_sub (lv' := [(0, .ref (z 0))]) [0] rfl ?_
          exact J67 (by simp only [m_as, c_6, c_15, c_42, c_64, decide_true, decide_false, Bool.not_true, Bool.not_false, Bool.true_and, Bool.false_and, Bool.and_true, Bool.and_false, Bool.true_or, Bool.false_or, Bool.or_true, Bool.or_false, cond_true, cond_false, eq_self, if_true, if_false, ite_true, ite_false] <;> rfl)
      · skip
        refine aw_sub (lv' := [(0, .ref (z 0))]) [0] rfl ?_
        exact J45 (by simp only [m_as, c_6, c_15, c_42, decide_true, decide_false, Bool.not_true, Bool.not_false, Bool.true_and, Bool.false_and, Bool.and_true, Bool.and_false, Bool.true_or, Bool.false_or, Bool.or_true, Bool.or_false, cond_true, cond_false, eq_self, if_true, if_false, ite_true, ite_false] <;> rfl)
    · skip
      refine aw_sub (lv' := [(0, .ref (z 0))]) [0] rfl ?_
      exact J18 (by simp only [m_as, c_6, c_15, decide_true, decide_false, Bool.not_true, Bool.not_false, Bool.true_and, Bool.false_and, Bool.and_true, Bool.and_false, Bool.true_or, Bool.false_or, Bool.or_true, Bool.or_false, cond_true, cond_false, eq_self, if_true, if_false, ite_true, ite_false] <;> rfl)
abbrev r_X4_sheet : Room := { frames := 3, cells := 0, slots := 0, locals := 69 }
theorem cv_X4_sheet : cV yX4_sheet cX4_sheet 4 (some .int) 3 := ⟨k3_154, k3_155, k3_156, k1_1, by decide, by decide, by decide +kernel⟩
set_option maxHeartbeats 4000000 in
set_option maxRecDepth 100000 in
theorem c_X4_sheet (l : Launch) (D : va_G) (cI cC : ClassId) (adK adV : Nat → Nat) (z : Nat → Nat) (T R K : Tw) (ik : Bool) (F f : Nat → Int32) (n : Nat) (tk : Int32) (bg en : Nat) (nm : Int32) (s1 s2 s3 : Nat → Int32) (s : Int32) (b : Int32) (v : Int32) : FC l yX4_sheet (wW yX4_sheet cX4_sheet 4 (some .int)) r_X4_sheet D (tyC cI cC) adK adV (wBa cI z T R K ik F f n tk bg en nm s1 s2 s3) [.ref (z 0), .int s, .int b, .int v] 0 0 (pBa cI z (m_sheet (T, K, ik, F, f, n, s1, s2, s3) s b v)) := by
  refine FC.of (own := RX4) (by decide) rfl (Nat.le_of_ble_eq_true rfl) ?_
  intro p9 e9 s9 m9 args9 below9 meth9 c9 A9 C hr hlk hmn
  show AW p9 l e9 r_X4_sheet s9 m9 args9 below9 meth9 c9 D A9 4 0 0 _ 0 [(0, .ref (z 0)), (1, .int s), (2, .int b), (3, .int v)] [] _
  refine aw_eq (lv' := [(0, .ref (z 0)), (1, .int s), (2, .int b), (3, .int v)]) (ws' := fl [wMa cI z ik F, wTo cI (z 2) (zT z) T, wTo cI (z 3) (zR z) R, wTo cI (z 4) (zK z) K, wTp cI (z 5) (z 6) f n tk bg en nm, wSh cI (z 7) (zS z) s1 s2 s3]) rfl rfl rfl ?_
  have J30 : m_sheet (T, K, ik, F, f, n, s1, s2, s3) s b v = gno (T, K, ik, F, f, n, s1, s2, s3) 0 → AW p9 l e9 r_X4_sheet s9 m9 args9 below9 meth9 c9 D A9 4 0 0 (aQ below9 args9 s9 D A9 0 0 (pBa cI z (m_sheet (T, K, ik, F, f, n, s1, s2, s3) s b v))) 30 [(0, .ref (z 0))] [] (fl [wMa cI z ik F, wTo cI (z 2) (zT z) T, wTo cI (z 3) (zR z) R, wTo cI (z 4) (zK z) K, wTp cI (z 5) (z 6) f n tk bg en nm, wSh cI (z 7) (zS z) s1 s2 s3]) := by
    intro hj
    refine aw_aload_n C dX4_sheet_30 rfl ?_
    refine aw_iconst C (0 : Int32) dX4_sheet_31 (by decide) ?_
    refine aw_gVd C (As := [.int (0 : Int32)]) (c_X4_finding l D cI cC adK adV z ik F 0 (by decide)) k1_146 cv_X4_finding 3 rfl rfl rfl [0, 1, 2, 3, 4, 5] (fl1 _) rfl 6 rfl (by decide) (gc := [wMa cI z ik F]) (gr := [wTo cI (z 2) (zT z) T, wTo cI (z 3) (zR z) R, wTo cI (z 4) (zK z) K, wTp cI (z 5) (z 6) f n tk bg en nm, wSh cI (z 7) (zS z) s1 s2 s3]) (gc1 := [wMa cI z ik (upd F 0 (F 0 + 1))]) (gs' := [wMa cI z ik (upd F 0 (F 0 + 1)), wTo cI (z 2) (zT z) T, wTo cI (z 3) (zR z) R, wTo cI (z 4) (zK z) K, wTp cI (z 5) (z 6) f n tk bg en nm, wSh cI (z 7) (zS z) s1 s2 s3]) (fl1 _) rfl rfl ⟨by decide, by decide⟩ rfl rfl ⟨by decide, by decide⟩ rfl rfl (Nat.le_of_ble_eq_true rfl) dX4_sheet_32 ?_
    have hm : m_sheet (T, K, ik, F, f, n, s1, s2, s3) s b v = ((fno 0), (T, K, ik, (upd F 0 (F 0 + 1)), f, n, s1, s2, s3)) := by rw [hj]; rfl
    exact aw_iret C hr hlk dX4_sheet_35 ⟨ri (by rw [hm]), R, tk, bg, en, nm, by rw [hm]; rfl⟩
  have J40 : m_sheet (T, K, ik, F, f, n, s1, s2, s3) s b v = gno (T, K, ik, F, f, n, s1, s2, s3) 6 → AW p9 l e9 r_X4_sheet s9 m9 args9 below9 meth9 c9 D A9 4 0 0 (aQ below9 args9 s9 D A9 0 0 (pBa cI z (m_sheet (T, K, ik, F, f, n, s1, s2, s3) s b v))) 40 [(0, .ref (z 0))] [] (fl [wMa cI z ik F, wTo cI (z 2) (zT z) T, wTo cI (z 3) (zR z) R, wTo cI (z 4) (zK z) K, wTp cI (z 5) (z 6) f n tk bg en nm, wSh cI (z 7) (zS z) s1 s2 s3]) := by
    intro hj
    refine aw_aload_n C dX4_sheet_40 rfl ?_
    refine aw_bipush C (6 : Int32) dX4_sheet_41 (by decide) ?_
    refine aw_gVd C (As := [.int (6 : Int32)]) (c_X4_finding l D cI cC adK adV z ik F 6 (by decide)) k1_146 cv_X4_finding 3 rfl rfl rfl [0, 1, 2, 3, 4, 5] (fl1 _) rfl 6 rfl (by decide) (gc := [wMa cI z ik F]) (gr := [wTo cI (z 2) (zT z) T, wTo cI (z 3) (zR z) R, wTo cI (z 4) (zK z) K, wTp cI (z 5) (z 6) f n tk bg en nm, wSh cI (z 7) (zS z) s1 s2 s3]) (gc1 := [wMa cI z ik (upd F 6 (F 6 + 1))]) (gs' := [wMa cI z ik (upd F 6 (F 6 + 1)), wTo cI (z 2) (zT z) T, wTo cI (z 3) (zR z) R, wTo cI (z 4) (zK z) K, wTp cI (z 5) (z 6) f n tk bg en nm, wSh cI (z 7) (zS z) s1 s2 s3]) (fl1 _) rfl rfl ⟨by decide, by decide⟩ rfl rfl ⟨by decide, by decide⟩ rfl rfl (Nat.le_of_ble_eq_true rfl) dX4_sheet_43 ?_
    have hm : m_sheet (T, K, ik, F, f, n, s1, s2, s3) s b v = ((fno 6), (T, K, ik, (upd F 6 (F 6 + 1)), f, n, s1, s2, s3)) := by rw [hj]; rfl
    exact aw_iret C hr hlk dX4_sheet_46 ⟨ri (by rw [hm]), R, tk, bg, en, nm, by rw [hm]; rfl⟩
  have J53 : m_sheet (T, K, ik, F, f, n, s1, s2, s3) s b v = gno (T, K, ik, F, f, n, s1, s2, s3) 0 → AW p9 l e9 r_X4_sheet s9 m9 args9 below9 meth9 c9 D A9 4 0 0 (aQ below9 args9 s9 D A9 0 0 (pBa cI z (m_sheet (T, K, ik, F, f, n, s1, s2, s3) s b v))) 53 [(0, .ref (z 0))] [] (fl [wMa cI z ik F, wTo cI (z 2) (zT z) T, wTo cI (z 3) (zR z) R, wTo cI (z 4) (zK z) K, wTp cI (z 5) (z 6) f n tk bg en nm, wSh cI (z 7) (zS z) s1 s2 s3]) := by
    intro hj
    refine aw_aload_n C dX4_sheet_53 rfl ?_
    refine aw_pc 54 rfl ?_
    refine aw_iconst C (0 : Int32) dX4_sheet_54 (by decide) ?_
    refine aw_gVd C (As := [.int (0 : Int32)]) (c_X4_finding l D cI cC adK adV z ik F 0 (by decide)) k1_146 cv_X4_finding 3 rfl rfl rfl [0, 1, 2, 3, 4, 5] (fl1 _) rfl 6 rfl (by decide) (gc := [wMa cI z ik F]) (gr := [wTo cI (z 2) (zT z) T, wTo cI (z 3) (zR z) R, wTo cI (z 4) (zK z) K, wTp cI (z 5) (z 6) f n tk bg en nm, wSh cI (z 7) (zS z) s1 s2 s3]) (gc1 := [wMa cI z ik (upd F 0 (F 0 + 1))]) (gs' := [wMa cI z ik (upd F 0 (F 0 + 1)), wTo cI (z 2) (zT z) T, wTo cI (z 3) (zR z) R, wTo cI (z 4) (zK z) K, wTp cI (z 5) (z 6) f n tk bg en nm, wSh cI (z 7) (zS z) s1 s2 s3]) (fl1 _) rfl rfl ⟨by decide, by decide⟩ rfl rfl ⟨by decide, by decide⟩ rfl rfl (Nat.le_of_ble_eq_true rfl) dX4_sheet_55 ?_
    have hm : m_sheet (T, K, ik, F, f, n, s1, s2, s3) s b v = ((fno 0), (T, K, ik, (upd F 0 (F 0 + 1)), f, n, s1, s2, s3)) := by rw [hj]; rfl
    exact aw_iret C hr hlk dX4_sheet_58 ⟨ri (by rw [hm]), R, tk, bg, en, nm, by rw [hm]; rfl⟩
  refine aw_iload_n C dX4_sheet_0 rfl ?_
  refine aw_iconst C (4 : Int32) dX4_sheet_1 (by decide) ?_
  refine aw_callSp C (As := [.int s, .int (4 : Int32)]) (c_X4_isIn l D cI cC adK adV s (4 : Int32)) k1_143 cs_X4_isIn [] (by decide) rfl ⟨by decide, by decide⟩ rfl rfl ⟨by decide, by decide⟩ rfl rfl (Nat.le_of_ble_eq_true rfl) dX4_sheet_2 ?_
  refine aw_ifeq_b C 30 dX4_sheet_5 (by decide) (fun c_5 => ?_) (fun c_5 => ?_)
  · skip
    refine aw_sub (lv' := [(0, .ref (z 0))]) [0] rfl ?_
    exact J30 (by simp only [m_sheet, c_5, decide_true, decide_false, Bool.not_true, Bool.not_false, Bool.true_and, Bool.false_and, Bool.and_true, Bool.and_false, Bool.true_or, Bool.false_or, Bool.or_true, Bool.or_false, cond_true, cond_false, eq_self, if_true, if_false, ite_true, ite_false] <;> rfl)
  · skip
    refine aw_iload_n C dX4_sheet_8 rfl ?_
    refine aw_if_eq C 36 dX4_sheet_9 (by decide) (fun c_9 => ?_) (fun c_9 => ?_)
    · skip
      refine aw_iload_n C dX4_sheet_36 rfl ?_
      refine aw_pc 37 rfl ?_
      refine aw_if_ge C 47 dX4_sheet_37 (by decide) (fun c_37 => ?_) (fun c_37 => ?_)
      · skip
        refine aw_iload_n C dX4_sheet_47 rfl ?_
        refine aw_bipush C (40 : Int32) dX4_sheet_48 (by decide) ?_
        refine aw_icmp_le C 59 dX4_sheet_50 (by decide) (fun c_50 => ?_) (fun c_50 => ?_)
        · skip
          have hs : ix s < 4 := (in0_ix (n := 4) (by decide) c_5).2
          have e1 : s = nI (ix s) := (in0_ix (n := 4) (by decide) c_5).1
          refine aw_eq (lv' := [(0, .ref (z 0)), (1, .int (nI (ix s))), (2, .int b), (3, .int v)]) (ws' := fl [wMa cI z ik F, wTo cI (z 2) (zT z) T, wTo cI (z 3) (zR z) R, wTo cI (z 4) (zK z) K, wTp cI (z 5) (z 6) f n tk bg en nm, wSh cI (z 7) (zS z) s1 s2 s3]) (by rw [← e1]) rfl rfl ?_
          refine aw_aload_n C dX4_sheet_59 rfl ?_
          refine aw_getf C 0 3 5 7 inX4 rfl (by decide) rfl k1_122 rfl rfl dX4_sheet_60 ?_
          refine aw_iload_n C dX4_sheet_63 rfl ?_
          refine aw_iload_n C dX4_sheet_64 rfl ?_
          refine aw_iload_n C dX4_sheet_65 rfl ?_
          refine aw_if_ne C 73 dX4_sheet_66 (by decide) (fun c_66 => ?_) (fun c_66 => ?_)
          · skip
            refine aw_pc 73 rfl ?_
            refine aw_iload_n C dX4_sheet_73 rfl ?_
            refine aw_gVdv C (As := [.int (nI (ix s)), .int b, .int v]) (c_X1_lay l D cI cC adK adV (z 7) (zS z) s1 s2 s3 (ix s) b v (by omega)) k3_157 cv_X1_lay 0 rfl rfl rfl [5, 0, 1, 2, 3, 4] (fl1 _) rfl 6 rfl (by decide) (gc := [wSh cI (z 7) (zS z) s1 s2 s3]) (gr := [wMa cI z ik F, wTo cI (z 2) (zT z) T, wTo cI (z 3) (zR z) R, wTo cI (z 4) (zK z) K, wTp cI (z 5) (z 6) f n tk bg en nm]) (gc1 := [wSh cI (z 7) (zS z) (upd s1 (ix s) b) (upd s2 (ix s) v) (fillF s3 ((ix s) * 40) ((ix s) * 40 + 40) 0)]) (gs' := [wMa cI z ik F, wTo cI (z 2) (zT z) T, wTo cI (z 3) (zR z) R, wTo cI (z 4) (zK z) K, wTp cI (z 5) (z 6) f n tk bg en nm, wSh cI (z 7) (zS z) (upd s1 (ix s) b) (upd s2 (ix s) v) (fillF s3 ((ix s) * 40) ((ix s) * 40 + 40) 0)]) (fl1 _) rfl rfl ⟨by decide, by decide⟩ rfl rfl ⟨by decide, by decide⟩ rfl rfl (Nat.le_of_ble_eq_true rfl) dX4_sheet_74 ?_
            refine aw_aload_n C dX4_sheet_77 rfl ?_
            refine aw_getf C 0 3 5 7 inX4 rfl (by decide) rfl k1_122 rfl rfl dX4_sheet_78 ?_
            refine aw_iload_n C dX4_sheet_81 rfl ?_
            refine aw_gVp C (As := [.int (nI (ix s))]) (c_X1_length l D cI cC adK adV (z 7) (zS z) (upd s1 (ix s) b) (upd s2 (ix s) v) (fillF s3 ((ix s) * 40) ((ix s) * 40 + 40) 0) (ix s) (by omega)) k2_194 cv_X1_length 0 rfl rfl rfl [5, 0, 1, 2, 3, 4] (fl1 _) rfl 6 rfl (by decide) ⟨by decide, by decide⟩ rfl rfl ⟨by decide, by decide⟩ rfl rfl (Nat.le_of_ble_eq_true rfl) dX4_sheet_82 ?_
            have hm : m_sheet (T, K, ik, F, f, n, s1, s2, s3) s b v = (((upd s2 (ix s) v) (ix s)), (T, K, ik, F, f, n, (upd s1 (ix s) b), (upd s2 (ix s) v), (fillF s3 ((ix s) * 40) ((ix s) * 40 + 40) 0))) := by first | exact absurd c_9 c_66 | exact absurd c_66 c_9 | (simp only [m_sheet, c_5, c_9, c_37, c_50, c_66, decide_true, decide_false, Bool.not_true, Bool.not_false, Bool.true_and, Bool.false_and, Bool.and_true, Bool.and_false, Bool.true_or, Bool.false_or, Bool.or_true, Bool.or_false, cond_true, cond_false, eq_self, if_true, if_false, ite_true, ite_false] <;> rfl)
            exact aw_iret C hr hlk dX4_sheet_85 ⟨ri (by rw [hm]), R, tk, bg, en, nm, by rw [hm]; rfl⟩
          · skip
            refine aw_iconst C (0 : Int32) dX4_sheet_69 (by decide) ?_
            refine aw_goto C 74 dX4_sheet_70 (by decide) ?_
            refine aw_gVdv C (As := [.int (nI (ix s)), .int b, .int (0 : Int32)]) (c_X1_lay l D cI cC adK adV (z 7) (zS z) s1 s2 s3 (ix s) b (0 : Int32) (by omega)) k3_157 cv_X1_lay 0 rfl rfl rfl [5, 0, 1, 2, 3, 4] (fl1 _) rfl 6 rfl (by decide) (gc := [wSh cI (z 7) (zS z) s1 s2 s3]) (gr := [wMa cI z ik F, wTo cI (z 2) (zT z) T, wTo cI (z 3) (zR z) R, wTo cI (z 4) (zK z) K, wTp cI (z 5) (z 6) f n tk bg en nm]) (gc1 := [wSh cI (z 7) (zS z) (upd s1 (ix s) b) (upd s2 (ix s) (0 : Int32)) (fillF s3 ((ix s) * 40) ((ix s) * 40 + 40) 0)]) (gs' := [wMa cI z ik F, wTo cI (z 2) (zT z) T, wTo cI (z 3) (zR z) R, wTo cI (z 4) (zK z) K, wTp cI (z 5) (z 6) f n tk bg en nm, wSh cI (z 7) (zS z) (upd s1 (ix s) b) (upd s2 (ix s) (0 : Int32)) (fillF s3 ((ix s) * 40) ((ix s) * 40 + 40) 0)]) (fl1 _) rfl rfl ⟨by decide, by decide⟩ rfl rfl ⟨by decide, by decide⟩ rfl rfl (Nat.le_of_ble_eq_true rfl) dX4_sheet_74 ?_
            refine aw_pc 77 rfl ?_
            refine aw_aload_n C dX4_sheet_77 rfl ?_
            refine aw_getf C 0 3 5 7 inX4 rfl (by decide) rfl k1_122 rfl rfl dX4_sheet_78 ?_
            refine aw_iload_n C dX4_sheet_81 rfl ?_
            refine aw_gVp C (As := [.int (nI (ix s))]) (c_X1_length l D cI cC adK adV (z 7) (zS z) (upd s1 (ix s) b) (upd s2 (ix s) (0 : Int32)) (fillF s3 ((ix s) * 40) ((ix s) * 40 + 40) 0) (ix s) (by omega)) k2_194 cv_X1_length 0 rfl rfl rfl [5, 0, 1, 2, 3, 4] (fl1 _) rfl 6 rfl (by decide) ⟨by decide, by decide⟩ rfl rfl ⟨by decide, by decide⟩ rfl rfl (Nat.le_of_ble_eq_true rfl) dX4_sheet_82 ?_
            have hm : m_sheet (T, K, ik, F, f, n, s1, s2, s3) s b v = (((upd s2 (ix s) (0 : Int32)) (ix s)), (T, K, ik, F, f, n, (upd s1 (ix s) b), (upd s2 (ix s) (0 : Int32)), (fillF s3 ((ix s) * 40) ((ix s) * 40 + 40) 0))) := by first | exact absurd c_9 c_66 | exact absurd c_66 c_9 | (simp only [m_sheet, c_5, c_9, c_37, c_50, c_66, decide_true, decide_false, Bool.not_true, Bool.not_false, Bool.true_and, Bool.false_and, Bool.and_true, Bool.and_false, Bool.true_or, Bool.false_or, Bool.or_true, Bool.or_false, cond_true, cond_false, eq_self, if_true, if_false, ite_true, ite_false] <;> rfl)
            exact aw_iret C hr hlk dX4_sheet_85 ⟨ri (by rw [hm]), R, tk, bg, en, nm, by rw [hm]; rfl⟩
        · skip
          refine aw_sub (lv' := [(0, .ref (z 0))]) [0] rfl ?_
          exact J53 (by simp only [m_sheet, c_5, c_9, c_37, c_50, decide_true, decide_false, Bool.not_true, Bool.not_false, Bool.true_and, Bool.false_and, Bool.and_true, Bool.and_false, Bool.true_or, Bool.false_or, Bool.or_true, Bool.or_false, cond_true, cond_false, eq_self, if_true, if_false, ite_true, ite_false] <;> rfl)
      · skip
        refine aw_sub (lv' := [(0, .ref (z 0))]) [0] rfl ?_
        exact J40 (by simp only [m_sheet, c_5, c_9, c_37, decide_true, decide_false, Bool.not_true, Bool.not_false, Bool.true_and, Bool.false_and, Bool.and_true, Bool.and_false, Bool.true_or, Bool.false_or, Bool.or_true, Bool.or_false, cond_true, cond_false, eq_self, if_true, if_false, ite_true, ite_false] <;> rfl)
    · skip
      refine aw_iload_n C dX4_sheet_12 rfl ?_
      refine aw_bipush C (8 : Int32) dX4_sheet_13 (by decide) ?_
      refine aw_icmp_eq C 36 dX4_sheet_15 (by decide) (fun c_15 => ?_) (fun c_15 => ?_)
      · skip
        refine aw_iload_n C dX4_sheet_36 rfl ?_
        refine aw_if_ge C 47 dX4_sheet_37 (by decide) (fun c_37 => ?_) (fun c_37 => ?_)
        · skip
          refine aw_pc 47 rfl ?_
          refine aw_iload_n C dX4_sheet_47 rfl ?_
          refine aw_bipush C (40 : Int32) dX4_sheet_48 (by decide) ?_
          refine aw_icmp_le C 59 dX4_sheet_50 (by decide) (fun c_50 => ?_) (fun c_50 => ?_)
          · skip
            have hs : ix s < 4 := (in0_ix (n := 4) (by decide) c_5).2
            have e2 : s = nI (ix s) := (in0_ix (n := 4) (by decide) c_5).1
            refine aw_eq (lv' := [(0, .ref (z 0)), (1, .int (nI (ix s))), (2, .int b), (3, .int v)]) (ws' := fl [wMa cI z ik F, wTo cI (z 2) (zT z) T, wTo cI (z 3) (zR z) R, wTo cI (z 4) (zK z) K, wTp cI (z 5) (z 6) f n tk bg en nm, wSh cI (z 7) (zS z) s1 s2 s3]) (by rw [← e2]) rfl rfl ?_
            refine aw_aload_n C dX4_sheet_59 rfl ?_
            refine aw_getf C 0 3 5 7 inX4 rfl (by decide) rfl k1_122 rfl rfl dX4_sheet_60 ?_
            refine aw_iload_n C dX4_sheet_63 rfl ?_
            refine aw_iload_n C dX4_sheet_64 rfl ?_
            refine aw_iload_n C dX4_sheet_65 rfl ?_
            refine aw_if_ne C 73 dX4_sheet_66 (by decide) (fun c_66 => ?_) (fun c_66 => ?_)
            · skip
              refine aw_iload_n C dX4_sheet_73 rfl ?_
              refine aw_pc 74 rfl ?_
              refine aw_gVdv C (As := [.int (nI (ix s)), .int b, .int v]) (c_X1_lay l D cI cC adK adV (z 7) (zS z) s1 s2 s3 (ix s) b v (by omega)) k3_157 cv_X1_lay 0 rfl rfl rfl [5, 0, 1, 2, 3, 4] (fl1 _) rfl 6 rfl (by decide) (gc := [wSh cI (z 7) (zS z) s1 s2 s3]) (gr := [wMa cI z ik F, wTo cI (z 2) (zT z) T, wTo cI (z 3) (zR z) R, wTo cI (z 4) (zK z) K, wTp cI (z 5) (z 6) f n tk bg en nm]) (gc1 := [wSh cI (z 7) (zS z) (upd s1 (ix s) b) (upd s2 (ix s) v) (fillF s3 ((ix s) * 40) ((ix s) * 40 + 40) 0)]) (gs' := [wMa cI z ik F, wTo cI (z 2) (zT z) T, wTo cI (z 3) (zR z) R, wTo cI (z 4) (zK z) K, wTp cI (z 5) (z 6) f n tk bg en nm, wSh cI (z 7) (zS z) (upd s1 (ix s) b) (upd s2 (ix s) v) (fillF s3 ((ix s) * 40) ((ix s) * 40 + 40) 0)]) (fl1 _) rfl rfl ⟨by decide, by decide⟩ rfl rfl ⟨by decide, by decide⟩ rfl rfl (Nat.le_of_ble_eq_true rfl) dX4_sheet_74 ?_
              refine aw_aload_n C dX4_sheet_77 rfl ?_
              refine aw_getf C 0 3 5 7 inX4 rfl (by decide) rfl k1_122 rfl rfl dX4_sheet_78 ?_
              refine aw_iload_n C dX4_sheet_81 rfl ?_
              refine aw_gVp C (As := [.int (nI (ix s))]) (c_X1_length l D cI cC adK adV (z 7) (zS z) (upd s1 (ix s) b) (upd s2 (ix s) v) (fillF s3 ((ix s) * 40) ((ix s) * 40 + 40) 0) (ix s) (by omega)) k2_194 cv_X1_length 0 rfl rfl rfl [5, 0, 1, 2, 3, 4] (fl1 _) rfl 6 rfl (by decide) ⟨by decide, by decide⟩ rfl rfl ⟨by decide, by decide⟩ rfl rfl (Nat.le_of_ble_eq_true rfl) dX4_sheet_82 ?_
              have hm : m_sheet (T, K, ik, F, f, n, s1, s2, s3) s b v = (((upd s2 (ix s) v) (ix s)), (T, K, ik, F, f, n, (upd s1 (ix s) b), (upd s2 (ix s) v), (fillF s3 ((ix s) * 40) ((ix s) * 40 + 40) 0))) := by first | exact absurd c_9 c_66 | exact absurd c_66 c_9 | (simp only [m_sheet, c_5, c_9, c_15, c_37, c_50, c_66, decide_true, decide_false, Bool.not_true, Bool.not_false, Bool.true_and, Bool.false_and, Bool.and_true, Bool.and_false, Bool.true_or, Bool.false_or, Bool.or_true, Bool.or_false, cond_true, cond_false, eq_self, if_true, if_false, ite_true, ite_false] <;> rfl)
              exact aw_iret C hr hlk dX4_sheet_85 ⟨ri (by rw [hm]), R, tk, bg, en, nm, by rw [hm]; rfl⟩
            · skip
              refine aw_iconst C (0 : Int32) dX4_sheet_69 (by decide) ?_
              refine aw_goto C 74 dX4_sheet_70 (by decide) ?_
              refine aw_gVdv C (As := [.int (nI (ix s)), .int b, .int (0 : Int32)]) (c_X1_lay l D cI cC adK adV (z 7) (zS z) s1 s2 s3 (ix s) b (0 : Int32) (by omega)) k3_157 cv_X1_lay 0 rfl rfl rfl [5, 0, 1, 2, 3, 4] (fl1 _) rfl 6 rfl (by decide) (gc := [wSh cI (z 7) (zS z) s1 s2 s3]) (gr := [wMa cI z ik F, wTo cI (z 2) (zT z) T, wTo cI (z 3) (zR z) R, wTo cI (z 4) (zK z) K, wTp cI (z 5) (z 6) f n tk bg en nm]) (gc1 := [wSh cI (z 7) (zS z) (upd s1 (ix s) b) (upd s2 (ix s) (0 : Int32)) (fillF s3 ((ix s) * 40) ((ix s) * 40 + 40) 0)]) (gs' := [wMa cI z ik F, wTo cI (z 2) (zT z) T, wTo cI (z 3) (zR z) R, wTo cI (z 4) (zK z) K, wTp cI (z 5) (z 6) f n tk bg en nm, wSh cI (z 7) (zS z) (upd s1 (ix s) b) (upd s2 (ix s) (0 : Int32)) (fillF s3 ((ix s) * 40) ((ix s) * 40 + 40) 0)]) (fl1 _) rfl rfl ⟨by decide, by decide⟩ rfl rfl ⟨by decide, by decide⟩ rfl rfl (Nat.le_of_ble_eq_true rfl) dX4_sheet_74 ?_
              refine aw_aload_n C dX4_sheet_77 rfl ?_
              refine aw_pc 78 rfl ?_
              refine aw_getf C 0 3 5 7 inX4 rfl (by decide) rfl k1_122 rfl rfl dX4_sheet_78 ?_
              refine aw_iload_n C dX4_sheet_81 rfl ?_
              refine aw_gVp C (As := [.int (nI (ix s))]) (c_X1_length l D cI cC adK adV (z 7) (zS z) (upd s1 (ix s) b) (upd s2 (ix s) (0 : Int32)) (fillF s3 ((ix s) * 40) ((ix s) * 40 + 40) 0) (ix s) (by omega)) k2_194 cv_X1_length 0 rfl rfl rfl [5, 0, 1, 2, 3, 4] (fl1 _) rfl 6 rfl (by decide) ⟨by decide, by decide⟩ rfl rfl ⟨by decide, by decide⟩ rfl rfl (Nat.le_of_ble_eq_true rfl) dX4_sheet_82 ?_
              have hm : m_sheet (T, K, ik, F, f, n, s1, s2, s3) s b v = (((upd s2 (ix s) (0 : Int32)) (ix s)), (T, K, ik, F, f, n, (upd s1 (ix s) b), (upd s2 (ix s) (0 : Int32)), (fillF s3 ((ix s) * 40) ((ix s) * 40 + 40) 0))) := by first | exact absurd c_9 c_66 | exact absurd c_66 c_9 | (simp only [m_sheet, c_5, c_9, c_15, c_37, c_50, c_66, decide_true, decide_false, Bool.not_true, Bool.not_false, Bool.true_and, Bool.false_and, Bool.and_true, Bool.and_false, Bool.true_or, Bool.false_or, Bool.or_true, Bool.or_false, cond_true, cond_false, eq_self, if_true, if_false, ite_true, ite_false] <;> rfl)
              exact aw_iret C hr hlk dX4_sheet_85 ⟨ri (by rw [hm]), R, tk, bg, en, nm, by rw [hm]; rfl⟩
          · skip
            refine aw_sub (lv' := [(0, .ref (z 0))]) [0] rfl ?_
            exact J53 (by simp only [m_sheet, c_5, c_9, c_15, c_37, c_50, decide_true, decide_false, Bool.not_true, Bool.not_false, Bool.true_and, Bool.false_and, Bool.and_true, Bool.and_false, Bool.true_or, Bool.false_or, Bool.or_true, Bool.or_false, cond_true, cond_false, eq_self, if_true, if_false, ite_true, ite_false] <;> rfl)
        · skip
          refine aw_sub (lv' := [(0, .ref (z 0))]) [0] rfl ?_
          exact J40 (by simp only [m_sheet, c_5, c_9, c_15, c_37, decide_true, decide_false, Bool.not_true, Bool.not_false, Bool.true_and, Bool.false_and, Bool.and_true, Bool.and_false, Bool.true_or, Bool.false_or, Bool.or_true, Bool.or_false, cond_true, cond_false, eq_self, if_true, if_false, ite_true, ite_false] <;> rfl)
      · skip
        refine aw_iload_n C dX4_sheet_18 rfl ?_
        refine aw_bipush C (16 : Int32) dX4_sheet_19 (by decide) ?_
        refine aw_icmp_eq C 36 dX4_sheet_21 (by decide) (fun c_21 => ?_) (fun c_21 => ?_)
        · skip
          refine aw_iload_n C dX4_sheet_36 rfl ?_
          refine aw_if_ge C 47 dX4_sheet_37 (by decide) (fun c_37 => ?_) (fun c_37 => ?_)
          · skip
            refine aw_iload_n C dX4_sheet_47 rfl ?_
            refine aw_pc 48 rfl ?_
            refine aw_bipush C (40 : Int32) dX4_sheet_48 (by decide) ?_
            refine aw_icmp_le C 59 dX4_sheet_50 (by decide) (fun c_50 => ?_) (fun c_50 => ?_)
            · skip
              have hs : ix s < 4 := (in0_ix (n := 4) (by decide) c_5).2
              have e3 : s = nI (ix s) := (in0_ix (n := 4) (by decide) c_5).1
              refine aw_eq (lv' := [(0, .ref (z 0)), (1, .int (nI (ix s))), (2, .int b), (3, .int v)]) (ws' := fl [wMa cI z ik F, wTo cI (z 2) (zT z) T, wTo cI (z 3) (zR z) R, wTo cI (z 4) (zK z) K, wTp cI (z 5) (z 6) f n tk bg en nm, wSh cI (z 7) (zS z) s1 s2 s3]) (by rw [← e3]) rfl rfl ?_
              refine aw_aload_n C dX4_sheet_59 rfl ?_
              refine aw_getf C 0 3 5 7 inX4 rfl (by decide) rfl k1_122 rfl rfl dX4_sheet_60 ?_
              refine aw_iload_n C dX4_sheet_63 rfl ?_
              refine aw_iload_n C dX4_sheet_64 rfl ?_
              refine aw_iload_n C dX4_sheet_65 rfl ?_
              refine aw_if_ne C 73 dX4_sheet_66 (by decide) (fun c_66 => ?_) (fun c_66 => ?_)
              · skip
                refine aw_iload_n C dX4_sheet_73 rfl ?_
                refine aw_gVdv C (As := [.int (nI (ix s)), .int b, .int v]) (c_X1_lay l D cI cC adK adV (z 7) (zS z) s1 s2 s3 (ix s) b v (by omega)) k3_157 cv_X1_lay 0 rfl rfl rfl [5, 0, 1, 2, 3, 4] (fl1 _) rfl 6 rfl (by decide) (gc := [wSh cI (z 7) (zS z) s1 s2 s3]) (gr := [wMa cI z ik F, wTo cI (z 2) (zT z) T, wTo cI (z 3) (zR z) R, wTo cI (z 4) (zK z) K, wTp cI (z 5) (z 6) f n tk bg en nm]) (gc1 := [wSh cI (z 7) (zS z) (upd s1 (ix s) b) (upd s2 (ix s) v) (fillF s3 ((ix s) * 40) ((ix s) * 40 + 40) 0)]) (gs' := [wMa cI z ik F, wTo cI (z 2) (zT z) T, wTo cI (z 3) (zR z) R, wTo cI (z 4) (zK z) K, wTp cI (z 5) (z 6) f n tk bg en nm, wSh cI (z 7) (zS z) (upd s1 (ix s) b) (upd s2 (ix s) v) (fillF s3 ((ix s) * 40) ((ix s) * 40 + 40) 0)]) (fl1 _) rfl rfl ⟨by decide, by decide⟩ rfl rfl ⟨by decide, by decide⟩ rfl rfl (Nat.le_of_ble_eq_true rfl) dX4_sheet_74 ?_
                refine aw_pc 77 rfl ?_
                refine aw_aload_n C dX4_sheet_77 rfl ?_
                refine aw_getf C 0 3 5 7 inX4 rfl (by decide) rfl k1_122 rfl rfl dX4_sheet_78 ?_
                refine aw_iload_n C dX4_sheet_81 rfl ?_
                refine aw_gVp C (As := [.int (nI (ix s))]) (c_X1_length l D cI cC adK adV (z 7) (zS z) (upd s1 (ix s) b) (upd s2 (ix s) v) (fillF s3 ((ix s) * 40) ((ix s) * 40 + 40) 0) (ix s) (by omega)) k2_194 cv_X1_length 0 rfl rfl rfl [5, 0, 1, 2, 3, 4] (fl1 _) rfl 6 rfl (by decide) ⟨by decide, by decide⟩ rfl rfl ⟨by decide, by decide⟩ rfl rfl (Nat.le_of_ble_eq_true rfl) dX4_sheet_82 ?_
                have hm : m_sheet (T, K, ik, F, f, n, s1, s2, s3) s b v = (((upd s2 (ix s) v) (ix s)), (T, K, ik, F, f, n, (upd s1 (ix s) b), (upd s2 (ix s) v), (fillF s3 ((ix s) * 40) ((ix s) * 40 + 40) 0))) := by first | exact absurd c_9 c_66 | exact absurd c_66 c_9 | (simp only [m_sheet, c_5, c_9, c_15, c_21, c_37, c_50, c_66, decide_true, decide_false, Bool.not_true, Bool.not_false, Bool.true_and, Bool.false_and, Bool.and_true, Bool.and_false, Bool.true_or, Bool.false_or, Bool.or_true, Bool.or_false, cond_true, cond_false, eq_self, if_true, if_false, ite_true, ite_false] <;> rfl)
                exact aw_iret C hr hlk dX4_sheet_85 ⟨ri (by rw [hm]), R, tk, bg, en, nm, by rw [hm]; rfl⟩
              · skip
                refine aw_iconst C (0 : Int32) dX4_sheet_69 (by decide) ?_
                refine aw_goto C 74 dX4_sheet_70 (by decide) ?_
                refine aw_gVdv C (As := [.int (nI (ix s)), .int b, .int (0 : Int32)]) (c_X1_lay l D cI cC adK adV (z 7) (zS z) s1 s2 s3 (ix s) b (0 : Int32) (by omega)) k3_157 cv_X1_lay 0 rfl rfl rfl [5, 0, 1, 2, 3, 4] (fl1 _) rfl 6 rfl (by decide) (gc := [wSh cI (z 7) (zS z) s1 s2 s3]) (gr := [wMa cI z ik F, wTo cI (z 2) (zT z) T, wTo cI (z 3) (zR z) R, wTo cI (z 4) (zK z) K, wTp cI (z 5) (z 6) f n tk bg en nm]) (gc1 := [wSh cI (z 7) (zS z) (upd s1 (ix s) b) (upd s2 (ix s) (0 : Int32)) (fillF s3 ((ix s) * 40) ((ix s) * 40 + 40) 0)]) (gs' := [wMa cI z ik F, wTo cI (z 2) (zT z) T, wTo cI (z 3) (zR z) R, wTo cI (z 4) (zK z) K, wTp cI (z 5) (z 6) f n tk bg en nm, wSh cI (z 7) (zS z) (upd s1 (ix s) b) (upd s2 (ix s) (0 : Int32)) (fillF s3 ((ix s) * 40) ((ix s) * 40 + 40) 0)]) (fl1 _) rfl rfl ⟨by decide, by decide⟩ rfl rfl ⟨by decide, by decide⟩ rfl rfl (Nat.le_of_ble_eq_true rfl) dX4_sheet_74 ?_
                refine aw_aload_n C dX4_sheet_77 rfl ?_
                refine aw_getf C 0 3 5 7 inX4 rfl (by decide) rfl k1_122 rfl rfl dX4_sheet_78 ?_
                refine aw_pc 81 rfl ?_
                refine aw_iload_n C dX4_sheet_81 rfl ?_
                refine aw_gVp C (As := [.int (nI (ix s))]) (c_X1_length l D cI cC adK adV (z 7) (zS z) (upd s1 (ix s) b) (upd s2 (ix s) (0 : Int32)) (fillF s3 ((ix s) * 40) ((ix s) * 40 + 40) 0) (ix s) (by omega)) k2_194 cv_X1_length 0 rfl rfl rfl [5, 0, 1, 2, 3, 4] (fl1 _) rfl 6 rfl (by decide) ⟨by decide, by decide⟩ rfl rfl ⟨by decide, by decide⟩ rfl rfl (Nat.le_of_ble_eq_true rfl) dX4_sheet_82 ?_
                have hm : m_sheet (T, K, ik, F, f, n, s1, s2, s3) s b v = (((upd s2 (ix s) (0 : Int32)) (ix s)), (T, K, ik, F, f, n, (upd s1 (ix s) b), (upd s2 (ix s) (0 : Int32)), (fillF s3 ((ix s) * 40) ((ix s) * 40 + 40) 0))) := by first | exact absurd c_9 c_66 | exact absurd c_66 c_9 | (simp only [m_sheet, c_5, c_9, c_15, c_21, c_37, c_50, c_66, decide_true, decide_false, Bool.not_true, Bool.not_false, Bool.true_and, Bool.false_and, Bool.and_true, Bool.and_false, Bool.true_or, Bool.false_or, Bool.or_true, Bool.or_false, cond_true, cond_false, eq_self, if_true, if_false, ite_true, ite_false] <;> rfl)
                exact aw_iret C hr hlk dX4_sheet_85 ⟨ri (by rw [hm]), R, tk, bg, en, nm, by rw [hm]; rfl⟩
            · skip
              refine aw_sub (lv' := [(0, .ref (z 0))]) [0] rfl ?_
              exact J53 (by simp only [m_sheet, c_5, c_9, c_15, c_21, c_37, c_50, decide_true, decide_false, Bool.not_true, Bool.not_false, Bool.true_and, Bool.false_and, Bool.and_true, Bool.and_false, Bool.true_or, Bool.false_or, Bool.or_true, Bool.or_false, cond_true, cond_false, eq_self, if_true, if_false, ite_true, ite_false] <;> rfl)
          · skip
            refine aw_sub (lv' := [(0, .ref (z 0))]) [0] rfl ?_
            exact J40 (by simp only [m_sheet, c_5, c_9, c_15, c_21, c_37, decide_true, decide_false, Bool.not_true, Bool.not_false, Bool.true_and, Bool.false_and, Bool.and_true, Bool.and_false, Bool.true_or, Bool.false_or, Bool.or_true, Bool.or_false, cond_true, cond_false, eq_self, if_true, if_false, ite_true, ite_false] <;> rfl)
        · skip
          refine aw_iload_n C dX4_sheet_24 rfl ?_
          refine aw_bipush C (32 : Int32) dX4_sheet_25 (by decide) ?_
          refine aw_icmp_eq C 36 dX4_sheet_27 (by decide) (fun c_27 => ?_) (fun c_27 => ?_)
          · skip
            refine aw_iload_n C dX4_sheet_36 rfl ?_
            refine aw_if_ge C 47 dX4_sheet_37 (by decide) (fun c_37 => ?_) (fun c_37 => ?_)
            · skip
              refine aw_iload_n C dX4_sheet_47 rfl ?_
              refine aw_bipush C (40 : Int32) dX4_sheet_48 (by decide) ?_
              refine aw_pc 50 rfl ?_
              refine aw_icmp_le C 59 dX4_sheet_50 (by decide) (fun c_50 => ?_) (fun c_50 => ?_)
              · skip
                have hs : ix s < 4 := (in0_ix (n := 4) (by decide) c_5).2
                have e4 : s = nI (ix s) := (in0_ix (n := 4) (by decide) c_5).1
                refine aw_eq (lv' := [(0, .ref (z 0)), (1, .int (nI (ix s))), (2, .int b), (3, .int v)]) (ws' := fl [wMa cI z ik F, wTo cI (z 2) (zT z) T, wTo cI (z 3) (zR z) R, wTo cI (z 4) (zK z) K, wTp cI (z 5) (z 6) f n tk bg en nm, wSh cI (z 7) (zS z) s1 s2 s3]) (by rw [← e4]) rfl rfl ?_
                refine aw_aload_n C dX4_sheet_59 rfl ?_
                refine aw_getf C 0 3 5 7 inX4 rfl (by decide) rfl k1_122 rfl rfl dX4_sheet_60 ?_
                refine aw_iload_n C dX4_sheet_63 rfl ?_
                refine aw_iload_n C dX4_sheet_64 rfl ?_
                refine aw_iload_n C dX4_sheet_65 rfl ?_
                refine aw_if_ne C 73 dX4_sheet_66 (by decide) (fun c_66 => ?_) (fun c_66 => ?_)
                · skip
                  refine aw_iload_n C dX4_sheet_73 rfl ?_
                  refine aw_gVdv C (As := [.int (nI (ix s)), .int b, .int v]) (c_X1_lay l D cI cC adK adV (z 7) (zS z) s1 s2 s3 (ix s) b v (by omega)) k3_157 cv_X1_lay 0 rfl rfl rfl [5, 0, 1, 2, 3, 4] (fl1 _) rfl 6 rfl (by decide) (gc := [wSh cI (z 7) (zS z) s1 s2 s3]) (gr := [wMa cI z ik F, wTo cI (z 2) (zT z) T, wTo cI (z 3) (zR z) R, wTo cI (z 4) (zK z) K, wTp cI (z 5) (z 6) f n tk bg en nm]) (gc1 := [wSh cI (z 7) (zS z) (upd s1 (ix s) b) (upd s2 (ix s) v) (fillF s3 ((ix s) * 40) ((ix s) * 40 + 40) 0)]) (gs' := [wMa cI z ik F, wTo cI (z 2) (zT z) T, wTo cI (z 3) (zR z) R, wTo cI (z 4) (zK z) K, wTp cI (z 5) (z 6) f n tk bg en nm, wSh cI (z 7) (zS z) (upd s1 (ix s) b) (upd s2 (ix s) v) (fillF s3 ((ix s) * 40) ((ix s) * 40 + 40) 0)]) (fl1 _) rfl rfl ⟨by decide, by decide⟩ rfl rfl ⟨by decide, by decide⟩ rfl rfl (Nat.le_of_ble_eq_true rfl) dX4_sheet_74 ?_
                  refine aw_aload_n C dX4_sheet_77 rfl ?_
                  refine aw_pc 78 rfl ?_
                  refine aw_getf C 0 3 5 7 inX4 rfl (by decide) rfl k1_122 rfl rfl dX4_sheet_78 ?_
                  refine aw_iload_n C dX4_sheet_81 rfl ?_
                  refine aw_gVp C (As := [.int (nI (ix s))]) (c_X1_length l D cI cC adK adV (z 7) (zS z) (upd s1 (ix s) b) (upd s2 (ix s) v) (fillF s3 ((ix s) * 40) ((ix s) * 40 + 40) 0) (ix s) (by omega)) k2_194 cv_X1_length 0 rfl rfl rfl [5, 0, 1, 2, 3, 4] (fl1 _) rfl 6 rfl (by decide) ⟨by decide, by decide⟩ rfl rfl ⟨by decide, by decide⟩ rfl rfl (Nat.le_of_ble_eq_true rfl) dX4_sheet_82 ?_
                  have hm : m_sheet (T, K, ik, F, f, n, s1, s2, s3) s b v = (((upd s2 (ix s) v) (ix s)), (T, K, ik, F, f, n, (upd s1 (ix s) b), (upd s2 (ix s) v), (fillF s3 ((ix s) * 40) ((ix s) * 40 + 40) 0))) := by first | exact absurd c_9 c_66 | exact absurd c_66 c_9 | (simp only [m_sheet, c_5, c_9, c_15, c_21, c_27, c_37, c_50, c_66, decide_true, decide_false, Bool.not_true, Bool.not_false, Bool.true_and, Bool.false_and, Bool.and_true, Bool.and_false, Bool.true_or, Bool.false_or, Bool.or_true, Bool.or_false, cond_true, cond_false, eq_self, if_true, if_false, ite_true, ite_false] <;> rfl)
                  exact aw_iret C hr hlk dX4_sheet_85 ⟨ri (by rw [hm]), R, tk, bg, en, nm, by rw [hm]; rfl⟩
                · skip
                  refine aw_iconst C (0 : Int32) dX4_sheet_69 (by decide) ?_
                  refine aw_goto C 74 dX4_sheet_70 (by decide) ?_
                  refine aw_gVdv C (As := [.int (nI (ix s)), .int b, .int (0 : Int32)]) (c_X1_lay l D cI cC adK adV (z 7) (zS z) s1 s2 s3 (ix s) b (0 : Int32) (by omega)) k3_157 cv_X1_lay 0 rfl rfl rfl [5, 0, 1, 2, 3, 4] (fl1 _) rfl 6 rfl (by decide) (gc := [wSh cI (z 7) (zS z) s1 s2 s3]) (gr := [wMa cI z ik F, wTo cI (z 2) (zT z) T, wTo cI (z 3) (zR z) R, wTo cI (z 4) (zK z) K, wTp cI (z 5) (z 6) f n tk bg en nm]) (gc1 := [wSh cI (z 7) (zS z) (upd s1 (ix s) b) (upd s2 (ix s) (0 : Int32)) (fillF s3 ((ix s) * 40) ((ix s) * 40 + 40) 0)]) (gs' := [wMa cI z ik F, wTo cI (z 2) (zT z) T, wTo cI (z 3) (zR z) R, wTo cI (z 4) (zK z) K, wTp cI (z 5) (z 6) f n tk bg en nm, wSh cI (z 7) (zS z) (upd s1 (ix s) b) (upd s2 (ix s) (0 : Int32)) (fillF s3 ((ix s) * 40) ((ix s) * 40 + 40) 0)]) (fl1 _) rfl rfl ⟨by decide, by decide⟩ rfl rfl ⟨by decide, by decide⟩ rfl rfl (Nat.le_of_ble_eq_true rfl) dX4_sheet_74 ?_
                  refine aw_aload_n C dX4_sheet_77 rfl ?_
                  refine aw_getf C 0 3 5 7 inX4 rfl (by decide) rfl k1_122 rfl rfl dX4_sheet_78 ?_
                  refine aw_iload_n C dX4_sheet_81 rfl ?_
                  refine aw_pc 82 rfl ?_
                  refine aw_gVp C (As := [.int (nI (ix s))]) (c_X1_length l D cI cC adK adV (z 7) (zS z) (upd s1 (ix s) b) (upd s2 (ix s) (0 : Int32)) (fillF s3 ((ix s) * 40) ((ix s) * 40 + 40) 0) (ix s) (by omega)) k2_194 cv_X1_length 0 rfl rfl rfl [5, 0, 1, 2, 3, 4] (fl1 _) rfl 6 rfl (by decide) ⟨by decide, by decide⟩ rfl rfl ⟨by decide, by decide⟩ rfl rfl (Nat.le_of_ble_eq_true rfl) dX4_sheet_82 ?_
                  have hm : m_sheet (T, K, ik, F, f, n, s1, s2, s3) s b v = (((upd s2 (ix s) (0 : Int32)) (ix s)), (T, K, ik, F, f, n, (upd s1 (ix s) b), (upd s2 (ix s) (0 : Int32)), (fillF s3 ((ix s) * 40) ((ix s) * 40 + 40) 0))) := by first | exact absurd c_9 c_66 | exact absurd c_66 c_9 | (simp only [m_sheet, c_5, c_9, c_15, c_21, c_27, c_37, c_50, c_66, decide_true, decide_false, Bool.not_true, Bool.not_false, Bool.true_and, Bool.false_and, Bool.and_true, Bool.and_false, Bool.true_or, Bool.false_or, Bool.or_true, Bool.or_false, cond_true, cond_false, eq_self, if_true, if_false, ite_true, ite_false] <;> rfl)
                  exact aw_iret C hr hlk dX4_sheet_85 ⟨ri (by rw [hm]), R, tk, bg, en, nm, by rw [hm]; rfl⟩
              · skip
                refine aw_sub (lv' := [(0, .ref (z 0))]) [0] rfl ?_
                exact J53 (by simp only [m_sheet, c_5, c_9, c_15, c_21, c_27, c_37, c_50, decide_true, decide_false, Bool.not_true, Bool.not_false, Bool.true_and, Bool.false_and, Bool.and_true, Bool.and_false, Bool.true_or, Bool.false_or, Bool.or_true, Bool.or_false, cond_true, cond_false, eq_self, if_true, if_false, ite_true, ite_false] <;> rfl)
            · skip
              refine aw_sub (lv' := [(0, .ref (z 0))]) [0] rfl ?_
              exact J40 (by simp only [m_sheet, c_5, c_9, c_15, c_21, c_27, c_37, decide_true, decide_false, Bool.not_true, Bool.not_false, Bool.true_and, Bool.false_and, Bool.and_true, Bool.and_false, Bool.true_or, Bool.false_or, Bool.or_true, Bool.or_false, cond_true, cond_false, eq_self, if_true, if_false, ite_true, ite_false] <;> rfl)
          · skip
            refine aw_sub (lv' := [(0, .ref (z 0))]) [0] rfl ?_
            exact J30 (by simp only [m_sheet, c_5, c_9, c_15, c_21, c_27, decide_true, decide_false, Bool.not_true, Bool.not_false, Bool.true_and, Bool.false_and, Bool.and_true, Bool.and_false, Bool.true_or, Bool.false_or, Bool.or_true, Bool.or_false, cond_true, cond_false, eq_self, if_true, if_false, ite_true, ite_false] <;> rfl)
abbrev r_X4_write : Room := { frames := 2, cells := 0, slots := 0, locals := 44 }
theorem cv_X4_write : cV yX4_write cX4_write 4 (some .int) 3 := ⟨k3_168, k3_169, k3_170, k1_1, by decide, by decide, by decide +kernel⟩
set_option maxHeartbeats 4000000 in
set_option maxRecDepth 100000 in
theorem c_X4_write (l : Launch) (D : va_G) (cI cC : ClassId) (adK adV : Nat → Nat) (z : Nat → Nat) (T R K : Tw) (ik : Bool) (F f : Nat → Int32) (n : Nat) (tk : Int32) (bg en : Nat) (nm : Int32) (s1 s2 s3 : Nat → Int32) (s : Int32) (i : Int32) (v : Int32) (hS : sOk s2) : FC l yX4_write (wW yX4_write cX4_write 4 (some .int)) r_X4_write D (tyC cI cC) adK adV (wBa cI z T R K ik F f n tk bg en nm s1 s2 s3) [.ref (z 0), .int s, .int i, .int v] 0 0 (pBa cI z (m_write (T, K, ik, F, f, n, s1, s2, s3) s i v)) := by
  refine FC.of (own := RX4) (by decide) rfl (Nat.le_of_ble_eq_true rfl) ?_
  intro p9 e9 s9 m9 args9 below9 meth9 c9 A9 C hr hlk hmn
  show AW p9 l e9 r_X4_write s9 m9 args9 below9 meth9 c9 D A9 4 0 0 _ 0 [(0, .ref (z 0)), (1, .int s), (2, .int i), (3, .int v)] [] _
  refine aw_eq (lv' := [(0, .ref (z 0)), (1, .int s), (2, .int i), (3, .int v)]) (ws' := fl [wMa cI z ik F, wTo cI (z 2) (zT z) T, wTo cI (z 3) (zR z) R, wTo cI (z 4) (zK z) K, wTp cI (z 5) (z 6) f n tk bg en nm, wSh cI (z 7) (zS z) s1 s2 s3]) rfl rfl rfl ?_
  have J8 : m_write (T, K, ik, F, f, n, s1, s2, s3) s i v = gno (T, K, ik, F, f, n, s1, s2, s3) 0 → AW p9 l e9 r_X4_write s9 m9 args9 below9 meth9 c9 D A9 4 0 0 (aQ below9 args9 s9 D A9 0 0 (pBa cI z (m_write (T, K, ik, F, f, n, s1, s2, s3) s i v))) 8 [(0, .ref (z 0))] [] (fl [wMa cI z ik F, wTo cI (z 2) (zT z) T, wTo cI (z 3) (zR z) R, wTo cI (z 4) (zK z) K, wTp cI (z 5) (z 6) f n tk bg en nm, wSh cI (z 7) (zS z) s1 s2 s3]) := by
    intro hj
    refine aw_aload_n C dX4_write_8 rfl ?_
    refine aw_iconst C (0 : Int32) dX4_write_9 (by decide) ?_
    refine aw_gVd C (As := [.int (0 : Int32)]) (c_X4_finding l D cI cC adK adV z ik F 0 (by decide)) k1_146 cv_X4_finding 3 rfl rfl rfl [0, 1, 2, 3, 4, 5] (fl1 _) rfl 6 rfl (by decide) (gc := [wMa cI z ik F]) (gr := [wTo cI (z 2) (zT z) T, wTo cI (z 3) (zR z) R, wTo cI (z 4) (zK z) K, wTp cI (z 5) (z 6) f n tk bg en nm, wSh cI (z 7) (zS z) s1 s2 s3]) (gc1 := [wMa cI z ik (upd F 0 (F 0 + 1))]) (gs' := [wMa cI z ik (upd F 0 (F 0 + 1)), wTo cI (z 2) (zT z) T, wTo cI (z 3) (zR z) R, wTo cI (z 4) (zK z) K, wTp cI (z 5) (z 6) f n tk bg en nm, wSh cI (z 7) (zS z) s1 s2 s3]) (fl1 _) rfl rfl ⟨by decide, by decide⟩ rfl rfl ⟨by decide, by decide⟩ rfl rfl (Nat.le_of_ble_eq_true rfl) dX4_write_10 ?_
    have hm : m_write (T, K, ik, F, f, n, s1, s2, s3) s i v = ((fno 0), (T, K, ik, (upd F 0 (F 0 + 1)), f, n, s1, s2, s3)) := by rw [hj]; rfl
    exact aw_iret C hr hlk dX4_write_13 ⟨ri (by rw [hm]), R, tk, bg, en, nm, by rw [hm]; rfl⟩
  have J25 : m_write (T, K, ik, F, f, n, s1, s2, s3) s i v = gno (T, K, ik, F, f, n, s1, s2, s3) 5 → AW p9 l e9 r_X4_write s9 m9 args9 below9 meth9 c9 D A9 4 0 0 (aQ below9 args9 s9 D A9 0 0 (pBa cI z (m_write (T, K, ik, F, f, n, s1, s2, s3) s i v))) 25 [(0, .ref (z 0))] [] (fl [wMa cI z ik F, wTo cI (z 2) (zT z) T, wTo cI (z 3) (zR z) R, wTo cI (z 4) (zK z) K, wTp cI (z 5) (z 6) f n tk bg en nm, wSh cI (z 7) (zS z) s1 s2 s3]) := by
    intro hj
    refine aw_aload_n C dX4_write_25 rfl ?_
    refine aw_iconst C (5 : Int32) dX4_write_26 (by decide) ?_
    refine aw_gVd C (As := [.int (5 : Int32)]) (c_X4_finding l D cI cC adK adV z ik F 5 (by decide)) k1_146 cv_X4_finding 3 rfl rfl rfl [0, 1, 2, 3, 4, 5] (fl1 _) rfl 6 rfl (by decide) (gc := [wMa cI z ik F]) (gr := [wTo cI (z 2) (zT z) T, wTo cI (z 3) (zR z) R, wTo cI (z 4) (zK z) K, wTp cI (z 5) (z 6) f n tk bg en nm, wSh cI (z 7) (zS z) s1 s2 s3]) (gc1 := [wMa cI z ik (upd F 5 (F 5 + 1))]) (gs' := [wMa cI z ik (upd F 5 (F 5 + 1)), wTo cI (z 2) (zT z) T, wTo cI (z 3) (zR z) R, wTo cI (z 4) (zK z) K, wTp cI (z 5) (z 6) f n tk bg en nm, wSh cI (z 7) (zS z) s1 s2 s3]) (fl1 _) rfl rfl ⟨by decide, by decide⟩ rfl rfl ⟨by decide, by decide⟩ rfl rfl (Nat.le_of_ble_eq_true rfl) dX4_write_27 ?_
    have hm : m_write (T, K, ik, F, f, n, s1, s2, s3) s i v = ((fno 5), (T, K, ik, (upd F 5 (F 5 + 1)), f, n, s1, s2, s3)) := by rw [hj]; rfl
    exact aw_iret C hr hlk dX4_write_30 ⟨ri (by rw [hm]), R, tk, bg, en, nm, by rw [hm]; rfl⟩
  have J46 : m_write (T, K, ik, F, f, n, s1, s2, s3) s i v = gno (T, K, ik, F, f, n, s1, s2, s3) 0 → AW p9 l e9 r_X4_write s9 m9 args9 below9 meth9 c9 D A9 4 0 0 (aQ below9 args9 s9 D A9 0 0 (pBa cI z (m_write (T, K, ik, F, f, n, s1, s2, s3) s i v))) 46 [(0, .ref (z 0))] [] (fl [wMa cI z ik F, wTo cI (z 2) (zT z) T, wTo cI (z 3) (zR z) R, wTo cI (z 4) (zK z) K, wTp cI (z 5) (z 6) f n tk bg en nm, wSh cI (z 7) (zS z) s1 s2 s3]) := by
    intro hj
    refine aw_aload_n C dX4_write_46 rfl ?_
    refine aw_pc 47 rfl ?_
    refine aw_iconst C (0 : Int32) dX4_write_47 (by decide) ?_
    refine aw_gVd C (As := [.int (0 : Int32)]) (c_X4_finding l D cI cC adK adV z ik F 0 (by decide)) k1_146 cv_X4_finding 3 rfl rfl rfl [0, 1, 2, 3, 4, 5] (fl1 _) rfl 6 rfl (by decide) (gc := [wMa cI z ik F]) (gr := [wTo cI (z 2) (zT z) T, wTo cI (z 3) (zR z) R, wTo cI (z 4) (zK z) K, wTp cI (z 5) (z 6) f n tk bg en nm, wSh cI (z 7) (zS z) s1 s2 s3]) (gc1 := [wMa cI z ik (upd F 0 (F 0 + 1))]) (gs' := [wMa cI z ik (upd F 0 (F 0 + 1)), wTo cI (z 2) (zT z) T, wTo cI (z 3) (zR z) R, wTo cI (z 4) (zK z) K, wTp cI (z 5) (z 6) f n tk bg en nm, wSh cI (z 7) (zS z) s1 s2 s3]) (fl1 _) rfl rfl ⟨by decide, by decide⟩ rfl rfl ⟨by decide, by decide⟩ rfl rfl (Nat.le_of_ble_eq_true rfl) dX4_write_48 ?_
    have hm : m_write (T, K, ik, F, f, n, s1, s2, s3) s i v = ((fno 0), (T, K, ik, (upd F 0 (F 0 + 1)), f, n, s1, s2, s3)) := by rw [hj]; rfl
    exact aw_iret C hr hlk dX4_write_51 ⟨ri (by rw [hm]), R, tk, bg, en, nm, by rw [hm]; rfl⟩
  refine aw_iload_n C dX4_write_0 rfl ?_
  refine aw_iconst C (4 : Int32) dX4_write_1 (by decide) ?_
  refine aw_callSp C (As := [.int s, .int (4 : Int32)]) (c_X4_isIn l D cI cC adK adV s (4 : Int32)) k1_143 cs_X4_isIn [] (by decide) rfl ⟨by decide, by decide⟩ rfl rfl ⟨by decide, by decide⟩ rfl rfl (Nat.le_of_ble_eq_true rfl) dX4_write_2 ?_
  refine aw_ifne_b C 14 dX4_write_5 (by decide) (fun c_5 => ?_) (fun c_5 => ?_)
  · skip
    have hs : ix s < 4 := (in0_ix (n := 4) (by decide) c_5).2
    have e1 : s = nI (ix s) := (in0_ix (n := 4) (by decide) c_5).1
    refine aw_eq (lv' := [(0, .ref (z 0)), (1, .int (nI (ix s))), (2, .int i), (3, .int v)]) (ws' := fl [wMa cI z ik F, wTo cI (z 2) (zT z) T, wTo cI (z 3) (zR z) R, wTo cI (z 4) (zK z) K, wTp cI (z 5) (z 6) f n tk bg en nm, wSh cI (z 7) (zS z) s1 s2 s3]) (by rw [← e1]) rfl rfl ?_
    refine aw_aload_n C dX4_write_14 rfl ?_
    refine aw_getf C 0 3 5 7 inX4 rfl (by decide) rfl k1_122 rfl rfl dX4_write_15 ?_
    refine aw_iload_n C dX4_write_18 rfl ?_
    refine aw_pc 19 rfl ?_
    refine aw_gVp C (As := [.int (nI (ix s))]) (c_X1_isMissing l D cI cC adK adV (z 7) (zS z) s1 s2 s3 (ix s) (by omega)) k2_186 cv_X1_isMissing 0 rfl rfl rfl [5, 0, 1, 2, 3, 4] (fl1 _) rfl 6 rfl (by decide) ⟨by decide, by decide⟩ rfl rfl ⟨by decide, by decide⟩ rfl rfl (Nat.le_of_ble_eq_true rfl) dX4_write_19 ?_
    refine aw_ifeq_b C 31 dX4_write_22 (by decide) (fun c_22 => ?_) (fun c_22 => ?_)
    · skip
      refine aw_iload_n C dX4_write_31 rfl ?_
      refine aw_aload_n C dX4_write_32 rfl ?_
      refine aw_getf C 0 3 5 7 inX4 rfl (by decide) rfl k1_122 rfl rfl dX4_write_33 ?_
      refine aw_iload_n C dX4_write_36 rfl ?_
      refine aw_gVp C (As := [.int (nI (ix s))]) (c_X1_length l D cI cC adK adV (z 7) (zS z) s1 s2 s3 (ix s) (by omega)) k2_194 cv_X1_length 0 rfl rfl rfl [5, 0, 1, 2, 3, 4] (fl1 _) rfl 6 rfl (by decide) ⟨by decide, by decide⟩ rfl rfl ⟨by decide, by decide⟩ rfl rfl (Nat.le_of_ble_eq_true rfl) dX4_write_37 ?_
      refine aw_callSp C (As := [.int i, .int (s2 (ix s))]) (c_X4_isIn l D cI cC adK adV i (s2 (ix s))) k1_143 cs_X4_isIn [] (by decide) rfl ⟨by decide, by decide⟩ rfl rfl ⟨by decide, by decide⟩ rfl rfl (Nat.le_of_ble_eq_true rfl) dX4_write_40 ?_
      refine aw_ifne_b C 52 dX4_write_43 (by decide) (fun c_43 => ?_) (fun c_43 => ?_)
      · skip
        have hI := in0_40 hS hs c_43
        have hI2 := hI.2
        have e2 : i = nI (ix i) := hI.1
        refine aw_eq (lv' := [(0, .ref (z 0)), (1, .int (nI (ix s))), (2, .int (nI (ix i))), (3, .int v)]) (ws' := fl [wMa cI z ik F, wTo cI (z 2) (zT z) T, wTo cI (z 3) (zR z) R, wTo cI (z 4) (zK z) K, wTp cI (z 5) (z 6) f n tk bg en nm, wSh cI (z 7) (zS z) s1 s2 s3]) (by rw [← e2]) rfl rfl ?_
        refine aw_aload_n C dX4_write_52 rfl ?_
        refine aw_pc 53 rfl ?_
        refine aw_getf C 0 3 5 7 inX4 rfl (by decide) rfl k1_122 rfl rfl dX4_write_53 ?_
        refine aw_iload_n C dX4_write_56 rfl ?_
        refine aw_iload_n C dX4_write_57 rfl ?_
        refine aw_iload_n C dX4_write_58 rfl ?_
        refine aw_gVdv C (As := [.int (nI (ix s)), .int (nI (ix i)), .int v]) (c_X1_put l D cI cC adK adV (z 7) (zS z) s1 s2 s3 (ix s) (ix i) v (by omega) (by omega)) k3_171 cv_X1_put 0 rfl rfl rfl [5, 0, 1, 2, 3, 4] (fl1 _) rfl 6 rfl (by decide) (gc := [wSh cI (z 7) (zS z) s1 s2 s3]) (gr := [wMa cI z ik F, wTo cI (z 2) (zT z) T, wTo cI (z 3) (zR z) R, wTo cI (z 4) (zK z) K, wTp cI (z 5) (z 6) f n tk bg en nm]) (gc1 := [wSh cI (z 7) (zS z) s1 s2 (upd s3 ((ix s) * 40 + (ix i)) (lowB (s1 (ix s)) v))]) (gs' := [wMa cI z ik F, wTo cI (z 2) (zT z) T, wTo cI (z 3) (zR z) R, wTo cI (z 4) (zK z) K, wTp cI (z 5) (z 6) f n tk bg en nm, wSh cI (z 7) (zS z) s1 s2 (upd s3 ((ix s) * 40 + (ix i)) (lowB (s1 (ix s)) v))]) (fl1 _) rfl rfl ⟨by decide, by decide⟩ rfl rfl ⟨by decide, by decide⟩ rfl rfl (Nat.le_of_ble_eq_true rfl) dX4_write_59 ?_
        refine aw_iconst C (1 : Int32) dX4_write_62 (by decide) ?_
        have hm : m_write (T, K, ik, F, f, n, s1, s2, s3) s i v = ((1 : Int32), (T, K, ik, F, f, n, s1, s2, (upd s3 ((ix s) * 40 + (ix i)) (lowB (s1 (ix s)) v)))) := by simp only [m_write, c_5, c_22, c_43, decide_true, decide_false, Bool.not_true, Bool.not_false, Bool.true_and, Bool.false_and, Bool.and_true, Bool.and_false, Bool.true_or, Bool.false_or, Bool.or_true, Bool.or_false, cond_true, cond_false, eq_self, if_true, if_false, ite_true, ite_false] <;> rfl
        exact aw_iret C hr hlk dX4_write_63 ⟨ri (by rw [hm]), R, tk, bg, en, nm, by rw [hm]; rfl⟩
      · skip
        refine aw_sub (lv' := [(0, .ref (z 0))]) [0] rfl ?_
        exact J46 (by simp only [m_write, c_5, c_22, c_43, decide_true, decide_false, Bool.not_true, Bool.not_false, Bool.true_and, Bool.false_and, Bool.and_true, Bool.and_false, Bool.true_or, Bool.false_or, Bool.or_true, Bool.or_false, cond_true, cond_false, eq_self, if_true, if_false, ite_true, ite_false] <;> rfl)
    · skip
      refine aw_sub (lv' := [(0, .ref (z 0))]) [0] rfl ?_
      exact J25 (by simp only [m_write, c_5, c_22, decide_true, decide_false, Bool.not_true, Bool.not_false, Bool.true_and, Bool.false_and, Bool.and_true, Bool.and_false, Bool.true_or, Bool.false_or, Bool.or_true, Bool.or_false, cond_true, cond_false, eq_self, if_true, if_false, ite_true, ite_false] <;> rfl)
  · skip
    refine aw_sub (lv' := [(0, .ref (z 0))]) [0] rfl ?_
    exact J8 (by simp only [m_write, c_5, decide_true, decide_false, Bool.not_true, Bool.not_false, Bool.true_and, Bool.false_and, Bool.and_true, Bool.and_false, Bool.true_or, Bool.false_or, Bool.or_true, Bool.or_false, cond_true, cond_false, eq_self, if_true, if_false, ite_true, ite_false] <;> rfl)
abbrev r_X4_copy : Room := { frames := 2, cells := 0, slots := 0, locals := 43 }
theorem cv_X4_copy : cV yX4_copy cX4_copy 6 (some .int) 5 := ⟨k3_179, k3_180, k3_181, k1_1, by decide, by decide, by decide +kernel⟩
set_option maxHeartbeats 4000000 in
set_option maxRecDepth 100000 in
theorem c_X4_copy (l : Launch) (D : va_G) (cI cC : ClassId) (adK adV : Nat → Nat) (z : Nat → Nat) (T R K : Tw) (ik : Bool) (F f : Nat → Int32) (n : Nat) (tk : Int32) (bg en : Nat) (nm : Int32) (s1 s2 s3 : Nat → Int32) (s : Int32) (i : Int32) (t : Int32) (j : Int32) (k : Int32) (hS : sOk s2) : FC l yX4_copy (wW yX4_copy cX4_copy 6 (some .int)) r_X4_copy D (tyC cI cC) adK adV (wBa cI z T R K ik F f n tk bg en nm s1 s2 s3) [.ref (z 0), .int s, .int i, .int t, .int j, .int k] 0 0 (pBa cI z (m_copy (T, K, ik, F, f, n, s1, s2, s3) s i t j k)) := by
  refine FC.of (own := RX4) (by decide) rfl (Nat.le_of_ble_eq_true rfl) ?_
  intro p9 e9 s9 m9 args9 below9 meth9 c9 A9 C hr hlk hmn
  show AW p9 l e9 r_X4_copy s9 m9 args9 below9 meth9 c9 D A9 6 0 0 _ 0 [(0, .ref (z 0)), (1, .int s), (2, .int i), (3, .int t), (4, .int j), (5, .int k)] [] _
  refine aw_eq (lv' := [(0, .ref (z 0)), (1, .int s), (2, .int i), (3, .int t), (4, .int j), (5, .int k)]) (ws' := fl [wMa cI z ik F, wTo cI (z 2) (zT z) T, wTo cI (z 3) (zR z) R, wTo cI (z 4) (zK z) K, wTp cI (z 5) (z 6) f n tk bg en nm, wSh cI (z 7) (zS z) s1 s2 s3]) rfl rfl rfl ?_
  have J16 : m_copy (T, K, ik, F, f, n, s1, s2, s3) s i t j k = gno (T, K, ik, F, f, n, s1, s2, s3) 0 → AW p9 l e9 r_X4_copy s9 m9 args9 below9 meth9 c9 D A9 6 0 0 (aQ below9 args9 s9 D A9 0 0 (pBa cI z (m_copy (T, K, ik, F, f, n, s1, s2, s3) s i t j k))) 16 [(0, .ref (z 0))] [] (fl [wMa cI z ik F, wTo cI (z 2) (zT z) T, wTo cI (z 3) (zR z) R, wTo cI (z 4) (zK z) K, wTp cI (z 5) (z 6) f n tk bg en nm, wSh cI (z 7) (zS z) s1 s2 s3]) := by
    intro hj
    refine aw_aload_n C dX4_copy_16 rfl ?_
    refine aw_iconst C (0 : Int32) dX4_copy_17 (by decide) ?_
    refine aw_gVd C (As := [.int (0 : Int32)]) (c_X4_finding l D cI cC adK adV z ik F 0 (by decide)) k1_146 cv_X4_finding 3 rfl rfl rfl [0, 1, 2, 3, 4, 5] (fl1 _) rfl 6 rfl (by decide) (gc := [wMa cI z ik F]) (gr := [wTo cI (z 2) (zT z) T, wTo cI (z 3) (zR z) R, wTo cI (z 4) (zK z) K, wTp cI (z 5) (z 6) f n tk bg en nm, wSh cI (z 7) (zS z) s1 s2 s3]) (gc1 := [wMa cI z ik (upd F 0 (F 0 + 1))]) (gs' := [wMa cI z ik (upd F 0 (F 0 + 1)), wTo cI (z 2) (zT z) T, wTo cI (z 3) (zR z) R, wTo cI (z 4) (zK z) K, wTp cI (z 5) (z 6) f n tk bg en nm, wSh cI (z 7) (zS z) s1 s2 s3]) (fl1 _) rfl rfl ⟨by decide, by decide⟩ rfl rfl ⟨by decide, by decide⟩ rfl rfl (Nat.le_of_ble_eq_true rfl) dX4_copy_18 ?_
    have hm : m_copy (T, K, ik, F, f, n, s1, s2, s3) s i t j k = ((fno 0), (T, K, ik, (upd F 0 (F 0 + 1)), f, n, s1, s2, s3)) := by rw [hj]; rfl
    exact aw_iret C hr hlk dX4_copy_21 ⟨ri (by rw [hm]), R, tk, bg, en, nm, by rw [hm]; rfl⟩
  have J44 : m_copy (T, K, ik, F, f, n, s1, s2, s3) s i t j k = gno (T, K, ik, F, f, n, s1, s2, s3) 5 → AW p9 l e9 r_X4_copy s9 m9 args9 below9 meth9 c9 D A9 6 0 0 (aQ below9 args9 s9 D A9 0 0 (pBa cI z (m_copy (T, K, ik, F, f, n, s1, s2, s3) s i t j k))) 44 [(0, .ref (z 0))] [] (fl [wMa cI z ik F, wTo cI (z 2) (zT z) T, wTo cI (z 3) (zR z) R, wTo cI (z 4) (zK z) K, wTp cI (z 5) (z 6) f n tk bg en nm, wSh cI (z 7) (zS z) s1 s2 s3]) := by
    intro hj
    refine aw_aload_n C dX4_copy_44 rfl ?_
    refine aw_iconst C (5 : Int32) dX4_copy_45 (by decide) ?_
    refine aw_gVd C (As := [.int (5 : Int32)]) (c_X4_finding l D cI cC adK adV z ik F 5 (by decide)) k1_146 cv_X4_finding 3 rfl rfl rfl [0, 1, 2, 3, 4, 5] (fl1 _) rfl 6 rfl (by decide) (gc := [wMa cI z ik F]) (gr := [wTo cI (z 2) (zT z) T, wTo cI (z 3) (zR z) R, wTo cI (z 4) (zK z) K, wTp cI (z 5) (z 6) f n tk bg en nm, wSh cI (z 7) (zS z) s1 s2 s3]) (gc1 := [wMa cI z ik (upd F 5 (F 5 + 1))]) (gs' := [wMa cI z ik (upd F 5 (F 5 + 1)), wTo cI (z 2) (zT z) T, wTo cI (z 3) (zR z) R, wTo cI (z 4) (zK z) K, wTp cI (z 5) (z 6) f n tk bg en nm, wSh cI (z 7) (zS z) s1 s2 s3]) (fl1 _) rfl rfl ⟨by decide, by decide⟩ rfl rfl ⟨by decide, by decide⟩ rfl rfl (Nat.le_of_ble_eq_true rfl) dX4_copy_46 ?_
    have hm : m_copy (T, K, ik, F, f, n, s1, s2, s3) s i t j k = ((fno 5), (T, K, ik, (upd F 5 (F 5 + 1)), f, n, s1, s2, s3)) := by rw [hj]; rfl
    exact aw_iret C hr hlk dX4_copy_49 ⟨ri (by rw [hm]), R, tk, bg, en, nm, by rw [hm]; rfl⟩
  have J69 : m_copy (T, K, ik, F, f, n, s1, s2, s3) s i t j k = gno (T, K, ik, F, f, n, s1, s2, s3) 2 → AW p9 l e9 r_X4_copy s9 m9 args9 below9 meth9 c9 D A9 6 0 0 (aQ below9 args9 s9 D A9 0 0 (pBa cI z (m_copy (T, K, ik, F, f, n, s1, s2, s3) s i t j k))) 69 [(0, .ref (z 0))] [] (fl [wMa cI z ik F, wTo cI (z 2) (zT z) T, wTo cI (z 3) (zR z) R, wTo cI (z 4) (zK z) K, wTp cI (z 5) (z 6) f n tk bg en nm, wSh cI (z 7) (zS z) s1 s2 s3]) := by
    intro hj
    refine aw_aload_n C dX4_copy_69 rfl ?_
    refine aw_pc 70 rfl ?_
    refine aw_iconst C (2 : Int32) dX4_copy_70 (by decide) ?_
    refine aw_gVd C (As := [.int (2 : Int32)]) (c_X4_finding l D cI cC adK adV z ik F 2 (by decide)) k1_146 cv_X4_finding 3 rfl rfl rfl [0, 1, 2, 3, 4, 5] (fl1 _) rfl 6 rfl (by decide) (gc := [wMa cI z ik F]) (gr := [wTo cI (z 2) (zT z) T, wTo cI (z 3) (zR z) R, wTo cI (z 4) (zK z) K, wTp cI (z 5) (z 6) f n tk bg en nm, wSh cI (z 7) (zS z) s1 s2 s3]) (gc1 := [wMa cI z ik (upd F 2 (F 2 + 1))]) (gs' := [wMa cI z ik (upd F 2 (F 2 + 1)), wTo cI (z 2) (zT z) T, wTo cI (z 3) (zR z) R, wTo cI (z 4) (zK z) K, wTp cI (z 5) (z 6) f n tk bg en nm, wSh cI (z 7) (zS z) s1 s2 s3]) (fl1 _) rfl rfl ⟨by decide, by decide⟩ rfl rfl ⟨by decide, by decide⟩ rfl rfl (Nat.le_of_ble_eq_true rfl) dX4_copy_71 ?_
    have hm : m_copy (T, K, ik, F, f, n, s1, s2, s3) s i t j k = ((fno 2), (T, K, ik, (upd F 2 (F 2 + 1)), f, n, s1, s2, s3)) := by rw [hj]; rfl
    exact aw_iret C hr hlk dX4_copy_74 ⟨ri (by rw [hm]), R, tk, bg, en, nm, by rw [hm]; rfl⟩
  have J104 : m_copy (T, K, ik, F, f, n, s1, s2, s3) s i t j k = gno (T, K, ik, F, f, n, s1, s2, s3) 0 → AW p9 l e9 r_X4_copy s9 m9 args9 below9 meth9 c9 D A9 6 0 0 (aQ below9 args9 s9 D A9 0 0 (pBa cI z (m_copy (T, K, ik, F, f, n, s1, s2, s3) s i t j k))) 104 [(0, .ref (z 0))] [] (fl [wMa cI z ik F, wTo cI (z 2) (zT z) T, wTo cI (z 3) (zR z) R, wTo cI (z 4) (zK z) K, wTp cI (z 5) (z 6) f n tk bg en nm, wSh cI (z 7) (zS z) s1 s2 s3]) := by
    intro hj
    refine aw_aload_n C dX4_copy_104 rfl ?_
    refine aw_iconst C (0 : Int32) dX4_copy_105 (by decide) ?_
    refine aw_gVd C (As := [.int (0 : Int32)]) (c_X4_finding l D cI cC adK adV z ik F 0 (by decide)) k1_146 cv_X4_finding 3 rfl rfl rfl [0, 1, 2, 3, 4, 5] (fl1 _) rfl 6 rfl (by decide) (gc := [wMa cI z ik F]) (gr := [wTo cI (z 2) (zT z) T, wTo cI (z 3) (zR z) R, wTo cI (z 4) (zK z) K, wTp cI (z 5) (z 6) f n tk bg en nm, wSh cI (z 7) (zS z) s1 s2 s3]) (gc1 := [wMa cI z ik (upd F 0 (F 0 + 1))]) (gs' := [wMa cI z ik (upd F 0 (F 0 + 1)), wTo cI (z 2) (zT z) T, wTo cI (z 3) (zR z) R, wTo cI (z 4) (zK z) K, wTp cI (z 5) (z 6) f n tk bg en nm, wSh cI (z 7) (zS z) s1 s2 s3]) (fl1 _) rfl rfl ⟨by decide, by decide⟩ rfl rfl ⟨by decide, by decide⟩ rfl rfl (Nat.le_of_ble_eq_true rfl) dX4_copy_106 ?_
    have hm : m_copy (T, K, ik, F, f, n, s1, s2, s3) s i t j k = ((fno 0), (T, K, ik, (upd F 0 (F 0 + 1)), f, n, s1, s2, s3)) := by rw [hj]; rfl
    exact aw_iret C hr hlk dX4_copy_109 ⟨ri (by rw [hm]), R, tk, bg, en, nm, by rw [hm]; rfl⟩
  refine aw_iload_n C dX4_copy_0 rfl ?_
  refine aw_iconst C (4 : Int32) dX4_copy_1 (by decide) ?_
  refine aw_callSp C (As := [.int s, .int (4 : Int32)]) (c_X4_isIn l D cI cC adK adV s (4 : Int32)) k1_143 cs_X4_isIn [] (by decide) rfl ⟨by decide, by decide⟩ rfl rfl ⟨by decide, by decide⟩ rfl rfl (Nat.le_of_ble_eq_true rfl) dX4_copy_2 ?_
  refine aw_pc 5 rfl ?_
  refine aw_ifeq_b C 16 dX4_copy_5 (by decide) (fun c_5 => ?_) (fun c_5 => ?_)
  · skip
    refine aw_sub (lv' := [(0, .ref (z 0))]) [0] rfl ?_
    exact J16 (by simp only [m_copy, hPart, c_5, decide_true, decide_false, Bool.not_true, Bool.not_false, Bool.true_and, Bool.false_and, Bool.and_true, Bool.and_false, Bool.true_or, Bool.false_or, Bool.or_true, Bool.or_false, cond_true, cond_false, eq_self, if_true, if_false, ite_true, ite_false])
  · skip
    refine aw_iload_n C dX4_copy_8 rfl ?_
    refine aw_iconst C (4 : Int32) dX4_copy_9 (by decide) ?_
    refine aw_callSp C (As := [.int t, .int (4 : Int32)]) (c_X4_isIn l D cI cC adK adV t (4 : Int32)) k1_143 cs_X4_isIn [] (by decide) rfl ⟨by decide, by decide⟩ rfl rfl ⟨by decide, by decide⟩ rfl rfl (Nat.le_of_ble_eq_true rfl) dX4_copy_10 ?_
    refine aw_ifne_b C 22 dX4_copy_13 (by decide) (fun c_13 => ?_) (fun c_13 => ?_)
    · skip
      have hs : ix s < 4 := (in0_ix (n := 4) (by decide) c_5).2
      have e1 : s = nI (ix s) := (in0_ix (n := 4) (by decide) c_5).1
      refine aw_eq (lv' := [(0, .ref (z 0)), (1, .int (nI (ix s))), (2, .int i), (3, .int t), (4, .int j), (5, .int k)]) (ws' := fl [wMa cI z ik F, wTo cI (z 2) (zT z) T, wTo cI (z 3) (zR z) R, wTo cI (z 4) (zK z) K, wTp cI (z 5) (z 6) f n tk bg en nm, wSh cI (z 7) (zS z) s1 s2 s3]) (by rw [← e1]) rfl rfl ?_
      have ht : ix t < 4 := (in0_ix (n := 4) (by decide) c_13).2
      have e2 : t = nI (ix t) := (in0_ix (n := 4) (by decide) c_13).1
      refine aw_eq (lv' := [(0, .ref (z 0)), (1, .int (nI (ix s))), (2, .int i), (3, .int (nI (ix t))), (4, .int j), (5, .int k)]) (ws' := fl [wMa cI z ik F, wTo cI (z 2) (zT z) T, wTo cI (z 3) (zR z) R, wTo cI (z 4) (zK z) K, wTp cI (z 5) (z 6) f n tk bg en nm, wSh cI (z 7) (zS z) s1 s2 s3]) (by rw [← e2]) rfl rfl ?_
      refine aw_aload_n C dX4_copy_22 rfl ?_
      refine aw_getf C 0 3 5 7 inX4 rfl (by decide) rfl k1_122 rfl rfl dX4_copy_23 ?_
      refine aw_iload_n C dX4_copy_26 rfl ?_
      refine aw_gVp C (As := [.int (nI (ix s))]) (c_X1_isMissing l D cI cC adK adV (z 7) (zS z) s1 s2 s3 (ix s) (by omega)) k2_186 cv_X1_isMissing 0 rfl rfl rfl [5, 0, 1, 2, 3, 4] (fl1 _) rfl 6 rfl (by decide) ⟨by decide, by decide⟩ rfl rfl ⟨by decide, by decide⟩ rfl rfl (Nat.le_of_ble_eq_true rfl) dX4_copy_27 ?_
      refine aw_ifne_b C 44 dX4_copy_30 (by decide) (fun c_30 => ?_) (fun c_30 => ?_)
      · skip
        refine aw_sub (lv' := [(0, .ref (z 0))]) [0] rfl ?_
        exact J44 (by simp only [m_copy, hPart, c_5, c_13, c_30, decide_true, decide_false, Bool.not_true, Bool.not_false, Bool.true_and, Bool.false_and, Bool.and_true, Bool.and_false, Bool.true_or, Bool.false_or, Bool.or_true, Bool.or_false, cond_true, cond_false, eq_self, if_true, if_false, ite_true, ite_false])
      · skip
        refine aw_pc 33 rfl ?_
        refine aw_aload_n C dX4_copy_33 rfl ?_
        refine aw_getf C 0 3 5 7 inX4 rfl (by decide) rfl k1_122 rfl rfl dX4_copy_34 ?_
        refine aw_iload_n C dX4_copy_37 rfl ?_
        refine aw_gVp C (As := [.int (nI (ix t))]) (c_X1_isMissing l D cI cC adK adV (z 7) (zS z) s1 s2 s3 (ix t) (by omega)) k2_186 cv_X1_isMissing 0 rfl rfl rfl [5, 0, 1, 2, 3, 4] (fl1 _) rfl 6 rfl (by decide) ⟨by decide, by decide⟩ rfl rfl ⟨by decide, by decide⟩ rfl rfl (Nat.le_of_ble_eq_true rfl) dX4_copy_38 ?_
        refine aw_ifeq_b C 50 dX4_copy_41 (by decide) (fun c_41 => ?_) (fun c_41 => ?_)
        · skip
          refine aw_aload_n C dX4_copy_50 rfl ?_
          refine aw_getf C 0 3 5 7 inX4 rfl (by decide) rfl k1_122 rfl rfl dX4_copy_51 ?_
          refine aw_iload_n C dX4_copy_54 rfl ?_
          refine aw_gVp C (As := [.int (nI (ix s))]) (c_X1_bits l D cI cC adK adV (z 7) (zS z) s1 s2 s3 (ix s) (by omega)) k3_182 cv_X1_bits 0 rfl rfl rfl [5, 0, 1, 2, 3, 4] (fl1 _) rfl 6 rfl (by decide) ⟨by decide, by decide⟩ rfl rfl ⟨by decide, by decide⟩ rfl rfl (Nat.le_of_ble_eq_true rfl) dX4_copy_55 ?_
          refine aw_aload_n C dX4_copy_58 rfl ?_
          refine aw_pc 59 rfl ?_
          refine aw_getf C 0 3 5 7 inX4 rfl (by decide) rfl k1_122 rfl rfl dX4_copy_59 ?_
          refine aw_iload_n C dX4_copy_62 rfl ?_
          refine aw_gVp C (As := [.int (nI (ix t))]) (c_X1_bits l D cI cC adK adV (z 7) (zS z) s1 s2 s3 (ix t) (by omega)) k3_182 cv_X1_bits 0 rfl rfl rfl [5, 0, 1, 2, 3, 4] (fl1 _) rfl 6 rfl (by decide) ⟨by decide, by decide⟩ rfl rfl ⟨by decide, by decide⟩ rfl rfl (Nat.le_of_ble_eq_true rfl) dX4_copy_63 ?_
          refine aw_icmp_eq C 75 dX4_copy_66 (by decide) (fun c_66 => ?_) (fun c_66 => ?_)
          · skip
            refine aw_aload_n C dX4_copy_75 rfl ?_
            refine aw_getf C 0 3 5 7 inX4 rfl (by decide) rfl k1_122 rfl rfl dX4_copy_76 ?_
            refine aw_iload_n C dX4_copy_79 rfl ?_
            refine aw_iload_n C dX4_copy_80 rfl ?_
            refine aw_iload C dX4_copy_81 rfl ?_
            refine aw_gVp C (As := [.int (nI (ix s)), .int i, .int k]) (c_X1_hasPart l D cI cC adK adV (z 7) (zS z) s1 s2 s3 (ix s) i k (by omega)) k3_186 cv_X1_hasPart 0 rfl rfl rfl [5, 0, 1, 2, 3, 4] (fl1 _) rfl 6 rfl (by decide) ⟨by decide, by decide⟩ rfl rfl ⟨by decide, by decide⟩ rfl rfl (Nat.le_of_ble_eq_true rfl) dX4_copy_83 ?_
            refine aw_pc 86 rfl ?_
            refine aw_ifeq_b C 104 dX4_copy_86 (by decide) (fun c_86 => ?_) (fun c_86 => ?_)
            · skip
              refine aw_sub (lv' := [(0, .ref (z 0))]) [0] rfl ?_
              exact J104 (by simp only [m_copy, hPart, c_5, c_13, c_30, c_41, c_66, c_86, decide_true, decide_false, Bool.not_true, Bool.not_false, Bool.true_and, Bool.false_and, Bool.and_true, Bool.and_false, Bool.true_or, Bool.false_or, Bool.or_true, Bool.or_false, cond_true, cond_false, eq_self, if_true, if_false, ite_true, ite_false])
            · skip
              refine aw_aload_n C dX4_copy_89 rfl ?_
              refine aw_getf C 0 3 5 7 inX4 rfl (by decide) rfl k1_122 rfl rfl dX4_copy_90 ?_
              refine aw_iload_n C dX4_copy_93 rfl ?_
              refine aw_iload C dX4_copy_94 rfl ?_
              refine aw_iload C dX4_copy_96 rfl ?_
              refine aw_gVp C (As := [.int (nI (ix t)), .int j, .int k]) (c_X1_hasPart l D cI cC adK adV (z 7) (zS z) s1 s2 s3 (ix t) j k (by omega)) k3_186 cv_X1_hasPart 0 rfl rfl rfl [5, 0, 1, 2, 3, 4] (fl1 _) rfl 6 rfl (by decide) ⟨by decide, by decide⟩ rfl rfl ⟨by decide, by decide⟩ rfl rfl (Nat.le_of_ble_eq_true rfl) dX4_copy_98 ?_
              refine aw_ifne_b C 110 dX4_copy_101 (by decide) (fun c_101 => ?_) (fun c_101 => ?_)
              · skip
                have p1 := part_le hS hs (show hPart (s2 (ix s)) i k = true from c_86)
                have p2 := part_le hS ht (show hPart (s2 (ix t)) j k = true from c_101)
                have p3 := p1.2.2
                have p4 := p2.2.2
                have e3 : i = nI (ix i) := p1.1
                refine aw_eq (lv' := [(0, .ref (z 0)), (1, .int (nI (ix s))), (2, .int (nI (ix i))), (3, .int (nI (ix t))), (4, .int j), (5, .int k)]) (ws' := fl [wMa cI z ik F, wTo cI (z 2) (zT z) T, wTo cI (z 3) (zR z) R, wTo cI (z 4) (zK z) K, wTp cI (z 5) (z 6) f n tk bg en nm, wSh cI (z 7) (zS z) s1 s2 s3]) (by rw [← e3]) rfl rfl ?_
                have e4 : j = nI (ix j) := p2.1
                refine aw_eq (lv' := [(0, .ref (z 0)), (1, .int (nI (ix s))), (2, .int (nI (ix i))), (3, .int (nI (ix t))), (4, .int (nI (ix j))), (5, .int k)]) (ws' := fl [wMa cI z ik F, wTo cI (z 2) (zT z) T, wTo cI (z 3) (zR z) R, wTo cI (z 4) (zK z) K, wTp cI (z 5) (z 6) f n tk bg en nm, wSh cI (z 7) (zS z) s1 s2 s3]) (by rw [← e4]) rfl rfl ?_
                have e5 : k = nI (ix k) := p1.2.1
                refine aw_eq (lv' := [(0, .ref (z 0)), (1, .int (nI (ix s))), (2, .int (nI (ix i))), (3, .int (nI (ix t))), (4, .int (nI (ix j))), (5, .int (nI (ix k)))]) (ws' := fl [wMa cI z ik F, wTo cI (z 2) (zT z) T, wTo cI (z 3) (zR z) R, wTo cI (z 4) (zK z) K, wTp cI (z 5) (z 6) f n tk bg en nm, wSh cI (z 7) (zS z) s1 s2 s3]) (by rw [← e5]) rfl rfl ?_
                refine aw_aload_n C dX4_copy_110 rfl ?_
                refine aw_getf C 0 3 5 7 inX4 rfl (by decide) rfl k1_122 rfl rfl dX4_copy_111 ?_
                refine aw_pc 114 rfl ?_
                refine aw_iload_n C dX4_copy_114 rfl ?_
                refine aw_iload_n C dX4_copy_115 rfl ?_
                refine aw_iload_n C dX4_copy_116 rfl ?_
                refine aw_iload C dX4_copy_117 rfl ?_
                refine aw_iload C dX4_copy_119 rfl ?_
                refine aw_gVdv C (As := [.int (nI (ix s)), .int (nI (ix i)), .int (nI (ix t)), .int (nI (ix j)), .int (nI (ix k))]) (c_X1_move l D cI cC adK adV (z 7) (zS z) s1 s2 s3 (ix s) (ix i) (ix t) (ix j) (ix k) (by omega) (by omega) (by omega) (by omega)) k3_190 cv_X1_move 0 rfl rfl rfl [5, 0, 1, 2, 3, 4] (fl1 _) rfl 6 rfl (by decide) (gc := [wSh cI (z 7) (zS z) s1 s2 s3]) (gr := [wMa cI z ik F, wTo cI (z 2) (zT z) T, wTo cI (z 3) (zR z) R, wTo cI (z 4) (zK z) K, wTp cI (z 5) (z 6) f n tk bg en nm]) (gc1 := [wSh cI (z 7) (zS z) s1 s2 (va_cpy s3 s3 ((ix s) * 40 + (ix i)) ((ix t) * 40 + (ix j)) (ix k))]) (gs' := [wMa cI z ik F, wTo cI (z 2) (zT z) T, wTo cI (z 3) (zR z) R, wTo cI (z 4) (zK z) K, wTp cI (z 5) (z 6) f n tk bg en nm, wSh cI (z 7) (zS z) s1 s2 (va_cpy s3 s3 ((ix s) * 40 + (ix i)) ((ix t) * 40 + (ix j)) (ix k))]) (fl1 _) rfl rfl ⟨by decide, by decide⟩ rfl rfl ⟨by decide, by decide⟩ rfl rfl (Nat.le_of_ble_eq_true rfl) dX4_copy_121 ?_
                refine aw_iload C dX4_copy_124 rfl ?_
                have hm : m_copy (T, K, ik, F, f, n, s1, s2, s3) s i t j k = ((nI (ix k)), (T, K, ik, F, f, n, s1, s2, (va_cpy s3 s3 ((ix s) * 40 + (ix i)) ((ix t) * 40 + (ix j)) (ix k)))) := by simp only [m_copy, hPart, c_5, c_13, c_30, c_41, c_66, c_86, c_101, decide_true, decide_false, Bool.not_true, Bool.not_false, Bool.true_and, Bool.false_and, Bool.and_true, Bool.and_false, Bool.true_or, Bool.false_or, Bool.or_true, Bool.or_false, cond_true, cond_false, eq_self, if_true, if_false, ite_true, ite_false] <;> first | rfl | (rw [← p1.2.1] <;> rfl)
                exact aw_iret C hr hlk dX4_copy_126 ⟨ri (by rw [hm]), R, tk, bg, en, nm, by rw [hm]; rfl⟩
              · skip
                refine aw_sub (lv' := [(0, .ref (z 0))]) [0] rfl ?_
                exact J104 (by simp only [m_copy, hPart, c_5, c_13, c_30, c_41, c_66, c_86, c_101, decide_true, decide_false, Bool.not_true, Bool.not_false, Bool.true_and, Bool.false_and, Bool.and_true, Bool.and_false, Bool.true_or, Bool.false_or, Bool.or_true, Bool.or_false, cond_true, cond_false, eq_self, if_true, if_false, ite_true, ite_false])
          · skip
            refine aw_sub (lv' := [(0, .ref (z 0))]) [0] rfl ?_
            exact J69 (by simp only [m_copy, hPart, c_5, c_13, c_30, c_41, c_66, decide_true, decide_false, Bool.not_true, Bool.not_false, Bool.true_and, Bool.false_and, Bool.and_true, Bool.and_false, Bool.true_or, Bool.false_or, Bool.or_true, Bool.or_false, cond_true, cond_false, eq_self, if_true, if_false, ite_true, ite_false])
        · skip
          refine aw_sub (lv' := [(0, .ref (z 0))]) [0] rfl ?_
          exact J44 (by simp only [m_copy, hPart, c_5, c_13, c_30, c_41, decide_true, decide_false, Bool.not_true, Bool.not_false, Bool.true_and, Bool.false_and, Bool.and_true, Bool.and_false, Bool.true_or, Bool.false_or, Bool.or_true, Bool.or_false, cond_true, cond_false, eq_self, if_true, if_false, ite_true, ite_false])
    · skip
      refine aw_sub (lv' := [(0, .ref (z 0))]) [0] rfl ?_
      exact J16 (by simp only [m_copy, hPart, c_5, c_13, decide_true, decide_false, Bool.not_true, Bool.not_false, Bool.true_and, Bool.false_and, Bool.and_true, Bool.and_false, Bool.true_or, Bool.false_or, Bool.or_true, Bool.or_false, cond_true, cond_false, eq_self, if_true, if_false, ite_true, ite_false])
abbrev r_X4_image : Room := { frames := 2, cells := 0, slots := 0, locals := 39 }
theorem cv_X4_image : cV yX4_image cX4_image 1 (some .int) 0 := ⟨k3_205, k3_206, k3_207, k1_1, by decide, by decide, by decide +kernel⟩
set_option maxHeartbeats 4000000 in
set_option maxRecDepth 100000 in
theorem c_X4_image (l : Launch) (D : va_G) (cI cC : ClassId) (adK adV : Nat → Nat) (z : Nat → Nat) (T R K : Tw) (ik : Bool) (F f : Nat → Int32) (n : Nat) (tk : Int32) (bg en : Nat) (nm : Int32) (s1 s2 s3 : Nat → Int32)  : FC l yX4_image (wW yX4_image cX4_image 1 (some .int)) r_X4_image D (tyC cI cC) adK adV (wBa cI z T R K ik F f n tk bg en nm s1 s2 s3) [.ref (z 0)] 0 0 (pBa cI z (m_image (T, K, ik, F, f, n, s1, s2, s3))) := by
  refine FC.of (own := RX4) (by decide) rfl (Nat.le_of_ble_eq_true rfl) ?_
  intro p9 e9 s9 m9 args9 below9 meth9 c9 A9 C hr hlk hmn
  show AW p9 l e9 r_X4_image s9 m9 args9 below9 meth9 c9 D A9 1 0 0 _ 0 [(0, .ref (z 0))] [] _
  refine aw_eq (lv' := [(0, .ref (z 0))]) (ws' := fl [wMa cI z ik F, wTo cI (z 2) (zT z) T, wTo cI (z 3) (zR z) R, wTo cI (z 4) (zK z) K, wTp cI (z 5) (z 6) f n tk bg en nm, wSh cI (z 7) (zS z) s1 s2 s3]) rfl rfl rfl ?_
  refine aw_aload_n C dX4_image_0 rfl ?_
  refine aw_getf C 0 3 2 7 inX4 rfl (by decide) rfl k1_119 rfl rfl dX4_image_1 ?_
  refine aw_aload_n C dX4_image_4 rfl ?_
  refine aw_getf C 0 3 0 7 inX4 rfl (by decide) rfl k1_117 rfl rfl dX4_image_5 ?_
  refine aw_gVdv C (As := [.ref (z 2)]) (c_X3_become l D cI cC adK adV (z 4) (z 2) (zK z) (zT z) K T) k2_113 cv_X3_become 2 rfl rfl rfl [3, 1, 0, 2, 4, 5] (fl2 _ _) rfl 6 rfl (by decide) (gc := [wTo cI (z 4) (zK z) K, wTo cI (z 2) (zT z) T]) (gr := [wMa cI z ik F, wTo cI (z 3) (zR z) R, wTp cI (z 5) (z 6) f n tk bg en nm, wSh cI (z 7) (zS z) s1 s2 s3]) (gc1 := [wTo cI (z 4) (zK z) T, wTo cI (z 2) (zT z) T]) (gs' := [wMa cI z ik F, wTo cI (z 2) (zT z) T, wTo cI (z 3) (zR z) R, wTo cI (z 4) (zK z) T, wTp cI (z 5) (z 6) f n tk bg en nm, wSh cI (z 7) (zS z) s1 s2 s3]) (fl2 _ _) rfl rfl ⟨by decide, by decide⟩ rfl rfl ⟨by decide, by decide⟩ rfl rfl (Nat.le_of_ble_eq_true rfl) dX4_image_8 ?_
  refine aw_aload_n C dX4_image_11 rfl ?_
  refine aw_iconst C (1 : Int32) dX4_image_12 (by decide) ?_
  refine aw_putf C 0 3 3 7 tyX4 inX4 tyX4_ok nmX4 rfl (by decide) rfl k1_120 rfl rfl rfl rfl rfl (Nat.le_of_ble_eq_true rfl) (ws' := fl [wMa cI z true F, wTo cI (z 2) (zT z) T, wTo cI (z 3) (zR z) R, wTo cI (z 4) (zK z) T, wTp cI (z 5) (z 6) f n tk bg en nm, wSh cI (z 7) (zS z) s1 s2 s3]) rfl dX4_image_13 ?_
  refine aw_iconst C (1 : Int32) dX4_image_16 (by decide) ?_
  refine aw_pc 17 rfl ?_
  have hm : m_image (T, K, ik, F, f, n, s1, s2, s3) = ((1 : Int32), (T, T, true, F, f, n, s1, s2, s3)) := by rfl
  exact aw_iret C hr hlk dX4_image_17 ⟨ri (by rw [hm]), R, tk, bg, en, nm, by rw [hm]; rfl⟩
abbrev r_X4_undo : Room := { frames := 2, cells := 0, slots := 0, locals := 42 }
theorem cv_X4_undo : cV yX4_undo cX4_undo 1 (some .int) 0 := ⟨k3_209, k3_210, k3_211, k1_1, by decide, by decide, by decide +kernel⟩
set_option maxHeartbeats 4000000 in
set_option maxRecDepth 100000 in
theorem c_X4_undo (l : Launch) (D : va_G) (cI cC : ClassId) (adK adV : Nat → Nat) (z : Nat → Nat) (T R K : Tw) (ik : Bool) (F f : Nat → Int32) (n : Nat) (tk : Int32) (bg en : Nat) (nm : Int32) (s1 s2 s3 : Nat → Int32)  : FC l yX4_undo (wW yX4_undo cX4_undo 1 (some .int)) r_X4_undo D (tyC cI cC) adK adV (wBa cI z T R K ik F f n tk bg en nm s1 s2 s3) [.ref (z 0)] 0 0 (pBa cI z (m_undo (T, K, ik, F, f, n, s1, s2, s3))) := by
  refine FC.of (own := RX4) (by decide) rfl (Nat.le_of_ble_eq_true rfl) ?_
  intro p9 e9 s9 m9 args9 below9 meth9 c9 A9 C hr hlk hmn
  show AW p9 l e9 r_X4_undo s9 m9 args9 below9 meth9 c9 D A9 1 0 0 _ 0 [(0, .ref (z 0))] [] _
  refine aw_eq (lv' := [(0, .ref (z 0))]) (ws' := fl [wMa cI z ik F, wTo cI (z 2) (zT z) T, wTo cI (z 3) (zR z) R, wTo cI (z 4) (zK z) K, wTp cI (z 5) (z 6) f n tk bg en nm, wSh cI (z 7) (zS z) s1 s2 s3]) rfl rfl rfl ?_
  have J7 : m_undo (T, K, ik, F, f, n, s1, s2, s3) = gno (T, K, ik, F, f, n, s1, s2, s3) 3 → AW p9 l e9 r_X4_undo s9 m9 args9 below9 meth9 c9 D A9 1 0 0 (aQ below9 args9 s9 D A9 0 0 (pBa cI z (m_undo (T, K, ik, F, f, n, s1, s2, s3)))) 7 [(0, .ref (z 0))] [] (fl [wMa cI z ik F, wTo cI (z 2) (zT z) T, wTo cI (z 3) (zR z) R, wTo cI (z 4) (zK z) K, wTp cI (z 5) (z 6) f n tk bg en nm, wSh cI (z 7) (zS z) s1 s2 s3]) := by
    intro hj
    refine aw_aload_n C dX4_undo_7 rfl ?_
    refine aw_iconst C (3 : Int32) dX4_undo_8 (by decide) ?_
    refine aw_gVd C (As := [.int (3 : Int32)]) (c_X4_finding l D cI cC adK adV z ik F 3 (by decide)) k1_146 cv_X4_finding 3 rfl rfl rfl [0, 1, 2, 3, 4, 5] (fl1 _) rfl 6 rfl (by decide) (gc := [wMa cI z ik F]) (gr := [wTo cI (z 2) (zT z) T, wTo cI (z 3) (zR z) R, wTo cI (z 4) (zK z) K, wTp cI (z 5) (z 6) f n tk bg en nm, wSh cI (z 7) (zS z) s1 s2 s3]) (gc1 := [wMa cI z ik (upd F 3 (F 3 + 1))]) (gs' := [wMa cI z ik (upd F 3 (F 3 + 1)), wTo cI (z 2) (zT z) T, wTo cI (z 3) (zR z) R, wTo cI (z 4) (zK z) K, wTp cI (z 5) (z 6) f n tk bg en nm, wSh cI (z 7) (zS z) s1 s2 s3]) (fl1 _) rfl rfl ⟨by decide, by decide⟩ rfl rfl ⟨by decide, by decide⟩ rfl rfl (Nat.le_of_ble_eq_true rfl) dX4_undo_9 ?_
    have hm : m_undo (T, K, ik, F, f, n, s1, s2, s3) = ((fno 3), (T, K, ik, (upd F 3 (F 3 + 1)), f, n, s1, s2, s3)) := by rw [hj]; rfl
    exact aw_iret C hr hlk dX4_undo_12 ⟨ri (by rw [hm]), R, tk, bg, en, nm, by rw [hm]; rfl⟩
  refine aw_aload_n C dX4_undo_0 rfl ?_
  refine aw_getf C 0 3 3 7 inX4 rfl (by decide) rfl k1_120 rfl rfl dX4_undo_1 ?_
  refine aw_ifne_b C 13 dX4_undo_4 (by decide) (fun c_4 => ?_) (fun c_4 => ?_)
  · skip
    refine aw_aload_n C dX4_undo_13 rfl ?_
    refine aw_getf C 0 3 0 7 inX4 rfl (by decide) rfl k1_117 rfl rfl dX4_undo_14 ?_
    refine aw_pc 17 rfl ?_
    refine aw_aload_n C dX4_undo_17 rfl ?_
    refine aw_getf C 0 3 2 7 inX4 rfl (by decide) rfl k1_119 rfl rfl dX4_undo_18 ?_
    refine aw_gVdv C (As := [.ref (z 4)]) (c_X3_become l D cI cC adK adV (z 2) (z 4) (zT z) (zK z) T K) k2_113 cv_X3_become 2 rfl rfl rfl [1, 3, 0, 2, 4, 5] (fl2 _ _) rfl 6 rfl (by decide) (gc := [wTo cI (z 2) (zT z) T, wTo cI (z 4) (zK z) K]) (gr := [wMa cI z ik F, wTo cI (z 3) (zR z) R, wTp cI (z 5) (z 6) f n tk bg en nm, wSh cI (z 7) (zS z) s1 s2 s3]) (gc1 := [wTo cI (z 2) (zT z) K, wTo cI (z 4) (zK z) K]) (gs' := [wMa cI z ik F, wTo cI (z 2) (zT z) K, wTo cI (z 3) (zR z) R, wTo cI (z 4) (zK z) K, wTp cI (z 5) (z 6) f n tk bg en nm, wSh cI (z 7) (zS z) s1 s2 s3]) (fl2 _ _) rfl rfl ⟨by decide, by decide⟩ rfl rfl ⟨by decide, by decide⟩ rfl rfl (Nat.le_of_ble_eq_true rfl) dX4_undo_21 ?_
    refine aw_aload_n C dX4_undo_24 rfl ?_
    refine aw_getf C 0 3 0 7 inX4 rfl (by decide) rfl k1_117 rfl rfl dX4_undo_25 ?_
    refine aw_getf C 2 2 1 12 inX3 rfl (by decide) rfl k1_36 rfl rfl dX4_undo_28 ?_
    have hm : m_undo (T, K, ik, F, f, n, s1, s2, s3) = ((K.2.1 0), (K, K, ik, F, f, n, s1, s2, s3)) := by simp only [m_undo, c_4, decide_true, decide_false, Bool.not_true, Bool.not_false, Bool.true_and, Bool.false_and, Bool.and_true, Bool.and_false, Bool.true_or, Bool.false_or, Bool.or_true, Bool.or_false, cond_true, cond_false, eq_self, if_true, if_false, ite_true, ite_false] <;> rfl
    exact aw_iret C hr hlk dX4_undo_31 ⟨ri (by rw [hm]), R, tk, bg, en, nm, by rw [hm]; rfl⟩
  · skip
    exact J7 (by simp only [m_undo, c_4, decide_true, decide_false, Bool.not_true, Bool.not_false, Bool.true_and, Bool.false_and, Bool.and_true, Bool.and_false, Bool.true_or, Bool.false_or, Bool.or_true, Bool.or_false, cond_true, cond_false, eq_self, if_true, if_false, ite_true, ite_false] <;> rfl)
abbrev r_X4_tear : Room := { frames := 1, cells := 0, slots := 0, locals := 20 }
theorem cv_X4_tear : cV yX4_tear cX4_tear 2 (some .int) 0 := ⟨k3_213, k3_214, k3_215, k1_1, by decide, by decide, by decide +kernel⟩
set_option maxHeartbeats 4000000 in
set_option maxRecDepth 100000 in
theorem c_X4_tear (l : Launch) (D : va_G) (cI cC : ClassId) (adK adV : Nat → Nat) (z : Nat → Nat) (T R K : Tw) (ik : Bool) (F f : Nat → Int32) (n : Nat) (tk : Int32) (bg en : Nat) (nm : Int32) (s1 s2 s3 : Nat → Int32)  : FC l yX4_tear (wW yX4_tear cX4_tear 2 (some .int)) r_X4_tear D (tyC cI cC) adK adV (wBa cI z T R K ik F f n tk bg en nm s1 s2 s3) [.ref (z 0)] 0 0 (pBa cI z (m_tear (T, K, ik, F, f, n, s1, s2, s3))) := by
  refine FC.of (own := RX4) (by decide) rfl (Nat.le_of_ble_eq_true rfl) ?_
  intro p9 e9 s9 m9 args9 below9 meth9 c9 A9 C hr hlk hmn
  show AW p9 l e9 r_X4_tear s9 m9 args9 below9 meth9 c9 D A9 2 0 0 _ 0 [(0, .ref (z 0))] [] _
  refine aw_eq (lv' := [(0, .ref (z 0))]) (ws' := fl [wMa cI z ik F, wTo cI (z 2) (zT z) T, wTo cI (z 3) (zR z) R, wTo cI (z 4) (zK z) K, wTp cI (z 5) (z 6) f n tk bg en nm, wSh cI (z 7) (zS z) s1 s2 s3]) rfl rfl rfl ?_
  refine aw_aload_n C dX4_tear_0 rfl ?_
  refine aw_getf C 0 3 3 7 inX4 rfl (by decide) rfl k1_120 rfl rfl dX4_tear_1 ?_
  refine aw_callSp C (As := [.int (b2 ik)]) (c_X4_bit l D cI cC adK adV ik) k1_227 cs_X4_bit [] (by decide) rfl ⟨by decide, by decide⟩ rfl rfl ⟨by decide, by decide⟩ rfl rfl (Nat.le_of_ble_eq_true rfl) dX4_tear_4 ?_
  refine aw_istore_n C true (lv' := [(0, .ref (z 0)), (1, .int (b2 ik))]) dX4_tear_7 (by decide) rfl rfl ?_
  refine aw_aload_n C dX4_tear_8 rfl ?_
  refine aw_iconst C (0 : Int32) dX4_tear_9 (by decide) ?_
  refine aw_putf C 0 3 3 7 tyX4 inX4 tyX4_ok nmX4 rfl (by decide) rfl k1_120 rfl rfl rfl rfl rfl (Nat.le_of_ble_eq_true rfl) (ws' := fl [wMa cI z false F, wTo cI (z 2) (zT z) T, wTo cI (z 3) (zR z) R, wTo cI (z 4) (zK z) K, wTp cI (z 5) (z 6) f n tk bg en nm, wSh cI (z 7) (zS z) s1 s2 s3]) rfl dX4_tear_10 ?_
  refine aw_iload_n C dX4_tear_13 rfl ?_
  have hm : m_tear (T, K, ik, F, f, n, s1, s2, s3) = ((b2 ik), (T, K, false, F, f, n, s1, s2, s3)) := by rfl
  exact aw_iret C hr hlk dX4_tear_14 ⟨ri (by rw [hm]), R, tk, bg, en, nm, by rw [hm]; rfl⟩
abbrev r_X4_count : Room := { frames := 4, cells := 0, slots := 0, locals := 87 }
theorem cv_X4_count : cV yX4_count cX4_count 2 (some .int) 1 := ⟨k3_217, k3_218, k3_219, k1_1, by decide, by decide, by decide +kernel⟩
set_option maxHeartbeats 4000000 in
set_option maxRecDepth 100000 in
theorem c_X4_count (l : Launch) (D : va_G) (cI cC : ClassId) (adK adV : Nat → Nat) (z : Nat → Nat) (T R K : Tw) (ik : Bool) (F f : Nat → Int32) (n : Nat) (tk : Int32) (bg en : Nat) (nm : Int32) (s1 s2 s3 : Nat → Int32) (w : Int32) (hn : T.1 ≤ 8) : FC l yX4_count (wW yX4_count cX4_count 2 (some .int)) r_X4_count D (tyC cI cC) adK adV (wBa cI z T R K ik F f n tk bg en nm s1 s2 s3) [.ref (z 0), .int w] 0 0 (pBa cI z (m_count (T, K, ik, F, f, n, s1, s2, s3) w)) := by
  refine FC.of (own := RX4) (by decide) rfl (Nat.le_of_ble_eq_true rfl) ?_
  intro p9 e9 s9 m9 args9 below9 meth9 c9 A9 C hr hlk hmn
  show AW p9 l e9 r_X4_count s9 m9 args9 below9 meth9 c9 D A9 2 0 0 _ 0 [(0, .ref (z 0)), (1, .int w)] [] _
  refine aw_eq (lv' := [(0, .ref (z 0)), (1, .int w)]) (ws' := fl [wMa cI z ik F, wTo cI (z 2) (zT z) T, wTo cI (z 3) (zR z) R, wTo cI (z 4) (zK z) K, wTp cI (z 5) (z 6) f n tk bg en nm, wSh cI (z 7) (zS z) s1 s2 s3]) rfl rfl rfl ?_
  have J112 : m_count (T, K, ik, F, f, n, s1, s2, s3) w = gno (T, K, ik, F, f, n, s1, s2, s3) 0 → AW p9 l e9 r_X4_count s9 m9 args9 below9 meth9 c9 D A9 2 0 0 (aQ below9 args9 s9 D A9 0 0 (pBa cI z (m_count (T, K, ik, F, f, n, s1, s2, s3) w))) 112 [(0, .ref (z 0))] [] (fl [wMa cI z ik F, wTo cI (z 2) (zT z) T, wTo cI (z 3) (zR z) R, wTo cI (z 4) (zK z) K, wTp cI (z 5) (z 6) f n tk bg en nm, wSh cI (z 7) (zS z) s1 s2 s3]) := by
    intro hj
    refine aw_aload_n C dX4_count_112 rfl ?_
    refine aw_iconst C (0 : Int32) dX4_count_113 (by decide) ?_
    refine aw_gVd C (As := [.int (0 : Int32)]) (c_X4_finding l D cI cC adK adV z ik F 0 (by decide)) k1_146 cv_X4_finding 3 rfl rfl rfl [0, 1, 2, 3, 4, 5] (fl1 _) rfl 6 rfl (by decide) (gc := [wMa cI z ik F]) (gr := [wTo cI (z 2) (zT z) T, wTo cI (z 3) (zR z) R, wTo cI (z 4) (zK z) K, wTp cI (z 5) (z 6) f n tk bg en nm, wSh cI (z 7) (zS z) s1 s2 s3]) (gc1 := [wMa cI z ik (upd F 0 (F 0 + 1))]) (gs' := [wMa cI z ik (upd F 0 (F 0 + 1)), wTo cI (z 2) (zT z) T, wTo cI (z 3) (zR z) R, wTo cI (z 4) (zK z) K, wTp cI (z 5) (z 6) f n tk bg en nm, wSh cI (z 7) (zS z) s1 s2 s3]) (fl1 _) rfl rfl ⟨by decide, by decide⟩ rfl rfl ⟨by decide, by decide⟩ rfl rfl (Nat.le_of_ble_eq_true rfl) dX4_count_114 ?_
    have hm : m_count (T, K, ik, F, f, n, s1, s2, s3) w = ((fno 0), (T, K, ik, (upd F 0 (F 0 + 1)), f, n, s1, s2, s3)) := by rw [hj]; rfl
    exact aw_iret C hr hlk dX4_count_117 ⟨ri (by rw [hm]), R, tk, bg, en, nm, by rw [hm]; rfl⟩
  refine aw_iload_n C dX4_count_0 rfl ?_
  by_cases s_1_0 : w = (0 : Int32)
  · skip
    refine aw_tabIn C (0) 48 dX4_count_1 (by rw [s_1_0]; rfl) (by decide) (by decide) rfl (by decide) ?_
    refine aw_aload_n C dX4_count_48 rfl ?_
    refine aw_getf C 0 3 0 7 inX4 rfl (by decide) rfl k1_117 rfl rfl dX4_count_49 ?_
    refine aw_getf C 2 2 1 12 inX3 rfl (by decide) rfl k1_36 rfl rfl dX4_count_52 ?_
    refine aw_pc 55 rfl ?_
    have hm : m_count (T, K, ik, F, f, n, s1, s2, s3) w = ((T.2.1 0), (T, K, ik, F, f, n, s1, s2, s3)) := by simp only [m_count, if_pos s_1_0, decide_true, decide_false, Bool.not_true, Bool.not_false, Bool.true_and, Bool.false_and, Bool.and_true, Bool.and_false, Bool.true_or, Bool.false_or, Bool.or_true, Bool.or_false, cond_true, cond_false, eq_self, if_true, if_false, ite_true, ite_false] <;> rfl
    exact aw_iret C hr hlk dX4_count_55 ⟨ri (by rw [hm]), R, tk, bg, en, nm, by rw [hm]; rfl⟩
  by_cases s_1_1 : w = (1 : Int32)
  · skip
    refine aw_tabIn C (1) 56 dX4_count_1 (by rw [s_1_1]; rfl) (by decide) (by decide) rfl (by decide) ?_
    refine aw_aload_n C dX4_count_56 rfl ?_
    refine aw_getf C 0 3 0 7 inX4 rfl (by decide) rfl k1_117 rfl rfl dX4_count_57 ?_
    refine aw_getf C 2 2 0 12 inX3 rfl (by decide) rfl k1_34 rfl rfl dX4_count_60 ?_
    have hm : m_count (T, K, ik, F, f, n, s1, s2, s3) w = ((nI T.1), (T, K, ik, F, f, n, s1, s2, s3)) := by simp only [m_count, if_pos s_1_1, if_neg s_1_0, decide_true, decide_false, Bool.not_true, Bool.not_false, Bool.true_and, Bool.false_and, Bool.and_true, Bool.and_false, Bool.true_or, Bool.false_or, Bool.or_true, Bool.or_false, cond_true, cond_false, eq_self, if_true, if_false, ite_true, ite_false] <;> rfl
    exact aw_iret C hr hlk dX4_count_63 ⟨ri (by rw [hm]), R, tk, bg, en, nm, by rw [hm]; rfl⟩
  by_cases s_1_2 : w = (2 : Int32)
  · skip
    refine aw_tabIn C (2) 64 dX4_count_1 (by rw [s_1_2]; rfl) (by decide) (by decide) rfl (by decide) ?_
    refine aw_aload_n C dX4_count_64 rfl ?_
    refine aw_getf C 0 3 0 7 inX4 rfl (by decide) rfl k1_117 rfl rfl dX4_count_65 ?_
    refine aw_getf C 2 2 2 12 inX3 rfl (by decide) rfl k1_38 rfl rfl dX4_count_68 ?_
    have hm : m_count (T, K, ik, F, f, n, s1, s2, s3) w = ((T.2.1 3), (T, K, ik, F, f, n, s1, s2, s3)) := by simp only [m_count, if_pos s_1_2, if_neg s_1_0, if_neg s_1_1, decide_true, decide_false, Bool.not_true, Bool.not_false, Bool.true_and, Bool.false_and, Bool.and_true, Bool.and_false, Bool.true_or, Bool.false_or, Bool.or_true, Bool.or_false, cond_true, cond_false, eq_self, if_true, if_false, ite_true, ite_false] <;> rfl
    exact aw_iret C hr hlk dX4_count_71 ⟨ri (by rw [hm]), R, tk, bg, en, nm, by rw [hm]; rfl⟩
  by_cases s_1_3 : w = (3 : Int32)
  · skip
    refine aw_tabIn C (3) 72 dX4_count_1 (by rw [s_1_3]; rfl) (by decide) (by decide) rfl (by decide) ?_
    refine aw_aload_n C dX4_count_72 rfl ?_
    refine aw_pc 73 rfl ?_
    refine aw_getf C 0 3 0 7 inX4 rfl (by decide) rfl k1_117 rfl rfl dX4_count_73 ?_
    refine aw_gVp C (As := []) (c_X3_knowingPairs l D cI cC adK adV (z 2) (zT z) T  hn) k2_88 cv_X3_knowingPairs 2 rfl rfl rfl [1, 0, 2, 3, 4, 5] (fl1 _) rfl 6 rfl (by decide) ⟨by decide, by decide⟩ rfl rfl ⟨by decide, by decide⟩ rfl rfl (Nat.le_of_ble_eq_true rfl) dX4_count_76 ?_
    have hm : m_count (T, K, ik, F, f, n, s1, s2, s3) w = ((mPairs T 4), (T, K, ik, F, f, n, s1, s2, s3)) := by simp only [m_count, if_pos s_1_3, if_neg s_1_0, if_neg s_1_1, if_neg s_1_2, decide_true, decide_false, Bool.not_true, Bool.not_false, Bool.true_and, Bool.false_and, Bool.and_true, Bool.and_false, Bool.true_or, Bool.false_or, Bool.or_true, Bool.or_false, cond_true, cond_false, eq_self, if_true, if_false, ite_true, ite_false] <;> rfl
    exact aw_iret C hr hlk dX4_count_79 ⟨ri (by rw [hm]), R, tk, bg, en, nm, by rw [hm]; rfl⟩
  by_cases s_1_4 : w = (4 : Int32)
  · skip
    refine aw_tabIn C (4) 80 dX4_count_1 (by rw [s_1_4]; rfl) (by decide) (by decide) rfl (by decide) ?_
    refine aw_aload_n C dX4_count_80 rfl ?_
    refine aw_getf C 0 3 0 7 inX4 rfl (by decide) rfl k1_117 rfl rfl dX4_count_81 ?_
    refine aw_gVp C (As := []) (c_X3_passedInAll l D cI cC adK adV (z 2) (zT z) T  hn) k2_104 cv_X3_passedInAll 2 rfl rfl rfl [1, 0, 2, 3, 4, 5] (fl1 _) rfl 6 rfl (by decide) ⟨by decide, by decide⟩ rfl rfl ⟨by decide, by decide⟩ rfl rfl (Nat.le_of_ble_eq_true rfl) dX4_count_84 ?_
    have hm : m_count (T, K, ik, F, f, n, s1, s2, s3) w = ((mPassed T), (T, K, ik, F, f, n, s1, s2, s3)) := by simp only [m_count, if_pos s_1_4, if_neg s_1_0, if_neg s_1_1, if_neg s_1_2, if_neg s_1_3, decide_true, decide_false, Bool.not_true, Bool.not_false, Bool.true_and, Bool.false_and, Bool.and_true, Bool.and_false, Bool.true_or, Bool.false_or, Bool.or_true, Bool.or_false, cond_true, cond_false, eq_self, if_true, if_false, ite_true, ite_false] <;> rfl
    exact aw_iret C hr hlk dX4_count_87 ⟨ri (by rw [hm]), R, tk, bg, en, nm, by rw [hm]; rfl⟩
  by_cases s_1_5 : w = (5 : Int32)
  · skip
    refine aw_tabIn C (5) 88 dX4_count_1 (by rw [s_1_5]; rfl) (by decide) (by decide) rfl (by decide) ?_
    refine aw_aload_n C dX4_count_88 rfl ?_
    refine aw_getf C 0 3 4 7 inX4 rfl (by decide) rfl k1_121 rfl rfl dX4_count_89 ?_
    refine aw_gVp C (As := []) (c_X2_length l D cI cC adK adV (z 5) (z 6) f n tk bg en nm ) k3_2 cv_X2_length 1 rfl rfl rfl [4, 0, 1, 2, 3, 5] (fl1 _) rfl 6 rfl (by decide) ⟨by decide, by decide⟩ rfl rfl ⟨by decide, by decide⟩ rfl rfl (Nat.le_of_ble_eq_true rfl) dX4_count_92 ?_
    refine aw_pc 95 rfl ?_
    have hm : m_count (T, K, ik, F, f, n, s1, s2, s3) w = ((nI n), (T, K, ik, F, f, n, s1, s2, s3)) := by simp only [m_count, if_pos s_1_5, if_neg s_1_0, if_neg s_1_1, if_neg s_1_2, if_neg s_1_3, if_neg s_1_4, decide_true, decide_false, Bool.not_true, Bool.not_false, Bool.true_and, Bool.false_and, Bool.and_true, Bool.and_false, Bool.true_or, Bool.false_or, Bool.or_true, Bool.or_false, cond_true, cond_false, eq_self, if_true, if_false, ite_true, ite_false] <;> rfl
    exact aw_iret C hr hlk dX4_count_95 ⟨ri (by rw [hm]), R, tk, bg, en, nm, by rw [hm]; rfl⟩
  by_cases s_1_6 : w = (6 : Int32)
  · skip
    refine aw_tabIn C (6) 96 dX4_count_1 (by rw [s_1_6]; rfl) (by decide) (by decide) rfl (by decide) ?_
    refine aw_aload_n C dX4_count_96 rfl ?_
    refine aw_getf C 0 3 0 7 inX4 rfl (by decide) rfl k1_117 rfl rfl dX4_count_97 ?_
    refine aw_getf C 2 2 3 12 inX3 rfl (by decide) rfl k1_40 rfl rfl dX4_count_100 ?_
    have hm : m_count (T, K, ik, F, f, n, s1, s2, s3) w = ((T.2.1 2), (T, K, ik, F, f, n, s1, s2, s3)) := by simp only [m_count, if_pos s_1_6, if_neg s_1_0, if_neg s_1_1, if_neg s_1_2, if_neg s_1_3, if_neg s_1_4, if_neg s_1_5, decide_true, decide_false, Bool.not_true, Bool.not_false, Bool.true_and, Bool.false_and, Bool.and_true, Bool.and_false, Bool.true_or, Bool.false_or, Bool.or_true, Bool.or_false, cond_true, cond_false, eq_self, if_true, if_false, ite_true, ite_false] <;> rfl
    exact aw_iret C hr hlk dX4_count_103 ⟨ri (by rw [hm]), R, tk, bg, en, nm, by rw [hm]; rfl⟩
  by_cases s_1_7 : w = (7 : Int32)
  · skip
    refine aw_tabIn C (7) 104 dX4_count_1 (by rw [s_1_7]; rfl) (by decide) (by decide) rfl (by decide) ?_
    refine aw_aload_n C dX4_count_104 rfl ?_
    refine aw_getf C 0 3 0 7 inX4 rfl (by decide) rfl k1_117 rfl rfl dX4_count_105 ?_
    refine aw_gVp C (As := []) (c_X3_heldSpots l D cI cC adK adV (z 2) (zT z) T ) k3_220 cv_X3_heldSpots 2 rfl rfl rfl [1, 0, 2, 3, 4, 5] (fl1 _) rfl 6 rfl (by decide) ⟨by decide, by decide⟩ rfl rfl ⟨by decide, by decide⟩ rfl rfl (Nat.le_of_ble_eq_true rfl) dX4_count_108 ?_
    have hm : m_count (T, K, ik, F, f, n, s1, s2, s3) w = ((mHeld T), (T, K, ik, F, f, n, s1, s2, s3)) := by simp only [m_count, if_pos s_1_7, if_neg s_1_0, if_neg s_1_1, if_neg s_1_2, if_neg s_1_3, if_neg s_1_4, if_neg s_1_5, if_neg s_1_6, decide_true, decide_false, Bool.not_true, Bool.not_false, Bool.true_and, Bool.false_and, Bool.and_true, Bool.and_false, Bool.true_or, Bool.false_or, Bool.or_true, Bool.or_false, cond_true, cond_false, eq_self, if_true, if_false, ite_true, ite_false] <;> rfl
    exact aw_iret C hr hlk dX4_count_111 ⟨ri (by rw [hm]), R, tk, bg, en, nm, by rw [hm]; rfl⟩
  refine aw_tabOut C 112 dX4_count_1 (by have q0 := ne_toInt s_1_0 (z := 0) rfl; have q1 := ne_toInt s_1_1 (z := 1) rfl; have q2 := ne_toInt s_1_2 (z := 2) rfl; have q3 := ne_toInt s_1_3 (z := 3) rfl; have q4 := ne_toInt s_1_4 (z := 4) rfl; have q5 := ne_toInt s_1_5 (z := 5) rfl; have q6 := ne_toInt s_1_6 (z := 6) rfl; have q7 := ne_toInt s_1_7 (z := 7) rfl; omega) (by decide) ?_
  refine aw_sub (lv' := [(0, .ref (z 0))]) [0] rfl ?_
  exact J112 (by simp only [m_count, if_neg s_1_0, if_neg s_1_1, if_neg s_1_2, if_neg s_1_3, if_neg s_1_4, if_neg s_1_5, if_neg s_1_6, if_neg s_1_7, decide_true, decide_false, Bool.not_true, Bool.not_false, Bool.true_and, Bool.false_and, Bool.and_true, Bool.and_false, Bool.true_or, Bool.false_or, Bool.or_true, Bool.or_false, cond_true, cond_false, eq_self, if_true, if_false, ite_true, ite_false] <;> rfl)
abbrev r_X4_status : Room := { frames := 2, cells := 0, slots := 0, locals := 42 }
theorem cv_X4_status : cV yX4_status cX4_status 4 (some .int) 1 := ⟨k3_225, k3_226, k3_227, k1_1, by decide, by decide, by decide +kernel⟩
set_option maxHeartbeats 4000000 in
set_option maxRecDepth 100000 in
theorem c_X4_status (l : Launch) (D : va_G) (cI cC : ClassId) (adK adV : Nat → Nat) (z : Nat → Nat) (T R K : Tw) (ik : Bool) (F f : Nat → Int32) (n : Nat) (tk : Int32) (bg en : Nat) (nm : Int32) (s1 s2 s3 : Nat → Int32) (w : Int32) : FC l yX4_status (wW yX4_status cX4_status 4 (some .int)) r_X4_status D (tyC cI cC) adK adV (wBa cI z T R K ik F f n tk bg en nm s1 s2 s3) [.ref (z 0), .int w] 0 0 (pBa cI z (m_status (T, K, ik, F, f, n, s1, s2, s3) w)) := by
  refine FC.of (own := RX4) (by decide) rfl (Nat.le_of_ble_eq_true rfl) ?_
  intro p9 e9 s9 m9 args9 below9 meth9 c9 A9 C hr hlk hmn
  show AW p9 l e9 r_X4_status s9 m9 args9 below9 meth9 c9 D A9 4 0 0 _ 0 [(0, .ref (z 0)), (1, .int w)] [] _
  refine aw_eq (lv' := [(0, .ref (z 0)), (1, .int w)]) (ws' := fl [wMa cI z ik F, wTo cI (z 2) (zT z) T, wTo cI (z 3) (zR z) R, wTo cI (z 4) (zK z) K, wTp cI (z 5) (z 6) f n tk bg en nm, wSh cI (z 7) (zS z) s1 s2 s3]) rfl rfl rfl ?_
  have J41 : m_status (T, K, ik, F, f, n, s1, s2, s3) w = gno (T, K, ik, F, f, n, s1, s2, s3) 0 → AW p9 l e9 r_X4_status s9 m9 args9 below9 meth9 c9 D A9 4 0 0 (aQ below9 args9 s9 D A9 0 0 (pBa cI z (m_status (T, K, ik, F, f, n, s1, s2, s3) w))) 41 [(0, .ref (z 0))] [] (fl [wMa cI z ik F, wTo cI (z 2) (zT z) T, wTo cI (z 3) (zR z) R, wTo cI (z 4) (zK z) K, wTp cI (z 5) (z 6) f n tk bg en nm, wSh cI (z 7) (zS z) s1 s2 s3]) := by
    intro hj
    refine aw_aload_n C dX4_status_41 rfl ?_
    refine aw_iconst C (0 : Int32) dX4_status_42 (by decide) ?_
    refine aw_gVd C (As := [.int (0 : Int32)]) (c_X4_finding l D cI cC adK adV z ik F 0 (by decide)) k1_146 cv_X4_finding 3 rfl rfl rfl [0, 1, 2, 3, 4, 5] (fl1 _) rfl 6 rfl (by decide) (gc := [wMa cI z ik F]) (gr := [wTo cI (z 2) (zT z) T, wTo cI (z 3) (zR z) R, wTo cI (z 4) (zK z) K, wTp cI (z 5) (z 6) f n tk bg en nm, wSh cI (z 7) (zS z) s1 s2 s3]) (gc1 := [wMa cI z ik (upd F 0 (F 0 + 1))]) (gs' := [wMa cI z ik (upd F 0 (F 0 + 1)), wTo cI (z 2) (zT z) T, wTo cI (z 3) (zR z) R, wTo cI (z 4) (zK z) K, wTp cI (z 5) (z 6) f n tk bg en nm, wSh cI (z 7) (zS z) s1 s2 s3]) (fl1 _) rfl rfl ⟨by decide, by decide⟩ rfl rfl ⟨by decide, by decide⟩ rfl rfl (Nat.le_of_ble_eq_true rfl) dX4_status_43 ?_
    have hm : m_status (T, K, ik, F, f, n, s1, s2, s3) w = ((fno 0), (T, K, ik, (upd F 0 (F 0 + 1)), f, n, s1, s2, s3)) := by rw [hj]; rfl
    exact aw_iret C hr hlk dX4_status_46 ⟨ri (by rw [hm]), R, tk, bg, en, nm, by rw [hm]; rfl⟩
  refine aw_iload_n C dX4_status_0 rfl ?_
  refine aw_iconst C (-1 : Int32) dX4_status_1 (by decide) ?_
  refine aw_icmp_ne C 32 dX4_status_2 (by decide) (fun c_2 => ?_) (fun c_2 => ?_)
  · skip
    refine aw_iload_n C dX4_status_32 rfl ?_
    refine aw_bipush C (7 : Int32) dX4_status_33 (by decide) ?_
    refine aw_pc 35 rfl ?_
    refine aw_callSp C (As := [.int w, .int (7 : Int32)]) (c_X4_isIn l D cI cC adK adV w (7 : Int32)) k1_143 cs_X4_isIn [] (by decide) rfl ⟨by decide, by decide⟩ rfl rfl ⟨by decide, by decide⟩ rfl rfl (Nat.le_of_ble_eq_true rfl) dX4_status_35 ?_
    refine aw_ifne_b C 47 dX4_status_38 (by decide) (fun c_38 => ?_) (fun c_38 => ?_)
    · skip
      have hw : ix w < 7 := (in0_ix (n := 7) (by decide) c_38).2
      have e1 : w = nI (ix w) := (in0_ix (n := 7) (by decide) c_38).1
      refine aw_eq (lv' := [(0, .ref (z 0)), (1, .int (nI (ix w)))]) (ws' := fl [wMa cI z ik F, wTo cI (z 2) (zT z) T, wTo cI (z 3) (zR z) R, wTo cI (z 4) (zK z) K, wTp cI (z 5) (z 6) f n tk bg en nm, wSh cI (z 7) (zS z) s1 s2 s3]) (by rw [← e1]) rfl rfl ?_
      refine aw_aload_n C dX4_status_47 rfl ?_
      refine aw_getf C 0 3 6 7 inX4 rfl (by decide) rfl k1_123 rfl rfl dX4_status_48 ?_
      refine aw_iload_n C dX4_status_51 rfl ?_
      refine aw_ialdN C 1 0 (ix w) rfl rfl rfl (by omega) (by decide) dX4_status_52 ?_
      have hm : m_status (T, K, ik, F, f, n, s1, s2, s3) w = ((F (ix w)), (T, K, ik, F, f, n, s1, s2, s3)) := by simp only [m_status, c_2, c_38, decide_true, decide_false, Bool.not_true, Bool.not_false, Bool.true_and, Bool.false_and, Bool.and_true, Bool.and_false, Bool.true_or, Bool.false_or, Bool.or_true, Bool.or_false, cond_true, cond_false, eq_self, if_true, if_false, ite_true, ite_false] <;> rfl
      exact aw_iret C hr hlk dX4_status_53 ⟨ri (by rw [hm]), R, tk, bg, en, nm, by rw [hm]; rfl⟩
    · skip
      refine aw_sub (lv' := [(0, .ref (z 0))]) [0] rfl ?_
      exact J41 (by simp only [m_status, c_2, c_38, decide_true, decide_false, Bool.not_true, Bool.not_false, Bool.true_and, Bool.false_and, Bool.and_true, Bool.and_false, Bool.true_or, Bool.false_or, Bool.or_true, Bool.or_false, cond_true, cond_false, eq_self, if_true, if_false, ite_true, ite_false] <;> rfl)
  · skip
    refine aw_iconst C (0 : Int32) dX4_status_5 (by decide) ?_
    refine aw_istore_n C true (lv' := [(0, .ref (z 0)), (1, .int w), (2, .int (0 : Int32))]) dX4_status_6 (by decide) rfl rfl ?_
    refine aw_iconst C (0 : Int32) dX4_status_7 (by decide) ?_
    refine aw_pc 8 rfl ?_
    refine aw_istore_n C true (lv' := [(0, .ref (z 0)), (1, .int w), (2, .int (0 : Int32)), (3, .int (0 : Int32))]) dX4_status_8 (by decide) rfl rfl ?_
    refine aw_eq (lv' := [(0, .ref (z 0)), (1, .int w), (2, .int (itr (fun k x => x + F k) 0 0)), (3, .int (nI 0))]) (ws' := fl [wMa cI z ik F, wTo cI (z 2) (zT z) T, wTo cI (z 3) (zR z) R, wTo cI (z 4) (zK z) K, wTp cI (z 5) (z 6) f n tk bg en nm, wSh cI (z 7) (zS z) s1 s2 s3]) (by first | rfl | (simp only [itr, c_2])) rfl (by rfl) ?_
    refine aw_loop (LV := fun i => [(0, .ref (z 0)), (1, .int w), (2, .int (itr (fun k x => x + F k) i 0)), (3, .int (nI i))]) (WS := fun i => fl [wMa cI z ik F, wTo cI (z 2) (zT z) T, wTo cI (z 3) (zR z) R, wTo cI (z 4) (zK z) K, wTp cI (z 5) (z 6) f n tk bg en nm, wSh cI (z 7) (zS z) s1 s2 s3]) 7 (Inv := fun _ => True) trivial ?_ ?_
    · intro hv9
      refine aw_iload_n C dX4_status_9 rfl ?_
      refine aw_bipush C (7 : Int32) dX4_status_10 (by decide) ?_
      refine aw_icmp_ge C 30 dX4_status_12 (by decide) (fun c_12 => ?_) (fun c_12 => absurd c_12 (fun z => z (by decide)))
      refine aw_iload_n C dX4_status_30 rfl ?_
      have hm : m_status (T, K, ik, F, f, n, s1, s2, s3) w = ((itr (fun k x => x + F k) 7 0), (T, K, ik, F, f, n, s1, s2, s3)) := by simp only [m_status, c_2, decide_true, decide_false, Bool.not_true, Bool.not_false, Bool.true_and, Bool.false_and, Bool.and_true, Bool.and_false, Bool.true_or, Bool.false_or, Bool.or_true, Bool.or_false, cond_true, cond_false, eq_self, if_true, if_false, ite_true, ite_false] <;> rfl
      exact aw_iret C hr hlk dX4_status_31 ⟨ri (by rw [hm]), R, tk, bg, en, nm, by rw [hm]; rfl⟩
    · intro i hi9 hv9 ih9
      refine aw_iload_n C dX4_status_9 rfl ?_
      refine aw_bipush C (7 : Int32) dX4_status_10 (by decide) ?_
      refine aw_icmp_ge C 30 dX4_status_12 (by decide) (fun c_12 => absurd c_12 (nI_ge (b := 7) hi9 (by decide))) (fun c_12 => ?_)
      refine aw_iload_n C dX4_status_15 rfl ?_
      refine aw_pc 16 rfl ?_
      refine aw_aload_n C dX4_status_16 rfl ?_
      refine aw_getf C 0 3 6 7 inX4 rfl (by decide) rfl k1_123 rfl rfl dX4_status_17 ?_
      refine aw_iload_n C dX4_status_20 rfl ?_
      refine aw_ialdN C 1 0 i rfl rfl rfl (by omega) (by decide) dX4_status_21 ?_
      refine aw_iadd C dX4_status_22 ?_
      refine aw_istore_n C false (lv' := [(0, .ref (z 0)), (1, .int w), (2, .int ((itr (fun k x => x + F k) i 0) + (F i))), (3, .int (nI i))]) dX4_status_23 (by decide) rfl rfl ?_
      refine aw_iinc C (nI (i + 1)) dX4_status_24 rfl (inc_nI _ 1) (by decide) rfl (lv' := [(0, .ref (z 0)), (1, .int w), (2, .int ((itr (fun k x => x + F k) i 0) + (F i))), (3, .int (nI (i + 1)))]) rfl ?_
      refine aw_goto C 9 dX4_status_27 (by decide) ?_
      exact aw_eq (by first | rfl | (simp only [itr, c_2])) rfl (by first | rfl | (simp only [itr, c_2] <;> first | done | rfl)) (ih9 trivial)
