/-! BareThursday: its calls -/
abbrev Sg : Type := Tw × Tw × Bool × (Nat → Int32) × (Nat → Int32) × Nat × (Nat → Int32) × (Nat → Int32) × (Nat → Int32)
abbrev ix (x : Int32) : Nat := x.toNatClampNeg
def zT (z : Nat → Nat) : Nat → Nat := fun k => z (10 + k)
def zR (z : Nat → Nat) : Nat → Nat := fun k => z (20 + k)
def zK (z : Nat → Nat) : Nat → Nat := fun k => z (30 + k)
def zS (z : Nat → Nat) : Nat → Nat := fun k => z (40 + k)
def wMa (cI : ClassId) (z : Nat → Nat) (ik : Bool) (F : Nat → Int32) : va_W := [(z 0, .inr (3, [.ref (z 2), .ref (z 3), .ref (z 4), .int (b2 ik), .ref (z 5), .ref (z 7), .ref (z 1)])), (z 1, .inl (cI, 7, .inl F))]
def wBa (cI : ClassId) (z : Nat → Nat) (T R K : Tw) (ik : Bool) (F f : Nat → Int32) (n : Nat) (tk : Int32) (bg en : Nat) (nm : Int32) (s1 s2 s3 : Nat → Int32) : va_W := fl [wMa cI z ik F, wTo cI (z 2) (zT z) T, wTo cI (z 3) (zR z) R, wTo cI (z 4) (zK z) K, wTp cI (z 5) (z 6) f n tk bg en nm, wSh cI (z 7) (zS z) s1 s2 s3]
def pBaW (cI : ClassId) (z : Nat → Nat) (G : Sg) (w : va_W) : Prop := ∃ (R : Tw) (tk : Int32) (bg en : Nat) (nm : Int32), w = wBa cI z G.1 R G.2.1 G.2.2.1 G.2.2.2.1 G.2.2.2.2.1 G.2.2.2.2.2.1 tk bg en nm G.2.2.2.2.2.2.1 G.2.2.2.2.2.2.2.1 G.2.2.2.2.2.2.2.2
def pBa (cI : ClassId) (z : Nat → Nat) (o : Int32 × Sg) : Option Value → va_W → Prop := fun r w => r = some (.int o.1) ∧ pBaW cI z o.2 w
def pBaL (cI : ClassId) (z : Nat → Nat) (o : Int64 × Sg) : Option Value → va_W → Prop := fun r w => r = some (.long o.1) ∧ pBaW cI z o.2 w
def gT (G : Sg) (T : Tw) : Sg := (T, G.2)
def gF (G : Sg) (F : Nat → Int32) : Sg := (G.1, G.2.1, G.2.2.1, F, G.2.2.2.2)
def fno (w : Nat) : Int32 := -1000001 - nI w
def gno (G : Sg) (w : Nat) : Int32 × Sg := (fno w, gF G (upd G.2.2.2.1 w (G.2.2.2.1 w + 1)))
theorem ix_nI {j : Nat} (h : j < 2 ^ 31) : ix (nI j) = j := nI_clamp h
theorem ix_eq {x : Int32} (h : ¬ x < 0) : x = nI (ix x) := by
  obtain ⟨j, hj, rfl⟩ := nI_of h
  rw [ix_nI hj]
theorem ix_le {x : Int32} {m : Nat} (h : ¬ x < 0) (hm : m < 2 ^ 31) (h2 : x ≤ nI m) : ix x ≤ m := by
  obtain ⟨j, hj, rfl⟩ := nI_of h
  rw [ix_nI hj]
  exact (nI_leI hj hm).mp h2
theorem ix_lt {x : Int32} {m : Nat} (h : ¬ x < 0) (hm : m < 2 ^ 31) (h2 : ¬ nI m ≤ x) : ix x < m := by
  obtain ⟨j, hj, rfl⟩ := nI_of h
  rw [ix_nI hj]
  exact (nI_ltI hj hm).mp (Int32.not_le.mp h2)
theorem neg1 {x : Int32} (h : ¬ x < 1) : ¬ x < 0 := fun z => h (Int32.lt_of_lt_of_le z (by decide))
theorem there_ix {T : Tw} {p : Int32} (h : mThere T p = true) : p = nI (ix p) := ix_eq (in0_t.mp h).1
theorem there_lt {T : Tw} {p : Int32} (hn : T.1 ≤ 8) (h : mThere T p = true) : ix p < T.1 := ix_lt (in0_t.mp h).1 (by omega) (in0_t.mp h).2
theorem in0_ix {v : Int32} {n : Nat} (hn : n < 2 ^ 31) (h : in0 v (nI n) = true) : v = nI (ix v) ∧ ix v < n := ⟨ix_eq (in0_t.mp h).1, ix_lt (in0_t.mp h).1 hn (in0_t.mp h).2⟩
theorem two_u {T : Tw} {u v : Int32} (h : mTwo T u v = true) : mThere T u = true ∧ mThere T v = true ∧ ¬ u = v := by
  unfold mTwo at h
  simp only [Bool.and_eq_true, Bool.not_eq_true', decide_eq_false_iff_not] at h
  exact h
def fst9 (c : Nat → Bool) : Nat → Nat
  | 0 => 0
  | n + 1 => bif decide (fst9 c n < n) then fst9 c n else bif c n then n else n + 1
theorem fst9_none {c : Nat → Bool} : ∀ {n : Nat}, (∀ k, k < n → c k = false) → fst9 c n = n
  | 0, _ => rfl
  | n + 1, h => by
    have e := fst9_none (n := n) (fun k hk => h k (by omega))
    rw [fst9, e, h n (by omega)]
    simp
theorem fst9_at {c : Nat → Bool} {i : Nat} (h : ∀ k, k < i → c k = false) (hc : c i = true) : ∀ {n : Nat}, i < n → fst9 c n = i
  | n + 1, hn => by
    rw [fst9]
    by_cases e : i = n
    · subst e
      rw [fst9_none h, hc]
      simp
    · rw [fst9_at h hc (by omega), decide_eq_true (by omega : i < n)]
      rfl
theorem all_s {c : Nat → Bool} {i : Nat} (h : ∀ k, k < i → c k = false) (hc : c i = false) : ∀ k, k < i + 1 → c k = false := fun k hk => by
  by_cases e : k = i
  · rw [e]; exact hc
  · exact h k (by omega)
theorem nfull {n : Nat} (hn : n ≤ 8) (h : (!decide (nI n < 8)) = false) : n < 8 := by
  have h2 : nI n < 8 := by simpa using h
  exact (nI_ltI (b := 8) (by omega) (by decide)).mp h2

def m_person (G : Sg) (k c : Int32) : Int32 × Sg := bif in0 k 7 && in0 c 16 then (bif !decide (nI G.1.1 < 8) then gno G 1 else (nI G.1.1, gT G (tAdd G.1 k c))) else gno G 0
def m_of (G : Sg) (u w : Int32) : Int32 × Sg := bif mThere G.1 u && in0 w 11 then (mTrait G.1 (ix u) w, G) else gno G 0
def m_change (G : Sg) (u w v : Int32) : Int32 × Sg := bif mThere G.1 u && mCan G.1 (ix u) w v then (mTrait G.1 (ix u) w, gT G (mPut G.1 (ix u) w v)) else gno G 0
def m_minds (G : Sg) (u g : Int32) : Int32 × Sg := bif mThere G.1 u && in0 g 12 then (b2 (tMind G.1 (ix u) g), G) else gno G 0
def m_far (G : Sg) (u v : Int32) : Int32 × Sg := bif mTwo G.1 u v then (tFar G.1 (ix u) (ix v), G) else gno G 0
def m_who (G : Sg) (c : Int32) : Int32 × Sg := bif in0 c 16 then (mWho G.1 c, G) else gno G 0
def m_two (G : Sg) (u v w : Int32) : Int32 × Sg := bif mTwo G.1 u v then (if w = 0 then (b2 (tMut G.1 3 (ix u) (ix v)), G) else if w = 1 then (b2 (tMut G.1 4 (ix u) (ix v)), G) else if w = 2 then (b2 (tSee G.1 (ix u) (ix v)), G) else gno G 0) else gno G 0
def m_go (G : Sg) (k : Int32) : Int32 × Sg := bif !decide (k < 1) && decide (k ≤ 60) then (bif !decide (99999 - G.1.2.1 0 < k) then ((tDays (ix k) G.1).2.1 3, gT G (tDays (ix k) G.1)) else gno G 4) else gno G 0
def m_now (G : Sg) (w : Int32) : Int32 × Sg := if w = 0 then (G.1.2.1 0, G) else if w = 1 then (G.1.2.1 3, G) else if w = 2 then (mKnowers G.1, G) else if w = 3 then (mPairs G.1 4, G) else if w = 4 then (mPairs G.1 3, G) else if w = 5 then (mWorn G.1, G) else if w = 6 then (mPassed G.1, G) else if w = 7 then (b2 (mBare (G.1.2.1 0)), G) else gno G 0
def mTold (w : Int32) : Bool := decide (w = 1) || (decide (w = 2) || (decide (w = 3) || (decide (w = 4) || decide (w = 6))))
def m_ahead (G : Sg) (u w k : Int32) : Int32 × Sg := bif mThere G.1 u && (mTold w && (!decide (k < 0) && decide (k ≤ 100))) then (mTrait (tDays (ix k) G.1) (ix u) w, G) else gno G 0
def m_joy (G : Sg) (k : Int32) : Int32 × Sg := bif !decide (k < 0) && decide (k ≤ 100) then ((tDays (ix k) G.1).2.1 3, G) else gno G 0

abbrev r_X4_finding : Room := { frames := 1, cells := 0, slots := 0, locals := 21 }
theorem cv_X4_finding : cV yX4_finding cX4_finding 2 (some .int) 1 := ⟨k1_148, k0_0, k1_149, k1_1, by decide, by decide, by decide +kernel⟩
set_option maxHeartbeats 4000000 in
set_option maxRecDepth 100000 in
theorem c_X4_finding (l : Launch) (D : va_G) (cI cC : ClassId) (adK adV : Nat → Nat) (z : Nat → Nat) (ik : Bool) (F : Nat → Int32) (w : Nat) (hw : w < 7) : FC l yX4_finding (wW yX4_finding cX4_finding 2 (some .int)) r_X4_finding D (tyC cI cC) adK adV (wMa cI z ik F) [.ref (z 0), .int (nI w)] 0 0 (fQ (some (.int (fno w))) (wMa cI z ik (upd F w (F w + 1)))) := by
  refine FC.of (own := RX4) (by decide) rfl (Nat.le_of_ble_eq_true rfl) ?_
  intro p9 e9 s9 m9 args9 below9 meth9 c9 A9 C hr hlk hmn
  show AW p9 l e9 r_X4_finding s9 m9 args9 below9 meth9 c9 D A9 2 0 0 _ 0 [(0, .ref (z 0)), (1, .int (nI w))] [] _
  refine aw_iload_n C dX4_finding_0 rfl ?_
  refine aw_bipush C (7 : Int32) dX4_finding_1 (by decide) ?_
  refine aw_callSp C (As := [.int (nI w), .int (7 : Int32)]) (c_X4_isIn l D cI cC adK adV (nI w) (7 : Int32)) k1_143 cs_X4_isIn [] (by decide) rfl ⟨by decide, by decide⟩ rfl rfl ⟨by decide, by decide⟩ rfl rfl (Nat.le_of_ble_eq_true rfl) dX4_finding_3 ?_
  refine aw_ifeq_b C 19 dX4_finding_6 (by decide) (fun c_6 => absurd c_6 (by rw [show in0 (nI w) 7 = true from in0_nI (n := 7) (by decide) hw]; exact Bool.noConfusion)) (fun c_6 => ?_)
  refine aw_aload_n C dX4_finding_9 rfl ?_
  refine aw_getf C 0 3 6 7 inX4 rfl (by decide) rfl k1_123 rfl rfl dX4_finding_10 ?_
  refine aw_iload_n C dX4_finding_13 rfl ?_
  refine aw_dup2 C dX4_finding_14 rfl rfl ?_
  refine aw_ialdN C 1 0 w rfl rfl rfl (by omega) (by decide) dX4_finding_15 ?_
  refine aw_pc 16 rfl ?_
  refine aw_iconst C (1 : Int32) dX4_finding_16 (by decide) ?_
  refine aw_iadd C dX4_finding_17 ?_
  refine aw_iastN C 1 0 w rfl rfl rfl (by omega) (by decide) (ws' := wMa cI z ik (upd F w ((F w) + (1 : Int32)))) rfl dX4_finding_18 ?_
  refine aw_ldc C k1_150 dX4_finding_19 ?_
  refine aw_iload_n C dX4_finding_21 rfl ?_
  refine aw_isub C dX4_finding_22 ?_
  exact aw_iret C hr hlk dX4_finding_23 ⟨ri (by first | rfl | (simp only [])), by rfl⟩
abbrev r_X4_person : Room := { frames := 3, cells := 0, slots := 0, locals := 67 }
theorem cv_X4_person : cV yX4_person cX4_person 3 (some .int) 2 := ⟨k1_140, k1_141, k1_142, k1_1, by decide, by decide, by decide +kernel⟩
set_option maxHeartbeats 4000000 in
set_option maxRecDepth 100000 in
theorem c_X4_person (l : Launch) (D : va_G) (cI cC : ClassId) (adK adV : Nat → Nat) (z : Nat → Nat) (T R K : Tw) (ik : Bool) (F f : Nat → Int32) (n : Nat) (tk : Int32) (bg en : Nat) (nm : Int32) (s1 s2 s3 : Nat → Int32) (k : Int32) (c : Int32) (hn : T.1 ≤ 8) : FC l yX4_person (wW yX4_person cX4_person 3 (some .int)) r_X4_person D (tyC cI cC) adK adV (wBa cI z T R K ik F f n tk bg en nm s1 s2 s3) [.ref (z 0), .int k, .int c] 0 0 (pBa cI z (m_person (T, K, ik, F, f, n, s1, s2, s3) k c)) := by
  refine FC.of (own := RX4) (by decide) rfl (Nat.le_of_ble_eq_true rfl) ?_
  intro p9 e9 s9 m9 args9 below9 meth9 c9 A9 C hr hlk hmn
  show AW p9 l e9 r_X4_person s9 m9 args9 below9 meth9 c9 D A9 3 0 0 _ 0 [(0, .ref (z 0)), (1, .int k), (2, .int c)] [] _
  refine aw_eq (lv' := [(0, .ref (z 0)), (1, .int k), (2, .int c)]) (ws' := fl [wMa cI z ik F, wTo cI (z 2) (zT z) T, wTo cI (z 3) (zR z) R, wTo cI (z 4) (zK z) K, wTp cI (z 5) (z 6) f n tk bg en nm, wSh cI (z 7) (zS z) s1 s2 s3]) rfl rfl rfl ?_
  have J18 : m_person (T, K, ik, F, f, n, s1, s2, s3) k c = gno (T, K, ik, F, f, n, s1, s2, s3) 0 → AW p9 l e9 r_X4_person s9 m9 args9 below9 meth9 c9 D A9 3 0 0 (aQ below9 args9 s9 D A9 0 0 (pBa cI z (m_person (T, K, ik, F, f, n, s1, s2, s3) k c))) 18 [(0, .ref (z 0))] [] (fl [wMa cI z ik F, wTo cI (z 2) (zT z) T, wTo cI (z 3) (zR z) R, wTo cI (z 4) (zK z) K, wTp cI (z 5) (z 6) f n tk bg en nm, wSh cI (z 7) (zS z) s1 s2 s3]) := by
    intro hj
    refine aw_aload_n C dX4_person_18 rfl ?_
    refine aw_iconst C (0 : Int32) dX4_person_19 (by decide) ?_
    refine aw_gVd C (As := [.int (0 : Int32)]) (c_X4_finding l D cI cC adK adV z ik F 0 (by decide)) k1_146 cv_X4_finding 3 rfl rfl rfl [0, 1, 2, 3, 4, 5] (fl1 _) rfl 6 rfl (by decide) (gc := [wMa cI z ik F]) (gr := [wTo cI (z 2) (zT z) T, wTo cI (z 3) (zR z) R, wTo cI (z 4) (zK z) K, wTp cI (z 5) (z 6) f n tk bg en nm, wSh cI (z 7) (zS z) s1 s2 s3]) (gc1 := [wMa cI z ik (upd F 0 (F 0 + 1))]) (gs' := [wMa cI z ik (upd F 0 (F 0 + 1)), wTo cI (z 2) (zT z) T, wTo cI (z 3) (zR z) R, wTo cI (z 4) (zK z) K, wTp cI (z 5) (z 6) f n tk bg en nm, wSh cI (z 7) (zS z) s1 s2 s3]) (fl1 _) rfl rfl ⟨by decide, by decide⟩ rfl rfl ⟨by decide, by decide⟩ rfl rfl (Nat.le_of_ble_eq_true rfl) dX4_person_20 ?_
    have hm : m_person (T, K, ik, F, f, n, s1, s2, s3) k c = ((fno 0), (T, K, ik, (upd F 0 (F 0 + 1)), f, n, s1, s2, s3)) := by rw [hj]; rfl
    exact aw_iret C hr hlk dX4_person_23 ⟨ri (by rw [hm]), R, tk, bg, en, nm, by rw [hm]; rfl⟩
  have J34 : m_person (T, K, ik, F, f, n, s1, s2, s3) k c = gno (T, K, ik, F, f, n, s1, s2, s3) 1 → AW p9 l e9 r_X4_person s9 m9 args9 below9 meth9 c9 D A9 3 0 0 (aQ below9 args9 s9 D A9 0 0 (pBa cI z (m_person (T, K, ik, F, f, n, s1, s2, s3) k c))) 34 [(0, .ref (z 0))] [] (fl [wMa cI z ik F, wTo cI (z 2) (zT z) T, wTo cI (z 3) (zR z) R, wTo cI (z 4) (zK z) K, wTp cI (z 5) (z 6) f n tk bg en nm, wSh cI (z 7) (zS z) s1 s2 s3]) := by
    intro hj
    refine aw_aload_n C dX4_person_34 rfl ?_
    refine aw_iconst C (1 : Int32) dX4_person_35 (by decide) ?_
    refine aw_gVd C (As := [.int (1 : Int32)]) (c_X4_finding l D cI cC adK adV z ik F 1 (by decide)) k1_146 cv_X4_finding 3 rfl rfl rfl [0, 1, 2, 3, 4, 5] (fl1 _) rfl 6 rfl (by decide) (gc := [wMa cI z ik F]) (gr := [wTo cI (z 2) (zT z) T, wTo cI (z 3) (zR z) R, wTo cI (z 4) (zK z) K, wTp cI (z 5) (z 6) f n tk bg en nm, wSh cI (z 7) (zS z) s1 s2 s3]) (gc1 := [wMa cI z ik (upd F 1 (F 1 + 1))]) (gs' := [wMa cI z ik (upd F 1 (F 1 + 1)), wTo cI (z 2) (zT z) T, wTo cI (z 3) (zR z) R, wTo cI (z 4) (zK z) K, wTp cI (z 5) (z 6) f n tk bg en nm, wSh cI (z 7) (zS z) s1 s2 s3]) (fl1 _) rfl rfl ⟨by decide, by decide⟩ rfl rfl ⟨by decide, by decide⟩ rfl rfl (Nat.le_of_ble_eq_true rfl) dX4_person_36 ?_
    have hm : m_person (T, K, ik, F, f, n, s1, s2, s3) k c = ((fno 1), (T, K, ik, (upd F 1 (F 1 + 1)), f, n, s1, s2, s3)) := by rw [hj]; rfl
    exact aw_iret C hr hlk dX4_person_39 ⟨ri (by rw [hm]), R, tk, bg, en, nm, by rw [hm]; rfl⟩
  refine aw_iload_n C dX4_person_0 rfl ?_
  refine aw_pc 1 rfl ?_
  refine aw_bipush C (7 : Int32) dX4_person_1 (by decide) ?_
  refine aw_callSp C (As := [.int k, .int (7 : Int32)]) (c_X4_isIn l D cI cC adK adV k (7 : Int32)) k1_143 cs_X4_isIn [] (by decide) rfl ⟨by decide, by decide⟩ rfl rfl ⟨by decide, by decide⟩ rfl rfl (Nat.le_of_ble_eq_true rfl) dX4_person_3 ?_
  refine aw_ifeq_b C 18 dX4_person_6 (by decide) (fun c_6 => ?_) (fun c_6 => ?_)
  · skip
    refine aw_sub (lv' := [(0, .ref (z 0))]) [0] rfl ?_
    exact J18 (by simp only [m_person, c_6, decide_true, decide_false, Bool.not_true, Bool.not_false, Bool.true_and, Bool.false_and, Bool.and_true, Bool.and_false, Bool.true_or, Bool.false_or, Bool.or_true, Bool.or_false, cond_true, cond_false, eq_self, if_true, if_false, ite_true, ite_false] <;> rfl)
  · skip
    refine aw_iload_n C dX4_person_9 rfl ?_
    refine aw_bipush C (16 : Int32) dX4_person_10 (by decide) ?_
    refine aw_callSp C (As := [.int c, .int (16 : Int32)]) (c_X4_isIn l D cI cC adK adV c (16 : Int32)) k1_143 cs_X4_isIn [] (by decide) rfl ⟨by decide, by decide⟩ rfl rfl ⟨by decide, by decide⟩ rfl rfl (Nat.le_of_ble_eq_true rfl) dX4_person_12 ?_
    refine aw_ifne_b C 24 dX4_person_15 (by decide) (fun c_15 => ?_) (fun c_15 => ?_)
    · skip
      refine aw_aload_n C dX4_person_24 rfl ?_
      refine aw_getf C 0 3 0 7 inX4 rfl (by decide) rfl k1_117 rfl rfl dX4_person_25 ?_
      refine aw_gVp C (As := []) (c_X3_isFull l D cI cC adK adV (z 2) (zT z) T ) k1_151 cv_X3_isFull 2 rfl rfl rfl [1, 0, 2, 3, 4, 5] (fl1 _) rfl 6 rfl (by decide) ⟨by decide, by decide⟩ rfl rfl ⟨by decide, by decide⟩ rfl rfl (Nat.le_of_ble_eq_true rfl) dX4_person_28 ?_
      refine aw_pc 31 rfl ?_
      refine aw_ifeq_b C 40 dX4_person_31 (by decide) (fun c_31 => ?_) (fun c_31 => ?_)
      · skip
        have hl : T.1 < 8 := nfull hn c_31
        refine aw_aload_n C dX4_person_40 rfl ?_
        refine aw_getf C 0 3 0 7 inX4 rfl (by decide) rfl k1_117 rfl rfl dX4_person_41 ?_
        refine aw_iload_n C dX4_person_44 rfl ?_
        refine aw_iload_n C dX4_person_45 rfl ?_
        refine aw_gVd C (As := [.int k, .int c]) (c_X3_add l D cI cC adK adV (z 2) (zT z) T k c hl) k1_155 cv_X3_add 2 rfl rfl rfl [1, 0, 2, 3, 4, 5] (fl1 _) rfl 6 rfl (by decide) (gc := [wTo cI (z 2) (zT z) T]) (gr := [wMa cI z ik F, wTo cI (z 3) (zR z) R, wTo cI (z 4) (zK z) K, wTp cI (z 5) (z 6) f n tk bg en nm, wSh cI (z 7) (zS z) s1 s2 s3]) (gc1 := [wTo cI (z 2) (zT z) (tAdd T k c)]) (gs' := [wMa cI z ik F, wTo cI (z 2) (zT z) (tAdd T k c), wTo cI (z 3) (zR z) R, wTo cI (z 4) (zK z) K, wTp cI (z 5) (z 6) f n tk bg en nm, wSh cI (z 7) (zS z) s1 s2 s3]) (fl1 _) rfl rfl ⟨by decide, by decide⟩ rfl rfl ⟨by decide, by decide⟩ rfl rfl (Nat.le_of_ble_eq_true rfl) dX4_person_46 ?_
        have hm : m_person (T, K, ik, F, f, n, s1, s2, s3) k c = ((nI T.1), ((tAdd T k c), K, ik, F, f, n, s1, s2, s3)) := by simp only [m_person, c_6, c_15, c_31, decide_true, decide_false, Bool.not_true, Bool.not_false, Bool.true_and, Bool.false_and, Bool.and_true, Bool.and_false, Bool.true_or, Bool.false_or, Bool.or_true, Bool.or_false, cond_true, cond_false, eq_self, if_true, if_false, ite_true, ite_false] <;> rfl
        exact aw_iret C hr hlk dX4_person_49 ⟨ri (by rw [hm]), R, tk, bg, en, nm, by rw [hm]; rfl⟩
      · skip
        refine aw_sub (lv' := [(0, .ref (z 0))]) [0] rfl ?_
        exact J34 (by simp only [m_person, c_6, c_15, c_31, decide_true, decide_false, Bool.not_true, Bool.not_false, Bool.true_and, Bool.false_and, Bool.and_true, Bool.and_false, Bool.true_or, Bool.false_or, Bool.or_true, Bool.or_false, cond_true, cond_false, eq_self, if_true, if_false, ite_true, ite_false] <;> rfl)
    · skip
      refine aw_sub (lv' := [(0, .ref (z 0))]) [0] rfl ?_
      exact J18 (by simp only [m_person, c_6, c_15, decide_true, decide_false, Bool.not_true, Bool.not_false, Bool.true_and, Bool.false_and, Bool.and_true, Bool.and_false, Bool.true_or, Bool.false_or, Bool.or_true, Bool.or_false, cond_true, cond_false, eq_self, if_true, if_false, ite_true, ite_false] <;> rfl)
abbrev r_X4_of : Room := { frames := 3, cells := 0, slots := 0, locals := 64 }
theorem cv_X4_of : cV yX4_of cX4_of 3 (some .int) 2 := ⟨k1_169, k1_170, k1_171, k1_1, by decide, by decide, by decide +kernel⟩
set_option maxHeartbeats 4000000 in
set_option maxRecDepth 100000 in
theorem c_X4_of (l : Launch) (D : va_G) (cI cC : ClassId) (adK adV : Nat → Nat) (z : Nat → Nat) (T R K : Tw) (ik : Bool) (F f : Nat → Int32) (n : Nat) (tk : Int32) (bg en : Nat) (nm : Int32) (s1 s2 s3 : Nat → Int32) (u : Int32) (w : Int32) (hn : T.1 ≤ 8) : FC l yX4_of (wW yX4_of cX4_of 3 (some .int)) r_X4_of D (tyC cI cC) adK adV (wBa cI z T R K ik F f n tk bg en nm s1 s2 s3) [.ref (z 0), .int u, .int w] 0 0 (pBa cI z (m_of (T, K, ik, F, f, n, s1, s2, s3) u w)) := by
  refine FC.of (own := RX4) (by decide) rfl (Nat.le_of_ble_eq_true rfl) ?_
  intro p9 e9 s9 m9 args9 below9 meth9 c9 A9 C hr hlk hmn
  show AW p9 l e9 r_X4_of s9 m9 args9 below9 meth9 c9 D A9 3 0 0 _ 0 [(0, .ref (z 0)), (1, .int u), (2, .int w)] [] _
  refine aw_eq (lv' := [(0, .ref (z 0)), (1, .int u), (2, .int w)]) (ws' := fl [wMa cI z ik F, wTo cI (z 2) (zT z) T, wTo cI (z 3) (zR z) R, wTo cI (z 4) (zK z) K, wTp cI (z 5) (z 6) f n tk bg en nm, wSh cI (z 7) (zS z) s1 s2 s3]) rfl rfl rfl ?_
  have J20 : m_of (T, K, ik, F, f, n, s1, s2, s3) u w = gno (T, K, ik, F, f, n, s1, s2, s3) 0 → AW p9 l e9 r_X4_of s9 m9 args9 below9 meth9 c9 D A9 3 0 0 (aQ below9 args9 s9 D A9 0 0 (pBa cI z (m_of (T, K, ik, F, f, n, s1, s2, s3) u w))) 20 [(0, .ref (z 0))] [] (fl [wMa cI z ik F, wTo cI (z 2) (zT z) T, wTo cI (z 3) (zR z) R, wTo cI (z 4) (zK z) K, wTp cI (z 5) (z 6) f n tk bg en nm, wSh cI (z 7) (zS z) s1 s2 s3]) := by
    intro hj
    refine aw_aload_n C dX4_of_20 rfl ?_
    refine aw_iconst C (0 : Int32) dX4_of_21 (by decide) ?_
    refine aw_gVd C (As := [.int (0 : Int32)]) (c_X4_finding l D cI cC adK adV z ik F 0 (by decide)) k1_146 cv_X4_finding 3 rfl rfl rfl [0, 1, 2, 3, 4, 5] (fl1 _) rfl 6 rfl (by decide) (gc := [wMa cI z ik F]) (gr := [wTo cI (z 2) (zT z) T, wTo cI (z 3) (zR z) R, wTo cI (z 4) (zK z) K, wTp cI (z 5) (z 6) f n tk bg en nm, wSh cI (z 7) (zS z) s1 s2 s3]) (gc1 := [wMa cI z ik (upd F 0 (F 0 + 1))]) (gs' := [wMa cI z ik (upd F 0 (F 0 + 1)), wTo cI (z 2) (zT z) T, wTo cI (z 3) (zR z) R, wTo cI (z 4) (zK z) K, wTp cI (z 5) (z 6) f n tk bg en nm, wSh cI (z 7) (zS z) s1 s2 s3]) (fl1 _) rfl rfl ⟨by decide, by decide⟩ rfl rfl ⟨by decide, by decide⟩ rfl rfl (Nat.le_of_ble_eq_true rfl) dX4_of_22 ?_
    have hm : m_of (T, K, ik, F, f, n, s1, s2, s3) u w = ((fno 0), (T, K, ik, (upd F 0 (F 0 + 1)), f, n, s1, s2, s3)) := by rw [hj]; rfl
    exact aw_iret C hr hlk dX4_of_25 ⟨ri (by rw [hm]), R, tk, bg, en, nm, by rw [hm]; rfl⟩
  refine aw_aload_n C dX4_of_0 rfl ?_
  refine aw_getf C 0 3 0 7 inX4 rfl (by decide) rfl k1_117 rfl rfl dX4_of_1 ?_
  refine aw_iload_n C dX4_of_4 rfl ?_
  refine aw_gVp C (As := [.int u]) (c_X3_isThere l D cI cC adK adV (z 2) (zT z) T u) k1_172 cv_X3_isThere 2 rfl rfl rfl [1, 0, 2, 3, 4, 5] (fl1 _) rfl 6 rfl (by decide) ⟨by decide, by decide⟩ rfl rfl ⟨by decide, by decide⟩ rfl rfl (Nat.le_of_ble_eq_true rfl) dX4_of_5 ?_
  refine aw_ifeq_b C 20 dX4_of_8 (by decide) (fun c_8 => ?_) (fun c_8 => ?_)
  · skip
    refine aw_sub (lv' := [(0, .ref (z 0))]) [0] rfl ?_
    exact J20 (by simp only [m_of, c_8, decide_true, decide_false, Bool.not_true, Bool.not_false, Bool.true_and, Bool.false_and, Bool.and_true, Bool.and_false, Bool.true_or, Bool.false_or, Bool.or_true, Bool.or_false, cond_true, cond_false, eq_self, if_true, if_false, ite_true, ite_false] <;> rfl)
  · skip
    refine aw_pc 11 rfl ?_
    refine aw_iload_n C dX4_of_11 rfl ?_
    refine aw_bipush C (11 : Int32) dX4_of_12 (by decide) ?_
    refine aw_callSp C (As := [.int w, .int (11 : Int32)]) (c_X4_isIn l D cI cC adK adV w (11 : Int32)) k1_143 cs_X4_isIn [] (by decide) rfl ⟨by decide, by decide⟩ rfl rfl ⟨by decide, by decide⟩ rfl rfl (Nat.le_of_ble_eq_true rfl) dX4_of_14 ?_
    refine aw_ifne_b C 26 dX4_of_17 (by decide) (fun c_17 => ?_) (fun c_17 => ?_)
    · skip
      have e1 : u = nI (ix u) := there_ix c_8
      refine aw_eq (lv' := [(0, .ref (z 0)), (1, .int (nI (ix u))), (2, .int w)]) (ws' := fl [wMa cI z ik F, wTo cI (z 2) (zT z) T, wTo cI (z 3) (zR z) R, wTo cI (z 4) (zK z) K, wTp cI (z 5) (z 6) f n tk bg en nm, wSh cI (z 7) (zS z) s1 s2 s3]) (by rw [← e1]) rfl rfl ?_
      refine aw_aload_n C dX4_of_26 rfl ?_
      refine aw_getf C 0 3 0 7 inX4 rfl (by decide) rfl k1_117 rfl rfl dX4_of_27 ?_
      refine aw_iload_n C dX4_of_30 rfl ?_
      refine aw_iload_n C dX4_of_31 rfl ?_
      refine aw_gVp C (As := [.int (nI (ix u)), .int w]) (c_X3_trait l D cI cC adK adV (z 2) (zT z) T (ix u) w hn (there_lt hn c_8)) k1_173 cv_X3_trait 2 rfl rfl rfl [1, 0, 2, 3, 4, 5] (fl1 _) rfl 6 rfl (by decide) ⟨by decide, by decide⟩ rfl rfl ⟨by decide, by decide⟩ rfl rfl (Nat.le_of_ble_eq_true rfl) dX4_of_32 ?_
      have hm : m_of (T, K, ik, F, f, n, s1, s2, s3) u w = ((mTrait T (ix u) w), (T, K, ik, F, f, n, s1, s2, s3)) := by simp only [m_of, c_8, c_17, decide_true, decide_false, Bool.not_true, Bool.not_false, Bool.true_and, Bool.false_and, Bool.and_true, Bool.and_false, Bool.true_or, Bool.false_or, Bool.or_true, Bool.or_false, cond_true, cond_false, eq_self, if_true, if_false, ite_true, ite_false] <;> rfl
      exact aw_iret C hr hlk dX4_of_35 ⟨ri (by rw [hm]), R, tk, bg, en, nm, by rw [hm]; rfl⟩
    · skip
      refine aw_sub (lv' := [(0, .ref (z 0))]) [0] rfl ?_
      exact J20 (by simp only [m_of, c_8, c_17, decide_true, decide_false, Bool.not_true, Bool.not_false, Bool.true_and, Bool.false_and, Bool.and_true, Bool.and_false, Bool.true_or, Bool.false_or, Bool.or_true, Bool.or_false, cond_true, cond_false, eq_self, if_true, if_false, ite_true, ite_false] <;> rfl)
abbrev r_X4_change : Room := { frames := 3, cells := 0, slots := 0, locals := 66 }
theorem cv_X4_change : cV yX4_change cX4_change 5 (some .int) 3 := ⟨k1_199, k1_200, k1_201, k1_1, by decide, by decide, by decide +kernel⟩
set_option maxHeartbeats 4000000 in
set_option maxRecDepth 100000 in
theorem c_X4_change (l : Launch) (D : va_G) (cI cC : ClassId) (adK adV : Nat → Nat) (z : Nat → Nat) (T R K : Tw) (ik : Bool) (F f : Nat → Int32) (n : Nat) (tk : Int32) (bg en : Nat) (nm : Int32) (s1 s2 s3 : Nat → Int32) (u : Int32) (w : Int32) (v : Int32) (hn : T.1 ≤ 8) : FC l yX4_change (wW yX4_change cX4_change 5 (some .int)) r_X4_change D (tyC cI cC) adK adV (wBa cI z T R K ik F f n tk bg en nm s1 s2 s3) [.ref (z 0), .int u, .int w, .int v] 0 0 (pBa cI z (m_change (T, K, ik, F, f, n, s1, s2, s3) u w v)) := by
  refine FC.of (own := RX4) (by decide) rfl (Nat.le_of_ble_eq_true rfl) ?_
  intro p9 e9 s9 m9 args9 below9 meth9 c9 A9 C hr hlk hmn
  show AW p9 l e9 r_X4_change s9 m9 args9 below9 meth9 c9 D A9 5 0 0 _ 0 [(0, .ref (z 0)), (1, .int u), (2, .int w), (3, .int v)] [] _
  refine aw_eq (lv' := [(0, .ref (z 0)), (1, .int u), (2, .int w), (3, .int v)]) (ws' := fl [wMa cI z ik F, wTo cI (z 2) (zT z) T, wTo cI (z 3) (zR z) R, wTo cI (z 4) (zK z) K, wTp cI (z 5) (z 6) f n tk bg en nm, wSh cI (z 7) (zS z) s1 s2 s3]) rfl rfl rfl ?_
  have J24 : m_change (T, K, ik, F, f, n, s1, s2, s3) u w v = gno (T, K, ik, F, f, n, s1, s2, s3) 0 → AW p9 l e9 r_X4_change s9 m9 args9 below9 meth9 c9 D A9 5 0 0 (aQ below9 args9 s9 D A9 0 0 (pBa cI z (m_change (T, K, ik, F, f, n, s1, s2, s3) u w v))) 24 [(0, .ref (z 0))] [] (fl [wMa cI z ik F, wTo cI (z 2) (zT z) T, wTo cI (z 3) (zR z) R, wTo cI (z 4) (zK z) K, wTp cI (z 5) (z 6) f n tk bg en nm, wSh cI (z 7) (zS z) s1 s2 s3]) := by
    intro hj
    refine aw_aload_n C dX4_change_24 rfl ?_
    refine aw_iconst C (0 : Int32) dX4_change_25 (by decide) ?_
    refine aw_gVd C (As := [.int (0 : Int32)]) (c_X4_finding l D cI cC adK adV z ik F 0 (by decide)) k1_146 cv_X4_finding 3 rfl rfl rfl [0, 1, 2, 3, 4, 5] (fl1 _) rfl 6 rfl (by decide) (gc := [wMa cI z ik F]) (gr := [wTo cI (z 2) (zT z) T, wTo cI (z 3) (zR z) R, wTo cI (z 4) (zK z) K, wTp cI (z 5) (z 6) f n tk bg en nm, wSh cI (z 7) (zS z) s1 s2 s3]) (gc1 := [wMa cI z ik (upd F 0 (F 0 + 1))]) (gs' := [wMa cI z ik (upd F 0 (F 0 + 1)), wTo cI (z 2) (zT z) T, wTo cI (z 3) (zR z) R, wTo cI (z 4) (zK z) K, wTp cI (z 5) (z 6) f n tk bg en nm, wSh cI (z 7) (zS z) s1 s2 s3]) (fl1 _) rfl rfl ⟨by decide, by decide⟩ rfl rfl ⟨by decide, by decide⟩ rfl rfl (Nat.le_of_ble_eq_true rfl) dX4_change_26 ?_
    have hm : m_change (T, K, ik, F, f, n, s1, s2, s3) u w v = ((fno 0), (T, K, ik, (upd F 0 (F 0 + 1)), f, n, s1, s2, s3)) := by rw [hj]; rfl
    exact aw_iret C hr hlk dX4_change_29 ⟨ri (by rw [hm]), R, tk, bg, en, nm, by rw [hm]; rfl⟩
  refine aw_aload_n C dX4_change_0 rfl ?_
  refine aw_getf C 0 3 0 7 inX4 rfl (by decide) rfl k1_117 rfl rfl dX4_change_1 ?_
  refine aw_iload_n C dX4_change_4 rfl ?_
  refine aw_gVp C (As := [.int u]) (c_X3_isThere l D cI cC adK adV (z 2) (zT z) T u) k1_172 cv_X3_isThere 2 rfl rfl rfl [1, 0, 2, 3, 4, 5] (fl1 _) rfl 6 rfl (by decide) ⟨by decide, by decide⟩ rfl rfl ⟨by decide, by decide⟩ rfl rfl (Nat.le_of_ble_eq_true rfl) dX4_change_5 ?_
  refine aw_ifeq_b C 24 dX4_change_8 (by decide) (fun c_8 => ?_) (fun c_8 => ?_)
  · skip
    refine aw_sub (lv' := [(0, .ref (z 0))]) [0] rfl ?_
    exact J24 (by simp only [m_change, c_8, decide_true, decide_false, Bool.not_true, Bool.not_false, Bool.true_and, Bool.false_and, Bool.and_true, Bool.and_false, Bool.true_or, Bool.false_or, Bool.or_true, Bool.or_false, cond_true, cond_false, eq_self, if_true, if_false, ite_true, ite_false] <;> rfl)
  · skip
    have e1 : u = nI (ix u) := there_ix c_8
    refine aw_eq (lv' := [(0, .ref (z 0)), (1, .int (nI (ix u))), (2, .int w), (3, .int v)]) (ws' := fl [wMa cI z ik F, wTo cI (z 2) (zT z) T, wTo cI (z 3) (zR z) R, wTo cI (z 4) (zK z) K, wTp cI (z 5) (z 6) f n tk bg en nm, wSh cI (z 7) (zS z) s1 s2 s3]) (by rw [← e1]) rfl rfl ?_
    refine aw_pc 11 rfl ?_
    refine aw_aload_n C dX4_change_11 rfl ?_
    refine aw_getf C 0 3 0 7 inX4 rfl (by decide) rfl k1_117 rfl rfl dX4_change_12 ?_
    refine aw_iload_n C dX4_change_15 rfl ?_
    refine aw_iload_n C dX4_change_16 rfl ?_
    refine aw_iload_n C dX4_change_17 rfl ?_
    refine aw_gVp C (As := [.int (nI (ix u)), .int w, .int v]) (c_X3_canBecome l D cI cC adK adV (z 2) (zT z) T (ix u) w v) k1_202 cv_X3_canBecome 2 rfl rfl rfl [1, 0, 2, 3, 4, 5] (fl1 _) rfl 6 rfl (by decide) ⟨by decide, by decide⟩ rfl rfl ⟨by decide, by decide⟩ rfl rfl (Nat.le_of_ble_eq_true rfl) dX4_change_18 ?_
    refine aw_ifne_b C 30 dX4_change_21 (by decide) (fun c_21 => ?_) (fun c_21 => ?_)
    · skip
      refine aw_aload_n C dX4_change_30 rfl ?_
      refine aw_getf C 0 3 0 7 inX4 rfl (by decide) rfl k1_117 rfl rfl dX4_change_31 ?_
      refine aw_iload_n C dX4_change_34 rfl ?_
      refine aw_pc 35 rfl ?_
      refine aw_iload_n C dX4_change_35 rfl ?_
      refine aw_gVp C (As := [.int (nI (ix u)), .int w]) (c_X3_trait l D cI cC adK adV (z 2) (zT z) T (ix u) w hn (there_lt hn c_8)) k1_173 cv_X3_trait 2 rfl rfl rfl [1, 0, 2, 3, 4, 5] (fl1 _) rfl 6 rfl (by decide) ⟨by decide, by decide⟩ rfl rfl ⟨by decide, by decide⟩ rfl rfl (Nat.le_of_ble_eq_true rfl) dX4_change_36 ?_
      refine aw_istore C true (lv' := [(0, .ref (z 0)), (1, .int (nI (ix u))), (2, .int w), (3, .int v), (4, .int (mTrait T (ix u) w))]) dX4_change_39 (by decide) rfl rfl ?_
      refine aw_aload_n C dX4_change_41 rfl ?_
      refine aw_getf C 0 3 0 7 inX4 rfl (by decide) rfl k1_117 rfl rfl dX4_change_42 ?_
      refine aw_iload_n C dX4_change_45 rfl ?_
      refine aw_iload_n C dX4_change_46 rfl ?_
      refine aw_iload_n C dX4_change_47 rfl ?_
      refine aw_gVdv C (As := [.int (nI (ix u)), .int w, .int v]) (c_X3_put l D cI cC adK adV (z 2) (zT z) T (ix u) w v hn (there_lt hn c_8)) k1_215 cv_X3_put 2 rfl rfl rfl [1, 0, 2, 3, 4, 5] (fl1 _) rfl 6 rfl (by decide) (gc := [wTo cI (z 2) (zT z) T]) (gr := [wMa cI z ik F, wTo cI (z 3) (zR z) R, wTo cI (z 4) (zK z) K, wTp cI (z 5) (z 6) f n tk bg en nm, wSh cI (z 7) (zS z) s1 s2 s3]) (gc1 := [wTo cI (z 2) (zT z) (mPut T (ix u) w v)]) (gs' := [wMa cI z ik F, wTo cI (z 2) (zT z) (mPut T (ix u) w v), wTo cI (z 3) (zR z) R, wTo cI (z 4) (zK z) K, wTp cI (z 5) (z 6) f n tk bg en nm, wSh cI (z 7) (zS z) s1 s2 s3]) (fl1 _) rfl rfl ⟨by decide, by decide⟩ rfl rfl ⟨by decide, by decide⟩ rfl rfl (Nat.le_of_ble_eq_true rfl) dX4_change_48 ?_
      refine aw_iload C dX4_change_51 rfl ?_
      refine aw_pc 53 rfl ?_
      have hm : m_change (T, K, ik, F, f, n, s1, s2, s3) u w v = ((mTrait T (ix u) w), ((mPut T (ix u) w v), K, ik, F, f, n, s1, s2, s3)) := by simp only [m_change, c_8, c_21, decide_true, decide_false, Bool.not_true, Bool.not_false, Bool.true_and, Bool.false_and, Bool.and_true, Bool.and_false, Bool.true_or, Bool.false_or, Bool.or_true, Bool.or_false, cond_true, cond_false, eq_self, if_true, if_false, ite_true, ite_false] <;> rfl
      exact aw_iret C hr hlk dX4_change_53 ⟨ri (by rw [hm]), R, tk, bg, en, nm, by rw [hm]; rfl⟩
    · skip
      refine aw_sub (lv' := [(0, .ref (z 0))]) [0] rfl ?_
      exact J24 (by simp only [m_change, c_8, c_21, decide_true, decide_false, Bool.not_true, Bool.not_false, Bool.true_and, Bool.false_and, Bool.and_true, Bool.and_false, Bool.true_or, Bool.false_or, Bool.or_true, Bool.or_false, cond_true, cond_false, eq_self, if_true, if_false, ite_true, ite_false] <;> rfl)
abbrev r_X4_minds : Room := { frames := 2, cells := 0, slots := 0, locals := 47 }
theorem cv_X4_minds : cV yX4_minds cX4_minds 3 (some .int) 2 := ⟨k1_217, k1_218, k1_219, k1_1, by decide, by decide, by decide +kernel⟩
set_option maxHeartbeats 4000000 in
set_option maxRecDepth 100000 in
theorem c_X4_minds (l : Launch) (D : va_G) (cI cC : ClassId) (adK adV : Nat → Nat) (z : Nat → Nat) (T R K : Tw) (ik : Bool) (F f : Nat → Int32) (n : Nat) (tk : Int32) (bg en : Nat) (nm : Int32) (s1 s2 s3 : Nat → Int32) (u : Int32) (g : Int32) (hn : T.1 ≤ 8) : FC l yX4_minds (wW yX4_minds cX4_minds 3 (some .int)) r_X4_minds D (tyC cI cC) adK adV (wBa cI z T R K ik F f n tk bg en nm s1 s2 s3) [.ref (z 0), .int u, .int g] 0 0 (pBa cI z (m_minds (T, K, ik, F, f, n, s1, s2, s3) u g)) := by
  refine FC.of (own := RX4) (by decide) rfl (Nat.le_of_ble_eq_true rfl) ?_
  intro p9 e9 s9 m9 args9 below9 meth9 c9 A9 C hr hlk hmn
  show AW p9 l e9 r_X4_minds s9 m9 args9 below9 meth9 c9 D A9 3 0 0 _ 0 [(0, .ref (z 0)), (1, .int u), (2, .int g)] [] _
  refine aw_eq (lv' := [(0, .ref (z 0)), (1, .int u), (2, .int g)]) (ws' := fl [wMa cI z ik F, wTo cI (z 2) (zT z) T, wTo cI (z 3) (zR z) R, wTo cI (z 4) (zK z) K, wTp cI (z 5) (z 6) f n tk bg en nm, wSh cI (z 7) (zS z) s1 s2 s3]) rfl rfl rfl ?_
  have J20 : m_minds (T, K, ik, F, f, n, s1, s2, s3) u g = gno (T, K, ik, F, f, n, s1, s2, s3) 0 → AW p9 l e9 r_X4_minds s9 m9 args9 below9 meth9 c9 D A9 3 0 0 (aQ below9 args9 s9 D A9 0 0 (pBa cI z (m_minds (T, K, ik, F, f, n, s1, s2, s3) u g))) 20 [(0, .ref (z 0))] [] (fl [wMa cI z ik F, wTo cI (z 2) (zT z) T, wTo cI (z 3) (zR z) R, wTo cI (z 4) (zK z) K, wTp cI (z 5) (z 6) f n tk bg en nm, wSh cI (z 7) (zS z) s1 s2 s3]) := by
    intro hj
    refine aw_aload_n C dX4_minds_20 rfl ?_
    refine aw_iconst C (0 : Int32) dX4_minds_21 (by decide) ?_
    refine aw_gVd C (As := [.int (0 : Int32)]) (c_X4_finding l D cI cC adK adV z ik F 0 (by decide)) k1_146 cv_X4_finding 3 rfl rfl rfl [0, 1, 2, 3, 4, 5] (fl1 _) rfl 6 rfl (by decide) (gc := [wMa cI z ik F]) (gr := [wTo cI (z 2) (zT z) T, wTo cI (z 3) (zR z) R, wTo cI (z 4) (zK z) K, wTp cI (z 5) (z 6) f n tk bg en nm, wSh cI (z 7) (zS z) s1 s2 s3]) (gc1 := [wMa cI z ik (upd F 0 (F 0 + 1))]) (gs' := [wMa cI z ik (upd F 0 (F 0 + 1)), wTo cI (z 2) (zT z) T, wTo cI (z 3) (zR z) R, wTo cI (z 4) (zK z) K, wTp cI (z 5) (z 6) f n tk bg en nm, wSh cI (z 7) (zS z) s1 s2 s3]) (fl1 _) rfl rfl ⟨by decide, by decide⟩ rfl rfl ⟨by decide, by decide⟩ rfl rfl (Nat.le_of_ble_eq_true rfl) dX4_minds_22 ?_
    have hm : m_minds (T, K, ik, F, f, n, s1, s2, s3) u g = ((fno 0), (T, K, ik, (upd F 0 (F 0 + 1)), f, n, s1, s2, s3)) := by rw [hj]; rfl
    exact aw_iret C hr hlk dX4_minds_25 ⟨ri (by rw [hm]), R, tk, bg, en, nm, by rw [hm]; rfl⟩
  refine aw_aload_n C dX4_minds_0 rfl ?_
  refine aw_getf C 0 3 0 7 inX4 rfl (by decide) rfl k1_117 rfl rfl dX4_minds_1 ?_
  refine aw_iload_n C dX4_minds_4 rfl ?_
  refine aw_gVp C (As := [.int u]) (c_X3_isThere l D cI cC adK adV (z 2) (zT z) T u) k1_172 cv_X3_isThere 2 rfl rfl rfl [1, 0, 2, 3, 4, 5] (fl1 _) rfl 6 rfl (by decide) ⟨by decide, by decide⟩ rfl rfl ⟨by decide, by decide⟩ rfl rfl (Nat.le_of_ble_eq_true rfl) dX4_minds_5 ?_
  refine aw_ifeq_b C 20 dX4_minds_8 (by decide) (fun c_8 => ?_) (fun c_8 => ?_)
  · skip
    refine aw_sub (lv' := [(0, .ref (z 0))]) [0] rfl ?_
    exact J20 (by simp only [m_minds, c_8, decide_true, decide_false, Bool.not_true, Bool.not_false, Bool.true_and, Bool.false_and, Bool.and_true, Bool.and_false, Bool.true_or, Bool.false_or, Bool.or_true, Bool.or_false, cond_true, cond_false, eq_self, if_true, if_false, ite_true, ite_false] <;> rfl)
  · skip
    refine aw_pc 11 rfl ?_
    refine aw_iload_n C dX4_minds_11 rfl ?_
    refine aw_bipush C (12 : Int32) dX4_minds_12 (by decide) ?_
    refine aw_callSp C (As := [.int g, .int (12 : Int32)]) (c_X4_isIn l D cI cC adK adV g (12 : Int32)) k1_143 cs_X4_isIn [] (by decide) rfl ⟨by decide, by decide⟩ rfl rfl ⟨by decide, by decide⟩ rfl rfl (Nat.le_of_ble_eq_true rfl) dX4_minds_14 ?_
    refine aw_ifne_b C 26 dX4_minds_17 (by decide) (fun c_17 => ?_) (fun c_17 => ?_)
    · skip
      have e1 : u = nI (ix u) := there_ix c_8
      refine aw_eq (lv' := [(0, .ref (z 0)), (1, .int (nI (ix u))), (2, .int g)]) (ws' := fl [wMa cI z ik F, wTo cI (z 2) (zT z) T, wTo cI (z 3) (zR z) R, wTo cI (z 4) (zK z) K, wTp cI (z 5) (z 6) f n tk bg en nm, wSh cI (z 7) (zS z) s1 s2 s3]) (by rw [← e1]) rfl rfl ?_
      refine aw_aload_n C dX4_minds_26 rfl ?_
      refine aw_getf C 0 3 0 7 inX4 rfl (by decide) rfl k1_117 rfl rfl dX4_minds_27 ?_
      refine aw_iload_n C dX4_minds_30 rfl ?_
      refine aw_iload_n C dX4_minds_31 rfl ?_
      refine aw_gVp C (As := [.int (nI (ix u)), .int g]) (c_X3_mindsGuise l D cI cC adK adV (z 2) (zT z) T (ix u) g (Nat.lt_of_lt_of_le (there_lt hn c_8) hn)) k1_220 cv_X3_mindsGuise 2 rfl rfl rfl [1, 0, 2, 3, 4, 5] (fl1 _) rfl 6 rfl (by decide) ⟨by decide, by decide⟩ rfl rfl ⟨by decide, by decide⟩ rfl rfl (Nat.le_of_ble_eq_true rfl) dX4_minds_32 ?_
      refine aw_callSp C (As := [.int (b2 (tMind T (ix u) g))]) (c_X4_bit l D cI cC adK adV (tMind T (ix u) g)) k1_227 cs_X4_bit [] (by decide) rfl ⟨by decide, by decide⟩ rfl rfl ⟨by decide, by decide⟩ rfl rfl (Nat.le_of_ble_eq_true rfl) dX4_minds_35 ?_
      refine aw_pc 38 rfl ?_
      have hm : m_minds (T, K, ik, F, f, n, s1, s2, s3) u g = ((b2 (tMind T (ix u) g)), (T, K, ik, F, f, n, s1, s2, s3)) := by simp only [m_minds, c_8, c_17, decide_true, decide_false, Bool.not_true, Bool.not_false, Bool.true_and, Bool.false_and, Bool.and_true, Bool.and_false, Bool.true_or, Bool.false_or, Bool.or_true, Bool.or_false, cond_true, cond_false, eq_self, if_true, if_false, ite_true, ite_false] <;> rfl
      exact aw_iret C hr hlk dX4_minds_38 ⟨ri (by rw [hm]), R, tk, bg, en, nm, by rw [hm]; rfl⟩
    · skip
      refine aw_sub (lv' := [(0, .ref (z 0))]) [0] rfl ?_
      exact J20 (by simp only [m_minds, c_8, c_17, decide_true, decide_false, Bool.not_true, Bool.not_false, Bool.true_and, Bool.false_and, Bool.and_true, Bool.and_false, Bool.true_or, Bool.false_or, Bool.or_true, Bool.or_false, cond_true, cond_false, eq_self, if_true, if_false, ite_true, ite_false] <;> rfl)
abbrev r_X4_far : Room := { frames := 2, cells := 0, slots := 0, locals := 43 }
theorem cv_X4_far : cV yX4_far cX4_far 3 (some .int) 2 := ⟨k1_231, k1_232, k1_233, k1_1, by decide, by decide, by decide +kernel⟩
set_option maxHeartbeats 4000000 in
set_option maxRecDepth 100000 in
theorem c_X4_far (l : Launch) (D : va_G) (cI cC : ClassId) (adK adV : Nat → Nat) (z : Nat → Nat) (T R K : Tw) (ik : Bool) (F f : Nat → Int32) (n : Nat) (tk : Int32) (bg en : Nat) (nm : Int32) (s1 s2 s3 : Nat → Int32) (u : Int32) (v : Int32) (hn : T.1 ≤ 8) : FC l yX4_far (wW yX4_far cX4_far 3 (some .int)) r_X4_far D (tyC cI cC) adK adV (wBa cI z T R K ik F f n tk bg en nm s1 s2 s3) [.ref (z 0), .int u, .int v] 0 0 (pBa cI z (m_far (T, K, ik, F, f, n, s1, s2, s3) u v)) := by
  refine FC.of (own := RX4) (by decide) rfl (Nat.le_of_ble_eq_true rfl) ?_
  intro p9 e9 s9 m9 args9 below9 meth9 c9 A9 C hr hlk hmn
  show AW p9 l e9 r_X4_far s9 m9 args9 below9 meth9 c9 D A9 3 0 0 _ 0 [(0, .ref (z 0)), (1, .int u), (2, .int v)] [] _
  refine aw_eq (lv' := [(0, .ref (z 0)), (1, .int u), (2, .int v)]) (ws' := fl [wMa cI z ik F, wTo cI (z 2) (zT z) T, wTo cI (z 3) (zR z) R, wTo cI (z 4) (zK z) K, wTp cI (z 5) (z 6) f n tk bg en nm, wSh cI (z 7) (zS z) s1 s2 s3]) rfl rfl rfl ?_
  have J12 : m_far (T, K, ik, F, f, n, s1, s2, s3) u v = gno (T, K, ik, F, f, n, s1, s2, s3) 0 → AW p9 l e9 r_X4_far s9 m9 args9 below9 meth9 c9 D A9 3 0 0 (aQ below9 args9 s9 D A9 0 0 (pBa cI z (m_far (T, K, ik, F, f, n, s1, s2, s3) u v))) 12 [(0, .ref (z 0))] [] (fl [wMa cI z ik F, wTo cI (z 2) (zT z) T, wTo cI (z 3) (zR z) R, wTo cI (z 4) (zK z) K, wTp cI (z 5) (z 6) f n tk bg en nm, wSh cI (z 7) (zS z) s1 s2 s3]) := by
    intro hj
    refine aw_aload_n C dX4_far_12 rfl ?_
    refine aw_iconst C (0 : Int32) dX4_far_13 (by decide) ?_
    refine aw_gVd C (As := [.int (0 : Int32)]) (c_X4_finding l D cI cC adK adV z ik F 0 (by decide)) k1_146 cv_X4_finding 3 rfl rfl rfl [0, 1, 2, 3, 4, 5] (fl1 _) rfl 6 rfl (by decide) (gc := [wMa cI z ik F]) (gr := [wTo cI (z 2) (zT z) T, wTo cI (z 3) (zR z) R, wTo cI (z 4) (zK z) K, wTp cI (z 5) (z 6) f n tk bg en nm, wSh cI (z 7) (zS z) s1 s2 s3]) (gc1 := [wMa cI z ik (upd F 0 (F 0 + 1))]) (gs' := [wMa cI z ik (upd F 0 (F 0 + 1)), wTo cI (z 2) (zT z) T, wTo cI (z 3) (zR z) R, wTo cI (z 4) (zK z) K, wTp cI (z 5) (z 6) f n tk bg en nm, wSh cI (z 7) (zS z) s1 s2 s3]) (fl1 _) rfl rfl ⟨by decide, by decide⟩ rfl rfl ⟨by decide, by decide⟩ rfl rfl (Nat.le_of_ble_eq_true rfl) dX4_far_14 ?_
    have hm : m_far (T, K, ik, F, f, n, s1, s2, s3) u v = ((fno 0), (T, K, ik, (upd F 0 (F 0 + 1)), f, n, s1, s2, s3)) := by rw [hj]; rfl
    exact aw_iret C hr hlk dX4_far_17 ⟨ri (by rw [hm]), R, tk, bg, en, nm, by rw [hm]; rfl⟩
  refine aw_aload_n C dX4_far_0 rfl ?_
  refine aw_getf C 0 3 0 7 inX4 rfl (by decide) rfl k1_117 rfl rfl dX4_far_1 ?_
  refine aw_iload_n C dX4_far_4 rfl ?_
  refine aw_iload_n C dX4_far_5 rfl ?_
  refine aw_gVp C (As := [.int u, .int v]) (c_X3_areTwo l D cI cC adK adV (z 2) (zT z) T u v) k1_234 cv_X3_areTwo 2 rfl rfl rfl [1, 0, 2, 3, 4, 5] (fl1 _) rfl 6 rfl (by decide) ⟨by decide, by decide⟩ rfl rfl ⟨by decide, by decide⟩ rfl rfl (Nat.le_of_ble_eq_true rfl) dX4_far_6 ?_
  refine aw_pc 9 rfl ?_
  refine aw_ifne_b C 18 dX4_far_9 (by decide) (fun c_9 => ?_) (fun c_9 => ?_)
  · skip
    obtain ⟨q1, q2, q3⟩ := two_u c_9
    have l1 := there_lt hn q1
    have l2 := there_lt hn q2
    have e1 : u = nI (ix u) := there_ix q1
    refine aw_eq (lv' := [(0, .ref (z 0)), (1, .int (nI (ix u))), (2, .int v)]) (ws' := fl [wMa cI z ik F, wTo cI (z 2) (zT z) T, wTo cI (z 3) (zR z) R, wTo cI (z 4) (zK z) K, wTp cI (z 5) (z 6) f n tk bg en nm, wSh cI (z 7) (zS z) s1 s2 s3]) (by rw [← e1]) rfl rfl ?_
    have e2 : v = nI (ix v) := there_ix q2
    refine aw_eq (lv' := [(0, .ref (z 0)), (1, .int (nI (ix u))), (2, .int (nI (ix v)))]) (ws' := fl [wMa cI z ik F, wTo cI (z 2) (zT z) T, wTo cI (z 3) (zR z) R, wTo cI (z 4) (zK z) K, wTp cI (z 5) (z 6) f n tk bg en nm, wSh cI (z 7) (zS z) s1 s2 s3]) (by rw [← e2]) rfl rfl ?_
    refine aw_aload_n C dX4_far_18 rfl ?_
    refine aw_getf C 0 3 0 7 inX4 rfl (by decide) rfl k1_117 rfl rfl dX4_far_19 ?_
    refine aw_iload_n C dX4_far_22 rfl ?_
    refine aw_iload_n C dX4_far_23 rfl ?_
    refine aw_gVp C (As := [.int (nI (ix u)), .int (nI (ix v))]) (c_X3_distance l D cI cC adK adV (z 2) (zT z) T (ix u) (ix v) (by omega) (by omega)) k1_238 cv_X3_distance 2 rfl rfl rfl [1, 0, 2, 3, 4, 5] (fl1 _) rfl 6 rfl (by decide) ⟨by decide, by decide⟩ rfl rfl ⟨by decide, by decide⟩ rfl rfl (Nat.le_of_ble_eq_true rfl) dX4_far_24 ?_
    have hm : m_far (T, K, ik, F, f, n, s1, s2, s3) u v = ((tFar T (ix u) (ix v)), (T, K, ik, F, f, n, s1, s2, s3)) := by simp only [m_far, c_9, decide_true, decide_false, Bool.not_true, Bool.not_false, Bool.true_and, Bool.false_and, Bool.and_true, Bool.and_false, Bool.true_or, Bool.false_or, Bool.or_true, Bool.or_false, cond_true, cond_false, eq_self, if_true, if_false, ite_true, ite_false] <;> rfl
    exact aw_iret C hr hlk dX4_far_27 ⟨ri (by rw [hm]), R, tk, bg, en, nm, by rw [hm]; rfl⟩
  · skip
    refine aw_sub (lv' := [(0, .ref (z 0))]) [0] rfl ?_
    exact J12 (by simp only [m_far, c_9, decide_true, decide_false, Bool.not_true, Bool.not_false, Bool.true_and, Bool.false_and, Bool.and_true, Bool.and_false, Bool.true_or, Bool.false_or, Bool.or_true, Bool.or_false, cond_true, cond_false, eq_self, if_true, if_false, ite_true, ite_false] <;> rfl)
abbrev r_X4_who : Room := { frames := 2, cells := 0, slots := 0, locals := 42 }
theorem cv_X4_who : cV yX4_who cX4_who 2 (some .int) 1 := ⟨k2_9, k2_10, k2_11, k1_1, by decide, by decide, by decide +kernel⟩
set_option maxHeartbeats 4000000 in
set_option maxRecDepth 100000 in
theorem c_X4_who (l : Launch) (D : va_G) (cI cC : ClassId) (adK adV : Nat → Nat) (z : Nat → Nat) (T R K : Tw) (ik : Bool) (F f : Nat → Int32) (n : Nat) (tk : Int32) (bg en : Nat) (nm : Int32) (s1 s2 s3 : Nat → Int32) (c : Int32) (hn : T.1 ≤ 8) : FC l yX4_who (wW yX4_who cX4_who 2 (some .int)) r_X4_who D (tyC cI cC) adK adV (wBa cI z T R K ik F f n tk bg en nm s1 s2 s3) [.ref (z 0), .int c] 0 0 (pBa cI z (m_who (T, K, ik, F, f, n, s1, s2, s3) c)) := by
  refine FC.of (own := RX4) (by decide) rfl (Nat.le_of_ble_eq_true rfl) ?_
  intro p9 e9 s9 m9 args9 below9 meth9 c9 A9 C hr hlk hmn
  show AW p9 l e9 r_X4_who s9 m9 args9 below9 meth9 c9 D A9 2 0 0 _ 0 [(0, .ref (z 0)), (1, .int c)] [] _
  refine aw_eq (lv' := [(0, .ref (z 0)), (1, .int c)]) (ws' := fl [wMa cI z ik F, wTo cI (z 2) (zT z) T, wTo cI (z 3) (zR z) R, wTo cI (z 4) (zK z) K, wTp cI (z 5) (z 6) f n tk bg en nm, wSh cI (z 7) (zS z) s1 s2 s3]) rfl rfl rfl ?_
  have J9 : m_who (T, K, ik, F, f, n, s1, s2, s3) c = gno (T, K, ik, F, f, n, s1, s2, s3) 0 → AW p9 l e9 r_X4_who s9 m9 args9 below9 meth9 c9 D A9 2 0 0 (aQ below9 args9 s9 D A9 0 0 (pBa cI z (m_who (T, K, ik, F, f, n, s1, s2, s3) c))) 9 [(0, .ref (z 0))] [] (fl [wMa cI z ik F, wTo cI (z 2) (zT z) T, wTo cI (z 3) (zR z) R, wTo cI (z 4) (zK z) K, wTp cI (z 5) (z 6) f n tk bg en nm, wSh cI (z 7) (zS z) s1 s2 s3]) := by
    intro hj
    refine aw_aload_n C dX4_who_9 rfl ?_
    refine aw_iconst C (0 : Int32) dX4_who_10 (by decide) ?_
    refine aw_gVd C (As := [.int (0 : Int32)]) (c_X4_finding l D cI cC adK adV z ik F 0 (by decide)) k1_146 cv_X4_finding 3 rfl rfl rfl [0, 1, 2, 3, 4, 5] (fl1 _) rfl 6 rfl (by decide) (gc := [wMa cI z ik F]) (gr := [wTo cI (z 2) (zT z) T, wTo cI (z 3) (zR z) R, wTo cI (z 4) (zK z) K, wTp cI (z 5) (z 6) f n tk bg en nm, wSh cI (z 7) (zS z) s1 s2 s3]) (gc1 := [wMa cI z ik (upd F 0 (F 0 + 1))]) (gs' := [wMa cI z ik (upd F 0 (F 0 + 1)), wTo cI (z 2) (zT z) T, wTo cI (z 3) (zR z) R, wTo cI (z 4) (zK z) K, wTp cI (z 5) (z 6) f n tk bg en nm, wSh cI (z 7) (zS z) s1 s2 s3]) (fl1 _) rfl rfl ⟨by decide, by decide⟩ rfl rfl ⟨by decide, by decide⟩ rfl rfl (Nat.le_of_ble_eq_true rfl) dX4_who_11 ?_
    have hm : m_who (T, K, ik, F, f, n, s1, s2, s3) c = ((fno 0), (T, K, ik, (upd F 0 (F 0 + 1)), f, n, s1, s2, s3)) := by rw [hj]; rfl
    exact aw_iret C hr hlk dX4_who_14 ⟨ri (by rw [hm]), R, tk, bg, en, nm, by rw [hm]; rfl⟩
  refine aw_iload_n C dX4_who_0 rfl ?_
  refine aw_bipush C (16 : Int32) dX4_who_1 (by decide) ?_
  refine aw_callSp C (As := [.int c, .int (16 : Int32)]) (c_X4_isIn l D cI cC adK adV c (16 : Int32)) k1_143 cs_X4_isIn [] (by decide) rfl ⟨by decide, by decide⟩ rfl rfl ⟨by decide, by decide⟩ rfl rfl (Nat.le_of_ble_eq_true rfl) dX4_who_3 ?_
  refine aw_ifne_b C 15 dX4_who_6 (by decide) (fun c_6 => ?_) (fun c_6 => ?_)
  · skip
    refine aw_aload_n C dX4_who_15 rfl ?_
    refine aw_pc 16 rfl ?_
    refine aw_getf C 0 3 0 7 inX4 rfl (by decide) rfl k1_117 rfl rfl dX4_who_16 ?_
    refine aw_iload_n C dX4_who_19 rfl ?_
    refine aw_gVp C (As := [.int c]) (c_X3_peopleAt l D cI cC adK adV (z 2) (zT z) T c hn) k2_12 cv_X3_peopleAt 2 rfl rfl rfl [1, 0, 2, 3, 4, 5] (fl1 _) rfl 6 rfl (by decide) ⟨by decide, by decide⟩ rfl rfl ⟨by decide, by decide⟩ rfl rfl (Nat.le_of_ble_eq_true rfl) dX4_who_20 ?_
    have hm : m_who (T, K, ik, F, f, n, s1, s2, s3) c = ((mWho T c), (T, K, ik, F, f, n, s1, s2, s3)) := by simp only [m_who, c_6, decide_true, decide_false, Bool.not_true, Bool.not_false, Bool.true_and, Bool.false_and, Bool.and_true, Bool.and_false, Bool.true_or, Bool.false_or, Bool.or_true, Bool.or_false, cond_true, cond_false, eq_self, if_true, if_false, ite_true, ite_false] <;> rfl
    exact aw_iret C hr hlk dX4_who_23 ⟨ri (by rw [hm]), R, tk, bg, en, nm, by rw [hm]; rfl⟩
  · skip
    refine aw_sub (lv' := [(0, .ref (z 0))]) [0] rfl ?_
    exact J9 (by simp only [m_who, c_6, decide_true, decide_false, Bool.not_true, Bool.not_false, Bool.true_and, Bool.false_and, Bool.and_true, Bool.and_false, Bool.true_or, Bool.false_or, Bool.or_true, Bool.or_false, cond_true, cond_false, eq_self, if_true, if_false, ite_true, ite_false] <;> rfl)
abbrev r_X4_two : Room := { frames := 3, cells := 0, slots := 0, locals := 65 }
theorem cv_X4_two : cV yX4_two cX4_two 4 (some .int) 3 := ⟨k2_17, k2_18, k2_19, k1_1, by decide, by decide, by decide +kernel⟩
set_option maxHeartbeats 4000000 in
set_option maxRecDepth 100000 in
theorem c_X4_two (l : Launch) (D : va_G) (cI cC : ClassId) (adK adV : Nat → Nat) (z : Nat → Nat) (T R K : Tw) (ik : Bool) (F f : Nat → Int32) (n : Nat) (tk : Int32) (bg en : Nat) (nm : Int32) (s1 s2 s3 : Nat → Int32) (u : Int32) (v : Int32) (w : Int32) (hn : T.1 ≤ 8) : FC l yX4_two (wW yX4_two cX4_two 4 (some .int)) r_X4_two D (tyC cI cC) adK adV (wBa cI z T R K ik F f n tk bg en nm s1 s2 s3) [.ref (z 0), .int u, .int v, .int w] 0 0 (pBa cI z (m_two (T, K, ik, F, f, n, s1, s2, s3) u v w)) := by
  refine FC.of (own := RX4) (by decide) rfl (Nat.le_of_ble_eq_true rfl) ?_
  intro p9 e9 s9 m9 args9 below9 meth9 c9 A9 C hr hlk hmn
  show AW p9 l e9 r_X4_two s9 m9 args9 below9 meth9 c9 D A9 4 0 0 _ 0 [(0, .ref (z 0)), (1, .int u), (2, .int v), (3, .int w)] [] _
  refine aw_eq (lv' := [(0, .ref (z 0)), (1, .int u), (2, .int v), (3, .int w)]) (ws' := fl [wMa cI z ik F, wTo cI (z 2) (zT z) T, wTo cI (z 3) (zR z) R, wTo cI (z 4) (zK z) K, wTp cI (z 5) (z 6) f n tk bg en nm, wSh cI (z 7) (zS z) s1 s2 s3]) rfl rfl rfl ?_
  have J12 : m_two (T, K, ik, F, f, n, s1, s2, s3) u v w = gno (T, K, ik, F, f, n, s1, s2, s3) 0 → AW p9 l e9 r_X4_two s9 m9 args9 below9 meth9 c9 D A9 4 0 0 (aQ below9 args9 s9 D A9 0 0 (pBa cI z (m_two (T, K, ik, F, f, n, s1, s2, s3) u v w))) 12 [(0, .ref (z 0))] [] (fl [wMa cI z ik F, wTo cI (z 2) (zT z) T, wTo cI (z 3) (zR z) R, wTo cI (z 4) (zK z) K, wTp cI (z 5) (z 6) f n tk bg en nm, wSh cI (z 7) (zS z) s1 s2 s3]) := by
    intro hj
    refine aw_aload_n C dX4_two_12 rfl ?_
    refine aw_iconst C (0 : Int32) dX4_two_13 (by decide) ?_
    refine aw_gVd C (As := [.int (0 : Int32)]) (c_X4_finding l D cI cC adK adV z ik F 0 (by decide)) k1_146 cv_X4_finding 3 rfl rfl rfl [0, 1, 2, 3, 4, 5] (fl1 _) rfl 6 rfl (by decide) (gc := [wMa cI z ik F]) (gr := [wTo cI (z 2) (zT z) T, wTo cI (z 3) (zR z) R, wTo cI (z 4) (zK z) K, wTp cI (z 5) (z 6) f n tk bg en nm, wSh cI (z 7) (zS z) s1 s2 s3]) (gc1 := [wMa cI z ik (upd F 0 (F 0 + 1))]) (gs' := [wMa cI z ik (upd F 0 (F 0 + 1)), wTo cI (z 2) (zT z) T, wTo cI (z 3) (zR z) R, wTo cI (z 4) (zK z) K, wTp cI (z 5) (z 6) f n tk bg en nm, wSh cI (z 7) (zS z) s1 s2 s3]) (fl1 _) rfl rfl ⟨by decide, by decide⟩ rfl rfl ⟨by decide, by decide⟩ rfl rfl (Nat.le_of_ble_eq_true rfl) dX4_two_14 ?_
    have hm : m_two (T, K, ik, F, f, n, s1, s2, s3) u v w = ((fno 0), (T, K, ik, (upd F 0 (F 0 + 1)), f, n, s1, s2, s3)) := by rw [hj]; rfl
    exact aw_iret C hr hlk dX4_two_17 ⟨ri (by rw [hm]), R, tk, bg, en, nm, by rw [hm]; rfl⟩
  have J83 : m_two (T, K, ik, F, f, n, s1, s2, s3) u v w = gno (T, K, ik, F, f, n, s1, s2, s3) 0 → AW p9 l e9 r_X4_two s9 m9 args9 below9 meth9 c9 D A9 4 0 0 (aQ below9 args9 s9 D A9 0 0 (pBa cI z (m_two (T, K, ik, F, f, n, s1, s2, s3) u v w))) 83 [(0, .ref (z 0))] [] (fl [wMa cI z ik F, wTo cI (z 2) (zT z) T, wTo cI (z 3) (zR z) R, wTo cI (z 4) (zK z) K, wTp cI (z 5) (z 6) f n tk bg en nm, wSh cI (z 7) (zS z) s1 s2 s3]) := by
    intro hj
    refine aw_aload_n C dX4_two_83 rfl ?_
    refine aw_iconst C (0 : Int32) dX4_two_84 (by decide) ?_
    refine aw_gVd C (As := [.int (0 : Int32)]) (c_X4_finding l D cI cC adK adV z ik F 0 (by decide)) k1_146 cv_X4_finding 3 rfl rfl rfl [0, 1, 2, 3, 4, 5] (fl1 _) rfl 6 rfl (by decide) (gc := [wMa cI z ik F]) (gr := [wTo cI (z 2) (zT z) T, wTo cI (z 3) (zR z) R, wTo cI (z 4) (zK z) K, wTp cI (z 5) (z 6) f n tk bg en nm, wSh cI (z 7) (zS z) s1 s2 s3]) (gc1 := [wMa cI z ik (upd F 0 (F 0 + 1))]) (gs' := [wMa cI z ik (upd F 0 (F 0 + 1)), wTo cI (z 2) (zT z) T, wTo cI (z 3) (zR z) R, wTo cI (z 4) (zK z) K, wTp cI (z 5) (z 6) f n tk bg en nm, wSh cI (z 7) (zS z) s1 s2 s3]) (fl1 _) rfl rfl ⟨by decide, by decide⟩ rfl rfl ⟨by decide, by decide⟩ rfl rfl (Nat.le_of_ble_eq_true rfl) dX4_two_85 ?_
    have hm : m_two (T, K, ik, F, f, n, s1, s2, s3) u v w = ((fno 0), (T, K, ik, (upd F 0 (F 0 + 1)), f, n, s1, s2, s3)) := by rw [hj]; rfl
    exact aw_iret C hr hlk dX4_two_88 ⟨ri (by rw [hm]), R, tk, bg, en, nm, by rw [hm]; rfl⟩
  refine aw_aload_n C dX4_two_0 rfl ?_
  refine aw_pc 1 rfl ?_
  refine aw_getf C 0 3 0 7 inX4 rfl (by decide) rfl k1_117 rfl rfl dX4_two_1 ?_
  refine aw_iload_n C dX4_two_4 rfl ?_
  refine aw_iload_n C dX4_two_5 rfl ?_
  refine aw_gVp C (As := [.int u, .int v]) (c_X3_areTwo l D cI cC adK adV (z 2) (zT z) T u v) k1_234 cv_X3_areTwo 2 rfl rfl rfl [1, 0, 2, 3, 4, 5] (fl1 _) rfl 6 rfl (by decide) ⟨by decide, by decide⟩ rfl rfl ⟨by decide, by decide⟩ rfl rfl (Nat.le_of_ble_eq_true rfl) dX4_two_6 ?_
  refine aw_ifne_b C 18 dX4_two_9 (by decide) (fun c_9 => ?_) (fun c_9 => ?_)
  · skip
    obtain ⟨q1, q2, q3⟩ := two_u c_9
    have l1 := there_lt hn q1
    have l2 := there_lt hn q2
    have e1 : u = nI (ix u) := there_ix q1
    refine aw_eq (lv' := [(0, .ref (z 0)), (1, .int (nI (ix u))), (2, .int v), (3, .int w)]) (ws' := fl [wMa cI z ik F, wTo cI (z 2) (zT z) T, wTo cI (z 3) (zR z) R, wTo cI (z 4) (zK z) K, wTp cI (z 5) (z 6) f n tk bg en nm, wSh cI (z 7) (zS z) s1 s2 s3]) (by rw [← e1]) rfl rfl ?_
    have e2 : v = nI (ix v) := there_ix q2
    refine aw_eq (lv' := [(0, .ref (z 0)), (1, .int (nI (ix u))), (2, .int (nI (ix v))), (3, .int w)]) (ws' := fl [wMa cI z ik F, wTo cI (z 2) (zT z) T, wTo cI (z 3) (zR z) R, wTo cI (z 4) (zK z) K, wTp cI (z 5) (z 6) f n tk bg en nm, wSh cI (z 7) (zS z) s1 s2 s3]) (by rw [← e2]) rfl rfl ?_
    refine aw_iload_n C dX4_two_18 rfl ?_
    by_cases s_19_0 : w = (0 : Int32)
    · skip
      refine aw_tabIn C (0) 44 dX4_two_19 (by rw [s_19_0]; rfl) (by decide) (by decide) rfl (by decide) ?_
      refine aw_aload_n C dX4_two_44 rfl ?_
      refine aw_getf C 0 3 0 7 inX4 rfl (by decide) rfl k1_117 rfl rfl dX4_two_45 ?_
      refine aw_iload_n C dX4_two_48 rfl ?_
      refine aw_pc 49 rfl ?_
      refine aw_iload_n C dX4_two_49 rfl ?_
      refine aw_gVp C (As := [.int (nI (ix u)), .int (nI (ix v))]) (c_X3_bothMet l D cI cC adK adV (z 2) (zT z) T (ix u) (ix v) (by omega) (by omega)) k2_20 cv_X3_bothMet 2 rfl rfl rfl [1, 0, 2, 3, 4, 5] (fl1 _) rfl 6 rfl (by decide) ⟨by decide, by decide⟩ rfl rfl ⟨by decide, by decide⟩ rfl rfl (Nat.le_of_ble_eq_true rfl) dX4_two_50 ?_
      refine aw_callSp C (As := [.int (b2 (tMut T 3 (ix u) (ix v)))]) (c_X4_bit l D cI cC adK adV (tMut T 3 (ix u) (ix v))) k1_227 cs_X4_bit [] (by decide) rfl ⟨by decide, by decide⟩ rfl rfl ⟨by decide, by decide⟩ rfl rfl (Nat.le_of_ble_eq_true rfl) dX4_two_53 ?_
      have hm : m_two (T, K, ik, F, f, n, s1, s2, s3) u v w = ((b2 (tMut T 3 (ix u) (ix v))), (T, K, ik, F, f, n, s1, s2, s3)) := by simp only [m_two, c_9, if_pos s_19_0, decide_true, decide_false, Bool.not_true, Bool.not_false, Bool.true_and, Bool.false_and, Bool.and_true, Bool.and_false, Bool.true_or, Bool.false_or, Bool.or_true, Bool.or_false, cond_true, cond_false, eq_self, if_true, if_false, ite_true, ite_false] <;> rfl
      exact aw_iret C hr hlk dX4_two_56 ⟨ri (by rw [hm]), R, tk, bg, en, nm, by rw [hm]; rfl⟩
    by_cases s_19_1 : w = (1 : Int32)
    · skip
      refine aw_tabIn C (1) 57 dX4_two_19 (by rw [s_19_1]; rfl) (by decide) (by decide) rfl (by decide) ?_
      refine aw_aload_n C dX4_two_57 rfl ?_
      refine aw_getf C 0 3 0 7 inX4 rfl (by decide) rfl k1_117 rfl rfl dX4_two_58 ?_
      refine aw_iload_n C dX4_two_61 rfl ?_
      refine aw_iload_n C dX4_two_62 rfl ?_
      refine aw_gVp C (As := [.int (nI (ix u)), .int (nI (ix v))]) (c_X3_bothKnow l D cI cC adK adV (z 2) (zT z) T (ix u) (ix v) (by omega) (by omega)) k2_30 cv_X3_bothKnow 2 rfl rfl rfl [1, 0, 2, 3, 4, 5] (fl1 _) rfl 6 rfl (by decide) ⟨by decide, by decide⟩ rfl rfl ⟨by decide, by decide⟩ rfl rfl (Nat.le_of_ble_eq_true rfl) dX4_two_63 ?_
      refine aw_callSp C (As := [.int (b2 (tMut T 4 (ix u) (ix v)))]) (c_X4_bit l D cI cC adK adV (tMut T 4 (ix u) (ix v))) k1_227 cs_X4_bit [] (by decide) rfl ⟨by decide, by decide⟩ rfl rfl ⟨by decide, by decide⟩ rfl rfl (Nat.le_of_ble_eq_true rfl) dX4_two_66 ?_
      refine aw_pc 69 rfl ?_
      have hm : m_two (T, K, ik, F, f, n, s1, s2, s3) u v w = ((b2 (tMut T 4 (ix u) (ix v))), (T, K, ik, F, f, n, s1, s2, s3)) := by simp only [m_two, c_9, if_pos s_19_1, if_neg s_19_0, decide_true, decide_false, Bool.not_true, Bool.not_false, Bool.true_and, Bool.false_and, Bool.and_true, Bool.and_false, Bool.true_or, Bool.false_or, Bool.or_true, Bool.or_false, cond_true, cond_false, eq_self, if_true, if_false, ite_true, ite_false] <;> rfl
      exact aw_iret C hr hlk dX4_two_69 ⟨ri (by rw [hm]), R, tk, bg, en, nm, by rw [hm]; rfl⟩
    by_cases s_19_2 : w = (2 : Int32)
    · skip
      refine aw_tabIn C (2) 70 dX4_two_19 (by rw [s_19_2]; rfl) (by decide) (by decide) rfl (by decide) ?_
      refine aw_aload_n C dX4_two_70 rfl ?_
      refine aw_getf C 0 3 0 7 inX4 rfl (by decide) rfl k1_117 rfl rfl dX4_two_71 ?_
      refine aw_iload_n C dX4_two_74 rfl ?_
      refine aw_iload_n C dX4_two_75 rfl ?_
      refine aw_gVp C (As := [.int (nI (ix u)), .int (nI (ix v))]) (c_X3_wouldSee l D cI cC adK adV (z 2) (zT z) T (ix u) (ix v) (by omega) (by omega)) k2_34 cv_X3_wouldSee 2 rfl rfl rfl [1, 0, 2, 3, 4, 5] (fl1 _) rfl 6 rfl (by decide) ⟨by decide, by decide⟩ rfl rfl ⟨by decide, by decide⟩ rfl rfl (Nat.le_of_ble_eq_true rfl) dX4_two_76 ?_
      refine aw_callSp C (As := [.int (b2 (tSee T (ix u) (ix v)))]) (c_X4_bit l D cI cC adK adV (tSee T (ix u) (ix v))) k1_227 cs_X4_bit [] (by decide) rfl ⟨by decide, by decide⟩ rfl rfl ⟨by decide, by decide⟩ rfl rfl (Nat.le_of_ble_eq_true rfl) dX4_two_79 ?_
      have hm : m_two (T, K, ik, F, f, n, s1, s2, s3) u v w = ((b2 (tSee T (ix u) (ix v))), (T, K, ik, F, f, n, s1, s2, s3)) := by simp only [m_two, c_9, if_pos s_19_2, if_neg s_19_0, if_neg s_19_1, decide_true, decide_false, Bool.not_true, Bool.not_false, Bool.true_and, Bool.false_and, Bool.and_true, Bool.and_false, Bool.true_or, Bool.false_or, Bool.or_true, Bool.or_false, cond_true, cond_false, eq_self, if_true, if_false, ite_true, ite_false] <;> rfl
      exact aw_iret C hr hlk dX4_two_82 ⟨ri (by rw [hm]), R, tk, bg, en, nm, by rw [hm]; rfl⟩
    refine aw_tabOut C 83 dX4_two_19 (by have q0 := ne_toInt s_19_0 (z := 0) rfl; have q1 := ne_toInt s_19_1 (z := 1) rfl; have q2 := ne_toInt s_19_2 (z := 2) rfl; omega) (by decide) ?_
    refine aw_sub (lv' := [(0, .ref (z 0))]) [0] rfl ?_
    exact J83 (by simp only [m_two, c_9, if_neg s_19_0, if_neg s_19_1, if_neg s_19_2, decide_true, decide_false, Bool.not_true, Bool.not_false, Bool.true_and, Bool.false_and, Bool.and_true, Bool.and_false, Bool.true_or, Bool.false_or, Bool.or_true, Bool.or_false, cond_true, cond_false, eq_self, if_true, if_false, ite_true, ite_false] <;> rfl)
  · skip
    refine aw_sub (lv' := [(0, .ref (z 0))]) [0] rfl ?_
    exact J12 (by simp only [m_two, c_9, decide_true, decide_false, Bool.not_true, Bool.not_false, Bool.true_and, Bool.false_and, Bool.and_true, Bool.and_false, Bool.true_or, Bool.false_or, Bool.or_true, Bool.or_false, cond_true, cond_false, eq_self, if_true, if_false, ite_true, ite_false] <;> rfl)
abbrev r_X4_go : Room := { frames := 6, cells := 0, slots := 0, locals := 132 }
theorem cv_X4_go : cV yX4_go cX4_go 2 (some .int) 1 := ⟨k2_40, k2_41, k2_42, k1_1, by decide, by decide, by decide +kernel⟩
set_option maxHeartbeats 4000000 in
set_option maxRecDepth 100000 in
theorem c_X4_go (l : Launch) (D : va_G) (cI cC : ClassId) (adK adV : Nat → Nat) (z : Nat → Nat) (T R K : Tw) (ik : Bool) (F f : Nat → Int32) (n : Nat) (tk : Int32) (bg en : Nat) (nm : Int32) (s1 s2 s3 : Nat → Int32) (k : Int32) (hn : T.1 ≤ 8) : FC l yX4_go (wW yX4_go cX4_go 2 (some .int)) r_X4_go D (tyC cI cC) adK adV (wBa cI z T R K ik F f n tk bg en nm s1 s2 s3) [.ref (z 0), .int k] 0 0 (pBa cI z (m_go (T, K, ik, F, f, n, s1, s2, s3) k)) := by
  refine FC.of (own := RX4) (by decide) rfl (Nat.le_of_ble_eq_true rfl) ?_
  intro p9 e9 s9 m9 args9 below9 meth9 c9 A9 C hr hlk hmn
  show AW p9 l e9 r_X4_go s9 m9 args9 below9 meth9 c9 D A9 2 0 0 _ 0 [(0, .ref (z 0)), (1, .int k)] [] _
  refine aw_eq (lv' := [(0, .ref (z 0)), (1, .int k)]) (ws' := fl [wMa cI z ik F, wTo cI (z 2) (zT z) T, wTo cI (z 3) (zR z) R, wTo cI (z 4) (zK z) K, wTp cI (z 5) (z 6) f n tk bg en nm, wSh cI (z 7) (zS z) s1 s2 s3]) rfl rfl rfl ?_
  have J11 : m_go (T, K, ik, F, f, n, s1, s2, s3) k = gno (T, K, ik, F, f, n, s1, s2, s3) 0 → AW p9 l e9 r_X4_go s9 m9 args9 below9 meth9 c9 D A9 2 0 0 (aQ below9 args9 s9 D A9 0 0 (pBa cI z (m_go (T, K, ik, F, f, n, s1, s2, s3) k))) 11 [(0, .ref (z 0))] [] (fl [wMa cI z ik F, wTo cI (z 2) (zT z) T, wTo cI (z 3) (zR z) R, wTo cI (z 4) (zK z) K, wTp cI (z 5) (z 6) f n tk bg en nm, wSh cI (z 7) (zS z) s1 s2 s3]) := by
    intro hj
    refine aw_aload_n C dX4_go_11 rfl ?_
    refine aw_iconst C (0 : Int32) dX4_go_12 (by decide) ?_
    refine aw_gVd C (As := [.int (0 : Int32)]) (c_X4_finding l D cI cC adK adV z ik F 0 (by decide)) k1_146 cv_X4_finding 3 rfl rfl rfl [0, 1, 2, 3, 4, 5] (fl1 _) rfl 6 rfl (by decide) (gc := [wMa cI z ik F]) (gr := [wTo cI (z 2) (zT z) T, wTo cI (z 3) (zR z) R, wTo cI (z 4) (zK z) K, wTp cI (z 5) (z 6) f n tk bg en nm, wSh cI (z 7) (zS z) s1 s2 s3]) (gc1 := [wMa cI z ik (upd F 0 (F 0 + 1))]) (gs' := [wMa cI z ik (upd F 0 (F 0 + 1)), wTo cI (z 2) (zT z) T, wTo cI (z 3) (zR z) R, wTo cI (z 4) (zK z) K, wTp cI (z 5) (z 6) f n tk bg en nm, wSh cI (z 7) (zS z) s1 s2 s3]) (fl1 _) rfl rfl ⟨by decide, by decide⟩ rfl rfl ⟨by decide, by decide⟩ rfl rfl (Nat.le_of_ble_eq_true rfl) dX4_go_13 ?_
    have hm : m_go (T, K, ik, F, f, n, s1, s2, s3) k = ((fno 0), (T, K, ik, (upd F 0 (F 0 + 1)), f, n, s1, s2, s3)) := by rw [hj]; rfl
    exact aw_iret C hr hlk dX4_go_16 ⟨ri (by rw [hm]), R, tk, bg, en, nm, by rw [hm]; rfl⟩
  have J28 : m_go (T, K, ik, F, f, n, s1, s2, s3) k = gno (T, K, ik, F, f, n, s1, s2, s3) 4 → AW p9 l e9 r_X4_go s9 m9 args9 below9 meth9 c9 D A9 2 0 0 (aQ below9 args9 s9 D A9 0 0 (pBa cI z (m_go (T, K, ik, F, f, n, s1, s2, s3) k))) 28 [(0, .ref (z 0))] [] (fl [wMa cI z ik F, wTo cI (z 2) (zT z) T, wTo cI (z 3) (zR z) R, wTo cI (z 4) (zK z) K, wTp cI (z 5) (z 6) f n tk bg en nm, wSh cI (z 7) (zS z) s1 s2 s3]) := by
    intro hj
    refine aw_aload_n C dX4_go_28 rfl ?_
    refine aw_iconst C (4 : Int32) dX4_go_29 (by decide) ?_
    refine aw_gVd C (As := [.int (4 : Int32)]) (c_X4_finding l D cI cC adK adV z ik F 4 (by decide)) k1_146 cv_X4_finding 3 rfl rfl rfl [0, 1, 2, 3, 4, 5] (fl1 _) rfl 6 rfl (by decide) (gc := [wMa cI z ik F]) (gr := [wTo cI (z 2) (zT z) T, wTo cI (z 3) (zR z) R, wTo cI (z 4) (zK z) K, wTp cI (z 5) (z 6) f n tk bg en nm, wSh cI (z 7) (zS z) s1 s2 s3]) (gc1 := [wMa cI z ik (upd F 4 (F 4 + 1))]) (gs' := [wMa cI z ik (upd F 4 (F 4 + 1)), wTo cI (z 2) (zT z) T, wTo cI (z 3) (zR z) R, wTo cI (z 4) (zK z) K, wTp cI (z 5) (z 6) f n tk bg en nm, wSh cI (z 7) (zS z) s1 s2 s3]) (fl1 _) rfl rfl ⟨by decide, by decide⟩ rfl rfl ⟨by decide, by decide⟩ rfl rfl (Nat.le_of_ble_eq_true rfl) dX4_go_30 ?_
    have hm : m_go (T, K, ik, F, f, n, s1, s2, s3) k = ((fno 4), (T, K, ik, (upd F 4 (F 4 + 1)), f, n, s1, s2, s3)) := by rw [hj]; rfl
    exact aw_iret C hr hlk dX4_go_33 ⟨ri (by rw [hm]), R, tk, bg, en, nm, by rw [hm]; rfl⟩
  refine aw_iload_n C dX4_go_0 rfl ?_
  refine aw_pc 1 rfl ?_
  refine aw_iconst C (1 : Int32) dX4_go_1 (by decide) ?_
  refine aw_icmp_lt C 11 dX4_go_2 (by decide) (fun c_2 => ?_) (fun c_2 => ?_)
  · skip
    refine aw_sub (lv' := [(0, .ref (z 0))]) [0] rfl ?_
    exact J11 (by simp only [m_go, c_2, decide_true, decide_false, Bool.not_true, Bool.not_false, Bool.true_and, Bool.false_and, Bool.and_true, Bool.and_false, Bool.true_or, Bool.false_or, Bool.or_true, Bool.or_false, cond_true, cond_false, eq_self, if_true, if_false, ite_true, ite_false] <;> rfl)
  · skip
    refine aw_iload_n C dX4_go_5 rfl ?_
    refine aw_bipush C (60 : Int32) dX4_go_6 (by decide) ?_
    refine aw_icmp_le C 17 dX4_go_8 (by decide) (fun c_8 => ?_) (fun c_8 => ?_)
    · skip
      refine aw_aload_n C dX4_go_17 rfl ?_
      refine aw_getf C 0 3 0 7 inX4 rfl (by decide) rfl k1_117 rfl rfl dX4_go_18 ?_
      refine aw_iload_n C dX4_go_21 rfl ?_
      refine aw_gVp C (As := [.int k]) (c_X3_hasDays l D cI cC adK adV (z 2) (zT z) T k) k2_43 cv_X3_hasDays 2 rfl rfl rfl [1, 0, 2, 3, 4, 5] (fl1 _) rfl 6 rfl (by decide) ⟨by decide, by decide⟩ rfl rfl ⟨by decide, by decide⟩ rfl rfl (Nat.le_of_ble_eq_true rfl) dX4_go_22 ?_
      refine aw_ifne_b C 34 dX4_go_25 (by decide) (fun c_25 => ?_) (fun c_25 => ?_)
      · skip
        have l1 : ix k ≤ 60 := ix_le (neg1 c_2) (by decide) c_8
        have e1 : k = nI (ix k) := ix_eq (neg1 c_2)
        refine aw_eq (lv' := [(0, .ref (z 0)), (1, .int (nI (ix k)))]) (ws' := fl [wMa cI z ik F, wTo cI (z 2) (zT z) T, wTo cI (z 3) (zR z) R, wTo cI (z 4) (zK z) K, wTp cI (z 5) (z 6) f n tk bg en nm, wSh cI (z 7) (zS z) s1 s2 s3]) (by rw [← e1]) rfl rfl ?_
        refine aw_pc 34 rfl ?_
        refine aw_aload_n C dX4_go_34 rfl ?_
        refine aw_getf C 0 3 0 7 inX4 rfl (by decide) rfl k1_117 rfl rfl dX4_go_35 ?_
        refine aw_iload_n C dX4_go_38 rfl ?_
        refine aw_gVdv C (As := [.int (nI (ix k))]) (c_X3_passDays l D cI cC adK adV (z 2) (zT z) T (ix k) hn (by omega)) k2_48 cv_X3_passDays 2 rfl rfl rfl [1, 0, 2, 3, 4, 5] (fl1 _) rfl 6 rfl (by decide) (gc := [wTo cI (z 2) (zT z) T]) (gr := [wMa cI z ik F, wTo cI (z 3) (zR z) R, wTo cI (z 4) (zK z) K, wTp cI (z 5) (z 6) f n tk bg en nm, wSh cI (z 7) (zS z) s1 s2 s3]) (gc1 := [wTo cI (z 2) (zT z) (tDays (ix k) T)]) (gs' := [wMa cI z ik F, wTo cI (z 2) (zT z) (tDays (ix k) T), wTo cI (z 3) (zR z) R, wTo cI (z 4) (zK z) K, wTp cI (z 5) (z 6) f n tk bg en nm, wSh cI (z 7) (zS z) s1 s2 s3]) (fl1 _) rfl rfl ⟨by decide, by decide⟩ rfl rfl ⟨by decide, by decide⟩ rfl rfl (Nat.le_of_ble_eq_true rfl) dX4_go_39 ?_
        refine aw_aload_n C dX4_go_42 rfl ?_
        refine aw_getf C 0 3 0 7 inX4 rfl (by decide) rfl k1_117 rfl rfl dX4_go_43 ?_
        refine aw_getf C 2 2 2 12 inX3 rfl (by decide) rfl k1_38 rfl rfl dX4_go_46 ?_
        have hm : m_go (T, K, ik, F, f, n, s1, s2, s3) k = (((tDays (ix k) T).2.1 3), ((tDays (ix k) T), K, ik, F, f, n, s1, s2, s3)) := by simp only [m_go, c_2, c_8, c_25, decide_true, decide_false, Bool.not_true, Bool.not_false, Bool.true_and, Bool.false_and, Bool.and_true, Bool.and_false, Bool.true_or, Bool.false_or, Bool.or_true, Bool.or_false, cond_true, cond_false, eq_self, if_true, if_false, ite_true, ite_false] <;> rfl
        exact aw_iret C hr hlk dX4_go_49 ⟨ri (by rw [hm]), R, tk, bg, en, nm, by rw [hm]; rfl⟩
      · skip
        refine aw_sub (lv' := [(0, .ref (z 0))]) [0] rfl ?_
        exact J28 (by simp only [m_go, c_2, c_8, c_25, decide_true, decide_false, Bool.not_true, Bool.not_false, Bool.true_and, Bool.false_and, Bool.and_true, Bool.and_false, Bool.true_or, Bool.false_or, Bool.or_true, Bool.or_false, cond_true, cond_false, eq_self, if_true, if_false, ite_true, ite_false] <;> rfl)
    · skip
      refine aw_sub (lv' := [(0, .ref (z 0))]) [0] rfl ?_
      exact J11 (by simp only [m_go, c_2, c_8, decide_true, decide_false, Bool.not_true, Bool.not_false, Bool.true_and, Bool.false_and, Bool.and_true, Bool.and_false, Bool.true_or, Bool.false_or, Bool.or_true, Bool.or_false, cond_true, cond_false, eq_self, if_true, if_false, ite_true, ite_false] <;> rfl)
abbrev r_X4_now : Room := { frames := 4, cells := 0, slots := 0, locals := 87 }
theorem cv_X4_now : cV yX4_now cX4_now 2 (some .int) 1 := ⟨k2_81, k2_82, k2_83, k1_1, by decide, by decide, by decide +kernel⟩
set_option maxHeartbeats 4000000 in
set_option maxRecDepth 100000 in
theorem c_X4_now (l : Launch) (D : va_G) (cI cC : ClassId) (adK adV : Nat → Nat) (z : Nat → Nat) (T R K : Tw) (ik : Bool) (F f : Nat → Int32) (n : Nat) (tk : Int32) (bg en : Nat) (nm : Int32) (s1 s2 s3 : Nat → Int32) (w : Int32) (hn : T.1 ≤ 8) : FC l yX4_now (wW yX4_now cX4_now 2 (some .int)) r_X4_now D (tyC cI cC) adK adV (wBa cI z T R K ik F f n tk bg en nm s1 s2 s3) [.ref (z 0), .int w] 0 0 (pBa cI z (m_now (T, K, ik, F, f, n, s1, s2, s3) w)) := by
  refine FC.of (own := RX4) (by decide) rfl (Nat.le_of_ble_eq_true rfl) ?_
  intro p9 e9 s9 m9 args9 below9 meth9 c9 A9 C hr hlk hmn
  show AW p9 l e9 r_X4_now s9 m9 args9 below9 meth9 c9 D A9 2 0 0 _ 0 [(0, .ref (z 0)), (1, .int w)] [] _
  refine aw_eq (lv' := [(0, .ref (z 0)), (1, .int w)]) (ws' := fl [wMa cI z ik F, wTo cI (z 2) (zT z) T, wTo cI (z 3) (zR z) R, wTo cI (z 4) (zK z) K, wTp cI (z 5) (z 6) f n tk bg en nm, wSh cI (z 7) (zS z) s1 s2 s3]) rfl rfl rfl ?_
  have J118 : m_now (T, K, ik, F, f, n, s1, s2, s3) w = gno (T, K, ik, F, f, n, s1, s2, s3) 0 → AW p9 l e9 r_X4_now s9 m9 args9 below9 meth9 c9 D A9 2 0 0 (aQ below9 args9 s9 D A9 0 0 (pBa cI z (m_now (T, K, ik, F, f, n, s1, s2, s3) w))) 118 [(0, .ref (z 0))] [] (fl [wMa cI z ik F, wTo cI (z 2) (zT z) T, wTo cI (z 3) (zR z) R, wTo cI (z 4) (zK z) K, wTp cI (z 5) (z 6) f n tk bg en nm, wSh cI (z 7) (zS z) s1 s2 s3]) := by
    intro hj
    refine aw_aload_n C dX4_now_118 rfl ?_
    refine aw_iconst C (0 : Int32) dX4_now_119 (by decide) ?_
    refine aw_gVd C (As := [.int (0 : Int32)]) (c_X4_finding l D cI cC adK adV z ik F 0 (by decide)) k1_146 cv_X4_finding 3 rfl rfl rfl [0, 1, 2, 3, 4, 5] (fl1 _) rfl 6 rfl (by decide) (gc := [wMa cI z ik F]) (gr := [wTo cI (z 2) (zT z) T, wTo cI (z 3) (zR z) R, wTo cI (z 4) (zK z) K, wTp cI (z 5) (z 6) f n tk bg en nm, wSh cI (z 7) (zS z) s1 s2 s3]) (gc1 := [wMa cI z ik (upd F 0 (F 0 + 1))]) (gs' := [wMa cI z ik (upd F 0 (F 0 + 1)), wTo cI (z 2) (zT z) T, wTo cI (z 3) (zR z) R, wTo cI (z 4) (zK z) K, wTp cI (z 5) (z 6) f n tk bg en nm, wSh cI (z 7) (zS z) s1 s2 s3]) (fl1 _) rfl rfl ⟨by decide, by decide⟩ rfl rfl ⟨by decide, by decide⟩ rfl rfl (Nat.le_of_ble_eq_true rfl) dX4_now_120 ?_
    have hm : m_now (T, K, ik, F, f, n, s1, s2, s3) w = ((fno 0), (T, K, ik, (upd F 0 (F 0 + 1)), f, n, s1, s2, s3)) := by rw [hj]; rfl
    exact aw_iret C hr hlk dX4_now_123 ⟨ri (by rw [hm]), R, tk, bg, en, nm, by rw [hm]; rfl⟩
  refine aw_iload_n C dX4_now_0 rfl ?_
  by_cases s_1_0 : w = (0 : Int32)
  · skip
    refine aw_tabIn C (0) 48 dX4_now_1 (by rw [s_1_0]; rfl) (by decide) (by decide) rfl (by decide) ?_
    refine aw_aload_n C dX4_now_48 rfl ?_
    refine aw_getf C 0 3 0 7 inX4 rfl (by decide) rfl k1_117 rfl rfl dX4_now_49 ?_
    refine aw_getf C 2 2 1 12 inX3 rfl (by decide) rfl k1_36 rfl rfl dX4_now_52 ?_
    refine aw_pc 55 rfl ?_
    have hm : m_now (T, K, ik, F, f, n, s1, s2, s3) w = ((T.2.1 0), (T, K, ik, F, f, n, s1, s2, s3)) := by simp only [m_now, if_pos s_1_0, decide_true, decide_false, Bool.not_true, Bool.not_false, Bool.true_and, Bool.false_and, Bool.and_true, Bool.and_false, Bool.true_or, Bool.false_or, Bool.or_true, Bool.or_false, cond_true, cond_false, eq_self, if_true, if_false, ite_true, ite_false] <;> rfl
    exact aw_iret C hr hlk dX4_now_55 ⟨ri (by rw [hm]), R, tk, bg, en, nm, by rw [hm]; rfl⟩
  by_cases s_1_1 : w = (1 : Int32)
  · skip
    refine aw_tabIn C (1) 56 dX4_now_1 (by rw [s_1_1]; rfl) (by decide) (by decide) rfl (by decide) ?_
    refine aw_aload_n C dX4_now_56 rfl ?_
    refine aw_getf C 0 3 0 7 inX4 rfl (by decide) rfl k1_117 rfl rfl dX4_now_57 ?_
    refine aw_getf C 2 2 2 12 inX3 rfl (by decide) rfl k1_38 rfl rfl dX4_now_60 ?_
    have hm : m_now (T, K, ik, F, f, n, s1, s2, s3) w = ((T.2.1 3), (T, K, ik, F, f, n, s1, s2, s3)) := by simp only [m_now, if_pos s_1_1, if_neg s_1_0, decide_true, decide_false, Bool.not_true, Bool.not_false, Bool.true_and, Bool.false_and, Bool.and_true, Bool.and_false, Bool.true_or, Bool.false_or, Bool.or_true, Bool.or_false, cond_true, cond_false, eq_self, if_true, if_false, ite_true, ite_false] <;> rfl
    exact aw_iret C hr hlk dX4_now_63 ⟨ri (by rw [hm]), R, tk, bg, en, nm, by rw [hm]; rfl⟩
  by_cases s_1_2 : w = (2 : Int32)
  · skip
    refine aw_tabIn C (2) 64 dX4_now_1 (by rw [s_1_2]; rfl) (by decide) (by decide) rfl (by decide) ?_
    refine aw_aload_n C dX4_now_64 rfl ?_
    refine aw_getf C 0 3 0 7 inX4 rfl (by decide) rfl k1_117 rfl rfl dX4_now_65 ?_
    refine aw_gVp C (As := []) (c_X3_knowers l D cI cC adK adV (z 2) (zT z) T  hn) k2_84 cv_X3_knowers 2 rfl rfl rfl [1, 0, 2, 3, 4, 5] (fl1 _) rfl 6 rfl (by decide) ⟨by decide, by decide⟩ rfl rfl ⟨by decide, by decide⟩ rfl rfl (Nat.le_of_ble_eq_true rfl) dX4_now_68 ?_
    have hm : m_now (T, K, ik, F, f, n, s1, s2, s3) w = ((mKnowers T), (T, K, ik, F, f, n, s1, s2, s3)) := by simp only [m_now, if_pos s_1_2, if_neg s_1_0, if_neg s_1_1, decide_true, decide_false, Bool.not_true, Bool.not_false, Bool.true_and, Bool.false_and, Bool.and_true, Bool.and_false, Bool.true_or, Bool.false_or, Bool.or_true, Bool.or_false, cond_true, cond_false, eq_self, if_true, if_false, ite_true, ite_false] <;> rfl
    exact aw_iret C hr hlk dX4_now_71 ⟨ri (by rw [hm]), R, tk, bg, en, nm, by rw [hm]; rfl⟩
  by_cases s_1_3 : w = (3 : Int32)
  · skip
    refine aw_tabIn C (3) 72 dX4_now_1 (by rw [s_1_3]; rfl) (by decide) (by decide) rfl (by decide) ?_
    refine aw_aload_n C dX4_now_72 rfl ?_
    refine aw_pc 73 rfl ?_
    refine aw_getf C 0 3 0 7 inX4 rfl (by decide) rfl k1_117 rfl rfl dX4_now_73 ?_
    refine aw_gVp C (As := []) (c_X3_knowingPairs l D cI cC adK adV (z 2) (zT z) T  hn) k2_88 cv_X3_knowingPairs 2 rfl rfl rfl [1, 0, 2, 3, 4, 5] (fl1 _) rfl 6 rfl (by decide) ⟨by decide, by decide⟩ rfl rfl ⟨by decide, by decide⟩ rfl rfl (Nat.le_of_ble_eq_true rfl) dX4_now_76 ?_
    have hm : m_now (T, K, ik, F, f, n, s1, s2, s3) w = ((mPairs T 4), (T, K, ik, F, f, n, s1, s2, s3)) := by simp only [m_now, if_pos s_1_3, if_neg s_1_0, if_neg s_1_1, if_neg s_1_2, decide_true, decide_false, Bool.not_true, Bool.not_false, Bool.true_and, Bool.false_and, Bool.and_true, Bool.and_false, Bool.true_or, Bool.false_or, Bool.or_true, Bool.or_false, cond_true, cond_false, eq_self, if_true, if_false, ite_true, ite_false] <;> rfl
    exact aw_iret C hr hlk dX4_now_79 ⟨ri (by rw [hm]), R, tk, bg, en, nm, by rw [hm]; rfl⟩
  by_cases s_1_4 : w = (4 : Int32)
  · skip
    refine aw_tabIn C (4) 80 dX4_now_1 (by rw [s_1_4]; rfl) (by decide) (by decide) rfl (by decide) ?_
    refine aw_aload_n C dX4_now_80 rfl ?_
    refine aw_getf C 0 3 0 7 inX4 rfl (by decide) rfl k1_117 rfl rfl dX4_now_81 ?_
    refine aw_gVp C (As := []) (c_X3_metPairs l D cI cC adK adV (z 2) (zT z) T  hn) k2_96 cv_X3_metPairs 2 rfl rfl rfl [1, 0, 2, 3, 4, 5] (fl1 _) rfl 6 rfl (by decide) ⟨by decide, by decide⟩ rfl rfl ⟨by decide, by decide⟩ rfl rfl (Nat.le_of_ble_eq_true rfl) dX4_now_84 ?_
    have hm : m_now (T, K, ik, F, f, n, s1, s2, s3) w = ((mPairs T 3), (T, K, ik, F, f, n, s1, s2, s3)) := by simp only [m_now, if_pos s_1_4, if_neg s_1_0, if_neg s_1_1, if_neg s_1_2, if_neg s_1_3, decide_true, decide_false, Bool.not_true, Bool.not_false, Bool.true_and, Bool.false_and, Bool.and_true, Bool.and_false, Bool.true_or, Bool.false_or, Bool.or_true, Bool.or_false, cond_true, cond_false, eq_self, if_true, if_false, ite_true, ite_false] <;> rfl
    exact aw_iret C hr hlk dX4_now_87 ⟨ri (by rw [hm]), R, tk, bg, en, nm, by rw [hm]; rfl⟩
  by_cases s_1_5 : w = (5 : Int32)
  · skip
    refine aw_tabIn C (5) 88 dX4_now_1 (by rw [s_1_5]; rfl) (by decide) (by decide) rfl (by decide) ?_
    refine aw_aload_n C dX4_now_88 rfl ?_
    refine aw_getf C 0 3 0 7 inX4 rfl (by decide) rfl k1_117 rfl rfl dX4_now_89 ?_
    refine aw_gVp C (As := []) (c_X3_wornGuises l D cI cC adK adV (z 2) (zT z) T  hn) k2_100 cv_X3_wornGuises 2 rfl rfl rfl [1, 0, 2, 3, 4, 5] (fl1 _) rfl 6 rfl (by decide) ⟨by decide, by decide⟩ rfl rfl ⟨by decide, by decide⟩ rfl rfl (Nat.le_of_ble_eq_true rfl) dX4_now_92 ?_
    refine aw_pc 95 rfl ?_
    have hm : m_now (T, K, ik, F, f, n, s1, s2, s3) w = ((mWorn T), (T, K, ik, F, f, n, s1, s2, s3)) := by simp only [m_now, if_pos s_1_5, if_neg s_1_0, if_neg s_1_1, if_neg s_1_2, if_neg s_1_3, if_neg s_1_4, decide_true, decide_false, Bool.not_true, Bool.not_false, Bool.true_and, Bool.false_and, Bool.and_true, Bool.and_false, Bool.true_or, Bool.false_or, Bool.or_true, Bool.or_false, cond_true, cond_false, eq_self, if_true, if_false, ite_true, ite_false] <;> rfl
    exact aw_iret C hr hlk dX4_now_95 ⟨ri (by rw [hm]), R, tk, bg, en, nm, by rw [hm]; rfl⟩
  by_cases s_1_6 : w = (6 : Int32)
  · skip
    refine aw_tabIn C (6) 96 dX4_now_1 (by rw [s_1_6]; rfl) (by decide) (by decide) rfl (by decide) ?_
    refine aw_aload_n C dX4_now_96 rfl ?_
    refine aw_getf C 0 3 0 7 inX4 rfl (by decide) rfl k1_117 rfl rfl dX4_now_97 ?_
    refine aw_gVp C (As := []) (c_X3_passedInAll l D cI cC adK adV (z 2) (zT z) T  hn) k2_104 cv_X3_passedInAll 2 rfl rfl rfl [1, 0, 2, 3, 4, 5] (fl1 _) rfl 6 rfl (by decide) ⟨by decide, by decide⟩ rfl rfl ⟨by decide, by decide⟩ rfl rfl (Nat.le_of_ble_eq_true rfl) dX4_now_100 ?_
    have hm : m_now (T, K, ik, F, f, n, s1, s2, s3) w = ((mPassed T), (T, K, ik, F, f, n, s1, s2, s3)) := by simp only [m_now, if_pos s_1_6, if_neg s_1_0, if_neg s_1_1, if_neg s_1_2, if_neg s_1_3, if_neg s_1_4, if_neg s_1_5, decide_true, decide_false, Bool.not_true, Bool.not_false, Bool.true_and, Bool.false_and, Bool.and_true, Bool.and_false, Bool.true_or, Bool.false_or, Bool.or_true, Bool.or_false, cond_true, cond_false, eq_self, if_true, if_false, ite_true, ite_false] <;> rfl
    exact aw_iret C hr hlk dX4_now_103 ⟨ri (by rw [hm]), R, tk, bg, en, nm, by rw [hm]; rfl⟩
  by_cases s_1_7 : w = (7 : Int32)
  · skip
    refine aw_tabIn C (7) 104 dX4_now_1 (by rw [s_1_7]; rfl) (by decide) (by decide) rfl (by decide) ?_
    refine aw_aload_n C dX4_now_104 rfl ?_
    refine aw_getf C 0 3 0 7 inX4 rfl (by decide) rfl k1_117 rfl rfl dX4_now_105 ?_
    refine aw_getf C 2 2 1 12 inX3 rfl (by decide) rfl k1_36 rfl rfl dX4_now_108 ?_
    refine aw_callSp C (As := [.int (T.2.1 0)]) (c_X3_isTheDay l D cI cC adK adV (T.2.1 0)) k2_108 cs_X3_isTheDay [] (by decide) rfl ⟨by decide, by decide⟩ rfl rfl ⟨by decide, by decide⟩ rfl rfl (Nat.le_of_ble_eq_true rfl) dX4_now_111 ?_
    refine aw_callSp C (As := [.int (b2 (mBare (T.2.1 0)))]) (c_X4_bit l D cI cC adK adV (mBare (T.2.1 0))) k1_227 cs_X4_bit [] (by decide) rfl ⟨by decide, by decide⟩ rfl rfl ⟨by decide, by decide⟩ rfl rfl (Nat.le_of_ble_eq_true rfl) dX4_now_114 ?_
    refine aw_pc 117 rfl ?_
    have hm : m_now (T, K, ik, F, f, n, s1, s2, s3) w = ((b2 (mBare (T.2.1 0))), (T, K, ik, F, f, n, s1, s2, s3)) := by simp only [m_now, if_pos s_1_7, if_neg s_1_0, if_neg s_1_1, if_neg s_1_2, if_neg s_1_3, if_neg s_1_4, if_neg s_1_5, if_neg s_1_6, decide_true, decide_false, Bool.not_true, Bool.not_false, Bool.true_and, Bool.false_and, Bool.and_true, Bool.and_false, Bool.true_or, Bool.false_or, Bool.or_true, Bool.or_false, cond_true, cond_false, eq_self, if_true, if_false, ite_true, ite_false] <;> rfl
    exact aw_iret C hr hlk dX4_now_117 ⟨ri (by rw [hm]), R, tk, bg, en, nm, by rw [hm]; rfl⟩
  refine aw_tabOut C 118 dX4_now_1 (by have q0 := ne_toInt s_1_0 (z := 0) rfl; have q1 := ne_toInt s_1_1 (z := 1) rfl; have q2 := ne_toInt s_1_2 (z := 2) rfl; have q3 := ne_toInt s_1_3 (z := 3) rfl; have q4 := ne_toInt s_1_4 (z := 4) rfl; have q5 := ne_toInt s_1_5 (z := 5) rfl; have q6 := ne_toInt s_1_6 (z := 6) rfl; have q7 := ne_toInt s_1_7 (z := 7) rfl; omega) (by decide) ?_
  refine aw_sub (lv' := [(0, .ref (z 0))]) [0] rfl ?_
  exact J118 (by simp only [m_now, if_neg s_1_0, if_neg s_1_1, if_neg s_1_2, if_neg s_1_3, if_neg s_1_4, if_neg s_1_5, if_neg s_1_6, if_neg s_1_7, decide_true, decide_false, Bool.not_true, Bool.not_false, Bool.true_and, Bool.false_and, Bool.and_true, Bool.and_false, Bool.true_or, Bool.false_or, Bool.or_true, Bool.or_false, cond_true, cond_false, eq_self, if_true, if_false, ite_true, ite_false] <;> rfl)
abbrev r_X4_ahead : Room := { frames := 6, cells := 0, slots := 0, locals := 132 }
theorem cv_X4_ahead : cV yX4_ahead cX4_ahead 5 (some .int) 3 := ⟨k2_110, k2_111, k2_112, k1_1, by decide, by decide, by decide +kernel⟩
set_option maxHeartbeats 4000000 in
set_option maxRecDepth 100000 in
theorem c_X4_ahead (l : Launch) (D : va_G) (cI cC : ClassId) (adK adV : Nat → Nat) (z : Nat → Nat) (T R K : Tw) (ik : Bool) (F f : Nat → Int32) (n : Nat) (tk : Int32) (bg en : Nat) (nm : Int32) (s1 s2 s3 : Nat → Int32) (u : Int32) (w : Int32) (k : Int32) (hn : T.1 ≤ 8) : FC l yX4_ahead (wW yX4_ahead cX4_ahead 5 (some .int)) r_X4_ahead D (tyC cI cC) adK adV (wBa cI z T R K ik F f n tk bg en nm s1 s2 s3) [.ref (z 0), .int u, .int w, .int k] 0 0 (pBa cI z (m_ahead (T, K, ik, F, f, n, s1, s2, s3) u w k)) := by
  refine FC.of (own := RX4) (by decide) rfl (Nat.le_of_ble_eq_true rfl) ?_
  intro p9 e9 s9 m9 args9 below9 meth9 c9 A9 C hr hlk hmn
  show AW p9 l e9 r_X4_ahead s9 m9 args9 below9 meth9 c9 D A9 5 0 0 _ 0 [(0, .ref (z 0)), (1, .int u), (2, .int w), (3, .int k)] [] _
  refine aw_eq (lv' := [(0, .ref (z 0)), (1, .int u), (2, .int w), (3, .int k)]) (ws' := fl [wMa cI z ik F, wTo cI (z 2) (zT z) T, wTo cI (z 3) (zR z) R, wTo cI (z 4) (zK z) K, wTp cI (z 5) (z 6) f n tk bg en nm, wSh cI (z 7) (zS z) s1 s2 s3]) rfl rfl rfl ?_
  have J59 : m_ahead (T, K, ik, F, f, n, s1, s2, s3) u w k = gno (T, K, ik, F, f, n, s1, s2, s3) 0 → AW p9 l e9 r_X4_ahead s9 m9 args9 below9 meth9 c9 D A9 5 0 0 (aQ below9 args9 s9 D A9 0 0 (pBa cI z (m_ahead (T, K, ik, F, f, n, s1, s2, s3) u w k))) 59 [(0, .ref (z 0))] [] (fl [wMa cI z ik F, wTo cI (z 2) (zT z) T, wTo cI (z 3) (zR z) R, wTo cI (z 4) (zK z) K, wTp cI (z 5) (z 6) f n tk bg en nm, wSh cI (z 7) (zS z) s1 s2 s3]) := by
    intro hj
    refine aw_aload_n C dX4_ahead_59 rfl ?_
    refine aw_iconst C (0 : Int32) dX4_ahead_60 (by decide) ?_
    refine aw_gVd C (As := [.int (0 : Int32)]) (c_X4_finding l D cI cC adK adV z ik F 0 (by decide)) k1_146 cv_X4_finding 3 rfl rfl rfl [0, 1, 2, 3, 4, 5] (fl1 _) rfl 6 rfl (by decide) (gc := [wMa cI z ik F]) (gr := [wTo cI (z 2) (zT z) T, wTo cI (z 3) (zR z) R, wTo cI (z 4) (zK z) K, wTp cI (z 5) (z 6) f n tk bg en nm, wSh cI (z 7) (zS z) s1 s2 s3]) (gc1 := [wMa cI z ik (upd F 0 (F 0 + 1))]) (gs' := [wMa cI z ik (upd F 0 (F 0 + 1)), wTo cI (z 2) (zT z) T, wTo cI (z 3) (zR z) R, wTo cI (z 4) (zK z) K, wTp cI (z 5) (z 6) f n tk bg en nm, wSh cI (z 7) (zS z) s1 s2 s3]) (fl1 _) rfl rfl ⟨by decide, by decide⟩ rfl rfl ⟨by decide, by decide⟩ rfl rfl (Nat.le_of_ble_eq_true rfl) dX4_ahead_61 ?_
    have hm : m_ahead (T, K, ik, F, f, n, s1, s2, s3) u w k = ((fno 0), (T, K, ik, (upd F 0 (F 0 + 1)), f, n, s1, s2, s3)) := by rw [hj]; rfl
    exact aw_iret C hr hlk dX4_ahead_64 ⟨ri (by rw [hm]), R, tk, bg, en, nm, by rw [hm]; rfl⟩
  have J31 : AW p9 l e9 r_X4_ahead s9 m9 args9 below9 meth9 c9 D A9 5 0 0 (aQ below9 args9 s9 D A9 0 0 (pBa cI z (m_ahead (T, K, ik, F, f, n, s1, s2, s3) u w k))) 31 [(0, .ref (z 0)), (1, .int u), (2, .int w), (3, .int k)] [.int (b2 (mTold w))] (fl [wMa cI z ik F, wTo cI (z 2) (zT z) T, wTo cI (z 3) (zR z) R, wTo cI (z 4) (zK z) K, wTp cI (z 5) (z 6) f n tk bg en nm, wSh cI (z 7) (zS z) s1 s2 s3]) := by
    refine aw_istore C true (lv' := [(0, .ref (z 0)), (1, .int u), (2, .int w), (3, .int k), (4, .int (b2 (mTold w)))]) dX4_ahead_31 (by decide) rfl rfl ?_
    refine aw_aload_n C dX4_ahead_33 rfl ?_
    refine aw_getf C 0 3 0 7 inX4 rfl (by decide) rfl k1_117 rfl rfl dX4_ahead_34 ?_
    refine aw_iload_n C dX4_ahead_37 rfl ?_
    refine aw_gVp C (As := [.int u]) (c_X3_isThere l D cI cC adK adV (z 2) (zT z) T u) k1_172 cv_X3_isThere 2 rfl rfl rfl [1, 0, 2, 3, 4, 5] (fl1 _) rfl 6 rfl (by decide) ⟨by decide, by decide⟩ rfl rfl ⟨by decide, by decide⟩ rfl rfl (Nat.le_of_ble_eq_true rfl) dX4_ahead_38 ?_
    refine aw_pc 41 rfl ?_
    refine aw_ifeq_b C 59 dX4_ahead_41 (by decide) (fun c_41 => ?_) (fun c_41 => ?_)
    · skip
      refine aw_sub (lv' := [(0, .ref (z 0))]) [0] rfl ?_
      exact J59 (by simp only [m_ahead, c_41, decide_true, decide_false, Bool.not_true, Bool.not_false, Bool.true_and, Bool.false_and, Bool.and_true, Bool.and_false, Bool.true_or, Bool.false_or, Bool.or_true, Bool.or_false, cond_true, cond_false, eq_self, if_true, if_false, ite_true, ite_false] <;> rfl)
    · skip
      refine aw_iload C dX4_ahead_44 rfl ?_
      refine aw_ifeq_b C 59 dX4_ahead_46 (by decide) (fun c_46 => ?_) (fun c_46 => ?_)
      · skip
        refine aw_sub (lv' := [(0, .ref (z 0))]) [0] rfl ?_
        exact J59 (by simp only [m_ahead, c_41, c_46, decide_true, decide_false, Bool.not_true, Bool.not_false, Bool.true_and, Bool.false_and, Bool.and_true, Bool.and_false, Bool.true_or, Bool.false_or, Bool.or_true, Bool.or_false, cond_true, cond_false, eq_self, if_true, if_false, ite_true, ite_false] <;> rfl)
      · skip
        refine aw_iload_n C dX4_ahead_49 rfl ?_
        refine aw_if_lt C 59 dX4_ahead_50 (by decide) (fun c_50 => ?_) (fun c_50 => ?_)
        · skip
          refine aw_sub (lv' := [(0, .ref (z 0))]) [0] rfl ?_
          exact J59 (by simp only [m_ahead, c_41, c_46, c_50, decide_true, decide_false, Bool.not_true, Bool.not_false, Bool.true_and, Bool.false_and, Bool.and_true, Bool.and_false, Bool.true_or, Bool.false_or, Bool.or_true, Bool.or_false, cond_true, cond_false, eq_self, if_true, if_false, ite_true, ite_false] <;> rfl)
        · skip
          refine aw_iload_n C dX4_ahead_53 rfl ?_
          refine aw_bipush C (100 : Int32) dX4_ahead_54 (by decide) ?_
          refine aw_icmp_le C 65 dX4_ahead_56 (by decide) (fun c_56 => ?_) (fun c_56 => ?_)
          · skip
            have l1 : ix k ≤ 100 := ix_le c_50 (by decide) c_56
            have l2 := there_lt hn c_41
            have e1 : u = nI (ix u) := there_ix c_41
            refine aw_eq (lv' := [(0, .ref (z 0)), (1, .int (nI (ix u))), (2, .int w), (3, .int k), (4, .int (b2 (mTold w)))]) (ws' := fl [wMa cI z ik F, wTo cI (z 2) (zT z) T, wTo cI (z 3) (zR z) R, wTo cI (z 4) (zK z) K, wTp cI (z 5) (z 6) f n tk bg en nm, wSh cI (z 7) (zS z) s1 s2 s3]) (by rw [← e1]) rfl rfl ?_
            have e2 : k = nI (ix k) := ix_eq c_50
            refine aw_eq (lv' := [(0, .ref (z 0)), (1, .int (nI (ix u))), (2, .int w), (3, .int (nI (ix k))), (4, .int (b2 (mTold w)))]) (ws' := fl [wMa cI z ik F, wTo cI (z 2) (zT z) T, wTo cI (z 3) (zR z) R, wTo cI (z 4) (zK z) K, wTp cI (z 5) (z 6) f n tk bg en nm, wSh cI (z 7) (zS z) s1 s2 s3]) (by rw [← e2]) rfl rfl ?_
            refine aw_aload_n C dX4_ahead_65 rfl ?_
            refine aw_getf C 0 3 1 7 inX4 rfl (by decide) rfl k1_118 rfl rfl dX4_ahead_66 ?_
            refine aw_pc 69 rfl ?_
            refine aw_aload_n C dX4_ahead_69 rfl ?_
            refine aw_getf C 0 3 0 7 inX4 rfl (by decide) rfl k1_117 rfl rfl dX4_ahead_70 ?_
            refine aw_gVdv C (As := [.ref (z 2)]) (c_X3_become l D cI cC adK adV (z 3) (z 2) (zR z) (zT z) R T) k2_113 cv_X3_become 2 rfl rfl rfl [2, 1, 0, 3, 4, 5] (fl2 _ _) rfl 6 rfl (by decide) (gc := [wTo cI (z 3) (zR z) R, wTo cI (z 2) (zT z) T]) (gr := [wMa cI z ik F, wTo cI (z 4) (zK z) K, wTp cI (z 5) (z 6) f n tk bg en nm, wSh cI (z 7) (zS z) s1 s2 s3]) (gc1 := [wTo cI (z 3) (zR z) T, wTo cI (z 2) (zT z) T]) (gs' := [wMa cI z ik F, wTo cI (z 2) (zT z) T, wTo cI (z 3) (zR z) T, wTo cI (z 4) (zK z) K, wTp cI (z 5) (z 6) f n tk bg en nm, wSh cI (z 7) (zS z) s1 s2 s3]) (fl2 _ _) rfl rfl ⟨by decide, by decide⟩ rfl rfl ⟨by decide, by decide⟩ rfl rfl (Nat.le_of_ble_eq_true rfl) dX4_ahead_73 ?_
            refine aw_aload_n C dX4_ahead_76 rfl ?_
            refine aw_getf C 0 3 1 7 inX4 rfl (by decide) rfl k1_118 rfl rfl dX4_ahead_77 ?_
            refine aw_iload_n C dX4_ahead_80 rfl ?_
            refine aw_gVdv C (As := [.int (nI (ix k))]) (c_X3_passDays l D cI cC adK adV (z 3) (zR z) T (ix k) hn (by omega)) k2_48 cv_X3_passDays 2 rfl rfl rfl [2, 0, 1, 3, 4, 5] (fl1 _) rfl 6 rfl (by decide) (gc := [wTo cI (z 3) (zR z) T]) (gr := [wMa cI z ik F, wTo cI (z 2) (zT z) T, wTo cI (z 4) (zK z) K, wTp cI (z 5) (z 6) f n tk bg en nm, wSh cI (z 7) (zS z) s1 s2 s3]) (gc1 := [wTo cI (z 3) (zR z) (tDays (ix k) T)]) (gs' := [wMa cI z ik F, wTo cI (z 2) (zT z) T, wTo cI (z 3) (zR z) (tDays (ix k) T), wTo cI (z 4) (zK z) K, wTp cI (z 5) (z 6) f n tk bg en nm, wSh cI (z 7) (zS z) s1 s2 s3]) (fl1 _) rfl rfl ⟨by decide, by decide⟩ rfl rfl ⟨by decide, by decide⟩ rfl rfl (Nat.le_of_ble_eq_true rfl) dX4_ahead_81 ?_
            refine aw_aload_n C dX4_ahead_84 rfl ?_
            refine aw_getf C 0 3 1 7 inX4 rfl (by decide) rfl k1_118 rfl rfl dX4_ahead_85 ?_
            refine aw_iload_n C dX4_ahead_88 rfl ?_
            refine aw_pc 89 rfl ?_
            refine aw_iload_n C dX4_ahead_89 rfl ?_
            refine aw_gVp C (As := [.int (nI (ix u)), .int w]) (c_X3_trait l D cI cC adK adV (z 3) (zR z) (tDays (ix k) T) (ix u) w (by rw [days_n]; exact hn) (by rw [days_n]; exact l2)) k1_173 cv_X3_trait 2 rfl rfl rfl [2, 0, 1, 3, 4, 5] (fl1 _) rfl 6 rfl (by decide) ⟨by decide, by decide⟩ rfl rfl ⟨by decide, by decide⟩ rfl rfl (Nat.le_of_ble_eq_true rfl) dX4_ahead_90 ?_
            have hm : m_ahead (T, K, ik, F, f, n, s1, s2, s3) u w k = ((mTrait (tDays (ix k) T) (ix u) w), (T, K, ik, F, f, n, s1, s2, s3)) := by simp only [m_ahead, c_41, c_46, c_50, c_56, decide_true, decide_false, Bool.not_true, Bool.not_false, Bool.true_and, Bool.false_and, Bool.and_true, Bool.and_false, Bool.true_or, Bool.false_or, Bool.or_true, Bool.or_false, cond_true, cond_false, eq_self, if_true, if_false, ite_true, ite_false] <;> rfl
            exact aw_iret C hr hlk dX4_ahead_93 ⟨ri (by rw [hm]), (tDays (ix k) T), tk, bg, en, nm, by rw [hm]; rfl⟩
          · skip
            refine aw_sub (lv' := [(0, .ref (z 0))]) [0] rfl ?_
            exact J59 (by simp only [m_ahead, c_41, c_46, c_50, c_56, decide_true, decide_false, Bool.not_true, Bool.not_false, Bool.true_and, Bool.false_and, Bool.and_true, Bool.and_false, Bool.true_or, Bool.false_or, Bool.or_true, Bool.or_false, cond_true, cond_false, eq_self, if_true, if_false, ite_true, ite_false] <;> rfl)
  refine aw_iload_n C dX4_ahead_0 rfl ?_
  refine aw_iconst C (1 : Int32) dX4_ahead_1 (by decide) ?_
  refine aw_icmp_eq C 26 dX4_ahead_2 (by decide) (fun c_2 => ?_) (fun c_2 => ?_)
  · skip
    refine aw_iconst C (1 : Int32) dX4_ahead_26 (by decide) ?_
    refine aw_goto C 31 dX4_ahead_27 (by decide) ?_
    exact aw_top (y := b2 (mTold w)) (by simp only [mTold, c_2, decide_true, decide_false, Bool.not_true, Bool.not_false, Bool.true_and, Bool.false_and, Bool.and_true, Bool.and_false, Bool.true_or, Bool.false_or, Bool.or_true, Bool.or_false, cond_true, cond_false, eq_self, if_true, if_false, ite_true, ite_false] <;> rfl) J31
  · skip
    refine aw_iload_n C dX4_ahead_5 rfl ?_
    refine aw_iconst C (2 : Int32) dX4_ahead_6 (by decide) ?_
    refine aw_pc 7 rfl ?_
    refine aw_icmp_eq C 26 dX4_ahead_7 (by decide) (fun c_7 => ?_) (fun c_7 => ?_)
    · skip
      refine aw_iconst C (1 : Int32) dX4_ahead_26 (by decide) ?_
      refine aw_goto C 31 dX4_ahead_27 (by decide) ?_
      exact aw_top (y := b2 (mTold w)) (by simp only [mTold, c_2, c_7, decide_true, decide_false, Bool.not_true, Bool.not_false, Bool.true_and, Bool.false_and, Bool.and_true, Bool.and_false, Bool.true_or, Bool.false_or, Bool.or_true, Bool.or_false, cond_true, cond_false, eq_self, if_true, if_false, ite_true, ite_false] <;> rfl) J31
    · skip
      refine aw_iload_n C dX4_ahead_10 rfl ?_
      refine aw_iconst C (3 : Int32) dX4_ahead_11 (by decide) ?_
      refine aw_icmp_eq C 26 dX4_ahead_12 (by decide) (fun c_12 => ?_) (fun c_12 => ?_)
      · skip
        refine aw_iconst C (1 : Int32) dX4_ahead_26 (by decide) ?_
        refine aw_goto C 31 dX4_ahead_27 (by decide) ?_
        exact aw_top (y := b2 (mTold w)) (by simp only [mTold, c_2, c_7, c_12, decide_true, decide_false, Bool.not_true, Bool.not_false, Bool.true_and, Bool.false_and, Bool.and_true, Bool.and_false, Bool.true_or, Bool.false_or, Bool.or_true, Bool.or_false, cond_true, cond_false, eq_self, if_true, if_false, ite_true, ite_false] <;> rfl) J31
      · skip
        refine aw_iload_n C dX4_ahead_15 rfl ?_
        refine aw_iconst C (4 : Int32) dX4_ahead_16 (by decide) ?_
        refine aw_pc 17 rfl ?_
        refine aw_icmp_eq C 26 dX4_ahead_17 (by decide) (fun c_17 => ?_) (fun c_17 => ?_)
        · skip
          refine aw_iconst C (1 : Int32) dX4_ahead_26 (by decide) ?_
          refine aw_goto C 31 dX4_ahead_27 (by decide) ?_
          exact aw_top (y := b2 (mTold w)) (by simp only [mTold, c_2, c_7, c_12, c_17, decide_true, decide_false, Bool.not_true, Bool.not_false, Bool.true_and, Bool.false_and, Bool.and_true, Bool.and_false, Bool.true_or, Bool.false_or, Bool.or_true, Bool.or_false, cond_true, cond_false, eq_self, if_true, if_false, ite_true, ite_false] <;> rfl) J31
        · skip
          refine aw_iload_n C dX4_ahead_20 rfl ?_
          refine aw_bipush C (6 : Int32) dX4_ahead_21 (by decide) ?_
          refine aw_icmp_ne C 30 dX4_ahead_23 (by decide) (fun c_23 => ?_) (fun c_23 => ?_)
          · skip
            refine aw_iconst C (0 : Int32) dX4_ahead_30 (by decide) ?_
            exact aw_top (y := b2 (mTold w)) (by simp only [mTold, c_2, c_7, c_12, c_17, c_23, decide_true, decide_false, Bool.not_true, Bool.not_false, Bool.true_and, Bool.false_and, Bool.and_true, Bool.and_false, Bool.true_or, Bool.false_or, Bool.or_true, Bool.or_false, cond_true, cond_false, eq_self, if_true, if_false, ite_true, ite_false] <;> rfl) J31
          · skip
            refine aw_iconst C (1 : Int32) dX4_ahead_26 (by decide) ?_
            refine aw_goto C 31 dX4_ahead_27 (by decide) ?_
            exact aw_top (y := b2 (mTold w)) (by simp only [mTold, c_2, c_7, c_12, c_17, c_23, decide_true, decide_false, Bool.not_true, Bool.not_false, Bool.true_and, Bool.false_and, Bool.and_true, Bool.and_false, Bool.true_or, Bool.false_or, Bool.or_true, Bool.or_false, cond_true, cond_false, eq_self, if_true, if_false, ite_true, ite_false] <;> rfl) J31
abbrev r_X4_joy : Room := { frames := 6, cells := 0, slots := 0, locals := 132 }
theorem cv_X4_joy : cV yX4_joy cX4_joy 2 (some .int) 1 := ⟨k2_121, k2_122, k2_123, k1_1, by decide, by decide, by decide +kernel⟩
set_option maxHeartbeats 4000000 in
set_option maxRecDepth 100000 in
theorem c_X4_joy (l : Launch) (D : va_G) (cI cC : ClassId) (adK adV : Nat → Nat) (z : Nat → Nat) (T R K : Tw) (ik : Bool) (F f : Nat → Int32) (n : Nat) (tk : Int32) (bg en : Nat) (nm : Int32) (s1 s2 s3 : Nat → Int32) (k : Int32) (hn : T.1 ≤ 8) : FC l yX4_joy (wW yX4_joy cX4_joy 2 (some .int)) r_X4_joy D (tyC cI cC) adK adV (wBa cI z T R K ik F f n tk bg en nm s1 s2 s3) [.ref (z 0), .int k] 0 0 (pBa cI z (m_joy (T, K, ik, F, f, n, s1, s2, s3) k)) := by
  refine FC.of (own := RX4) (by decide) rfl (Nat.le_of_ble_eq_true rfl) ?_
  intro p9 e9 s9 m9 args9 below9 meth9 c9 A9 C hr hlk hmn
  show AW p9 l e9 r_X4_joy s9 m9 args9 below9 meth9 c9 D A9 2 0 0 _ 0 [(0, .ref (z 0)), (1, .int k)] [] _
  refine aw_eq (lv' := [(0, .ref (z 0)), (1, .int k)]) (ws' := fl [wMa cI z ik F, wTo cI (z 2) (zT z) T, wTo cI (z 3) (zR z) R, wTo cI (z 4) (zK z) K, wTp cI (z 5) (z 6) f n tk bg en nm, wSh cI (z 7) (zS z) s1 s2 s3]) rfl rfl rfl ?_
  have J10 : m_joy (T, K, ik, F, f, n, s1, s2, s3) k = gno (T, K, ik, F, f, n, s1, s2, s3) 0 → AW p9 l e9 r_X4_joy s9 m9 args9 below9 meth9 c9 D A9 2 0 0 (aQ below9 args9 s9 D A9 0 0 (pBa cI z (m_joy (T, K, ik, F, f, n, s1, s2, s3) k))) 10 [(0, .ref (z 0))] [] (fl [wMa cI z ik F, wTo cI (z 2) (zT z) T, wTo cI (z 3) (zR z) R, wTo cI (z 4) (zK z) K, wTp cI (z 5) (z 6) f n tk bg en nm, wSh cI (z 7) (zS z) s1 s2 s3]) := by
    intro hj
    refine aw_aload_n C dX4_joy_10 rfl ?_
    refine aw_iconst C (0 : Int32) dX4_joy_11 (by decide) ?_
    refine aw_gVd C (As := [.int (0 : Int32)]) (c_X4_finding l D cI cC adK adV z ik F 0 (by decide)) k1_146 cv_X4_finding 3 rfl rfl rfl [0, 1, 2, 3, 4, 5] (fl1 _) rfl 6 rfl (by decide) (gc := [wMa cI z ik F]) (gr := [wTo cI (z 2) (zT z) T, wTo cI (z 3) (zR z) R, wTo cI (z 4) (zK z) K, wTp cI (z 5) (z 6) f n tk bg en nm, wSh cI (z 7) (zS z) s1 s2 s3]) (gc1 := [wMa cI z ik (upd F 0 (F 0 + 1))]) (gs' := [wMa cI z ik (upd F 0 (F 0 + 1)), wTo cI (z 2) (zT z) T, wTo cI (z 3) (zR z) R, wTo cI (z 4) (zK z) K, wTp cI (z 5) (z 6) f n tk bg en nm, wSh cI (z 7) (zS z) s1 s2 s3]) (fl1 _) rfl rfl ⟨by decide, by decide⟩ rfl rfl ⟨by decide, by decide⟩ rfl rfl (Nat.le_of_ble_eq_true rfl) dX4_joy_12 ?_
    have hm : m_joy (T, K, ik, F, f, n, s1, s2, s3) k = ((fno 0), (T, K, ik, (upd F 0 (F 0 + 1)), f, n, s1, s2, s3)) := by rw [hj]; rfl
    exact aw_iret C hr hlk dX4_joy_15 ⟨ri (by rw [hm]), R, tk, bg, en, nm, by rw [hm]; rfl⟩
  refine aw_iload_n C dX4_joy_0 rfl ?_
  refine aw_if_lt C 10 dX4_joy_1 (by decide) (fun c_1 => ?_) (fun c_1 => ?_)
  · skip
    refine aw_sub (lv' := [(0, .ref (z 0))]) [0] rfl ?_
    exact J10 (by simp only [m_joy, c_1, decide_true, decide_false, Bool.not_true, Bool.not_false, Bool.true_and, Bool.false_and, Bool.and_true, Bool.and_false, Bool.true_or, Bool.false_or, Bool.or_true, Bool.or_false, cond_true, cond_false, eq_self, if_true, if_false, ite_true, ite_false] <;> rfl)
  · skip
    refine aw_iload_n C dX4_joy_4 rfl ?_
    refine aw_bipush C (100 : Int32) dX4_joy_5 (by decide) ?_
    refine aw_icmp_le C 16 dX4_joy_7 (by decide) (fun c_7 => ?_) (fun c_7 => ?_)
    · skip
      have l1 : ix k ≤ 100 := ix_le c_1 (by decide) c_7
      have e1 : k = nI (ix k) := ix_eq c_1
      refine aw_eq (lv' := [(0, .ref (z 0)), (1, .int (nI (ix k)))]) (ws' := fl [wMa cI z ik F, wTo cI (z 2) (zT z) T, wTo cI (z 3) (zR z) R, wTo cI (z 4) (zK z) K, wTp cI (z 5) (z 6) f n tk bg en nm, wSh cI (z 7) (zS z) s1 s2 s3]) (by rw [← e1]) rfl rfl ?_
      refine aw_pc 16 rfl ?_
      refine aw_aload_n C dX4_joy_16 rfl ?_
      refine aw_getf C 0 3 1 7 inX4 rfl (by decide) rfl k1_118 rfl rfl dX4_joy_17 ?_
      refine aw_aload_n C dX4_joy_20 rfl ?_
      refine aw_getf C 0 3 0 7 inX4 rfl (by decide) rfl k1_117 rfl rfl dX4_joy_21 ?_
      refine aw_gVdv C (As := [.ref (z 2)]) (c_X3_become l D cI cC adK adV (z 3) (z 2) (zR z) (zT z) R T) k2_113 cv_X3_become 2 rfl rfl rfl [2, 1, 0, 3, 4, 5] (fl2 _ _) rfl 6 rfl (by decide) (gc := [wTo cI (z 3) (zR z) R, wTo cI (z 2) (zT z) T]) (gr := [wMa cI z ik F, wTo cI (z 4) (zK z) K, wTp cI (z 5) (z 6) f n tk bg en nm, wSh cI (z 7) (zS z) s1 s2 s3]) (gc1 := [wTo cI (z 3) (zR z) T, wTo cI (z 2) (zT z) T]) (gs' := [wMa cI z ik F, wTo cI (z 2) (zT z) T, wTo cI (z 3) (zR z) T, wTo cI (z 4) (zK z) K, wTp cI (z 5) (z 6) f n tk bg en nm, wSh cI (z 7) (zS z) s1 s2 s3]) (fl2 _ _) rfl rfl ⟨by decide, by decide⟩ rfl rfl ⟨by decide, by decide⟩ rfl rfl (Nat.le_of_ble_eq_true rfl) dX4_joy_24 ?_
      refine aw_aload_n C dX4_joy_27 rfl ?_
      refine aw_getf C 0 3 1 7 inX4 rfl (by decide) rfl k1_118 rfl rfl dX4_joy_28 ?_
      refine aw_iload_n C dX4_joy_31 rfl ?_
      refine aw_gVdv C (As := [.int (nI (ix k))]) (c_X3_passDays l D cI cC adK adV (z 3) (zR z) T (ix k) hn (by omega)) k2_48 cv_X3_passDays 2 rfl rfl rfl [2, 0, 1, 3, 4, 5] (fl1 _) rfl 6 rfl (by decide) (gc := [wTo cI (z 3) (zR z) T]) (gr := [wMa cI z ik F, wTo cI (z 2) (zT z) T, wTo cI (z 4) (zK z) K, wTp cI (z 5) (z 6) f n tk bg en nm, wSh cI (z 7) (zS z) s1 s2 s3]) (gc1 := [wTo cI (z 3) (zR z) (tDays (ix k) T)]) (gs' := [wMa cI z ik F, wTo cI (z 2) (zT z) T, wTo cI (z 3) (zR z) (tDays (ix k) T), wTo cI (z 4) (zK z) K, wTp cI (z 5) (z 6) f n tk bg en nm, wSh cI (z 7) (zS z) s1 s2 s3]) (fl1 _) rfl rfl ⟨by decide, by decide⟩ rfl rfl ⟨by decide, by decide⟩ rfl rfl (Nat.le_of_ble_eq_true rfl) dX4_joy_32 ?_
      refine aw_aload_n C dX4_joy_35 rfl ?_
      refine aw_pc 36 rfl ?_
      refine aw_getf C 0 3 1 7 inX4 rfl (by decide) rfl k1_118 rfl rfl dX4_joy_36 ?_
      refine aw_getf C 11 2 2 12 inX3 rfl (by decide) rfl k1_38 rfl rfl dX4_joy_39 ?_
      have hm : m_joy (T, K, ik, F, f, n, s1, s2, s3) k = (((tDays (ix k) T).2.1 3), (T, K, ik, F, f, n, s1, s2, s3)) := by simp only [m_joy, c_1, c_7, decide_true, decide_false, Bool.not_true, Bool.not_false, Bool.true_and, Bool.false_and, Bool.and_true, Bool.and_false, Bool.true_or, Bool.false_or, Bool.or_true, Bool.or_false, cond_true, cond_false, eq_self, if_true, if_false, ite_true, ite_false] <;> rfl
      exact aw_iret C hr hlk dX4_joy_42 ⟨ri (by rw [hm]), (tDays (ix k) T), tk, bg, en, nm, by rw [hm]; rfl⟩
    · skip
      refine aw_sub (lv' := [(0, .ref (z 0))]) [0] rfl ?_
      exact J10 (by simp only [m_joy, c_1, c_7, decide_true, decide_false, Bool.not_true, Bool.not_false, Bool.true_and, Bool.false_and, Bool.and_true, Bool.and_false, Bool.true_or, Bool.false_or, Bool.or_true, Bool.or_false, cond_true, cond_false, eq_self, if_true, if_false, ite_true, ite_false] <;> rfl)
