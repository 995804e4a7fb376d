/-! the texts: what is read of the tape -/
def kW (f : Nat → Int32) (n p : Nat) : Int32 := bif wK f n p 0 then 0 else bif wK f n p 1 then 1 else bif wK f n p 2 then 2 else bif wK f n p 3 then 3 else bif wK f n p 4 then 4 else bif wK f n p 5 then 5 else bif wK f n p 6 then 6 else -1
/-- perhaps a word and a number below m -/
def rdAt (f : Nat → Int32) (n p k : Nat) (m : Int32) : Bool × Int32 × Nat := bif wK f n p k then (bif nB f n (nx f n p) m then (true, nmV f n (nx f n p), nx f n (nx f n p)) else (false, 0, nx f n p)) else (true, 0, p)
def rdOut (f : Nat → Int32) (n : Nat) (U : Tw) (a p : Nat) : Bool × Tw × Nat := bif wK f n p 11 then (true, mPut U a 5 1, nx f n p) else (true, U, p)
def rdAs (f : Nat → Int32) (n : Nat) (k c : Int32) (T : Tw) (p : Nat) : Bool × Tw × Nat := bif (rdAt f n p 10 12).1 then rdOut f n (mPut (tAdd T k c) T.1 2 (rdAt f n p 10 12).2.1) T.1 (rdAt f n p 10 12).2.2 else (false, T, (rdAt f n p 10 12).2.2)
def rdOne (f : Nat → Int32) (n : Nat) (k : Int32) (T : Tw) (p : Nat) : Bool × Tw × Nat := bif !decide (nI T.1 < 8) then (false, T, p) else bif (rdAt f n (nx f n p) 9 16).1 then rdAs f n k (rdAt f n (nx f n p) 9 16).2.1 T (rdAt f n (nx f n p) 9 16).2.2 else (false, T, (rdAt f n (nx f n p) 9 16).2.2)
def rdMet (f : Nat → Int32) (n : Nat) (T : Tw) (p : Nat) : Bool × Tw × Nat := bif nB f n (nx f n p) (nI T.1) then (bif nB f n (nx f n (nx f n p)) (nI T.1) && !decide (nmV f n (nx f n (nx f n p)) = nmV f n (nx f n p)) then (true, tMeet T (ix (nmV f n (nx f n p))) (ix (nmV f n (nx f n (nx f n p)))), nx f n (nx f n (nx f n p))) else (false, T, nx f n (nx f n p))) else (false, T, nx f n p)
def rdBell (f : Nat → Int32) (n : Nat) (T : Tw) (p : Nat) : Bool × Tw × Nat := bif nB f n (nx f n p) 12 then (true, tSkip T (nmV f n (nx f n p)), nx f n (nx f n p)) else (false, T, nx f n p)
def rdItem (f : Nat → Int32) (n : Nat) (T : Tw) (p : Nat) : Bool × Tw × Nat := bif decide (kW f n p = -1) then (bif wK f n p 7 then rdMet f n T p else bif wK f n p 8 then rdBell f n T p else (false, T, p)) else rdOne f n (kW f n p) T p
def rdLoop (f : Nat → Int32) (n : Nat) : Nat → Nat → Tw → Nat → Int32 × Tw
  | 0, _, T, p => (-1 - nI p, T)
  | k + 1, i, T, p => bif (rdItem f n T p).1 then (bif decide (tkI f n (rdItem f n T p).2.2 = 0) then (nI (i + 1), (rdItem f n T p).2.1) else bif decide (tkI f n (rdItem f n T p).2.2 = 3) then rdLoop f n k (i + 1) (rdItem f n T p).2.1 (nx f n (rdItem f n T p).2.2) else (-1 - nI (rdItem f n T p).2.2, (rdItem f n T p).2.1)) else (-1 - nI (rdItem f n T p).2.2, (rdItem f n T p).2.1)
def rdAll (f : Nat → Int32) (n : Nat) (T : Tw) : Int32 × Tw := rdLoop f n 120 0 T (skp f n 0)
def m_text (G : Sg) : Int32 × Sg := bif decide ((rdAll G.2.2.2.2.1 G.2.2.2.2.2.1 G.1).1 < 0) then ((rdAll G.2.2.2.2.1 G.2.2.2.2.2.1 G.1).1, gQ G G.2.2.2.2.1 0) else ((rdAll G.2.2.2.2.1 G.2.2.2.2.2.1 G.1).1, gT (gQ G G.2.2.2.2.1 0) (rdAll G.2.2.2.2.1 G.2.2.2.2.2.1 G.1).2)
theorem nB_e {f : Nat → Int32} {n p : Nat} {q m : Int32} (h : tkI f n p = 2 → q = nmV f n p) : (decide (tkI f n p = 2) && decide (q < m)) = nB f n p m := by
  unfold nB
  by_cases e : tkI f n p = 2
  · rw [h e]
  · rw [decide_eq_false e, Bool.false_and, Bool.false_and]
theorem nB_t {f : Nat → Int32} {n p : Nat} {m : Int32} (h : nB f n p m = true) : tkI f n p = 2 := of_decide_eq_true (and_2 h).1
theorem nB_l {f : Nat → Int32} {n p : Nat} {m : Int32} (h : nB f n p m = true) : nmV f n p < m := of_decide_eq_true (and_2 h).2
theorem fst9_all {c : Nat → Bool} {n : Nat} : ∀ k, k < fst9 c n → c k = false := by
  rcases fst9_or (c := c) n with ⟨e, h⟩ | ⟨_, _, h⟩
  · rw [e]; exact h
  · exact h
theorem nmI_rg {f : Nat → Int32} {b : Nat} : ∀ j, (∀ k, k < j → isD (f (b + k)) = true) → rgO (nmI f b j) 1001
  | 0, _ => rg_c 0 (by decide)
  | j + 1, h => by
    obtain ⟨v, hv, e⟩ := nmI_rg j (fun k hk => h k (by omega))
    have hd := h j (by omega)
    unfold isD at hd
    obtain ⟨h1, h2⟩ := and_2 hd
    have h1 : ¬ f (b + j) < 48 := by simpa using h1
    have h2 : ¬ 57 < f (b + j) := by simpa using h2
    obtain ⟨c, hc, ec⟩ := nI_of (x := f (b + j)) (fun z => h1 (Int32.lt_trans z (by decide)))
    rw [ec] at h1 h2
    have c1 : 48 ≤ c := Nat.le_of_not_lt (fun z => h1 (nI_lt z (by decide)))
    have c2 : c ≤ 57 := (nI_leI hc (by decide)).mp (Int32.not_lt.mp h2)
    show rgO (mn 1000 (nmI f b j * 10 + f (b + j) - 48)) 1001
    rw [e, ec, show (10 : Int32) = nI 10 from rfl, pk_mul, nI_add, show (48 : Int32) = nI 48 from rfl, pk_sub (by omega), show (1000 : Int32) = nI 1000 from rfl]
    exact rg_mn (m := 20000) ⟨_, by omega, rfl⟩ (by decide) (by decide)
theorem nmV_rg (f : Nat → Int32) (n p : Nat) : rgO (nmV f n p) 1001 := by
  unfold nmV
  refine nmI_rg _ (fun k hk => ?_)
  unfold runD at hk
  rw [Nat.add_sub_cancel_left] at hk
  have h := fst9_all k hk
  have h : (!isD (f (p + k))) = false := h
  cases q : isD (f (p + k)) with
  | true => rfl
  | false => rw [q] at h; exact absurd h (by decide)
theorem nmV_ix (f : Nat → Int32) (n p : Nat) : nmV f n p = nI (ix (nmV f n p)) := by
  obtain ⟨v, hv, e⟩ := nmV_rg f n p
  rw [e, ix_nI (by omega)]
theorem nB_lt {f : Nat → Int32} {n p m : Nat} (hm : m < 2 ^ 31) (h : nB f n p (nI m) = true) : ix (nmV f n p) < m := by
  obtain ⟨v, hv, e⟩ := nmV_rg f n p
  have h2 := nB_l h
  rw [e] at h2 ⊢
  rw [ix_nI (by omega)]
  exact (nI_ltI (by omega) hm).mp h2
theorem rdAt_le {f : Nat → Int32} {n p k : Nat} {m : Int32} (h : p ≤ n) : (rdAt f n p k m).2.2 ≤ n := by
  unfold rdAt
  cases wK f n p k
  · exact h
  · cases nB f n (nx f n p) m
    · exact nx_le h
    · exact nx_le (nx_le h)
theorem rdOut_le {f : Nat → Int32} {n a p : Nat} {U : Tw} (h : p ≤ n) : (rdOut f n U a p).2.2 ≤ n := by
  unfold rdOut
  cases wK f n p 11
  · exact h
  · exact nx_le h
theorem rdOut_n {f : Nat → Int32} {n a p : Nat} {U : Tw} : (rdOut f n U a p).2.1.1 = U.1 := by
  unfold rdOut
  cases wK f n p 11
  · rfl
  · exact put_n _ _ _ _
theorem rdOne_le {f : Nat → Int32} {n p : Nat} {k : Int32} {T : Tw} (h : p ≤ n) : (rdOne f n k T p).2.2 ≤ n := by
  unfold rdOne
  cases !decide (nI T.1 < 8)
  · cases (rdAt f n (nx f n p) 9 16).1
    · exact rdAt_le (nx_le h)
    · show (rdAs f n k _ T _).2.2 ≤ n
      unfold rdAs
      cases (rdAt f n (rdAt f n (nx f n p) 9 16).2.2 10 12).1
      · exact rdAt_le (rdAt_le (nx_le h))
      · exact rdOut_le (rdAt_le (rdAt_le (nx_le h)))
  · exact h
theorem rdOne_n {f : Nat → Int32} {n p : Nat} {k : Int32} {T : Tw} (h : T.1 ≤ 8) : (rdOne f n k T p).2.1.1 ≤ 8 := by
  unfold rdOne
  cases c : !decide (nI T.1 < 8)
  · have h8 := nfull h c
    cases (rdAt f n (nx f n p) 9 16).1
    · exact h
    · show (rdAs f n k _ T _).2.1.1 ≤ 8
      unfold rdAs
      cases (rdAt f n (rdAt f n (nx f n p) 9 16).2.2 10 12).1
      · exact h
      · show (rdOut f n _ _ _).2.1.1 ≤ 8
        rw [rdOut_n, put_n]
        exact h8
  · exact h
theorem rdItem_le {f : Nat → Int32} {n p : Nat} {T : Tw} (h : p ≤ n) : (rdItem f n T p).2.2 ≤ n := by
  unfold rdItem
  cases decide (kW f n p = -1)
  · exact rdOne_le h
  · cases wK f n p 7
    · cases wK f n p 8
      · exact h
      · show (rdBell f n T p).2.2 ≤ n
        unfold rdBell
        cases nB f n (nx f n p) 12
        · exact nx_le h
        · exact nx_le (nx_le h)
    · show (rdMet f n T p).2.2 ≤ n
      unfold rdMet
      cases nB f n (nx f n p) (nI T.1)
      · exact nx_le h
      · cases nB f n (nx f n (nx f n p)) (nI T.1) && !decide (nmV f n (nx f n (nx f n p)) = nmV f n (nx f n p))
        · exact nx_le (nx_le h)
        · exact nx_le (nx_le (nx_le h))
theorem rdItem_n {f : Nat → Int32} {n p : Nat} {T : Tw} (h : T.1 ≤ 8) : (rdItem f n T p).2.1.1 ≤ 8 := by
  unfold rdItem
  cases decide (kW f n p = -1)
  · exact rdOne_n h
  · cases wK f n p 7
    · cases wK f n p 8
      · exact h
      · show (rdBell f n T p).2.1.1 ≤ 8
        unfold rdBell
        cases nB f n (nx f n p) 12 <;> exact h
    · show (rdMet f n T p).2.1.1 ≤ 8
      unfold rdMet
      cases nB f n (nx f n p) (nI T.1)
      · exact h
      · cases nB f n (nx f n (nx f n p)) (nI T.1) && !decide (nmV f n (nx f n (nx f n p)) = nmV f n (nx f n p)) <;> exact h
theorem rl_u {f : Nat → Int32} {n i p : Nat} {T : Tw} (hi : i < 120) : rdLoop f n (120 - i) i T p = bif (rdItem f n T p).1 then (bif decide (tkI f n (rdItem f n T p).2.2 = 0) then (nI (i + 1), (rdItem f n T p).2.1) else bif decide (tkI f n (rdItem f n T p).2.2 = 3) then rdLoop f n (120 - (i + 1)) (i + 1) (rdItem f n T p).2.1 (nx f n (rdItem f n T p).2.2) else (-1 - nI (rdItem f n T p).2.2, (rdItem f n T p).2.1)) else (-1 - nI (rdItem f n T p).2.2, (rdItem f n T p).2.1) := by
  rw [show 120 - i = 120 - (i + 1) + 1 by omega, rdLoop]
theorem rl_f {f : Nat → Int32} {n i p : Nat} {T : Tw} {M : Bool × Tw × Nat} (hi : i < 120) (hM : M = rdItem f n T p) (h : M.1 = false) : rdLoop f n (120 - i) i T p = (-1 - nI M.2.2, M.2.1) := by rw [rl_u hi, ← hM, h, cond_false]
theorem rl_e {f : Nat → Int32} {n i p : Nat} {T : Tw} {M : Bool × Tw × Nat} (hi : i < 120) (hM : M = rdItem f n T p) (h : M.1 = true) (h0 : tkI f n M.2.2 = 0) : rdLoop f n (120 - i) i T p = (nI (i + 1), M.2.1) := by rw [rl_u hi, ← hM, h, cond_true, decide_eq_true h0, cond_true]
theorem rl_n {f : Nat → Int32} {n i p : Nat} {T : Tw} {M : Bool × Tw × Nat} (hi : i < 120) (hM : M = rdItem f n T p) (h : M.1 = true) (h0 : ¬ tkI f n M.2.2 = 0) (h3 : ¬ tkI f n M.2.2 = 3) : rdLoop f n (120 - i) i T p = (-1 - nI M.2.2, M.2.1) := by rw [rl_u hi, ← hM, h, cond_true, decide_eq_false h0, cond_false, decide_eq_false h3, cond_false]
theorem rl_s {f : Nat → Int32} {n i p : Nat} {T : Tw} {M : Bool × Tw × Nat} (hi : i < 120) (hM : M = rdItem f n T p) (h : M.1 = true) (h0 : ¬ tkI f n M.2.2 = 0) (h3 : tkI f n M.2.2 = 3) : rdLoop f n (120 - i) i T p = rdLoop f n (120 - (i + 1)) (i + 1) M.2.1 (nx f n M.2.2) := by rw [rl_u hi, ← hM, h, cond_true, decide_eq_false h0, cond_false, decide_eq_true h3, cond_true]
def pTp (cI : ClassId) (h b hT : Nat) (aT : Nat → Nat) (f : Nat → Int32) (n : Nat) (o : Bool × Tw × Nat) : Option Value → va_W → Prop := fun r w => r = some (.int (b2 o.1)) ∧ ∃ q : Int32, w = wTp cI h b f n (tkI f n o.2.2) o.2.2 (tkE f n o.2.2) q ++ wTo cI hT aT o.2.1 ∧ (tkI f n o.2.2 = 2 → q = nmV f n o.2.2)
def pRt (cI : ClassId) (h b hT : Nat) (aT : Nat → Nat) (f : Nat → Int32) (n : Nat) (o : Int32 × Tw) : Option Value → va_W → Prop := fun r w => r = some (.int o.1) ∧ ∃ (tk : Int32) (bg en : Nat) (q : Int32), w = wTp cI h b f n tk bg en q ++ wTo cI hT aT o.2
theorem pTp_any {l : Launch} {y : MethodName} {ws : List Cond} {rm : Room} {D : va_G} {tys : List (ClassId × FieldType)} {adK adV : Nat → Nat} {wc : va_W} {av : List Value} {mc ns : Nat} {cI : ClassId} {h b hT : Nat} {aT : Nat → Nat} {f : Nat → Int32} {n : Nat} {o1 o2 : Bool × Tw × Nat} (hM : FC l y ws rm D tys adK adV wc av mc ns (pTp cI h b hT aT f n o1)) (e : o2 = o1) : FC l y ws rm D tys adK adV wc av mc ns (pTp cI h b hT aT f n o2) := by rw [e]; exact hM
theorem pRt_any {l : Launch} {y : MethodName} {ws : List Cond} {rm : Room} {D : va_G} {tys : List (ClassId × FieldType)} {adK adV : Nat → Nat} {wc : va_W} {av : List Value} {mc ns : Nat} {cI : ClassId} {h b hT : Nat} {aT : Nat → Nat} {f : Nat → Int32} {n : Nat} {o1 o2 : Int32 × Tw} (hM : FC l y ws rm D tys adK adV wc av mc ns (pRt cI h b hT aT f n o1)) (e : o2 = o1) : FC l y ws rm D tys adK adV wc av mc ns (pRt cI h b hT aT f n o2) := by rw [e]; exact hM

theorem cv_X2_isWordS : cV yX2_isWord cX2_isWord 3 (some .boolean) 1 := cv_X2_isWord
theorem c_X2_isWordS (l : Launch) (D : va_G) (cI cC : ClassId) (adK adV : Nat → Nat) (h b : Nat) (f : Nat → Int32) (n p : Nat) (q : Int32) (k : Nat) (hk : k < 12) (hp : p ≤ n) (hn : n ≤ 120) : FC l yX2_isWord (wW yX2_isWord cX2_isWord 3 (some .boolean)) r_X2_isWord D (tyC cI cC) adK adV (wTp cI h b f n (tkI f n p) p (tkE f n p) q) [.ref h, .ref (adK k)] 0 0 (fQ (some (.int (b2 (wK f n p k)))) (wTp cI h b f n (tkI f n p) p (tkE f n p) q)) := c_X2_isWord l D cI cC adK adV h b f n (tkI f n p) p (tkE f n p) q k hk (tkE_ge f n p) (Nat.le_trans (tkE_le hp) hn)
theorem c_X2_nextTokenS (l : Launch) (D : va_G) (cI cC : ClassId) (adK adV : Nat → Nat) (h b : Nat) (f : Nat → Int32) (n p : Nat) (q : Int32) (hp : p ≤ n) (hn : n ≤ 120) : FC l yX2_nextToken (wW yX2_nextToken cX2_nextToken 1 none) r_X2_nextToken D (tyC cI cC) adK adV (wTp cI h b f n (tkI f n p) p (tkE f n p) q) [.ref h] 0 0 (fQ none (wTp cI h b f n (tkI f n (nx f n p)) (nx f n p) (tkE f n (nx f n p)) (nmT f n (nx f n p) q))) := c_X2_nextToken l D cI cC adK adV h b f n (tkI f n p) p (tkE f n p) q (tkE_le hp) hn

abbrev r_X2_kindOfWord : Room := { frames := 5, cells := 0, slots := 0, locals := 107 }
theorem cv_X2_kindOfWord : cV yX2_kindOfWord cX2_kindOfWord 1 (some .int) 0 := ⟨k3_47, k0_15, k3_48, k1_4, by decide, by decide, by decide +kernel⟩
set_option maxHeartbeats 4000000 in
set_option maxRecDepth 100000 in
theorem c_X2_kindOfWord (l : Launch) (D : va_G) (cI cC : ClassId) (adK adV : Nat → Nat) (h b : Nat) (f : Nat → Int32) (n p : Nat) (q : Int32) (hp : p ≤ n) (hn : n ≤ 120) : FC l yX2_kindOfWord (wW yX2_kindOfWord cX2_kindOfWord 1 (some .int)) r_X2_kindOfWord D (tyC cI cC) adK adV (wTp cI h b f n (tkI f n p) p (tkE f n p) q) [.ref h] 0 0 (fQ (some (.int (kW f n p))) (wTp cI h b f n (tkI f n p) p (tkE f n p) q)) := by
  refine FC.of (own := RX2) (by decide) rfl (Nat.le_of_ble_eq_true rfl) ?_
  intro p9 e9 s9 m9 args9 below9 meth9 c9 A9 C hr hlk hmn
  show AW p9 l e9 r_X2_kindOfWord s9 m9 args9 below9 meth9 c9 D A9 1 0 0 _ 0 [(0, .ref h)] [] _
  refine aw_aload_n C dX2_kindOfWord_0 rfl ?_
  refine aw_ldcK C (i := 0) (by decide) rfl rfl dX2_kindOfWord_1 ?_
  refine aw_callVp C (As := [.ref (adK 0)]) (c_X2_isWordS l D cI cC adK adV h b f n p q 0 (by decide) hp hn) k3_50 cv_X2_isWordS 0 1 rfl rfl rfl [0, 1] (by decide) rfl ⟨by decide, by decide⟩ rfl rfl ⟨by decide, by decide⟩ rfl rfl (Nat.le_of_ble_eq_true rfl) dX2_kindOfWord_3 ?_
  refine aw_ifeq_b C 11 dX2_kindOfWord_6 (by decide) (fun c_6 => ?_) (fun c_6 => ?_)
  · skip
    refine aw_aload_n C dX2_kindOfWord_11 rfl ?_
    refine aw_ldcK C (i := 1) (by decide) rfl rfl dX2_kindOfWord_12 ?_
    refine aw_callVp C (As := [.ref (adK 1)]) (c_X2_isWordS l D cI cC adK adV h b f n p q 1 (by decide) hp hn) k3_50 cv_X2_isWordS 0 1 rfl rfl rfl [0, 1] (by decide) rfl ⟨by decide, by decide⟩ rfl rfl ⟨by decide, by decide⟩ rfl rfl (Nat.le_of_ble_eq_true rfl) dX2_kindOfWord_14 ?_
    refine aw_ifeq_b C 22 dX2_kindOfWord_17 (by decide) (fun c_17 => ?_) (fun c_17 => ?_)
    · skip
      refine aw_aload_n C dX2_kindOfWord_22 rfl ?_
      refine aw_pc 23 rfl ?_
      refine aw_ldcK C (i := 2) (by decide) rfl rfl dX2_kindOfWord_23 ?_
      refine aw_callVp C (As := [.ref (adK 2)]) (c_X2_isWordS l D cI cC adK adV h b f n p q 2 (by decide) hp hn) k3_50 cv_X2_isWordS 0 1 rfl rfl rfl [0, 1] (by decide) rfl ⟨by decide, by decide⟩ rfl rfl ⟨by decide, by decide⟩ rfl rfl (Nat.le_of_ble_eq_true rfl) dX2_kindOfWord_25 ?_
      refine aw_ifeq_b C 33 dX2_kindOfWord_28 (by decide) (fun c_28 => ?_) (fun c_28 => ?_)
      · skip
        refine aw_aload_n C dX2_kindOfWord_33 rfl ?_
        refine aw_ldcK C (i := 3) (by decide) rfl rfl dX2_kindOfWord_34 ?_
        refine aw_callVp C (As := [.ref (adK 3)]) (c_X2_isWordS l D cI cC adK adV h b f n p q 3 (by decide) hp hn) k3_50 cv_X2_isWordS 0 1 rfl rfl rfl [0, 1] (by decide) rfl ⟨by decide, by decide⟩ rfl rfl ⟨by decide, by decide⟩ rfl rfl (Nat.le_of_ble_eq_true rfl) dX2_kindOfWord_36 ?_
        refine aw_ifeq_b C 44 dX2_kindOfWord_39 (by decide) (fun c_39 => ?_) (fun c_39 => ?_)
        · skip
          refine aw_aload_n C dX2_kindOfWord_44 rfl ?_
          refine aw_ldcK C (i := 4) (by decide) rfl rfl dX2_kindOfWord_45 ?_
          refine aw_callVp C (As := [.ref (adK 4)]) (c_X2_isWordS l D cI cC adK adV h b f n p q 4 (by decide) hp hn) k3_50 cv_X2_isWordS 0 1 rfl rfl rfl [0, 1] (by decide) rfl ⟨by decide, by decide⟩ rfl rfl ⟨by decide, by decide⟩ rfl rfl (Nat.le_of_ble_eq_true rfl) dX2_kindOfWord_47 ?_
          refine aw_pc 50 rfl ?_
          refine aw_ifeq_b C 55 dX2_kindOfWord_50 (by decide) (fun c_50 => ?_) (fun c_50 => ?_)
          · skip
            refine aw_aload_n C dX2_kindOfWord_55 rfl ?_
            refine aw_ldcK C (i := 5) (by decide) rfl rfl dX2_kindOfWord_56 ?_
            refine aw_callVp C (As := [.ref (adK 5)]) (c_X2_isWordS l D cI cC adK adV h b f n p q 5 (by decide) hp hn) k3_50 cv_X2_isWordS 0 1 rfl rfl rfl [0, 1] (by decide) rfl ⟨by decide, by decide⟩ rfl rfl ⟨by decide, by decide⟩ rfl rfl (Nat.le_of_ble_eq_true rfl) dX2_kindOfWord_58 ?_
            refine aw_ifeq_b C 66 dX2_kindOfWord_61 (by decide) (fun c_61 => ?_) (fun c_61 => ?_)
            · skip
              refine aw_aload_n C dX2_kindOfWord_66 rfl ?_
              refine aw_ldcK C (i := 6) (by decide) rfl rfl dX2_kindOfWord_67 ?_
              refine aw_callVp C (As := [.ref (adK 6)]) (c_X2_isWordS l D cI cC adK adV h b f n p q 6 (by decide) hp hn) k3_50 cv_X2_isWordS 0 1 rfl rfl rfl [0, 1] (by decide) rfl ⟨by decide, by decide⟩ rfl rfl ⟨by decide, by decide⟩ rfl rfl (Nat.le_of_ble_eq_true rfl) dX2_kindOfWord_69 ?_
              refine aw_ifeq_b C 80 dX2_kindOfWord_72 (by decide) (fun c_72 => ?_) (fun c_72 => ?_)
              · skip
                refine aw_iconst C (-1 : Int32) dX2_kindOfWord_80 (by decide) ?_
                refine aw_pc 81 rfl ?_
                exact aw_iret C hr hlk dX2_kindOfWord_81 ⟨ri (by simp only [kW, c_6, c_17, c_28, c_39, c_50, c_61, c_72, cond_true, cond_false]), by rfl⟩
              · skip
                refine aw_bipush C (6 : Int32) dX2_kindOfWord_75 (by decide) ?_
                refine aw_goto C 81 dX2_kindOfWord_77 (by decide) ?_
                exact aw_iret C hr hlk dX2_kindOfWord_81 ⟨ri (by simp only [kW, c_6, c_17, c_28, c_39, c_50, c_61, c_72, cond_true, cond_false]), by rfl⟩
            · skip
              refine aw_iconst C (5 : Int32) dX2_kindOfWord_64 (by decide) ?_
              exact aw_iret C hr hlk dX2_kindOfWord_65 ⟨ri (by simp only [kW, c_6, c_17, c_28, c_39, c_50, c_61, cond_true, cond_false]), by rfl⟩
          · skip
            refine aw_iconst C (4 : Int32) dX2_kindOfWord_53 (by decide) ?_
            exact aw_iret C hr hlk dX2_kindOfWord_54 ⟨ri (by simp only [kW, c_6, c_17, c_28, c_39, c_50, cond_true, cond_false]), by rfl⟩
        · skip
          refine aw_iconst C (3 : Int32) dX2_kindOfWord_42 (by decide) ?_
          exact aw_iret C hr hlk dX2_kindOfWord_43 ⟨ri (by simp only [kW, c_6, c_17, c_28, c_39, cond_true, cond_false]), by rfl⟩
      · skip
        refine aw_pc 31 rfl ?_
        refine aw_iconst C (2 : Int32) dX2_kindOfWord_31 (by decide) ?_
        exact aw_iret C hr hlk dX2_kindOfWord_32 ⟨ri (by simp only [kW, c_6, c_17, c_28, cond_true, cond_false]), by rfl⟩
    · skip
      refine aw_iconst C (1 : Int32) dX2_kindOfWord_20 (by decide) ?_
      exact aw_iret C hr hlk dX2_kindOfWord_21 ⟨ri (by simp only [kW, c_6, c_17, cond_true, cond_false]), by rfl⟩
  · skip
    refine aw_iconst C (0 : Int32) dX2_kindOfWord_9 (by decide) ?_
    exact aw_iret C hr hlk dX2_kindOfWord_10 ⟨ri (by simp only [kW, c_6, cond_true, cond_false]), by rfl⟩
abbrev r_X2_readOne : Room := { frames := 5, cells := 0, slots := 0, locals := 107 }
theorem cv_X2_readOne : cV yX2_readOne cX2_readOne 6 (some .boolean) 2 := ⟨k3_110, k0_17, k3_111, k1_4, by decide, by decide, by decide +kernel⟩
set_option maxHeartbeats 4000000 in
set_option maxRecDepth 100000 in
theorem c_X2_readOne (l : Launch) (D : va_G) (cI cC : ClassId) (adK adV : Nat → Nat) (h b hT : Nat) (aT : Nat → Nat) (f : Nat → Int32) (n p : Nat) (q : Int32) (T : Tw) (k : Int32) (hp : p ≤ n) (hn : n ≤ 120) (hq : tkI f n p = 2 → q = nmV f n p) (h8 : T.1 ≤ 8)  : FC l yX2_readOne (wW yX2_readOne cX2_readOne 6 (some .boolean)) r_X2_readOne D (tyC cI cC) adK adV (wTp cI h b f n (tkI f n p) p (tkE f n p) q ++ wTo cI hT aT T) [.ref h, .int k, .ref hT] 0 0 (pTp cI h b hT aT f n (rdOne f n k T p)) := by
  refine FC.of (own := RX2) (by decide) rfl (Nat.le_of_ble_eq_true rfl) ?_
  intro p9 e9 s9 m9 args9 below9 meth9 c9 A9 C hr hlk hmn
  show AW p9 l e9 r_X2_readOne s9 m9 args9 below9 meth9 c9 D A9 6 0 0 _ 0 [(0, .ref h), (1, .int k), (2, .ref hT)] [] _
  refine aw_aload_n C dX2_readOne_0 rfl ?_
  refine aw_callVp C (As := []) (c_X3_isFull l D cI cC adK adV hT aT T ) k3_112 cv_X3_isFull 2 2 rfl rfl rfl [2, 3, 4, 5, 6, 7, 8, 9, 10] (by decide) rfl ⟨by decide, by decide⟩ rfl rfl ⟨by decide, by decide⟩ rfl rfl (Nat.le_of_ble_eq_true rfl) dX2_readOne_1 ?_
  refine aw_ifeq_b C 9 dX2_readOne_4 (by decide) (fun c_4 => ?_) (fun c_4 => ?_)
  · skip
    have h7 := nfull h8 c_4
    refine aw_aload_n C dX2_readOne_9 rfl ?_
    refine aw_callVdv C (As := []) (c_X2_nextTokenS l D cI cC adK adV h b f n p q hp hn) k3_22 cv_X2_nextToken 0 1 rfl rfl rfl [0, 1] (by decide) rfl (wr := wTo cI hT aT T) [2, 3, 4, 5, 6, 7, 8, 9, 10] rfl (by decide) (by decide) [9, 10, 0, 1, 2, 3, 4, 5, 6, 7, 8] (by decide) (ws' := wTp cI h b f n (tkI f n (nx f n p)) (nx f n p) (tkE f n (nx f n p)) (nmT f n (nx f n p) q) ++ wTo cI hT aT T) rfl ⟨by decide, by decide⟩ rfl rfl ⟨by decide, by decide⟩ rfl rfl (Nat.le_of_ble_eq_true rfl) dX2_readOne_10 ?_
    refine aw_iconst C (0 : Int32) dX2_readOne_13 (by decide) ?_
    refine aw_istore_n C true (lv' := [(0, .ref h), (1, .int k), (2, .ref hT), (3, .int (0 : Int32))]) dX2_readOne_14 (by decide) rfl rfl ?_
    refine aw_iconst C (0 : Int32) dX2_readOne_15 (by decide) ?_
    refine aw_istore C true (lv' := [(0, .ref h), (1, .int k), (2, .ref hT), (3, .int (0 : Int32)), (4, .int (0 : Int32))]) dX2_readOne_16 (by decide) rfl rfl ?_
    refine aw_pc 18 rfl ?_
    refine aw_aload_n C dX2_readOne_18 rfl ?_
    refine aw_ldcK C (i := 9) (by decide) rfl rfl dX2_readOne_19 ?_
    refine aw_callVp C (As := [.ref (adK 9)]) (c_X2_isWordS l D cI cC adK adV h b f n (nx f n p) (nmT f n (nx f n p) q) 9 (by decide) (nx_le hp) hn) k3_50 cv_X2_isWordS 0 1 rfl rfl rfl [0, 1] (by decide) rfl ⟨by decide, by decide⟩ rfl rfl ⟨by decide, by decide⟩ rfl rfl (Nat.le_of_ble_eq_true rfl) dX2_readOne_21 ?_
    refine aw_ifeq_b C 51 dX2_readOne_24 (by decide) (fun c_24 => ?_) (fun c_24 => ?_)
    · skip
      refine aw_aload_n C dX2_readOne_51 rfl ?_
      refine aw_ldcK C (i := 10) (by decide) rfl rfl dX2_readOne_52 ?_
      refine aw_callVp C (As := [.ref (adK 10)]) (c_X2_isWordS l D cI cC adK adV h b f n (nx f n p) (nmT f n (nx f n p) q) 10 (by decide) (nx_le hp) hn) k3_50 cv_X2_isWordS 0 1 rfl rfl rfl [0, 1] (by decide) rfl ⟨by decide, by decide⟩ rfl rfl ⟨by decide, by decide⟩ rfl rfl (Nat.le_of_ble_eq_true rfl) dX2_readOne_54 ?_
      refine aw_ifeq_b C 85 dX2_readOne_57 (by decide) (fun c_57 => ?_) (fun c_57 => ?_)
      · skip
        refine aw_aload_n C dX2_readOne_85 rfl ?_
        refine aw_iload_n C dX2_readOne_86 rfl ?_
        refine aw_pc 87 rfl ?_
        refine aw_iload_n C dX2_readOne_87 rfl ?_
        refine aw_callVd C (As := [.int k, .int (0 : Int32)]) (c_X3_add l D cI cC adK adV hT aT T k (0 : Int32) h7) k3_119 cv_X3_add 2 2 rfl rfl rfl [2, 3, 4, 5, 6, 7, 8, 9, 10] (by decide) rfl (wr := wTp cI h b f n (tkI f n (nx f n p)) (nx f n p) (tkE f n (nx f n p)) (nmT f n (nx f n p) q)) [0, 1] rfl (by decide) (by decide) [0, 1, 2, 3, 4, 5, 6, 7, 8, 9, 10] (by decide) (ws' := wTp cI h b f n (tkI f n (nx f n p)) (nx f n p) (tkE f n (nx f n p)) (nmT f n (nx f n p) q) ++ wTo cI hT aT (tAdd T k (0 : Int32))) rfl ⟨by decide, by decide⟩ rfl rfl ⟨by decide, by decide⟩ rfl rfl (Nat.le_of_ble_eq_true rfl) dX2_readOne_88 ?_
        refine aw_istore C true (lv' := [(0, .ref h), (1, .int k), (2, .ref hT), (3, .int (0 : Int32)), (4, .int (0 : Int32)), (5, .int (nI T.1))]) dX2_readOne_91 (by decide) rfl rfl ?_
        refine aw_aload_n C dX2_readOne_93 rfl ?_
        refine aw_iload C dX2_readOne_94 rfl ?_
        refine aw_iconst C (2 : Int32) dX2_readOne_96 (by decide) ?_
        refine aw_iload C dX2_readOne_97 rfl ?_
        refine aw_callVdv C (As := [.int (nI T.1), .int (2 : Int32), .int (0 : Int32)]) (c_X3_put l D cI cC adK adV hT aT (tAdd T k (0 : Int32)) T.1 (2 : Int32) (0 : Int32) (by show T.1 + 1 ≤ 8; omega) (Nat.lt_succ_self _)) k3_120 cv_X3_put 2 2 rfl rfl rfl [2, 3, 4, 5, 6, 7, 8, 9, 10] (by decide) rfl (wr := wTp cI h b f n (tkI f n (nx f n p)) (nx f n p) (tkE f n (nx f n p)) (nmT f n (nx f n p) q)) [0, 1] rfl (by decide) (by decide) [0, 1, 2, 3, 4, 5, 6, 7, 8, 9, 10] (by decide) (ws' := wTp cI h b f n (tkI f n (nx f n p)) (nx f n p) (tkE f n (nx f n p)) (nmT f n (nx f n p) q) ++ wTo cI hT aT (mPut (tAdd T k (0 : Int32)) T.1 (2 : Int32) (0 : Int32))) rfl ⟨by decide, by decide⟩ rfl rfl ⟨by decide, by decide⟩ rfl rfl (Nat.le_of_ble_eq_true rfl) dX2_readOne_99 ?_
        refine aw_aload_n C dX2_readOne_102 rfl ?_
        refine aw_ldcK C (i := 11) (by decide) rfl rfl dX2_readOne_103 ?_
        refine aw_pc 105 rfl ?_
        refine aw_callVp C (As := [.ref (adK 11)]) (c_X2_isWordS l D cI cC adK adV h b f n (nx f n p) (nmT f n (nx f n p) q) 11 (by decide) (nx_le hp) hn) k3_50 cv_X2_isWordS 0 1 rfl rfl rfl [0, 1] (by decide) rfl ⟨by decide, by decide⟩ rfl rfl ⟨by decide, by decide⟩ rfl rfl (Nat.le_of_ble_eq_true rfl) dX2_readOne_105 ?_
        refine aw_ifeq_b C 123 dX2_readOne_108 (by decide) (fun c_108 => ?_) (fun c_108 => ?_)
        · skip
          refine aw_iconst C (1 : Int32) dX2_readOne_123 (by decide) ?_
          have hm : (rdOne f n k T p) = (true, (mPut (tAdd T k (0 : Int32)) T.1 (2 : Int32) (0 : Int32)), (nx f n p)) := by simp only [rdOne, rdAt, rdAs, rdOut, c_4, c_24, c_57, c_108, decide_true, decide_false, Bool.not_true, Bool.not_false, Bool.true_and, Bool.false_and, Bool.and_true, Bool.and_false, Bool.true_or, Bool.false_or, Bool.or_true, Bool.or_false, cond_true, cond_false, eq_self, if_true, if_false, ite_true, ite_false] <;> first | done | rfl
          exact aw_bret C (b := true) hr hlk dX2_readOne_124 rfl ⟨rb (by rw [hm]), (nmT f n (nx f n p) q), by rw [hm], by rw [hm]; exact nmT_2⟩
        · skip
          refine aw_aload_n C dX2_readOne_111 rfl ?_
          refine aw_iload C dX2_readOne_112 rfl ?_
          refine aw_iconst C (5 : Int32) dX2_readOne_114 (by decide) ?_
          refine aw_iconst C (1 : Int32) dX2_readOne_115 (by decide) ?_
          refine aw_callVdv C (As := [.int (nI T.1), .int (5 : Int32), .int (1 : Int32)]) (c_X3_put l D cI cC adK adV hT aT (mPut (tAdd T k (0 : Int32)) T.1 (2 : Int32) (0 : Int32)) T.1 (5 : Int32) (1 : Int32) (by rw [put_n]; show T.1 + 1 ≤ 8; omega) (by rw [put_n]; exact Nat.lt_succ_self _)) k3_120 cv_X3_put 2 2 rfl rfl rfl [2, 3, 4, 5, 6, 7, 8, 9, 10] (by decide) rfl (wr := wTp cI h b f n (tkI f n (nx f n p)) (nx f n p) (tkE f n (nx f n p)) (nmT f n (nx f n p) q)) [0, 1] rfl (by decide) (by decide) [0, 1, 2, 3, 4, 5, 6, 7, 8, 9, 10] (by decide) (ws' := wTp cI h b f n (tkI f n (nx f n p)) (nx f n p) (tkE f n (nx f n p)) (nmT f n (nx f n p) q) ++ wTo cI hT aT (mPut (mPut (tAdd T k (0 : Int32)) T.1 (2 : Int32) (0 : Int32)) T.1 (5 : Int32) (1 : Int32))) rfl ⟨by decide, by decide⟩ rfl rfl ⟨by decide, by decide⟩ rfl rfl (Nat.le_of_ble_eq_true rfl) dX2_readOne_116 ?_
          refine aw_aload_n C dX2_readOne_119 rfl ?_
          refine aw_pc 120 rfl ?_
          refine aw_callVdv C (As := []) (c_X2_nextTokenS l D cI cC adK adV h b f n (nx f n p) (nmT f n (nx f n p) q) (nx_le hp) hn) k3_22 cv_X2_nextToken 0 1 rfl rfl rfl [0, 1] (by decide) rfl (wr := wTo cI hT aT (mPut (mPut (tAdd T k (0 : Int32)) T.1 (2 : Int32) (0 : Int32)) T.1 (5 : Int32) (1 : Int32))) [2, 3, 4, 5, 6, 7, 8, 9, 10] rfl (by decide) (by decide) [9, 10, 0, 1, 2, 3, 4, 5, 6, 7, 8] (by decide) (ws' := wTp cI h b f n (tkI f n (nx f n (nx f n p))) (nx f n (nx f n p)) (tkE f n (nx f n (nx f n p))) (nmT f n (nx f n (nx f n p)) (nmT f n (nx f n p) q)) ++ wTo cI hT aT (mPut (mPut (tAdd T k (0 : Int32)) T.1 (2 : Int32) (0 : Int32)) T.1 (5 : Int32) (1 : Int32))) rfl ⟨by decide, by decide⟩ rfl rfl ⟨by decide, by decide⟩ rfl rfl (Nat.le_of_ble_eq_true rfl) dX2_readOne_120 ?_
          refine aw_iconst C (1 : Int32) dX2_readOne_123 (by decide) ?_
          have hm : (rdOne f n k T p) = (true, (mPut (mPut (tAdd T k (0 : Int32)) T.1 (2 : Int32) (0 : Int32)) T.1 (5 : Int32) (1 : Int32)), (nx f n (nx f n p))) := by simp only [rdOne, rdAt, rdAs, rdOut, c_4, c_24, c_57, c_108, decide_true, decide_false, Bool.not_true, Bool.not_false, Bool.true_and, Bool.false_and, Bool.and_true, Bool.and_false, Bool.true_or, Bool.false_or, Bool.or_true, Bool.or_false, cond_true, cond_false, eq_self, if_true, if_false, ite_true, ite_false] <;> first | done | rfl
          exact aw_bret C (b := true) hr hlk dX2_readOne_124 rfl ⟨rb (by rw [hm]), (nmT f n (nx f n (nx f n p)) (nmT f n (nx f n p) q)), by rw [hm], by rw [hm]; exact nmT_2⟩
      · skip
        refine aw_aload_n C dX2_readOne_60 rfl ?_
        refine aw_callVdv C (As := []) (c_X2_nextTokenS l D cI cC adK adV h b f n (nx f n p) (nmT f n (nx f n p) q) (nx_le hp) hn) k3_22 cv_X2_nextToken 0 1 rfl rfl rfl [0, 1] (by decide) rfl (wr := wTo cI hT aT T) [2, 3, 4, 5, 6, 7, 8, 9, 10] rfl (by decide) (by decide) [9, 10, 0, 1, 2, 3, 4, 5, 6, 7, 8] (by decide) (ws' := wTp cI h b f n (tkI f n (nx f n (nx f n p))) (nx f n (nx f n p)) (tkE f n (nx f n (nx f n p))) (nmT f n (nx f n (nx f n p)) (nmT f n (nx f n p) q)) ++ wTo cI hT aT T) rfl ⟨by decide, by decide⟩ rfl rfl ⟨by decide, by decide⟩ rfl rfl (Nat.le_of_ble_eq_true rfl) dX2_readOne_61 ?_
        refine aw_aload_n C dX2_readOne_64 rfl ?_
        refine aw_bipush C (12 : Int32) dX2_readOne_65 (by decide) ?_
        refine aw_callVp C (As := [.int (12 : Int32)]) (c_X2_isNumberBelow l D cI cC adK adV h b f n (tkI f n (nx f n (nx f n p))) (nx f n (nx f n p)) (tkE f n (nx f n (nx f n p))) (nmT f n (nx f n (nx f n p)) (nmT f n (nx f n p) q)) (12 : Int32)) k3_114 cv_X2_isNumberBelow 0 1 rfl rfl rfl [0, 1] (by decide) rfl ⟨by decide, by decide⟩ rfl rfl ⟨by decide, by decide⟩ rfl rfl (Nat.le_of_ble_eq_true rfl) dX2_readOne_67 ?_
        refine aw_top (y := b2 (nB f n (nx f n (nx f n p)) (12 : Int32))) (by exact congrArg b2 (nB_e nmT_2)) ?_
        refine aw_ifne_b C 75 dX2_readOne_70 (by decide) (fun c_70 => ?_) (fun c_70 => ?_)
        · skip
          refine aw_pc 75 rfl ?_
          refine aw_aload_n C dX2_readOne_75 rfl ?_
          refine aw_getf C 0 1 5 6 inX2 rfl (by decide) rfl k1_87 rfl rfl dX2_readOne_76 ?_
          refine aw_top (y := (nmV f n (nx f n (nx f n p)))) (by exact nmT_2 (nB_t c_70)) ?_
          refine aw_istore C false (lv' := [(0, .ref h), (1, .int k), (2, .ref hT), (3, .int (0 : Int32)), (4, .int (nmV f n (nx f n (nx f n p))))]) dX2_readOne_79 (by decide) rfl rfl ?_
          refine aw_aload_n C dX2_readOne_81 rfl ?_
          refine aw_callVdv C (As := []) (c_X2_nextTokenS l D cI cC adK adV h b f n (nx f n (nx f n p)) (nmT f n (nx f n (nx f n p)) (nmT f n (nx f n p) q)) (nx_le (nx_le hp)) hn) k3_22 cv_X2_nextToken 0 1 rfl rfl rfl [0, 1] (by decide) rfl (wr := wTo cI hT aT T) [2, 3, 4, 5, 6, 7, 8, 9, 10] rfl (by decide) (by decide) [9, 10, 0, 1, 2, 3, 4, 5, 6, 7, 8] (by decide) (ws' := wTp cI h b f n (tkI f n (nx f n (nx f n (nx f n p)))) (nx f n (nx f n (nx f n p))) (tkE f n (nx f n (nx f n (nx f n p)))) (nmT f n (nx f n (nx f n (nx f n p))) (nmT f n (nx f n (nx f n p)) (nmT f n (nx f n p) q))) ++ wTo cI hT aT T) rfl ⟨by decide, by decide⟩ rfl rfl ⟨by decide, by decide⟩ rfl rfl (Nat.le_of_ble_eq_true rfl) dX2_readOne_82 ?_
          refine aw_aload_n C dX2_readOne_85 rfl ?_
          refine aw_iload_n C dX2_readOne_86 rfl ?_
          refine aw_iload_n C dX2_readOne_87 rfl ?_
          refine aw_callVd C (As := [.int k, .int (0 : Int32)]) (c_X3_add l D cI cC adK adV hT aT T k (0 : Int32) h7) k3_119 cv_X3_add 2 2 rfl rfl rfl [2, 3, 4, 5, 6, 7, 8, 9, 10] (by decide) rfl (wr := wTp cI h b f n (tkI f n (nx f n (nx f n (nx f n p)))) (nx f n (nx f n (nx f n p))) (tkE f n (nx f n (nx f n (nx f n p)))) (nmT f n (nx f n (nx f n (nx f n p))) (nmT f n (nx f n (nx f n p)) (nmT f n (nx f n p) q)))) [0, 1] rfl (by decide) (by decide) [0, 1, 2, 3, 4, 5, 6, 7, 8, 9, 10] (by decide) (ws' := wTp cI h b f n (tkI f n (nx f n (nx f n (nx f n p)))) (nx f n (nx f n (nx f n p))) (tkE f n (nx f n (nx f n (nx f n p)))) (nmT f n (nx f n (nx f n (nx f n p))) (nmT f n (nx f n (nx f n p)) (nmT f n (nx f n p) q))) ++ wTo cI hT aT (tAdd T k (0 : Int32))) rfl ⟨by decide, by decide⟩ rfl rfl ⟨by decide, by decide⟩ rfl rfl (Nat.le_of_ble_eq_true rfl) dX2_readOne_88 ?_
          refine aw_pc 91 rfl ?_
          refine aw_istore C true (lv' := [(0, .ref h), (1, .int k), (2, .ref hT), (3, .int (0 : Int32)), (4, .int (nmV f n (nx f n (nx f n p)))), (5, .int (nI T.1))]) dX2_readOne_91 (by decide) rfl rfl ?_
          refine aw_aload_n C dX2_readOne_93 rfl ?_
          refine aw_iload C dX2_readOne_94 rfl ?_
          refine aw_iconst C (2 : Int32) dX2_readOne_96 (by decide) ?_
          refine aw_iload C dX2_readOne_97 rfl ?_
          refine aw_callVdv C (As := [.int (nI T.1), .int (2 : Int32), .int (nmV f n (nx f n (nx f n p)))]) (c_X3_put l D cI cC adK adV hT aT (tAdd T k (0 : Int32)) T.1 (2 : Int32) (nmV f n (nx f n (nx f n p))) (by show T.1 + 1 ≤ 8; omega) (Nat.lt_succ_self _)) k3_120 cv_X3_put 2 2 rfl rfl rfl [2, 3, 4, 5, 6, 7, 8, 9, 10] (by decide) rfl (wr := wTp cI h b f n (tkI f n (nx f n (nx f n (nx f n p)))) (nx f n (nx f n (nx f n p))) (tkE f n (nx f n (nx f n (nx f n p)))) (nmT f n (nx f n (nx f n (nx f n p))) (nmT f n (nx f n (nx f n p)) (nmT f n (nx f n p) q)))) [0, 1] rfl (by decide) (by decide) [0, 1, 2, 3, 4, 5, 6, 7, 8, 9, 10] (by decide) (ws' := wTp cI h b f n (tkI f n (nx f n (nx f n (nx f n p)))) (nx f n (nx f n (nx f n p))) (tkE f n (nx f n (nx f n (nx f n p)))) (nmT f n (nx f n (nx f n (nx f n p))) (nmT f n (nx f n (nx f n p)) (nmT f n (nx f n p) q))) ++ wTo cI hT aT (mPut (tAdd T k (0 : Int32)) T.1 (2 : Int32) (nmV f n (nx f n (nx f n p))))) rfl ⟨by decide, by decide⟩ rfl rfl ⟨by decide, by decide⟩ rfl rfl (Nat.le_of_ble_eq_true rfl) dX2_readOne_99 ?_
          refine aw_aload_n C dX2_readOne_102 rfl ?_
          refine aw_ldcK C (i := 11) (by decide) rfl rfl dX2_readOne_103 ?_
          refine aw_callVp C (As := [.ref (adK 11)]) (c_X2_isWordS l D cI cC adK adV h b f n (nx f n (nx f n (nx f n p))) (nmT f n (nx f n (nx f n (nx f n p))) (nmT f n (nx f n (nx f n p)) (nmT f n (nx f n p) q))) 11 (by decide) (nx_le (nx_le (nx_le hp))) hn) k3_50 cv_X2_isWordS 0 1 rfl rfl rfl [0, 1] (by decide) rfl ⟨by decide, by decide⟩ rfl rfl ⟨by decide, by decide⟩ rfl rfl (Nat.le_of_ble_eq_true rfl) dX2_readOne_105 ?_
          refine aw_ifeq_b C 123 dX2_readOne_108 (by decide) (fun c_108 => ?_) (fun c_108 => ?_)
          · skip
            refine aw_pc 123 rfl ?_
            refine aw_iconst C (1 : Int32) dX2_readOne_123 (by decide) ?_
            have hm : (rdOne f n k T p) = (true, (mPut (tAdd T k (0 : Int32)) T.1 (2 : Int32) (nmV f n (nx f n (nx f n p)))), (nx f n (nx f n (nx f n p)))) := by simp only [rdOne, rdAt, rdAs, rdOut, c_4, c_24, c_57, c_70, c_108, decide_true, decide_false, Bool.not_true, Bool.not_false, Bool.true_and, Bool.false_and, Bool.and_true, Bool.and_false, Bool.true_or, Bool.false_or, Bool.or_true, Bool.or_false, cond_true, cond_false, eq_self, if_true, if_false, ite_true, ite_false] <;> first | done | rfl
            exact aw_bret C (b := true) hr hlk dX2_readOne_124 rfl ⟨rb (by rw [hm]), (nmT f n (nx f n (nx f n (nx f n p))) (nmT f n (nx f n (nx f n p)) (nmT f n (nx f n p) q))), by rw [hm], by rw [hm]; exact nmT_2⟩
          · skip
            refine aw_aload_n C dX2_readOne_111 rfl ?_
            refine aw_iload C dX2_readOne_112 rfl ?_
            refine aw_iconst C (5 : Int32) dX2_readOne_114 (by decide) ?_
            refine aw_iconst C (1 : Int32) dX2_readOne_115 (by decide) ?_
            refine aw_callVdv C (As := [.int (nI T.1), .int (5 : Int32), .int (1 : Int32)]) (c_X3_put l D cI cC adK adV hT aT (mPut (tAdd T k (0 : Int32)) T.1 (2 : Int32) (nmV f n (nx f n (nx f n p)))) T.1 (5 : Int32) (1 : Int32) (by rw [put_n]; show T.1 + 1 ≤ 8; omega) (by rw [put_n]; exact Nat.lt_succ_self _)) k3_120 cv_X3_put 2 2 rfl rfl rfl [2, 3, 4, 5, 6, 7, 8, 9, 10] (by decide) rfl (wr := wTp cI h b f n (tkI f n (nx f n (nx f n (nx f n p)))) (nx f n (nx f n (nx f n p))) (tkE f n (nx f n (nx f n (nx f n p)))) (nmT f n (nx f n (nx f n (nx f n p))) (nmT f n (nx f n (nx f n p)) (nmT f n (nx f n p) q)))) [0, 1] rfl (by decide) (by decide) [0, 1, 2, 3, 4, 5, 6, 7, 8, 9, 10] (by decide) (ws' := wTp cI h b f n (tkI f n (nx f n (nx f n (nx f n p)))) (nx f n (nx f n (nx f n p))) (tkE f n (nx f n (nx f n (nx f n p)))) (nmT f n (nx f n (nx f n (nx f n p))) (nmT f n (nx f n (nx f n p)) (nmT f n (nx f n p) q))) ++ wTo cI hT aT (mPut (mPut (tAdd T k (0 : Int32)) T.1 (2 : Int32) (nmV f n (nx f n (nx f n p)))) T.1 (5 : Int32) (1 : Int32))) rfl ⟨by decide, by decide⟩ rfl rfl ⟨by decide, by decide⟩ rfl rfl (Nat.le_of_ble_eq_true rfl) dX2_readOne_116 ?_
            refine aw_aload_n C dX2_readOne_119 rfl ?_
            refine aw_callVdv C (As := []) (c_X2_nextTokenS l D cI cC adK adV h b f n (nx f n (nx f n (nx f n p))) (nmT f n (nx f n (nx f n (nx f n p))) (nmT f n (nx f n (nx f n p)) (nmT f n (nx f n p) q))) (nx_le (nx_le (nx_le hp))) hn) k3_22 cv_X2_nextToken 0 1 rfl rfl rfl [0, 1] (by decide) rfl (wr := wTo cI hT aT (mPut (mPut (tAdd T k (0 : Int32)) T.1 (2 : Int32) (nmV f n (nx f n (nx f n p)))) T.1 (5 : Int32) (1 : Int32))) [2, 3, 4, 5, 6, 7, 8, 9, 10] rfl (by decide) (by decide) [9, 10, 0, 1, 2, 3, 4, 5, 6, 7, 8] (by decide) (ws' := wTp cI h b f n (tkI f n (nx f n (nx f n (nx f n (nx f n p))))) (nx f n (nx f n (nx f n (nx f n p)))) (tkE f n (nx f n (nx f n (nx f n (nx f n p))))) (nmT f n (nx f n (nx f n (nx f n (nx f n p)))) (nmT f n (nx f n (nx f n (nx f n p))) (nmT f n (nx f n (nx f n p)) (nmT f n (nx f n p) q)))) ++ wTo cI hT aT (mPut (mPut (tAdd T k (0 : Int32)) T.1 (2 : Int32) (nmV f n (nx f n (nx f n p)))) T.1 (5 : Int32) (1 : Int32))) rfl ⟨by decide, by decide⟩ rfl rfl ⟨by decide, by decide⟩ rfl rfl (Nat.le_of_ble_eq_true rfl) dX2_readOne_120 ?_
            refine aw_iconst C (1 : Int32) dX2_readOne_123 (by decide) ?_
            refine aw_pc 124 rfl ?_
            have hm : (rdOne f n k T p) = (true, (mPut (mPut (tAdd T k (0 : Int32)) T.1 (2 : Int32) (nmV f n (nx f n (nx f n p)))) T.1 (5 : Int32) (1 : Int32)), (nx f n (nx f n (nx f n (nx f n p))))) := by simp only [rdOne, rdAt, rdAs, rdOut, c_4, c_24, c_57, c_70, c_108, decide_true, decide_false, Bool.not_true, Bool.not_false, Bool.true_and, Bool.false_and, Bool.and_true, Bool.and_false, Bool.true_or, Bool.false_or, Bool.or_true, Bool.or_false, cond_true, cond_false, eq_self, if_true, if_false, ite_true, ite_false] <;> first | done | rfl
            exact aw_bret C (b := true) hr hlk dX2_readOne_124 rfl ⟨rb (by rw [hm]), (nmT f n (nx f n (nx f n (nx f n (nx f n p)))) (nmT f n (nx f n (nx f n (nx f n p))) (nmT f n (nx f n (nx f n p)) (nmT f n (nx f n p) q)))), by rw [hm], by rw [hm]; exact nmT_2⟩
        · skip
          refine aw_iconst C (0 : Int32) dX2_readOne_73 (by decide) ?_
          have hm : (rdOne f n k T p) = (false, T, (nx f n (nx f n p))) := by simp only [rdOne, rdAt, rdAs, rdOut, c_4, c_24, c_57, c_70, decide_true, decide_false, Bool.not_true, Bool.not_false, Bool.true_and, Bool.false_and, Bool.and_true, Bool.and_false, Bool.true_or, Bool.false_or, Bool.or_true, Bool.or_false, cond_true, cond_false, eq_self, if_true, if_false, ite_true, ite_false] <;> first | done | rfl
          exact aw_bret C (b := false) hr hlk dX2_readOne_74 rfl ⟨rb (by rw [hm]), (nmT f n (nx f n (nx f n p)) (nmT f n (nx f n p) q)), by rw [hm], by rw [hm]; exact nmT_2⟩
    · skip
      refine aw_aload_n C dX2_readOne_27 rfl ?_
      refine aw_callVdv C (As := []) (c_X2_nextTokenS l D cI cC adK adV h b f n (nx f n p) (nmT f n (nx f n p) q) (nx_le hp) hn) k3_22 cv_X2_nextToken 0 1 rfl rfl rfl [0, 1] (by decide) rfl (wr := wTo cI hT aT T) [2, 3, 4, 5, 6, 7, 8, 9, 10] rfl (by decide) (by decide) [9, 10, 0, 1, 2, 3, 4, 5, 6, 7, 8] (by decide) (ws' := wTp cI h b f n (tkI f n (nx f n (nx f n p))) (nx f n (nx f n p)) (tkE f n (nx f n (nx f n p))) (nmT f n (nx f n (nx f n p)) (nmT f n (nx f n p) q)) ++ wTo cI hT aT T) rfl ⟨by decide, by decide⟩ rfl rfl ⟨by decide, by decide⟩ rfl rfl (Nat.le_of_ble_eq_true rfl) dX2_readOne_28 ?_
      refine aw_aload_n C dX2_readOne_31 rfl ?_
      refine aw_bipush C (16 : Int32) dX2_readOne_32 (by decide) ?_
      refine aw_callVp C (As := [.int (16 : Int32)]) (c_X2_isNumberBelow l D cI cC adK adV h b f n (tkI f n (nx f n (nx f n p))) (nx f n (nx f n p)) (tkE f n (nx f n (nx f n p))) (nmT f n (nx f n (nx f n p)) (nmT f n (nx f n p) q)) (16 : Int32)) k3_114 cv_X2_isNumberBelow 0 1 rfl rfl rfl [0, 1] (by decide) rfl ⟨by decide, by decide⟩ rfl rfl ⟨by decide, by decide⟩ rfl rfl (Nat.le_of_ble_eq_true rfl) dX2_readOne_34 ?_
      refine aw_top (y := b2 (nB f n (nx f n (nx f n p)) (16 : Int32))) (by exact congrArg b2 (nB_e nmT_2)) ?_
      refine aw_ifne_b C 42 dX2_readOne_37 (by decide) (fun c_37 => ?_) (fun c_37 => ?_)
      · skip
        refine aw_pc 42 rfl ?_
        refine aw_aload_n C dX2_readOne_42 rfl ?_
        refine aw_getf C 0 1 5 6 inX2 rfl (by decide) rfl k1_87 rfl rfl dX2_readOne_43 ?_
        refine aw_top (y := (nmV f n (nx f n (nx f n p)))) (by exact nmT_2 (nB_t c_37)) ?_
        refine aw_istore_n C false (lv' := [(0, .ref h), (1, .int k), (2, .ref hT), (3, .int (nmV f n (nx f n (nx f n p)))), (4, .int (0 : Int32))]) dX2_readOne_46 (by decide) rfl rfl ?_
        refine aw_aload_n C dX2_readOne_47 rfl ?_
        refine aw_callVdv C (As := []) (c_X2_nextTokenS l D cI cC adK adV h b f n (nx f n (nx f n p)) (nmT f n (nx f n (nx f n p)) (nmT f n (nx f n p) q)) (nx_le (nx_le hp)) hn) k3_22 cv_X2_nextToken 0 1 rfl rfl rfl [0, 1] (by decide) rfl (wr := wTo cI hT aT T) [2, 3, 4, 5, 6, 7, 8, 9, 10] rfl (by decide) (by decide) [9, 10, 0, 1, 2, 3, 4, 5, 6, 7, 8] (by decide) (ws' := wTp cI h b f n (tkI f n (nx f n (nx f n (nx f n p)))) (nx f n (nx f n (nx f n p))) (tkE f n (nx f n (nx f n (nx f n p)))) (nmT f n (nx f n (nx f n (nx f n p))) (nmT f n (nx f n (nx f n p)) (nmT f n (nx f n p) q))) ++ wTo cI hT aT T) rfl ⟨by decide, by decide⟩ rfl rfl ⟨by decide, by decide⟩ rfl rfl (Nat.le_of_ble_eq_true rfl) dX2_readOne_48 ?_
        refine aw_aload_n C dX2_readOne_51 rfl ?_
        refine aw_ldcK C (i := 10) (by decide) rfl rfl dX2_readOne_52 ?_
        refine aw_callVp C (As := [.ref (adK 10)]) (c_X2_isWordS l D cI cC adK adV h b f n (nx f n (nx f n (nx f n p))) (nmT f n (nx f n (nx f n (nx f n p))) (nmT f n (nx f n (nx f n p)) (nmT f n (nx f n p) q))) 10 (by decide) (nx_le (nx_le (nx_le hp))) hn) k3_50 cv_X2_isWordS 0 1 rfl rfl rfl [0, 1] (by decide) rfl ⟨by decide, by decide⟩ rfl rfl ⟨by decide, by decide⟩ rfl rfl (Nat.le_of_ble_eq_true rfl) dX2_readOne_54 ?_
        refine aw_ifeq_b C 85 dX2_readOne_57 (by decide) (fun c_57 => ?_) (fun c_57 => ?_)
        · skip
          refine aw_pc 85 rfl ?_
          refine aw_aload_n C dX2_readOne_85 rfl ?_
          refine aw_iload_n C dX2_readOne_86 rfl ?_
          refine aw_iload_n C dX2_readOne_87 rfl ?_
          refine aw_callVd C (As := [.int k, .int (nmV f n (nx f n (nx f n p)))]) (c_X3_add l D cI cC adK adV hT aT T k (nmV f n (nx f n (nx f n p))) h7) k3_119 cv_X3_add 2 2 rfl rfl rfl [2, 3, 4, 5, 6, 7, 8, 9, 10] (by decide) rfl (wr := wTp cI h b f n (tkI f n (nx f n (nx f n (nx f n p)))) (nx f n (nx f n (nx f n p))) (tkE f n (nx f n (nx f n (nx f n p)))) (nmT f n (nx f n (nx f n (nx f n p))) (nmT f n (nx f n (nx f n p)) (nmT f n (nx f n p) q)))) [0, 1] rfl (by decide) (by decide) [0, 1, 2, 3, 4, 5, 6, 7, 8, 9, 10] (by decide) (ws' := wTp cI h b f n (tkI f n (nx f n (nx f n (nx f n p)))) (nx f n (nx f n (nx f n p))) (tkE f n (nx f n (nx f n (nx f n p)))) (nmT f n (nx f n (nx f n (nx f n p))) (nmT f n (nx f n (nx f n p)) (nmT f n (nx f n p) q))) ++ wTo cI hT aT (tAdd T k (nmV f n (nx f n (nx f n p))))) rfl ⟨by decide, by decide⟩ rfl rfl ⟨by decide, by decide⟩ rfl rfl (Nat.le_of_ble_eq_true rfl) dX2_readOne_88 ?_
          refine aw_istore C true (lv' := [(0, .ref h), (1, .int k), (2, .ref hT), (3, .int (nmV f n (nx f n (nx f n p)))), (4, .int (0 : Int32)), (5, .int (nI T.1))]) dX2_readOne_91 (by decide) rfl rfl ?_
          refine aw_aload_n C dX2_readOne_93 rfl ?_
          refine aw_iload C dX2_readOne_94 rfl ?_
          refine aw_iconst C (2 : Int32) dX2_readOne_96 (by decide) ?_
          refine aw_iload C dX2_readOne_97 rfl ?_
          refine aw_callVdv C (As := [.int (nI T.1), .int (2 : Int32), .int (0 : Int32)]) (c_X3_put l D cI cC adK adV hT aT (tAdd T k (nmV f n (nx f n (nx f n p)))) T.1 (2 : Int32) (0 : Int32) (by show T.1 + 1 ≤ 8; omega) (Nat.lt_succ_self _)) k3_120 cv_X3_put 2 2 rfl rfl rfl [2, 3, 4, 5, 6, 7, 8, 9, 10] (by decide) rfl (wr := wTp cI h b f n (tkI f n (nx f n (nx f n (nx f n p)))) (nx f n (nx f n (nx f n p))) (tkE f n (nx f n (nx f n (nx f n p)))) (nmT f n (nx f n (nx f n (nx f n p))) (nmT f n (nx f n (nx f n p)) (nmT f n (nx f n p) q)))) [0, 1] rfl (by decide) (by decide) [0, 1, 2, 3, 4, 5, 6, 7, 8, 9, 10] (by decide) (ws' := wTp cI h b f n (tkI f n (nx f n (nx f n (nx f n p)))) (nx f n (nx f n (nx f n p))) (tkE f n (nx f n (nx f n (nx f n p)))) (nmT f n (nx f n (nx f n (nx f n p))) (nmT f n (nx f n (nx f n p)) (nmT f n (nx f n p) q))) ++ wTo cI hT aT (mPut (tAdd T k (nmV f n (nx f n (nx f n p)))) T.1 (2 : Int32) (0 : Int32))) rfl ⟨by decide, by decide⟩ rfl rfl ⟨by decide, by decide⟩ rfl rfl (Nat.le_of_ble_eq_true rfl) dX2_readOne_99 ?_
          refine aw_pc 102 rfl ?_
          refine aw_aload_n C dX2_readOne_102 rfl ?_
          refine aw_ldcK C (i := 11) (by decide) rfl rfl dX2_readOne_103 ?_
          refine aw_callVp C (As := [.ref (adK 11)]) (c_X2_isWordS l D cI cC adK adV h b f n (nx f n (nx f n (nx f n p))) (nmT f n (nx f n (nx f n (nx f n p))) (nmT f n (nx f n (nx f n p)) (nmT f n (nx f n p) q))) 11 (by decide) (nx_le (nx_le (nx_le hp))) hn) k3_50 cv_X2_isWordS 0 1 rfl rfl rfl [0, 1] (by decide) rfl ⟨by decide, by decide⟩ rfl rfl ⟨by decide, by decide⟩ rfl rfl (Nat.le_of_ble_eq_true rfl) dX2_readOne_105 ?_
          refine aw_ifeq_b C 123 dX2_readOne_108 (by decide) (fun c_108 => ?_) (fun c_108 => ?_)
          · skip
            refine aw_iconst C (1 : Int32) dX2_readOne_123 (by decide) ?_
            have hm : (rdOne f n k T p) = (true, (mPut (tAdd T k (nmV f n (nx f n (nx f n p)))) T.1 (2 : Int32) (0 : Int32)), (nx f n (nx f n (nx f n p)))) := by simp only [rdOne, rdAt, rdAs, rdOut, c_4, c_24, c_37, c_57, c_108, decide_true, decide_false, Bool.not_true, Bool.not_false, Bool.true_and, Bool.false_and, Bool.and_true, Bool.and_false, Bool.true_or, Bool.false_or, Bool.or_true, Bool.or_false, cond_true, cond_false, eq_self, if_true, if_false, ite_true, ite_false] <;> first | done | rfl
            exact aw_bret C (b := true) hr hlk dX2_readOne_124 rfl ⟨rb (by rw [hm]), (nmT f n (nx f n (nx f n (nx f n p))) (nmT f n (nx f n (nx f n p)) (nmT f n (nx f n p) q))), by rw [hm], by rw [hm]; exact nmT_2⟩
          · skip
            refine aw_aload_n C dX2_readOne_111 rfl ?_
            refine aw_iload C dX2_readOne_112 rfl ?_
            refine aw_iconst C (5 : Int32) dX2_readOne_114 (by decide) ?_
            refine aw_iconst C (1 : Int32) dX2_readOne_115 (by decide) ?_
            refine aw_pc 116 rfl ?_
            refine aw_callVdv C (As := [.int (nI T.1), .int (5 : Int32), .int (1 : Int32)]) (c_X3_put l D cI cC adK adV hT aT (mPut (tAdd T k (nmV f n (nx f n (nx f n p)))) T.1 (2 : Int32) (0 : Int32)) T.1 (5 : Int32) (1 : Int32) (by rw [put_n]; show T.1 + 1 ≤ 8; omega) (by rw [put_n]; exact Nat.lt_succ_self _)) k3_120 cv_X3_put 2 2 rfl rfl rfl [2, 3, 4, 5, 6, 7, 8, 9, 10] (by decide) rfl (wr := wTp cI h b f n (tkI f n (nx f n (nx f n (nx f n p)))) (nx f n (nx f n (nx f n p))) (tkE f n (nx f n (nx f n (nx f n p)))) (nmT f n (nx f n (nx f n (nx f n p))) (nmT f n (nx f n (nx f n p)) (nmT f n (nx f n p) q)))) [0, 1] rfl (by decide) (by decide) [0, 1, 2, 3, 4, 5, 6, 7, 8, 9, 10] (by decide) (ws' := wTp cI h b f n (tkI f n (nx f n (nx f n (nx f n p)))) (nx f n (nx f n (nx f n p))) (tkE f n (nx f n (nx f n (nx f n p)))) (nmT f n (nx f n (nx f n (nx f n p))) (nmT f n (nx f n (nx f n p)) (nmT f n (nx f n p) q))) ++ wTo cI hT aT (mPut (mPut (tAdd T k (nmV f n (nx f n (nx f n p)))) T.1 (2 : Int32) (0 : Int32)) T.1 (5 : Int32) (1 : Int32))) rfl ⟨by decide, by decide⟩ rfl rfl ⟨by decide, by decide⟩ rfl rfl (Nat.le_of_ble_eq_true rfl) dX2_readOne_116 ?_
            refine aw_aload_n C dX2_readOne_119 rfl ?_
            refine aw_callVdv C (As := []) (c_X2_nextTokenS l D cI cC adK adV h b f n (nx f n (nx f n (nx f n p))) (nmT f n (nx f n (nx f n (nx f n p))) (nmT f n (nx f n (nx f n p)) (nmT f n (nx f n p) q))) (nx_le (nx_le (nx_le hp))) hn) k3_22 cv_X2_nextToken 0 1 rfl rfl rfl [0, 1] (by decide) rfl (wr := wTo cI hT aT (mPut (mPut (tAdd T k (nmV f n (nx f n (nx f n p)))) T.1 (2 : Int32) (0 : Int32)) T.1 (5 : Int32) (1 : Int32))) [2, 3, 4, 5, 6, 7, 8, 9, 10] rfl (by decide) (by decide) [9, 10, 0, 1, 2, 3, 4, 5, 6, 7, 8] (by decide) (ws' := wTp cI h b f n (tkI f n (nx f n (nx f n (nx f n (nx f n p))))) (nx f n (nx f n (nx f n (nx f n p)))) (tkE f n (nx f n (nx f n (nx f n (nx f n p))))) (nmT f n (nx f n (nx f n (nx f n (nx f n p)))) (nmT f n (nx f n (nx f n (nx f n p))) (nmT f n (nx f n (nx f n p)) (nmT f n (nx f n p) q)))) ++ wTo cI hT aT (mPut (mPut (tAdd T k (nmV f n (nx f n (nx f n p)))) T.1 (2 : Int32) (0 : Int32)) T.1 (5 : Int32) (1 : Int32))) rfl ⟨by decide, by decide⟩ rfl rfl ⟨by decide, by decide⟩ rfl rfl (Nat.le_of_ble_eq_true rfl) dX2_readOne_120 ?_
            refine aw_iconst C (1 : Int32) dX2_readOne_123 (by decide) ?_
            have hm : (rdOne f n k T p) = (true, (mPut (mPut (tAdd T k (nmV f n (nx f n (nx f n p)))) T.1 (2 : Int32) (0 : Int32)) T.1 (5 : Int32) (1 : Int32)), (nx f n (nx f n (nx f n (nx f n p))))) := by simp only [rdOne, rdAt, rdAs, rdOut, c_4, c_24, c_37, c_57, c_108, decide_true, decide_false, Bool.not_true, Bool.not_false, Bool.true_and, Bool.false_and, Bool.and_true, Bool.and_false, Bool.true_or, Bool.false_or, Bool.or_true, Bool.or_false, cond_true, cond_false, eq_self, if_true, if_false, ite_true, ite_false] <;> first | done | rfl
            exact aw_bret C (b := true) hr hlk dX2_readOne_124 rfl ⟨rb (by rw [hm]), (nmT f n (nx f n (nx f n (nx f n (nx f n p)))) (nmT f n (nx f n (nx f n (nx f n p))) (nmT f n (nx f n (nx f n p)) (nmT f n (nx f n p) q)))), by rw [hm], by rw [hm]; exact nmT_2⟩
        · skip
          refine aw_aload_n C dX2_readOne_60 rfl ?_
          refine aw_callVdv C (As := []) (c_X2_nextTokenS l D cI cC adK adV h b f n (nx f n (nx f n (nx f n p))) (nmT f n (nx f n (nx f n (nx f n p))) (nmT f n (nx f n (nx f n p)) (nmT f n (nx f n p) q))) (nx_le (nx_le (nx_le hp))) hn) k3_22 cv_X2_nextToken 0 1 rfl rfl rfl [0, 1] (by decide) rfl (wr := wTo cI hT aT T) [2, 3, 4, 5, 6, 7, 8, 9, 10] rfl (by decide) (by decide) [9, 10, 0, 1, 2, 3, 4, 5, 6, 7, 8] (by decide) (ws' := wTp cI h b f n (tkI f n (nx f n (nx f n (nx f n (nx f n p))))) (nx f n (nx f n (nx f n (nx f n p)))) (tkE f n (nx f n (nx f n (nx f n (nx f n p))))) (nmT f n (nx f n (nx f n (nx f n (nx f n p)))) (nmT f n (nx f n (nx f n (nx f n p))) (nmT f n (nx f n (nx f n p)) (nmT f n (nx f n p) q)))) ++ wTo cI hT aT T) rfl ⟨by decide, by decide⟩ rfl rfl ⟨by decide, by decide⟩ rfl rfl (Nat.le_of_ble_eq_true rfl) dX2_readOne_61 ?_
          refine aw_aload_n C dX2_readOne_64 rfl ?_
          refine aw_bipush C (12 : Int32) dX2_readOne_65 (by decide) ?_
          refine aw_callVp C (As := [.int (12 : Int32)]) (c_X2_isNumberBelow l D cI cC adK adV h b f n (tkI f n (nx f n (nx f n (nx f n (nx f n p))))) (nx f n (nx f n (nx f n (nx f n p)))) (tkE f n (nx f n (nx f n (nx f n (nx f n p))))) (nmT f n (nx f n (nx f n (nx f n (nx f n p)))) (nmT f n (nx f n (nx f n (nx f n p))) (nmT f n (nx f n (nx f n p)) (nmT f n (nx f n p) q)))) (12 : Int32)) k3_114 cv_X2_isNumberBelow 0 1 rfl rfl rfl [0, 1] (by decide) rfl ⟨by decide, by decide⟩ rfl rfl ⟨by decide, by decide⟩ rfl rfl (Nat.le_of_ble_eq_true rfl) dX2_readOne_67 ?_
          refine aw_pc 70 rfl ?_
          refine aw_top (y := b2 (nB f n (nx f n (nx f n (nx f n (nx f n p)))) (12 : Int32))) (by exact congrArg b2 (nB_e nmT_2)) ?_
          refine aw_ifne_b C 75 dX2_readOne_70 (by decide) (fun c_70 => ?_) (fun c_70 => ?_)
          · skip
            refine aw_aload_n C dX2_readOne_75 rfl ?_
            refine aw_getf C 0 1 5 6 inX2 rfl (by decide) rfl k1_87 rfl rfl dX2_readOne_76 ?_
            refine aw_top (y := (nmV f n (nx f n (nx f n (nx f n (nx f n p)))))) (by exact nmT_2 (nB_t c_70)) ?_
            refine aw_istore C false (lv' := [(0, .ref h), (1, .int k), (2, .ref hT), (3, .int (nmV f n (nx f n (nx f n p)))), (4, .int (nmV f n (nx f n (nx f n (nx f n (nx f n p))))))]) dX2_readOne_79 (by decide) rfl rfl ?_
            refine aw_aload_n C dX2_readOne_81 rfl ?_
            refine aw_callVdv C (As := []) (c_X2_nextTokenS l D cI cC adK adV h b f n (nx f n (nx f n (nx f n (nx f n p)))) (nmT f n (nx f n (nx f n (nx f n (nx f n p)))) (nmT f n (nx f n (nx f n (nx f n p))) (nmT f n (nx f n (nx f n p)) (nmT f n (nx f n p) q)))) (nx_le (nx_le (nx_le (nx_le hp)))) hn) k3_22 cv_X2_nextToken 0 1 rfl rfl rfl [0, 1] (by decide) rfl (wr := wTo cI hT aT T) [2, 3, 4, 5, 6, 7, 8, 9, 10] rfl (by decide) (by decide) [9, 10, 0, 1, 2, 3, 4, 5, 6, 7, 8] (by decide) (ws' := wTp cI h b f n (tkI f n (nx f n (nx f n (nx f n (nx f n (nx f n p)))))) (nx f n (nx f n (nx f n (nx f n (nx f n p))))) (tkE f n (nx f n (nx f n (nx f n (nx f n (nx f n p)))))) (nmT f n (nx f n (nx f n (nx f n (nx f n (nx f n p))))) (nmT f n (nx f n (nx f n (nx f n (nx f n p)))) (nmT f n (nx f n (nx f n (nx f n p))) (nmT f n (nx f n (nx f n p)) (nmT f n (nx f n p) q))))) ++ wTo cI hT aT T) rfl ⟨by decide, by decide⟩ rfl rfl ⟨by decide, by decide⟩ rfl rfl (Nat.le_of_ble_eq_true rfl) dX2_readOne_82 ?_
            refine aw_aload_n C dX2_readOne_85 rfl ?_
            refine aw_iload_n C dX2_readOne_86 rfl ?_
            refine aw_pc 87 rfl ?_
            refine aw_iload_n C dX2_readOne_87 rfl ?_
            refine aw_callVd C (As := [.int k, .int (nmV f n (nx f n (nx f n p)))]) (c_X3_add l D cI cC adK adV hT aT T k (nmV f n (nx f n (nx f n p))) h7) k3_119 cv_X3_add 2 2 rfl rfl rfl [2, 3, 4, 5, 6, 7, 8, 9, 10] (by decide) rfl (wr := wTp cI h b f n (tkI f n (nx f n (nx f n (nx f n (nx f n (nx f n p)))))) (nx f n (nx f n (nx f n (nx f n (nx f n p))))) (tkE f n (nx f n (nx f n (nx f n (nx f n (nx f n p)))))) (nmT f n (nx f n (nx f n (nx f n (nx f n (nx f n p))))) (nmT f n (nx f n (nx f n (nx f n (nx f n p)))) (nmT f n (nx f n (nx f n (nx f n p))) (nmT f n (nx f n (nx f n p)) (nmT f n (nx f n p) q)))))) [0, 1] rfl (by decide) (by decide) [0, 1, 2, 3, 4, 5, 6, 7, 8, 9, 10] (by decide) (ws' := wTp cI h b f n (tkI f n (nx f n (nx f n (nx f n (nx f n (nx f n p)))))) (nx f n (nx f n (nx f n (nx f n (nx f n p))))) (tkE f n (nx f n (nx f n (nx f n (nx f n (nx f n p)))))) (nmT f n (nx f n (nx f n (nx f n (nx f n (nx f n p))))) (nmT f n (nx f n (nx f n (nx f n (nx f n p)))) (nmT f n (nx f n (nx f n (nx f n p))) (nmT f n (nx f n (nx f n p)) (nmT f n (nx f n p) q))))) ++ wTo cI hT aT (tAdd T k (nmV f n (nx f n (nx f n p))))) rfl ⟨by decide, by decide⟩ rfl rfl ⟨by decide, by decide⟩ rfl rfl (Nat.le_of_ble_eq_true rfl) dX2_readOne_88 ?_
            refine aw_istore C true (lv' := [(0, .ref h), (1, .int k), (2, .ref hT), (3, .int (nmV f n (nx f n (nx f n p)))), (4, .int (nmV f n (nx f n (nx f n (nx f n (nx f n p)))))), (5, .int (nI T.1))]) dX2_readOne_91 (by decide) rfl rfl ?_
            refine aw_aload_n C dX2_readOne_93 rfl ?_
            refine aw_iload C dX2_readOne_94 rfl ?_
            refine aw_iconst C (2 : Int32) dX2_readOne_96 (by decide) ?_
            refine aw_iload C dX2_readOne_97 rfl ?_
            refine aw_callVdv C (As := [.int (nI T.1), .int (2 : Int32), .int (nmV f n (nx f n (nx f n (nx f n (nx f n p)))))]) (c_X3_put l D cI cC adK adV hT aT (tAdd T k (nmV f n (nx f n (nx f n p)))) T.1 (2 : Int32) (nmV f n (nx f n (nx f n (nx f n (nx f n p))))) (by show T.1 + 1 ≤ 8; omega) (Nat.lt_succ_self _)) k3_120 cv_X3_put 2 2 rfl rfl rfl [2, 3, 4, 5, 6, 7, 8, 9, 10] (by decide) rfl (wr := wTp cI h b f n (tkI f n (nx f n (nx f n (nx f n (nx f n (nx f n p)))))) (nx f n (nx f n (nx f n (nx f n (nx f n p))))) (tkE f n (nx f n (nx f n (nx f n (nx f n (nx f n p)))))) (nmT f n (nx f n (nx f n (nx f n (nx f n (nx f n p))))) (nmT f n (nx f n (nx f n (nx f n (nx f n p)))) (nmT f n (nx f n (nx f n (nx f n p))) (nmT f n (nx f n (nx f n p)) (nmT f n (nx f n p) q)))))) [0, 1] rfl (by decide) (by decide) [0, 1, 2, 3, 4, 5, 6, 7, 8, 9, 10] (by decide) (ws' := wTp cI h b f n (tkI f n (nx f n (nx f n (nx f n (nx f n (nx f n p)))))) (nx f n (nx f n (nx f n (nx f n (nx f n p))))) (tkE f n (nx f n (nx f n (nx f n (nx f n (nx f n p)))))) (nmT f n (nx f n (nx f n (nx f n (nx f n (nx f n p))))) (nmT f n (nx f n (nx f n (nx f n (nx f n p)))) (nmT f n (nx f n (nx f n (nx f n p))) (nmT f n (nx f n (nx f n p)) (nmT f n (nx f n p) q))))) ++ wTo cI hT aT (mPut (tAdd T k (nmV f n (nx f n (nx f n p)))) T.1 (2 : Int32) (nmV f n (nx f n (nx f n (nx f n (nx f n p))))))) rfl ⟨by decide, by decide⟩ rfl rfl ⟨by decide, by decide⟩ rfl rfl (Nat.le_of_ble_eq_true rfl) dX2_readOne_99 ?_
            refine aw_aload_n C dX2_readOne_102 rfl ?_
            refine aw_ldcK C (i := 11) (by decide) rfl rfl dX2_readOne_103 ?_
            refine aw_pc 105 rfl ?_
            refine aw_callVp C (As := [.ref (adK 11)]) (c_X2_isWordS l D cI cC adK adV h b f n (nx f n (nx f n (nx f n (nx f n (nx f n p))))) (nmT f n (nx f n (nx f n (nx f n (nx f n (nx f n p))))) (nmT f n (nx f n (nx f n (nx f n (nx f n p)))) (nmT f n (nx f n (nx f n (nx f n p))) (nmT f n (nx f n (nx f n p)) (nmT f n (nx f n p) q))))) 11 (by decide) (nx_le (nx_le (nx_le (nx_le (nx_le hp))))) hn) k3_50 cv_X2_isWordS 0 1 rfl rfl rfl [0, 1] (by decide) rfl ⟨by decide, by decide⟩ rfl rfl ⟨by decide, by decide⟩ rfl rfl (Nat.le_of_ble_eq_true rfl) dX2_readOne_105 ?_
            refine aw_ifeq_b C 123 dX2_readOne_108 (by decide) (fun c_108 => ?_) (fun c_108 => ?_)
            · skip
              refine aw_iconst C (1 : Int32) dX2_readOne_123 (by decide) ?_
              have hm : (rdOne f n k T p) = (true, (mPut (tAdd T k (nmV f n (nx f n (nx f n p)))) T.1 (2 : Int32) (nmV f n (nx f n (nx f n (nx f n (nx f n p)))))), (nx f n (nx f n (nx f n (nx f n (nx f n p)))))) := by simp only [rdOne, rdAt, rdAs, rdOut, c_4, c_24, c_37, c_57, c_70, c_108, decide_true, decide_false, Bool.not_true, Bool.not_false, Bool.true_and, Bool.false_and, Bool.and_true, Bool.and_false, Bool.true_or, Bool.false_or, Bool.or_true, Bool.or_false, cond_true, cond_false, eq_self, if_true, if_false, ite_true, ite_false] <;> first | done | rfl
              exact aw_bret C (b := true) hr hlk dX2_readOne_124 rfl ⟨rb (by rw [hm]), (nmT f n (nx f n (nx f n (nx f n (nx f n (nx f n p))))) (nmT f n (nx f n (nx f n (nx f n (nx f n p)))) (nmT f n (nx f n (nx f n (nx f n p))) (nmT f n (nx f n (nx f n p)) (nmT f n (nx f n p) q))))), by rw [hm], by rw [hm]; exact nmT_2⟩
            · skip
              refine aw_aload_n C dX2_readOne_111 rfl ?_
              refine aw_iload C dX2_readOne_112 rfl ?_
              refine aw_iconst C (5 : Int32) dX2_readOne_114 (by decide) ?_
              refine aw_iconst C (1 : Int32) dX2_readOne_115 (by decide) ?_
              refine aw_callVdv C (As := [.int (nI T.1), .int (5 : Int32), .int (1 : Int32)]) (c_X3_put l D cI cC adK adV hT aT (mPut (tAdd T k (nmV f n (nx f n (nx f n p)))) T.1 (2 : Int32) (nmV f n (nx f n (nx f n (nx f n (nx f n p)))))) T.1 (5 : Int32) (1 : Int32) (by rw [put_n]; show T.1 + 1 ≤ 8; omega) (by rw [put_n]; exact Nat.lt_succ_self _)) k3_120 cv_X3_put 2 2 rfl rfl rfl [2, 3, 4, 5, 6, 7, 8, 9, 10] (by decide) rfl (wr := wTp cI h b f n (tkI f n (nx f n (nx f n (nx f n (nx f n (nx f n p)))))) (nx f n (nx f n (nx f n (nx f n (nx f n p))))) (tkE f n (nx f n (nx f n (nx f n (nx f n (nx f n p)))))) (nmT f n (nx f n (nx f n (nx f n (nx f n (nx f n p))))) (nmT f n (nx f n (nx f n (nx f n (nx f n p)))) (nmT f n (nx f n (nx f n (nx f n p))) (nmT f n (nx f n (nx f n p)) (nmT f n (nx f n p) q)))))) [0, 1] rfl (by decide) (by decide) [0, 1, 2, 3, 4, 5, 6, 7, 8, 9, 10] (by decide) (ws' := wTp cI h b f n (tkI f n (nx f n (nx f n (nx f n (nx f n (nx f n p)))))) (nx f n (nx f n (nx f n (nx f n (nx f n p))))) (tkE f n (nx f n (nx f n (nx f n (nx f n (nx f n p)))))) (nmT f n (nx f n (nx f n (nx f n (nx f n (nx f n p))))) (nmT f n (nx f n (nx f n (nx f n (nx f n p)))) (nmT f n (nx f n (nx f n (nx f n p))) (nmT f n (nx f n (nx f n p)) (nmT f n (nx f n p) q))))) ++ wTo cI hT aT (mPut (mPut (tAdd T k (nmV f n (nx f n (nx f n p)))) T.1 (2 : Int32) (nmV f n (nx f n (nx f n (nx f n (nx f n p)))))) T.1 (5 : Int32) (1 : Int32))) rfl ⟨by decide, by decide⟩ rfl rfl ⟨by decide, by decide⟩ rfl rfl (Nat.le_of_ble_eq_true rfl) dX2_readOne_116 ?_
              refine aw_aload_n C dX2_readOne_119 rfl ?_
              refine aw_pc 120 rfl ?_
              refine aw_callVdv C (As := []) (c_X2_nextTokenS l D cI cC adK adV h b f n (nx f n (nx f n (nx f n (nx f n (nx f n p))))) (nmT f n (nx f n (nx f n (nx f n (nx f n (nx f n p))))) (nmT f n (nx f n (nx f n (nx f n (nx f n p)))) (nmT f n (nx f n (nx f n (nx f n p))) (nmT f n (nx f n (nx f n p)) (nmT f n (nx f n p) q))))) (nx_le (nx_le (nx_le (nx_le (nx_le hp))))) hn) k3_22 cv_X2_nextToken 0 1 rfl rfl rfl [0, 1] (by decide) rfl (wr := wTo cI hT aT (mPut (mPut (tAdd T k (nmV f n (nx f n (nx f n p)))) T.1 (2 : Int32) (nmV f n (nx f n (nx f n (nx f n (nx f n p)))))) T.1 (5 : Int32) (1 : Int32))) [2, 3, 4, 5, 6, 7, 8, 9, 10] rfl (by decide) (by decide) [9, 10, 0, 1, 2, 3, 4, 5, 6, 7, 8] (by decide) (ws' := wTp cI h b f n (tkI f n (nx f n (nx f n (nx f n (nx f n (nx f n (nx f n p))))))) (nx f n (nx f n (nx f n (nx f n (nx f n (nx f n p)))))) (tkE f n (nx f n (nx f n (nx f n (nx f n (nx f n (nx f n p))))))) (nmT f n (nx f n (nx f n (nx f n (nx f n (nx f n (nx f n p)))))) (nmT f n (nx f n (nx f n (nx f n (nx f n (nx f n p))))) (nmT f n (nx f n (nx f n (nx f n (nx f n p)))) (nmT f n (nx f n (nx f n (nx f n p))) (nmT f n (nx f n (nx f n p)) (nmT f n (nx f n p) q)))))) ++ wTo cI hT aT (mPut (mPut (tAdd T k (nmV f n (nx f n (nx f n p)))) T.1 (2 : Int32) (nmV f n (nx f n (nx f n (nx f n (nx f n p)))))) T.1 (5 : Int32) (1 : Int32))) rfl ⟨by decide, by decide⟩ rfl rfl ⟨by decide, by decide⟩ rfl rfl (Nat.le_of_ble_eq_true rfl) dX2_readOne_120 ?_
              refine aw_iconst C (1 : Int32) dX2_readOne_123 (by decide) ?_
              have hm : (rdOne f n k T p) = (true, (mPut (mPut (tAdd T k (nmV f n (nx f n (nx f n p)))) T.1 (2 : Int32) (nmV f n (nx f n (nx f n (nx f n (nx f n p)))))) T.1 (5 : Int32) (1 : Int32)), (nx f n (nx f n (nx f n (nx f n (nx f n (nx f n p))))))) := by simp only [rdOne, rdAt, rdAs, rdOut, c_4, c_24, c_37, c_57, c_70, c_108, decide_true, decide_false, Bool.not_true, Bool.not_false, Bool.true_and, Bool.false_and, Bool.and_true, Bool.and_false, Bool.true_or, Bool.false_or, Bool.or_true, Bool.or_false, cond_true, cond_false, eq_self, if_true, if_false, ite_true, ite_false] <;> first | done | rfl
              exact aw_bret C (b := true) hr hlk dX2_readOne_124 rfl ⟨rb (by rw [hm]), (nmT f n (nx f n (nx f n (nx f n (nx f n (nx f n (nx f n p)))))) (nmT f n (nx f n (nx f n (nx f n (nx f n (nx f n p))))) (nmT f n (nx f n (nx f n (nx f n (nx f n p)))) (nmT f n (nx f n (nx f n (nx f n p))) (nmT f n (nx f n (nx f n p)) (nmT f n (nx f n p) q)))))), by rw [hm], by rw [hm]; exact nmT_2⟩
          · skip
            refine aw_iconst C (0 : Int32) dX2_readOne_73 (by decide) ?_
            have hm : (rdOne f n k T p) = (false, T, (nx f n (nx f n (nx f n (nx f n p))))) := by simp only [rdOne, rdAt, rdAs, rdOut, c_4, c_24, c_37, c_57, c_70, decide_true, decide_false, Bool.not_true, Bool.not_false, Bool.true_and, Bool.false_and, Bool.and_true, Bool.and_false, Bool.true_or, Bool.false_or, Bool.or_true, Bool.or_false, cond_true, cond_false, eq_self, if_true, if_false, ite_true, ite_false] <;> first | done | rfl
            exact aw_bret C (b := false) hr hlk dX2_readOne_74 rfl ⟨rb (by rw [hm]), (nmT f n (nx f n (nx f n (nx f n (nx f n p)))) (nmT f n (nx f n (nx f n (nx f n p))) (nmT f n (nx f n (nx f n p)) (nmT f n (nx f n p) q)))), by rw [hm], by rw [hm]; exact nmT_2⟩
      · skip
        refine aw_iconst C (0 : Int32) dX2_readOne_40 (by decide) ?_
        have hm : (rdOne f n k T p) = (false, T, (nx f n (nx f n p))) := by simp only [rdOne, rdAt, rdAs, rdOut, c_4, c_24, c_37, decide_true, decide_false, Bool.not_true, Bool.not_false, Bool.true_and, Bool.false_and, Bool.and_true, Bool.and_false, Bool.true_or, Bool.false_or, Bool.or_true, Bool.or_false, cond_true, cond_false, eq_self, if_true, if_false, ite_true, ite_false] <;> first | done | rfl
        exact aw_bret C (b := false) hr hlk dX2_readOne_41 rfl ⟨rb (by rw [hm]), (nmT f n (nx f n (nx f n p)) (nmT f n (nx f n p) q)), by rw [hm], by rw [hm]; exact nmT_2⟩
  · skip
    refine aw_iconst C (0 : Int32) dX2_readOne_7 (by decide) ?_
    have hm : (rdOne f n k T p) = (false, T, p) := by simp only [rdOne, rdAt, rdAs, rdOut, c_4, decide_true, decide_false, Bool.not_true, Bool.not_false, Bool.true_and, Bool.false_and, Bool.and_true, Bool.and_false, Bool.true_or, Bool.false_or, Bool.or_true, Bool.or_false, cond_true, cond_false, eq_self, if_true, if_false, ite_true, ite_false] <;> first | done | rfl
    exact aw_bret C (b := false) hr hlk dX2_readOne_8 rfl ⟨rb (by rw [hm]), q, by rw [hm], by rw [hm]; exact hq⟩
abbrev r_X2_readMet : Room := { frames := 3, cells := 0, slots := 0, locals := 65 }
theorem cv_X2_readMet : cV yX2_readMet cX2_readMet 3 (some .boolean) 1 := ⟨k3_125, k0_19, k3_126, k1_4, by decide, by decide, by decide +kernel⟩
set_option maxHeartbeats 4000000 in
set_option maxRecDepth 100000 in
theorem c_X2_readMet (l : Launch) (D : va_G) (cI cC : ClassId) (adK adV : Nat → Nat) (h b hT : Nat) (aT : Nat → Nat) (f : Nat → Int32) (n p : Nat) (q : Int32) (T : Tw)  (hp : p ≤ n) (hn : n ≤ 120) (hq : tkI f n p = 2 → q = nmV f n p) (h8 : T.1 ≤ 8)  : FC l yX2_readMet (wW yX2_readMet cX2_readMet 3 (some .boolean)) r_X2_readMet D (tyC cI cC) adK adV (wTp cI h b f n (tkI f n p) p (tkE f n p) q ++ wTo cI hT aT T) [.ref h, .ref hT] 0 0 (pTp cI h b hT aT f n (rdMet f n T p)) := by
  refine FC.of (own := RX2) (by decide) rfl (Nat.le_of_ble_eq_true rfl) ?_
  intro p9 e9 s9 m9 args9 below9 meth9 c9 A9 C hr hlk hmn
  show AW p9 l e9 r_X2_readMet s9 m9 args9 below9 meth9 c9 D A9 3 0 0 _ 0 [(0, .ref h), (1, .ref hT)] [] _
  refine aw_aload_n C dX2_readMet_0 rfl ?_
  refine aw_callVdv C (As := []) (c_X2_nextTokenS l D cI cC adK adV h b f n p q hp hn) k3_22 cv_X2_nextToken 0 1 rfl rfl rfl [0, 1] (by decide) rfl (wr := wTo cI hT aT T) [2, 3, 4, 5, 6, 7, 8, 9, 10] rfl (by decide) (by decide) [9, 10, 0, 1, 2, 3, 4, 5, 6, 7, 8] (by decide) (ws' := wTp cI h b f n (tkI f n (nx f n p)) (nx f n p) (tkE f n (nx f n p)) (nmT f n (nx f n p) q) ++ wTo cI hT aT T) rfl ⟨by decide, by decide⟩ rfl rfl ⟨by decide, by decide⟩ rfl rfl (Nat.le_of_ble_eq_true rfl) dX2_readMet_1 ?_
  refine aw_aload_n C dX2_readMet_4 rfl ?_
  refine aw_aload_n C dX2_readMet_5 rfl ?_
  refine aw_getf C 2 2 0 12 inX3 rfl (by decide) rfl k1_33 rfl rfl dX2_readMet_6 ?_
  refine aw_callVp C (As := [.int (nI T.1)]) (c_X2_isNumberBelow l D cI cC adK adV h b f n (tkI f n (nx f n p)) (nx f n p) (tkE f n (nx f n p)) (nmT f n (nx f n p) q) (nI T.1)) k3_114 cv_X2_isNumberBelow 0 1 rfl rfl rfl [0, 1] (by decide) rfl ⟨by decide, by decide⟩ rfl rfl ⟨by decide, by decide⟩ rfl rfl (Nat.le_of_ble_eq_true rfl) dX2_readMet_9 ?_
  refine aw_top (y := b2 (nB f n (nx f n p) (nI T.1))) (by exact congrArg b2 (nB_e nmT_2)) ?_
  refine aw_ifne_b C 17 dX2_readMet_12 (by decide) (fun c_12 => ?_) (fun c_12 => ?_)
  · skip
    refine aw_aload_n C dX2_readMet_17 rfl ?_
    refine aw_pc 18 rfl ?_
    refine aw_getf C 0 1 5 6 inX2 rfl (by decide) rfl k1_87 rfl rfl dX2_readMet_18 ?_
    refine aw_top (y := (nmV f n (nx f n p))) (by exact nmT_2 (nB_t c_12)) ?_
    refine aw_istore_n C true (lv' := [(0, .ref h), (1, .ref hT), (2, .int (nmV f n (nx f n p)))]) dX2_readMet_21 (by decide) rfl rfl ?_
    refine aw_aload_n C dX2_readMet_22 rfl ?_
    refine aw_callVdv C (As := []) (c_X2_nextTokenS l D cI cC adK adV h b f n (nx f n p) (nmT f n (nx f n p) q) (nx_le hp) hn) k3_22 cv_X2_nextToken 0 1 rfl rfl rfl [0, 1] (by decide) rfl (wr := wTo cI hT aT T) [2, 3, 4, 5, 6, 7, 8, 9, 10] rfl (by decide) (by decide) [9, 10, 0, 1, 2, 3, 4, 5, 6, 7, 8] (by decide) (ws' := wTp cI h b f n (tkI f n (nx f n (nx f n p))) (nx f n (nx f n p)) (tkE f n (nx f n (nx f n p))) (nmT f n (nx f n (nx f n p)) (nmT f n (nx f n p) q)) ++ wTo cI hT aT T) rfl ⟨by decide, by decide⟩ rfl rfl ⟨by decide, by decide⟩ rfl rfl (Nat.le_of_ble_eq_true rfl) dX2_readMet_23 ?_
    refine aw_aload_n C dX2_readMet_26 rfl ?_
    refine aw_aload_n C dX2_readMet_27 rfl ?_
    refine aw_getf C 2 2 0 12 inX3 rfl (by decide) rfl k1_33 rfl rfl dX2_readMet_28 ?_
    refine aw_callVp C (As := [.int (nI T.1)]) (c_X2_isNumberBelow l D cI cC adK adV h b f n (tkI f n (nx f n (nx f n p))) (nx f n (nx f n p)) (tkE f n (nx f n (nx f n p))) (nmT f n (nx f n (nx f n p)) (nmT f n (nx f n p) q)) (nI T.1)) k3_114 cv_X2_isNumberBelow 0 1 rfl rfl rfl [0, 1] (by decide) rfl ⟨by decide, by decide⟩ rfl rfl ⟨by decide, by decide⟩ rfl rfl (Nat.le_of_ble_eq_true rfl) dX2_readMet_31 ?_
    refine aw_top (y := b2 (nB f n (nx f n (nx f n p)) (nI T.1))) (by exact congrArg b2 (nB_e nmT_2)) ?_
    refine aw_pc 34 rfl ?_
    refine aw_ifeq_b C 45 dX2_readMet_34 (by decide) (fun c_34 => ?_) (fun c_34 => ?_)
    · skip
      refine aw_iconst C (0 : Int32) dX2_readMet_45 (by decide) ?_
      have hm : (rdMet f n T p) = (false, T, (nx f n (nx f n p))) := by simp only [rdMet, c_12, c_34, decide_true, decide_false, Bool.not_true, Bool.not_false, Bool.true_and, Bool.false_and, Bool.and_true, Bool.and_false, Bool.true_or, Bool.false_or, Bool.or_true, Bool.or_false, cond_true, cond_false, eq_self, if_true, if_false, ite_true, ite_false] <;> first | done | (rw [decide_eq_true c_42]; rfl)
      exact aw_bret C (b := false) hr hlk dX2_readMet_46 rfl ⟨rb (by rw [hm]), (nmT f n (nx f n (nx f n p)) (nmT f n (nx f n p) q)), by rw [hm], by rw [hm]; exact nmT_2⟩
    · skip
      refine aw_aload_n C dX2_readMet_37 rfl ?_
      refine aw_getf C 0 1 5 6 inX2 rfl (by decide) rfl k1_87 rfl rfl dX2_readMet_38 ?_
      refine aw_top (y := (nmV f n (nx f n (nx f n p)))) (by exact nmT_2 (nB_t c_34)) ?_
      refine aw_iload_n C dX2_readMet_41 rfl ?_
      refine aw_icmp_ne C 47 dX2_readMet_42 (by decide) (fun c_42 => ?_) (fun c_42 => ?_)
      · skip
        refine aw_aload_n C dX2_readMet_47 rfl ?_
        refine aw_iload_n C dX2_readMet_48 rfl ?_
        refine aw_pc 49 rfl ?_
        refine aw_aload_n C dX2_readMet_49 rfl ?_
        refine aw_getf C 0 1 5 6 inX2 rfl (by decide) rfl k1_87 rfl rfl dX2_readMet_50 ?_
        refine aw_top (y := (nmV f n (nx f n (nx f n p)))) (by exact nmT_2 (nB_t c_34)) ?_
        have l1 := nB_lt (by omega) c_12
        have l2 := nB_lt (by omega) c_34
        have tw : mTwo T (nI (ix (nmV f n (nx f n p)))) (nI (ix (nmV f n (nx f n (nx f n p))))) = true := by unfold mTwo; rw [there_nI h8 l1, there_nI h8 l2, decide_eq_false (fun z => c_42 (by rw [nmV_ix f n (nx f n (nx f n p)), nmV_ix f n (nx f n p), z]))]; rfl
        refine aw_eq (lv' := [(0, .ref h), (1, .ref hT), (2, .int (nmV f n (nx f n p)))]) (st' := [.int (nI (ix (nmV f n (nx f n (nx f n p))))), .int (nI (ix (nmV f n (nx f n p)))), .ref hT]) (ws' := wTp cI h b f n (tkI f n (nx f n (nx f n p))) (nx f n (nx f n p)) (tkE f n (nx f n (nx f n p))) (nmT f n (nx f n (nx f n p)) (nmT f n (nx f n p) q)) ++ wTo cI hT aT T) rfl (by rw [← nmV_ix, ← nmV_ix]) rfl ?_
        refine aw_callVdv C (As := [.int (nI (ix (nmV f n (nx f n p)))), .int (nI (ix (nmV f n (nx f n (nx f n p)))))]) (c_X3_meetEachOther l D cI cC adK adV hT aT T (ix (nmV f n (nx f n p))) (ix (nmV f n (nx f n (nx f n p)))) (by omega) (by omega) tw) k3_127 cv_X3_meetEachOther 2 2 rfl rfl rfl [2, 3, 4, 5, 6, 7, 8, 9, 10] (by decide) rfl (wr := wTp cI h b f n (tkI f n (nx f n (nx f n p))) (nx f n (nx f n p)) (tkE f n (nx f n (nx f n p))) (nmT f n (nx f n (nx f n p)) (nmT f n (nx f n p) q))) [0, 1] rfl (by decide) (by decide) [0, 1, 2, 3, 4, 5, 6, 7, 8, 9, 10] (by decide) (ws' := wTp cI h b f n (tkI f n (nx f n (nx f n p))) (nx f n (nx f n p)) (tkE f n (nx f n (nx f n p))) (nmT f n (nx f n (nx f n p)) (nmT f n (nx f n p) q)) ++ wTo cI hT aT (tMeet T (ix (nmV f n (nx f n p))) (ix (nmV f n (nx f n (nx f n p)))))) rfl ⟨by decide, by decide⟩ rfl rfl ⟨by decide, by decide⟩ rfl rfl (Nat.le_of_ble_eq_true rfl) dX2_readMet_53 ?_
        refine aw_aload_n C dX2_readMet_56 rfl ?_
        refine aw_callVdv C (As := []) (c_X2_nextTokenS l D cI cC adK adV h b f n (nx f n (nx f n p)) (nmT f n (nx f n (nx f n p)) (nmT f n (nx f n p) q)) (nx_le (nx_le hp)) hn) k3_22 cv_X2_nextToken 0 1 rfl rfl rfl [0, 1] (by decide) rfl (wr := wTo cI hT aT (tMeet T (ix (nmV f n (nx f n p))) (ix (nmV f n (nx f n (nx f n p)))))) [2, 3, 4, 5, 6, 7, 8, 9, 10] rfl (by decide) (by decide) [9, 10, 0, 1, 2, 3, 4, 5, 6, 7, 8] (by decide) (ws' := wTp cI h b f n (tkI f n (nx f n (nx f n (nx f n p)))) (nx f n (nx f n (nx f n p))) (tkE f n (nx f n (nx f n (nx f n p)))) (nmT f n (nx f n (nx f n (nx f n p))) (nmT f n (nx f n (nx f n p)) (nmT f n (nx f n p) q))) ++ wTo cI hT aT (tMeet T (ix (nmV f n (nx f n p))) (ix (nmV f n (nx f n (nx f n p)))))) rfl ⟨by decide, by decide⟩ rfl rfl ⟨by decide, by decide⟩ rfl rfl (Nat.le_of_ble_eq_true rfl) dX2_readMet_57 ?_
        refine aw_iconst C (1 : Int32) dX2_readMet_60 (by decide) ?_
        have hm : (rdMet f n T p) = (true, (tMeet T (ix (nmV f n (nx f n p))) (ix (nmV f n (nx f n (nx f n p))))), (nx f n (nx f n (nx f n p)))) := by simp only [rdMet, c_12, c_34, decide_eq_false c_42, decide_true, decide_false, Bool.not_true, Bool.not_false, Bool.true_and, Bool.false_and, Bool.and_true, Bool.and_false, Bool.true_or, Bool.false_or, Bool.or_true, Bool.or_false, cond_true, cond_false, eq_self, if_true, if_false, ite_true, ite_false]
        exact aw_bret C (b := true) hr hlk dX2_readMet_61 rfl ⟨rb (by rw [hm]), (nmT f n (nx f n (nx f n (nx f n p))) (nmT f n (nx f n (nx f n p)) (nmT f n (nx f n p) q))), by rw [hm], by rw [hm]; exact nmT_2⟩
      · skip
        refine aw_iconst C (0 : Int32) dX2_readMet_45 (by decide) ?_
        refine aw_pc 46 rfl ?_
        have hm : (rdMet f n T p) = (false, T, (nx f n (nx f n p))) := by simp only [rdMet, c_12, c_34, c_42, decide_true, decide_false, Bool.not_true, Bool.not_false, Bool.true_and, Bool.false_and, Bool.and_true, Bool.and_false, Bool.true_or, Bool.false_or, Bool.or_true, Bool.or_false, cond_true, cond_false, eq_self, if_true, if_false, ite_true, ite_false] <;> first | done | (rw [decide_eq_true c_42]; rfl)
        exact aw_bret C (b := false) hr hlk dX2_readMet_46 rfl ⟨rb (by rw [hm]), (nmT f n (nx f n (nx f n p)) (nmT f n (nx f n p) q)), by rw [hm], by rw [hm]; exact nmT_2⟩
  · skip
    refine aw_iconst C (0 : Int32) dX2_readMet_15 (by decide) ?_
    have hm : (rdMet f n T p) = (false, T, (nx f n p)) := by simp only [rdMet, c_12, decide_true, decide_false, Bool.not_true, Bool.not_false, Bool.true_and, Bool.false_and, Bool.and_true, Bool.and_false, Bool.true_or, Bool.false_or, Bool.or_true, Bool.or_false, cond_true, cond_false, eq_self, if_true, if_false, ite_true, ite_false]
    exact aw_bret C (b := false) hr hlk dX2_readMet_16 rfl ⟨rb (by rw [hm]), (nmT f n (nx f n p) q), by rw [hm], by rw [hm]; exact nmT_2⟩
abbrev r_X2_readBell : Room := { frames := 3, cells := 0, slots := 0, locals := 60 }
theorem cv_X2_readBell : cV yX2_readBell cX2_readBell 2 (some .boolean) 1 := ⟨k3_135, k0_20, k3_136, k1_4, by decide, by decide, by decide +kernel⟩
set_option maxHeartbeats 4000000 in
set_option maxRecDepth 100000 in
theorem c_X2_readBell (l : Launch) (D : va_G) (cI cC : ClassId) (adK adV : Nat → Nat) (h b hT : Nat) (aT : Nat → Nat) (f : Nat → Int32) (n p : Nat) (q : Int32) (T : Tw)  (hp : p ≤ n) (hn : n ≤ 120) (hq : tkI f n p = 2 → q = nmV f n p) (h8 : T.1 ≤ 8)  : FC l yX2_readBell (wW yX2_readBell cX2_readBell 2 (some .boolean)) r_X2_readBell D (tyC cI cC) adK adV (wTp cI h b f n (tkI f n p) p (tkE f n p) q ++ wTo cI hT aT T) [.ref h, .ref hT] 0 0 (pTp cI h b hT aT f n (rdBell f n T p)) := by
  refine FC.of (own := RX2) (by decide) rfl (Nat.le_of_ble_eq_true rfl) ?_
  intro p9 e9 s9 m9 args9 below9 meth9 c9 A9 C hr hlk hmn
  show AW p9 l e9 r_X2_readBell s9 m9 args9 below9 meth9 c9 D A9 2 0 0 _ 0 [(0, .ref h), (1, .ref hT)] [] _
  refine aw_aload_n C dX2_readBell_0 rfl ?_
  refine aw_callVdv C (As := []) (c_X2_nextTokenS l D cI cC adK adV h b f n p q hp hn) k3_22 cv_X2_nextToken 0 1 rfl rfl rfl [0, 1] (by decide) rfl (wr := wTo cI hT aT T) [2, 3, 4, 5, 6, 7, 8, 9, 10] rfl (by decide) (by decide) [9, 10, 0, 1, 2, 3, 4, 5, 6, 7, 8] (by decide) (ws' := wTp cI h b f n (tkI f n (nx f n p)) (nx f n p) (tkE f n (nx f n p)) (nmT f n (nx f n p) q) ++ wTo cI hT aT T) rfl ⟨by decide, by decide⟩ rfl rfl ⟨by decide, by decide⟩ rfl rfl (Nat.le_of_ble_eq_true rfl) dX2_readBell_1 ?_
  refine aw_aload_n C dX2_readBell_4 rfl ?_
  refine aw_bipush C (12 : Int32) dX2_readBell_5 (by decide) ?_
  refine aw_callVp C (As := [.int (12 : Int32)]) (c_X2_isNumberBelow l D cI cC adK adV h b f n (tkI f n (nx f n p)) (nx f n p) (tkE f n (nx f n p)) (nmT f n (nx f n p) q) (12 : Int32)) k3_114 cv_X2_isNumberBelow 0 1 rfl rfl rfl [0, 1] (by decide) rfl ⟨by decide, by decide⟩ rfl rfl ⟨by decide, by decide⟩ rfl rfl (Nat.le_of_ble_eq_true rfl) dX2_readBell_7 ?_
  refine aw_top (y := b2 (nB f n (nx f n p) (12 : Int32))) (by exact congrArg b2 (nB_e nmT_2)) ?_
  refine aw_ifne_b C 15 dX2_readBell_10 (by decide) (fun c_10 => ?_) (fun c_10 => ?_)
  · skip
    refine aw_aload_n C dX2_readBell_15 rfl ?_
    refine aw_aload_n C dX2_readBell_16 rfl ?_
    refine aw_pc 17 rfl ?_
    refine aw_getf C 0 1 5 6 inX2 rfl (by decide) rfl k1_87 rfl rfl dX2_readBell_17 ?_
    refine aw_top (y := (nmV f n (nx f n p))) (by exact nmT_2 (nB_t c_10)) ?_
    refine aw_callVdv C (As := [.int (nmV f n (nx f n p))]) (c_X3_skipDays l D cI cC adK adV hT aT T (nmV f n (nx f n p))) k3_137 cv_X3_skipDays 2 2 rfl rfl rfl [2, 3, 4, 5, 6, 7, 8, 9, 10] (by decide) rfl (wr := wTp cI h b f n (tkI f n (nx f n p)) (nx f n p) (tkE f n (nx f n p)) (nmT f n (nx f n p) q)) [0, 1] rfl (by decide) (by decide) [0, 1, 2, 3, 4, 5, 6, 7, 8, 9, 10] (by decide) (ws' := wTp cI h b f n (tkI f n (nx f n p)) (nx f n p) (tkE f n (nx f n p)) (nmT f n (nx f n p) q) ++ wTo cI hT aT (tSkip T (nmV f n (nx f n p)))) rfl ⟨by decide, by decide⟩ rfl rfl ⟨by decide, by decide⟩ rfl rfl (Nat.le_of_ble_eq_true rfl) dX2_readBell_20 ?_
    refine aw_aload_n C dX2_readBell_23 rfl ?_
    refine aw_callVdv C (As := []) (c_X2_nextTokenS l D cI cC adK adV h b f n (nx f n p) (nmT f n (nx f n p) q) (nx_le hp) hn) k3_22 cv_X2_nextToken 0 1 rfl rfl rfl [0, 1] (by decide) rfl (wr := wTo cI hT aT (tSkip T (nmV f n (nx f n p)))) [2, 3, 4, 5, 6, 7, 8, 9, 10] rfl (by decide) (by decide) [9, 10, 0, 1, 2, 3, 4, 5, 6, 7, 8] (by decide) (ws' := wTp cI h b f n (tkI f n (nx f n (nx f n p))) (nx f n (nx f n p)) (tkE f n (nx f n (nx f n p))) (nmT f n (nx f n (nx f n p)) (nmT f n (nx f n p) q)) ++ wTo cI hT aT (tSkip T (nmV f n (nx f n p)))) rfl ⟨by decide, by decide⟩ rfl rfl ⟨by decide, by decide⟩ rfl rfl (Nat.le_of_ble_eq_true rfl) dX2_readBell_24 ?_
    refine aw_iconst C (1 : Int32) dX2_readBell_27 (by decide) ?_
    have hm : (rdBell f n T p) = (true, (tSkip T (nmV f n (nx f n p))), (nx f n (nx f n p))) := by simp only [rdBell, c_10, decide_true, decide_false, Bool.not_true, Bool.not_false, Bool.true_and, Bool.false_and, Bool.and_true, Bool.and_false, Bool.true_or, Bool.false_or, Bool.or_true, Bool.or_false, cond_true, cond_false, eq_self, if_true, if_false, ite_true, ite_false] <;> first | done | rfl
    exact aw_bret C (b := true) hr hlk dX2_readBell_28 rfl ⟨rb (by rw [hm]), (nmT f n (nx f n (nx f n p)) (nmT f n (nx f n p) q)), by rw [hm], by rw [hm]; exact nmT_2⟩
  · skip
    refine aw_iconst C (0 : Int32) dX2_readBell_13 (by decide) ?_
    have hm : (rdBell f n T p) = (false, T, (nx f n p)) := by simp only [rdBell, c_10, decide_true, decide_false, Bool.not_true, Bool.not_false, Bool.true_and, Bool.false_and, Bool.and_true, Bool.and_false, Bool.true_or, Bool.false_or, Bool.or_true, Bool.or_false, cond_true, cond_false, eq_self, if_true, if_false, ite_true, ite_false] <;> first | done | rfl
    exact aw_bret C (b := false) hr hlk dX2_readBell_14 rfl ⟨rb (by rw [hm]), (nmT f n (nx f n p) q), by rw [hm], by rw [hm]; exact nmT_2⟩
abbrev r_X2_readItem : Room := { frames := 6, cells := 0, slots := 0, locals := 132 }
theorem cv_X2_readItem : cV yX2_readItem cX2_readItem 3 (some .boolean) 1 := ⟨k3_43, k0_14, k3_44, k1_4, by decide, by decide, by decide +kernel⟩
set_option maxHeartbeats 4000000 in
set_option maxRecDepth 100000 in
theorem c_X2_readItem (l : Launch) (D : va_G) (cI cC : ClassId) (adK adV : Nat → Nat) (h b hT : Nat) (aT : Nat → Nat) (f : Nat → Int32) (n p : Nat) (q : Int32) (T : Tw)  (hp : p ≤ n) (hn : n ≤ 120) (hq : tkI f n p = 2 → q = nmV f n p) (h8 : T.1 ≤ 8)  : FC l yX2_readItem (wW yX2_readItem cX2_readItem 3 (some .boolean)) r_X2_readItem D (tyC cI cC) adK adV (wTp cI h b f n (tkI f n p) p (tkE f n p) q ++ wTo cI hT aT T) [.ref h, .ref hT] 0 0 (pTp cI h b hT aT f n (rdItem f n T p)) := by
  refine FC.of (own := RX2) (by decide) rfl (Nat.le_of_ble_eq_true rfl) ?_
  intro p9 e9 s9 m9 args9 below9 meth9 c9 A9 C hr hlk hmn
  show AW p9 l e9 r_X2_readItem s9 m9 args9 below9 meth9 c9 D A9 3 0 0 _ 0 [(0, .ref h), (1, .ref hT)] [] _
  refine aw_aload_n C dX2_readItem_0 rfl ?_
  refine aw_callVp C (As := []) (c_X2_kindOfWord l D cI cC adK adV h b f n p q hp hn) k3_45 cv_X2_kindOfWord 0 1 rfl rfl rfl [0, 1] (by decide) rfl ⟨by decide, by decide⟩ rfl rfl ⟨by decide, by decide⟩ rfl rfl (Nat.le_of_ble_eq_true rfl) dX2_readItem_1 ?_
  refine aw_istore_n C true (lv' := [(0, .ref h), (1, .ref hT), (2, .int (kW f n p))]) dX2_readItem_4 (by decide) rfl rfl ?_
  refine aw_iload_n C dX2_readItem_5 rfl ?_
  refine aw_iconst C (-1 : Int32) dX2_readItem_6 (by decide) ?_
  refine aw_icmp_eq C 17 dX2_readItem_7 (by decide) (fun c_7 => ?_) (fun c_7 => ?_)
  · skip
    refine aw_aload_n C dX2_readItem_17 rfl ?_
    refine aw_ldcK C (i := 7) (by decide) rfl rfl dX2_readItem_18 ?_
    refine aw_callVp C (As := [.ref (adK 7)]) (c_X2_isWordS l D cI cC adK adV h b f n p q 7 (by decide) hp hn) k3_50 cv_X2_isWordS 0 1 rfl rfl rfl [0, 1] (by decide) rfl ⟨by decide, by decide⟩ rfl rfl ⟨by decide, by decide⟩ rfl rfl (Nat.le_of_ble_eq_true rfl) dX2_readItem_20 ?_
    refine aw_pc 23 rfl ?_
    refine aw_ifeq_b C 32 dX2_readItem_23 (by decide) (fun c_23 => ?_) (fun c_23 => ?_)
    · skip
      refine aw_aload_n C dX2_readItem_32 rfl ?_
      refine aw_ldcK C (i := 8) (by decide) rfl rfl dX2_readItem_33 ?_
      refine aw_callVp C (As := [.ref (adK 8)]) (c_X2_isWordS l D cI cC adK adV h b f n p q 8 (by decide) hp hn) k3_50 cv_X2_isWordS 0 1 rfl rfl rfl [0, 1] (by decide) rfl ⟨by decide, by decide⟩ rfl rfl ⟨by decide, by decide⟩ rfl rfl (Nat.le_of_ble_eq_true rfl) dX2_readItem_35 ?_
      refine aw_ifeq_b C 53 dX2_readItem_38 (by decide) (fun c_38 => ?_) (fun c_38 => ?_)
      · skip
        refine aw_iconst C (0 : Int32) dX2_readItem_53 (by decide) ?_
        have hm : (rdItem f n T p) = (false, T, p) := by simp only [rdItem, decide_eq_true c_7, c_23, c_38, decide_true, decide_false, Bool.not_true, Bool.not_false, Bool.true_and, Bool.false_and, Bool.and_true, Bool.and_false, Bool.true_or, Bool.false_or, Bool.or_true, Bool.or_false, cond_true, cond_false, eq_self, if_true, if_false, ite_true, ite_false]
        exact aw_bret C (b := false) hr hlk dX2_readItem_54 rfl ⟨rb (by rw [hm]), q, by rw [hm], by rw [hm]; exact hq⟩
      · skip
        refine aw_aload_n C dX2_readItem_41 rfl ?_
        refine aw_aload_n C dX2_readItem_42 rfl ?_
        obtain ⟨M1, hM1⟩ : ∃ z9, z9 = ((rdBell f n T p)) := ⟨_, rfl⟩
        refine aw_callV C (As := [.ref hT]) (pTp_any (c_X2_readBell l D cI cC adK adV h b hT aT f n p q T  hp hn hq h8 ) hM1) k3_133 cv_X2_readBell 0 1 rfl rfl rfl [0, 1, 2, 3, 4, 5, 6, 7, 8, 9, 10] (by decide) rfl (wr := ([] : va_W)) [] rfl (by decide) (by decide) ⟨by decide, by decide⟩ rfl rfl ⟨by decide, by decide⟩ rfl rfl (Nat.le_of_ble_eq_true rfl) dX2_readItem_43 ?_
        rintro _ _ ⟨rfl, q1, rfl, hq1⟩
        refine aw_eq (lv' := [(0, .ref h), (1, .ref hT), (2, .int (kW f n p))]) (st' := [.int (b2 M1.1)]) (ws' := wTp cI h b f n (tkI f n M1.2.2) M1.2.2 (tkE f n M1.2.2) q1 ++ wTo cI hT aT M1.2.1) rfl rfl rfl ?_
        refine aw_pc 46 rfl ?_
        refine aw_ifeq_b C 53 dX2_readItem_46 (by decide) (fun c_46 => ?_) (fun c_46 => ?_)
        · skip
          refine aw_iconst C (0 : Int32) dX2_readItem_53 (by decide) ?_
          have hm : (rdItem f n T p) = (false, M1.2.1, M1.2.2) := by refine Eq.trans (show rdItem f n T p = rdBell f n T p by rw [rdItem, decide_eq_true c_7, cond_true, c_23, cond_false, c_38, cond_true]) ?_; rw [← hM1, ← c_46]
          exact aw_bret C (b := false) hr hlk dX2_readItem_54 rfl ⟨rb (by rw [hm]), q1, by rw [hm], by rw [hm]; exact hq1⟩
        · skip
          refine aw_iconst C (1 : Int32) dX2_readItem_49 (by decide) ?_
          refine aw_goto C 54 dX2_readItem_50 (by decide) ?_
          have hm : (rdItem f n T p) = (true, M1.2.1, M1.2.2) := by refine Eq.trans (show rdItem f n T p = rdBell f n T p by rw [rdItem, decide_eq_true c_7, cond_true, c_23, cond_false, c_38, cond_true]) ?_; rw [← hM1, ← c_46]
          exact aw_bret C (b := true) hr hlk dX2_readItem_54 rfl ⟨rb (by rw [hm]), q1, by rw [hm], by rw [hm]; exact hq1⟩
    · skip
      refine aw_aload_n C dX2_readItem_26 rfl ?_
      refine aw_aload_n C dX2_readItem_27 rfl ?_
      obtain ⟨M2, hM2⟩ : ∃ z9, z9 = ((rdMet f n T p)) := ⟨_, rfl⟩
      refine aw_callV C (As := [.ref hT]) (pTp_any (c_X2_readMet l D cI cC adK adV h b hT aT f n p q T  hp hn hq h8 ) hM2) k3_123 cv_X2_readMet 0 1 rfl rfl rfl [0, 1, 2, 3, 4, 5, 6, 7, 8, 9, 10] (by decide) rfl (wr := ([] : va_W)) [] rfl (by decide) (by decide) ⟨by decide, by decide⟩ rfl rfl ⟨by decide, by decide⟩ rfl rfl (Nat.le_of_ble_eq_true rfl) dX2_readItem_28 ?_
      rintro _ _ ⟨rfl, q2, rfl, hq2⟩
      refine aw_eq (lv' := [(0, .ref h), (1, .ref hT), (2, .int (kW f n p))]) (st' := [.int (b2 M2.1)]) (ws' := wTp cI h b f n (tkI f n M2.2.2) M2.2.2 (tkE f n M2.2.2) q2 ++ wTo cI hT aT M2.2.1) rfl rfl rfl ?_
      have hm : (rdItem f n T p) = (M2.1, M2.2.1, M2.2.2) := by exact Eq.trans (show rdItem f n T p = rdMet f n T p by rw [rdItem, decide_eq_true c_7, cond_true, c_23, cond_true]) hM2.symm
      exact aw_bret C (b := M2.1) hr hlk dX2_readItem_31 rfl ⟨rb (by rw [hm]), q2, by rw [hm], by rw [hm]; exact hq2⟩
  · skip
    refine aw_pc 10 rfl ?_
    refine aw_aload_n C dX2_readItem_10 rfl ?_
    refine aw_iload_n C dX2_readItem_11 rfl ?_
    refine aw_aload_n C dX2_readItem_12 rfl ?_
    obtain ⟨M3, hM3⟩ : ∃ z9, z9 = ((rdOne f n (kW f n p) T p)) := ⟨_, rfl⟩
    refine aw_callV C (As := [.int (kW f n p), .ref hT]) (pTp_any (c_X2_readOne l D cI cC adK adV h b hT aT f n p q T (kW f n p) hp hn hq h8 ) hM3) k3_108 cv_X2_readOne 0 1 rfl rfl rfl [0, 1, 2, 3, 4, 5, 6, 7, 8, 9, 10] (by decide) rfl (wr := ([] : va_W)) [] rfl (by decide) (by decide) ⟨by decide, by decide⟩ rfl rfl ⟨by decide, by decide⟩ rfl rfl (Nat.le_of_ble_eq_true rfl) dX2_readItem_13 ?_
    rintro _ _ ⟨rfl, q3, rfl, hq3⟩
    refine aw_eq (lv' := [(0, .ref h), (1, .ref hT), (2, .int (kW f n p))]) (st' := [.int (b2 M3.1)]) (ws' := wTp cI h b f n (tkI f n M3.2.2) M3.2.2 (tkE f n M3.2.2) q3 ++ wTo cI hT aT M3.2.1) rfl rfl rfl ?_
    have hm : (rdItem f n T p) = (M3.1, M3.2.1, M3.2.2) := by exact Eq.trans (show rdItem f n T p = rdOne f n (kW f n p) T p by rw [rdItem, decide_eq_false c_7, cond_false]) hM3.symm
    exact aw_bret C (b := M3.1) hr hlk dX2_readItem_16 rfl ⟨rb (by rw [hm]), q3, by rw [hm], by rw [hm]; exact hq3⟩
