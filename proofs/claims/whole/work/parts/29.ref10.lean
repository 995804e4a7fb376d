/-! the reference: whose light to put out; JOY never falls -/
theorem itr_j {f : Nat → Tw → Tw} {m : Nat} {T : Tw} (hn : ∀ p U, (f p U).1 = U.1) (h : ∀ p U, p < m → gOk U → U.1 = T.1 → gOk (f p U) ∧ U.2.1 3 ≤ (f p U).2.1 3) (hT : gOk T) : ∀ i, i ≤ m → gOk (itr f i T) ∧ T.2.1 3 ≤ (itr f i T).2.1 3
  | 0, _ => ⟨hT, Int32.le_refl _⟩
  | i + 1, hi => by
    have r := itr_j hn h hT i (by omega)
    have s := h i _ (by omega) r.1 (itr_n hn T i)
    exact ⟨s.1, Int32.le_trans r.2 s.2⟩
theorem goes_j (U : Tw) (b : Bool) (p : Nat) : (tGoes U b p).2.1 3 = U.2.1 3 := by cases b <;> rfl
theorem meets_j (U : Tw) (p q : Nat) : (tMeets U p q).2.1 3 = U.2.1 3 := by unfold tMeets; cases tMind U p _ <;> rfl
theorem ctk_j {T : Tw} {p q : Nat} (h : gOk T) : T.2.1 3 ≤ (tCtk T p q).2.1 3 := by
  unfold tCtk
  cases tKno T p q
  · show T.2.1 3 ≤ mn 99999 (T.2.1 3 + tGlad T p)
    obtain ⟨a, ha, ea⟩ := h.j
    obtain ⟨g, hg, eg⟩ : rgO (tGlad T p) 1000 := rg_glad (rg_bc (h.f 4 (by decide) p))
    rw [ea, eg, nI_add, show (99999 : Int32) = nI 99999 from rfl, min_nI (by omega) (by omega)]
    exact nI_le (by omega) (by omega)
  · exact Int32.le_refl _
theorem bare_j {T : Tw} {p q : Nat} (h : gOk T) (hp : p < T.1) (hq : q < T.1) : T.2.1 3 ≤ (tBare T p q).2.1 3 := by
  unfold tBare
  cases tSee T p q
  · exact Int32.le_refl _
  · cases tMut T 3 p q
    · exact Int32.le_refl _
    · exact Int32.le_trans (ctk_j h) (ctk_j (ctk_ok h hp hq))
theorem pair_j {T : Tw} {b : Bool} {p q : Nat} (h : gOk T) (hp : p < T.1) (hq : q < T.1) : T.2.1 3 ≤ (tPair b p q T).2.1 3 := by
  unfold tPair
  cases b
  · cases decide (T.2.2.1 1 p = T.2.2.1 1 q)
    · exact Int32.le_refl _
    · show T.2.1 3 ≤ (tMingle T p q).2.1 3
      unfold tMingle
      rw [meets_j, meets_j]
      exact Int32.le_refl _
  · exact bare_j h hp hq
theorem row_j {T : Tw} {b : Bool} {n p j : Nat} (h : gOk T) (hp : p + 1 + j ≤ T.1) : T.2.1 3 ≤ (tRow b n p j T).2.1 3 :=
  (itr_j (m := j) (fun _ _ => pair_n _ _ _ _) (fun i U hi hU e => ⟨pair_ok hU (by omega) (by omega), pair_j hU (by omega) (by omega)⟩) h j (Nat.le_refl _)).2
theorem rows_j {T : Tw} {b : Bool} {n : Nat} (h : gOk T) (e : T.1 = n) (i : Nat) (hi : i ≤ n) : T.2.1 3 ≤ (itr (fun p U => tRow b n p (n - (p + 1)) U) i T).2.1 3 :=
  (itr_j (m := n) (fun _ _ => row_n _ _ _ _ _) (fun p U hp hU e2 => ⟨row_ok hU (by omega), row_j hU (by omega)⟩) h i hi).2
theorem walk_j {T : Tw} {b : Bool} : ∀ i, (itr (fun p U => tGoes U b p) i T).2.1 3 = T.2.1 3
  | 0 => rfl
  | i + 1 => (goes_j _ _ _).trans (walk_j i)
theorem day_j {T : Tw} (h : gOk T) : T.2.1 3 ≤ (tDay T).2.1 3 := by
  have e := itr_n (f := fun p U => tGoes U (mBare (T.2.1 0)) p) (fun _ _ => goes_n _ _ _) T T.1
  have h2 := rows_j (b := mBare (T.2.1 0)) (walk_ok (b := mBare (T.2.1 0)) h _ (Nat.le_refl _)) e T.1 (Nat.le_refl _)
  rw [walk_j] at h2
  exact h2
theorem days_j {T : Tw} (h : gOk T) (i : Nat) : ∀ d, (tDays i T).2.1 3 ≤ (tDays (i + d) T).2.1 3
  | 0 => Int32.le_refl _
  | d + 1 => Int32.le_trans (days_j h i d) (day_j (days_ok h (i + d)))
theorem putOut_j (T : Tw) (x : Int32) : (tPutOut T x).2.1 3 = T.2.1 3 := by
  have h : ∀ i, (itr (fun p U => bif hol x (nI p) then sP U 5 p 1 else U) i T).2.1 3 = T.2.1 3 := by
    intro i
    induction i with
    | zero => rfl
    | succ i ih =>
      refine Eq.trans ?_ ih
      rw [itr_s]
      cases hol x (nI i) <;> rfl
  exact h T.1
theorem fst9_or {c : Nat → Bool} : ∀ n, (fst9 c n = n ∧ ∀ i, i < n → c i = false) ∨ (fst9 c n < n ∧ c (fst9 c n) = true ∧ ∀ i, i < fst9 c n → c i = false)
  | 0 => Or.inl ⟨rfl, fun i h => absurd h (Nat.not_lt_zero i)⟩
  | n + 1 => by
    rcases fst9_or (c := c) n with ⟨e, h⟩ | ⟨h1, h2, h3⟩
    · cases hc : c n with
      | false =>
        exact Or.inl ⟨fst9_none (all_s h hc), all_s h hc⟩
      | true =>
        have e2 : fst9 c (n + 1) = n := fst9_at h hc (Nat.lt_succ_self n)
        exact Or.inr ⟨by omega, by rw [e2]; exact hc, by rw [e2]; exact h⟩
    · have e2 : fst9 c (n + 1) = fst9 c n := fst9_at h3 h2 (by omega)
      exact Or.inr ⟨by omega, by rw [e2]; exact h2, by rw [e2]; exact h3⟩
def dkOk (T : Tw) (k x : Nat) : Bool := decide ((tDays k (tPutOut T (nI x))).2.1 3 = T.2.1 3)
theorem stay_ok {T : Tw} (h : gOk T) (k x : Nat) : mStay T (nI x) k = dkOk T k x := by
  unfold mStay dkOk
  rcases fst9_or (c := fun i => !decide ((tDays i (tPutOut T (nI x))).2.1 3 = T.2.1 3)) k with ⟨e, _⟩ | ⟨h1, h2, _⟩
  · have e : sJ T (nI x) k = k := e
    rw [e]
  · have h1 : sJ T (nI x) k < k := h1
    have h2 : (!decide ((tDays (sJ T (nI x) k) (tPutOut T (nI x))).2.1 3 = T.2.1 3)) = true := h2
    have n2 : ¬ (tDays (sJ T (nI x) k) (tPutOut T (nI x))).2.1 3 = T.2.1 3 := by
      intro z
      rw [decide_eq_true z] at h2
      exact absurd h2 Bool.false_ne_true
    rw [decide_eq_false n2]
    refine (decide_eq_false ?_).symm
    intro z
    have o := putOut_ok h (nI x)
    have a := days_j o 0 (sJ T (nI x) k)
    have b := days_j o (sJ T (nI x) k) (k - sJ T (nI x) k)
    rw [show sJ T (nI x) k + (k - sJ T (nI x) k) = k by omega, z] at b
    rw [Nat.zero_add] at a
    have a : (tPutOut T (nI x)).2.1 3 ≤ (tDays (sJ T (nI x) k) (tPutOut T (nI x))).2.1 3 := a
    rw [putOut_j] at a
    exact n2 (Int32.le_antisymm b a)
def bcN (x : Nat) : Nat := (bcE (nI x)).toNatClampNeg
theorem bcN_e {x : Nat} (h : x < 256) : bcE (nI x) = nI (bcN x) := (bc_all x h).1
theorem bcN_9 {x : Nat} (h : x < 256) : bcN x < 9 := (bc_all x h).2
theorem bcN_le : ∀ n, n < 9 → ∀ x, x < 2 ^ n → bcN x ≤ n := by decide +kernel
theorem bcN_lt {x z : Nat} (hx : x < 256) (hz : z < 256) : decide (bcE (nI x) < bcE (nI z)) = decide (bcN x < bcN z) := by
  rw [bcN_e hx, bcN_e hz]
  have := bcN_9 hx
  have := bcN_9 hz
  exact propext_dec (nI_ltI (by omega) (by omega))
def dkB (T : Tw) (k : Nat) : Nat → Nat
  | 0 => 2 ^ T.1
  | i + 1 => bif (decide (dkB T k i = 2 ^ T.1) || decide (bcE (nI i) < bcE (nI (dkB T k i)))) && dkOk T k i then i else dkB T k i
def bv (T : Tw) (b : Nat) : Int32 := if b < 2 ^ T.1 then nI b else -1
theorem dkB_s (T : Tw) (k i : Nat) : dkB T k (i + 1) = bif (decide (dkB T k i = 2 ^ T.1) || decide (bcE (nI i) < bcE (nI (dkB T k i)))) && dkOk T k i then i else dkB T k i := rfl
theorem dkB_inv {T : Tw} (h8 : T.1 ≤ 8) (k : Nat) : ∀ i, i ≤ 2 ^ T.1 → (dkB T k i = 2 ^ T.1 ∧ ∀ x, x < i → dkOk T k x = false) ∨ (dkB T k i < i ∧ dkOk T k (dkB T k i) = true ∧ ∀ x, x < i → dkOk T k x = true → bcN (dkB T k i) ≤ bcN x ∧ (bcN x = bcN (dkB T k i) → dkB T k i ≤ x))
  | 0, _ => Or.inl ⟨rfl, fun x hx => absurd hx (Nat.not_lt_zero x)⟩
  | i + 1, hi => by
    have pw := pow_le h8
    rcases dkB_inv h8 k i (by omega) with ⟨e, h⟩ | ⟨h1, h2, h3⟩
    · rw [dkB_s, decide_eq_true e, Bool.true_or, Bool.true_and]
      cases hc : dkOk T k i with
      | false => exact Or.inl ⟨e, all_s h hc⟩
      | true =>
        refine Or.inr ⟨Nat.lt_succ_self i, hc, fun x hx hk => ?_⟩
        by_cases q : x = i
        · subst q; exact ⟨Nat.le_refl _, fun _ => Nat.le_refl _⟩
        · rw [h x (by omega)] at hk; exact absurd hk Bool.false_ne_true
    · rw [dkB_s, decide_eq_false (by omega), Bool.false_or, bcN_lt (by omega) (by omega)]
      cases hc : dkOk T k i with
      | false =>
        rw [Bool.and_false]
        refine Or.inr ⟨by show dkB T k i < i + 1; omega, h2, fun x hx hk => ?_⟩
        by_cases q : x = i
        · subst q; rw [hc] at hk; exact absurd hk Bool.false_ne_true
        · exact h3 x (by omega) hk
      | true =>
        by_cases q : bcN i < bcN (dkB T k i)
        · rw [decide_eq_true q]
          refine Or.inr ⟨Nat.lt_succ_self i, hc, fun x hx hk => ?_⟩
          show bcN i ≤ bcN x ∧ (bcN x = bcN i → i ≤ x)
          by_cases q2 : x = i
          · subst q2; exact ⟨Nat.le_refl _, fun _ => Nat.le_refl _⟩
          · have := (h3 x (by omega) hk).1
            exact ⟨by omega, fun z => by omega⟩
        · rw [decide_eq_false q]
          refine Or.inr ⟨by show dkB T k i < i + 1; omega, h2, fun x hx hk => ?_⟩
          show bcN (dkB T k i) ≤ bcN x ∧ (bcN x = bcN (dkB T k i) → dkB T k i ≤ x)
          by_cases q2 : x = i
          · subst q2; exact ⟨by omega, fun _ => by omega⟩
          · exact h3 x (by omega) hk
theorem dkB_le {T : Tw} (h8 : T.1 ≤ 8) (k i : Nat) (hi : i ≤ 2 ^ T.1) : dkB T k i ≤ 2 ^ T.1 := by
  rcases dkB_inv h8 k i hi with ⟨e, _⟩ | ⟨h1, _, _⟩ <;> omega
theorem bv_n {T : Tw} {b : Nat} (h8 : T.1 ≤ 8) (hb : b ≤ 2 ^ T.1) (h : bv T b < 0) : b = 2 ^ T.1 := by
  have pw := pow_le h8
  rcases Nat.lt_or_ge b (2 ^ T.1) with q | q
  · unfold bv at h
    rw [if_pos q] at h
    exact absurd h (nI_pos (by omega))
  · omega
theorem bv_y {T : Tw} {b : Nat} (h : ¬ bv T b < 0) : b < 2 ^ T.1 ∧ bv T b = nI b := by
  unfold bv at h ⊢
  by_cases q : b < 2 ^ T.1
  · exact ⟨q, if_pos q⟩
  · rw [if_neg q] at h
    exact absurd (by decide) h
theorem bv_e {T : Tw} {b : Nat} (q : b < 2 ^ T.1) : bv T b = nI b := if_pos q
theorem dk_1 {T : Tw} {k i : Nat} (b9 : dkB T k i = 2 ^ T.1) (e : (tDays k (tPutOut T (nI i))).2.1 3 = T.2.1 3) (hi : i < 2 ^ T.1) : bv T (dkB T k (i + 1)) = nI i := by
  rw [dkB_s, decide_eq_true b9, show dkOk T k i = true from decide_eq_true e]
  exact bv_e hi
theorem dk_2 {T : Tw} {k i : Nat} (e : ¬ (tDays k (tPutOut T (nI i))).2.1 3 = T.2.1 3) : bv T (dkB T k (i + 1)) = bv T (dkB T k i) := by
  rw [dkB_s, show dkOk T k i = false from decide_eq_false e, Bool.and_false]
  rfl
theorem dk_3 {T : Tw} {k i : Nat} (b8 : dkB T k i < 2 ^ T.1) (c : bcE (nI (dkB T k i)) ≤ bcE (nI i)) : bv T (dkB T k (i + 1)) = nI (dkB T k i) := by
  rw [dkB_s, decide_eq_false (by omega), decide_eq_false (Int32.not_lt.mpr c)]
  exact bv_e b8
theorem dk_4 {T : Tw} {k i : Nat} (c : ¬ bcE (nI (dkB T k i)) ≤ bcE (nI i)) (e : (tDays k (tPutOut T (nI i))).2.1 3 = T.2.1 3) (hi : i < 2 ^ T.1) : bv T (dkB T k (i + 1)) = nI i := by
  rw [dkB_s, show dkOk T k i = true from decide_eq_true e, decide_eq_true (Int32.not_le.mp c), Bool.or_true]
  exact bv_e hi
theorem dk_5 {T : Tw} {k i : Nat} (b8 : dkB T k i < 2 ^ T.1) (e : ¬ (tDays k (tPutOut T (nI i))).2.1 3 = T.2.1 3) : bv T (dkB T k (i + 1)) = nI (dkB T k i) := by
  rw [dk_2 e]
  exact bv_e b8
theorem dkC_e {T : Tw} (h : gOk T) (k sz x : Nat) (hx : x < 256) (hs : sz < 256) : dkC T k sz x = (decide (bcN x = sz) && dkOk T k x) := by
  unfold dkC
  rw [stay_ok h, bcN_e hx]
  congr 1
  have := bcN_9 hx
  refine propext_dec ⟨fun z => ?_, fun z => by rw [z]⟩
  have z2 := congrArg (fun q : Int32 => q.toNatClampNeg) z
  have z2 : ix (nI (bcN x)) = ix (nI sz) := z2
  rw [ix_nI (by omega), ix_nI (by omega)] at z2
  exact z2
theorem dk_some {T : Tw} (h : gOk T) (k : Nat) (hb : dkB T k (2 ^ T.1) < 2 ^ T.1) : dkS T k < T.1 + 1 ∧ dkR T k (dkS T k) = dkB T k (2 ^ T.1) := by
  have pw := pow_le h.n
  have hn := h.n
  rcases dkB_inv h.n k (2 ^ T.1) (Nat.le_refl _) with ⟨e, _⟩ | ⟨h1, h2, h3⟩
  · omega
  · have l1 := bcN_le T.1 (by omega) _ hb
    have r1 : dkR T k (bcN (dkB T k (2 ^ T.1))) = dkB T k (2 ^ T.1) := by
      refine fst9_at (fun x hx => ?_) ?_ hb
      · rw [dkC_e h _ _ _ (by omega) (by omega)]
        cases hc : dkOk T k x with
        | false => exact Bool.and_false _
        | true =>
          have := (h3 x (by omega) hc).2
          rw [decide_eq_false (fun z => by have := this z; omega)]
          rfl
      · rw [dkC_e h _ _ _ (by omega) (by omega), h2, decide_eq_true rfl]
        rfl
    have r2 : dkS T k = bcN (dkB T k (2 ^ T.1)) := by
      refine fst9_at (fun sz hs => ?_) ?_ (by omega)
      · have e : dkR T k sz = 2 ^ T.1 := by
          refine fst9_none (fun x hx => ?_)
          rw [dkC_e h _ _ _ (by omega) (by omega)]
          cases hc : dkOk T k x with
          | false => exact Bool.and_false _
          | true =>
            have := (h3 x (by omega) hc).1
            rw [decide_eq_false (by omega)]
            rfl
        rw [e]
        exact decide_eq_false (Nat.lt_irrefl _)
      · rw [r1]
        exact decide_eq_true hb
    exact ⟨by omega, by rw [r2]; exact r1⟩
theorem dk_none {T : Tw} (h : gOk T) (k : Nat) (hb : dkB T k (2 ^ T.1) = 2 ^ T.1) : dkS T k = T.1 + 1 := by
  have pw := pow_le h.n
  have hn := h.n
  rcases dkB_inv h.n k (2 ^ T.1) (Nat.le_refl _) with ⟨_, h1⟩ | ⟨h1, _, _⟩
  · refine fst9_none (fun sz hs => ?_)
    have e : dkR T k sz = 2 ^ T.1 := by
      refine fst9_none (fun x hx => ?_)
      rw [dkC_e h _ _ _ (by omega) (by omega), h1 x hx, Bool.and_false]
    rw [e]
    exact decide_eq_false (Nat.lt_irrefl _)
  · omega
theorem dark_y {G : Sg} {k : Int32} (h : gOk G.1) (hk : (!decide (k < 0) && decide (k ≤ 24)) = true) (c : 0 ≤ bv G.1 (dkB G.1 (ix k) (2 ^ G.1.1))) : m_dark G k = (bv G.1 (dkB G.1 (ix k) (2 ^ G.1.1)), G) := by
  obtain ⟨b8, b9⟩ := bv_y (Int32.not_lt.mpr c)
  obtain ⟨h1, h2⟩ := dk_some h (ix k) b8
  unfold m_dark
  rw [hk, decide_eq_true h1, h2, b9]
  rfl
theorem dark_n {G : Sg} {k : Int32} (h : gOk G.1) (hk : (!decide (k < 0) && decide (k ≤ 24)) = true) (c : ¬ 0 ≤ bv G.1 (dkB G.1 (ix k) (2 ^ G.1.1))) : m_dark G k = gno G 3 := by
  have e := bv_n h.n (dkB_le h.n _ _ (Nat.le_refl _)) (Int32.not_le.mp c)
  unfold m_dark
  rw [hk, dk_none h (ix k) e, decide_eq_false (Nat.lt_irrefl _)]
  rfl

abbrev r_X5_dark : Room := { frames := 7, cells := 0, slots := 0, locals := 157 }
theorem cv_X5_dark : cV yX5_dark cX5_dark 5 (some .int) 1 := ⟨k5_36, k5_37, k5_38, k1_6, by decide, by decide, by decide +kernel⟩
set_option maxHeartbeats 4000000 in
set_option maxRecDepth 100000 in
theorem c_X5_dark (l : Launch) (D : va_G) (cI cC : ClassId) (adK adV : Nat → Nat) (y : Nat → Nat) (T K : Tw) (ik : Bool) (F f : Nat → Int32) (n : Nat) (s1 s2 s3 kr ar : Nat → Int32) (tk : Int32) (bg en : Nat) (vl : Int64) (cr : Nat → Int32) (hk : ik = true → kr = rowOf K) (ho : gOk T) (k : Int32) : FC l yX5_dark (wW yX5_dark cX5_dark 5 (some .int)) r_X5_dark D (tyC cI cC) adK adV (wMo cI cC y (rowOf T) (kr, ar, ik, F, f, n, tk, bg, en, vl, s1, s2, s3, cr)) [.ref (y 0), .int k] 0 0 (pMo cI cC y (m_dark (T, K, ik, F, f, n, s1, s2, s3) k)) := by
  refine FC.of (own := RX5) (by decide) rfl (Nat.le_of_ble_eq_true rfl) ?_
  intro p9 e9 s9 m9 args9 below9 meth9 c9 A9 C hr hlk hmn
  show AW p9 l e9 r_X5_dark s9 m9 args9 below9 meth9 c9 D A9 5 0 0 _ 0 [(0, .ref (y 0)), (1, .int k)] [] _
  have hn := ho.n
  refine aw_iload_n C dX5_dark_0 rfl ?_
  refine aw_iconst C (0 : Int32) dX5_dark_1 (by decide) ?_
  refine aw_bipush C (24 : Int32) dX5_dark_2 (by decide) ?_
  refine aw_callSp C (As := [.int k, .int (0 : Int32), .int (24 : Int32)]) (c_X5_in1 l D cI cC adK adV k (0 : Int32) (24 : Int32)) k4_54 cs_X5_in1 [] (by decide) rfl ⟨by decide, by decide⟩ rfl rfl ⟨by decide, by decide⟩ rfl rfl (Nat.le_of_ble_eq_true rfl) dX5_dark_4 ?_
  refine aw_top (y := b2 (!decide (k < (0 : Int32)) && decide (k ≤ (24 : Int32)))) (by exact congrArg b2 (inL_le _ _ _)) ?_
  refine aw_ifne_b C 16 dX5_dark_7 (by decide) (fun c_7 => ?_) (fun c_7 => ?_)
  · skip
    have l1 : ix k ≤ 24 := le_b c_7 (le_0 c_7) (by decide)
    have pw := pow_le hn
    have pz := pow_pos9 T.1
    have e1 : k = nI (ix k) := ix_eq (le_0 c_7)
    refine aw_eq (lv' := [(0, .ref (y 0)), (1, .int (nI (ix k)))]) (ws' := wMo cI cC y (rowOf T) (kr, ar, ik, F, f, n, tk, bg, en, vl, s1, s2, s3, cr)) (by rw [← e1]) rfl rfl ?_
    refine aw_iconst C (-1 : Int32) dX5_dark_16 (by decide) ?_
    refine aw_istore_n C true (lv' := [(0, .ref (y 0)), (1, .int (nI (ix k))), (2, .int (-1 : Int32))]) dX5_dark_17 (by decide) rfl rfl ?_
    refine aw_iconst C (0 : Int32) dX5_dark_18 (by decide) ?_
    refine aw_istore_n C true (lv' := [(0, .ref (y 0)), (1, .int (nI (ix k))), (2, .int (-1 : Int32)), (3, .int (0 : Int32))]) dX5_dark_19 (by decide) rfl rfl ?_
    refine aw_eq (lv' := [(0, .ref (y 0)), (1, .int (nI (ix k))), (2, .int (bv T (dkB T (ix k) 0))), (3, .int (nI 0))]) (ws' := wMo cI cC y (rowOf T) (kr, ar, ik, F, f, n, tk, bg, en, vl, s1, s2, s3, cr)) (by rw [show bv T (dkB T (ix k) 0) = -1 from if_neg (Nat.lt_irrefl _)]; rfl) rfl (by rfl) ?_
    refine aw_loopE (σ := Nat → Int32) (LV := fun i a9 => [(0, .ref (y 0)), (1, .int (nI (ix k))), (2, .int (bv T (dkB T (ix k) i))), (3, .int (nI i))]) (WS := fun i a9 => wMo cI cC y (rowOf T) (kr, a9, ik, F, f, n, tk, bg, en, vl, s1, s2, s3, cr)) (2 ^ T.1) (Inv := fun _ _ => True) trivial ?_ ?_
    · intro a9 hv20
      refine aw_pc 20 rfl ?_
      refine aw_iload_n C dX5_dark_20 rfl ?_
      refine aw_iconst C (1 : Int32) dX5_dark_21 (by decide) ?_
      refine aw_aload_n C dX5_dark_22 rfl ?_
      refine aw_getf C 0 4 0 18 inX5 rfl (by decide) rfl k3_234 rfl rfl dX5_dark_23 ?_
      refine aw_iconst C (1 : Int32) dX5_dark_26 (by decide) ?_
      refine aw_ialdN C 1 0 1 rfl rfl rfl (by decide) (by decide) dX5_dark_27 ?_
      refine aw_top (y := (nI T.1)) rfl ?_
      refine aw_ishl C dX5_dark_28 ?_
      refine aw_top (y := (nI (2 ^ T.1))) (by exact pow_bit T.1 (by omega)) ?_
      refine aw_icmp_ge C 86 dX5_dark_29 (by decide) (fun c_29 => ?_) (fun c_29 => absurd c_29 (fun z => z (Int32.le_refl _)))
      refine aw_iload_n C dX5_dark_86 rfl ?_
      refine aw_if_ge C 98 dX5_dark_87 (by decide) (fun c_87 => ?_) (fun c_87 => ?_)
      · skip
        refine aw_pc 98 rfl ?_
        refine aw_iload_n C dX5_dark_98 rfl ?_
        have hm : m_dark (T, K, ik, F, f, n, s1, s2, s3) k = ((bv T (dkB T (ix k) (2 ^ T.1))), (T, K, ik, F, f, n, s1, s2, s3)) := by first | exact dark_y ho c_7 c_87 | exact dark_n ho c_7 c_87
        exact aw_iret C hr hlk dX5_dark_99 ⟨ri (by rw [hm]), kr, a9, tk, bg, en, vl, cr, by first | (rw [hm]; done) | (rw [hm]; rfl), by rw [hm]; exact hk⟩
      · skip
        refine aw_aload_n C dX5_dark_90 rfl ?_
        refine aw_iconst C (3 : Int32) dX5_dark_91 (by decide) ?_
        refine aw_callVd C (As := [.int (3 : Int32)]) (c_X5_no l D cI cC adK adV y T (kr, a9, ik, F, f, n, tk, bg, en, vl, s1, s2, s3, cr) 3 (by decide)) k4_60 cv_X5_no 0 4 rfl rfl rfl [0, 1, 2, 3, 4, 5, 6, 7, 8, 9, 10, 11, 12] (by decide) rfl (wr := ([] : va_W)) [] rfl (by decide) (by decide) [0, 1, 2, 3, 4, 5, 6, 7, 8, 9, 10, 11, 12] (by decide) (ws' := wMo cI cC y (rowOf T) (kr, a9, ik, (upd F 3 (F 3 + 1)), f, n, tk, bg, en, vl, s1, s2, s3, cr)) rfl ⟨by decide, by decide⟩ rfl rfl ⟨by decide, by decide⟩ rfl rfl (Nat.le_of_ble_eq_true rfl) dX5_dark_92 ?_
        refine aw_goto C 99 dX5_dark_95 (by decide) ?_
        have hm : m_dark (T, K, ik, F, f, n, s1, s2, s3) k = ((fno 3), (T, K, ik, (upd F 3 (F 3 + 1)), f, n, s1, s2, s3)) := by first | exact dark_y ho c_7 c_87 | exact dark_n ho c_7 c_87
        exact aw_iret C hr hlk dX5_dark_99 ⟨ri (by rw [hm]), kr, a9, tk, bg, en, vl, cr, by first | (rw [hm]; done) | (rw [hm]; rfl), by rw [hm]; exact hk⟩
    · intro i a9 hi20 hv20 ih20
      refine aw_iload_n C dX5_dark_20 rfl ?_
      refine aw_iconst C (1 : Int32) dX5_dark_21 (by decide) ?_
      refine aw_aload_n C dX5_dark_22 rfl ?_
      refine aw_pc 23 rfl ?_
      refine aw_getf C 0 4 0 18 inX5 rfl (by decide) rfl k3_234 rfl rfl dX5_dark_23 ?_
      refine aw_iconst C (1 : Int32) dX5_dark_26 (by decide) ?_
      refine aw_ialdN C 1 0 1 rfl rfl rfl (by decide) (by decide) dX5_dark_27 ?_
      refine aw_top (y := (nI T.1)) rfl ?_
      refine aw_ishl C dX5_dark_28 ?_
      refine aw_top (y := (nI (2 ^ T.1))) (by exact pow_bit T.1 (by omega)) ?_
      refine aw_icmp_ge C 86 dX5_dark_29 (by decide) (fun c_29 => absurd c_29 (nI_ge hi20 (by omega))) (fun c_29 => ?_)
      refine aw_iload_n C dX5_dark_32 rfl ?_
      refine aw_if_lt C 47 dX5_dark_33 (by decide) (fun c_33 => ?_) (fun c_33 => ?_)
      · skip
        have b9 := bv_n hn (dkB_le hn _ _ (Nat.le_of_lt hi20)) c_33
        refine aw_iconst C (1 : Int32) dX5_dark_47 (by decide) ?_
        refine aw_goto C 52 dX5_dark_48 (by decide) ?_
        refine aw_istore C true (lv' := [(0, .ref (y 0)), (1, .int (nI (ix k))), (2, .int (bv T (dkB T (ix k) i))), (3, .int (nI i)), (4, .int (1 : Int32))]) dX5_dark_52 (by decide) rfl rfl ?_
        refine aw_pc 54 rfl ?_
        refine aw_iload C dX5_dark_54 rfl ?_
        refine aw_if_eq C 78 dX5_dark_56 (by decide) (fun c_56 => absurd c_56 (by decide)) (fun c_56 => ?_)
        refine aw_aload_n C dX5_dark_59 rfl ?_
        refine aw_iload_n C dX5_dark_60 rfl ?_
        refine aw_iload_n C dX5_dark_61 rfl ?_
        refine aw_callVd C (As := [.int (nI i), .int (nI (ix k))]) (c_X5_joyWith l D cI cC adK adV y T (kr, a9, ik, F, f, n, tk, bg, en, vl, s1, s2, s3, cr) (nI i) (ix k) ho (by omega)) k5_39 cv_X5_joyWith 0 4 rfl rfl rfl [0, 1, 2, 3, 4, 5, 6, 7, 8, 9, 10, 11, 12] (by decide) rfl (wr := ([] : va_W)) [] rfl (by decide) (by decide) [0, 1, 2, 3, 4, 5, 6, 7, 8, 9, 10, 11, 12] (by decide) (ws' := wMo cI cC y (rowOf T) (kr, (rowOf T), ik, F, f, n, tk, bg, en, vl, s1, s2, s3, cr)) rfl ⟨by decide, by decide⟩ rfl rfl ⟨by decide, by decide⟩ rfl rfl (Nat.le_of_ble_eq_true rfl) dX5_dark_62 ?_
        refine aw_aload_n C dX5_dark_65 rfl ?_
        refine aw_getf C 0 4 0 18 inX5 rfl (by decide) rfl k3_234 rfl rfl dX5_dark_66 ?_
        refine aw_iconst C (3 : Int32) dX5_dark_69 (by decide) ?_
        refine aw_ialdN C 1 0 3 rfl rfl rfl (by decide) (by decide) dX5_dark_70 ?_
        refine aw_top (y := (T.2.1 3)) rfl ?_
        refine aw_pc 71 rfl ?_
        refine aw_icmp_ne C 78 dX5_dark_71 (by decide) (fun c_71 => ?_) (fun c_71 => ?_)
        · skip
          refine aw_iload_n C dX5_dark_78 rfl ?_
          refine aw_istore_n C false (lv' := [(0, .ref (y 0)), (1, .int (nI (ix k))), (2, .int (bv T (dkB T (ix k) i))), (3, .int (nI i)), (4, .int (1 : Int32))]) dX5_dark_79 (by decide) rfl rfl ?_
          refine aw_iinc C (nI (i + 1)) dX5_dark_80 rfl (inc_nI _ 1) (by decide) rfl (lv' := [(0, .ref (y 0)), (1, .int (nI (ix k))), (2, .int (bv T (dkB T (ix k) i))), (3, .int (nI (i + 1))), (4, .int (1 : Int32))]) rfl ?_
          refine aw_goto C 20 dX5_dark_83 (by decide) ?_
          refine aw_sub (lv' := [(0, .ref (y 0)), (1, .int (nI (ix k))), (2, .int (bv T (dkB T (ix k) i))), (3, .int (nI (i + 1)))]) [0, 1, 2, 3] rfl ?_
          exact aw_eq (by first | rw [dk_1 b9 c_71 hi20] | rw [dk_3 b8 c_44] | rw [dk_4 c_44 c_71 hi20] | rw [dk_5 b8 c_71] | rw [dk_2 c_71]) rfl (by first | rfl | (simp only [itr, c_7, c_33, c_71] <;> first | done | rfl)) (ih20 (rowOf T) trivial)
        · skip
          refine aw_iload_n C dX5_dark_74 rfl ?_
          refine aw_goto C 79 dX5_dark_75 (by decide) ?_
          refine aw_istore_n C false (lv' := [(0, .ref (y 0)), (1, .int (nI (ix k))), (2, .int (nI i)), (3, .int (nI i)), (4, .int (1 : Int32))]) dX5_dark_79 (by decide) rfl rfl ?_
          refine aw_iinc C (nI (i + 1)) dX5_dark_80 rfl (inc_nI _ 1) (by decide) rfl (lv' := [(0, .ref (y 0)), (1, .int (nI (ix k))), (2, .int (nI i)), (3, .int (nI (i + 1))), (4, .int (1 : Int32))]) rfl ?_
          refine aw_goto C 20 dX5_dark_83 (by decide) ?_
          refine aw_sub (lv' := [(0, .ref (y 0)), (1, .int (nI (ix k))), (2, .int (nI i)), (3, .int (nI (i + 1)))]) [0, 1, 2, 3] rfl ?_
          exact aw_eq (by first | rw [dk_1 b9 c_71 hi20] | rw [dk_3 b8 c_44] | rw [dk_4 c_44 c_71 hi20] | rw [dk_5 b8 c_71] | rw [dk_2 c_71]) rfl (by first | rfl | (simp only [itr, c_7, c_33, c_71] <;> first | done | rfl)) (ih20 (rowOf T) trivial)
      · skip
        obtain ⟨b8, b9⟩ := bv_y c_33
        refine aw_eq (lv' := [(0, .ref (y 0)), (1, .int (nI (ix k))), (2, .int (nI (dkB T (ix k) i))), (3, .int (nI i))]) (ws' := wMo cI cC y (rowOf T) (kr, a9, ik, F, f, n, tk, bg, en, vl, s1, s2, s3, cr)) (by rw [b9]) rfl rfl ?_
        refine aw_pc 36 rfl ?_
        refine aw_iload_n C dX5_dark_36 rfl ?_
        refine aw_callSp C (As := [.int (nI i)]) (c_X5_bits_r l D cI cC adK adV (nI i) ⟨_, by omega, rfl⟩) k4_105 cs_X5_bits_r [] (by decide) rfl ⟨by decide, by decide⟩ rfl rfl ⟨by decide, by decide⟩ rfl rfl (Nat.le_of_ble_eq_true rfl) dX5_dark_37 ?_
        refine aw_iload_n C dX5_dark_40 rfl ?_
        refine aw_callSp C (As := [.int (nI (dkB T (ix k) i))]) (c_X5_bits_r l D cI cC adK adV (nI (dkB T (ix k) i)) ⟨_, by omega, rfl⟩) k4_105 cs_X5_bits_r [] (by decide) rfl ⟨by decide, by decide⟩ rfl rfl ⟨by decide, by decide⟩ rfl rfl (Nat.le_of_ble_eq_true rfl) dX5_dark_41 ?_
        refine aw_icmp_ge C 51 dX5_dark_44 (by decide) (fun c_44 => ?_) (fun c_44 => ?_)
        · skip
          refine aw_iconst C (0 : Int32) dX5_dark_51 (by decide) ?_
          refine aw_istore C true (lv' := [(0, .ref (y 0)), (1, .int (nI (ix k))), (2, .int (nI (dkB T (ix k) i))), (3, .int (nI i)), (4, .int (0 : Int32))]) dX5_dark_52 (by decide) rfl rfl ?_
          refine aw_iload C dX5_dark_54 rfl ?_
          refine aw_if_eq C 78 dX5_dark_56 (by decide) (fun c_56 => ?_) (fun c_56 => absurd c_56 (by decide))
          refine aw_iload_n C dX5_dark_78 rfl ?_
          refine aw_pc 79 rfl ?_
          refine aw_istore_n C false (lv' := [(0, .ref (y 0)), (1, .int (nI (ix k))), (2, .int (nI (dkB T (ix k) i))), (3, .int (nI i)), (4, .int (0 : Int32))]) dX5_dark_79 (by decide) rfl rfl ?_
          refine aw_iinc C (nI (i + 1)) dX5_dark_80 rfl (inc_nI _ 1) (by decide) rfl (lv' := [(0, .ref (y 0)), (1, .int (nI (ix k))), (2, .int (nI (dkB T (ix k) i))), (3, .int (nI (i + 1))), (4, .int (0 : Int32))]) rfl ?_
          refine aw_goto C 20 dX5_dark_83 (by decide) ?_
          refine aw_sub (lv' := [(0, .ref (y 0)), (1, .int (nI (ix k))), (2, .int (nI (dkB T (ix k) i))), (3, .int (nI (i + 1)))]) [0, 1, 2, 3] rfl ?_
          exact aw_eq (by first | rw [dk_1 b9 c_71 hi20] | rw [dk_3 b8 c_44] | rw [dk_4 c_44 c_71 hi20] | rw [dk_5 b8 c_71] | rw [dk_2 c_71]) rfl (by first | rfl | (simp only [itr, c_7, c_33, c_44] <;> first | done | rfl)) (ih20 a9 trivial)
        · skip
          refine aw_iconst C (1 : Int32) dX5_dark_47 (by decide) ?_
          refine aw_goto C 52 dX5_dark_48 (by decide) ?_
          refine aw_istore C true (lv' := [(0, .ref (y 0)), (1, .int (nI (ix k))), (2, .int (nI (dkB T (ix k) i))), (3, .int (nI i)), (4, .int (1 : Int32))]) dX5_dark_52 (by decide) rfl rfl ?_
          refine aw_iload C dX5_dark_54 rfl ?_
          refine aw_if_eq C 78 dX5_dark_56 (by decide) (fun c_56 => absurd c_56 (by decide)) (fun c_56 => ?_)
          refine aw_aload_n C dX5_dark_59 rfl ?_
          refine aw_iload_n C dX5_dark_60 rfl ?_
          refine aw_pc 61 rfl ?_
          refine aw_iload_n C dX5_dark_61 rfl ?_
          refine aw_callVd C (As := [.int (nI i), .int (nI (ix k))]) (c_X5_joyWith l D cI cC adK adV y T (kr, a9, ik, F, f, n, tk, bg, en, vl, s1, s2, s3, cr) (nI i) (ix k) ho (by omega)) k5_39 cv_X5_joyWith 0 4 rfl rfl rfl [0, 1, 2, 3, 4, 5, 6, 7, 8, 9, 10, 11, 12] (by decide) rfl (wr := ([] : va_W)) [] rfl (by decide) (by decide) [0, 1, 2, 3, 4, 5, 6, 7, 8, 9, 10, 11, 12] (by decide) (ws' := wMo cI cC y (rowOf T) (kr, (rowOf T), ik, F, f, n, tk, bg, en, vl, s1, s2, s3, cr)) rfl ⟨by decide, by decide⟩ rfl rfl ⟨by decide, by decide⟩ rfl rfl (Nat.le_of_ble_eq_true rfl) dX5_dark_62 ?_
          refine aw_aload_n C dX5_dark_65 rfl ?_
          refine aw_getf C 0 4 0 18 inX5 rfl (by decide) rfl k3_234 rfl rfl dX5_dark_66 ?_
          refine aw_iconst C (3 : Int32) dX5_dark_69 (by decide) ?_
          refine aw_ialdN C 1 0 3 rfl rfl rfl (by decide) (by decide) dX5_dark_70 ?_
          refine aw_top (y := (T.2.1 3)) rfl ?_
          refine aw_icmp_ne C 78 dX5_dark_71 (by decide) (fun c_71 => ?_) (fun c_71 => ?_)
          · skip
            refine aw_iload_n C dX5_dark_78 rfl ?_
            refine aw_istore_n C false (lv' := [(0, .ref (y 0)), (1, .int (nI (ix k))), (2, .int (nI (dkB T (ix k) i))), (3, .int (nI i)), (4, .int (1 : Int32))]) dX5_dark_79 (by decide) rfl rfl ?_
            refine aw_iinc C (nI (i + 1)) dX5_dark_80 rfl (inc_nI _ 1) (by decide) rfl (lv' := [(0, .ref (y 0)), (1, .int (nI (ix k))), (2, .int (nI (dkB T (ix k) i))), (3, .int (nI (i + 1))), (4, .int (1 : Int32))]) rfl ?_
            refine aw_pc 83 rfl ?_
            refine aw_goto C 20 dX5_dark_83 (by decide) ?_
            refine aw_sub (lv' := [(0, .ref (y 0)), (1, .int (nI (ix k))), (2, .int (nI (dkB T (ix k) i))), (3, .int (nI (i + 1)))]) [0, 1, 2, 3] rfl ?_
            exact aw_eq (by first | rw [dk_1 b9 c_71 hi20] | rw [dk_3 b8 c_44] | rw [dk_4 c_44 c_71 hi20] | rw [dk_5 b8 c_71] | rw [dk_2 c_71]) rfl (by first | rfl | (simp only [itr, c_7, c_33, c_44, c_71] <;> first | done | rfl)) (ih20 (rowOf T) trivial)
          · skip
            refine aw_iload_n C dX5_dark_74 rfl ?_
            refine aw_goto C 79 dX5_dark_75 (by decide) ?_
            refine aw_istore_n C false (lv' := [(0, .ref (y 0)), (1, .int (nI (ix k))), (2, .int (nI i)), (3, .int (nI i)), (4, .int (1 : Int32))]) dX5_dark_79 (by decide) rfl rfl ?_
            refine aw_iinc C (nI (i + 1)) dX5_dark_80 rfl (inc_nI _ 1) (by decide) rfl (lv' := [(0, .ref (y 0)), (1, .int (nI (ix k))), (2, .int (nI i)), (3, .int (nI (i + 1))), (4, .int (1 : Int32))]) rfl ?_
            refine aw_goto C 20 dX5_dark_83 (by decide) ?_
            refine aw_sub (lv' := [(0, .ref (y 0)), (1, .int (nI (ix k))), (2, .int (nI i)), (3, .int (nI (i + 1)))]) [0, 1, 2, 3] rfl ?_
            exact aw_eq (by first | rw [dk_1 b9 c_71 hi20] | rw [dk_3 b8 c_44] | rw [dk_4 c_44 c_71 hi20] | rw [dk_5 b8 c_71] | rw [dk_2 c_71]) rfl (by first | rfl | (simp only [itr, c_7, c_33, c_44, c_71] <;> first | done | rfl)) (ih20 (rowOf T) trivial)
  · skip
    refine aw_aload_n C dX5_dark_10 rfl ?_
    refine aw_iconst C (0 : Int32) dX5_dark_11 (by decide) ?_
    refine aw_callVd C (As := [.int (0 : Int32)]) (c_X5_no l D cI cC adK adV y T (kr, ar, ik, F, f, n, tk, bg, en, vl, s1, s2, s3, cr) 0 (by decide)) k4_60 cv_X5_no 0 4 rfl rfl rfl [0, 1, 2, 3, 4, 5, 6, 7, 8, 9, 10, 11, 12] (by decide) rfl (wr := ([] : va_W)) [] rfl (by decide) (by decide) [0, 1, 2, 3, 4, 5, 6, 7, 8, 9, 10, 11, 12] (by decide) (ws' := wMo cI cC y (rowOf T) (kr, ar, ik, (upd F 0 (F 0 + 1)), f, n, tk, bg, en, vl, s1, s2, s3, cr)) rfl ⟨by decide, by decide⟩ rfl rfl ⟨by decide, by decide⟩ rfl rfl (Nat.le_of_ble_eq_true rfl) dX5_dark_12 ?_
    have hm : m_dark (T, K, ik, F, f, n, s1, s2, s3) k = ((fno 0), (T, K, ik, (upd F 0 (F 0 + 1)), f, n, s1, s2, s3)) := by simp only [m_dark, c_7, decide_true, decide_false, Bool.not_true, Bool.not_false, Bool.true_and, Bool.false_and, Bool.and_true, Bool.and_false, Bool.true_or, Bool.false_or, Bool.or_true, Bool.or_false, cond_true, cond_false, eq_self, if_true, if_false, ite_true, ite_false] <;> rfl
    exact aw_iret C hr hlk dX5_dark_15 ⟨ri (by rw [hm]), kr, ar, tk, bg, en, vl, cr, by first | (rw [hm]; done) | (rw [hm]; rfl), by rw [hm]; exact hk⟩
