/-! the reference: words by their value, numbers -/
theorem isL_nI {x : Int32} (h : isL x = true) : ∃ c, 97 ≤ c ∧ c ≤ 122 ∧ x = nI c := by
  unfold isL at h
  obtain ⟨h1, h2⟩ := and_2 h
  have h1 : ¬ x < 97 := by simpa using h1
  have h2 : ¬ 122 < x := by simpa using h2
  obtain ⟨c, hc, ec⟩ := nI_of (x := x) (fun z => h1 (Int32.lt_trans z (by decide)))
  rw [ec] at h1 h2
  exact ⟨c, Nat.le_of_not_lt (fun z => h1 (nI_lt z (by decide))), (nI_leI hc (by decide)).mp (Int32.not_lt.mp h2), ec⟩
theorem isD_nI {x : Int32} (h : isD x = true) : ∃ c, 48 ≤ c ∧ c ≤ 57 ∧ x = nI c := by
  unfold isD at h
  obtain ⟨h1, h2⟩ := and_2 h
  have h1 : ¬ x < 48 := by simpa using h1
  have h2 : ¬ 57 < x := by simpa using h2
  obtain ⟨c, hc, ec⟩ := nI_of (x := x) (fun z => h1 (Int32.lt_trans z (by decide)))
  rw [ec] at h1 h2
  exact ⟨c, Nat.le_of_not_lt (fun z => h1 (nI_lt z (by decide))), (nI_leI hc (by decide)).mp (Int32.not_lt.mp h2), ec⟩
def dgN (x : Int32) : Nat := ix x - 96
theorem dgN_L {x : Int32} (h : isL x = true) : 1 ≤ dgN x ∧ dgN x ≤ 26 ∧ x = nI (dgN x + 96) := by
  obtain ⟨c, h1, h2, e⟩ := isL_nI h
  have q : dgN x = c - 96 := by unfold dgN; rw [e, ix_nI (by omega)]
  refine ⟨by omega, by omega, ?_⟩
  rw [q, show c - 96 + 96 = c by omega]
  exact e
def wN (f : Nat → Int32) (b : Nat) : Nat → Nat
  | 0 => 0
  | j + 1 => if 9999999999999 < wN f b j then wN f b j else wN f b j * 27 + dgN (f (b + j))
theorem wN_s (f : Nat → Int32) (b j : Nat) : wN f b (j + 1) = if 9999999999999 < wN f b j then wN f b j else wN f b j * 27 + dgN (f (b + j)) := rfl
theorem wN_lt {f : Nat → Int32} {b : Nat} : ∀ j, (∀ k, k < j → isL (f (b + k)) = true) → wN f b j < 300000000000000
  | 0, _ => Nat.zero_lt_succ _
  | j + 1, h => by
    have ih := wN_lt j (fun k hk => h k (by omega))
    obtain ⟨d1, d2, _⟩ := dgN_L (h j (by omega))
    rw [wN_s]
    by_cases q : 9999999999999 < wN f b j
    · rw [if_pos q]; exact ih
    · rw [if_neg q]; omega
theorem wN_pos {f : Nat → Int32} {b : Nat} : ∀ j, 0 < j → (∀ k, k < j → isL (f (b + k)) = true) → 0 < wN f b j
  | 0, h, _ => absurd h (Nat.lt_irrefl 0)
  | j + 1, _, h => by
    obtain ⟨d1, d2, _⟩ := dgN_L (h j (by omega))
    rw [wN_s]
    by_cases q : 9999999999999 < wN f b j
    · rw [if_pos q]; omega
    · rw [if_neg q]; omega
theorem vw_N {f : Nat → Int32} {b : Nat} : ∀ j, (∀ k, k < j → isL (f (b + k)) = true) → vwI f b j = lN (wN f b j)
  | 0, _ => rfl
  | j + 1, h => by
    have ih := vw_N j (fun k hk => h k (by omega))
    have hl := wN_lt j (fun k hk => h k (by omega))
    obtain ⟨d1, d2, e⟩ := dgN_L (h j (by omega))
    show (bif decide (9999999999999 < vwI f b j) then vwI f b j else vwI f b j * 27 + (f (b + j)).toInt64 - 96) = _
    rw [ih, wN_s]
    have c : decide ((9999999999999 : Int64) < lN (wN f b j)) = decide (9999999999999 < wN f b j) := propext_dec (pk_lLT (a := 9999999999999) (by decide) (by omega))
    rw [c]
    by_cases q : 9999999999999 < wN f b j
    · rw [decide_eq_true q, if_pos q]; rfl
    · rw [decide_eq_false q, if_neg q, cond_false]
      generalize hd : dgN (f (b + j)) = dd at *
      rw [e, nI_l (by omega), show (27 : Int64) = lN 27 from rfl, lN_mul, lN_add, show (96 : Int64) = lN 96 from rfl, lN_sub (by omega)]
      congr 1
def wvN (k : Nat) : Nat → Nat
  | 0 => 0
  | j + 1 => wvN k j * 27 + dgN ((bytJ.getD k []).getD j 0)
theorem wvN_s (k j : Nat) : wvN k (j + 1) = wvN k j * 27 + dgN ((bytJ.getD k []).getD j 0) := rfl
theorem wv_d : ∀ k, k < 12 → ∀ j, j < lenJ.getD k 0 → 1 ≤ dgN ((bytJ.getD k []).getD j 0) ∧ dgN ((bytJ.getD k []).getD j 0) ≤ 26 ∧ (bytJ.getD k []).getD j 0 = nI (dgN ((bytJ.getD k []).getD j 0) + 96) := by decide +kernel
theorem wv_l : ∀ k, k < 12 → ∀ m, m < 10 → m ≤ lenJ.getD k 0 → wvN k m < 9999999999999 := by decide +kernel
theorem wn_key {f : Nat → Int32} {b k : Nat} (hk : k < 12) : ∀ m, m ≤ lenJ.getD k 0 → ∀ L, (∀ j, j < L → isL (f (b + j)) = true) → wN f b L = wvN k m → L = m ∧ ∀ j, j < m → f (b + j) = (bytJ.getD k []).getD j 0
  | 0, _, L, h, e => by
    rcases Nat.eq_zero_or_pos L with q | q
    · exact ⟨q, fun j hj => absurd hj (Nat.not_lt_zero j)⟩
    · have := wN_pos L q h
      rw [e] at this
      exact absurd this (Nat.lt_irrefl 0)
  | m + 1, hm, L, h, e => by
    have hl := lenJ_lt k hk
    obtain ⟨d1, d2, d3⟩ := wv_d k hk m (by omega)
    have lim := wv_l k hk (m + 1) (by omega) hm
    cases L with
    | zero =>
      have e : 0 = wvN k (m + 1) := e
      rw [wvN_s] at e
      omega
    | succ L =>
      obtain ⟨c1, c2, c3⟩ := dgN_L (h L (by omega))
      rw [wN_s] at e
      by_cases q : 9999999999999 < wN f b L
      · rw [if_pos q] at e; omega
      · rw [if_neg q, wvN_s] at e
        have hw1 : wN f b L = wvN k m := by omega
        have hw2 : dgN (f (b + L)) = dgN ((bytJ.getD k []).getD m 0) := by omega
        obtain ⟨i1, i2⟩ := wn_key hk m (by omega) L (fun j hj => h j (by omega)) hw1
        refine ⟨by omega, fun j hj => ?_⟩
        by_cases q2 : j = m
        · rw [q2, show b + m = b + L by omega, c3, hw2]
          exact d3.symm
        · exact i2 j (by omega)
theorem wn_conv {f : Nat → Int32} {b k : Nat} (hk : k < 12) : ∀ m, m ≤ lenJ.getD k 0 → (∀ j, j < m → f (b + j) = (bytJ.getD k []).getD j 0) → wN f b m = wvN k m
  | 0, _, _ => rfl
  | m + 1, hm, h => by
    have hl := lenJ_lt k hk
    have ih := wn_conv hk m (by omega) (fun j hj => h j (by omega))
    have lim := wv_l k hk m (by omega) (by omega)
    rw [wN_s, ih, if_neg (by omega), h m (by omega), wvN_s]
theorem wIs_N {f : Nat → Int32} {b e k : Nat} (hk : k < 12) (h : ∀ j, j < e - b → isL (f (b + j)) = true) : wIs f b e k = decide (wN f b (e - b) = wvN k (lenJ.getD k 0)) := by
  by_cases q : wN f b (e - b) = wvN k (lenJ.getD k 0)
  · obtain ⟨i1, i2⟩ := wn_key hk _ (Nat.le_refl _) _ h q
    unfold wIs
    rw [decide_eq_true i1, decide_eq_true q, allB_iff.mpr (fun j hj => decide_eq_true (i2 j hj))]
    rfl
  · rw [decide_eq_false q]
    cases c : wIs f b e k with
    | false => rfl
    | true =>
      exfalso
      unfold wIs at c
      obtain ⟨c1, c2⟩ := and_2 c
      have c1 := of_decide_eq_true c1
      have c2 := allB_iff.mp c2
      apply q
      rw [c1]
      exact wn_conv hk _ (Nat.le_refl _) (fun j hj => of_decide_eq_true (c2 j hj))
theorem tkI_1 {f : Nat → Int32} {n p : Nat} (h : tkI f n p = 1) : decide (n ≤ p) = false ∧ isL (f p) = true := by
  unfold tkI at h
  cases h1 : decide (n ≤ p) <;> rw [h1] at h
  · cases h2 : isL (f p) <;> rw [h2] at h
    · cases h3 : isD (f p) <;> rw [h3] at h
      · cases h4 : decide (f p = 59) <;> rw [h4] at h <;> exact absurd h (by decide)
      · exact absurd (show (2 : Int32) = 1 from h) (by decide)
    · exact ⟨rfl, rfl⟩
  · exact absurd (show (0 : Int32) = 1 from h) (by decide)
theorem tkI_2 {f : Nat → Int32} {n p : Nat} (h : tkI f n p = 2) : decide (n ≤ p) = false ∧ isL (f p) = false ∧ isD (f p) = true := by
  unfold tkI at h
  cases h1 : decide (n ≤ p) <;> rw [h1] at h
  · cases h2 : isL (f p) <;> rw [h2] at h
    · cases h3 : isD (f p) <;> rw [h3] at h
      · cases h4 : decide (f p = 59) <;> rw [h4] at h <;> exact absurd h (by decide)
      · exact ⟨rfl, rfl, rfl⟩
    · exact absurd (show (1 : Int32) = 2 from h) (by decide)
  · exact absurd (show (0 : Int32) = 2 from h) (by decide)
/-- the reference's token beside the class's: a number above 999 is none -/
theorem tkR_e (f : Nat → Int32) (n p : Nat) : tkR f n p = tkI f n p ∨ (tkI f n p = 2 ∧ tkR f n p = 4 ∧ 999 < vdI f p (runD f n p - p)) := by
  unfold tkR tkI
  cases decide (n ≤ p)
  · cases isL (f p)
    · cases isD (f p)
      · exact Or.inl rfl
      · by_cases q : 999 < vdI f p (runD f n p - p)
        · rw [decide_eq_true q]
          exact Or.inr ⟨rfl, rfl, q⟩
        · rw [decide_eq_false q]
          exact Or.inl rfl
    · exact Or.inl rfl
  · exact Or.inl rfl
theorem tkR_1 {f : Nat → Int32} {n p : Nat} : tkR f n p = 1 ↔ tkI f n p = 1 := by
  rcases tkR_e f n p with e | ⟨e1, e2, _⟩
  · rw [e]
  · rw [e1, e2]; decide
theorem tkR_0 {f : Nat → Int32} {n p : Nat} : tkR f n p = 0 ↔ tkI f n p = 0 := by
  rcases tkR_e f n p with e | ⟨e1, e2, _⟩
  · rw [e]
  · rw [e1, e2]; decide
theorem tkR_3 {f : Nat → Int32} {n p : Nat} : tkR f n p = 3 ↔ tkI f n p = 3 := by
  rcases tkR_e f n p with e | ⟨e1, e2, _⟩
  · rw [e]
  · rw [e1, e2]; decide
theorem letters {f : Nat → Int32} {n p : Nat} : ∀ j, j < runL f n p - p → isL (f (p + j)) = true := by
  intro j hj
  unfold runL at hj
  rw [Nat.add_sub_cancel_left] at hj
  have h : (!isL (f (p + j))) = false := fst9_all (c := fun j => !isL (f (p + j))) j hj
  cases q : isL (f (p + j)) with
  | true => rfl
  | false => rw [q] at h; exact absurd h (by decide)
theorem digits {f : Nat → Int32} {n p : Nat} : ∀ j, j < runD f n p - p → isD (f (p + j)) = true := by
  intro j hj
  unfold runD at hj
  rw [Nat.add_sub_cancel_left] at hj
  have h : (!isD (f (p + j))) = false := fst9_all (c := fun j => !isD (f (p + j))) j hj
  cases q : isD (f (p + j)) with
  | true => rfl
  | false => rw [q] at h; exact absurd h (by decide)
theorem wK_v {f : Nat → Int32} {n p k : Nat} (hk : k < 12) (h : tkI f n p = 1) : wK f n p k = decide (lN (wvN k (lenJ.getD k 0)) = vlR f n p) := by
  obtain ⟨d0, d1⟩ := tkI_1 h
  obtain ⟨_, a2, a3⟩ := st_L d0 d1
  have hl := lenJ_lt k hk
  have lim := wv_l k hk (lenJ.getD k 0) (by omega) (Nat.le_refl _)
  have lw := wN_lt _ (letters (f := f) (n := n) (p := p))
  unfold wK
  rw [decide_eq_true h, Bool.true_and, a2, wIs_N hk letters, a3, vw_N _ letters]
  refine propext_dec (Iff.trans ?_ (pk_lEQ (by omega) (by omega)).symm)
  exact eq_comm
theorem wK_n {f : Nat → Int32} {n p k : Nat} (h : ¬ tkI f n p = 1) : wK f n p k = false := by
  unfold wK
  rw [decide_eq_false h, Bool.false_and]
theorem wB_u : ∀ i, i < 12 → ∀ j, j < 12 → lenJ.getD i 0 = lenJ.getD j 0 → (∀ t, t < lenJ.getD i 0 → (bytJ.getD i []).getD t 0 = (bytJ.getD j []).getD t 0) → i = j := by decide +kernel
theorem wK_u {f : Nat → Int32} {n p i j : Nat} (hi : i < 12) (hj : j < 12) (h1 : wK f n p i = true) (h2 : wK f n p j = true) : i = j := by
  obtain ⟨_, h1⟩ := and_2 h1
  obtain ⟨_, h2⟩ := and_2 h2
  obtain ⟨a1, a2⟩ := and_2 h1
  obtain ⟨b1, b2⟩ := and_2 h2
  have a1 := of_decide_eq_true a1
  have b1 := of_decide_eq_true b1
  refine wB_u i hi j hj (a1.symm.trans b1) (fun t ht => ?_)
  have q1 := of_decide_eq_true (allB_iff.mp a2 t ht)
  have q2 := of_decide_eq_true (allB_iff.mp b2 t (by omega))
  exact q1.symm.trans q2
def wvF (arr : Nat → Int32) (w k : Nat) : Int64 := itr (fun k v => bif decide (arr (9 * w + k) = 32) then v else v * 27 + (arr (9 * w + k)).toInt64 - 96) k 0
theorem wv_b {arr : Nat → Int32} {w k : Nat} (h : arr (9 * w + k) = 32) : wvF arr w (k + 1) = wvF arr w k := by
  show (bif decide (arr (9 * w + k) = 32) then _ else _) = _
  rw [decide_eq_true h]
  rfl
theorem wv_n {arr : Nat → Int32} {w k : Nat} (h : ¬ arr (9 * w + k) = 32) : wvF arr w (k + 1) = wvF arr w k * 27 + (arr (9 * w + k)).toInt64 - 96 := by
  show (bif decide (arr (9 * w + k) = 32) then _ else _) = _
  rw [decide_eq_false h]
  rfl
theorem wt_l : ∀ w, w < 7 → wvF lettersF w 9 = lN (wvN (0 + w) (lenJ.getD (0 + w) 0)) := by decide +kernel
theorem wt_m : ∀ w, w < 3 → wvF moreF w 9 = lN (wvN (9 + w) (lenJ.getD (9 + w) 0)) := by decide +kernel
theorem wt_o : ∀ w, w < 2 → wvF othersF w 9 = lN (wvN (7 + w) (lenJ.getD (7 + w) 0)) := by decide +kernel
theorem w9_ix (i j : Nat) : (9 : Int32) * nI i + nI j = nI (9 * i + j) := by
  rw [show (9 : Int32) = nI 9 from rfl, pk_mul, nI_add]
/-- which of m words from k0 on stands here -/
def wWord (f : Nat → Int32) (n p k0 m : Nat) : Int32 := itr (fun w x => bif wK f n p (k0 + w) then nI w else x) m (-1)
theorem wW_s (f : Nat → Int32) (n p k0 m : Nat) : wWord f n p k0 (m + 1) = bif wK f n p (k0 + m) then nI m else wWord f n p k0 m := rfl
theorem wW_no {f : Nat → Int32} {n p k0 : Nat} : ∀ m, (∀ w, w < m → wK f n p (k0 + w) = false) → wWord f n p k0 m = -1
  | 0, _ => rfl
  | m + 1, h => by rw [wW_s, h m (by omega), cond_false, wW_no m (fun w hw => h w (by omega))]
theorem wW_at {f : Nat → Int32} {n p k0 w : Nat} (h : wK f n p (k0 + w) = true) : ∀ m, w < m → k0 + m ≤ 12 → wWord f n p k0 m = nI w
  | 0, hw, _ => absurd hw (Nat.not_lt_zero w)
  | m + 1, hw, hm => by
    rw [wW_s]
    by_cases e : w = m
    · rw [← e, h, cond_true]
    · cases c : wK f n p (k0 + m) with
      | true => exact absurd (wK_u (by omega) (by omega) h c) (by omega)
      | false => rw [cond_false, wW_at h m (by omega) (by omega)]
theorem wW_iff {f : Nat → Int32} {n p k0 m w : Nat} (hw : w < m) (hm : k0 + m ≤ 12) : wWord f n p k0 m = nI w ↔ wK f n p (k0 + w) = true := by
  refine ⟨fun h => ?_, fun h => wW_at h m hw hm⟩
  rcases fst9_or (c := fun w => wK f n p (k0 + w)) m with ⟨_, h2⟩ | ⟨h1, h2, _⟩
  · rw [wW_no m h2] at h
    have := nI_pos' (n := w) (by omega)
    rw [← h] at this
    exact absurd this (by decide)
  · rw [wW_at h2 m h1 hm] at h
    rw [← nI_eqn (by omega) (by omega) h]
    exact h2
theorem wW_f {f : Nat → Int32} {n p k0 m w : Nat} (hw : w < m) (hm : k0 + m ≤ 12) (h : ¬ wWord f n p k0 m = nI w) : wK f n p (k0 + w) = false := by
  cases c : wK f n p (k0 + w) with
  | false => rfl
  | true => exact absurd ((wW_iff hw hm).mpr c) h
theorem wW_neg {f : Nat → Int32} {n p k0 m : Nat} (hm : k0 + m ≤ 12) (h : wWord f n p k0 m < 0) : wWord f n p k0 m = -1 := by
  rcases fst9_or (c := fun w => wK f n p (k0 + w)) m with ⟨_, h2⟩ | ⟨h1, h2, _⟩
  · exact wW_no m h2
  · rw [wW_at h2 m h1 hm] at h
    exact absurd h (nI_pos (by omega))
theorem kW_e (f : Nat → Int32) (n p : Nat) : kW f n p = wWord f n p 0 7 := by
  rcases fst9_or (c := fun w => wK f n p (0 + w)) 7 with ⟨_, h2⟩ | ⟨h1, h2, h3⟩
  · rw [wW_no 7 h2]
    unfold kW
    rw [show wK f n p 0 = false from h2 0 (by decide), show wK f n p 1 = false from h2 1 (by decide), show wK f n p 2 = false from h2 2 (by decide), show wK f n p 3 = false from h2 3 (by decide), show wK f n p 4 = false from h2 4 (by decide), show wK f n p 5 = false from h2 5 (by decide), show wK f n p 6 = false from h2 6 (by decide)]
    rfl
  · rw [wW_at h2 7 h1 (by decide)]
    generalize fst9 (fun w => wK f n p (0 + w)) 7 = w at h1 h2 h3
    have h3 : ∀ i, i < w → wK f n p i = false := fun i hi => by have := h3 i hi; rwa [Nat.zero_add] at this
    rw [Nat.zero_add] at h2
    unfold kW
    rcases (by omega : w = 0 ∨ w = 1 ∨ w = 2 ∨ w = 3 ∨ w = 4 ∨ w = 5 ∨ w = 6) with q | q | q | q | q | q | q <;> subst q
    · rw [h2]; rfl
    · rw [h3 0 (by decide), h2]; rfl
    · rw [h3 0 (by decide), h3 1 (by decide), h2]; rfl
    · rw [h3 0 (by decide), h3 1 (by decide), h3 2 (by decide), h2]; rfl
    · rw [h3 0 (by decide), h3 1 (by decide), h3 2 (by decide), h3 3 (by decide), h2]; rfl
    · rw [h3 0 (by decide), h3 1 (by decide), h3 2 (by decide), h3 3 (by decide), h3 4 (by decide), h2]; rfl
    · rw [h3 0 (by decide), h3 1 (by decide), h3 2 (by decide), h3 3 (by decide), h3 4 (by decide), h3 5 (by decide), h2]; rfl
def wOi (arr : Nat → Int32) (V : Int64) (i : Nat) : Int32 := itr (fun w x => bif decide (wvF arr w 9 = V) then nI w else x) i (-1)
theorem wO_y {arr : Nat → Int32} {V : Int64} {i : Nat} (h : lg_cmp (wvF arr i 9) V = 0) : wOi arr V (i + 1) = nI i := by
  show (bif decide (wvF arr i 9 = V) then nI i else _) = _
  rw [decide_eq_true ((lg_cmp_eq _ _).mp h)]
  rfl
theorem wO_n {arr : Nat → Int32} {V : Int64} {i : Nat} (h : ¬ lg_cmp (wvF arr i 9) V = 0) : wOi arr V (i + 1) = wOi arr V i := by
  show (bif decide (wvF arr i 9 = V) then nI i else _) = _
  rw [decide_eq_false (fun z => h ((lg_cmp_eq _ _).mpr z))]
  rfl
theorem wO_e {arr f : Nat → Int32} {n p k0 : Nat} (h : tkI f n p = 1) : ∀ m, k0 + m ≤ 12 → (∀ w, w < m → wvF arr w 9 = lN (wvN (k0 + w) (lenJ.getD (k0 + w) 0))) → wOi arr (vlR f n p) m = wWord f n p k0 m
  | 0, _, _ => rfl
  | m + 1, hm, ht => by
    show (bif decide (wvF arr m 9 = vlR f n p) then nI m else wOi arr (vlR f n p) m) = _
    rw [wW_s, wK_v (by omega) h, ht m (by omega), wO_e h m (by omega) (fun w hw => ht w (by omega))]
theorem wO_x {f : Nat → Int32} {n p k0 m : Nat} (h : ¬ tkR f n p = 1) : (-1 : Int32) = wWord f n p k0 m := (wW_no m (fun w _ => wK_n (fun z => h (tkR_1.mpr z)))).symm
theorem vd_rel {f : Nat → Int32} {b : Nat} : ∀ j, (∀ k, k < j → isD (f (b + k)) = true) → (∃ v, v ≤ 999 ∧ nmI f b j = nI v ∧ vdI f b j = lN v) ∨ (nmI f b j = nI 1000 ∧ ∃ r, 999 < r ∧ r < 20000 ∧ vdI f b j = lN r)
  | 0, _ => Or.inl ⟨0, by decide, rfl, rfl⟩
  | j + 1, h => by
    obtain ⟨c, c1, c2, e⟩ := isD_nI (h j (by omega))
    have hn : nmI f b (j + 1) = mn 1000 (nmI f b j * 10 + f (b + j) - 48) := rfl
    have hv : vdI f b (j + 1) = bif decide (999 < vdI f b j) then vdI f b j else vdI f b j * 10 + (f (b + j)).toInt64 - 48 := rfl
    rcases vd_rel j (fun k hk => h k (by omega)) with ⟨v, v1, v2, v3⟩ | ⟨v2, r, r1, r2, v3⟩
    · have hn2 : nmI f b (j + 1) = nI (min 1000 (v * 10 + (c - 48))) := by
        rw [hn, v2, e, show (10 : Int32) = nI 10 from rfl, pk_mul, nI_add, show (48 : Int32) = nI 48 from rfl, pk_sub (by omega), show (1000 : Int32) = nI 1000 from rfl, min_nI (by omega) (by omega), show v * 10 + c - 48 = v * 10 + (c - 48) by omega]
      have hv2 : vdI f b (j + 1) = lN (v * 10 + (c - 48)) := by
        rw [hv, v3, decide_eq_false (fun z => by have := (pk_lLT (a := 999) (by decide) (by omega)).mp z; omega), cond_false, e, nI_l (by omega), show (10 : Int64) = lN 10 from rfl, lN_mul, lN_add, show (48 : Int64) = lN 48 from rfl, lN_sub (by omega), show v * 10 + c - 48 = v * 10 + (c - 48) by omega]
      rcases Nat.lt_or_ge 999 (v * 10 + (c - 48)) with q | q
      · exact Or.inr ⟨by rw [hn2, show min 1000 (v * 10 + (c - 48)) = 1000 by omega], _, q, by omega, hv2⟩
      · exact Or.inl ⟨_, q, by rw [hn2, show min 1000 (v * 10 + (c - 48)) = v * 10 + (c - 48) by omega], hv2⟩
    · refine Or.inr ⟨?_, r, r1, r2, ?_⟩
      · rw [hn, v2, e, show (10 : Int32) = nI 10 from rfl, pk_mul, nI_add, show (48 : Int32) = nI 48 from rfl, pk_sub (by omega), show (1000 : Int32) = nI 1000 from rfl, min_nI (by omega) (by omega), show min 1000 (1000 * 10 + c - 48) = 1000 by omega]
      · rw [hv, v3, decide_eq_true (show (999 : Int64) < lN r from (pk_lLT (a := 999) (by decide) (by omega)).mpr r1), cond_true]
theorem num_y {f : Nat → Int32} {n p : Nat} (h : tkR f n p = 2) : tkI f n p = 2 ∧ ∃ v, v ≤ 999 ∧ nmV f n p = nI v ∧ vlR f n p = lN v := by
  rcases tkR_e f n p with e | ⟨_, e2, _⟩
  · have h2 : tkI f n p = 2 := by rw [← e]; exact h
    refine ⟨h2, ?_⟩
    obtain ⟨d0, d1, d2⟩ := tkI_2 h2
    obtain ⟨a1, _, a3⟩ := st_D d0 d1 d2
    rcases vd_rel _ (digits (f := f) (n := n) (p := p)) with ⟨v, v1, v2, v3⟩ | ⟨_, r, r1, r2, v3⟩
    · exact ⟨v, v1, v2, by rw [a3, v3]⟩
    · exfalso
      rw [a1, v3, decide_eq_true (show (999 : Int64) < lN r from (pk_lLT (a := 999) (by decide) (by omega)).mpr r1)] at h
      exact absurd (show (4 : Int32) = 2 from h) (by decide)
  · rw [e2] at h
    exact absurd h (by decide)
theorem num_n {f : Nat → Int32} {n p m : Nat} (h : ¬ tkR f n p = 2) (hm : m ≤ 1000) : nB f n p (nI m) = false := by
  cases c : nB f n p (nI m) with
  | false => rfl
  | true =>
    exfalso
    have h2 := nB_t c
    have h3 := nB_l c
    rcases tkR_e f n p with e | ⟨_, _, e3⟩
    · exact h (by rw [e]; exact h2)
    · rcases vd_rel _ (digits (f := f) (n := n) (p := p)) with ⟨v, v1, v2, v3⟩ | ⟨v2, r, r1, r2, v3⟩
      · rw [v3] at e3
        have := (pk_lLT (a := 999) (by decide) (by omega)).mp e3
        omega
      · have v2 : nmV f n p = nI 1000 := v2
        rw [v2] at h3
        have := (nI_ltI (by decide) (by omega)).mp h3
        omega
theorem num_v {f : Nat → Int32} {n p : Nat} (h : tkR f n p = 2) : (vlR f n p).toInt32 = nmV f n p := by
  obtain ⟨_, v, _, v2, v3⟩ := num_y h
  rw [v2, v3, lN_i]
theorem nmV_nn (f : Nat → Int32) (n p : Nat) : ¬ nmV f n p < 0 := by
  obtain ⟨v, hv, e⟩ := nmV_rg f n p
  rw [e]
  exact nI_pos (by omega)
theorem inL_m (q : Int32) {m : Nat} (hm : m ≤ 1000) : inL q 0 (nI m - 1) = in0 q (nI m) := by
  rcases Nat.eq_zero_or_pos m with h | h
  · subst h
    unfold inL in0
    congr 2
  · exact inL_in0 q h (by omega)
theorem tk_in {f : Nat → Int32} {n p m : Nat} (h : tkR f n p = 2) (hm : m ≤ 1000) : inL ((vlR f n p).toInt32) 0 (nI m - 1) = nB f n p (nI m) := by
  obtain ⟨h2, v, v1, v2, v3⟩ := num_y h
  rw [inL_m _ hm, num_v h, v2]
  unfold nB in0
  rw [decide_eq_true h2, Bool.true_and, v2, decide_eq_false (nI_pos (by omega)), Bool.not_false, Bool.true_and]
  by_cases q : nI v < nI m
  · rw [decide_eq_true q, decide_eq_false (Int32.not_le.mpr q)]; rfl
  · rw [decide_eq_false q, decide_eq_true (Int32.not_lt.mp q)]; rfl
def tkV (f : Nat → Int32) (n p m : Nat) : Int32 := bif nB f n p (nI m) then nmV f n p else -1
def tkP (f : Nat → Int32) (n p m : Nat) : Nat := bif nB f n p (nI m) then nx f n p else p
theorem num_eq {f : Nat → Int32} {n p q : Nat} (h : tkR f n p = 2) (c : lg_cmp (vlR f n p) (nI (ix (nmV f n q))).toInt64 = 0) : nmV f n p = nmV f n q := by
  obtain ⟨_, v, v1, v2, v3⟩ := num_y h
  obtain ⟨w, w1, w2⟩ := nmV_rg f n q
  rw [← nmV_ix] at c
  have c := (lg_cmp_eq _ _).mp c
  rw [v3, w2, nI_l (by omega)] at c
  have c := (pk_lEQ (by omega) (by omega)).mp c
  rw [v2, w2, c]
theorem num_ne {f : Nat → Int32} {n p q : Nat} (h : tkR f n p = 2) (c : ¬ lg_cmp (vlR f n p) (nI (ix (nmV f n q))).toInt64 = 0) : ¬ nmV f n p = nmV f n q := by
  intro e
  apply c
  obtain ⟨_, v, v1, v2, v3⟩ := num_y h
  rw [← nmV_ix, ← e, v2, v3, nI_l (by omega)]
  exact (lg_cmp_eq _ _).mpr rfl

abbrev r_X5_wordOf_L : Room := { frames := 0, cells := 0, slots := 0, locals := 0 }
theorem cv_X5_wordOf_L : cV yX5_wordOf cX5_wordOf 7 (some .int) 1 := ⟨k5_130, k0_65, k5_131, k1_6, by decide, by decide, by decide +kernel⟩
set_option maxHeartbeats 4000000 in
set_option maxRecDepth 100000 in
theorem c_X5_wordOf_L (l : Launch) (D : va_G) (cI cC : ClassId) (adK adV : Nat → Nat) (y : Nat → Nat) (sr : Nat → Int32) (kr : Nat → Int32) (ar : Nat → Int32) (ik : Bool) (F : Nat → Int32) (f : Nat → Int32) (n : Nat) (s1 : Nat → Int32) (s2 : Nat → Int32) (s3 : Nat → Int32) (cr : Nat → Int32) (p : Nat) : FC l yX5_wordOf (wW yX5_wordOf cX5_wordOf 7 (some .int)) r_X5_wordOf_L D (tyC cI cC) adK adV (wMo cI cC y sr (kr, ar, ik, F, f, n, (tkR f n p), p, (tkE f n p), (vlR f n p), s1, s2, s3, cr)) [.ref (y 0), .ref (y 6)] 0 0 (fQ (some (.int (wWord f n p 0 7))) (wMo cI cC y sr (kr, ar, ik, F, f, n, (tkR f n p), p, (tkE f n p), (vlR f n p), s1, s2, s3, cr))) := by
  refine FC.of (own := RX5) (by decide) rfl (Nat.le_of_ble_eq_true rfl) ?_
  intro p9 e9 s9 m9 args9 below9 meth9 c9 A9 C hr hlk hmn
  show AW p9 l e9 r_X5_wordOf_L s9 m9 args9 below9 meth9 c9 D A9 7 0 0 _ 0 [(0, .ref (y 0)), (1, .ref (y 6))] [] _
  refine aw_iconst C (-1 : Int32) dX5_wordOf_0 (by decide) ?_
  refine aw_istore_n C true (lv' := [(0, .ref (y 0)), (1, .ref (y 6)), (2, .int (-1 : Int32))]) dX5_wordOf_1 (by decide) rfl rfl ?_
  refine aw_iconst C (0 : Int32) dX5_wordOf_2 (by decide) ?_
  refine aw_istore_n C true (lv' := [(0, .ref (y 0)), (1, .ref (y 6)), (2, .int (-1 : Int32)), (3, .int (0 : Int32))]) dX5_wordOf_3 (by decide) rfl rfl ?_
  refine aw_eq (lv' := [(0, .ref (y 0)), (1, .ref (y 6)), (2, .int (wOi lettersF (vlR f n p) 0)), (3, .int (nI 0))]) (ws' := wMo cI cC y sr (kr, ar, ik, F, f, n, (tkR f n p), p, (tkE f n p), (vlR f n p), s1, s2, s3, cr)) (by first | rfl | (simp only [itr])) rfl (by rfl) ?_
  refine aw_loop (LV := fun i => [(0, .ref (y 0)), (1, .ref (y 6)), (2, .int (wOi lettersF (vlR f n p) i)), (3, .int (nI i))]) (WS := fun i => wMo cI cC y sr (kr, ar, ik, F, f, n, (tkR f n p), p, (tkE f n p), (vlR f n p), s1, s2, s3, cr)) 7 (Inv := fun i => i = 0 ∨ tkR f n p = 1) (Or.inl rfl) ?_ ?_
  · intro hv4
    refine aw_iload_n C dX5_wordOf_4 rfl ?_
    refine aw_aload_n C dX5_wordOf_5 rfl ?_
    refine aw_alen C 6 1 rfl rfl dX5_wordOf_6 ?_
    refine aw_bipush C (9 : Int32) dX5_wordOf_7 (by decide) ?_
    refine aw_idiv C dX5_wordOf_9 (by decide) ?_
    refine aw_pc 10 rfl ?_
    refine aw_top (y := (nI 7)) (by decide) ?_
    refine aw_icmp_ge C 104 dX5_wordOf_10 (by decide) (fun c_10 => ?_) (fun c_10 => absurd c_10 (fun z => z (by decide)))
    refine aw_iload_n C dX5_wordOf_104 rfl ?_
    exact aw_iret C hr hlk dX5_wordOf_105 ⟨ri (by exact hv4.elim (fun h4 => absurd h4 (by decide)) (fun h4 => wO_e (tkR_1.mp h4) 7 (by decide) wt_l)), by rfl⟩
  · intro i hi4 hv4 ih4
    refine aw_iload_n C dX5_wordOf_4 rfl ?_
    refine aw_aload_n C dX5_wordOf_5 rfl ?_
    refine aw_alen C 6 1 rfl rfl dX5_wordOf_6 ?_
    refine aw_bipush C (9 : Int32) dX5_wordOf_7 (by decide) ?_
    refine aw_idiv C dX5_wordOf_9 (by decide) ?_
    refine aw_top (y := (nI 7)) (by decide) ?_
    refine aw_icmp_ge C 104 dX5_wordOf_10 (by decide) (fun c_10 => absurd c_10 (nI_ge (b := 7) hi4 (by decide))) (fun c_10 => ?_)
    refine aw_aload_n C dX5_wordOf_13 rfl ?_
    refine aw_pc 14 rfl ?_
    refine aw_getf C 0 4 7 18 inX5 rfl (by decide) rfl k4_1 rfl rfl dX5_wordOf_14 ?_
    refine aw_top (y := (tkR f n p)) rfl ?_
    refine aw_iconst C (1 : Int32) dX5_wordOf_17 (by decide) ?_
    refine aw_icmp_ne C 104 dX5_wordOf_18 (by decide) (fun c_18 => ?_) (fun c_18 => ?_)
    · skip
      refine aw_iload_n C dX5_wordOf_104 rfl ?_
      exact aw_iret C hr hlk dX5_wordOf_105 ⟨ri (by exact hv4.elim (fun h4 => by subst h4; exact wO_x c_18) (fun h4 => absurd h4 c_18)), by rfl⟩
    · skip
      refine aw_lconst C (0 : Int64) dX5_wordOf_21 (by decide) ?_
      refine aw_lstore C true (lv' := [(0, .ref (y 0)), (1, .ref (y 6)), (2, .int (wOi lettersF (vlR f n p) i)), (3, .int (nI i)), (4, .long (0 : Int64))]) dX5_wordOf_22 (by decide) rfl rfl ?_
      refine aw_iconst C (0 : Int32) dX5_wordOf_24 (by decide) ?_
      refine aw_istore C true (lv' := [(0, .ref (y 0)), (1, .ref (y 6)), (2, .int (wOi lettersF (vlR f n p) i)), (3, .int (nI i)), (4, .long (0 : Int64)), (6, .int (0 : Int32))]) dX5_wordOf_25 (by decide) rfl rfl ?_
      refine aw_eq (lv' := [(0, .ref (y 0)), (1, .ref (y 6)), (2, .int (wOi lettersF (vlR f n p) i)), (3, .int (nI i)), (4, .long (wvF lettersF i 0)), (6, .int (nI 0))]) (ws' := wMo cI cC y sr (kr, ar, ik, F, f, n, (tkR f n p), p, (tkE f n p), (vlR f n p), s1, s2, s3, cr)) (by rfl) rfl (by rfl) ?_
      refine aw_loop (LV := fun j => [(0, .ref (y 0)), (1, .ref (y 6)), (2, .int (wOi lettersF (vlR f n p) i)), (3, .int (nI i)), (4, .long (wvF lettersF i j)), (6, .int (nI j))]) (WS := fun j => wMo cI cC y sr (kr, ar, ik, F, f, n, (tkR f n p), p, (tkE f n p), (vlR f n p), s1, s2, s3, cr)) 9 (Inv := fun _ => True) trivial ?_ ?_
      · intro hv27
        refine aw_iload C dX5_wordOf_27 rfl ?_
        refine aw_pc 29 rfl ?_
        refine aw_bipush C (9 : Int32) dX5_wordOf_29 (by decide) ?_
        refine aw_icmp_ge C 82 dX5_wordOf_31 (by decide) (fun c_31 => ?_) (fun c_31 => absurd c_31 (fun z => z (by decide)))
        refine aw_lload C dX5_wordOf_82 rfl ?_
        refine aw_aload_n C dX5_wordOf_84 rfl ?_
        refine aw_getf C 0 4 10 18 inX5 rfl (by decide) rfl k4_4 rfl rfl dX5_wordOf_85 ?_
        refine aw_topv (y := .long (vlR f n p)) rfl ?_
        refine aw_lcmp C dX5_wordOf_88 ?_
        refine aw_if_ne C 96 dX5_wordOf_89 (by decide) (fun c_89 => ?_) (fun c_89 => ?_)
        · skip
          refine aw_iload_n C dX5_wordOf_96 rfl ?_
          refine aw_istore_n C false (lv' := [(0, .ref (y 0)), (1, .ref (y 6)), (2, .int (wOi lettersF (vlR f n p) i)), (3, .int (nI i)), (4, .long (wvF lettersF i 9)), (6, .int (nI 9))]) dX5_wordOf_97 (by decide) rfl rfl ?_
          refine aw_iinc C (nI (i + 1)) dX5_wordOf_98 rfl (inc_nI _ 1) (by decide) rfl (lv' := [(0, .ref (y 0)), (1, .ref (y 6)), (2, .int (wOi lettersF (vlR f n p) i)), (3, .int (nI (i + 1))), (4, .long (wvF lettersF i 9)), (6, .int (nI 9))]) rfl ?_
          refine aw_pc 101 rfl ?_
          refine aw_goto C 4 dX5_wordOf_101 (by decide) ?_
          refine aw_sub (lv' := [(0, .ref (y 0)), (1, .ref (y 6)), (2, .int (wOi lettersF (vlR f n p) i)), (3, .int (nI (i + 1)))]) [0, 1, 2, 3] rfl ?_
          exact aw_eq (by first | (rw [wO_y c_89]) | (rw [wO_n c_89])) rfl (by first | rfl | (simp only [itr, c_18, c_89] <;> first | done | rfl)) (ih4 (Or.inr c_18))
        · skip
          refine aw_iload_n C dX5_wordOf_92 rfl ?_
          refine aw_goto C 97 dX5_wordOf_93 (by decide) ?_
          refine aw_istore_n C false (lv' := [(0, .ref (y 0)), (1, .ref (y 6)), (2, .int (nI i)), (3, .int (nI i)), (4, .long (wvF lettersF i 9)), (6, .int (nI 9))]) dX5_wordOf_97 (by decide) rfl rfl ?_
          refine aw_iinc C (nI (i + 1)) dX5_wordOf_98 rfl (inc_nI _ 1) (by decide) rfl (lv' := [(0, .ref (y 0)), (1, .ref (y 6)), (2, .int (nI i)), (3, .int (nI (i + 1))), (4, .long (wvF lettersF i 9)), (6, .int (nI 9))]) rfl ?_
          refine aw_goto C 4 dX5_wordOf_101 (by decide) ?_
          refine aw_sub (lv' := [(0, .ref (y 0)), (1, .ref (y 6)), (2, .int (nI i)), (3, .int (nI (i + 1)))]) [0, 1, 2, 3] rfl ?_
          exact aw_eq (by first | (rw [wO_y c_89]) | (rw [wO_n c_89])) rfl (by first | rfl | (simp only [itr, c_18, c_89] <;> first | done | rfl)) (ih4 (Or.inr c_18))
      · intro j hi27 hv27 ih27
        refine aw_iload C dX5_wordOf_27 rfl ?_
        refine aw_bipush C (9 : Int32) dX5_wordOf_29 (by decide) ?_
        refine aw_icmp_ge C 82 dX5_wordOf_31 (by decide) (fun c_31 => absurd c_31 (nI_ge (b := 9) hi27 (by decide))) (fun c_31 => ?_)
        refine aw_aload_n C dX5_wordOf_34 rfl ?_
        refine aw_pc 35 rfl ?_
        refine aw_bipush C (9 : Int32) dX5_wordOf_35 (by decide) ?_
        refine aw_iload_n C dX5_wordOf_37 rfl ?_
        refine aw_imul C dX5_wordOf_38 ?_
        refine aw_iload C dX5_wordOf_39 rfl ?_
        refine aw_iadd C dX5_wordOf_41 ?_
        refine aw_caldN C 6 1 (9 * i + j) rfl rfl (w9_ix i j) (by omega) (by decide) dX5_wordOf_42 ?_
        refine aw_top (y := (lettersF (9 * i + j))) rfl ?_
        refine aw_bipush C (32 : Int32) dX5_wordOf_43 (by decide) ?_
        refine aw_icmp_ne C 53 dX5_wordOf_45 (by decide) (fun c_45 => ?_) (fun c_45 => ?_)
        · skip
          refine aw_lload C dX5_wordOf_53 rfl ?_
          refine aw_ldc2 C k5_116 dX5_wordOf_55 ?_
          refine aw_pc 58 rfl ?_
          refine aw_lmul C dX5_wordOf_58 ?_
          refine aw_aload_n C dX5_wordOf_59 rfl ?_
          refine aw_bipush C (9 : Int32) dX5_wordOf_60 (by decide) ?_
          refine aw_iload_n C dX5_wordOf_62 rfl ?_
          refine aw_imul C dX5_wordOf_63 ?_
          refine aw_iload C dX5_wordOf_64 rfl ?_
          refine aw_iadd C dX5_wordOf_66 ?_
          refine aw_caldN C 6 1 (9 * i + j) rfl rfl (w9_ix i j) (by omega) (by decide) dX5_wordOf_67 ?_
          refine aw_top (y := (lettersF (9 * i + j))) rfl ?_
          refine aw_i2l C dX5_wordOf_68 ?_
          refine aw_ladd C dX5_wordOf_69 ?_
          refine aw_pc 70 rfl ?_
          refine aw_ldc2 C k5_117 dX5_wordOf_70 ?_
          refine aw_lsub C dX5_wordOf_73 ?_
          refine aw_lstore C false (lv' := [(0, .ref (y 0)), (1, .ref (y 6)), (2, .int (wOi lettersF (vlR f n p) i)), (3, .int (nI i)), (4, .long ((((wvF lettersF i j) * (27 : Int64)) + ((lettersF (9 * i + j)).toInt64)) - (96 : Int64))), (6, .int (nI j))]) dX5_wordOf_74 (by decide) rfl rfl ?_
          refine aw_iinc C (nI (j + 1)) dX5_wordOf_76 rfl (inc_nI _ 1) (by decide) rfl (lv' := [(0, .ref (y 0)), (1, .ref (y 6)), (2, .int (wOi lettersF (vlR f n p) i)), (3, .int (nI i)), (4, .long ((((wvF lettersF i j) * (27 : Int64)) + ((lettersF (9 * i + j)).toInt64)) - (96 : Int64))), (6, .int (nI (j + 1)))]) rfl ?_
          refine aw_goto C 27 dX5_wordOf_79 (by decide) ?_
          exact aw_eq (by first | (rw [wv_b c_45]) | (rw [wv_n c_45] <;> rfl)) rfl (by first | rfl | (simp only [itr, c_18, c_45] <;> first | done | rfl)) (ih27 trivial)
        · skip
          refine aw_lload C dX5_wordOf_48 rfl ?_
          refine aw_goto C 74 dX5_wordOf_50 (by decide) ?_
          refine aw_lstore C false (lv' := [(0, .ref (y 0)), (1, .ref (y 6)), (2, .int (wOi lettersF (vlR f n p) i)), (3, .int (nI i)), (4, .long (wvF lettersF i j)), (6, .int (nI j))]) dX5_wordOf_74 (by decide) rfl rfl ?_
          refine aw_iinc C (nI (j + 1)) dX5_wordOf_76 rfl (inc_nI _ 1) (by decide) rfl (lv' := [(0, .ref (y 0)), (1, .ref (y 6)), (2, .int (wOi lettersF (vlR f n p) i)), (3, .int (nI i)), (4, .long (wvF lettersF i j)), (6, .int (nI (j + 1)))]) rfl ?_
          refine aw_goto C 27 dX5_wordOf_79 (by decide) ?_
          exact aw_eq (by first | (rw [wv_b c_45]) | (rw [wv_n c_45] <;> rfl)) rfl (by first | rfl | (simp only [itr, c_18, c_45] <;> first | done | rfl)) (ih27 trivial)
abbrev r_X5_wordOf_M : Room := { frames := 0, cells := 0, slots := 0, locals := 0 }
theorem cv_X5_wordOf_M : cV yX5_wordOf cX5_wordOf 7 (some .int) 1 := ⟨k5_130, k0_65, k5_131, k1_6, by decide, by decide, by decide +kernel⟩
set_option maxHeartbeats 4000000 in
set_option maxRecDepth 100000 in
theorem c_X5_wordOf_M (l : Launch) (D : va_G) (cI cC : ClassId) (adK adV : Nat → Nat) (y : Nat → Nat) (sr : Nat → Int32) (kr : Nat → Int32) (ar : Nat → Int32) (ik : Bool) (F : Nat → Int32) (f : Nat → Int32) (n : Nat) (s1 : Nat → Int32) (s2 : Nat → Int32) (s3 : Nat → Int32) (cr : Nat → Int32) (p : Nat) : FC l yX5_wordOf (wW yX5_wordOf cX5_wordOf 7 (some .int)) r_X5_wordOf_M D (tyC cI cC) adK adV (wMo cI cC y sr (kr, ar, ik, F, f, n, (tkR f n p), p, (tkE f n p), (vlR f n p), s1, s2, s3, cr)) [.ref (y 0), .ref (y 7)] 0 0 (fQ (some (.int (wWord f n p 9 3))) (wMo cI cC y sr (kr, ar, ik, F, f, n, (tkR f n p), p, (tkE f n p), (vlR f n p), s1, s2, s3, cr))) := by
  refine FC.of (own := RX5) (by decide) rfl (Nat.le_of_ble_eq_true rfl) ?_
  intro p9 e9 s9 m9 args9 below9 meth9 c9 A9 C hr hlk hmn
  show AW p9 l e9 r_X5_wordOf_M s9 m9 args9 below9 meth9 c9 D A9 7 0 0 _ 0 [(0, .ref (y 0)), (1, .ref (y 7))] [] _
  refine aw_iconst C (-1 : Int32) dX5_wordOf_0 (by decide) ?_
  refine aw_istore_n C true (lv' := [(0, .ref (y 0)), (1, .ref (y 7)), (2, .int (-1 : Int32))]) dX5_wordOf_1 (by decide) rfl rfl ?_
  refine aw_iconst C (0 : Int32) dX5_wordOf_2 (by decide) ?_
  refine aw_istore_n C true (lv' := [(0, .ref (y 0)), (1, .ref (y 7)), (2, .int (-1 : Int32)), (3, .int (0 : Int32))]) dX5_wordOf_3 (by decide) rfl rfl ?_
  refine aw_eq (lv' := [(0, .ref (y 0)), (1, .ref (y 7)), (2, .int (wOi moreF (vlR f n p) 0)), (3, .int (nI 0))]) (ws' := wMo cI cC y sr (kr, ar, ik, F, f, n, (tkR f n p), p, (tkE f n p), (vlR f n p), s1, s2, s3, cr)) (by first | rfl | (simp only [itr])) rfl (by rfl) ?_
  refine aw_loop (LV := fun i => [(0, .ref (y 0)), (1, .ref (y 7)), (2, .int (wOi moreF (vlR f n p) i)), (3, .int (nI i))]) (WS := fun i => wMo cI cC y sr (kr, ar, ik, F, f, n, (tkR f n p), p, (tkE f n p), (vlR f n p), s1, s2, s3, cr)) 3 (Inv := fun i => i = 0 ∨ tkR f n p = 1) (Or.inl rfl) ?_ ?_
  · intro hv4
    refine aw_iload_n C dX5_wordOf_4 rfl ?_
    refine aw_aload_n C dX5_wordOf_5 rfl ?_
    refine aw_alen C 7 1 rfl rfl dX5_wordOf_6 ?_
    refine aw_bipush C (9 : Int32) dX5_wordOf_7 (by decide) ?_
    refine aw_idiv C dX5_wordOf_9 (by decide) ?_
    refine aw_pc 10 rfl ?_
    refine aw_top (y := (nI 3)) (by decide) ?_
    refine aw_icmp_ge C 104 dX5_wordOf_10 (by decide) (fun c_10 => ?_) (fun c_10 => absurd c_10 (fun z => z (by decide)))
    refine aw_iload_n C dX5_wordOf_104 rfl ?_
    exact aw_iret C hr hlk dX5_wordOf_105 ⟨ri (by exact hv4.elim (fun h4 => absurd h4 (by decide)) (fun h4 => wO_e (tkR_1.mp h4) 3 (by decide) wt_m)), by rfl⟩
  · intro i hi4 hv4 ih4
    refine aw_iload_n C dX5_wordOf_4 rfl ?_
    refine aw_aload_n C dX5_wordOf_5 rfl ?_
    refine aw_alen C 7 1 rfl rfl dX5_wordOf_6 ?_
    refine aw_bipush C (9 : Int32) dX5_wordOf_7 (by decide) ?_
    refine aw_idiv C dX5_wordOf_9 (by decide) ?_
    refine aw_top (y := (nI 3)) (by decide) ?_
    refine aw_icmp_ge C 104 dX5_wordOf_10 (by decide) (fun c_10 => absurd c_10 (nI_ge (b := 3) hi4 (by decide))) (fun c_10 => ?_)
    refine aw_aload_n C dX5_wordOf_13 rfl ?_
    refine aw_pc 14 rfl ?_
    refine aw_getf C 0 4 7 18 inX5 rfl (by decide) rfl k4_1 rfl rfl dX5_wordOf_14 ?_
    refine aw_top (y := (tkR f n p)) rfl ?_
    refine aw_iconst C (1 : Int32) dX5_wordOf_17 (by decide) ?_
    refine aw_icmp_ne C 104 dX5_wordOf_18 (by decide) (fun c_18 => ?_) (fun c_18 => ?_)
    · skip
      refine aw_iload_n C dX5_wordOf_104 rfl ?_
      exact aw_iret C hr hlk dX5_wordOf_105 ⟨ri (by exact hv4.elim (fun h4 => by subst h4; exact wO_x c_18) (fun h4 => absurd h4 c_18)), by rfl⟩
    · skip
      refine aw_lconst C (0 : Int64) dX5_wordOf_21 (by decide) ?_
      refine aw_lstore C true (lv' := [(0, .ref (y 0)), (1, .ref (y 7)), (2, .int (wOi moreF (vlR f n p) i)), (3, .int (nI i)), (4, .long (0 : Int64))]) dX5_wordOf_22 (by decide) rfl rfl ?_
      refine aw_iconst C (0 : Int32) dX5_wordOf_24 (by decide) ?_
      refine aw_istore C true (lv' := [(0, .ref (y 0)), (1, .ref (y 7)), (2, .int (wOi moreF (vlR f n p) i)), (3, .int (nI i)), (4, .long (0 : Int64)), (6, .int (0 : Int32))]) dX5_wordOf_25 (by decide) rfl rfl ?_
      refine aw_eq (lv' := [(0, .ref (y 0)), (1, .ref (y 7)), (2, .int (wOi moreF (vlR f n p) i)), (3, .int (nI i)), (4, .long (wvF moreF i 0)), (6, .int (nI 0))]) (ws' := wMo cI cC y sr (kr, ar, ik, F, f, n, (tkR f n p), p, (tkE f n p), (vlR f n p), s1, s2, s3, cr)) (by rfl) rfl (by rfl) ?_
      refine aw_loop (LV := fun j => [(0, .ref (y 0)), (1, .ref (y 7)), (2, .int (wOi moreF (vlR f n p) i)), (3, .int (nI i)), (4, .long (wvF moreF i j)), (6, .int (nI j))]) (WS := fun j => wMo cI cC y sr (kr, ar, ik, F, f, n, (tkR f n p), p, (tkE f n p), (vlR f n p), s1, s2, s3, cr)) 9 (Inv := fun _ => True) trivial ?_ ?_
      · intro hv27
        refine aw_iload C dX5_wordOf_27 rfl ?_
        refine aw_pc 29 rfl ?_
        refine aw_bipush C (9 : Int32) dX5_wordOf_29 (by decide) ?_
        refine aw_icmp_ge C 82 dX5_wordOf_31 (by decide) (fun c_31 => ?_) (fun c_31 => absurd c_31 (fun z => z (by decide)))
        refine aw_lload C dX5_wordOf_82 rfl ?_
        refine aw_aload_n C dX5_wordOf_84 rfl ?_
        refine aw_getf C 0 4 10 18 inX5 rfl (by decide) rfl k4_4 rfl rfl dX5_wordOf_85 ?_
        refine aw_topv (y := .long (vlR f n p)) rfl ?_
        refine aw_lcmp C dX5_wordOf_88 ?_
        refine aw_if_ne C 96 dX5_wordOf_89 (by decide) (fun c_89 => ?_) (fun c_89 => ?_)
        · skip
          refine aw_iload_n C dX5_wordOf_96 rfl ?_
          refine aw_istore_n C false (lv' := [(0, .ref (y 0)), (1, .ref (y 7)), (2, .int (wOi moreF (vlR f n p) i)), (3, .int (nI i)), (4, .long (wvF moreF i 9)), (6, .int (nI 9))]) dX5_wordOf_97 (by decide) rfl rfl ?_
          refine aw_iinc C (nI (i + 1)) dX5_wordOf_98 rfl (inc_nI _ 1) (by decide) rfl (lv' := [(0, .ref (y 0)), (1, .ref (y 7)), (2, .int (wOi moreF (vlR f n p) i)), (3, .int (nI (i + 1))), (4, .long (wvF moreF i 9)), (6, .int (nI 9))]) rfl ?_
          refine aw_pc 101 rfl ?_
          refine aw_goto C 4 dX5_wordOf_101 (by decide) ?_
          refine aw_sub (lv' := [(0, .ref (y 0)), (1, .ref (y 7)), (2, .int (wOi moreF (vlR f n p) i)), (3, .int (nI (i + 1)))]) [0, 1, 2, 3] rfl ?_
          exact aw_eq (by first | (rw [wO_y c_89]) | (rw [wO_n c_89])) rfl (by first | rfl | (simp only [itr, c_18, c_89] <;> first | done | rfl)) (ih4 (Or.inr c_18))
        · skip
          refine aw_iload_n C dX5_wordOf_92 rfl ?_
          refine aw_goto C 97 dX5_wordOf_93 (by decide) ?_
          refine aw_istore_n C false (lv' := [(0, .ref (y 0)), (1, .ref (y 7)), (2, .int (nI i)), (3, .int (nI i)), (4, .long (wvF moreF i 9)), (6, .int (nI 9))]) dX5_wordOf_97 (by decide) rfl rfl ?_
          refine aw_iinc C (nI (i + 1)) dX5_wordOf_98 rfl (inc_nI _ 1) (by decide) rfl (lv' := [(0, .ref (y 0)), (1, .ref (y 7)), (2, .int (nI i)), (3, .int (nI (i + 1))), (4, .long (wvF moreF i 9)), (6, .int (nI 9))]) rfl ?_
          refine aw_goto C 4 dX5_wordOf_101 (by decide) ?_
          refine aw_sub (lv' := [(0, .ref (y 0)), (1, .ref (y 7)), (2, .int (nI i)), (3, .int (nI (i + 1)))]) [0, 1, 2, 3] rfl ?_
          exact aw_eq (by first | (rw [wO_y c_89]) | (rw [wO_n c_89])) rfl (by first | rfl | (simp only [itr, c_18, c_89] <;> first | done | rfl)) (ih4 (Or.inr c_18))
      · intro j hi27 hv27 ih27
        refine aw_iload C dX5_wordOf_27 rfl ?_
        refine aw_bipush C (9 : Int32) dX5_wordOf_29 (by decide) ?_
        refine aw_icmp_ge C 82 dX5_wordOf_31 (by decide) (fun c_31 => absurd c_31 (nI_ge (b := 9) hi27 (by decide))) (fun c_31 => ?_)
        refine aw_aload_n C dX5_wordOf_34 rfl ?_
        refine aw_pc 35 rfl ?_
        refine aw_bipush C (9 : Int32) dX5_wordOf_35 (by decide) ?_
        refine aw_iload_n C dX5_wordOf_37 rfl ?_
        refine aw_imul C dX5_wordOf_38 ?_
        refine aw_iload C dX5_wordOf_39 rfl ?_
        refine aw_iadd C dX5_wordOf_41 ?_
        refine aw_caldN C 7 1 (9 * i + j) rfl rfl (w9_ix i j) (by omega) (by decide) dX5_wordOf_42 ?_
        refine aw_top (y := (moreF (9 * i + j))) rfl ?_
        refine aw_bipush C (32 : Int32) dX5_wordOf_43 (by decide) ?_
        refine aw_icmp_ne C 53 dX5_wordOf_45 (by decide) (fun c_45 => ?_) (fun c_45 => ?_)
        · skip
          refine aw_lload C dX5_wordOf_53 rfl ?_
          refine aw_ldc2 C k5_116 dX5_wordOf_55 ?_
          refine aw_pc 58 rfl ?_
          refine aw_lmul C dX5_wordOf_58 ?_
          refine aw_aload_n C dX5_wordOf_59 rfl ?_
          refine aw_bipush C (9 : Int32) dX5_wordOf_60 (by decide) ?_
          refine aw_iload_n C dX5_wordOf_62 rfl ?_
          refine aw_imul C dX5_wordOf_63 ?_
          refine aw_iload C dX5_wordOf_64 rfl ?_
          refine aw_iadd C dX5_wordOf_66 ?_
          refine aw_caldN C 7 1 (9 * i + j) rfl rfl (w9_ix i j) (by omega) (by decide) dX5_wordOf_67 ?_
          refine aw_top (y := (moreF (9 * i + j))) rfl ?_
          refine aw_i2l C dX5_wordOf_68 ?_
          refine aw_ladd C dX5_wordOf_69 ?_
          refine aw_pc 70 rfl ?_
          refine aw_ldc2 C k5_117 dX5_wordOf_70 ?_
          refine aw_lsub C dX5_wordOf_73 ?_
          refine aw_lstore C false (lv' := [(0, .ref (y 0)), (1, .ref (y 7)), (2, .int (wOi moreF (vlR f n p) i)), (3, .int (nI i)), (4, .long ((((wvF moreF i j) * (27 : Int64)) + ((moreF (9 * i + j)).toInt64)) - (96 : Int64))), (6, .int (nI j))]) dX5_wordOf_74 (by decide) rfl rfl ?_
          refine aw_iinc C (nI (j + 1)) dX5_wordOf_76 rfl (inc_nI _ 1) (by decide) rfl (lv' := [(0, .ref (y 0)), (1, .ref (y 7)), (2, .int (wOi moreF (vlR f n p) i)), (3, .int (nI i)), (4, .long ((((wvF moreF i j) * (27 : Int64)) + ((moreF (9 * i + j)).toInt64)) - (96 : Int64))), (6, .int (nI (j + 1)))]) rfl ?_
          refine aw_goto C 27 dX5_wordOf_79 (by decide) ?_
          exact aw_eq (by first | (rw [wv_b c_45]) | (rw [wv_n c_45] <;> rfl)) rfl (by first | rfl | (simp only [itr, c_18, c_45] <;> first | done | rfl)) (ih27 trivial)
        · skip
          refine aw_lload C dX5_wordOf_48 rfl ?_
          refine aw_goto C 74 dX5_wordOf_50 (by decide) ?_
          refine aw_lstore C false (lv' := [(0, .ref (y 0)), (1, .ref (y 7)), (2, .int (wOi moreF (vlR f n p) i)), (3, .int (nI i)), (4, .long (wvF moreF i j)), (6, .int (nI j))]) dX5_wordOf_74 (by decide) rfl rfl ?_
          refine aw_iinc C (nI (j + 1)) dX5_wordOf_76 rfl (inc_nI _ 1) (by decide) rfl (lv' := [(0, .ref (y 0)), (1, .ref (y 7)), (2, .int (wOi moreF (vlR f n p) i)), (3, .int (nI i)), (4, .long (wvF moreF i j)), (6, .int (nI (j + 1)))]) rfl ?_
          refine aw_goto C 27 dX5_wordOf_79 (by decide) ?_
          exact aw_eq (by first | (rw [wv_b c_45]) | (rw [wv_n c_45] <;> rfl)) rfl (by first | rfl | (simp only [itr, c_18, c_45] <;> first | done | rfl)) (ih27 trivial)
abbrev r_X5_wordOf_O : Room := { frames := 0, cells := 0, slots := 0, locals := 0 }
theorem cv_X5_wordOf_O : cV yX5_wordOf cX5_wordOf 7 (some .int) 1 := ⟨k5_130, k0_65, k5_131, k1_6, by decide, by decide, by decide +kernel⟩
set_option maxHeartbeats 4000000 in
set_option maxRecDepth 100000 in
theorem c_X5_wordOf_O (l : Launch) (D : va_G) (cI cC : ClassId) (adK adV : Nat → Nat) (y : Nat → Nat) (sr : Nat → Int32) (kr : Nat → Int32) (ar : Nat → Int32) (ik : Bool) (F : Nat → Int32) (f : Nat → Int32) (n : Nat) (s1 : Nat → Int32) (s2 : Nat → Int32) (s3 : Nat → Int32) (cr : Nat → Int32) (p : Nat) : FC l yX5_wordOf (wW yX5_wordOf cX5_wordOf 7 (some .int)) r_X5_wordOf_O D (tyC cI cC) adK adV (wMo cI cC y sr (kr, ar, ik, F, f, n, (tkR f n p), p, (tkE f n p), (vlR f n p), s1, s2, s3, cr)) [.ref (y 0), .ref (y 8)] 0 0 (fQ (some (.int (wWord f n p 7 2))) (wMo cI cC y sr (kr, ar, ik, F, f, n, (tkR f n p), p, (tkE f n p), (vlR f n p), s1, s2, s3, cr))) := by
  refine FC.of (own := RX5) (by decide) rfl (Nat.le_of_ble_eq_true rfl) ?_
  intro p9 e9 s9 m9 args9 below9 meth9 c9 A9 C hr hlk hmn
  show AW p9 l e9 r_X5_wordOf_O s9 m9 args9 below9 meth9 c9 D A9 7 0 0 _ 0 [(0, .ref (y 0)), (1, .ref (y 8))] [] _
  refine aw_iconst C (-1 : Int32) dX5_wordOf_0 (by decide) ?_
  refine aw_istore_n C true (lv' := [(0, .ref (y 0)), (1, .ref (y 8)), (2, .int (-1 : Int32))]) dX5_wordOf_1 (by decide) rfl rfl ?_
  refine aw_iconst C (0 : Int32) dX5_wordOf_2 (by decide) ?_
  refine aw_istore_n C true (lv' := [(0, .ref (y 0)), (1, .ref (y 8)), (2, .int (-1 : Int32)), (3, .int (0 : Int32))]) dX5_wordOf_3 (by decide) rfl rfl ?_
  refine aw_eq (lv' := [(0, .ref (y 0)), (1, .ref (y 8)), (2, .int (wOi othersF (vlR f n p) 0)), (3, .int (nI 0))]) (ws' := wMo cI cC y sr (kr, ar, ik, F, f, n, (tkR f n p), p, (tkE f n p), (vlR f n p), s1, s2, s3, cr)) (by first | rfl | (simp only [itr])) rfl (by rfl) ?_
  refine aw_loop (LV := fun i => [(0, .ref (y 0)), (1, .ref (y 8)), (2, .int (wOi othersF (vlR f n p) i)), (3, .int (nI i))]) (WS := fun i => wMo cI cC y sr (kr, ar, ik, F, f, n, (tkR f n p), p, (tkE f n p), (vlR f n p), s1, s2, s3, cr)) 2 (Inv := fun i => i = 0 ∨ tkR f n p = 1) (Or.inl rfl) ?_ ?_
  · intro hv4
    refine aw_iload_n C dX5_wordOf_4 rfl ?_
    refine aw_aload_n C dX5_wordOf_5 rfl ?_
    refine aw_alen C 8 1 rfl rfl dX5_wordOf_6 ?_
    refine aw_bipush C (9 : Int32) dX5_wordOf_7 (by decide) ?_
    refine aw_idiv C dX5_wordOf_9 (by decide) ?_
    refine aw_pc 10 rfl ?_
    refine aw_top (y := (nI 2)) (by decide) ?_
    refine aw_icmp_ge C 104 dX5_wordOf_10 (by decide) (fun c_10 => ?_) (fun c_10 => absurd c_10 (fun z => z (by decide)))
    refine aw_iload_n C dX5_wordOf_104 rfl ?_
    exact aw_iret C hr hlk dX5_wordOf_105 ⟨ri (by exact hv4.elim (fun h4 => absurd h4 (by decide)) (fun h4 => wO_e (tkR_1.mp h4) 2 (by decide) wt_o)), by rfl⟩
  · intro i hi4 hv4 ih4
    refine aw_iload_n C dX5_wordOf_4 rfl ?_
    refine aw_aload_n C dX5_wordOf_5 rfl ?_
    refine aw_alen C 8 1 rfl rfl dX5_wordOf_6 ?_
    refine aw_bipush C (9 : Int32) dX5_wordOf_7 (by decide) ?_
    refine aw_idiv C dX5_wordOf_9 (by decide) ?_
    refine aw_top (y := (nI 2)) (by decide) ?_
    refine aw_icmp_ge C 104 dX5_wordOf_10 (by decide) (fun c_10 => absurd c_10 (nI_ge (b := 2) hi4 (by decide))) (fun c_10 => ?_)
    refine aw_aload_n C dX5_wordOf_13 rfl ?_
    refine aw_pc 14 rfl ?_
    refine aw_getf C 0 4 7 18 inX5 rfl (by decide) rfl k4_1 rfl rfl dX5_wordOf_14 ?_
    refine aw_top (y := (tkR f n p)) rfl ?_
    refine aw_iconst C (1 : Int32) dX5_wordOf_17 (by decide) ?_
    refine aw_icmp_ne C 104 dX5_wordOf_18 (by decide) (fun c_18 => ?_) (fun c_18 => ?_)
    · skip
      refine aw_iload_n C dX5_wordOf_104 rfl ?_
      exact aw_iret C hr hlk dX5_wordOf_105 ⟨ri (by exact hv4.elim (fun h4 => by subst h4; exact wO_x c_18) (fun h4 => absurd h4 c_18)), by rfl⟩
    · skip
      refine aw_lconst C (0 : Int64) dX5_wordOf_21 (by decide) ?_
      refine aw_lstore C true (lv' := [(0, .ref (y 0)), (1, .ref (y 8)), (2, .int (wOi othersF (vlR f n p) i)), (3, .int (nI i)), (4, .long (0 : Int64))]) dX5_wordOf_22 (by decide) rfl rfl ?_
      refine aw_iconst C (0 : Int32) dX5_wordOf_24 (by decide) ?_
      refine aw_istore C true (lv' := [(0, .ref (y 0)), (1, .ref (y 8)), (2, .int (wOi othersF (vlR f n p) i)), (3, .int (nI i)), (4, .long (0 : Int64)), (6, .int (0 : Int32))]) dX5_wordOf_25 (by decide) rfl rfl ?_
      refine aw_eq (lv' := [(0, .ref (y 0)), (1, .ref (y 8)), (2, .int (wOi othersF (vlR f n p) i)), (3, .int (nI i)), (4, .long (wvF othersF i 0)), (6, .int (nI 0))]) (ws' := wMo cI cC y sr (kr, ar, ik, F, f, n, (tkR f n p), p, (tkE f n p), (vlR f n p), s1, s2, s3, cr)) (by rfl) rfl (by rfl) ?_
      refine aw_loop (LV := fun j => [(0, .ref (y 0)), (1, .ref (y 8)), (2, .int (wOi othersF (vlR f n p) i)), (3, .int (nI i)), (4, .long (wvF othersF i j)), (6, .int (nI j))]) (WS := fun j => wMo cI cC y sr (kr, ar, ik, F, f, n, (tkR f n p), p, (tkE f n p), (vlR f n p), s1, s2, s3, cr)) 9 (Inv := fun _ => True) trivial ?_ ?_
      · intro hv27
        refine aw_iload C dX5_wordOf_27 rfl ?_
        refine aw_pc 29 rfl ?_
        refine aw_bipush C (9 : Int32) dX5_wordOf_29 (by decide) ?_
        refine aw_icmp_ge C 82 dX5_wordOf_31 (by decide) (fun c_31 => ?_) (fun c_31 => absurd c_31 (fun z => z (by decide)))
        refine aw_lload C dX5_wordOf_82 rfl ?_
        refine aw_aload_n C dX5_wordOf_84 rfl ?_
        refine aw_getf C 0 4 10 18 inX5 rfl (by decide) rfl k4_4 rfl rfl dX5_wordOf_85 ?_
        refine aw_topv (y := .long (vlR f n p)) rfl ?_
        refine aw_lcmp C dX5_wordOf_88 ?_
        refine aw_if_ne C 96 dX5_wordOf_89 (by decide) (fun c_89 => ?_) (fun c_89 => ?_)
        · skip
          refine aw_iload_n C dX5_wordOf_96 rfl ?_
          refine aw_istore_n C false (lv' := [(0, .ref (y 0)), (1, .ref (y 8)), (2, .int (wOi othersF (vlR f n p) i)), (3, .int (nI i)), (4, .long (wvF othersF i 9)), (6, .int (nI 9))]) dX5_wordOf_97 (by decide) rfl rfl ?_
          refine aw_iinc C (nI (i + 1)) dX5_wordOf_98 rfl (inc_nI _ 1) (by decide) rfl (lv' := [(0, .ref (y 0)), (1, .ref (y 8)), (2, .int (wOi othersF (vlR f n p) i)), (3, .int (nI (i + 1))), (4, .long (wvF othersF i 9)), (6, .int (nI 9))]) rfl ?_
          refine aw_pc 101 rfl ?_
          refine aw_goto C 4 dX5_wordOf_101 (by decide) ?_
          refine aw_sub (lv' := [(0, .ref (y 0)), (1, .ref (y 8)), (2, .int (wOi othersF (vlR f n p) i)), (3, .int (nI (i + 1)))]) [0, 1, 2, 3] rfl ?_
          exact aw_eq (by first | (rw [wO_y c_89]) | (rw [wO_n c_89])) rfl (by first | rfl | (simp only [itr, c_18, c_89] <;> first | done | rfl)) (ih4 (Or.inr c_18))
        · skip
          refine aw_iload_n C dX5_wordOf_92 rfl ?_
          refine aw_goto C 97 dX5_wordOf_93 (by decide) ?_
          refine aw_istore_n C false (lv' := [(0, .ref (y 0)), (1, .ref (y 8)), (2, .int (nI i)), (3, .int (nI i)), (4, .long (wvF othersF i 9)), (6, .int (nI 9))]) dX5_wordOf_97 (by decide) rfl rfl ?_
          refine aw_iinc C (nI (i + 1)) dX5_wordOf_98 rfl (inc_nI _ 1) (by decide) rfl (lv' := [(0, .ref (y 0)), (1, .ref (y 8)), (2, .int (nI i)), (3, .int (nI (i + 1))), (4, .long (wvF othersF i 9)), (6, .int (nI 9))]) rfl ?_
          refine aw_goto C 4 dX5_wordOf_101 (by decide) ?_
          refine aw_sub (lv' := [(0, .ref (y 0)), (1, .ref (y 8)), (2, .int (nI i)), (3, .int (nI (i + 1)))]) [0, 1, 2, 3] rfl ?_
          exact aw_eq (by first | (rw [wO_y c_89]) | (rw [wO_n c_89])) rfl (by first | rfl | (simp only [itr, c_18, c_89] <;> first | done | rfl)) (ih4 (Or.inr c_18))
      · intro j hi27 hv27 ih27
        refine aw_iload C dX5_wordOf_27 rfl ?_
        refine aw_bipush C (9 : Int32) dX5_wordOf_29 (by decide) ?_
        refine aw_icmp_ge C 82 dX5_wordOf_31 (by decide) (fun c_31 => absurd c_31 (nI_ge (b := 9) hi27 (by decide))) (fun c_31 => ?_)
        refine aw_aload_n C dX5_wordOf_34 rfl ?_
        refine aw_pc 35 rfl ?_
        refine aw_bipush C (9 : Int32) dX5_wordOf_35 (by decide) ?_
        refine aw_iload_n C dX5_wordOf_37 rfl ?_
        refine aw_imul C dX5_wordOf_38 ?_
        refine aw_iload C dX5_wordOf_39 rfl ?_
        refine aw_iadd C dX5_wordOf_41 ?_
        refine aw_caldN C 8 1 (9 * i + j) rfl rfl (w9_ix i j) (by omega) (by decide) dX5_wordOf_42 ?_
        refine aw_top (y := (othersF (9 * i + j))) rfl ?_
        refine aw_bipush C (32 : Int32) dX5_wordOf_43 (by decide) ?_
        refine aw_icmp_ne C 53 dX5_wordOf_45 (by decide) (fun c_45 => ?_) (fun c_45 => ?_)
        · skip
          refine aw_lload C dX5_wordOf_53 rfl ?_
          refine aw_ldc2 C k5_116 dX5_wordOf_55 ?_
          refine aw_pc 58 rfl ?_
          refine aw_lmul C dX5_wordOf_58 ?_
          refine aw_aload_n C dX5_wordOf_59 rfl ?_
          refine aw_bipush C (9 : Int32) dX5_wordOf_60 (by decide) ?_
          refine aw_iload_n C dX5_wordOf_62 rfl ?_
          refine aw_imul C dX5_wordOf_63 ?_
          refine aw_iload C dX5_wordOf_64 rfl ?_
          refine aw_iadd C dX5_wordOf_66 ?_
          refine aw_caldN C 8 1 (9 * i + j) rfl rfl (w9_ix i j) (by omega) (by decide) dX5_wordOf_67 ?_
          refine aw_top (y := (othersF (9 * i + j))) rfl ?_
          refine aw_i2l C dX5_wordOf_68 ?_
          refine aw_ladd C dX5_wordOf_69 ?_
          refine aw_pc 70 rfl ?_
          refine aw_ldc2 C k5_117 dX5_wordOf_70 ?_
          refine aw_lsub C dX5_wordOf_73 ?_
          refine aw_lstore C false (lv' := [(0, .ref (y 0)), (1, .ref (y 8)), (2, .int (wOi othersF (vlR f n p) i)), (3, .int (nI i)), (4, .long ((((wvF othersF i j) * (27 : Int64)) + ((othersF (9 * i + j)).toInt64)) - (96 : Int64))), (6, .int (nI j))]) dX5_wordOf_74 (by decide) rfl rfl ?_
          refine aw_iinc C (nI (j + 1)) dX5_wordOf_76 rfl (inc_nI _ 1) (by decide) rfl (lv' := [(0, .ref (y 0)), (1, .ref (y 8)), (2, .int (wOi othersF (vlR f n p) i)), (3, .int (nI i)), (4, .long ((((wvF othersF i j) * (27 : Int64)) + ((othersF (9 * i + j)).toInt64)) - (96 : Int64))), (6, .int (nI (j + 1)))]) rfl ?_
          refine aw_goto C 27 dX5_wordOf_79 (by decide) ?_
          exact aw_eq (by first | (rw [wv_b c_45]) | (rw [wv_n c_45] <;> rfl)) rfl (by first | rfl | (simp only [itr, c_18, c_45] <;> first | done | rfl)) (ih27 trivial)
        · skip
          refine aw_lload C dX5_wordOf_48 rfl ?_
          refine aw_goto C 74 dX5_wordOf_50 (by decide) ?_
          refine aw_lstore C false (lv' := [(0, .ref (y 0)), (1, .ref (y 8)), (2, .int (wOi othersF (vlR f n p) i)), (3, .int (nI i)), (4, .long (wvF othersF i j)), (6, .int (nI j))]) dX5_wordOf_74 (by decide) rfl rfl ?_
          refine aw_iinc C (nI (j + 1)) dX5_wordOf_76 rfl (inc_nI _ 1) (by decide) rfl (lv' := [(0, .ref (y 0)), (1, .ref (y 8)), (2, .int (wOi othersF (vlR f n p) i)), (3, .int (nI i)), (4, .long (wvF othersF i j)), (6, .int (nI (j + 1)))]) rfl ?_
          refine aw_goto C 27 dX5_wordOf_79 (by decide) ?_
          exact aw_eq (by first | (rw [wv_b c_45]) | (rw [wv_n c_45] <;> rfl)) rfl (by first | rfl | (simp only [itr, c_18, c_45] <;> first | done | rfl)) (ih27 trivial)
abbrev r_X5_takesNumber : Room := { frames := 3, cells := 0, slots := 0, locals := 62 }
theorem cv_X5_takesNumber : cV yX5_takesNumber cX5_takesNumber 4 (some .int) 2 := ⟨k5_138, k0_67, k5_139, k1_6, by decide, by decide, by decide +kernel⟩
set_option maxHeartbeats 4000000 in
set_option maxRecDepth 100000 in
theorem c_X5_takesNumber (l : Launch) (D : va_G) (cI cC : ClassId) (adK adV : Nat → Nat) (y : Nat → Nat) (sr : Nat → Int32) (kr : Nat → Int32) (ar : Nat → Int32) (ik : Bool) (F : Nat → Int32) (f : Nat → Int32) (n : Nat) (s1 : Nat → Int32) (s2 : Nat → Int32) (s3 : Nat → Int32) (cr : Nat → Int32) (p : Nat) (m : Nat) (hp : p ≤ n) (hn : n ≤ 120) (hm : m ≤ 100) : FC l yX5_takesNumber (wW yX5_takesNumber cX5_takesNumber 4 (some .int)) r_X5_takesNumber D (tyC cI cC) adK adV (wMo cI cC y sr (kr, ar, ik, F, f, n, (tkR f n p), p, (tkE f n p), (vlR f n p), s1, s2, s3, cr)) [.ref (y 0), .int (0 : Int32), .int (nI m - (1 : Int32))] 0 0 (fQ (some (.int (tkV f n p m))) (wMo cI cC y sr (kr, ar, ik, F, f, n, (tkR f n (tkP f n p m)), (tkP f n p m), (tkE f n (tkP f n p m)), (vlR f n (tkP f n p m)), s1, s2, s3, cr))) := by
  refine FC.of (own := RX5) (by decide) rfl (Nat.le_of_ble_eq_true rfl) ?_
  intro p9 e9 s9 m9 args9 below9 meth9 c9 A9 C hr hlk hmn
  show AW p9 l e9 r_X5_takesNumber s9 m9 args9 below9 meth9 c9 D A9 4 0 0 _ 0 [(0, .ref (y 0)), (1, .int (0 : Int32)), (2, .int (nI m - (1 : Int32)))] [] _
  refine aw_aload_n C dX5_takesNumber_0 rfl ?_
  refine aw_getf C 0 4 7 18 inX5 rfl (by decide) rfl k4_1 rfl rfl dX5_takesNumber_1 ?_
  refine aw_top (y := (tkR f n p)) rfl ?_
  refine aw_iconst C (2 : Int32) dX5_takesNumber_4 (by decide) ?_
  refine aw_icmp_ne C 29 dX5_takesNumber_5 (by decide) (fun c_5 => ?_) (fun c_5 => ?_)
  · skip
    refine aw_iconst C (-1 : Int32) dX5_takesNumber_29 (by decide) ?_
    refine aw_istore_n C true (lv' := [(0, .ref (y 0)), (1, .int (0 : Int32)), (2, .int (nI m - (1 : Int32))), (3, .int (-1 : Int32))]) dX5_takesNumber_30 (by decide) rfl rfl ?_
    refine aw_iload_n C dX5_takesNumber_31 rfl ?_
    refine aw_if_lt C 39 dX5_takesNumber_32 (by decide) (fun c_32 => ?_) (fun c_32 => absurd c_32 (by decide))
    refine aw_iload_n C dX5_takesNumber_39 rfl ?_
    refine aw_pc 40 rfl ?_
    exact aw_iret C hr hlk dX5_takesNumber_40 ⟨ri (by rw [tkV, num_n c_5 (by omega), cond_false]), by rw [tkP, num_n c_5 (by omega), cond_false]⟩
  · skip
    refine aw_aload_n C dX5_takesNumber_8 rfl ?_
    refine aw_getf C 0 4 10 18 inX5 rfl (by decide) rfl k4_4 rfl rfl dX5_takesNumber_9 ?_
    refine aw_topv (y := .long (vlR f n p)) rfl ?_
    refine aw_l2i C dX5_takesNumber_12 ?_
    refine aw_iload_n C dX5_takesNumber_13 rfl ?_
    refine aw_iload_n C dX5_takesNumber_14 rfl ?_
    refine aw_callSp C (As := [.int ((vlR f n p).toInt32), .int (0 : Int32), .int (nI m - (1 : Int32))]) (c_X5_in1 l D cI cC adK adV ((vlR f n p).toInt32) (0 : Int32) (nI m - (1 : Int32))) k4_54 cs_X5_in1 [] (by decide) rfl ⟨by decide, by decide⟩ rfl rfl ⟨by decide, by decide⟩ rfl rfl (Nat.le_of_ble_eq_true rfl) dX5_takesNumber_15 ?_
    refine aw_top (y := b2 (nB f n p (nI m))) (by exact congrArg b2 (tk_in c_5 (by omega))) ?_
    refine aw_ifeq_b C 29 dX5_takesNumber_18 (by decide) (fun c_18 => ?_) (fun c_18 => ?_)
    · skip
      refine aw_iconst C (-1 : Int32) dX5_takesNumber_29 (by decide) ?_
      refine aw_istore_n C true (lv' := [(0, .ref (y 0)), (1, .int (0 : Int32)), (2, .int (nI m - (1 : Int32))), (3, .int (-1 : Int32))]) dX5_takesNumber_30 (by decide) rfl rfl ?_
      refine aw_pc 31 rfl ?_
      refine aw_iload_n C dX5_takesNumber_31 rfl ?_
      refine aw_if_lt C 39 dX5_takesNumber_32 (by decide) (fun c_32 => ?_) (fun c_32 => absurd c_32 (by decide))
      refine aw_iload_n C dX5_takesNumber_39 rfl ?_
      exact aw_iret C hr hlk dX5_takesNumber_40 ⟨ri (by rw [tkV, c_18]; rfl), by rw [tkP, c_18]; rfl⟩
    · skip
      refine aw_aload_n C dX5_takesNumber_21 rfl ?_
      refine aw_getf C 0 4 10 18 inX5 rfl (by decide) rfl k4_4 rfl rfl dX5_takesNumber_22 ?_
      refine aw_topv (y := .long (vlR f n p)) rfl ?_
      refine aw_l2i C dX5_takesNumber_25 ?_
      refine aw_top (y := (nmV f n p)) (by exact num_v c_5) ?_
      refine aw_goto C 30 dX5_takesNumber_26 (by decide) ?_
      refine aw_istore_n C true (lv' := [(0, .ref (y 0)), (1, .int (0 : Int32)), (2, .int (nI m - (1 : Int32))), (3, .int (nmV f n p))]) dX5_takesNumber_30 (by decide) rfl rfl ?_
      refine aw_iload_n C dX5_takesNumber_31 rfl ?_
      refine aw_pc 32 rfl ?_
      refine aw_if_lt C 39 dX5_takesNumber_32 (by decide) (fun c_32 => absurd c_32 (nmV_nn f n p)) (fun c_32 => ?_)
      refine aw_aload_n C dX5_takesNumber_35 rfl ?_
      refine aw_callVdv C (As := []) (c_X5_nextTokenS l D cI cC adK adV y sr kr ar ik F f n s1 s2 s3 cr p hp hn) k5_108 cv_X5_nextToken 0 4 rfl rfl rfl [0, 1, 2, 3, 4, 5, 6, 7, 8, 9, 10, 11, 12] (by decide) rfl (wr := ([] : va_W)) [] rfl (by decide) (by decide) [0, 1, 2, 3, 4, 5, 6, 7, 8, 9, 10, 11, 12] (by decide) (ws' := wMo cI cC y sr (kr, ar, ik, F, f, n, (tkR f n (nx f n p)), (nx f n p), (tkE f n (nx f n p)), (vlR f n (nx f n p)), s1, s2, s3, cr)) rfl ⟨by decide, by decide⟩ rfl rfl ⟨by decide, by decide⟩ rfl rfl (Nat.le_of_ble_eq_true rfl) dX5_takesNumber_36 ?_
      refine aw_iload_n C dX5_takesNumber_39 rfl ?_
      exact aw_iret C hr hlk dX5_takesNumber_40 ⟨ri (by rw [tkV, c_18]; rfl), by rw [tkP, c_18]; rfl⟩
