/-! the reference: the tape, spots, images, counts (rows of the bits: pasted from the kit's starting texts) -/
def bt (x : Int32) (i : Nat) : Bool := x.toBitVec.getLsbD i
theorem b_ext {x y : Int32} (h : ∀ i, i < 32 → bt x i = bt y i) : x = y := Int32.toBitVec_inj.mp (BitVec.eq_of_getLsbD_eq (fun i hi => h i hi))
theorem b_and (x y : Int32) (i : Nat) : bt (x &&& y) i = (bt x i && bt y i) := by unfold bt; rw [Int32.toBitVec_and, BitVec.getLsbD_and]
theorem b_big {x : Int32} {i : Nat} (h : 32 ≤ i) : bt x i = false := BitVec.getLsbD_of_ge _ _ h
theorem b_255 (i : Nat) : bt 255 i = decide (i < 8) := by
  rcases Nat.lt_or_ge i 32 with h | h
  · exact (by decide +kernel : ∀ i, i < 32 → bt 255 i = decide (i < 8)) i h
  · rw [b_big h, decide_eq_false (by omega)]
theorem s_l : ∀ n, n < 32 → ((nI n &&& 31).toBitVec.smod 32).toNat = n := by decide +kernel
theorem s_u : ∀ n, n < 32 → (((nI n).toUInt32 &&& Int32.toUInt32 31).toBitVec % 32).toNat = n := by decide +kernel
theorem b_ushr (n : Nat) (hn : n < 32) (x : Int32) (i : Nat) : bt ((x.toUInt32 >>> ((nI n).toUInt32 &&& Int32.toUInt32 31)).toInt32) i = bt x (n + i) := by
  show (x.toUInt32 >>> ((nI n).toUInt32 &&& Int32.toUInt32 31)).toBitVec.getLsbD i = x.toUInt32.toBitVec.getLsbD (n + i)
  rw [UInt32.toBitVec_shiftRight]
  show (x.toUInt32.toBitVec >>> (((nI n).toUInt32 &&& Int32.toUInt32 31).toBitVec % 32).toNat).getLsbD i = _
  rw [s_u n hn, BitVec.getLsbD_ushiftRight]
theorem b_sshr (n : Nat) (hn : n < 32) (x : Int32) {i : Nat} (hi : i < 32) : bt (x >>> (nI n &&& 31)) i = if n + i < 32 then bt x (n + i) else bt x 31 := by
  unfold bt
  rw [Int32.toBitVec_shiftRight]
  show (x.toBitVec.sshiftRight ((nI n &&& 31).toBitVec.smod 32).toNat).getLsbD i = _
  rw [s_l n hn, BitVec.getLsbD_sshiftRight, BitVec.msb_eq_getLsbD_last]
  simp [hi]
theorem us_sh (b : Int32) (n : Nat) (hn : n ≤ 24) : (b >>> (nI n &&& 31)) &&& 255 = us b (nI n) &&& 255 := by
  refine b_ext (fun i hi => ?_)
  rw [b_and, b_and, b_255]
  by_cases h : i < 8
  · rw [decide_eq_true h, b_sshr n (by omega) b hi, if_pos (by omega), us, b_ushr n (by omega)]
  · rw [decide_eq_false h, Bool.and_false, Bool.and_false]
theorem fd_sh (b : Int32) {k j : Nat} (h : j < k) (hk : k ≤ 4) : (b >>> (((8 : Int32) * (nI (k - j) - (1 : Int32))) &&& 31)) &&& (255 : Int32) = us b ((8 : Int32) * (nI (k - j) - (1 : Int32))) &&& (255 : Int32) := by
  rw [dn1 h, show (8 : Int32) = nI 8 from rfl, pk_mul]
  exact us_sh b _ (by omega)
theorem fd_c {n k : Nat} (hn : n ≤ 120) (hk : k ≤ 4) : nI n + nI k ≤ 120 ↔ nI k ≤ 120 - nI n := by
  rw [nI_add, show (120 : Int32) = nI 120 from rfl, pk_sub hn, nI_leI (by omega) (by omega), nI_leI (by omega) (by omega)]
  omega
theorem sp_ix (s : Nat) : (60 : Int32) + nI s = nI (60 + s) := by
  rw [show (60 : Int32) = nI 60 from rfl, nI_add]
/-- a spot holds nothing, or one who is there -/
def spOk (T : Tw) : Prop := ∀ j, j < 10 → T.2.2.2 j = -1 ∨ ∃ p, p < T.1 ∧ T.2.2.2 j = nI p
theorem sp_t {T : Tw} {j : Nat} (h : spOk T) (hn : T.1 ≤ 8) (hj : j < 10) (c : 0 ≤ T.2.2.2 j) : mThere T (T.2.2.2 j) = true := by
  rcases h j hj with e | ⟨p, hp, e⟩
  · rw [e] at c; exact absurd c (by decide)
  · rw [e]; exact there_nI hn hp
theorem sp_f {T : Tw} {j : Nat} (h : spOk T) (hn : T.1 ≤ 8) (hj : j < 10) (c : ¬ 0 ≤ T.2.2.2 j) : mThere T (T.2.2.2 j) = false := by
  rcases h j hj with e | ⟨p, hp, e⟩
  · rw [e]; unfold mThere in0; rfl
  · rw [e] at c; exact absurd (nI_pos' (by omega)) c
def rAb (x : Int32) : Int32 := if x = 3 then 2 else if x = 4 then 3 else if x = 6 then 1 else 0
def rSt (k0 i : Nat) : Int32 := itr (fun _ x9 => rAb x9) i (nI k0)
theorem un_3 : ∀ k0, k0 < 7 → rSt k0 3 = 0 := by decide +kernel
def unB (k0 u i : Nat) : Bool := allB (fun j => !decide (rSt k0 j = nI u) && !decide (rSt k0 j = 0)) i
theorem un_b {k0 u i : Nat} (h : ∀ j, j < i → ¬ rSt k0 j = nI u ∧ ¬ rSt k0 j = 0) : unB k0 u i = true := allB_iff.mpr (fun j hj => by rw [decide_eq_false (h j hj).1, decide_eq_false (h j hj).2]; rfl)
theorem un_yB : ∀ k0, k0 < 7 → ∀ u, u < 7 → ∀ i, i < 4 → (!unB k0 u i || (!decide (rSt k0 i = nI u) || mUnder (nI k0) (nI u))) = true := by decide +kernel
theorem un_nB : ∀ k0, k0 < 7 → ∀ u, u < 7 → ∀ i, i < 4 → (!unB k0 u i || (!decide (rSt k0 i = 0) || (decide (rSt k0 i = nI u) || !mUnder (nI k0) (nI u)))) = true := by decide +kernel
theorem un_y (k0 : Nat) (h0 : k0 < 7) (u : Nat) (hu : u < 7) (i : Nat) (hi : i < 4) (h : ∀ j, j < i → ¬ rSt k0 j = nI u ∧ ¬ rSt k0 j = 0) (e : rSt k0 i = nI u) : mUnder (nI k0) (nI u) = true := by
  have q := un_yB k0 h0 u hu i hi
  rw [un_b h, decide_eq_true e] at q
  exact q
theorem un_n (k0 : Nat) (h0 : k0 < 7) (u : Nat) (hu : u < 7) (i : Nat) (hi : i < 4) (h : ∀ j, j < i → ¬ rSt k0 j = nI u ∧ ¬ rSt k0 j = 0) (e : rSt k0 i = 0) (n : ¬ rSt k0 i = nI u) : mUnder (nI k0) (nI u) = false := by
  have q := un_nB k0 h0 u hu i hi
  rw [un_b h, decide_eq_true e, decide_eq_false n] at q
  cases c : mUnder (nI k0) (nI u) with
  | false => rfl
  | true => rw [c] at q; exact absurd q (by decide)
theorem as_a {G : Sg} {s k : Int32} (h : in0 s 10 = false) : m_as G s k = gno G 0 := by unfold m_as; rw [h, Bool.false_and, cond_false]
theorem as_b {G : Sg} {s k : Int32} (h : in0 k 7 = false) : m_as G s k = gno G 0 := by unfold m_as; rw [h, Bool.and_false, cond_false]
theorem as_m {G : Sg} {s k : Int32} (h : in0 s 10 = true) (h2 : in0 k 7 = true) (h3 : mThere G.1 (G.1.2.2.2 (ix s)) = false) : m_as G s k = gno G 5 := by unfold m_as; rw [h, h2, h3, Bool.and_self, cond_true, cond_false]
theorem as_n {G : Sg} {s k : Int32} (h : in0 s 10 = true) (h2 : in0 k 7 = true) (h3 : mThere G.1 (G.1.2.2.2 (ix s)) = true) (h4 : mUnder (G.1.2.2.1 0 (ix (G.1.2.2.2 (ix s)))) k = false) : m_as G s k = gno G 2 := by
  have h4 : mUnder (mTrait G.1 (ix (G.1.2.2.2 (ix s))) 0) k = false := h4
  unfold m_as; rw [h, h2, h3, h4, Bool.and_self, cond_true, cond_true, cond_false]
theorem as_y {G : Sg} {s k : Int32} (h : in0 s 10 = true) (h2 : in0 k 7 = true) (h3 : mThere G.1 (G.1.2.2.2 (ix s)) = true) (h4 : mUnder (G.1.2.2.1 0 (ix (G.1.2.2.2 (ix s)))) k = true) : m_as G s k = (nI (ix (G.1.2.2.2 (ix s))), G) := by
  have h4 : mUnder (mTrait G.1 (ix (G.1.2.2.2 (ix s))) 0) k = true := h4
  unfold m_as; rw [h, h2, h3, h4, Bool.and_self, cond_true, cond_true, cond_true, ← there_ix h3]
theorem held_a {T : Tw} {i : Nat} {x : Int32} (h : spOk T) (hn : T.1 ≤ 8) (hi : i < 10) (c : T.2.2.2 i < 0) : (bif decide (T.2.2.2 i = -1) then x else x + 1) = x + 0 := by
  rcases h i hi with e | ⟨p, hp, e⟩
  · rw [decide_eq_true e, Int32.add_zero]; rfl
  · rw [e] at c; exact absurd c (nI_pos (by omega))
theorem held_b {T : Tw} {i : Nat} {x : Int32} (c : ¬ T.2.2.2 i < 0) : (bif decide (T.2.2.2 i = -1) then x else x + 1) = x + 1 := by
  rw [decide_eq_false (fun e => c (by rw [e]; decide))]; rfl
def stF (F : Nat → Int32) (w : Int32) (k : Nat) : Int32 := itr (fun k x => x + (if w = -1 ∨ w = nI k then F k else 0)) k 0
theorem stF_a {F : Nat → Int32} {w : Int32} {k : Nat} (h : w = -1) : stF F w (k + 1) = stF F w k + F k := by show _ + (if _ then _ else _) = _; rw [if_pos (Or.inl h)]; rfl
theorem stF_b {F : Nat → Int32} {w : Int32} {k : Nat} (h : w = nI k) : stF F w (k + 1) = stF F w k + F k := by show _ + (if _ then _ else _) = _; rw [if_pos (Or.inr h)]; rfl
theorem stF_c {F : Nat → Int32} {w : Int32} {k : Nat} (h : ¬ w = -1) (h2 : ¬ w = nI k) : stF F w (k + 1) = stF F w k + 0 := by show _ + (if _ then _ else _) = _; rw [if_neg (fun z => z.elim h h2)]; rfl
theorem stF_1 {F : Nat → Int32} {w : Int32} (h : w = -1) : ∀ k, stF F w k = itr (fun k x => x + F k) k 0
  | 0 => rfl
  | k + 1 => by rw [stF_a h, stF_1 h k]; rfl
theorem stF_2 {F : Nat → Int32} {j : Nat} (hj : j < 7) : ∀ k, k < 8 → stF F (nI j) k = if j < k then F j else 0
  | 0, _ => rfl
  | k + 1, hk => by
    have n1 : ¬ nI j = -1 := fun z => by have := nI_pos' (n := j) (by omega); rw [z] at this; exact absurd this (by decide)
    by_cases e : j = k
    · subst e
      rw [stF_b rfl, stF_2 hj j (by omega), if_neg (Nat.lt_irrefl _), if_pos (by omega), Int32.zero_add]
    · have n2 : ¬ nI j = nI k := fun z => e (by have := congrArg (fun q : Int32 => q.toNatClampNeg) z; have this : ix (nI j) = ix (nI k) := this; rwa [ix_nI (by omega), ix_nI (by omega)] at this)
      rw [stF_c n1 n2, stF_2 hj k (by omega), Int32.add_zero]
      by_cases q : j < k
      · rw [if_pos q, if_pos (by omega)]
      · rw [if_neg q, if_neg (by omega)]
theorem st_n {G : Sg} {w : Int32} (h : (!decide (w < -1) && decide (w ≤ 6)) = false) : m_status G w = gno G 0 := by
  have n1 : ¬ w = -1 := fun e => by subst e; exact absurd h (by decide)
  have n2 : in0 w 7 = false := by
    cases c : in0 w 7 with
    | false => rfl
    | true =>
      exfalso
      obtain ⟨e, hl⟩ := in0_ix (n := 7) (by decide) c
      rw [e] at h
      exact absurd h ((by decide +kernel : ∀ j, j < 7 → ¬ (!decide (nI j < -1) && decide (nI j ≤ 6)) = false) (ix w) hl)
  unfold m_status
  rw [if_neg n1, n2, cond_false]
theorem st_e {G : Sg} {w : Int32} (h : (!decide (w < -1) && decide (w ≤ 6)) = true) : m_status G w = (stF G.2.2.2.1 w 7, G) := by
  unfold m_status
  by_cases n1 : w = -1
  · rw [if_pos n1, stF_1 n1]
  · rw [if_neg n1]
    have h1 := (nd_and h).1
    have h2 := (nd_and h).2
    have h0 : ¬ w < 0 := by
      intro z
      apply n1
      apply Int32.toInt_inj.mp
      rw [Int32.lt_iff_toInt_lt] at h1 z
      have a : (-1 : Int32).toInt = -1 := by decide
      have b : (0 : Int32).toInt = 0 := by decide
      rw [a] at h1 ⊢
      rw [b] at z
      omega
    obtain ⟨j, hj, rfl⟩ := nI_of h0
    have hj6 : j ≤ 6 := (nI_leI hj (by decide)).mp h2
    rw [show in0 (nI j) 7 = true from in0_nI (n := 7) (by decide) (by omega), cond_true, ix_nI hj, stF_2 (by omega) 7 (by decide), if_pos (by omega)]

abbrev r_X5_feed : Room := { frames := 1, cells := 0, slots := 0, locals := 22 }
theorem cv_X5_feed : cV yX5_feed cX5_feed 4 (some .int) 2 := ⟨k5_97, k5_98, k5_99, k1_6, by decide, by decide, by decide +kernel⟩
set_option maxHeartbeats 4000000 in
set_option maxRecDepth 100000 in
theorem c_X5_feed (l : Launch) (D : va_G) (cI cC : ClassId) (adK adV : Nat → Nat) (y : Nat → Nat) (T K : Tw) (ik : Bool) (F f : Nat → Int32) (n : Nat) (s1 s2 s3 kr ar : Nat → Int32) (tk : Int32) (bg en : Nat) (vl : Int64) (cr : Nat → Int32) (hk : ik = true → kr = rowOf K) (ho : gOk T) (b : Int32) (k : Int32) (hT : n ≤ 120) : FC l yX5_feed (wW yX5_feed cX5_feed 4 (some .int)) r_X5_feed D (tyC cI cC) adK adV (wMo cI cC y (rowOf T) (kr, ar, ik, F, f, n, tk, bg, en, vl, s1, s2, s3, cr)) [.ref (y 0), .int b, .int k] 0 0 (pMo cI cC y (m_feed (T, K, ik, F, f, n, s1, s2, s3) b k)) := by
  refine FC.of (own := RX5) (by decide) rfl (Nat.le_of_ble_eq_true rfl) ?_
  intro p9 e9 s9 m9 args9 below9 meth9 c9 A9 C hr hlk hmn
  show AW p9 l e9 r_X5_feed s9 m9 args9 below9 meth9 c9 D A9 4 0 0 _ 0 [(0, .ref (y 0)), (1, .int b), (2, .int k)] [] _
  have hn := ho.n
  refine aw_iload_n C dX5_feed_0 rfl ?_
  refine aw_iconst C (1 : Int32) dX5_feed_1 (by decide) ?_
  refine aw_iconst C (4 : Int32) dX5_feed_2 (by decide) ?_
  refine aw_callSp C (As := [.int k, .int (1 : Int32), .int (4 : Int32)]) (c_X5_in1 l D cI cC adK adV k (1 : Int32) (4 : Int32)) k4_54 cs_X5_in1 [] (by decide) rfl ⟨by decide, by decide⟩ rfl rfl ⟨by decide, by decide⟩ rfl rfl (Nat.le_of_ble_eq_true rfl) dX5_feed_3 ?_
  refine aw_top (y := b2 (!decide (k < (1 : Int32)) && decide (k ≤ (4 : Int32)))) (by exact congrArg b2 (inL_le _ _ _)) ?_
  refine aw_ifne_b C 15 dX5_feed_6 (by decide) (fun c_6 => ?_) (fun c_6 => ?_)
  · skip
    have l1 : ix k ≤ 4 := le_b c_6 (le_1 c_6) (by decide)
    have ek := ix_eq (le_1 c_6)
    have e1 : k = nI (ix k) := ix_eq (le_1 c_6)
    refine aw_eq (lv' := [(0, .ref (y 0)), (1, .int b), (2, .int (nI (ix k)))]) (ws' := wMo cI cC y (rowOf T) (kr, ar, ik, F, f, n, tk, bg, en, vl, s1, s2, s3, cr)) (by rw [← e1]) rfl rfl ?_
    refine aw_aload_n C dX5_feed_15 rfl ?_
    refine aw_getf C 0 4 6 18 inX5 rfl (by decide) rfl k4_0 rfl rfl dX5_feed_16 ?_
    refine aw_top (y := (nI n)) rfl ?_
    refine aw_iload_n C dX5_feed_19 rfl ?_
    refine aw_iadd C dX5_feed_20 ?_
    refine aw_pc 21 rfl ?_
    refine aw_bipush C (120 : Int32) dX5_feed_21 (by decide) ?_
    refine aw_icmp_le C 32 dX5_feed_23 (by decide) (fun c_23 => ?_) (fun c_23 => ?_)
    · skip
      have c9 : k ≤ 120 - nI n := by rw [ek]; exact (fd_c hT l1).mp c_23
      have l2 := room_le hT (le_1 c_6) (by rw [ek]; exact nI_le l1 (by decide)) c9
      refine aw_iload_n C dX5_feed_32 rfl ?_
      refine aw_iconst C (1 : Int32) dX5_feed_33 (by decide) ?_
      refine aw_isub C dX5_feed_34 ?_
      refine aw_istore_n C true (lv' := [(0, .ref (y 0)), (1, .int b), (2, .int (nI (ix k))), (3, .int ((nI (ix k)) - (1 : Int32)))]) dX5_feed_35 (by decide) rfl rfl ?_
      refine aw_eq (lv' := [(0, .ref (y 0)), (1, .int b), (2, .int (nI (ix k))), (3, .int (nI (ix k - 0) - (1 : Int32)))]) (ws' := wMo cI cC y (rowOf T) (kr, ar, ik, F, (tpF b (ix k) n 0 f), (n + 0), tk, bg, en, vl, s1, s2, s3, cr)) (by rfl) rfl (by rfl) ?_
      refine aw_loop (LV := fun i0 => [(0, .ref (y 0)), (1, .int b), (2, .int (nI (ix k))), (3, .int (nI (ix k - i0) - (1 : Int32)))]) (WS := fun i0 => wMo cI cC y (rowOf T) (kr, ar, ik, F, (tpF b (ix k) n i0 f), (n + i0), tk, bg, en, vl, s1, s2, s3, cr)) (ix k) (Inv := fun _ => True) trivial ?_ ?_
      · intro hv36
        refine aw_iload_n C dX5_feed_36 rfl ?_
        refine aw_if_lt C 75 dX5_feed_37 (by decide) (fun c_37 => ?_) (fun c_37 => absurd c_37 (fun z => z (by rw [Nat.sub_self]; decide)))
        refine aw_aload_n C dX5_feed_75 rfl ?_
        refine aw_getf C 0 4 6 18 inX5 rfl (by decide) rfl k4_0 rfl rfl dX5_feed_76 ?_
        refine aw_top (y := (nI (n + (ix k)))) rfl ?_
        refine aw_pc 79 rfl ?_
        have hm : m_feed (T, K, ik, F, f, n, s1, s2, s3) b k = ((nI (n + (ix k))), (T, K, ik, F, (tpF b (ix k) n (ix k) f), (n + (ix k)), s1, s2, s3)) := by simp only [m_feed, c_6, c9, decide_true, decide_false, Bool.not_true, Bool.not_false, Bool.true_and, Bool.false_and, Bool.and_true, Bool.and_false, Bool.true_or, Bool.false_or, Bool.or_true, Bool.or_false, cond_true, cond_false, eq_self, if_true, if_false, ite_true, ite_false] <;> rfl
        exact aw_iret C hr hlk dX5_feed_79 ⟨ri (by rw [hm]), kr, ar, tk, bg, en, vl, cr, by first | (rw [hm]; done) | (rw [hm]; rfl), by rw [hm]; exact hk⟩
      · intro i0 hi36 hv36 ih36
        refine aw_iload_n C dX5_feed_36 rfl ?_
        refine aw_if_lt C 75 dX5_feed_37 (by decide) (fun c_37 => absurd c_37 ((by rw [dn1 hi36]; exact nI_pos (by omega)))) (fun c_37 => ?_)
        refine aw_aload_n C dX5_feed_40 rfl ?_
        refine aw_getf C 0 4 5 18 inX5 rfl (by decide) rfl k3_239 rfl rfl dX5_feed_41 ?_
        refine aw_aload_n C dX5_feed_44 rfl ?_
        refine aw_getf C 0 4 6 18 inX5 rfl (by decide) rfl k4_0 rfl rfl dX5_feed_45 ?_
        refine aw_top (y := (nI (n + i0))) rfl ?_
        refine aw_iload_n C dX5_feed_48 rfl ?_
        refine aw_bipush C (8 : Int32) dX5_feed_49 (by decide) ?_
        refine aw_iload_n C dX5_feed_51 rfl ?_
        refine aw_pc 52 rfl ?_
        refine aw_imul C dX5_feed_52 ?_
        refine aw_ishr C dX5_feed_53 ?_
        refine aw_sipush C (255 : Int32) dX5_feed_54 (by decide) ?_
        refine aw_iand C dX5_feed_57 ?_
        refine aw_top (y := (us b ((8 : Int32) * (nI (ix k - i0) - (1 : Int32))) &&& (255 : Int32))) (by exact fd_sh b hi36 l1) ?_
        refine aw_iastN C 5 0 (n + i0) rfl rfl rfl (by omega) (by decide) (ws' := wMo cI cC y (rowOf T) (kr, ar, ik, F, (upd (tpF b (ix k) n i0 f) (n + i0) (us b ((8 : Int32) * (nI (ix k - i0) - (1 : Int32))) &&& (255 : Int32))), (n + i0), tk, bg, en, vl, s1, s2, s3, cr)) (mo_set5 ..) dX5_feed_58 ?_
        refine aw_aload_n C dX5_feed_59 rfl ?_
        refine aw_dup C dX5_feed_60 rfl ?_
        refine aw_getf C 0 4 6 18 inX5 rfl (by decide) rfl k4_0 rfl rfl dX5_feed_61 ?_
        refine aw_top (y := (nI (n + i0))) rfl ?_
        refine aw_iconst C (1 : Int32) dX5_feed_64 (by decide) ?_
        refine aw_iadd C dX5_feed_65 ?_
        refine aw_pc 66 rfl ?_
        refine aw_top (y := (nI (n + i0 + 1))) (by exact nI_1 _) ?_
        refine aw_putf C 0 4 6 18 tyX5 inX5 tyX5_ok nmX5 rfl (by decide) rfl k4_0 rfl rfl rfl rfl rfl (Nat.le_of_ble_eq_true rfl) (ws' := wMo cI cC y (rowOf T) (kr, ar, ik, F, (upd (tpF b (ix k) n i0 f) (n + i0) (us b ((8 : Int32) * (nI (ix k - i0) - (1 : Int32))) &&& (255 : Int32))), (n + i0 + 1), tk, bg, en, vl, s1, s2, s3, cr)) rfl dX5_feed_66 ?_
        refine aw_iinc C (nI (ix k - (i0 + 1)) - (1 : Int32)) dX5_feed_69 rfl (dn2 hi36) (by decide) rfl (lv' := [(0, .ref (y 0)), (1, .int b), (2, .int (nI (ix k))), (3, .int (nI (ix k - (i0 + 1)) - (1 : Int32)))]) rfl ?_
        refine aw_goto C 36 dX5_feed_72 (by decide) ?_
        exact aw_eq (by first | rfl | (simp only [itr, c_6, c_23])) rfl (by first | rfl | (simp only [itr, c_6, c_23] <;> first | done | rfl)) (ih36 trivial)
    · skip
      have c9 : ¬ k ≤ 120 - nI n := fun z => c_23 ((fd_c hT l1).mpr (by rw [← ek]; exact z))
      refine aw_aload_n C dX5_feed_26 rfl ?_
      refine aw_iconst C (1 : Int32) dX5_feed_27 (by decide) ?_
      refine aw_callVd C (As := [.int (1 : Int32)]) (c_X5_no l D cI cC adK adV y T (kr, ar, ik, F, f, n, tk, bg, en, vl, s1, s2, s3, cr) 1 (by decide)) k4_60 cv_X5_no 0 4 rfl rfl rfl [0, 1, 2, 3, 4, 5, 6, 7, 8, 9, 10, 11, 12] (by decide) rfl (wr := ([] : va_W)) [] rfl (by decide) (by decide) [0, 1, 2, 3, 4, 5, 6, 7, 8, 9, 10, 11, 12] (by decide) (ws' := wMo cI cC y (rowOf T) (kr, ar, ik, (upd F 1 (F 1 + 1)), f, n, tk, bg, en, vl, s1, s2, s3, cr)) rfl ⟨by decide, by decide⟩ rfl rfl ⟨by decide, by decide⟩ rfl rfl (Nat.le_of_ble_eq_true rfl) dX5_feed_28 ?_
      have hm : m_feed (T, K, ik, F, f, n, s1, s2, s3) b k = ((fno 1), (T, K, ik, (upd F 1 (F 1 + 1)), f, n, s1, s2, s3)) := by simp only [m_feed, c_6, c9, decide_true, decide_false, Bool.not_true, Bool.not_false, Bool.true_and, Bool.false_and, Bool.and_true, Bool.and_false, Bool.true_or, Bool.false_or, Bool.or_true, Bool.or_false, cond_true, cond_false, eq_self, if_true, if_false, ite_true, ite_false] <;> rfl
      exact aw_iret C hr hlk dX5_feed_31 ⟨ri (by rw [hm]), kr, ar, tk, bg, en, vl, cr, by first | (rw [hm]; done) | (rw [hm]; rfl), by rw [hm]; exact hk⟩
  · skip
    refine aw_aload_n C dX5_feed_9 rfl ?_
    refine aw_iconst C (0 : Int32) dX5_feed_10 (by decide) ?_
    refine aw_callVd C (As := [.int (0 : Int32)]) (c_X5_no l D cI cC adK adV y T (kr, ar, ik, F, f, n, tk, bg, en, vl, s1, s2, s3, cr) 0 (by decide)) k4_60 cv_X5_no 0 4 rfl rfl rfl [0, 1, 2, 3, 4, 5, 6, 7, 8, 9, 10, 11, 12] (by decide) rfl (wr := ([] : va_W)) [] rfl (by decide) (by decide) [0, 1, 2, 3, 4, 5, 6, 7, 8, 9, 10, 11, 12] (by decide) (ws' := wMo cI cC y (rowOf T) (kr, ar, ik, (upd F 0 (F 0 + 1)), f, n, tk, bg, en, vl, s1, s2, s3, cr)) rfl ⟨by decide, by decide⟩ rfl rfl ⟨by decide, by decide⟩ rfl rfl (Nat.le_of_ble_eq_true rfl) dX5_feed_11 ?_
    refine aw_pc 14 rfl ?_
    have hm : m_feed (T, K, ik, F, f, n, s1, s2, s3) b k = ((fno 0), (T, K, ik, (upd F 0 (F 0 + 1)), f, n, s1, s2, s3)) := by simp only [m_feed, c_6, decide_true, decide_false, Bool.not_true, Bool.not_false, Bool.true_and, Bool.false_and, Bool.and_true, Bool.and_false, Bool.true_or, Bool.false_or, Bool.or_true, Bool.or_false, cond_true, cond_false, eq_self, if_true, if_false, ite_true, ite_false] <;> rfl
    exact aw_iret C hr hlk dX5_feed_14 ⟨ri (by rw [hm]), kr, ar, tk, bg, en, vl, cr, by first | (rw [hm]; done) | (rw [hm]; rfl), by rw [hm]; exact hk⟩
abbrev r_X5_wipe : Room := { frames := 0, cells := 0, slots := 0, locals := 0 }
theorem cv_X5_wipe : cV yX5_wipe cX5_wipe 2 (some .int) 0 := ⟨k5_101, k5_102, k5_103, k1_6, by decide, by decide, by decide +kernel⟩
set_option maxHeartbeats 4000000 in
set_option maxRecDepth 100000 in
theorem c_X5_wipe (l : Launch) (D : va_G) (cI cC : ClassId) (adK adV : Nat → Nat) (y : Nat → Nat) (T K : Tw) (ik : Bool) (F f : Nat → Int32) (n : Nat) (s1 s2 s3 kr ar : Nat → Int32) (tk : Int32) (bg en : Nat) (vl : Int64) (cr : Nat → Int32) (hk : ik = true → kr = rowOf K) (ho : gOk T)  : FC l yX5_wipe (wW yX5_wipe cX5_wipe 2 (some .int)) r_X5_wipe D (tyC cI cC) adK adV (wMo cI cC y (rowOf T) (kr, ar, ik, F, f, n, tk, bg, en, vl, s1, s2, s3, cr)) [.ref (y 0)] 0 0 (pMo cI cC y (m_wipe (T, K, ik, F, f, n, s1, s2, s3))) := by
  refine FC.of (own := RX5) (by decide) rfl (Nat.le_of_ble_eq_true rfl) ?_
  intro p9 e9 s9 m9 args9 below9 meth9 c9 A9 C hr hlk hmn
  show AW p9 l e9 r_X5_wipe s9 m9 args9 below9 meth9 c9 D A9 2 0 0 _ 0 [(0, .ref (y 0))] [] _
  have hn := ho.n
  refine aw_aload_n C dX5_wipe_0 rfl ?_
  refine aw_getf C 0 4 6 18 inX5 rfl (by decide) rfl k4_0 rfl rfl dX5_wipe_1 ?_
  refine aw_top (y := (nI n)) rfl ?_
  refine aw_istore_n C true (lv' := [(0, .ref (y 0)), (1, .int (nI n))]) dX5_wipe_4 (by decide) rfl rfl ?_
  refine aw_aload_n C dX5_wipe_5 rfl ?_
  refine aw_iconst C (0 : Int32) dX5_wipe_6 (by decide) ?_
  refine aw_putf C 0 4 6 18 tyX5 inX5 tyX5_ok nmX5 rfl (by decide) rfl k4_0 rfl rfl rfl rfl rfl (Nat.le_of_ble_eq_true rfl) (ws' := wMo cI cC y (rowOf T) (kr, ar, ik, F, f, 0, tk, bg, en, vl, s1, s2, s3, cr)) rfl dX5_wipe_7 ?_
  refine aw_iload_n C dX5_wipe_10 rfl ?_
  have hm : m_wipe (T, K, ik, F, f, n, s1, s2, s3) = ((nI n), (T, K, ik, F, f, 0, s1, s2, s3)) := by rfl
  exact aw_iret C hr hlk dX5_wipe_11 ⟨ri (by rw [hm]), kr, ar, tk, bg, en, vl, cr, by first | (rw [hm]; done) | (rw [hm]; rfl), by rw [hm]; exact hk⟩
abbrev r_X5_isSpot : Room := { frames := 1, cells := 0, slots := 0, locals := 22 }
theorem cs_X5_isSpot : cS yX5_isSpot cX5_isSpot 1 (some .boolean) 1 := ⟨k5_149, k5_150, k1_6, by decide, by decide, by decide +kernel⟩
set_option maxHeartbeats 4000000 in
set_option maxRecDepth 100000 in
theorem c_X5_isSpot (l : Launch) (D : va_G) (cI cC : ClassId) (adK adV : Nat → Nat) (v : Int32) : FC l yX5_isSpot (wW yX5_isSpot cX5_isSpot 1 (some .boolean)) r_X5_isSpot D (tyC cI cC) adK adV (([] : va_W)) [.int v] 0 0 (fQ (some (.int (b2 (in0 v 10)))) (([] : va_W))) := by
  refine FC.of (own := RX5) (by decide) rfl (Nat.le_of_ble_eq_true rfl) ?_
  intro p9 e9 s9 m9 args9 below9 meth9 c9 A9 C hr hlk hmn
  show AW p9 l e9 r_X5_isSpot s9 m9 args9 below9 meth9 c9 D A9 1 0 0 _ 0 [(0, .int v)] [] _
  refine aw_iload_n C dX5_isSpot_0 rfl ?_
  refine aw_iconst C (0 : Int32) dX5_isSpot_1 (by decide) ?_
  refine aw_bipush C (9 : Int32) dX5_isSpot_2 (by decide) ?_
  refine aw_callSp C (As := [.int v, .int (0 : Int32), .int (9 : Int32)]) (c_X5_in1 l D cI cC adK adV v (0 : Int32) (9 : Int32)) k4_54 cs_X5_in1 [] (by decide) rfl ⟨by decide, by decide⟩ rfl rfl ⟨by decide, by decide⟩ rfl rfl (Nat.le_of_ble_eq_true rfl) dX5_isSpot_4 ?_
  exact aw_bret C (b := (inL v (0 : Int32) (9 : Int32))) hr hlk dX5_isSpot_7 rfl ⟨rb (by exact inL_in0 v (n := 10) (by decide) (by decide)), by rfl⟩
abbrev r_X5_above : Room := { frames := 0, cells := 0, slots := 0, locals := 0 }
theorem cs_X5_above : cS yX5_above cX5_above 1 (some .int) 1 := ⟨k5_156, k5_157, k1_6, by decide, by decide, by decide +kernel⟩
set_option maxHeartbeats 4000000 in
set_option maxRecDepth 100000 in
theorem c_X5_above (l : Launch) (D : va_G) (cI cC : ClassId) (adK adV : Nat → Nat) (v : Int32) : FC l yX5_above (wW yX5_above cX5_above 1 (some .int)) r_X5_above D (tyC cI cC) adK adV (([] : va_W)) [.int v] 0 0 (fQ (some (.int (rAb v))) (([] : va_W))) := by
  refine FC.of (own := RX5) (by decide) rfl (Nat.le_of_ble_eq_true rfl) ?_
  intro p9 e9 s9 m9 args9 below9 meth9 c9 A9 C hr hlk hmn
  show AW p9 l e9 r_X5_above s9 m9 args9 below9 meth9 c9 D A9 1 0 0 _ 0 [(0, .int v)] [] _
  refine aw_iload_n C dX5_above_0 rfl ?_
  refine aw_iconst C (3 : Int32) dX5_above_1 (by decide) ?_
  refine aw_icmp_ne C 9 dX5_above_2 (by decide) (fun c_2 => ?_) (fun c_2 => ?_)
  · skip
    refine aw_iload_n C dX5_above_9 rfl ?_
    refine aw_iconst C (4 : Int32) dX5_above_10 (by decide) ?_
    refine aw_icmp_ne C 18 dX5_above_11 (by decide) (fun c_11 => ?_) (fun c_11 => ?_)
    · skip
      refine aw_iload_n C dX5_above_18 rfl ?_
      refine aw_bipush C (6 : Int32) dX5_above_19 (by decide) ?_
      refine aw_icmp_ne C 28 dX5_above_21 (by decide) (fun c_21 => ?_) (fun c_21 => ?_)
      · skip
        refine aw_pc 28 rfl ?_
        refine aw_iconst C (0 : Int32) dX5_above_28 (by decide) ?_
        exact aw_iret C hr hlk dX5_above_29 ⟨ri (by unfold rAb; first | rw [if_pos c_2] | rw [if_neg c_2, if_pos c_11] | rw [if_neg c_2, if_neg c_11, if_pos c_21] | rw [if_neg c_2, if_neg c_11, if_neg c_21]), by rfl⟩
      · skip
        refine aw_iconst C (1 : Int32) dX5_above_24 (by decide) ?_
        refine aw_goto C 29 dX5_above_25 (by decide) ?_
        exact aw_iret C hr hlk dX5_above_29 ⟨ri (by unfold rAb; first | rw [if_pos c_2] | rw [if_neg c_2, if_pos c_11] | rw [if_neg c_2, if_neg c_11, if_pos c_21] | rw [if_neg c_2, if_neg c_11, if_neg c_21]), by rfl⟩
    · skip
      refine aw_iconst C (3 : Int32) dX5_above_14 (by decide) ?_
      refine aw_goto C 29 dX5_above_15 (by decide) ?_
      exact aw_iret C hr hlk dX5_above_29 ⟨ri (by unfold rAb; first | rw [if_pos c_2] | rw [if_neg c_2, if_pos c_11] | rw [if_neg c_2, if_neg c_11, if_pos c_21] | rw [if_neg c_2, if_neg c_11, if_neg c_21]), by rfl⟩
  · skip
    refine aw_iconst C (2 : Int32) dX5_above_5 (by decide) ?_
    refine aw_goto C 29 dX5_above_6 (by decide) ?_
    refine aw_pc 29 rfl ?_
    exact aw_iret C hr hlk dX5_above_29 ⟨ri (by unfold rAb; first | rw [if_pos c_2] | rw [if_neg c_2, if_pos c_11] | rw [if_neg c_2, if_neg c_11, if_pos c_21] | rw [if_neg c_2, if_neg c_11, if_neg c_21]), by rfl⟩
abbrev r_X5_hold : Room := { frames := 2, cells := 0, slots := 0, locals := 43 }
theorem cv_X5_hold : cV yX5_hold cX5_hold 3 (some .int) 2 := ⟨k5_145, k5_146, k5_147, k1_6, by decide, by decide, by decide +kernel⟩
set_option maxHeartbeats 4000000 in
set_option maxRecDepth 100000 in
theorem c_X5_hold (l : Launch) (D : va_G) (cI cC : ClassId) (adK adV : Nat → Nat) (y : Nat → Nat) (T K : Tw) (ik : Bool) (F f : Nat → Int32) (n : Nat) (s1 s2 s3 kr ar : Nat → Int32) (tk : Int32) (bg en : Nat) (vl : Int64) (cr : Nat → Int32) (hk : ik = true → kr = rowOf K) (ho : gOk T) (s : Int32) (u : Int32) : FC l yX5_hold (wW yX5_hold cX5_hold 3 (some .int)) r_X5_hold D (tyC cI cC) adK adV (wMo cI cC y (rowOf T) (kr, ar, ik, F, f, n, tk, bg, en, vl, s1, s2, s3, cr)) [.ref (y 0), .int s, .int u] 0 0 (pMo cI cC y (m_hold (T, K, ik, F, f, n, s1, s2, s3) s u)) := by
  refine FC.of (own := RX5) (by decide) rfl (Nat.le_of_ble_eq_true rfl) ?_
  intro p9 e9 s9 m9 args9 below9 meth9 c9 A9 C hr hlk hmn
  show AW p9 l e9 r_X5_hold s9 m9 args9 below9 meth9 c9 D A9 3 0 0 _ 0 [(0, .ref (y 0)), (1, .int s), (2, .int u)] [] _
  have hn := ho.n
  refine aw_iload_n C dX5_hold_0 rfl ?_
  refine aw_callSp C (As := [.int s]) (c_X5_isSpot l D cI cC adK adV s) k5_148 cs_X5_isSpot [] (by decide) rfl ⟨by decide, by decide⟩ rfl rfl ⟨by decide, by decide⟩ rfl rfl (Nat.le_of_ble_eq_true rfl) dX5_hold_1 ?_
  refine aw_ifeq_b C 20 dX5_hold_4 (by decide) (fun c_4 => ?_) (fun c_4 => ?_)
  · skip
    refine aw_aload_n C dX5_hold_20 rfl ?_
    refine aw_iconst C (0 : Int32) dX5_hold_21 (by decide) ?_
    refine aw_callVd C (As := [.int (0 : Int32)]) (c_X5_no l D cI cC adK adV y T (kr, ar, ik, F, f, n, tk, bg, en, vl, s1, s2, s3, cr) 0 (by decide)) k4_60 cv_X5_no 0 4 rfl rfl rfl [0, 1, 2, 3, 4, 5, 6, 7, 8, 9, 10, 11, 12] (by decide) rfl (wr := ([] : va_W)) [] rfl (by decide) (by decide) [0, 1, 2, 3, 4, 5, 6, 7, 8, 9, 10, 11, 12] (by decide) (ws' := wMo cI cC y (rowOf T) (kr, ar, ik, (upd F 0 (F 0 + 1)), f, n, tk, bg, en, vl, s1, s2, s3, cr)) rfl ⟨by decide, by decide⟩ rfl rfl ⟨by decide, by decide⟩ rfl rfl (Nat.le_of_ble_eq_true rfl) dX5_hold_22 ?_
    have hm : m_hold (T, K, ik, F, f, n, s1, s2, s3) s u = ((fno 0), (T, K, ik, (upd F 0 (F 0 + 1)), f, n, s1, s2, s3)) := by simp only [m_hold, c_4, decide_true, decide_false, Bool.not_true, Bool.not_false, Bool.true_and, Bool.false_and, Bool.and_true, Bool.and_false, Bool.true_or, Bool.false_or, Bool.or_true, Bool.or_false, cond_true, cond_false, eq_self, if_true, if_false, ite_true, ite_false] <;> rfl
    exact aw_iret C hr hlk dX5_hold_25 ⟨ri (by rw [hm]), kr, ar, tk, bg, en, vl, cr, by first | (rw [hm]; done) | (rw [hm]; rfl), by rw [hm]; exact hk⟩
  · skip
    obtain ⟨es9, hs⟩ := in0_ix (n := 10) (by decide) c_4
    have e1 : s = nI (ix s) := es9
    refine aw_eq (lv' := [(0, .ref (y 0)), (1, .int (nI (ix s))), (2, .int u)]) (ws' := wMo cI cC y (rowOf T) (kr, ar, ik, F, f, n, tk, bg, en, vl, s1, s2, s3, cr)) (by rw [← e1]) rfl rfl ?_
    refine aw_iload_n C dX5_hold_7 rfl ?_
    refine aw_iconst C (-1 : Int32) dX5_hold_8 (by decide) ?_
    refine aw_pc 9 rfl ?_
    refine aw_icmp_eq C 26 dX5_hold_9 (by decide) (fun c_9 => ?_) (fun c_9 => ?_)
    · skip
      refine aw_aload_n C dX5_hold_26 rfl ?_
      refine aw_getf C 0 4 0 18 inX5 rfl (by decide) rfl k3_234 rfl rfl dX5_hold_27 ?_
      refine aw_bipush C (60 : Int32) dX5_hold_30 (by decide) ?_
      refine aw_iload_n C dX5_hold_32 rfl ?_
      refine aw_iadd C dX5_hold_33 ?_
      refine aw_iload_n C dX5_hold_34 rfl ?_
      refine aw_iastN C 1 0 (60 + (ix s)) rfl rfl (sp_ix _) (by omega) (by decide) (ws' := wMo cI cC y (upd (rowOf T) (60 + (ix s)) u) (kr, ar, ik, F, f, n, tk, bg, en, vl, s1, s2, s3, cr)) rfl dX5_hold_35 ?_
      refine aw_eq (lv' := [(0, .ref (y 0)), (1, .int (nI (ix s))), (2, .int u)]) (ws' := wMo cI cC y (rowOf (sS T (ix s) u)) (kr, ar, ik, F, f, n, tk, bg, en, vl, s1, s2, s3, cr)) rfl rfl (by rw [row_S]) ?_
      refine aw_iconst C (1 : Int32) dX5_hold_36 (by decide) ?_
      have hm : m_hold (T, K, ik, F, f, n, s1, s2, s3) s u = ((1 : Int32), ((sS T (ix s) u), K, ik, F, f, n, s1, s2, s3)) := by simp only [m_hold, c_4, c_9, decide_true, decide_false, Bool.not_true, Bool.not_false, Bool.true_and, Bool.false_and, Bool.and_true, Bool.and_false, Bool.true_or, Bool.false_or, Bool.or_true, Bool.or_false, cond_true, cond_false, eq_self, if_true, if_false, ite_true, ite_false] <;> rfl
      exact aw_iret C hr hlk dX5_hold_37 ⟨ri (by rw [hm]), kr, ar, tk, bg, en, vl, cr, by first | (rw [hm]; done) | (rw [hm]; rfl), by rw [hm]; exact hk⟩
    · skip
      refine aw_pc 12 rfl ?_
      refine aw_aload_n C dX5_hold_12 rfl ?_
      refine aw_iload_n C dX5_hold_13 rfl ?_
      refine aw_callVp C (As := [.int u]) (c_X5_isPerson l D cI cC adK adV y T (kr, ar, ik, F, f, n, tk, bg, en, vl, s1, s2, s3, cr) u hn) k4_77 cv_X5_isPerson 0 4 rfl rfl rfl [0, 1, 2, 3, 4, 5, 6, 7, 8, 9, 10, 11, 12] (by decide) rfl ⟨by decide, by decide⟩ rfl rfl ⟨by decide, by decide⟩ rfl rfl (Nat.le_of_ble_eq_true rfl) dX5_hold_14 ?_
      refine aw_ifne_b C 26 dX5_hold_17 (by decide) (fun c_17 => ?_) (fun c_17 => ?_)
      · skip
        refine aw_aload_n C dX5_hold_26 rfl ?_
        refine aw_getf C 0 4 0 18 inX5 rfl (by decide) rfl k3_234 rfl rfl dX5_hold_27 ?_
        refine aw_bipush C (60 : Int32) dX5_hold_30 (by decide) ?_
        refine aw_iload_n C dX5_hold_32 rfl ?_
        refine aw_iadd C dX5_hold_33 ?_
        refine aw_iload_n C dX5_hold_34 rfl ?_
        refine aw_pc 35 rfl ?_
        refine aw_iastN C 1 0 (60 + (ix s)) rfl rfl (sp_ix _) (by omega) (by decide) (ws' := wMo cI cC y (upd (rowOf T) (60 + (ix s)) u) (kr, ar, ik, F, f, n, tk, bg, en, vl, s1, s2, s3, cr)) rfl dX5_hold_35 ?_
        refine aw_eq (lv' := [(0, .ref (y 0)), (1, .int (nI (ix s))), (2, .int u)]) (ws' := wMo cI cC y (rowOf (sS T (ix s) u)) (kr, ar, ik, F, f, n, tk, bg, en, vl, s1, s2, s3, cr)) rfl rfl (by rw [row_S]) ?_
        refine aw_iconst C (1 : Int32) dX5_hold_36 (by decide) ?_
        have hm : m_hold (T, K, ik, F, f, n, s1, s2, s3) s u = ((1 : Int32), ((sS T (ix s) u), K, ik, F, f, n, s1, s2, s3)) := by simp only [m_hold, c_4, c_9, c_17, decide_true, decide_false, Bool.not_true, Bool.not_false, Bool.true_and, Bool.false_and, Bool.and_true, Bool.and_false, Bool.true_or, Bool.false_or, Bool.or_true, Bool.or_false, cond_true, cond_false, eq_self, if_true, if_false, ite_true, ite_false] <;> rfl
        exact aw_iret C hr hlk dX5_hold_37 ⟨ri (by rw [hm]), kr, ar, tk, bg, en, vl, cr, by first | (rw [hm]; done) | (rw [hm]; rfl), by rw [hm]; exact hk⟩
      · skip
        refine aw_aload_n C dX5_hold_20 rfl ?_
        refine aw_iconst C (0 : Int32) dX5_hold_21 (by decide) ?_
        refine aw_callVd C (As := [.int (0 : Int32)]) (c_X5_no l D cI cC adK adV y T (kr, ar, ik, F, f, n, tk, bg, en, vl, s1, s2, s3, cr) 0 (by decide)) k4_60 cv_X5_no 0 4 rfl rfl rfl [0, 1, 2, 3, 4, 5, 6, 7, 8, 9, 10, 11, 12] (by decide) rfl (wr := ([] : va_W)) [] rfl (by decide) (by decide) [0, 1, 2, 3, 4, 5, 6, 7, 8, 9, 10, 11, 12] (by decide) (ws' := wMo cI cC y (rowOf T) (kr, ar, ik, (upd F 0 (F 0 + 1)), f, n, tk, bg, en, vl, s1, s2, s3, cr)) rfl ⟨by decide, by decide⟩ rfl rfl ⟨by decide, by decide⟩ rfl rfl (Nat.le_of_ble_eq_true rfl) dX5_hold_22 ?_
        have hm : m_hold (T, K, ik, F, f, n, s1, s2, s3) s u = ((fno 0), (T, K, ik, (upd F 0 (F 0 + 1)), f, n, s1, s2, s3)) := by simp only [m_hold, c_4, c_9, c_17, decide_true, decide_false, Bool.not_true, Bool.not_false, Bool.true_and, Bool.false_and, Bool.and_true, Bool.and_false, Bool.true_or, Bool.false_or, Bool.or_true, Bool.or_false, cond_true, cond_false, eq_self, if_true, if_false, ite_true, ite_false] <;> rfl
        exact aw_iret C hr hlk dX5_hold_25 ⟨ri (by rw [hm]), kr, ar, tk, bg, en, vl, cr, by first | (rw [hm]; done) | (rw [hm]; rfl), by rw [hm]; exact hk⟩
abbrev r_X5_as : Room := { frames := 2, cells := 0, slots := 0, locals := 42 }
theorem cv_X5_as : cV yX5_as cX5_as 5 (some .int) 2 := ⟨k5_152, k5_153, k5_154, k1_6, by decide, by decide, by decide +kernel⟩
set_option maxHeartbeats 4000000 in
set_option maxRecDepth 100000 in
theorem c_X5_as (l : Launch) (D : va_G) (cI cC : ClassId) (adK adV : Nat → Nat) (y : Nat → Nat) (T K : Tw) (ik : Bool) (F f : Nat → Int32) (n : Nat) (s1 s2 s3 kr ar : Nat → Int32) (tk : Int32) (bg en : Nat) (vl : Int64) (cr : Nat → Int32) (hk : ik = true → kr = rowOf K) (ho : gOk T) (s : Int32) (k : Int32) (hp : spOk T) : FC l yX5_as (wW yX5_as cX5_as 5 (some .int)) r_X5_as D (tyC cI cC) adK adV (wMo cI cC y (rowOf T) (kr, ar, ik, F, f, n, tk, bg, en, vl, s1, s2, s3, cr)) [.ref (y 0), .int s, .int k] 0 0 (pMo cI cC y (m_as (T, K, ik, F, f, n, s1, s2, s3) s k)) := by
  refine FC.of (own := RX5) (by decide) rfl (Nat.le_of_ble_eq_true rfl) ?_
  intro p9 e9 s9 m9 args9 below9 meth9 c9 A9 C hr hlk hmn
  show AW p9 l e9 r_X5_as s9 m9 args9 below9 meth9 c9 D A9 5 0 0 _ 0 [(0, .ref (y 0)), (1, .int s), (2, .int k)] [] _
  have hn := ho.n
  refine aw_iload_n C dX5_as_0 rfl ?_
  refine aw_callSp C (As := [.int s]) (c_X5_isSpot l D cI cC adK adV s) k5_148 cs_X5_isSpot [] (by decide) rfl ⟨by decide, by decide⟩ rfl rfl ⟨by decide, by decide⟩ rfl rfl (Nat.le_of_ble_eq_true rfl) dX5_as_1 ?_
  refine aw_ifeq_b C 17 dX5_as_4 (by decide) (fun c_4 => ?_) (fun c_4 => ?_)
  · skip
    refine aw_aload_n C dX5_as_17 rfl ?_
    refine aw_iconst C (0 : Int32) dX5_as_18 (by decide) ?_
    refine aw_callVd C (As := [.int (0 : Int32)]) (c_X5_no l D cI cC adK adV y T (kr, ar, ik, F, f, n, tk, bg, en, vl, s1, s2, s3, cr) 0 (by decide)) k4_60 cv_X5_no 0 4 rfl rfl rfl [0, 1, 2, 3, 4, 5, 6, 7, 8, 9, 10, 11, 12] (by decide) rfl (wr := ([] : va_W)) [] rfl (by decide) (by decide) [0, 1, 2, 3, 4, 5, 6, 7, 8, 9, 10, 11, 12] (by decide) (ws' := wMo cI cC y (rowOf T) (kr, ar, ik, (upd F 0 (F 0 + 1)), f, n, tk, bg, en, vl, s1, s2, s3, cr)) rfl ⟨by decide, by decide⟩ rfl rfl ⟨by decide, by decide⟩ rfl rfl (Nat.le_of_ble_eq_true rfl) dX5_as_19 ?_
    have hm : m_as (T, K, ik, F, f, n, s1, s2, s3) s k = ((fno 0), (T, K, ik, (upd F 0 (F 0 + 1)), f, n, s1, s2, s3)) := by exact as_a c_4
    exact aw_iret C hr hlk dX5_as_22 ⟨ri (by rw [hm]), kr, ar, tk, bg, en, vl, cr, by first | (rw [hm]; done) | (rw [hm]; rfl), by rw [hm]; exact hk⟩
  · skip
    refine aw_iload_n C dX5_as_7 rfl ?_
    refine aw_iconst C (0 : Int32) dX5_as_8 (by decide) ?_
    refine aw_pc 9 rfl ?_
    refine aw_bipush C (6 : Int32) dX5_as_9 (by decide) ?_
    refine aw_callSp C (As := [.int k, .int (0 : Int32), .int (6 : Int32)]) (c_X5_in1 l D cI cC adK adV k (0 : Int32) (6 : Int32)) k4_54 cs_X5_in1 [] (by decide) rfl ⟨by decide, by decide⟩ rfl rfl ⟨by decide, by decide⟩ rfl rfl (Nat.le_of_ble_eq_true rfl) dX5_as_11 ?_
    refine aw_top (y := b2 (in0 k 7)) (by exact congrArg b2 (inL_in0 k (n := 7) (by decide) (by decide))) ?_
    refine aw_ifne_b C 23 dX5_as_14 (by decide) (fun c_14 => ?_) (fun c_14 => ?_)
    · skip
      obtain ⟨es9, hs⟩ := in0_ix (n := 10) (by decide) c_4
      have e1 : s = nI (ix s) := es9
      refine aw_eq (lv' := [(0, .ref (y 0)), (1, .int (nI (ix s))), (2, .int k)]) (ws' := wMo cI cC y (rowOf T) (kr, ar, ik, F, f, n, tk, bg, en, vl, s1, s2, s3, cr)) (by rw [← e1]) rfl rfl ?_
      obtain ⟨ek, hk7⟩ := in0_ix (n := 7) (by decide) c_14
      have e2 : k = nI (ix k) := ek
      refine aw_eq (lv' := [(0, .ref (y 0)), (1, .int (nI (ix s))), (2, .int (nI (ix k)))]) (ws' := wMo cI cC y (rowOf T) (kr, ar, ik, F, f, n, tk, bg, en, vl, s1, s2, s3, cr)) (by rw [← e2]) rfl rfl ?_
      refine aw_aload_n C dX5_as_23 rfl ?_
      refine aw_getf C 0 4 0 18 inX5 rfl (by decide) rfl k3_234 rfl rfl dX5_as_24 ?_
      refine aw_bipush C (60 : Int32) dX5_as_27 (by decide) ?_
      refine aw_iload_n C dX5_as_29 rfl ?_
      refine aw_iadd C dX5_as_30 ?_
      refine aw_ialdN C 1 0 (60 + (ix s)) rfl rfl (sp_ix _) (by omega) (by decide) dX5_as_31 ?_
      refine aw_top (y := (T.2.2.2 (ix s))) (by exact row_spot _ _) ?_
      refine aw_istore_n C true (lv' := [(0, .ref (y 0)), (1, .int (nI (ix s))), (2, .int (nI (ix k))), (3, .int (T.2.2.2 (ix s)))]) dX5_as_32 (by decide) rfl rfl ?_
      refine aw_pc 33 rfl ?_
      refine aw_iload_n C dX5_as_33 rfl ?_
      refine aw_if_ge C 43 dX5_as_34 (by decide) (fun c_34 => ?_) (fun c_34 => ?_)
      · skip
        have c9 := sp_t hp hn hs c_34
        have l3 := there_lt hn c9
        obtain ⟨k0, hk0, ek0⟩ := ho.f 0 (by decide) (ix (T.2.2.2 (ix s)))
        have hk0 : k0 < 7 := hk0
        have e3 : (T.2.2.2 (ix s)) = nI (ix (T.2.2.2 (ix s))) := there_ix c9
        refine aw_eq (lv' := [(0, .ref (y 0)), (1, .int (nI (ix s))), (2, .int (nI (ix k))), (3, .int (nI (ix (T.2.2.2 (ix s)))))]) (ws' := wMo cI cC y (rowOf T) (kr, ar, ik, F, f, n, tk, bg, en, vl, s1, s2, s3, cr)) (by rw [← e3]) rfl rfl ?_
        refine aw_aload_n C dX5_as_43 rfl ?_
        refine aw_iload_n C dX5_as_44 rfl ?_
        refine aw_iconst C (0 : Int32) dX5_as_45 (by decide) ?_
        refine aw_callVp C (As := [.int (nI (ix (T.2.2.2 (ix s)))), .int (0 : Int32)]) (c_X5_get l D cI cC adK adV y T (kr, ar, ik, F, f, n, tk, bg, en, vl, s1, s2, s3, cr) (ix (T.2.2.2 (ix s))) 0 (by omega) (by decide)) k4_85 cv_X5_get 0 4 rfl rfl rfl [0, 1, 2, 3, 4, 5, 6, 7, 8, 9, 10, 11, 12] (by decide) rfl ⟨by decide, by decide⟩ rfl rfl ⟨by decide, by decide⟩ rfl rfl (Nat.le_of_ble_eq_true rfl) dX5_as_46 ?_
        refine aw_top (y := (nI k0)) (by exact ek0) ?_
        refine aw_istore C true (lv' := [(0, .ref (y 0)), (1, .int (nI (ix s))), (2, .int (nI (ix k))), (3, .int (nI (ix (T.2.2.2 (ix s))))), (4, .int (nI k0))]) dX5_as_49 (by decide) rfl rfl ?_
        refine aw_eq (lv' := [(0, .ref (y 0)), (1, .int (nI (ix s))), (2, .int (nI (ix k))), (3, .int (nI (ix (T.2.2.2 (ix s))))), (4, .int (rSt k0 0))]) (ws' := wMo cI cC y (rowOf T) (kr, ar, ik, F, f, n, tk, bg, en, vl, s1, s2, s3, cr)) (by first | rfl | (simp only [itr, c_4, c_14, c_34])) rfl (by rfl) ?_
        refine aw_loop (LV := fun i => [(0, .ref (y 0)), (1, .int (nI (ix s))), (2, .int (nI (ix k))), (3, .int (nI (ix (T.2.2.2 (ix s))))), (4, .int (rSt k0 i))]) (WS := fun i => wMo cI cC y (rowOf T) (kr, ar, ik, F, f, n, tk, bg, en, vl, s1, s2, s3, cr)) 4 (Inv := fun i => ∀ j, j < i → ¬ rSt k0 j = nI (ix k) ∧ ¬ rSt k0 j = 0) (fun j hj => absurd hj (Nat.not_lt_zero j)) ?_ ?_
        · intro hv51
          exact absurd (un_3 k0 hk0) (hv51 3 (by decide)).2
        · intro i hi51 hv51 ih51
          refine aw_iload C dX5_as_51 rfl ?_
          refine aw_iload_n C dX5_as_53 rfl ?_
          refine aw_icmp_eq C 72 dX5_as_54 (by decide) (fun c_54 => ?_) (fun c_54 => ?_)
          · skip
            refine aw_pc 72 rfl ?_
            refine aw_iload C dX5_as_72 rfl ?_
            refine aw_iload_n C dX5_as_74 rfl ?_
            refine aw_icmp_ne C 82 dX5_as_75 (by decide) (fun c_75 => ?_) (fun c_75 => ?_)
            · skip
              refine aw_aload_n C dX5_as_82 rfl ?_
              refine aw_iconst C (2 : Int32) dX5_as_83 (by decide) ?_
              refine aw_callVd C (As := [.int (2 : Int32)]) (c_X5_no l D cI cC adK adV y T (kr, ar, ik, F, f, n, tk, bg, en, vl, s1, s2, s3, cr) 2 (by decide)) k4_60 cv_X5_no 0 4 rfl rfl rfl [0, 1, 2, 3, 4, 5, 6, 7, 8, 9, 10, 11, 12] (by decide) rfl (wr := ([] : va_W)) [] rfl (by decide) (by decide) [0, 1, 2, 3, 4, 5, 6, 7, 8, 9, 10, 11, 12] (by decide) (ws' := wMo cI cC y (rowOf T) (kr, ar, ik, (upd F 2 (F 2 + 1)), f, n, tk, bg, en, vl, s1, s2, s3, cr)) rfl ⟨by decide, by decide⟩ rfl rfl ⟨by decide, by decide⟩ rfl rfl (Nat.le_of_ble_eq_true rfl) dX5_as_84 ?_
              have hm : m_as (T, K, ik, F, f, n, s1, s2, s3) s k = ((fno 2), (T, K, ik, (upd F 2 (F 2 + 1)), f, n, s1, s2, s3)) := by first | exact absurd c_54 c_75 | exact as_n c_4 c_14 c9 (by show mUnder (T.2.2.1 0 (ix (T.2.2.2 (ix s)))) k = false; rw [ek0, ek]; exact un_n k0 hk0 (ix k) hk7 i hi51 hv51 c_59 c_75)
              exact aw_iret C hr hlk dX5_as_87 ⟨ri (by rw [hm]), kr, ar, tk, bg, en, vl, cr, by first | (rw [hm]; done) | (rw [hm]; rfl), by rw [hm]; exact hk⟩
            · skip
              refine aw_iload_n C dX5_as_78 rfl ?_
              refine aw_goto C 87 dX5_as_79 (by decide) ?_
              have hm : m_as (T, K, ik, F, f, n, s1, s2, s3) s k = ((nI (ix (T.2.2.2 (ix s)))), (T, K, ik, F, f, n, s1, s2, s3)) := by first | exact as_y c_4 c_14 c9 (by show mUnder (T.2.2.1 0 (ix (T.2.2.2 (ix s)))) k = true; rw [ek0, ek]; exact un_y k0 hk0 (ix k) hk7 i hi51 hv51 c_75)
              exact aw_iret C hr hlk dX5_as_87 ⟨ri (by rw [hm]), kr, ar, tk, bg, en, vl, cr, by first | (rw [hm]; done) | (rw [hm]; rfl), by rw [hm]; exact hk⟩
          · skip
            refine aw_pc 57 rfl ?_
            refine aw_iload C dX5_as_57 rfl ?_
            refine aw_if_eq C 72 dX5_as_59 (by decide) (fun c_59 => ?_) (fun c_59 => ?_)
            · skip
              refine aw_iload C dX5_as_72 rfl ?_
              refine aw_iload_n C dX5_as_74 rfl ?_
              refine aw_icmp_ne C 82 dX5_as_75 (by decide) (fun c_75 => ?_) (fun c_75 => ?_)
              · skip
                refine aw_aload_n C dX5_as_82 rfl ?_
                refine aw_iconst C (2 : Int32) dX5_as_83 (by decide) ?_
                refine aw_callVd C (As := [.int (2 : Int32)]) (c_X5_no l D cI cC adK adV y T (kr, ar, ik, F, f, n, tk, bg, en, vl, s1, s2, s3, cr) 2 (by decide)) k4_60 cv_X5_no 0 4 rfl rfl rfl [0, 1, 2, 3, 4, 5, 6, 7, 8, 9, 10, 11, 12] (by decide) rfl (wr := ([] : va_W)) [] rfl (by decide) (by decide) [0, 1, 2, 3, 4, 5, 6, 7, 8, 9, 10, 11, 12] (by decide) (ws' := wMo cI cC y (rowOf T) (kr, ar, ik, (upd F 2 (F 2 + 1)), f, n, tk, bg, en, vl, s1, s2, s3, cr)) rfl ⟨by decide, by decide⟩ rfl rfl ⟨by decide, by decide⟩ rfl rfl (Nat.le_of_ble_eq_true rfl) dX5_as_84 ?_
                have hm : m_as (T, K, ik, F, f, n, s1, s2, s3) s k = ((fno 2), (T, K, ik, (upd F 2 (F 2 + 1)), f, n, s1, s2, s3)) := by first | exact absurd c_54 c_75 | exact as_n c_4 c_14 c9 (by show mUnder (T.2.2.1 0 (ix (T.2.2.2 (ix s)))) k = false; rw [ek0, ek]; exact un_n k0 hk0 (ix k) hk7 i hi51 hv51 c_59 c_75)
                exact aw_iret C hr hlk dX5_as_87 ⟨ri (by rw [hm]), kr, ar, tk, bg, en, vl, cr, by first | (rw [hm]; done) | (rw [hm]; rfl), by rw [hm]; exact hk⟩
              · skip
                refine aw_iload_n C dX5_as_78 rfl ?_
                refine aw_pc 79 rfl ?_
                refine aw_goto C 87 dX5_as_79 (by decide) ?_
                have hm : m_as (T, K, ik, F, f, n, s1, s2, s3) s k = ((nI (ix (T.2.2.2 (ix s)))), (T, K, ik, F, f, n, s1, s2, s3)) := by first | exact as_y c_4 c_14 c9 (by show mUnder (T.2.2.1 0 (ix (T.2.2.2 (ix s)))) k = true; rw [ek0, ek]; exact un_y k0 hk0 (ix k) hk7 i hi51 hv51 c_75)
                exact aw_iret C hr hlk dX5_as_87 ⟨ri (by rw [hm]), kr, ar, tk, bg, en, vl, cr, by first | (rw [hm]; done) | (rw [hm]; rfl), by rw [hm]; exact hk⟩
            · skip
              refine aw_iload C dX5_as_62 rfl ?_
              refine aw_callSp C (As := [.int (rSt k0 i)]) (c_X5_above l D cI cC adK adV (rSt k0 i)) k5_155 cs_X5_above [] (by decide) rfl ⟨by decide, by decide⟩ rfl rfl ⟨by decide, by decide⟩ rfl rfl (Nat.le_of_ble_eq_true rfl) dX5_as_64 ?_
              refine aw_istore C false (lv' := [(0, .ref (y 0)), (1, .int (nI (ix s))), (2, .int (nI (ix k))), (3, .int (nI (ix (T.2.2.2 (ix s))))), (4, .int (rAb (rSt k0 i)))]) dX5_as_67 (by decide) rfl rfl ?_
              refine aw_goto C 51 dX5_as_69 (by decide) ?_
              exact aw_eq (by first | rfl | (simp only [itr, c_4, c_14, c_34, c_54, c_59])) rfl (by first | rfl | (simp only [itr, c_4, c_14, c_34, c_54, c_59] <;> first | done | rfl)) (ih51 (fun j9 hj9 => (Nat.lt_or_eq_of_le (Nat.le_of_lt_succ hj9)).elim (fun q9 => hv51 j9 q9) (fun q9 => q9 ▸ ⟨c_54, c_59⟩)))
      · skip
        have c9 := sp_f hp hn hs c_34
        refine aw_aload_n C dX5_as_37 rfl ?_
        refine aw_iconst C (5 : Int32) dX5_as_38 (by decide) ?_
        refine aw_callVd C (As := [.int (5 : Int32)]) (c_X5_no l D cI cC adK adV y T (kr, ar, ik, F, f, n, tk, bg, en, vl, s1, s2, s3, cr) 5 (by decide)) k4_60 cv_X5_no 0 4 rfl rfl rfl [0, 1, 2, 3, 4, 5, 6, 7, 8, 9, 10, 11, 12] (by decide) rfl (wr := ([] : va_W)) [] rfl (by decide) (by decide) [0, 1, 2, 3, 4, 5, 6, 7, 8, 9, 10, 11, 12] (by decide) (ws' := wMo cI cC y (rowOf T) (kr, ar, ik, (upd F 5 (F 5 + 1)), f, n, tk, bg, en, vl, s1, s2, s3, cr)) rfl ⟨by decide, by decide⟩ rfl rfl ⟨by decide, by decide⟩ rfl rfl (Nat.le_of_ble_eq_true rfl) dX5_as_39 ?_
        have hm : m_as (T, K, ik, F, f, n, s1, s2, s3) s k = ((fno 5), (T, K, ik, (upd F 5 (F 5 + 1)), f, n, s1, s2, s3)) := by exact as_m c_4 c_14 c9
        exact aw_iret C hr hlk dX5_as_42 ⟨ri (by rw [hm]), kr, ar, tk, bg, en, vl, cr, by first | (rw [hm]; done) | (rw [hm]; rfl), by rw [hm]; exact hk⟩
    · skip
      refine aw_pc 17 rfl ?_
      refine aw_aload_n C dX5_as_17 rfl ?_
      refine aw_iconst C (0 : Int32) dX5_as_18 (by decide) ?_
      refine aw_callVd C (As := [.int (0 : Int32)]) (c_X5_no l D cI cC adK adV y T (kr, ar, ik, F, f, n, tk, bg, en, vl, s1, s2, s3, cr) 0 (by decide)) k4_60 cv_X5_no 0 4 rfl rfl rfl [0, 1, 2, 3, 4, 5, 6, 7, 8, 9, 10, 11, 12] (by decide) rfl (wr := ([] : va_W)) [] rfl (by decide) (by decide) [0, 1, 2, 3, 4, 5, 6, 7, 8, 9, 10, 11, 12] (by decide) (ws' := wMo cI cC y (rowOf T) (kr, ar, ik, (upd F 0 (F 0 + 1)), f, n, tk, bg, en, vl, s1, s2, s3, cr)) rfl ⟨by decide, by decide⟩ rfl rfl ⟨by decide, by decide⟩ rfl rfl (Nat.le_of_ble_eq_true rfl) dX5_as_19 ?_
      have hm : m_as (T, K, ik, F, f, n, s1, s2, s3) s k = ((fno 0), (T, K, ik, (upd F 0 (F 0 + 1)), f, n, s1, s2, s3)) := by exact as_b c_14
      exact aw_iret C hr hlk dX5_as_22 ⟨ri (by rw [hm]), kr, ar, tk, bg, en, vl, cr, by first | (rw [hm]; done) | (rw [hm]; rfl), by rw [hm]; exact hk⟩
abbrev r_X5_image : Room := { frames := 0, cells := 0, slots := 0, locals := 0 }
theorem cv_X5_image : cV yX5_image cX5_image 2 (some .int) 0 := ⟨k5_179, k5_180, k5_181, k1_6, by decide, by decide, by decide +kernel⟩
set_option maxHeartbeats 4000000 in
set_option maxRecDepth 100000 in
theorem c_X5_image (l : Launch) (D : va_G) (cI cC : ClassId) (adK adV : Nat → Nat) (y : Nat → Nat) (T K : Tw) (ik : Bool) (F f : Nat → Int32) (n : Nat) (s1 s2 s3 kr ar : Nat → Int32) (tk : Int32) (bg en : Nat) (vl : Int64) (cr : Nat → Int32) (hk : ik = true → kr = rowOf K) (ho : gOk T)  : FC l yX5_image (wW yX5_image cX5_image 2 (some .int)) r_X5_image D (tyC cI cC) adK adV (wMo cI cC y (rowOf T) (kr, ar, ik, F, f, n, tk, bg, en, vl, s1, s2, s3, cr)) [.ref (y 0)] 0 0 (pMo cI cC y (m_image (T, K, ik, F, f, n, s1, s2, s3))) := by
  refine FC.of (own := RX5) (by decide) rfl (Nat.le_of_ble_eq_true rfl) ?_
  intro p9 e9 s9 m9 args9 below9 meth9 c9 A9 C hr hlk hmn
  show AW p9 l e9 r_X5_image s9 m9 args9 below9 meth9 c9 D A9 2 0 0 _ 0 [(0, .ref (y 0))] [] _
  have hn := ho.n
  refine aw_iconst C (0 : Int32) dX5_image_0 (by decide) ?_
  refine aw_istore_n C true (lv' := [(0, .ref (y 0)), (1, .int (0 : Int32))]) dX5_image_1 (by decide) rfl rfl ?_
  refine aw_eq (lv' := [(0, .ref (y 0)), (1, .int (nI 0))]) (ws' := wMo cI cC y (rowOf T) ((cpy (rowOf T) kr 0), ar, ik, F, f, n, tk, bg, en, vl, s1, s2, s3, cr)) (by first | rfl | (simp only [itr])) rfl (by rw [cpy_0]) ?_
  refine aw_loop (LV := fun i => [(0, .ref (y 0)), (1, .int (nI i))]) (WS := fun i => wMo cI cC y (rowOf T) ((cpy (rowOf T) kr i), ar, ik, F, f, n, tk, bg, en, vl, s1, s2, s3, cr)) 70 (Inv := fun _ => True) trivial ?_ ?_
  · intro hv2
    refine aw_iload_n C dX5_image_2 rfl ?_
    refine aw_bipush C (70 : Int32) dX5_image_3 (by decide) ?_
    refine aw_icmp_ge C 26 dX5_image_5 (by decide) (fun c_5 => ?_) (fun c_5 => absurd c_5 (fun z => z (Int32.le_refl _)))
    refine aw_ext 2 rfl (fun j hj => cpy_e hj) (ws' := wMo cI cC y (rowOf T) ((rowOf T), ar, ik, F, f, n, tk, bg, en, vl, s1, s2, s3, cr)) rfl ?_
    refine aw_aload_n C dX5_image_26 rfl ?_
    refine aw_iconst C (1 : Int32) dX5_image_27 (by decide) ?_
    refine aw_putf C 0 4 3 18 tyX5 inX5 tyX5_ok nmX5 rfl (by decide) rfl k3_237 rfl rfl rfl rfl rfl (Nat.le_of_ble_eq_true rfl) (ws' := wMo cI cC y (rowOf T) ((rowOf T), ar, true, F, f, n, tk, bg, en, vl, s1, s2, s3, cr)) rfl dX5_image_28 ?_
    refine aw_pc 31 rfl ?_
    refine aw_iconst C (1 : Int32) dX5_image_31 (by decide) ?_
    have hm : m_image (T, K, ik, F, f, n, s1, s2, s3) = ((1 : Int32), (T, T, true, F, f, n, s1, s2, s3)) := by rfl
    exact aw_iret C hr hlk dX5_image_32 ⟨ri (by rw [hm]), (rowOf T), ar, tk, bg, en, vl, cr, by first | (rw [hm]; done) | (rw [hm]; rfl), by rw [hm]; exact (fun _ => rfl)⟩
  · intro i hi2 hv2 ih2
    refine aw_iload_n C dX5_image_2 rfl ?_
    refine aw_bipush C (70 : Int32) dX5_image_3 (by decide) ?_
    refine aw_icmp_ge C 26 dX5_image_5 (by decide) (fun c_5 => absurd c_5 (nI_ge (b := 70) hi2 (by omega))) (fun c_5 => ?_)
    refine aw_aload_n C dX5_image_8 rfl ?_
    refine aw_getf C 0 4 1 18 inX5 rfl (by decide) rfl k3_235 rfl rfl dX5_image_9 ?_
    refine aw_iload_n C dX5_image_12 rfl ?_
    refine aw_aload_n C dX5_image_13 rfl ?_
    refine aw_pc 14 rfl ?_
    refine aw_getf C 0 4 0 18 inX5 rfl (by decide) rfl k3_234 rfl rfl dX5_image_14 ?_
    refine aw_iload_n C dX5_image_17 rfl ?_
    refine aw_ialdN C 1 0 i rfl rfl rfl (by omega) (by decide) dX5_image_18 ?_
    refine aw_top (y := ((rowOf T) i)) rfl ?_
    refine aw_iastN C 2 0 i rfl rfl rfl (by omega) (by decide) (ws' := wMo cI cC y (rowOf T) ((upd (cpy (rowOf T) kr i) i ((rowOf T) i)), ar, ik, F, f, n, tk, bg, en, vl, s1, s2, s3, cr)) (mo_set2 ..) dX5_image_19 ?_
    refine aw_iinc C (nI (i + 1)) dX5_image_20 rfl (inc_nI _ 1) (by decide) rfl (lv' := [(0, .ref (y 0)), (1, .int (nI (i + 1)))]) rfl ?_
    refine aw_goto C 2 dX5_image_23 (by decide) ?_
    exact aw_eq (by first | rfl | (simp only [itr])) rfl (by rw [cpy_s]) (ih2 trivial)
abbrev r_X5_undo : Room := { frames := 1, cells := 0, slots := 0, locals := 21 }
theorem cv_X5_undo : cV yX5_undo cX5_undo 2 (some .int) 0 := ⟨k5_183, k5_184, k5_185, k1_6, by decide, by decide, by decide +kernel⟩
set_option maxHeartbeats 4000000 in
set_option maxRecDepth 100000 in
theorem c_X5_undo (l : Launch) (D : va_G) (cI cC : ClassId) (adK adV : Nat → Nat) (y : Nat → Nat) (T K : Tw) (ik : Bool) (F f : Nat → Int32) (n : Nat) (s1 s2 s3 kr ar : Nat → Int32) (tk : Int32) (bg en : Nat) (vl : Int64) (cr : Nat → Int32) (hk : ik = true → kr = rowOf K) (ho : gOk T)  : FC l yX5_undo (wW yX5_undo cX5_undo 2 (some .int)) r_X5_undo D (tyC cI cC) adK adV (wMo cI cC y (rowOf T) (kr, ar, ik, F, f, n, tk, bg, en, vl, s1, s2, s3, cr)) [.ref (y 0)] 0 0 (pMo cI cC y (m_undo (T, K, ik, F, f, n, s1, s2, s3))) := by
  refine FC.of (own := RX5) (by decide) rfl (Nat.le_of_ble_eq_true rfl) ?_
  intro p9 e9 s9 m9 args9 below9 meth9 c9 A9 C hr hlk hmn
  show AW p9 l e9 r_X5_undo s9 m9 args9 below9 meth9 c9 D A9 2 0 0 _ 0 [(0, .ref (y 0))] [] _
  have hn := ho.n
  refine aw_aload_n C dX5_undo_0 rfl ?_
  refine aw_getf C 0 4 3 18 inX5 rfl (by decide) rfl k3_237 rfl rfl dX5_undo_1 ?_
  refine aw_top (y := b2 ik) rfl ?_
  refine aw_ifne_b C 13 dX5_undo_4 (by decide) (fun c_4 => ?_) (fun c_4 => ?_)
  · skip
    refine aw_iconst C (0 : Int32) dX5_undo_13 (by decide) ?_
    refine aw_istore_n C true (lv' := [(0, .ref (y 0)), (1, .int (0 : Int32))]) dX5_undo_14 (by decide) rfl rfl ?_
    refine aw_eq (lv' := [(0, .ref (y 0)), (1, .int (nI 0))]) (ws' := wMo cI cC y (cpy kr (rowOf T) 0) (kr, ar, ik, F, f, n, tk, bg, en, vl, s1, s2, s3, cr)) (by first | rfl | (simp only [itr, c_4])) rfl (by rw [cpy_0]) ?_
    refine aw_loop (LV := fun i => [(0, .ref (y 0)), (1, .int (nI i))]) (WS := fun i => wMo cI cC y (cpy kr (rowOf T) i) (kr, ar, ik, F, f, n, tk, bg, en, vl, s1, s2, s3, cr)) 70 (Inv := fun _ => True) trivial ?_ ?_
    · intro hv15
      refine aw_iload_n C dX5_undo_15 rfl ?_
      refine aw_bipush C (70 : Int32) dX5_undo_16 (by decide) ?_
      refine aw_icmp_ge C 39 dX5_undo_18 (by decide) (fun c_18 => ?_) (fun c_18 => absurd c_18 (fun z => z (Int32.le_refl _)))
      refine aw_ext 1 rfl (fun j hj => cpy_e hj) (ws' := wMo cI cC y kr (kr, ar, ik, F, f, n, tk, bg, en, vl, s1, s2, s3, cr)) rfl ?_
      refine aw_eq (lv' := [(0, .ref (y 0)), (1, .int (nI 70))]) (ws' := wMo cI cC y (rowOf K) (kr, ar, ik, F, f, n, tk, bg, en, vl, s1, s2, s3, cr)) rfl rfl (by rw [hk c_4]) ?_
      refine aw_pc 39 rfl ?_
      refine aw_aload_n C dX5_undo_39 rfl ?_
      refine aw_getf C 0 4 0 18 inX5 rfl (by decide) rfl k3_234 rfl rfl dX5_undo_40 ?_
      refine aw_iconst C (0 : Int32) dX5_undo_43 (by decide) ?_
      refine aw_ialdN C 1 0 0 rfl rfl rfl (by decide) (by decide) dX5_undo_44 ?_
      refine aw_top (y := (K.2.1 0)) rfl ?_
      have hm : m_undo (T, K, ik, F, f, n, s1, s2, s3) = ((K.2.1 0), (K, K, ik, F, f, n, s1, s2, s3)) := by simp only [m_undo, c_4, decide_true, decide_false, Bool.not_true, Bool.not_false, Bool.true_and, Bool.false_and, Bool.and_true, Bool.and_false, Bool.true_or, Bool.false_or, Bool.or_true, Bool.or_false, cond_true, cond_false, eq_self, if_true, if_false, ite_true, ite_false] <;> rfl
      exact aw_iret C hr hlk dX5_undo_45 ⟨ri (by rw [hm]), kr, ar, tk, bg, en, vl, cr, by first | (rw [hm]; done) | (rw [hm]; rfl), by rw [hm]; exact hk⟩
    · intro i hi15 hv15 ih15
      refine aw_iload_n C dX5_undo_15 rfl ?_
      refine aw_bipush C (70 : Int32) dX5_undo_16 (by decide) ?_
      refine aw_icmp_ge C 39 dX5_undo_18 (by decide) (fun c_18 => absurd c_18 (nI_ge (b := 70) hi15 (by omega))) (fun c_18 => ?_)
      refine aw_aload_n C dX5_undo_21 rfl ?_
      refine aw_getf C 0 4 0 18 inX5 rfl (by decide) rfl k3_234 rfl rfl dX5_undo_22 ?_
      refine aw_pc 25 rfl ?_
      refine aw_iload_n C dX5_undo_25 rfl ?_
      refine aw_aload_n C dX5_undo_26 rfl ?_
      refine aw_getf C 0 4 1 18 inX5 rfl (by decide) rfl k3_235 rfl rfl dX5_undo_27 ?_
      refine aw_iload_n C dX5_undo_30 rfl ?_
      refine aw_ialdN C 2 0 i rfl rfl rfl (by omega) (by decide) dX5_undo_31 ?_
      refine aw_top (y := (kr i)) rfl ?_
      refine aw_iastN C 1 0 i rfl rfl rfl (by omega) (by decide) (ws' := wMo cI cC y (upd (cpy kr (rowOf T) i) i (kr i)) (kr, ar, ik, F, f, n, tk, bg, en, vl, s1, s2, s3, cr)) rfl dX5_undo_32 ?_
      refine aw_iinc C (nI (i + 1)) dX5_undo_33 rfl (inc_nI _ 1) (by decide) rfl (lv' := [(0, .ref (y 0)), (1, .int (nI (i + 1)))]) rfl ?_
      refine aw_goto C 15 dX5_undo_36 (by decide) ?_
      exact aw_eq (by first | rfl | (simp only [itr, c_4])) rfl (by rw [cpy_s]) (ih15 trivial)
  · skip
    refine aw_aload_n C dX5_undo_7 rfl ?_
    refine aw_iconst C (3 : Int32) dX5_undo_8 (by decide) ?_
    refine aw_pc 9 rfl ?_
    refine aw_callVd C (As := [.int (3 : Int32)]) (c_X5_no l D cI cC adK adV y T (kr, ar, ik, F, f, n, tk, bg, en, vl, s1, s2, s3, cr) 3 (by decide)) k4_60 cv_X5_no 0 4 rfl rfl rfl [0, 1, 2, 3, 4, 5, 6, 7, 8, 9, 10, 11, 12] (by decide) rfl (wr := ([] : va_W)) [] rfl (by decide) (by decide) [0, 1, 2, 3, 4, 5, 6, 7, 8, 9, 10, 11, 12] (by decide) (ws' := wMo cI cC y (rowOf T) (kr, ar, ik, (upd F 3 (F 3 + 1)), f, n, tk, bg, en, vl, s1, s2, s3, cr)) rfl ⟨by decide, by decide⟩ rfl rfl ⟨by decide, by decide⟩ rfl rfl (Nat.le_of_ble_eq_true rfl) dX5_undo_9 ?_
    have hm : m_undo (T, K, ik, F, f, n, s1, s2, s3) = ((fno 3), (T, K, ik, (upd F 3 (F 3 + 1)), f, n, s1, s2, s3)) := by simp only [m_undo, c_4, decide_true, decide_false, Bool.not_true, Bool.not_false, Bool.true_and, Bool.false_and, Bool.and_true, Bool.and_false, Bool.true_or, Bool.false_or, Bool.or_true, Bool.or_false, cond_true, cond_false, eq_self, if_true, if_false, ite_true, ite_false] <;> rfl
    exact aw_iret C hr hlk dX5_undo_12 ⟨ri (by rw [hm]), kr, ar, tk, bg, en, vl, cr, by first | (rw [hm]; done) | (rw [hm]; rfl), by rw [hm]; exact hk⟩
abbrev r_X5_tear : Room := { frames := 0, cells := 0, slots := 0, locals := 0 }
theorem cv_X5_tear : cV yX5_tear cX5_tear 2 (some .int) 0 := ⟨k5_187, k5_188, k5_189, k1_6, by decide, by decide, by decide +kernel⟩
set_option maxHeartbeats 4000000 in
set_option maxRecDepth 100000 in
theorem c_X5_tear (l : Launch) (D : va_G) (cI cC : ClassId) (adK adV : Nat → Nat) (y : Nat → Nat) (T K : Tw) (ik : Bool) (F f : Nat → Int32) (n : Nat) (s1 s2 s3 kr ar : Nat → Int32) (tk : Int32) (bg en : Nat) (vl : Int64) (cr : Nat → Int32) (hk : ik = true → kr = rowOf K) (ho : gOk T)  : FC l yX5_tear (wW yX5_tear cX5_tear 2 (some .int)) r_X5_tear D (tyC cI cC) adK adV (wMo cI cC y (rowOf T) (kr, ar, ik, F, f, n, tk, bg, en, vl, s1, s2, s3, cr)) [.ref (y 0)] 0 0 (pMo cI cC y (m_tear (T, K, ik, F, f, n, s1, s2, s3))) := by
  refine FC.of (own := RX5) (by decide) rfl (Nat.le_of_ble_eq_true rfl) ?_
  intro p9 e9 s9 m9 args9 below9 meth9 c9 A9 C hr hlk hmn
  show AW p9 l e9 r_X5_tear s9 m9 args9 below9 meth9 c9 D A9 2 0 0 _ 0 [(0, .ref (y 0))] [] _
  have hn := ho.n
  refine aw_aload_n C dX5_tear_0 rfl ?_
  refine aw_getf C 0 4 3 18 inX5 rfl (by decide) rfl k3_237 rfl rfl dX5_tear_1 ?_
  refine aw_top (y := b2 ik) rfl ?_
  refine aw_ifeq_b C 11 dX5_tear_4 (by decide) (fun c_4 => ?_) (fun c_4 => ?_)
  · skip
    refine aw_iconst C (0 : Int32) dX5_tear_11 (by decide) ?_
    refine aw_istore_n C true (lv' := [(0, .ref (y 0)), (1, .int (0 : Int32))]) dX5_tear_12 (by decide) rfl rfl ?_
    refine aw_aload_n C dX5_tear_13 rfl ?_
    refine aw_iconst C (0 : Int32) dX5_tear_14 (by decide) ?_
    refine aw_putf C 0 4 3 18 tyX5 inX5 tyX5_ok nmX5 rfl (by decide) rfl k3_237 rfl rfl rfl rfl rfl (Nat.le_of_ble_eq_true rfl) (ws' := wMo cI cC y (rowOf T) (kr, ar, false, F, f, n, tk, bg, en, vl, s1, s2, s3, cr)) rfl dX5_tear_15 ?_
    refine aw_pc 18 rfl ?_
    refine aw_iload_n C dX5_tear_18 rfl ?_
    have hm : m_tear (T, K, ik, F, f, n, s1, s2, s3) = ((0 : Int32), (T, K, false, F, f, n, s1, s2, s3)) := by simp only [m_tear, c_4, decide_true, decide_false, Bool.not_true, Bool.not_false, Bool.true_and, Bool.false_and, Bool.and_true, Bool.and_false, Bool.true_or, Bool.false_or, Bool.or_true, Bool.or_false, cond_true, cond_false, eq_self, if_true, if_false, ite_true, ite_false] <;> rfl
    exact aw_iret C hr hlk dX5_tear_19 ⟨ri (by rw [hm]), kr, ar, tk, bg, en, vl, cr, by first | (rw [hm]; done) | (rw [hm]; rfl), by rw [hm]; exact (fun z => absurd z Bool.false_ne_true)⟩
  · skip
    refine aw_iconst C (1 : Int32) dX5_tear_7 (by decide) ?_
    refine aw_goto C 12 dX5_tear_8 (by decide) ?_
    refine aw_istore_n C true (lv' := [(0, .ref (y 0)), (1, .int (1 : Int32))]) dX5_tear_12 (by decide) rfl rfl ?_
    refine aw_aload_n C dX5_tear_13 rfl ?_
    refine aw_iconst C (0 : Int32) dX5_tear_14 (by decide) ?_
    refine aw_putf C 0 4 3 18 tyX5 inX5 tyX5_ok nmX5 rfl (by decide) rfl k3_237 rfl rfl rfl rfl rfl (Nat.le_of_ble_eq_true rfl) (ws' := wMo cI cC y (rowOf T) (kr, ar, false, F, f, n, tk, bg, en, vl, s1, s2, s3, cr)) rfl dX5_tear_15 ?_
    refine aw_iload_n C dX5_tear_18 rfl ?_
    refine aw_pc 19 rfl ?_
    have hm : m_tear (T, K, ik, F, f, n, s1, s2, s3) = ((1 : Int32), (T, K, false, F, f, n, s1, s2, s3)) := by simp only [m_tear, c_4, decide_true, decide_false, Bool.not_true, Bool.not_false, Bool.true_and, Bool.false_and, Bool.and_true, Bool.and_false, Bool.true_or, Bool.false_or, Bool.or_true, Bool.or_false, cond_true, cond_false, eq_self, if_true, if_false, ite_true, ite_false] <;> rfl
    exact aw_iret C hr hlk dX5_tear_19 ⟨ri (by rw [hm]), kr, ar, tk, bg, en, vl, cr, by first | (rw [hm]; done) | (rw [hm]; rfl), by rw [hm]; exact (fun z => absurd z Bool.false_ne_true)⟩
abbrev r_X5_count : Room := { frames := 2, cells := 0, slots := 0, locals := 46 }
theorem cv_X5_count : cV yX5_count cX5_count 4 (some .int) 1 := ⟨k5_191, k5_192, k5_193, k1_6, by decide, by decide, by decide +kernel⟩
set_option maxHeartbeats 4000000 in
set_option maxRecDepth 100000 in
theorem c_X5_count (l : Launch) (D : va_G) (cI cC : ClassId) (adK adV : Nat → Nat) (y : Nat → Nat) (T K : Tw) (ik : Bool) (F f : Nat → Int32) (n : Nat) (s1 s2 s3 kr ar : Nat → Int32) (tk : Int32) (bg en : Nat) (vl : Int64) (cr : Nat → Int32) (hk : ik = true → kr = rowOf K) (ho : gOk T) (w : Int32) (hp : spOk T) : FC l yX5_count (wW yX5_count cX5_count 4 (some .int)) r_X5_count D (tyC cI cC) adK adV (wMo cI cC y (rowOf T) (kr, ar, ik, F, f, n, tk, bg, en, vl, s1, s2, s3, cr)) [.ref (y 0), .int w] 0 0 (pMo cI cC y (m_count (T, K, ik, F, f, n, s1, s2, s3) w)) := by
  refine FC.of (own := RX5) (by decide) rfl (Nat.le_of_ble_eq_true rfl) ?_
  intro p9 e9 s9 m9 args9 below9 meth9 c9 A9 C hr hlk hmn
  show AW p9 l e9 r_X5_count s9 m9 args9 below9 meth9 c9 D A9 4 0 0 _ 0 [(0, .ref (y 0)), (1, .int w)] [] _
  have hn := ho.n
  refine aw_iconst C (0 : Int32) dX5_count_0 (by decide) ?_
  refine aw_istore_n C true (lv' := [(0, .ref (y 0)), (1, .int w), (2, .int (0 : Int32))]) dX5_count_1 (by decide) rfl rfl ?_
  refine aw_iload_n C dX5_count_2 rfl ?_
  by_cases s_3_0 : w = (0 : Int32)
  · skip
    refine aw_tabIn C (0) 48 dX5_count_3 (by rw [s_3_0]; rfl) (by decide) (by decide) rfl (by decide) ?_
    refine aw_aload_n C dX5_count_48 rfl ?_
    refine aw_getf C 0 4 0 18 inX5 rfl (by decide) rfl k3_234 rfl rfl dX5_count_49 ?_
    refine aw_iconst C (0 : Int32) dX5_count_52 (by decide) ?_
    refine aw_ialdN C 1 0 0 rfl rfl rfl (by decide) (by decide) dX5_count_53 ?_
    refine aw_top (y := (T.2.1 0)) rfl ?_
    have hm : m_count (T, K, ik, F, f, n, s1, s2, s3) w = ((T.2.1 0), (T, K, ik, F, f, n, s1, s2, s3)) := by simp only [m_count, if_pos s_3_0, decide_true, decide_false, Bool.not_true, Bool.not_false, Bool.true_and, Bool.false_and, Bool.and_true, Bool.and_false, Bool.true_or, Bool.false_or, Bool.or_true, Bool.or_false, cond_true, cond_false, eq_self, if_true, if_false, ite_true, ite_false] <;> rfl
    exact aw_iret C hr hlk dX5_count_54 ⟨ri (by rw [hm]), kr, ar, tk, bg, en, vl, cr, by first | (rw [hm]; done) | (rw [hm]; rfl), by rw [hm]; exact hk⟩
  by_cases s_3_1 : w = (1 : Int32)
  · skip
    refine aw_tabIn C (1) 55 dX5_count_3 (by rw [s_3_1]; rfl) (by decide) (by decide) rfl (by decide) ?_
    refine aw_pc 55 rfl ?_
    refine aw_aload_n C dX5_count_55 rfl ?_
    refine aw_getf C 0 4 0 18 inX5 rfl (by decide) rfl k3_234 rfl rfl dX5_count_56 ?_
    refine aw_iconst C (1 : Int32) dX5_count_59 (by decide) ?_
    refine aw_ialdN C 1 0 1 rfl rfl rfl (by decide) (by decide) dX5_count_60 ?_
    refine aw_top (y := (nI T.1)) rfl ?_
    have hm : m_count (T, K, ik, F, f, n, s1, s2, s3) w = ((nI T.1), (T, K, ik, F, f, n, s1, s2, s3)) := by simp only [m_count, if_pos s_3_1, if_neg s_3_0, decide_true, decide_false, Bool.not_true, Bool.not_false, Bool.true_and, Bool.false_and, Bool.and_true, Bool.and_false, Bool.true_or, Bool.false_or, Bool.or_true, Bool.or_false, cond_true, cond_false, eq_self, if_true, if_false, ite_true, ite_false] <;> rfl
    exact aw_iret C hr hlk dX5_count_61 ⟨ri (by rw [hm]), kr, ar, tk, bg, en, vl, cr, by first | (rw [hm]; done) | (rw [hm]; rfl), by rw [hm]; exact hk⟩
  by_cases s_3_2 : w = (2 : Int32)
  · skip
    refine aw_tabIn C (2) 62 dX5_count_3 (by rw [s_3_2]; rfl) (by decide) (by decide) rfl (by decide) ?_
    refine aw_aload_n C dX5_count_62 rfl ?_
    refine aw_getf C 0 4 0 18 inX5 rfl (by decide) rfl k3_234 rfl rfl dX5_count_63 ?_
    refine aw_iconst C (3 : Int32) dX5_count_66 (by decide) ?_
    refine aw_ialdN C 1 0 3 rfl rfl rfl (by decide) (by decide) dX5_count_67 ?_
    refine aw_top (y := (T.2.1 3)) rfl ?_
    have hm : m_count (T, K, ik, F, f, n, s1, s2, s3) w = ((T.2.1 3), (T, K, ik, F, f, n, s1, s2, s3)) := by simp only [m_count, if_pos s_3_2, if_neg s_3_0, if_neg s_3_1, decide_true, decide_false, Bool.not_true, Bool.not_false, Bool.true_and, Bool.false_and, Bool.and_true, Bool.and_false, Bool.true_or, Bool.false_or, Bool.or_true, Bool.or_false, cond_true, cond_false, eq_self, if_true, if_false, ite_true, ite_false] <;> rfl
    exact aw_iret C hr hlk dX5_count_68 ⟨ri (by rw [hm]), kr, ar, tk, bg, en, vl, cr, by first | (rw [hm]; done) | (rw [hm]; rfl), by rw [hm]; exact hk⟩
  by_cases s_3_3 : w = (3 : Int32)
  · skip
    refine aw_tabIn C (3) 69 dX5_count_3 (by rw [s_3_3]; rfl) (by decide) (by decide) rfl (by decide) ?_
    refine aw_pc 69 rfl ?_
    refine aw_aload_n C dX5_count_69 rfl ?_
    refine aw_iconst C (4 : Int32) dX5_count_70 (by decide) ?_
    refine aw_callVp C (As := [.int (4 : Int32)]) (c_X5_pairs l D cI cC adK adV y T (kr, ar, ik, F, f, n, tk, bg, en, vl, s1, s2, s3, cr) 4 ho (by decide)) k4_203 cv_X5_pairs 0 4 rfl rfl rfl [0, 1, 2, 3, 4, 5, 6, 7, 8, 9, 10, 11, 12] (by decide) rfl ⟨by decide, by decide⟩ rfl rfl ⟨by decide, by decide⟩ rfl rfl (Nat.le_of_ble_eq_true rfl) dX5_count_71 ?_
    have hm : m_count (T, K, ik, F, f, n, s1, s2, s3) w = ((mPairs T 4), (T, K, ik, F, f, n, s1, s2, s3)) := by simp only [m_count, if_pos s_3_3, if_neg s_3_0, if_neg s_3_1, if_neg s_3_2, decide_true, decide_false, Bool.not_true, Bool.not_false, Bool.true_and, Bool.false_and, Bool.and_true, Bool.and_false, Bool.true_or, Bool.false_or, Bool.or_true, Bool.or_false, cond_true, cond_false, eq_self, if_true, if_false, ite_true, ite_false] <;> rfl
    exact aw_iret C hr hlk dX5_count_74 ⟨ri (by rw [hm]), kr, ar, tk, bg, en, vl, cr, by first | (rw [hm]; done) | (rw [hm]; rfl), by rw [hm]; exact hk⟩
  by_cases s_3_4 : w = (4 : Int32)
  · skip
    refine aw_tabIn C (4) 75 dX5_count_3 (by rw [s_3_4]; rfl) (by decide) (by decide) rfl (by decide) ?_
    refine aw_aload_n C dX5_count_75 rfl ?_
    refine aw_callVp C (As := []) (c_X5_passedAll l D cI cC adK adV y T (kr, ar, ik, F, f, n, tk, bg, en, vl, s1, s2, s3, cr)  ho) k4_211 cv_X5_passedAll 0 4 rfl rfl rfl [0, 1, 2, 3, 4, 5, 6, 7, 8, 9, 10, 11, 12] (by decide) rfl ⟨by decide, by decide⟩ rfl rfl ⟨by decide, by decide⟩ rfl rfl (Nat.le_of_ble_eq_true rfl) dX5_count_76 ?_
    have hm : m_count (T, K, ik, F, f, n, s1, s2, s3) w = ((mPassed T), (T, K, ik, F, f, n, s1, s2, s3)) := by simp only [m_count, if_pos s_3_4, if_neg s_3_0, if_neg s_3_1, if_neg s_3_2, if_neg s_3_3, decide_true, decide_false, Bool.not_true, Bool.not_false, Bool.true_and, Bool.false_and, Bool.and_true, Bool.and_false, Bool.true_or, Bool.false_or, Bool.or_true, Bool.or_false, cond_true, cond_false, eq_self, if_true, if_false, ite_true, ite_false] <;> rfl
    exact aw_iret C hr hlk dX5_count_79 ⟨ri (by rw [hm]), kr, ar, tk, bg, en, vl, cr, by first | (rw [hm]; done) | (rw [hm]; rfl), by rw [hm]; exact hk⟩
  by_cases s_3_5 : w = (5 : Int32)
  · skip
    refine aw_tabIn C (5) 80 dX5_count_3 (by rw [s_3_5]; rfl) (by decide) (by decide) rfl (by decide) ?_
    refine aw_aload_n C dX5_count_80 rfl ?_
    refine aw_getf C 0 4 6 18 inX5 rfl (by decide) rfl k4_0 rfl rfl dX5_count_81 ?_
    refine aw_top (y := (nI n)) rfl ?_
    have hm : m_count (T, K, ik, F, f, n, s1, s2, s3) w = ((nI n), (T, K, ik, F, f, n, s1, s2, s3)) := by simp only [m_count, if_pos s_3_5, if_neg s_3_0, if_neg s_3_1, if_neg s_3_2, if_neg s_3_3, if_neg s_3_4, decide_true, decide_false, Bool.not_true, Bool.not_false, Bool.true_and, Bool.false_and, Bool.and_true, Bool.and_false, Bool.true_or, Bool.false_or, Bool.or_true, Bool.or_false, cond_true, cond_false, eq_self, if_true, if_false, ite_true, ite_false] <;> rfl
    exact aw_iret C hr hlk dX5_count_84 ⟨ri (by rw [hm]), kr, ar, tk, bg, en, vl, cr, by first | (rw [hm]; done) | (rw [hm]; rfl), by rw [hm]; exact hk⟩
  by_cases s_3_6 : w = (6 : Int32)
  · skip
    refine aw_tabIn C (6) 85 dX5_count_3 (by rw [s_3_6]; rfl) (by decide) (by decide) rfl (by decide) ?_
    refine aw_pc 85 rfl ?_
    refine aw_aload_n C dX5_count_85 rfl ?_
    refine aw_getf C 0 4 0 18 inX5 rfl (by decide) rfl k3_234 rfl rfl dX5_count_86 ?_
    refine aw_iconst C (2 : Int32) dX5_count_89 (by decide) ?_
    refine aw_ialdN C 1 0 2 rfl rfl rfl (by decide) (by decide) dX5_count_90 ?_
    refine aw_top (y := (T.2.1 2)) rfl ?_
    have hm : m_count (T, K, ik, F, f, n, s1, s2, s3) w = ((T.2.1 2), (T, K, ik, F, f, n, s1, s2, s3)) := by simp only [m_count, if_pos s_3_6, if_neg s_3_0, if_neg s_3_1, if_neg s_3_2, if_neg s_3_3, if_neg s_3_4, if_neg s_3_5, decide_true, decide_false, Bool.not_true, Bool.not_false, Bool.true_and, Bool.false_and, Bool.and_true, Bool.and_false, Bool.true_or, Bool.false_or, Bool.or_true, Bool.or_false, cond_true, cond_false, eq_self, if_true, if_false, ite_true, ite_false] <;> rfl
    exact aw_iret C hr hlk dX5_count_91 ⟨ri (by rw [hm]), kr, ar, tk, bg, en, vl, cr, by first | (rw [hm]; done) | (rw [hm]; rfl), by rw [hm]; exact hk⟩
  by_cases s_3_7 : w = (7 : Int32)
  · skip
    refine aw_tabIn C (7) 92 dX5_count_3 (by rw [s_3_7]; rfl) (by decide) (by decide) rfl (by decide) ?_
    refine aw_iconst C (0 : Int32) dX5_count_92 (by decide) ?_
    refine aw_istore_n C true (lv' := [(0, .ref (y 0)), (1, .int w), (2, .int (0 : Int32)), (3, .int (0 : Int32))]) dX5_count_93 (by decide) rfl rfl ?_
    refine aw_eq (lv' := [(0, .ref (y 0)), (1, .int w), (2, .int (itr (fun k x => bif decide (T.2.2.2 k = -1) then x else x + 1) 0 0)), (3, .int (nI 0))]) (ws' := wMo cI cC y (rowOf T) (kr, ar, ik, F, f, n, tk, bg, en, vl, s1, s2, s3, cr)) (by first | rfl | (simp only [itr, if_pos s_3_7, if_neg s_3_0, if_neg s_3_1, if_neg s_3_2, if_neg s_3_3, if_neg s_3_4, if_neg s_3_5, if_neg s_3_6])) rfl (by rfl) ?_
    refine aw_loop (LV := fun i => [(0, .ref (y 0)), (1, .int w), (2, .int (itr (fun k x => bif decide (T.2.2.2 k = -1) then x else x + 1) i 0)), (3, .int (nI i))]) (WS := fun i => wMo cI cC y (rowOf T) (kr, ar, ik, F, f, n, tk, bg, en, vl, s1, s2, s3, cr)) 10 (Inv := fun _ => True) trivial ?_ ?_
    · intro hv94
      refine aw_iload_n C dX5_count_94 rfl ?_
      refine aw_bipush C (10 : Int32) dX5_count_95 (by decide) ?_
      refine aw_icmp_ge C 126 dX5_count_97 (by decide) (fun c_97 => ?_) (fun c_97 => absurd c_97 (fun z => z (by decide)))
      refine aw_pc 126 rfl ?_
      refine aw_iload_n C dX5_count_126 rfl ?_
      have hm : m_count (T, K, ik, F, f, n, s1, s2, s3) w = ((itr (fun k x => bif decide (T.2.2.2 k = -1) then x else x + 1) 10 0), (T, K, ik, F, f, n, s1, s2, s3)) := by simp only [m_count, if_pos s_3_7, if_neg s_3_0, if_neg s_3_1, if_neg s_3_2, if_neg s_3_3, if_neg s_3_4, if_neg s_3_5, if_neg s_3_6, decide_true, decide_false, Bool.not_true, Bool.not_false, Bool.true_and, Bool.false_and, Bool.and_true, Bool.and_false, Bool.true_or, Bool.false_or, Bool.or_true, Bool.or_false, cond_true, cond_false, eq_self, if_true, if_false, ite_true, ite_false] <;> rfl
      exact aw_iret C hr hlk dX5_count_127 ⟨ri (by rw [hm]), kr, ar, tk, bg, en, vl, cr, by first | (rw [hm]; done) | (rw [hm]; rfl), by rw [hm]; exact hk⟩
    · intro i hi94 hv94 ih94
      refine aw_iload_n C dX5_count_94 rfl ?_
      refine aw_bipush C (10 : Int32) dX5_count_95 (by decide) ?_
      refine aw_icmp_ge C 126 dX5_count_97 (by decide) (fun c_97 => absurd c_97 (nI_ge (b := 10) hi94 (by decide))) (fun c_97 => ?_)
      refine aw_iload_n C dX5_count_100 rfl ?_
      refine aw_aload_n C dX5_count_101 rfl ?_
      refine aw_getf C 0 4 0 18 inX5 rfl (by decide) rfl k3_234 rfl rfl dX5_count_102 ?_
      refine aw_bipush C (60 : Int32) dX5_count_105 (by decide) ?_
      refine aw_iload_n C dX5_count_107 rfl ?_
      refine aw_pc 108 rfl ?_
      refine aw_iadd C dX5_count_108 ?_
      refine aw_ialdN C 1 0 (60 + i) rfl rfl (sp_ix _) (by omega) (by decide) dX5_count_109 ?_
      refine aw_top (y := (T.2.2.2 i)) (by exact row_spot _ _) ?_
      refine aw_if_lt C 117 dX5_count_110 (by decide) (fun c_110 => ?_) (fun c_110 => ?_)
      · skip
        refine aw_iconst C (0 : Int32) dX5_count_117 (by decide) ?_
        refine aw_iadd C dX5_count_118 ?_
        refine aw_istore_n C false (lv' := [(0, .ref (y 0)), (1, .int w), (2, .int ((itr (fun k x => bif decide (T.2.2.2 k = -1) then x else x + 1) i 0) + (0 : Int32))), (3, .int (nI i))]) dX5_count_119 (by decide) rfl rfl ?_
        refine aw_iinc C (nI (i + 1)) dX5_count_120 rfl (inc_nI _ 1) (by decide) rfl (lv' := [(0, .ref (y 0)), (1, .int w), (2, .int ((itr (fun k x => bif decide (T.2.2.2 k = -1) then x else x + 1) i 0) + (0 : Int32))), (3, .int (nI (i + 1)))]) rfl ?_
        refine aw_goto C 94 dX5_count_123 (by decide) ?_
        exact aw_eq (by first | (rw [itr_s, held_a hp hn hi94 c_110]) | (rw [itr_s, held_b c_110])) rfl (by first | rfl | (simp only [itr, if_pos s_3_7, if_neg s_3_0, if_neg s_3_1, if_neg s_3_2, if_neg s_3_3, if_neg s_3_4, if_neg s_3_5, if_neg s_3_6, c_110] <;> first | done | rfl)) (ih94 trivial)
      · skip
        refine aw_iconst C (1 : Int32) dX5_count_113 (by decide) ?_
        refine aw_goto C 118 dX5_count_114 (by decide) ?_
        refine aw_pc 118 rfl ?_
        refine aw_iadd C dX5_count_118 ?_
        refine aw_istore_n C false (lv' := [(0, .ref (y 0)), (1, .int w), (2, .int ((itr (fun k x => bif decide (T.2.2.2 k = -1) then x else x + 1) i 0) + (1 : Int32))), (3, .int (nI i))]) dX5_count_119 (by decide) rfl rfl ?_
        refine aw_iinc C (nI (i + 1)) dX5_count_120 rfl (inc_nI _ 1) (by decide) rfl (lv' := [(0, .ref (y 0)), (1, .int w), (2, .int ((itr (fun k x => bif decide (T.2.2.2 k = -1) then x else x + 1) i 0) + (1 : Int32))), (3, .int (nI (i + 1)))]) rfl ?_
        refine aw_goto C 94 dX5_count_123 (by decide) ?_
        exact aw_eq (by first | (rw [itr_s, held_a hp hn hi94 c_110]) | (rw [itr_s, held_b c_110])) rfl (by first | rfl | (simp only [itr, if_pos s_3_7, if_neg s_3_0, if_neg s_3_1, if_neg s_3_2, if_neg s_3_3, if_neg s_3_4, if_neg s_3_5, if_neg s_3_6, c_110] <;> first | done | rfl)) (ih94 trivial)
  refine aw_tabOut C 128 dX5_count_3 (by have q0 := ne_toInt s_3_0 (z := 0) rfl; have q1 := ne_toInt s_3_1 (z := 1) rfl; have q2 := ne_toInt s_3_2 (z := 2) rfl; have q3 := ne_toInt s_3_3 (z := 3) rfl; have q4 := ne_toInt s_3_4 (z := 4) rfl; have q5 := ne_toInt s_3_5 (z := 5) rfl; have q6 := ne_toInt s_3_6 (z := 6) rfl; have q7 := ne_toInt s_3_7 (z := 7) rfl; omega) (by decide) ?_
  refine aw_aload_n C dX5_count_128 rfl ?_
  refine aw_iconst C (0 : Int32) dX5_count_129 (by decide) ?_
  refine aw_callVd C (As := [.int (0 : Int32)]) (c_X5_no l D cI cC adK adV y T (kr, ar, ik, F, f, n, tk, bg, en, vl, s1, s2, s3, cr) 0 (by decide)) k4_60 cv_X5_no 0 4 rfl rfl rfl [0, 1, 2, 3, 4, 5, 6, 7, 8, 9, 10, 11, 12] (by decide) rfl (wr := ([] : va_W)) [] rfl (by decide) (by decide) [0, 1, 2, 3, 4, 5, 6, 7, 8, 9, 10, 11, 12] (by decide) (ws' := wMo cI cC y (rowOf T) (kr, ar, ik, (upd F 0 (F 0 + 1)), f, n, tk, bg, en, vl, s1, s2, s3, cr)) rfl ⟨by decide, by decide⟩ rfl rfl ⟨by decide, by decide⟩ rfl rfl (Nat.le_of_ble_eq_true rfl) dX5_count_130 ?_
  have hm : m_count (T, K, ik, F, f, n, s1, s2, s3) w = ((fno 0), (T, K, ik, (upd F 0 (F 0 + 1)), f, n, s1, s2, s3)) := by simp only [m_count, if_neg s_3_0, if_neg s_3_1, if_neg s_3_2, if_neg s_3_3, if_neg s_3_4, if_neg s_3_5, if_neg s_3_6, if_neg s_3_7, decide_true, decide_false, Bool.not_true, Bool.not_false, Bool.true_and, Bool.false_and, Bool.and_true, Bool.and_false, Bool.true_or, Bool.false_or, Bool.or_true, Bool.or_false, cond_true, cond_false, eq_self, if_true, if_false, ite_true, ite_false] <;> rfl
  exact aw_iret C hr hlk dX5_count_133 ⟨ri (by rw [hm]), kr, ar, tk, bg, en, vl, cr, by first | (rw [hm]; done) | (rw [hm]; rfl), by rw [hm]; exact hk⟩
abbrev r_X5_status : Room := { frames := 1, cells := 0, slots := 0, locals := 22 }
theorem cv_X5_status : cV yX5_status cX5_status 4 (some .int) 1 := ⟨k5_195, k5_196, k5_197, k1_6, by decide, by decide, by decide +kernel⟩
set_option maxHeartbeats 4000000 in
set_option maxRecDepth 100000 in
theorem c_X5_status (l : Launch) (D : va_G) (cI cC : ClassId) (adK adV : Nat → Nat) (y : Nat → Nat) (T K : Tw) (ik : Bool) (F f : Nat → Int32) (n : Nat) (s1 s2 s3 kr ar : Nat → Int32) (tk : Int32) (bg en : Nat) (vl : Int64) (cr : Nat → Int32) (hk : ik = true → kr = rowOf K) (ho : gOk T) (w : Int32) : FC l yX5_status (wW yX5_status cX5_status 4 (some .int)) r_X5_status D (tyC cI cC) adK adV (wMo cI cC y (rowOf T) (kr, ar, ik, F, f, n, tk, bg, en, vl, s1, s2, s3, cr)) [.ref (y 0), .int w] 0 0 (pMo cI cC y (m_status (T, K, ik, F, f, n, s1, s2, s3) w)) := by
  refine FC.of (own := RX5) (by decide) rfl (Nat.le_of_ble_eq_true rfl) ?_
  intro p9 e9 s9 m9 args9 below9 meth9 c9 A9 C hr hlk hmn
  show AW p9 l e9 r_X5_status s9 m9 args9 below9 meth9 c9 D A9 4 0 0 _ 0 [(0, .ref (y 0)), (1, .int w)] [] _
  have hn := ho.n
  refine aw_iload_n C dX5_status_0 rfl ?_
  refine aw_iconst C (-1 : Int32) dX5_status_1 (by decide) ?_
  refine aw_bipush C (6 : Int32) dX5_status_2 (by decide) ?_
  refine aw_callSp C (As := [.int w, .int (-1 : Int32), .int (6 : Int32)]) (c_X5_in1 l D cI cC adK adV w (-1 : Int32) (6 : Int32)) k4_54 cs_X5_in1 [] (by decide) rfl ⟨by decide, by decide⟩ rfl rfl ⟨by decide, by decide⟩ rfl rfl (Nat.le_of_ble_eq_true rfl) dX5_status_4 ?_
  refine aw_top (y := b2 (!decide (w < (-1 : Int32)) && decide (w ≤ (6 : Int32)))) (by exact congrArg b2 (inL_le _ _ _)) ?_
  refine aw_ifne_b C 16 dX5_status_7 (by decide) (fun c_7 => ?_) (fun c_7 => ?_)
  · skip
    refine aw_iconst C (0 : Int32) dX5_status_16 (by decide) ?_
    refine aw_istore_n C true (lv' := [(0, .ref (y 0)), (1, .int w), (2, .int (0 : Int32))]) dX5_status_17 (by decide) rfl rfl ?_
    refine aw_iconst C (0 : Int32) dX5_status_18 (by decide) ?_
    refine aw_istore_n C true (lv' := [(0, .ref (y 0)), (1, .int w), (2, .int (0 : Int32)), (3, .int (0 : Int32))]) dX5_status_19 (by decide) rfl rfl ?_
    refine aw_eq (lv' := [(0, .ref (y 0)), (1, .int w), (2, .int (stF F w 0)), (3, .int (nI 0))]) (ws' := wMo cI cC y (rowOf T) (kr, ar, ik, F, f, n, tk, bg, en, vl, s1, s2, s3, cr)) (by first | rfl | (simp only [itr, c_7])) rfl (by rfl) ?_
    refine aw_loop (LV := fun i => [(0, .ref (y 0)), (1, .int w), (2, .int (stF F w i)), (3, .int (nI i))]) (WS := fun i => wMo cI cC y (rowOf T) (kr, ar, ik, F, f, n, tk, bg, en, vl, s1, s2, s3, cr)) 7 (Inv := fun _ => True) trivial ?_ ?_
    · intro hv20
      refine aw_pc 20 rfl ?_
      refine aw_iload_n C dX5_status_20 rfl ?_
      refine aw_bipush C (7 : Int32) dX5_status_21 (by decide) ?_
      refine aw_icmp_ge C 55 dX5_status_23 (by decide) (fun c_23 => ?_) (fun c_23 => absurd c_23 (fun z => z (by decide)))
      refine aw_iload_n C dX5_status_55 rfl ?_
      have hm : m_status (T, K, ik, F, f, n, s1, s2, s3) w = ((stF F w 7), (T, K, ik, F, f, n, s1, s2, s3)) := by exact st_e c_7
      exact aw_iret C hr hlk dX5_status_56 ⟨ri (by rw [hm]), kr, ar, tk, bg, en, vl, cr, by first | (rw [hm]; done) | (rw [hm]; rfl), by rw [hm]; exact hk⟩
    · intro i hi20 hv20 ih20
      refine aw_iload_n C dX5_status_20 rfl ?_
      refine aw_bipush C (7 : Int32) dX5_status_21 (by decide) ?_
      refine aw_icmp_ge C 55 dX5_status_23 (by decide) (fun c_23 => absurd c_23 (nI_ge (b := 7) hi20 (by decide))) (fun c_23 => ?_)
      refine aw_iload_n C dX5_status_26 rfl ?_
      refine aw_iload_n C dX5_status_27 rfl ?_
      refine aw_pc 28 rfl ?_
      refine aw_iconst C (-1 : Int32) dX5_status_28 (by decide) ?_
      refine aw_icmp_eq C 37 dX5_status_29 (by decide) (fun c_29 => ?_) (fun c_29 => ?_)
      · skip
        refine aw_aload_n C dX5_status_37 rfl ?_
        refine aw_getf C 0 4 4 18 inX5 rfl (by decide) rfl k3_238 rfl rfl dX5_status_38 ?_
        refine aw_iload_n C dX5_status_41 rfl ?_
        refine aw_ialdN C 4 0 i rfl rfl rfl (by omega) (by decide) dX5_status_42 ?_
        refine aw_top (y := (F i)) rfl ?_
        refine aw_goto C 47 dX5_status_43 (by decide) ?_
        refine aw_iadd C dX5_status_47 ?_
        refine aw_istore_n C false (lv' := [(0, .ref (y 0)), (1, .int w), (2, .int ((stF F w i) + (F i))), (3, .int (nI i))]) dX5_status_48 (by decide) rfl rfl ?_
        refine aw_iinc C (nI (i + 1)) dX5_status_49 rfl (inc_nI _ 1) (by decide) rfl (lv' := [(0, .ref (y 0)), (1, .int w), (2, .int ((stF F w i) + (F i))), (3, .int (nI (i + 1)))]) rfl ?_
        refine aw_pc 52 rfl ?_
        refine aw_goto C 20 dX5_status_52 (by decide) ?_
        exact aw_eq (by first | (rw [stF_a c_29]) | (rw [stF_b c_34]) | (rw [stF_c c_29 c_34])) rfl (by first | rfl | (simp only [itr, c_7, c_29] <;> first | done | rfl)) (ih20 trivial)
      · skip
        refine aw_iload_n C dX5_status_32 rfl ?_
        refine aw_iload_n C dX5_status_33 rfl ?_
        refine aw_icmp_ne C 46 dX5_status_34 (by decide) (fun c_34 => ?_) (fun c_34 => ?_)
        · skip
          refine aw_iconst C (0 : Int32) dX5_status_46 (by decide) ?_
          refine aw_iadd C dX5_status_47 ?_
          refine aw_istore_n C false (lv' := [(0, .ref (y 0)), (1, .int w), (2, .int ((stF F w i) + (0 : Int32))), (3, .int (nI i))]) dX5_status_48 (by decide) rfl rfl ?_
          refine aw_iinc C (nI (i + 1)) dX5_status_49 rfl (inc_nI _ 1) (by decide) rfl (lv' := [(0, .ref (y 0)), (1, .int w), (2, .int ((stF F w i) + (0 : Int32))), (3, .int (nI (i + 1)))]) rfl ?_
          refine aw_goto C 20 dX5_status_52 (by decide) ?_
          exact aw_eq (by first | (rw [stF_a c_29]) | (rw [stF_b c_34]) | (rw [stF_c c_29 c_34])) rfl (by first | rfl | (simp only [itr, c_7, c_29, c_34] <;> first | done | rfl)) (ih20 trivial)
        · skip
          refine aw_aload_n C dX5_status_37 rfl ?_
          refine aw_pc 38 rfl ?_
          refine aw_getf C 0 4 4 18 inX5 rfl (by decide) rfl k3_238 rfl rfl dX5_status_38 ?_
          refine aw_iload_n C dX5_status_41 rfl ?_
          refine aw_ialdN C 4 0 i rfl rfl rfl (by omega) (by decide) dX5_status_42 ?_
          refine aw_top (y := (F i)) rfl ?_
          refine aw_goto C 47 dX5_status_43 (by decide) ?_
          refine aw_iadd C dX5_status_47 ?_
          refine aw_istore_n C false (lv' := [(0, .ref (y 0)), (1, .int w), (2, .int ((stF F w i) + (F i))), (3, .int (nI i))]) dX5_status_48 (by decide) rfl rfl ?_
          refine aw_iinc C (nI (i + 1)) dX5_status_49 rfl (inc_nI _ 1) (by decide) rfl (lv' := [(0, .ref (y 0)), (1, .int w), (2, .int ((stF F w i) + (F i))), (3, .int (nI (i + 1)))]) rfl ?_
          refine aw_goto C 20 dX5_status_52 (by decide) ?_
          exact aw_eq (by first | (rw [stF_a c_29]) | (rw [stF_b c_34]) | (rw [stF_c c_29 c_34])) rfl (by first | rfl | (simp only [itr, c_7, c_29, c_34] <;> first | done | rfl)) (ih20 trivial)
  · skip
    refine aw_aload_n C dX5_status_10 rfl ?_
    refine aw_iconst C (0 : Int32) dX5_status_11 (by decide) ?_
    refine aw_pc 12 rfl ?_
    refine aw_callVd C (As := [.int (0 : Int32)]) (c_X5_no l D cI cC adK adV y T (kr, ar, ik, F, f, n, tk, bg, en, vl, s1, s2, s3, cr) 0 (by decide)) k4_60 cv_X5_no 0 4 rfl rfl rfl [0, 1, 2, 3, 4, 5, 6, 7, 8, 9, 10, 11, 12] (by decide) rfl (wr := ([] : va_W)) [] rfl (by decide) (by decide) [0, 1, 2, 3, 4, 5, 6, 7, 8, 9, 10, 11, 12] (by decide) (ws' := wMo cI cC y (rowOf T) (kr, ar, ik, (upd F 0 (F 0 + 1)), f, n, tk, bg, en, vl, s1, s2, s3, cr)) rfl ⟨by decide, by decide⟩ rfl rfl ⟨by decide, by decide⟩ rfl rfl (Nat.le_of_ble_eq_true rfl) dX5_status_12 ?_
    have hm : m_status (T, K, ik, F, f, n, s1, s2, s3) w = ((fno 0), (T, K, ik, (upd F 0 (F 0 + 1)), f, n, s1, s2, s3)) := by exact st_n c_7
    exact aw_iret C hr hlk dX5_status_15 ⟨ri (by rw [hm]), kr, ar, tk, bg, en, vl, cr, by first | (rw [hm]; done) | (rw [hm]; rfl), by rw [hm]; exact hk⟩
