/-! what stays true of a state -/
def gI (G : Sg) : Prop := gOk G.1 ∧ gOk G.2.1 ∧ spOk G.1 ∧ spOk G.2.1 ∧ sOk G.2.2.2.2.2.2.2.1 ∧ G.2.2.2.2.2.1 ≤ 120
abbrev gNew : Sg := (tNew, tNew, false, (fun _ => 0), (fun _ => 0), 0, (fun _ => 0), (fun _ => 0), (fun _ => 0))
theorem tNew_ok : gOk tNew := by
  refine gOk_mk (by decide) ?_ (rg_c 0 (by decide)) (rg_c 0 (by decide)) (fun _ _ _ _ => rfl)
  intro f hf p
  show rgO 0 (lim f)
  refine ⟨0, ?_, rfl⟩
  have h9 : ∀ f, f < 7 → 0 < lim f := by decide
  exact h9 f hf
theorem gNew_ok : gI gNew := ⟨tNew_ok, tNew_ok, fun j _ => Or.inl rfl, fun j _ => Or.inl rfl, fun s _ => ⟨0, by decide, rfl⟩, Nat.zero_le _⟩
/-- no fewer persons, the same spots -/
def kp (T U : Tw) : Prop := T.1 ≤ U.1 ∧ U.2.2.2 = T.2.2.2
theorem kp_r {T : Tw} : kp T T := ⟨Nat.le_refl _, rfl⟩
theorem kp_t {T U V : Tw} (h1 : kp T U) (h2 : kp U V) : kp T V := ⟨Nat.le_trans h1.1 h2.1, h2.2.trans h1.2⟩
theorem kp_e {T U : Tw} (h1 : U.1 = T.1) (h2 : U.2.2.2 = T.2.2.2) : kp T U := ⟨Nat.le_of_eq h1.symm, h2⟩
theorem kp_sp {T U : Tw} (h : kp T U) (hs : spOk T) : spOk U := by
  intro j hj
  rw [h.2]
  rcases hs j hj with e | ⟨p, hp, e⟩
  · exact Or.inl e
  · exact Or.inr ⟨p, Nat.lt_of_lt_of_le hp h.1, e⟩
theorem itr_sp {f : Nat → Tw → Tw} (h : ∀ p U, (f p U).2.2.2 = U.2.2.2) (T : Tw) : ∀ i, (itr f i T).2.2.2 = T.2.2.2
  | 0 => rfl
  | i + 1 => (h i _).trans (itr_sp h T i)
theorem goes_s (U : Tw) (b : Bool) (p : Nat) : (tGoes U b p).2.2.2 = U.2.2.2 := by cases b <;> rfl
theorem meets_s (U : Tw) (p q : Nat) : (tMeets U p q).2.2.2 = U.2.2.2 := by unfold tMeets; cases tMind U p _ <;> rfl
theorem mingle_s (U : Tw) (p q : Nat) : (tMingle U p q).2.2.2 = U.2.2.2 := (meets_s _ _ _).trans (meets_s _ _ _)
theorem ctk_s (U : Tw) (p q : Nat) : (tCtk U p q).2.2.2 = U.2.2.2 := by unfold tCtk; cases tKno U p q <;> rfl
theorem bare_s (U : Tw) (p q : Nat) : (tBare U p q).2.2.2 = U.2.2.2 := by
  unfold tBare
  cases tSee U p q
  · rfl
  · cases tMut U 3 p q
    · rfl
    · exact (ctk_s _ _ _).trans (ctk_s _ _ _)
theorem pair_s (b : Bool) (p q : Nat) (U : Tw) : (tPair b p q U).2.2.2 = U.2.2.2 := by
  unfold tPair
  cases b
  · cases decide (U.2.2.1 1 p = U.2.2.1 1 q)
    · rfl
    · exact mingle_s _ _ _
  · exact bare_s _ _ _
theorem row_s (b : Bool) (n p j : Nat) (U : Tw) : (tRow b n p j U).2.2.2 = U.2.2.2 := itr_sp (fun _ _ => pair_s _ _ _ _) U j
theorem day_s (T : Tw) : (tDay T).2.2.2 = T.2.2.2 := (itr_sp (fun _ _ => row_s _ _ _ _ _) _ _).trans (itr_sp (fun _ _ => goes_s _ _ _) _ _)
theorem days_kp (n : Nat) (T : Tw) : kp T (tDays n T) := kp_e (days_n n T) (itr_sp (fun _ _ => day_s _) T n)
theorem put_s (T : Tw) (p : Nat) (w v : Int32) : (mPut T p w v).2.2.2 = T.2.2.2 := by
  unfold mPut
  repeat' split
  all_goals rfl
theorem put_kp (T : Tw) (p : Nat) (w v : Int32) : kp T (mPut T p w v) := kp_e (put_n T p w v) (put_s T p w v)
theorem nStep_s (U : Tw) : (nStep U).2.2.2 = U.2.2.2 := by
  unfold nStep
  dsimp only
  rw [day_s]
  cases mThere (tDraw (tDraw (tDraw U))) (ir (mDraw U) 8)
  · rfl
  · exact (put_s _ _ _ _).trans (put_s _ _ _ _)
theorem night_kp (n : Nat) (T : Tw) : kp T (tNight n T) := kp_e (itr_n (fun _ _ => nStep_n _) T n) (itr_sp (fun _ _ => nStep_s _) T n)
theorem load_kp (T : Tw) (g : Nat → Int32) (m : Nat) : kp T (tLoad T g m) := kp_e (load_n T g m) (itr_sp (fun _ _ => put_s _ _ _ _) T m)
theorem tAdd_kp (T : Tw) (k c : Int32) : kp T (tAdd T k c) := ⟨Nat.le_succ _, rfl⟩
theorem rdOut_kp {f : Nat → Int32} {n a p : Nat} {U : Tw} : kp U (rdOut f n U a p).2.1 := by
  unfold rdOut
  cases wK f n p 11
  · exact kp_r
  · exact put_kp _ _ _ _
theorem rdItem_kp {f : Nat → Int32} {n p : Nat} {T : Tw} : kp T (rdItem f n T p).2.1 := by
  unfold rdItem
  cases decide (kW f n p = -1)
  · show kp T (rdOne f n (kW f n p) T p).2.1
    unfold rdOne
    cases !decide (nI T.1 < 8)
    · cases (rdAt f n (nx f n p) 9 16).1
      · exact kp_r
      · show kp T (rdAs f n (kW f n p) (rdAt f n (nx f n p) 9 16).2.1 T (rdAt f n (nx f n p) 9 16).2.2).2.1
        unfold rdAs
        cases (rdAt f n (rdAt f n (nx f n p) 9 16).2.2 10 12).1
        · exact kp_r
        · exact kp_t (kp_t (tAdd_kp T (kW f n p) _) (put_kp _ _ _ _)) rdOut_kp
    · exact kp_r
  · cases wK f n p 7
    · cases wK f n p 8
      · exact kp_r
      · show kp T (rdBell f n T p).2.1
        unfold rdBell
        cases nB f n (nx f n p) 12
        · exact kp_r
        · exact ⟨Nat.le_refl _, rfl⟩
    · show kp T (rdMet f n T p).2.1
      unfold rdMet
      cases nB f n (nx f n p) (nI T.1)
      · exact kp_r
      · cases nB f n (nx f n (nx f n p)) (nI T.1) && !decide (nmV f n (nx f n (nx f n p)) = nmV f n (nx f n p))
        · exact kp_r
        · exact ⟨Nat.le_refl _, rfl⟩
theorem rdLoop_ok {f : Nat → Int32} {n : Nat} : ∀ (k i : Nat) (T : Tw) (p : Nat), gOk T → gOk (rdLoop f n k i T p).2 ∧ kp T (rdLoop f n k i T p).2
  | 0, _, _, _, h => ⟨h, kp_r⟩
  | k + 1, i, T, p, h => by
    have h1 : gOk (rdItem f n T p).2.1 := rdItem_ok h
    have h2 : kp T (rdItem f n T p).2.1 := rdItem_kp
    rw [rdLoop]
    generalize rdItem f n T p = M at h1 h2 ⊢
    cases M.1
    · exact ⟨h1, h2⟩
    · cases decide (tkI f n M.2.2 = 0)
      · cases decide (tkI f n M.2.2 = 3)
        · exact ⟨h1, h2⟩
        · have h3 := rdLoop_ok (f := f) (n := n) k (i + 1) M.2.1 (nx f n M.2.2) h1
          exact ⟨h3.1, kp_t h2 h3.2⟩
      · exact ⟨h1, h2⟩
theorem gI_no {G : Sg} {w : Nat} (h : gI G) : gI (gno G w).2 := h
theorem gI_T {G : Sg} {U : Tw} (h : gI G) (ho : gOk U) (hs : spOk U) : gI (gT G U) := ⟨ho, h.2.1, hs, h.2.2.2.1, h.2.2.2.2⟩
theorem gI_kp {G : Sg} {U : Tw} (h : gI G) (ho : gOk U) (hs : kp G.1 U) : gI (gT G U) := gI_T h ho (kp_sp hs h.2.2.1)
theorem gI_Q {G : Sg} {f : Nat → Int32} {n : Nat} (h : gI G) (hn : n ≤ 120) : gI (gQ G f n) := ⟨h.1, h.2.1, h.2.2.1, h.2.2.2.1, h.2.2.2.2.1, hn⟩
theorem gI_S {G : Sg} {a b c : Nat → Int32} (h : gI G) (hb : sOk b) : gI (gS G a b c) := ⟨h.1, h.2.1, h.2.2.1, h.2.2.2.1, hb, h.2.2.2.2.2⟩
theorem c_gI {α : Type} {c : Bool} {a b : α × Sg} (ha : gI a.2) (hb : gI b.2) : gI (bif c then a else b).2 := by
  cases c
  · exact hb
  · exact ha
theorem d_gI {α : Type} {c : Bool} {a b : α × Sg} (ha : c = true → gI a.2) (hb : c = false → gI b.2) : gI (bif c then a else b).2 := by
  cases c
  · exact hb rfl
  · exact ha rfl
theorem i_gI {α : Type} {c : Prop} [Decidable c] {a b : α × Sg} (ha : gI a.2) (hb : gI b.2) : gI (if c then a else b).2 := by
  by_cases h : c
  · rw [if_pos h]; exact ha
  · rw [if_neg h]; exact hb
theorem in0_rg {v : Int32} {n : Nat} (hn : n < 2 ^ 31) (h : in0 v (nI n) = true) : rgO v n := ⟨ix v, (in0_ix hn h).2, (in0_ix hn h).1⟩
theorem k_person {G : Sg} (h : gI G) (a b : Int32) : gI (m_person G a b).2 := by
  unfold m_person
  refine d_gI (fun c1 => d_gI (fun _ => h) (fun c2 => ?_)) (fun _ => h)
  have e := and_2 c1
  exact gI_kp h (tAdd_ok h.1 (nfull h.1.n c2) (in0_rg (n := 7) (by decide) e.1) (in0_rg (n := 16) (by decide) e.2)) (tAdd_kp _ _ _)
theorem k_of {G : Sg} (h : gI G) (a b : Int32) : gI (m_of G a b).2 := c_gI h h
theorem oth_rg {T : Tw} {p : Nat} {x : Int32} (hn : T.1 ≤ 8) (h : mOthers T p x = true) : rgO x 256 := by
  have h9 : x &&& ((evb T &&& (bitOf (nI p) ^^^ -1)) ^^^ -1) = 0 := of_decide_eq_true h
  obtain ⟨e, he, h256⟩ : ∃ e, evb T = nI e ∧ e < 256 := ⟨_, evb_nI hn, by have := (evb_pow T.1 (by omega)).2; omega⟩
  rw [he] at h9
  generalize bitOf (nI p) ^^^ -1 = q at h9
  have hb : x.toBitVec &&& (((nI e).toBitVec &&& q.toBitVec) ^^^ (-1 : Int32).toBitVec) = 0 := congrArg Int32.toBitVec h9
  have hE : (nI e).toBitVec.toNat = e := pk_tn (by omega)
  have hx : x.toBitVec.toNat < 2 ^ 8 := by
    refine Nat.lt_pow_two_of_testBit _ (fun i hi => ?_)
    by_cases h32 : i < 32
    · have hi2 := congrArg (fun z => z.getLsbD i) hb
      simp only [BitVec.getLsbD_and, BitVec.getLsbD_xor] at hi2
      have e1 : (nI e).toBitVec.getLsbD i = false := by
        show (nI e).toBitVec.toNat.testBit i = false
        rw [hE]
        exact Nat.testBit_lt_two_pow (Nat.lt_of_lt_of_le h256 (Nat.pow_le_pow_right (n := 2) (by decide) hi : 2 ^ 8 ≤ 2 ^ i))
      have e2 : ((-1 : Int32).toBitVec).getLsbD i = true := by
        rw [show (-1 : Int32).toBitVec = BitVec.allOnes 32 from rfl, BitVec.getLsbD_allOnes]
        exact decide_eq_true h32
      rw [e1, e2] at hi2
      show x.toBitVec.getLsbD i = false
      simpa using hi2
    · exact Nat.testBit_lt_two_pow (Nat.lt_of_lt_of_le x.toBitVec.isLt (Nat.pow_le_pow_right (n := 2) (by decide) (by omega)))
  refine ⟨x.toBitVec.toNat, hx, ?_⟩
  apply Int32.toBitVec_inj.mp
  apply BitVec.eq_of_toNat_eq
  rw [pk_tn (by omega)]
theorem can_rg {T : Tw} {p : Nat} {w v : Int32} (hn : T.1 ≤ 8) (h : mCan T p w v = true) : ∃ j, j < 7 ∧ w = nI j ∧ rgO v (lim j) := by
  unfold mCan at h
  split at h
  · exact ⟨0, by decide, by assumption, in0_rg (n := 7) (by decide) h⟩
  split at h
  · exact ⟨1, by decide, by assumption, in0_rg (n := 16) (by decide) h⟩
  split at h
  · exact ⟨2, by decide, by assumption, in0_rg (n := 12) (by decide) h⟩
  split at h
  · exact ⟨3, by decide, by assumption, oth_rg hn h⟩
  split at h
  · exact ⟨4, by decide, by assumption, oth_rg hn h⟩
  split at h
  · exact ⟨5, by decide, by assumption, in0_rg (n := 2) (by decide) h⟩
  split at h
  · refine ⟨6, by decide, by assumption, ?_⟩
    have e := and_2 h
    have e1 : ¬ v < 0 := by simpa using e.1
    have e2 : ¬ 9999 < v := by simpa using e.2
    have e3 := ix_eq e1
    refine ⟨ix v, ?_, e3⟩
    show ix v < 10000
    have e4 : ix v < 2 ^ 31 := by
      obtain ⟨a, ha, e5⟩ := nI_of e1
      rw [e5, ix_nI ha]; exact ha
    rw [e3] at e2
    have e6 := mt (nI_ltI (a := 9999) (by decide) e4).mpr e2
    omega
  · cases h
theorem k_change {G : Sg} (h : gI G) (a b c : Int32) : gI (m_change G a b c).2 := by
  unfold m_change
  refine d_gI (fun c1 => ?_) (fun _ => h)
  have e := and_2 c1
  obtain ⟨j, hj, ew, hv⟩ := can_rg h.1.n e.2
  refine gI_kp h ?_ (put_kp _ _ _ _)
  rw [ew, put_nI _ _ _ j hj]
  exact gOk_P h.1 hj (there_lt h.1.n e.1) hv
theorem k_minds {G : Sg} (h : gI G) (a b : Int32) : gI (m_minds G a b).2 := c_gI h h
theorem k_far {G : Sg} (h : gI G) (a b : Int32) : gI (m_far G a b).2 := c_gI h h
theorem k_who {G : Sg} (h : gI G) (a : Int32) : gI (m_who G a).2 := c_gI h h
theorem k_two {G : Sg} (h : gI G) (a b c : Int32) : gI (m_two G a b c).2 := by
  unfold m_two
  refine c_gI ?_ h
  repeat first | refine i_gI ?_ ?_ | exact h | exact gI_no h
theorem k_go {G : Sg} (h : gI G) (a : Int32) : gI (m_go G a).2 := by
  unfold m_go
  exact c_gI (c_gI (gI_kp h (days_ok h.1 _) (days_kp _ _)) h) h
theorem k_now {G : Sg} (h : gI G) (a : Int32) : gI (m_now G a).2 := by
  unfold m_now
  repeat first | refine i_gI ?_ ?_ | refine c_gI ?_ ?_ | exact h | exact gI_no h
theorem k_ahead {G : Sg} (h : gI G) (a b c : Int32) : gI (m_ahead G a b c).2 := c_gI h h
theorem k_joy {G : Sg} (h : gI G) (a : Int32) : gI (m_joy G a).2 := c_gI h h
theorem first_gI {G : Sg} (h : gI G) (c : Nat → Bool) : gI (mFirst G c).2 := c_gI h h
theorem k_when {G : Sg} (h : gI G) (a b c : Int32) : gI (m_when G a b c).2 := c_gI (first_gI h _) h
theorem k_known {G : Sg} (h : gI G) : gI (m_known G).2 := first_gI h _
theorem k_passed {G : Sg} (h : gI G) (a b : Int32) : gI (m_passed G a b).2 := c_gI (first_gI h _) h
theorem most_gI {G : Sg} (h : gI G) (u w : Int32) (vals : Nat) (k : Int32) : gI (m_most G u w vals k).2 := c_gI h h
theorem k_standFor {G : Sg} (h : gI G) (a b : Int32) : gI (m_standFor G a b).2 := most_gI h _ _ _ _
theorem k_guiseFor {G : Sg} (h : gI G) (a b : Int32) : gI (m_guiseFor G a b).2 := most_gI h _ _ _ _
theorem k_kindFor {G : Sg} (h : gI G) (a b : Int32) : gI (m_kindFor G a b).2 := most_gI h _ _ _ _
theorem k_dark {G : Sg} (h : gI G) (a : Int32) : gI (m_dark G a).2 := by
  unfold m_dark
  repeat first | refine i_gI ?_ ?_ | refine c_gI ?_ ?_ | exact h | exact gI_no h
theorem k_circle {G : Sg} (h : gI G) (a : Int32) : gI (m_circle G a).2 := by
  unfold m_circle
  repeat first | refine i_gI ?_ ?_ | refine c_gI ?_ ?_ | exact h | exact gI_no h
theorem fit_gI {G : Sg} (h : gI G) (s u w : Int32) (vals : Nat) : gI (m_fit G s u w vals).2 := by
  unfold m_fit
  repeat first | refine i_gI ?_ ?_ | refine c_gI ?_ ?_ | exact h | exact gI_no h
theorem k_fits {G : Sg} (h : gI G) (a b : Int32) : gI (m_fits G a b).2 := fit_gI h _ _ _ _
theorem k_kinds {G : Sg} (h : gI G) (a b : Int32) : gI (m_kinds G a b).2 := fit_gI h _ _ _ _
theorem k_night {G : Sg} (h : gI G) (a : Int32) : gI (m_night G a).2 := by
  unfold m_night
  exact c_gI (c_gI (gI_kp h (night_ok h.1 _) (night_kp _ _)) h) h
theorem k_odds {G : Sg} (h : gI G) (a b c : Int32) : gI (m_odds G a b c).2 := by
  unfold m_odds
  exact c_gI h h
theorem k_seed {G : Sg} (h : gI G) (a : Int32) : gI (m_seed G a).2 := gI_kp h (gOk_G2 h.1) ⟨Nat.le_refl _, rfl⟩
theorem k_feed {G : Sg} (h : gI G) (a b : Int32) : gI (m_feed G a b).2 := by
  unfold m_feed
  refine d_gI (fun c1 => d_gI (fun c2 => ?_) (fun _ => h)) (fun _ => h)
  have e := and_2 c1
  have e1 : ¬ b < 1 := by simpa using e.1
  have e0 : ¬ b < 0 := fun c => e1 (Int32.lt_trans c (by decide))
  exact gI_Q h (room_le h.2.2.2.2.2 e0 (of_decide_eq_true e.2) (of_decide_eq_true c2))
theorem k_wipe {G : Sg} (h : gI G) : gI (m_wipe G).2 := gI_Q h (Nat.zero_le _)
theorem k_text {G : Sg} (h : gI G) : gI (m_text G).2 := by
  have e := rdLoop_ok (f := G.2.2.2.2.1) (n := G.2.2.2.2.2.1) 120 0 G.1 (skp G.2.2.2.2.1 G.2.2.2.2.2.1 0) h.1
  have e1 : gOk (rdAll G.2.2.2.2.1 G.2.2.2.2.2.1 G.1).2 := e.1
  have e2 : kp G.1 (rdAll G.2.2.2.2.1 G.2.2.2.2.2.1 G.1).2 := e.2
  unfold m_text
  generalize rdAll G.2.2.2.2.1 G.2.2.2.2.2.1 G.1 = M at e1 e2 ⊢
  exact c_gI (gI_Q h (Nat.zero_le _)) (gI_kp (G := gQ G G.2.2.2.2.1 0) (gI_Q h (Nat.zero_le _)) e1 e2)
theorem k_hold {G : Sg} (h : gI G) (a b : Int32) : gI (m_hold G a b).2 := by
  unfold m_hold
  refine d_gI (fun c1 => ?_) (fun _ => h)
  have e := (and_2 c1).2
  have hu : b = -1 ∨ ∃ p, p < G.1.1 ∧ b = nI p := by
    rcases (Bool.or_eq_true _ _).mp e with e | e
    · exact Or.inl (of_decide_eq_true e)
    · exact Or.inr ⟨ix b, there_lt h.1.n e, there_ix e⟩
  refine gI_T h (gOk_mk h.1.n h.1.f h.1.d h.1.j h.1.z) ?_
  intro j hj
  show upd G.1.2.2.2 (ix a) b j = -1 ∨ ∃ p, p < G.1.1 ∧ upd G.1.2.2.2 (ix a) b j = nI p
  unfold upd
  by_cases e2 : j = ix a
  · rw [if_pos e2]; exact hu
  · rw [if_neg e2]; exact h.2.2.1 j hj
theorem k_as {G : Sg} (h : gI G) (a b : Int32) : gI (m_as G a b).2 := by
  unfold m_as
  exact c_gI (c_gI (c_gI h h) h) h
theorem sOk_upd {s2 : Nat → Int32} {i k : Nat} {L : Int32} (h : sOk s2) (hk : k ≤ 40) (e : L = nI k) : sOk (upd s2 i L) := by
  intro s hs
  unfold upd
  by_cases e2 : s = i
  · rw [if_pos e2]; exact ⟨k, hk, e⟩
  · rw [if_neg e2]; exact h s hs
theorem k_sheet {G : Sg} (h : gI G) (a b c : Int32) : gI (m_sheet G a b c).2 := by
  unfold m_sheet
  refine c_gI (d_gI (fun c1 => d_gI (fun c2 => ?_) (fun _ => h)) (fun _ => h)) h
  have e1 : ¬ c < 0 := Int32.not_lt.mpr (of_decide_eq_true c1)
  have e2 : c ≤ 40 := of_decide_eq_true c2
  obtain ⟨k, hk, e3⟩ := nI_of e1
  have e4 : k ≤ 40 := by
    rw [e3] at e2
    have := mt (nI_ltI (a := 40) (b := k) (by decide) hk).mpr (Int32.not_lt.mpr e2)
    omega
  refine gI_S h ?_
  by_cases e5 : b = 0
  · rw [if_pos e5]; exact sOk_upd h.2.2.2.2.1 (Nat.zero_le _) rfl
  · rw [if_neg e5]; exact sOk_upd h.2.2.2.2.1 e4 e3
theorem k_write {G : Sg} (h : gI G) (a b c : Int32) : gI (m_write G a b c).2 := by
  unfold m_write
  exact c_gI (c_gI h (c_gI (gI_S h h.2.2.2.2.1) h)) h
theorem k_copy {G : Sg} (h : gI G) (a b c d e : Int32) : gI (m_copy G a b c d e).2 := by
  unfold m_copy
  exact c_gI (c_gI (c_gI (c_gI (gI_S h h.2.2.2.2.1) h) h) h) h
theorem load_ok {T : Tw} {g : Nat → Int32} {m : Nat} (h : gOk T) (hm : m ≤ T.1) (hg : ∀ k, k < m → in0 (g k) 12 = true) : gOk (tLoad T g m) :=
  itr_ok (m := m) (fun _ _ => put_n _ _ _ _) (fun i U hi hU e => by
    rw [put_2]
    exact gOk_P hU (by decide) (by omega) (in0_rg (n := 12) (by decide) (hg i hi))) h m (Nat.le_refl _)
theorem k_load {G : Sg} (h : gI G) (a : Int32) : gI (m_load G a).2 := by
  unfold m_load
  refine c_gI (c_gI h (gI_kp h (load_ok h.1 ?_ ?_) (load_kp _ _ _))) h
  · exact Nat.le_trans (fst9_le _ _) (Nat.min_le_right _ _)
  · intro k hk
    have e := fst9_all k hk
    simpa using e
theorem k_judge {G : Sg} (h : gI G) (a : Int32) : gI (m_judge G a).2 := by
  unfold m_judge
  exact c_gI (c_gI h h) h
theorem k_image {G : Sg} (h : gI G) : gI (m_image G).2 := ⟨h.1, h.1, h.2.2.1, h.2.2.1, h.2.2.2.2⟩
theorem k_undo {G : Sg} (h : gI G) : gI (m_undo G).2 := by
  unfold m_undo
  exact c_gI (gI_T h h.2.1 h.2.2.2.1) h
theorem k_tear {G : Sg} (h : gI G) : gI (m_tear G).2 := h
theorem k_count {G : Sg} (h : gI G) (a : Int32) : gI (m_count G a).2 := by
  unfold m_count
  repeat first | refine i_gI ?_ ?_ | refine c_gI ?_ ?_ | exact h | exact gI_no h
theorem k_status {G : Sg} (h : gI G) (a : Int32) : gI (m_status G a).2 := by
  unfold m_status
  repeat first | refine i_gI ?_ ?_ | refine c_gI ?_ ?_ | exact h | exact gI_no h
