/-! the reference: what stays in its bounds, and a day -/
def rgO (v : Int32) (n : Nat) : Prop := ∃ k, k < n ∧ v = nI k
def lim (f : Nat) : Nat := if f = 0 then 7 else if f = 1 then 16 else if f = 2 then 12 else if f = 3 then 256 else if f = 4 then 256 else if f = 5 then 2 else 10000
def gOk (T : Tw) : Prop := T.1 ≤ 8 ∧ (∀ f, f < 7 → ∀ p, rgO (T.2.2.1 f p) (lim f)) ∧ rgO (T.2.1 0) 100000 ∧ rgO (T.2.1 3) 100000 ∧ (∀ f, f < 7 → ∀ p, T.1 ≤ p → T.2.2.1 f p = 0)
theorem gOk_mk {T : Tw} (n : T.1 ≤ 8) (f : ∀ f, f < 7 → ∀ p, rgO (T.2.2.1 f p) (lim f)) (d : rgO (T.2.1 0) 100000) (j : rgO (T.2.1 3) 100000) (z : ∀ f, f < 7 → ∀ p, T.1 ≤ p → T.2.2.1 f p = 0) : gOk T := And.intro n (And.intro f (And.intro d (And.intro j z)))
theorem gOk.n {T : Tw} (h : gOk T) : T.1 ≤ 8 := And.left h
theorem gOk.f {T : Tw} (h : gOk T) : ∀ f, f < 7 → ∀ p, rgO (T.2.2.1 f p) (lim f) := And.left (And.right h)
theorem gOk.d {T : Tw} (h : gOk T) : rgO (T.2.1 0) 100000 := And.left (And.right (And.right h))
theorem gOk.j {T : Tw} (h : gOk T) : rgO (T.2.1 3) 100000 := And.left (And.right (And.right (And.right h)))
theorem gOk.z {T : Tw} (h : gOk T) : ∀ f, f < 7 → ∀ p, T.1 ≤ p → T.2.2.1 f p = 0 := And.right (And.right (And.right (And.right h)))
theorem rg_w {v : Int32} {m n : Nat} (h : rgO v m) (e : m ≤ n) : rgO v n := by
  obtain ⟨k, hk, e2⟩ := h
  exact ⟨k, by omega, e2⟩
theorem rg_add {x y : Int32} {m n : Nat} (hx : rgO x m) (hy : rgO y n) : rgO (x + y) (m + n) := by
  obtain ⟨k, hk, rfl⟩ := hx
  obtain ⟨j, hj, rfl⟩ := hy
  exact ⟨k + j, by omega, nI_add _ _⟩
theorem rg_mul {x y : Int32} {m n : Nat} (hx : rgO x m) (hy : rgO y n) : rgO (x * y) (m * n) := by
  obtain ⟨k, hk, rfl⟩ := hx
  obtain ⟨j, hj, rfl⟩ := hy
  exact ⟨k * j, Nat.mul_lt_mul'' hk hj, pk_mul _ _⟩
theorem rg_mod {x : Int32} {m d : Nat} (hx : rgO x m) (hm : m < 2 ^ 31) (h0 : 0 < d) (hd : d < 2 ^ 31) : rgO (ir x (nI d)) d := by
  obtain ⟨k, hk, rfl⟩ := hx
  exact ⟨k % d, Nat.mod_lt _ h0, pk_rem (by omega) h0 hd⟩
theorem rg_mn {x : Int32} {m n : Nat} (hx : rgO x m) (hm : m < 2 ^ 31) (hn : n < 2 ^ 31) : rgO (mn (nI n) x) (n + 1) := by
  obtain ⟨k, hk, rfl⟩ := hx
  unfold mn
  by_cases h : nI k < nI n
  · rw [if_pos h]
    exact ⟨k, by have := (nI_ltI (by omega) (by omega)).mp h; omega, rfl⟩
  · rw [if_neg h]
    exact ⟨n, by omega, rfl⟩
theorem rg_c {n : Nat} (k : Nat) (h : k < n) : rgO (nI k) n := ⟨k, h, rfl⟩
theorem bit_or : ∀ j, j < 256 → ∀ b, b < 8 → nI j ||| bitOf (nI b) = nI (j ||| 2 ^ b) := by decide +kernel
theorem rg_bit {x : Int32} {b : Nat} (hx : rgO x 256) (hb : b < 8) : rgO (x ||| bitOf (nI b)) 256 := by
  obtain ⟨j, hj, rfl⟩ := hx
  rw [bit_or j hj b hb]
  exact ⟨_, Nat.or_lt_two_pow (n := 8) hj (Nat.lt_of_lt_of_le (Nat.pow_lt_pow_right (by decide) hb) (Nat.le_refl _)), rfl⟩
theorem bc_all : ∀ j, j < 256 → bcE (nI j) = nI (bcE (nI j)).toNatClampNeg ∧ (bcE (nI j)).toNatClampNeg < 9 := by decide +kernel
theorem rg_bc {x : Int32} (hx : rgO x 256) : rgO (bcE x) 9 := by
  obtain ⟨j, hj, rfl⟩ := hx
  exact ⟨_, (bc_all j hj).2, (bc_all j hj).1⟩
theorem shine_d : ∀ k, k < 7 → (nI k = 0 ∨ nI k = 1 ∨ nI k = 2 ∨ nI k = 3 ∨ nI k = 4 ∨ mShine (nI k) = 0) := by decide +kernel
theorem shine_D {x : Int32} (hx : rgO x 7) (h0 : ¬ x = 0) (h1 : ¬ x = 1) (h2 : ¬ x = 2) (h3 : ¬ x = 3) (h4 : ¬ x = 4) : mShine x = 0 := by
  obtain ⟨k, hk, rfl⟩ := hx
  exact ((((shine_d k hk).resolve_left h0).resolve_left h1).resolve_left h2).resolve_left h3 |>.resolve_left h4
theorem mut_met (T : Tw) (p q : Nat) : tMut T 3 p q = (tMet T p q && tMet T q p) := rfl
theorem rg_walk {k d : Int32} (hd : rgO d 100000) : rgO (mWalk k d) 6 := by
  have h2 : rgO (ir d 2) 2 := rg_mod (d := 2) hd (by decide) (by decide) (by decide)
  unfold mWalk
  repeat' split
  · exact rg_c 3 (by decide)
  · exact rg_w h2 (by decide)
  · exact rg_w (rg_add h2 (rg_c 1 (by decide) : rgO (nI 1) 2)) (by decide)
  · cases mBare d
    · exact rg_c 0 (by decide)
    · exact rg_c 5 (by decide)
  · exact rg_c 0 (by decide)
  · exact rg_c 2 (by decide)
  · exact rg_c 1 (by decide)
theorem rg_shift {k d : Int32} : rgO (mShift k d) 6 := by
  unfold mShift
  repeat' split
  · exact rg_c 2 (by decide)
  · exact rg_c 0 (by decide)
  · exact rg_c 1 (by decide)
  · exact rg_c 0 (by decide)
  · exact rg_c 5 (by decide)
  · exact rg_c 0 (by decide)
  · exact rg_c 2 (by decide)
  · exact rg_c 1 (by decide)
theorem rg_glad {k c : Int32} (hc : rgO c 9) : rgO (mGlad k c) 1000 := by
  have h3 : rgO (3 + c) 13 := rg_add (rg_c 3 (by decide) : rgO (nI 3) 4) hc
  unfold mGlad
  repeat' split
  · exact rg_c 3 (by decide)
  · exact rg_w h3 (by decide)
  · exact rg_w (rg_mul (rg_c 3 (by decide) : rgO (nI 3) 4) h3) (by decide)
  · exact rg_c 0 (by decide)
  · exact rg_c 20 (by decide)
  · exact rg_c 1 (by decide)
theorem gOk_P {T : Tw} {f p : Nat} {v : Int32} (h : gOk T) (hf : f < 7) (hp : p < T.1) (hv : rgO v (lim f)) : gOk (sP T f p v) := by
  refine gOk_mk h.n ?_ h.d h.j ?_
  · intro g hg q
    show rgO ((if g = f then upd (T.2.2.1 f) p v else T.2.2.1 g) q) (lim g)
    by_cases e : g = f
    · rw [if_pos e, e]
      unfold upd
      by_cases e2 : q = p
      · rw [if_pos e2]; exact hv
      · rw [if_neg e2]; exact h.f f hf q
    · rw [if_neg e]; exact h.f g hg q
  · intro g hg q hq
    show (if g = f then upd (T.2.2.1 f) p v else T.2.2.1 g) q = 0
    by_cases e : g = f
    · rw [if_pos e]
      unfold upd
      rw [if_neg (show ¬ q = p from fun z => by have : T.1 ≤ q := hq; omega)]
      exact h.z f hf q hq
    · rw [if_neg e]; exact h.z g hg q hq
theorem gOk_G0 {T : Tw} {v : Int32} (h : gOk T) (hv : rgO v 100000) : gOk (sG T 0 v) := gOk_mk h.n h.f hv h.j h.z
theorem gOk_G3 {T : Tw} {v : Int32} (h : gOk T) (hv : rgO v 100000) : gOk (sG T 3 v) := gOk_mk h.n h.f h.d hv h.z
theorem sP_id (T : Tw) (f p : Nat) : sP T f p (T.2.2.1 f p) = T := by
  unfold sP
  obtain ⟨n, G, P, S⟩ := T
  dsimp only
  congr 3
  funext g
  by_cases e : g = f
  · rw [if_pos e, upd_id, e]
  · rw [if_neg e]
theorem goes_ok {T : Tw} {b : Bool} {p : Nat} (h : gOk T) (hp : p < T.1) : gOk (tGoes T b p) := by
  have h1 : gOk (sP T 1 p (ir (T.2.2.1 1 p + mWalk (T.2.2.1 0 p) (T.2.1 0)) 16)) := gOk_P h (by decide) hp (rg_mod (d := 16) (rg_add (h.f 1 (by decide) p) (rg_walk h.d)) (by decide) (by decide) (by decide))
  cases b
  · exact gOk_P h1 (by decide) hp (rg_mod (d := 12) (rg_add (h.f 2 (by decide) p) rg_shift) (by decide) (by decide) (by decide))
  · exact h1
theorem meets_ok {T : Tw} {p q : Nat} (h : gOk T) (hp : p < T.1) (hq : q < T.1) : gOk (tMeets T p q) := by
  unfold tMeets
  have := h.n
  cases tMind T p (T.2.2.1 2 q)
  · exact h
  · exact gOk_P h (by decide) hp (rg_bit (h.f 3 (by decide) p) (by omega))
theorem mingle_ok {T : Tw} {p q : Nat} (h : gOk T) (hp : p < T.1) (hq : q < T.1) : gOk (tMingle T p q) :=
  meets_ok (meets_ok h hp hq) (by rw [meets_n]; exact hq) (by rw [meets_n]; exact hp)
theorem ctk_ok {T : Tw} {p q : Nat} (h : gOk T) (hp : p < T.1) (hq : q < T.1) : gOk (tCtk T p q) := by
  unfold tCtk
  have := h.n
  cases tKno T p q
  · exact gOk_P (gOk_G3 h (rg_mn (n := 99999) (rg_add h.j (rg_glad (rg_bc (h.f 4 (by decide) p)))) (by decide) (by decide))) (by decide) hp (rg_bit (h.f 4 (by decide) p) (by omega))
  · exact h
theorem pby_ok {T : Tw} {p : Nat} (h : gOk T) (hp : p < T.1) : gOk (tPby T p) :=
  gOk_P h (by decide) hp (rg_mn (n := 9999) (rg_add (h.f 6 (by decide) p) (rg_c 1 (by decide) : rgO (nI 1) 2)) (by decide) (by decide))
theorem bare_ok {T : Tw} {p q : Nat} (h : gOk T) (hp : p < T.1) (hq : q < T.1) : gOk (tBare T p q) := by
  unfold tBare
  cases tSee T p q
  · exact h
  · cases tMut T 3 p q
    · exact pby_ok (pby_ok h hp) hq
    · exact ctk_ok (ctk_ok h hp hq) (by rw [ctk_n]; exact hq) (by rw [ctk_n]; exact hp)
theorem pair_ok {T : Tw} {b : Bool} {p q : Nat} (h : gOk T) (hp : p < T.1) (hq : q < T.1) : gOk (tPair b p q T) := by
  unfold tPair
  cases b
  · cases decide (T.2.2.1 1 p = T.2.2.1 1 q)
    · exact h
    · exact mingle_ok h hp hq
  · exact bare_ok h hp hq
theorem itr_ok {f : Nat → Tw → Tw} {m : Nat} {T : Tw} (hn : ∀ p U, (f p U).1 = U.1) (h : ∀ p U, p < m → gOk U → U.1 = T.1 → gOk (f p U)) (hT : gOk T) : ∀ i, i ≤ m → gOk (itr f i T)
  | 0, _ => hT
  | i + 1, hi => h i _ (by omega) (itr_ok hn h hT i (by omega)) (itr_n hn T i)
theorem row_ok {T : Tw} {b : Bool} {n p j : Nat} (h : gOk T) (hp : p + 1 + j ≤ T.1) : gOk (tRow b n p j T) :=
  itr_ok (m := j) (fun _ _ => pair_n _ _ _ _) (fun i U hi hU e => pair_ok hU (by omega) (by omega)) h j (Nat.le_refl _)
theorem walk_ok {T : Tw} {b : Bool} (h : gOk T) (i : Nat) (hi : i ≤ T.1) : gOk (itr (fun p U => tGoes U b p) i T) :=
  itr_ok (m := T.1) (fun _ _ => goes_n _ _ _) (fun p U hp hU e => goes_ok hU (by omega)) h i hi
theorem rows_ok {T : Tw} {b : Bool} {n : Nat} (h : gOk T) (e : T.1 = n) (i : Nat) (hi : i ≤ n) : gOk (itr (fun p U => tRow b n p (n - (p + 1)) U) i T) :=
  itr_ok (m := n) (fun _ _ => row_n _ _ _ _ _) (fun p U hp hU e2 => row_ok hU (by omega)) h i hi
theorem skip_ok {T : Tw} {v : Int32} {m : Nat} (h : gOk T) (hv : rgO v m) (hm : m < 2 ^ 30) : gOk (tSkip T v) :=
  gOk_G0 h (rg_mn (n := 99999) (rg_add h.d hv) (by omega) (by decide))
theorem day_ok {T : Tw} (h : gOk T) : gOk (tDay T) := by
  have e := itr_n (f := fun p U => tGoes U (mBare (T.2.1 0)) p) (fun _ _ => goes_n _ _ _) T T.1
  exact skip_ok (m := 2) (rows_ok (walk_ok h _ (Nat.le_refl _)) e _ (Nat.le_refl _)) (rg_c 1 (by decide)) (by decide)
theorem days_ok {T : Tw} (h : gOk T) (n : Nat) : gOk (tDays n T) :=
  itr_ok (m := n) (fun _ _ => day_n _) (fun _ _ _ hU _ => day_ok hU) h n (Nat.le_refl _)

abbrev r_X5_bits_r : Room := r_X5_bits
theorem cs_X5_bits_r : cS yX5_bits cX5_bits 3 (some .int) 1 := cs_X5_bits
theorem c_X5_bits_r (l : Launch) (D : va_G) (cI cC : ClassId) (adK adV : Nat → Nat) (x : Int32) (hx : rgO x 256) : FC l yX5_bits (wW yX5_bits cX5_bits 3 (some .int)) r_X5_bits_r D (tyC cI cC) adK adV ([] : va_W) [.int x] 0 0 (fQ (some (.int (bcE x))) ([] : va_W)) := by
  obtain ⟨j, hj, rfl⟩ := hx
  exact c_X5_bits l D cI cC adK adV j hj
abbrev r_X5_isBare : Room := { frames := 0, cells := 0, slots := 0, locals := 0 }
theorem cv_X5_isBare : cV yX5_isBare cX5_isBare 1 (some .boolean) 0 := ⟨k4_91, k0_27, k4_92, k1_6, by decide, by decide, by decide +kernel⟩
set_option maxHeartbeats 4000000 in
set_option maxRecDepth 100000 in
theorem c_X5_isBare (l : Launch) (D : va_G) (cI cC : ClassId) (adK adV : Nat → Nat) (y : Nat → Nat) (T : Tw) (X : Mr)  : FC l yX5_isBare (wW yX5_isBare cX5_isBare 1 (some .boolean)) r_X5_isBare D (tyC cI cC) adK adV (wMo cI cC y (rowOf T) X) [.ref (y 0)] 0 0 (fQ (some (.int (b2 (mBare (T.2.1 0))))) (wMo cI cC y (rowOf T) X)) := by
  refine FC.of (own := RX5) (by decide) rfl (Nat.le_of_ble_eq_true rfl) ?_
  intro p9 e9 s9 m9 args9 below9 meth9 c9 A9 C hr hlk hmn
  show AW p9 l e9 r_X5_isBare s9 m9 args9 below9 meth9 c9 D A9 1 0 0 _ 0 [(0, .ref (y 0))] [] _
  refine aw_aload_n C dX5_isBare_0 rfl ?_
  refine aw_getf C 0 4 0 18 inX5 rfl (by decide) rfl k3_234 rfl rfl dX5_isBare_1 ?_
  refine aw_iconst C (0 : Int32) dX5_isBare_4 (by decide) ?_
  refine aw_ialdN C 1 0 0 rfl rfl rfl (by decide) (by decide) dX5_isBare_5 ?_
  refine aw_top (y := (T.2.1 0)) rfl ?_
  refine aw_bipush C (12 : Int32) dX5_isBare_6 (by decide) ?_
  refine aw_irem C dX5_isBare_8 (by decide) ?_
  refine aw_bipush C (11 : Int32) dX5_isBare_9 (by decide) ?_
  refine aw_icmp_ne C 18 dX5_isBare_11 (by decide) (fun c_11 => ?_) (fun c_11 => ?_)
  · skip
    refine aw_iconst C (0 : Int32) dX5_isBare_18 (by decide) ?_
    refine aw_pc 19 rfl ?_
    exact aw_bret C (b := false) hr hlk dX5_isBare_19 rfl ⟨rb (by unfold mBare; simp only [ir] at *; simp [*]), by rfl⟩
  · skip
    refine aw_iconst C (1 : Int32) dX5_isBare_14 (by decide) ?_
    refine aw_goto C 19 dX5_isBare_15 (by decide) ?_
    exact aw_bret C (b := true) hr hlk dX5_isBare_19 rfl ⟨rb (by unfold mBare; simp only [ir] at *; simp [*]), by rfl⟩
abbrev r_X5_walksOf : Room := { frames := 1, cells := 0, slots := 0, locals := 22 }
theorem cv_X5_walksOf : cV yX5_walksOf cX5_walksOf 3 (some .int) 1 := ⟨k4_83, k0_25, k4_84, k1_6, by decide, by decide, by decide +kernel⟩
set_option maxHeartbeats 4000000 in
set_option maxRecDepth 100000 in
theorem c_X5_walksOf (l : Launch) (D : va_G) (cI cC : ClassId) (adK adV : Nat → Nat) (y : Nat → Nat) (T : Tw) (X : Mr) (q : Nat) (hq : q < 8) : FC l yX5_walksOf (wW yX5_walksOf cX5_walksOf 3 (some .int)) r_X5_walksOf D (tyC cI cC) adK adV (wMo cI cC y (rowOf T) X) [.ref (y 0), .int (nI q)] 0 0 (fQ (some (.int (mWalk (T.2.2.1 0 q) (T.2.1 0)))) (wMo cI cC y (rowOf T) X)) := by
  refine FC.of (own := RX5) (by decide) rfl (Nat.le_of_ble_eq_true rfl) ?_
  intro p9 e9 s9 m9 args9 below9 meth9 c9 A9 C hr hlk hmn
  show AW p9 l e9 r_X5_walksOf s9 m9 args9 below9 meth9 c9 D A9 3 0 0 _ 0 [(0, .ref (y 0)), (1, .int (nI q))] [] _
  refine aw_aload_n C dX5_walksOf_0 rfl ?_
  refine aw_getf C 0 4 0 18 inX5 rfl (by decide) rfl k3_234 rfl rfl dX5_walksOf_1 ?_
  refine aw_iconst C (0 : Int32) dX5_walksOf_4 (by decide) ?_
  refine aw_ialdN C 1 0 0 rfl rfl rfl (by decide) (by decide) dX5_walksOf_5 ?_
  refine aw_top (y := (T.2.1 0)) rfl ?_
  refine aw_iconst C (2 : Int32) dX5_walksOf_6 (by decide) ?_
  refine aw_irem C dX5_walksOf_7 (by decide) ?_
  refine aw_istore_n C true (lv' := [(0, .ref (y 0)), (1, .int (nI q)), (2, .int (ir (T.2.1 0) (2 : Int32)))]) dX5_walksOf_8 (by decide) rfl rfl ?_
  refine aw_aload_n C dX5_walksOf_9 rfl ?_
  refine aw_iload_n C dX5_walksOf_10 rfl ?_
  refine aw_pc 11 rfl ?_
  refine aw_iconst C (0 : Int32) dX5_walksOf_11 (by decide) ?_
  refine aw_callVp C (As := [.int (nI q), .int (0 : Int32)]) (c_X5_get l D cI cC adK adV y T X q 0 (by omega) (by decide)) k4_85 cv_X5_get 0 4 rfl rfl rfl [0, 1, 2, 3, 4, 5, 6, 7, 8, 9, 10, 11, 12] (by decide) rfl ⟨by decide, by decide⟩ rfl rfl ⟨by decide, by decide⟩ rfl rfl (Nat.le_of_ble_eq_true rfl) dX5_walksOf_12 ?_
  by_cases s_15_1 : (T.2.2.1 0 q) = (1 : Int32)
  · skip
    refine aw_tabIn C (1) 52 dX5_walksOf_15 (by rw [s_15_1]; rfl) (by decide) (by decide) rfl (by decide) ?_
    refine aw_iconst C (3 : Int32) dX5_walksOf_52 (by decide) ?_
    exact aw_iret C hr hlk dX5_walksOf_53 ⟨ri (by simp only [if_pos s_15_1, mWalk, cond_true, cond_false] <;> first | done | rfl), by rfl⟩
  by_cases s_15_2 : (T.2.2.1 0 q) = (2 : Int32)
  · skip
    refine aw_tabIn C (2) 54 dX5_walksOf_15 (by rw [s_15_2]; rfl) (by decide) (by decide) rfl (by decide) ?_
    refine aw_iload_n C dX5_walksOf_54 rfl ?_
    exact aw_iret C hr hlk dX5_walksOf_55 ⟨ri (by simp only [if_pos s_15_2, if_neg s_15_1, mWalk, cond_true, cond_false] <;> first | done | rfl), by rfl⟩
  by_cases s_15_3 : (T.2.2.1 0 q) = (3 : Int32)
  · skip
    refine aw_tabIn C (3) 56 dX5_walksOf_15 (by rw [s_15_3]; rfl) (by decide) (by decide) rfl (by decide) ?_
    refine aw_iload_n C dX5_walksOf_56 rfl ?_
    refine aw_iconst C (1 : Int32) dX5_walksOf_57 (by decide) ?_
    refine aw_iadd C dX5_walksOf_58 ?_
    refine aw_pc 59 rfl ?_
    exact aw_iret C hr hlk dX5_walksOf_59 ⟨ri (by simp only [if_pos s_15_3, if_neg s_15_1, if_neg s_15_2, mWalk, cond_true, cond_false] <;> first | done | rfl), by rfl⟩
  by_cases s_15_4 : (T.2.2.1 0 q) = (4 : Int32)
  · skip
    refine aw_tabIn C (4) 60 dX5_walksOf_15 (by rw [s_15_4]; rfl) (by decide) (by decide) rfl (by decide) ?_
    refine aw_aload_n C dX5_walksOf_60 rfl ?_
    refine aw_callVp C (As := []) (c_X5_isBare l D cI cC adK adV y T X ) k4_89 cv_X5_isBare 0 4 rfl rfl rfl [0, 1, 2, 3, 4, 5, 6, 7, 8, 9, 10, 11, 12] (by decide) rfl ⟨by decide, by decide⟩ rfl rfl ⟨by decide, by decide⟩ rfl rfl (Nat.le_of_ble_eq_true rfl) dX5_walksOf_61 ?_
    refine aw_ifeq_b C 71 dX5_walksOf_64 (by decide) (fun c_64 => ?_) (fun c_64 => ?_)
    · skip
      refine aw_iconst C (0 : Int32) dX5_walksOf_71 (by decide) ?_
      exact aw_iret C hr hlk dX5_walksOf_72 ⟨ri (by simp only [if_pos s_15_4, if_neg s_15_1, if_neg s_15_2, if_neg s_15_3, c_64, mWalk, cond_true, cond_false] <;> first | done | rfl), by rfl⟩
    · skip
      refine aw_iconst C (5 : Int32) dX5_walksOf_67 (by decide) ?_
      refine aw_goto C 72 dX5_walksOf_68 (by decide) ?_
      exact aw_iret C hr hlk dX5_walksOf_72 ⟨ri (by simp only [if_pos s_15_4, if_neg s_15_1, if_neg s_15_2, if_neg s_15_3, c_64, mWalk, cond_true, cond_false] <;> first | done | rfl), by rfl⟩
  by_cases s_15_5 : (T.2.2.1 0 q) = (5 : Int32)
  · skip
    refine aw_tabIn C (5) 73 dX5_walksOf_15 (by rw [s_15_5]; rfl) (by decide) (by decide) rfl (by decide) ?_
    refine aw_iconst C (0 : Int32) dX5_walksOf_73 (by decide) ?_
    refine aw_pc 74 rfl ?_
    exact aw_iret C hr hlk dX5_walksOf_74 ⟨ri (by simp only [if_pos s_15_5, if_neg s_15_1, if_neg s_15_2, if_neg s_15_3, if_neg s_15_4, mWalk, cond_true, cond_false] <;> first | done | rfl), by rfl⟩
  by_cases s_15_6 : (T.2.2.1 0 q) = (6 : Int32)
  · skip
    refine aw_tabIn C (6) 75 dX5_walksOf_15 (by rw [s_15_6]; rfl) (by decide) (by decide) rfl (by decide) ?_
    refine aw_iconst C (2 : Int32) dX5_walksOf_75 (by decide) ?_
    exact aw_iret C hr hlk dX5_walksOf_76 ⟨ri (by simp only [if_pos s_15_6, if_neg s_15_1, if_neg s_15_2, if_neg s_15_3, if_neg s_15_4, if_neg s_15_5, mWalk, cond_true, cond_false] <;> first | done | rfl), by rfl⟩
  refine aw_tabOut C 77 dX5_walksOf_15 (by have q0 := ne_toInt s_15_1 (z := 1) rfl; have q1 := ne_toInt s_15_2 (z := 2) rfl; have q2 := ne_toInt s_15_3 (z := 3) rfl; have q3 := ne_toInt s_15_4 (z := 4) rfl; have q4 := ne_toInt s_15_5 (z := 5) rfl; have q5 := ne_toInt s_15_6 (z := 6) rfl; omega) (by decide) ?_
  refine aw_iconst C (1 : Int32) dX5_walksOf_77 (by decide) ?_
  exact aw_iret C hr hlk dX5_walksOf_78 ⟨ri (by simp only [if_neg s_15_1, if_neg s_15_2, if_neg s_15_3, if_neg s_15_4, if_neg s_15_5, if_neg s_15_6, mWalk, cond_true, cond_false] <;> first | done | rfl), by rfl⟩
abbrev r_X5_shiftsOf : Room := { frames := 1, cells := 0, slots := 0, locals := 22 }
theorem cv_X5_shiftsOf : cV yX5_shiftsOf cX5_shiftsOf 2 (some .int) 1 := ⟨k4_95, k0_28, k4_96, k1_6, by decide, by decide, by decide +kernel⟩
set_option maxHeartbeats 4000000 in
set_option maxRecDepth 100000 in
theorem c_X5_shiftsOf (l : Launch) (D : va_G) (cI cC : ClassId) (adK adV : Nat → Nat) (y : Nat → Nat) (T : Tw) (X : Mr) (q : Nat) (hq : q < 8) : FC l yX5_shiftsOf (wW yX5_shiftsOf cX5_shiftsOf 2 (some .int)) r_X5_shiftsOf D (tyC cI cC) adK adV (wMo cI cC y (rowOf T) X) [.ref (y 0), .int (nI q)] 0 0 (fQ (some (.int (mShift (T.2.2.1 0 q) (T.2.1 0)))) (wMo cI cC y (rowOf T) X)) := by
  refine FC.of (own := RX5) (by decide) rfl (Nat.le_of_ble_eq_true rfl) ?_
  intro p9 e9 s9 m9 args9 below9 meth9 c9 A9 C hr hlk hmn
  show AW p9 l e9 r_X5_shiftsOf s9 m9 args9 below9 meth9 c9 D A9 2 0 0 _ 0 [(0, .ref (y 0)), (1, .int (nI q))] [] _
  refine aw_aload_n C dX5_shiftsOf_0 rfl ?_
  refine aw_iload_n C dX5_shiftsOf_1 rfl ?_
  refine aw_iconst C (0 : Int32) dX5_shiftsOf_2 (by decide) ?_
  refine aw_callVp C (As := [.int (nI q), .int (0 : Int32)]) (c_X5_get l D cI cC adK adV y T X q 0 (by omega) (by decide)) k4_85 cv_X5_get 0 4 rfl rfl rfl [0, 1, 2, 3, 4, 5, 6, 7, 8, 9, 10, 11, 12] (by decide) rfl ⟨by decide, by decide⟩ rfl rfl ⟨by decide, by decide⟩ rfl rfl (Nat.le_of_ble_eq_true rfl) dX5_shiftsOf_3 ?_
  by_cases s_6_1 : (T.2.2.1 0 q) = (1 : Int32)
  · skip
    refine aw_tabIn C (1) 44 dX5_shiftsOf_6 (by rw [s_6_1]; rfl) (by decide) (by decide) rfl (by decide) ?_
    refine aw_iconst C (2 : Int32) dX5_shiftsOf_44 (by decide) ?_
    exact aw_iret C hr hlk dX5_shiftsOf_45 ⟨ri (by simp [if_pos s_6_1, mShift] <;> first | done | rfl), by rfl⟩
  by_cases s_6_2 : (T.2.2.1 0 q) = (2 : Int32)
  · skip
    refine aw_tabIn C (2) 46 dX5_shiftsOf_6 (by rw [s_6_2]; rfl) (by decide) (by decide) rfl (by decide) ?_
    refine aw_iconst C (0 : Int32) dX5_shiftsOf_46 (by decide) ?_
    exact aw_iret C hr hlk dX5_shiftsOf_47 ⟨ri (by simp [if_pos s_6_2, if_neg s_6_1, mShift] <;> first | done | rfl), by rfl⟩
  by_cases s_6_3 : (T.2.2.1 0 q) = (3 : Int32)
  · skip
    refine aw_tabIn C (3) 48 dX5_shiftsOf_6 (by rw [s_6_3]; rfl) (by decide) (by decide) rfl (by decide) ?_
    refine aw_pc 48 rfl ?_
    refine aw_aload_n C dX5_shiftsOf_48 rfl ?_
    refine aw_getf C 0 4 0 18 inX5 rfl (by decide) rfl k3_234 rfl rfl dX5_shiftsOf_49 ?_
    refine aw_iconst C (0 : Int32) dX5_shiftsOf_52 (by decide) ?_
    refine aw_ialdN C 1 0 0 rfl rfl rfl (by decide) (by decide) dX5_shiftsOf_53 ?_
    refine aw_top (y := (T.2.1 0)) rfl ?_
    refine aw_iconst C (3 : Int32) dX5_shiftsOf_54 (by decide) ?_
    refine aw_irem C dX5_shiftsOf_55 (by decide) ?_
    refine aw_if_ne C 63 dX5_shiftsOf_56 (by decide) (fun c_56 => ?_) (fun c_56 => ?_)
    · skip
      refine aw_iconst C (0 : Int32) dX5_shiftsOf_63 (by decide) ?_
      exact aw_iret C hr hlk dX5_shiftsOf_64 ⟨ri (by simp [if_pos s_6_3, if_neg s_6_1, if_neg s_6_2, c_56, mShift] <;> first | done | rfl), by rfl⟩
    · skip
      refine aw_iconst C (1 : Int32) dX5_shiftsOf_59 (by decide) ?_
      refine aw_pc 60 rfl ?_
      refine aw_goto C 64 dX5_shiftsOf_60 (by decide) ?_
      exact aw_iret C hr hlk dX5_shiftsOf_64 ⟨ri (by simp [if_pos s_6_3, if_neg s_6_1, if_neg s_6_2, c_56, mShift] <;> first | done | rfl), by rfl⟩
  by_cases s_6_4 : (T.2.2.1 0 q) = (4 : Int32)
  · skip
    refine aw_tabIn C (4) 65 dX5_shiftsOf_6 (by rw [s_6_4]; rfl) (by decide) (by decide) rfl (by decide) ?_
    refine aw_iconst C (5 : Int32) dX5_shiftsOf_65 (by decide) ?_
    exact aw_iret C hr hlk dX5_shiftsOf_66 ⟨ri (by simp [if_pos s_6_4, if_neg s_6_1, if_neg s_6_2, if_neg s_6_3, mShift] <;> first | done | rfl), by rfl⟩
  by_cases s_6_5 : (T.2.2.1 0 q) = (5 : Int32)
  · skip
    refine aw_tabIn C (5) 46 dX5_shiftsOf_6 (by rw [s_6_5]; rfl) (by decide) (by decide) rfl (by decide) ?_
    refine aw_iconst C (0 : Int32) dX5_shiftsOf_46 (by decide) ?_
    exact aw_iret C hr hlk dX5_shiftsOf_47 ⟨ri (by simp [if_pos s_6_5, if_neg s_6_1, if_neg s_6_2, if_neg s_6_3, if_neg s_6_4, mShift] <;> first | done | rfl), by rfl⟩
  by_cases s_6_6 : (T.2.2.1 0 q) = (6 : Int32)
  · skip
    refine aw_tabIn C (6) 44 dX5_shiftsOf_6 (by rw [s_6_6]; rfl) (by decide) (by decide) rfl (by decide) ?_
    refine aw_iconst C (2 : Int32) dX5_shiftsOf_44 (by decide) ?_
    exact aw_iret C hr hlk dX5_shiftsOf_45 ⟨ri (by simp [if_pos s_6_6, if_neg s_6_1, if_neg s_6_2, if_neg s_6_3, if_neg s_6_4, if_neg s_6_5, mShift] <;> first | done | rfl), by rfl⟩
  refine aw_tabOut C 67 dX5_shiftsOf_6 (by have q0 := ne_toInt s_6_1 (z := 1) rfl; have q1 := ne_toInt s_6_2 (z := 2) rfl; have q2 := ne_toInt s_6_3 (z := 3) rfl; have q3 := ne_toInt s_6_4 (z := 4) rfl; have q4 := ne_toInt s_6_5 (z := 5) rfl; have q5 := ne_toInt s_6_6 (z := 6) rfl; omega) (by decide) ?_
  refine aw_iconst C (1 : Int32) dX5_shiftsOf_67 (by decide) ?_
  exact aw_iret C hr hlk dX5_shiftsOf_68 ⟨ri (by simp [if_neg s_6_1, if_neg s_6_2, if_neg s_6_3, if_neg s_6_4, if_neg s_6_5, if_neg s_6_6, mShift] <;> first | done | rfl), by rfl⟩
abbrev r_X5_mindsOf : Room := { frames := 1, cells := 0, slots := 0, locals := 22 }
theorem cv_X5_mindsOf : cV yX5_mindsOf cX5_mindsOf 4 (some .boolean) 2 := ⟨k4_125, k0_32, k4_126, k1_6, by decide, by decide, by decide +kernel⟩
set_option maxHeartbeats 4000000 in
set_option maxRecDepth 100000 in
theorem c_X5_mindsOf (l : Launch) (D : va_G) (cI cC : ClassId) (adK adV : Nat → Nat) (y : Nat → Nat) (T : Tw) (X : Mr) (q : Nat) (g : Int32) (hq : q < 8) : FC l yX5_mindsOf (wW yX5_mindsOf cX5_mindsOf 4 (some .boolean)) r_X5_mindsOf D (tyC cI cC) adK adV (wMo cI cC y (rowOf T) X) [.ref (y 0), .int (nI q), .int g] 0 0 (fQ (some (.int (b2 (tMind T q g)))) (wMo cI cC y (rowOf T) X)) := by
  refine FC.of (own := RX5) (by decide) rfl (Nat.le_of_ble_eq_true rfl) ?_
  intro p9 e9 s9 m9 args9 below9 meth9 c9 A9 C hr hlk hmn
  show AW p9 l e9 r_X5_mindsOf s9 m9 args9 below9 meth9 c9 D A9 4 0 0 _ 0 [(0, .ref (y 0)), (1, .int (nI q)), (2, .int g)] [] _
  refine aw_iload_n C dX5_mindsOf_0 rfl ?_
  refine aw_iconst C (5 : Int32) dX5_mindsOf_1 (by decide) ?_
  refine aw_icmp_le C 15 dX5_mindsOf_2 (by decide) (fun c_2 => ?_) (fun c_2 => ?_)
  · skip
    refine aw_iconst C (1 : Int32) dX5_mindsOf_15 (by decide) ?_
    refine aw_goto C 20 dX5_mindsOf_16 (by decide) ?_
    refine aw_istore_n C true (lv' := [(0, .ref (y 0)), (1, .int (nI q)), (2, .int g), (3, .int (1 : Int32))]) dX5_mindsOf_20 (by decide) rfl rfl ?_
    refine aw_aload_n C dX5_mindsOf_21 rfl ?_
    refine aw_iload_n C dX5_mindsOf_22 rfl ?_
    refine aw_iconst C (0 : Int32) dX5_mindsOf_23 (by decide) ?_
    refine aw_pc 24 rfl ?_
    refine aw_callVp C (As := [.int (nI q), .int (0 : Int32)]) (c_X5_get l D cI cC adK adV y T X q 0 (by omega) (by decide)) k4_85 cv_X5_get 0 4 rfl rfl rfl [0, 1, 2, 3, 4, 5, 6, 7, 8, 9, 10, 11, 12] (by decide) rfl ⟨by decide, by decide⟩ rfl rfl ⟨by decide, by decide⟩ rfl rfl (Nat.le_of_ble_eq_true rfl) dX5_mindsOf_24 ?_
    by_cases s_27_1 : (T.2.2.1 0 q) = (1 : Int32)
    · skip
      refine aw_tabIn C (1) 64 dX5_mindsOf_27 (by rw [s_27_1]; rfl) (by decide) (by decide) rfl (by decide) ?_
      refine aw_iconst C (1 : Int32) dX5_mindsOf_64 (by decide) ?_
      exact aw_bret C (b := true) hr hlk dX5_mindsOf_65 rfl ⟨rb (by first | (exact absurd ‹(5 : Int32) < g› (Int32.not_lt.mpr ‹g ≤ 5›)) | (simp [tMind, mMind, *]; done) | (simp_all [tMind, mMind]; done)), by rfl⟩
    by_cases s_27_2 : (T.2.2.1 0 q) = (2 : Int32)
    · skip
      refine aw_tabIn C (2) 66 dX5_mindsOf_27 (by rw [s_27_2]; rfl) (by decide) (by decide) rfl (by decide) ?_
      refine aw_iload_n C dX5_mindsOf_66 rfl ?_
      refine aw_iconst C (5 : Int32) dX5_mindsOf_67 (by decide) ?_
      refine aw_icmp_gt C 75 dX5_mindsOf_68 (by decide) (fun c_68 => ?_) (fun c_68 => ?_)
      · skip
        refine aw_iconst C (0 : Int32) dX5_mindsOf_75 (by decide) ?_
        exact aw_bret C (b := false) hr hlk dX5_mindsOf_76 rfl ⟨rb (by first | (exact absurd ‹(5 : Int32) < g› (Int32.not_lt.mpr ‹g ≤ 5›)) | (simp [tMind, mMind, *]; done) | (simp_all [tMind, mMind]; done)), by rfl⟩
      · skip
        refine aw_iconst C (1 : Int32) dX5_mindsOf_71 (by decide) ?_
        refine aw_pc 72 rfl ?_
        refine aw_goto C 76 dX5_mindsOf_72 (by decide) ?_
        exact aw_bret C (b := true) hr hlk dX5_mindsOf_76 rfl ⟨rb (by first | (exact absurd ‹(5 : Int32) < g› (Int32.not_lt.mpr ‹g ≤ 5›)) | (simp [tMind, mMind, *]; done) | (simp_all [tMind, mMind]; done)), by rfl⟩
    by_cases s_27_3 : (T.2.2.1 0 q) = (3 : Int32)
    · skip
      refine aw_tabIn C (3) 77 dX5_mindsOf_27 (by rw [s_27_3]; rfl) (by decide) (by decide) rfl (by decide) ?_
      refine aw_iload_n C dX5_mindsOf_77 rfl ?_
      exact aw_bret C (b := true) hr hlk dX5_mindsOf_78 rfl ⟨rb (by first | (exact absurd ‹(5 : Int32) < g› (Int32.not_lt.mpr ‹g ≤ 5›)) | (simp [tMind, mMind, *]; done) | (simp_all [tMind, mMind]; done)), by rfl⟩
    by_cases s_27_4 : (T.2.2.1 0 q) = (4 : Int32)
    · skip
      refine aw_tabIn C (4) 79 dX5_mindsOf_27 (by rw [s_27_4]; rfl) (by decide) (by decide) rfl (by decide) ?_
      refine aw_iload_n C dX5_mindsOf_79 rfl ?_
      refine aw_bipush C (9 : Int32) dX5_mindsOf_80 (by decide) ?_
      refine aw_icmp_eq C 98 dX5_mindsOf_82 (by decide) (fun c_82 => ?_) (fun c_82 => ?_)
      · skip
        refine aw_iconst C (1 : Int32) dX5_mindsOf_98 (by decide) ?_
        refine aw_goto C 103 dX5_mindsOf_99 (by decide) ?_
        exact aw_bret C (b := true) hr hlk dX5_mindsOf_103 rfl ⟨rb (by first | (exact absurd ‹(5 : Int32) < g› (Int32.not_lt.mpr ‹g ≤ 5›)) | (simp [tMind, mMind, *]; done) | (simp_all [tMind, mMind]; done)), by rfl⟩
      · skip
        refine aw_pc 85 rfl ?_
        refine aw_aload_n C dX5_mindsOf_85 rfl ?_
        refine aw_iload_n C dX5_mindsOf_86 rfl ?_
        refine aw_iconst C (3 : Int32) dX5_mindsOf_87 (by decide) ?_
        refine aw_callVp C (As := [.int (nI q), .int (3 : Int32)]) (c_X5_get l D cI cC adK adV y T X q 3 (by omega) (by decide)) k4_85 cv_X5_get 0 4 rfl rfl rfl [0, 1, 2, 3, 4, 5, 6, 7, 8, 9, 10, 11, 12] (by decide) rfl ⟨by decide, by decide⟩ rfl rfl ⟨by decide, by decide⟩ rfl rfl (Nat.le_of_ble_eq_true rfl) dX5_mindsOf_88 ?_
        refine aw_if_ne C 102 dX5_mindsOf_91 (by decide) (fun c_91 => ?_) (fun c_91 => ?_)
        · skip
          refine aw_iconst C (0 : Int32) dX5_mindsOf_102 (by decide) ?_
          exact aw_bret C (b := false) hr hlk dX5_mindsOf_103 rfl ⟨rb (by first | (exact absurd ‹(5 : Int32) < g› (Int32.not_lt.mpr ‹g ≤ 5›)) | (simp [tMind, mMind, *]; done) | (simp_all [tMind, mMind]; done)), by rfl⟩
        · skip
          refine aw_iload_n C dX5_mindsOf_94 rfl ?_
          refine aw_if_eq C 102 dX5_mindsOf_95 (by decide) (fun c_95 => absurd c_95 (by decide)) (fun c_95 => ?_)
          refine aw_iconst C (1 : Int32) dX5_mindsOf_98 (by decide) ?_
          refine aw_pc 99 rfl ?_
          refine aw_goto C 103 dX5_mindsOf_99 (by decide) ?_
          exact aw_bret C (b := true) hr hlk dX5_mindsOf_103 rfl ⟨rb (by first | (exact absurd ‹(5 : Int32) < g› (Int32.not_lt.mpr ‹g ≤ 5›)) | (simp [tMind, mMind, *]; done) | (simp_all [tMind, mMind]; done)), by rfl⟩
    by_cases s_27_5 : (T.2.2.1 0 q) = (5 : Int32)
    · skip
      refine aw_tabIn C (5) 104 dX5_mindsOf_27 (by rw [s_27_5]; rfl) (by decide) (by decide) rfl (by decide) ?_
      refine aw_iconst C (0 : Int32) dX5_mindsOf_104 (by decide) ?_
      exact aw_bret C (b := false) hr hlk dX5_mindsOf_105 rfl ⟨rb (by first | (exact absurd ‹(5 : Int32) < g› (Int32.not_lt.mpr ‹g ≤ 5›)) | (simp [tMind, mMind, *]; done) | (simp_all [tMind, mMind]; done)), by rfl⟩
    by_cases s_27_6 : (T.2.2.1 0 q) = (6 : Int32)
    · skip
      refine aw_tabIn C (6) 106 dX5_mindsOf_27 (by rw [s_27_6]; rfl) (by decide) (by decide) rfl (by decide) ?_
      refine aw_iload_n C dX5_mindsOf_106 rfl ?_
      refine aw_iconst C (2 : Int32) dX5_mindsOf_107 (by decide) ?_
      refine aw_irem C dX5_mindsOf_108 (by decide) ?_
      refine aw_iconst C (1 : Int32) dX5_mindsOf_109 (by decide) ?_
      refine aw_icmp_ne C 117 dX5_mindsOf_110 (by decide) (fun c_110 => ?_) (fun c_110 => ?_)
      · skip
        refine aw_iconst C (0 : Int32) dX5_mindsOf_117 (by decide) ?_
        refine aw_pc 118 rfl ?_
        exact aw_bret C (b := false) hr hlk dX5_mindsOf_118 rfl ⟨rb (by first | (exact absurd ‹(5 : Int32) < g› (Int32.not_lt.mpr ‹g ≤ 5›)) | (simp [tMind, mMind, *]; done) | (simp_all [tMind, mMind]; done)), by rfl⟩
      · skip
        refine aw_iconst C (1 : Int32) dX5_mindsOf_113 (by decide) ?_
        refine aw_goto C 118 dX5_mindsOf_114 (by decide) ?_
        exact aw_bret C (b := true) hr hlk dX5_mindsOf_118 rfl ⟨rb (by first | (exact absurd ‹(5 : Int32) < g› (Int32.not_lt.mpr ‹g ≤ 5›)) | (simp [tMind, mMind, *]; done) | (simp_all [tMind, mMind]; done)), by rfl⟩
    refine aw_tabOut C 119 dX5_mindsOf_27 (by have q0 := ne_toInt s_27_1 (z := 1) rfl; have q1 := ne_toInt s_27_2 (z := 2) rfl; have q2 := ne_toInt s_27_3 (z := 3) rfl; have q3 := ne_toInt s_27_4 (z := 4) rfl; have q4 := ne_toInt s_27_5 (z := 5) rfl; have q5 := ne_toInt s_27_6 (z := 6) rfl; omega) (by decide) ?_
    refine aw_iload_n C dX5_mindsOf_119 rfl ?_
    refine aw_aload_n C dX5_mindsOf_120 rfl ?_
    refine aw_iload_n C dX5_mindsOf_121 rfl ?_
    refine aw_iconst C (2 : Int32) dX5_mindsOf_122 (by decide) ?_
    refine aw_callVp C (As := [.int (nI q), .int (2 : Int32)]) (c_X5_get l D cI cC adK adV y T X q 2 (by omega) (by decide)) k4_85 cv_X5_get 0 4 rfl rfl rfl [0, 1, 2, 3, 4, 5, 6, 7, 8, 9, 10, 11, 12] (by decide) rfl ⟨by decide, by decide⟩ rfl rfl ⟨by decide, by decide⟩ rfl rfl (Nat.le_of_ble_eq_true rfl) dX5_mindsOf_123 ?_
    refine aw_icmp_eq C 133 dX5_mindsOf_126 (by decide) (fun c_126 => ?_) (fun c_126 => ?_)
    · skip
      refine aw_pc 133 rfl ?_
      refine aw_iconst C (0 : Int32) dX5_mindsOf_133 (by decide) ?_
      exact aw_bret C (b := false) hr hlk dX5_mindsOf_134 rfl ⟨rb (by first | (exact absurd ‹(5 : Int32) < g› (Int32.not_lt.mpr ‹g ≤ 5›)) | (simp [tMind, mMind, *]; done) | (simp_all [tMind, mMind]; done)), by rfl⟩
    · skip
      refine aw_iconst C (1 : Int32) dX5_mindsOf_129 (by decide) ?_
      refine aw_goto C 134 dX5_mindsOf_130 (by decide) ?_
      exact aw_bret C (b := true) hr hlk dX5_mindsOf_134 rfl ⟨rb (by first | (exact absurd ‹(5 : Int32) < g› (Int32.not_lt.mpr ‹g ≤ 5›)) | (simp [tMind, mMind, *]; done) | (simp_all [tMind, mMind]; done)), by rfl⟩
  · skip
    refine aw_iload_n C dX5_mindsOf_5 rfl ?_
    refine aw_aload_n C dX5_mindsOf_6 rfl ?_
    refine aw_iload_n C dX5_mindsOf_7 rfl ?_
    refine aw_iconst C (2 : Int32) dX5_mindsOf_8 (by decide) ?_
    refine aw_callVp C (As := [.int (nI q), .int (2 : Int32)]) (c_X5_get l D cI cC adK adV y T X q 2 (by omega) (by decide)) k4_85 cv_X5_get 0 4 rfl rfl rfl [0, 1, 2, 3, 4, 5, 6, 7, 8, 9, 10, 11, 12] (by decide) rfl ⟨by decide, by decide⟩ rfl rfl ⟨by decide, by decide⟩ rfl rfl (Nat.le_of_ble_eq_true rfl) dX5_mindsOf_9 ?_
    refine aw_pc 12 rfl ?_
    refine aw_icmp_ne C 19 dX5_mindsOf_12 (by decide) (fun c_12 => ?_) (fun c_12 => ?_)
    · skip
      refine aw_iconst C (0 : Int32) dX5_mindsOf_19 (by decide) ?_
      refine aw_istore_n C true (lv' := [(0, .ref (y 0)), (1, .int (nI q)), (2, .int g), (3, .int (0 : Int32))]) dX5_mindsOf_20 (by decide) rfl rfl ?_
      refine aw_aload_n C dX5_mindsOf_21 rfl ?_
      refine aw_iload_n C dX5_mindsOf_22 rfl ?_
      refine aw_iconst C (0 : Int32) dX5_mindsOf_23 (by decide) ?_
      refine aw_callVp C (As := [.int (nI q), .int (0 : Int32)]) (c_X5_get l D cI cC adK adV y T X q 0 (by omega) (by decide)) k4_85 cv_X5_get 0 4 rfl rfl rfl [0, 1, 2, 3, 4, 5, 6, 7, 8, 9, 10, 11, 12] (by decide) rfl ⟨by decide, by decide⟩ rfl rfl ⟨by decide, by decide⟩ rfl rfl (Nat.le_of_ble_eq_true rfl) dX5_mindsOf_24 ?_
      by_cases s_27_1 : (T.2.2.1 0 q) = (1 : Int32)
      · skip
        refine aw_tabIn C (1) 64 dX5_mindsOf_27 (by rw [s_27_1]; rfl) (by decide) (by decide) rfl (by decide) ?_
        refine aw_iconst C (1 : Int32) dX5_mindsOf_64 (by decide) ?_
        exact aw_bret C (b := true) hr hlk dX5_mindsOf_65 rfl ⟨rb (by first | (exact absurd ‹(5 : Int32) < g› (Int32.not_lt.mpr ‹g ≤ 5›)) | (simp [tMind, mMind, *]; done) | (simp_all [tMind, mMind]; done)), by rfl⟩
      by_cases s_27_2 : (T.2.2.1 0 q) = (2 : Int32)
      · skip
        refine aw_tabIn C (2) 66 dX5_mindsOf_27 (by rw [s_27_2]; rfl) (by decide) (by decide) rfl (by decide) ?_
        refine aw_pc 66 rfl ?_
        refine aw_iload_n C dX5_mindsOf_66 rfl ?_
        refine aw_iconst C (5 : Int32) dX5_mindsOf_67 (by decide) ?_
        refine aw_icmp_gt C 75 dX5_mindsOf_68 (by decide) (fun c_68 => ?_) (fun c_68 => ?_)
        · skip
          refine aw_iconst C (0 : Int32) dX5_mindsOf_75 (by decide) ?_
          exact aw_bret C (b := false) hr hlk dX5_mindsOf_76 rfl ⟨rb (by first | (exact absurd ‹(5 : Int32) < g› (Int32.not_lt.mpr ‹g ≤ 5›)) | (simp [tMind, mMind, *]; done) | (simp_all [tMind, mMind]; done)), by rfl⟩
        · skip
          refine aw_iconst C (1 : Int32) dX5_mindsOf_71 (by decide) ?_
          refine aw_goto C 76 dX5_mindsOf_72 (by decide) ?_
          exact aw_bret C (b := true) hr hlk dX5_mindsOf_76 rfl ⟨rb (by first | (exact absurd ‹(5 : Int32) < g› (Int32.not_lt.mpr ‹g ≤ 5›)) | (simp [tMind, mMind, *]; done) | (simp_all [tMind, mMind]; done)), by rfl⟩
      by_cases s_27_3 : (T.2.2.1 0 q) = (3 : Int32)
      · skip
        refine aw_tabIn C (3) 77 dX5_mindsOf_27 (by rw [s_27_3]; rfl) (by decide) (by decide) rfl (by decide) ?_
        refine aw_iload_n C dX5_mindsOf_77 rfl ?_
        exact aw_bret C (b := false) hr hlk dX5_mindsOf_78 rfl ⟨rb (by first | (exact absurd ‹(5 : Int32) < g› (Int32.not_lt.mpr ‹g ≤ 5›)) | (simp [tMind, mMind, *]; done) | (simp_all [tMind, mMind]; done)), by rfl⟩
      by_cases s_27_4 : (T.2.2.1 0 q) = (4 : Int32)
      · skip
        refine aw_tabIn C (4) 79 dX5_mindsOf_27 (by rw [s_27_4]; rfl) (by decide) (by decide) rfl (by decide) ?_
        refine aw_pc 79 rfl ?_
        refine aw_iload_n C dX5_mindsOf_79 rfl ?_
        refine aw_bipush C (9 : Int32) dX5_mindsOf_80 (by decide) ?_
        refine aw_icmp_eq C 98 dX5_mindsOf_82 (by decide) (fun c_82 => ?_) (fun c_82 => ?_)
        · skip
          refine aw_iconst C (1 : Int32) dX5_mindsOf_98 (by decide) ?_
          refine aw_goto C 103 dX5_mindsOf_99 (by decide) ?_
          exact aw_bret C (b := true) hr hlk dX5_mindsOf_103 rfl ⟨rb (by first | (exact absurd ‹(5 : Int32) < g› (Int32.not_lt.mpr ‹g ≤ 5›)) | (simp [tMind, mMind, *]; done) | (simp_all [tMind, mMind]; done)), by rfl⟩
        · skip
          refine aw_aload_n C dX5_mindsOf_85 rfl ?_
          refine aw_iload_n C dX5_mindsOf_86 rfl ?_
          refine aw_iconst C (3 : Int32) dX5_mindsOf_87 (by decide) ?_
          refine aw_callVp C (As := [.int (nI q), .int (3 : Int32)]) (c_X5_get l D cI cC adK adV y T X q 3 (by omega) (by decide)) k4_85 cv_X5_get 0 4 rfl rfl rfl [0, 1, 2, 3, 4, 5, 6, 7, 8, 9, 10, 11, 12] (by decide) rfl ⟨by decide, by decide⟩ rfl rfl ⟨by decide, by decide⟩ rfl rfl (Nat.le_of_ble_eq_true rfl) dX5_mindsOf_88 ?_
          refine aw_pc 91 rfl ?_
          refine aw_if_ne C 102 dX5_mindsOf_91 (by decide) (fun c_91 => ?_) (fun c_91 => ?_)
          · skip
            refine aw_iconst C (0 : Int32) dX5_mindsOf_102 (by decide) ?_
            exact aw_bret C (b := false) hr hlk dX5_mindsOf_103 rfl ⟨rb (by first | (exact absurd ‹(5 : Int32) < g› (Int32.not_lt.mpr ‹g ≤ 5›)) | (simp [tMind, mMind, *]; done) | (simp_all [tMind, mMind]; done)), by rfl⟩
          · skip
            refine aw_iload_n C dX5_mindsOf_94 rfl ?_
            refine aw_if_eq C 102 dX5_mindsOf_95 (by decide) (fun c_95 => ?_) (fun c_95 => absurd c_95 (by decide))
            refine aw_iconst C (0 : Int32) dX5_mindsOf_102 (by decide) ?_
            exact aw_bret C (b := false) hr hlk dX5_mindsOf_103 rfl ⟨rb (by first | (exact absurd ‹(5 : Int32) < g› (Int32.not_lt.mpr ‹g ≤ 5›)) | (simp [tMind, mMind, *]; done) | (simp_all [tMind, mMind]; done)), by rfl⟩
      by_cases s_27_5 : (T.2.2.1 0 q) = (5 : Int32)
      · skip
        refine aw_tabIn C (5) 104 dX5_mindsOf_27 (by rw [s_27_5]; rfl) (by decide) (by decide) rfl (by decide) ?_
        refine aw_iconst C (0 : Int32) dX5_mindsOf_104 (by decide) ?_
        exact aw_bret C (b := false) hr hlk dX5_mindsOf_105 rfl ⟨rb (by first | (exact absurd ‹(5 : Int32) < g› (Int32.not_lt.mpr ‹g ≤ 5›)) | (simp [tMind, mMind, *]; done) | (simp_all [tMind, mMind]; done)), by rfl⟩
      by_cases s_27_6 : (T.2.2.1 0 q) = (6 : Int32)
      · skip
        refine aw_tabIn C (6) 106 dX5_mindsOf_27 (by rw [s_27_6]; rfl) (by decide) (by decide) rfl (by decide) ?_
        refine aw_iload_n C dX5_mindsOf_106 rfl ?_
        refine aw_pc 107 rfl ?_
        refine aw_iconst C (2 : Int32) dX5_mindsOf_107 (by decide) ?_
        refine aw_irem C dX5_mindsOf_108 (by decide) ?_
        refine aw_iconst C (1 : Int32) dX5_mindsOf_109 (by decide) ?_
        refine aw_icmp_ne C 117 dX5_mindsOf_110 (by decide) (fun c_110 => ?_) (fun c_110 => ?_)
        · skip
          refine aw_iconst C (0 : Int32) dX5_mindsOf_117 (by decide) ?_
          exact aw_bret C (b := false) hr hlk dX5_mindsOf_118 rfl ⟨rb (by first | (exact absurd ‹(5 : Int32) < g› (Int32.not_lt.mpr ‹g ≤ 5›)) | (simp [tMind, mMind, *]; done) | (simp_all [tMind, mMind]; done)), by rfl⟩
        · skip
          refine aw_iconst C (1 : Int32) dX5_mindsOf_113 (by decide) ?_
          refine aw_goto C 118 dX5_mindsOf_114 (by decide) ?_
          exact aw_bret C (b := true) hr hlk dX5_mindsOf_118 rfl ⟨rb (by first | (exact absurd ‹(5 : Int32) < g› (Int32.not_lt.mpr ‹g ≤ 5›)) | (simp [tMind, mMind, *]; done) | (simp_all [tMind, mMind]; done)), by rfl⟩
      refine aw_tabOut C 119 dX5_mindsOf_27 (by have q0 := ne_toInt s_27_1 (z := 1) rfl; have q1 := ne_toInt s_27_2 (z := 2) rfl; have q2 := ne_toInt s_27_3 (z := 3) rfl; have q3 := ne_toInt s_27_4 (z := 4) rfl; have q4 := ne_toInt s_27_5 (z := 5) rfl; have q5 := ne_toInt s_27_6 (z := 6) rfl; omega) (by decide) ?_
      refine aw_iload_n C dX5_mindsOf_119 rfl ?_
      refine aw_pc 120 rfl ?_
      refine aw_aload_n C dX5_mindsOf_120 rfl ?_
      refine aw_iload_n C dX5_mindsOf_121 rfl ?_
      refine aw_iconst C (2 : Int32) dX5_mindsOf_122 (by decide) ?_
      refine aw_callVp C (As := [.int (nI q), .int (2 : Int32)]) (c_X5_get l D cI cC adK adV y T X q 2 (by omega) (by decide)) k4_85 cv_X5_get 0 4 rfl rfl rfl [0, 1, 2, 3, 4, 5, 6, 7, 8, 9, 10, 11, 12] (by decide) rfl ⟨by decide, by decide⟩ rfl rfl ⟨by decide, by decide⟩ rfl rfl (Nat.le_of_ble_eq_true rfl) dX5_mindsOf_123 ?_
      refine aw_icmp_eq C 133 dX5_mindsOf_126 (by decide) (fun c_126 => ?_) (fun c_126 => ?_)
      · skip
        refine aw_iconst C (0 : Int32) dX5_mindsOf_133 (by decide) ?_
        exact aw_bret C (b := false) hr hlk dX5_mindsOf_134 rfl ⟨rb (by first | (exact absurd ‹(5 : Int32) < g› (Int32.not_lt.mpr ‹g ≤ 5›)) | (simp [tMind, mMind, *]; done) | (simp_all [tMind, mMind]; done)), by rfl⟩
      · skip
        refine aw_iconst C (1 : Int32) dX5_mindsOf_129 (by decide) ?_
        refine aw_goto C 134 dX5_mindsOf_130 (by decide) ?_
        exact aw_bret C (b := true) hr hlk dX5_mindsOf_134 rfl ⟨rb (by first | (exact absurd ‹(5 : Int32) < g› (Int32.not_lt.mpr ‹g ≤ 5›)) | (simp [tMind, mMind, *]; done) | (simp_all [tMind, mMind]; done)), by rfl⟩
    · skip
      refine aw_pc 15 rfl ?_
      refine aw_iconst C (1 : Int32) dX5_mindsOf_15 (by decide) ?_
      refine aw_goto C 20 dX5_mindsOf_16 (by decide) ?_
      refine aw_istore_n C true (lv' := [(0, .ref (y 0)), (1, .int (nI q)), (2, .int g), (3, .int (1 : Int32))]) dX5_mindsOf_20 (by decide) rfl rfl ?_
      refine aw_aload_n C dX5_mindsOf_21 rfl ?_
      refine aw_iload_n C dX5_mindsOf_22 rfl ?_
      refine aw_iconst C (0 : Int32) dX5_mindsOf_23 (by decide) ?_
      refine aw_callVp C (As := [.int (nI q), .int (0 : Int32)]) (c_X5_get l D cI cC adK adV y T X q 0 (by omega) (by decide)) k4_85 cv_X5_get 0 4 rfl rfl rfl [0, 1, 2, 3, 4, 5, 6, 7, 8, 9, 10, 11, 12] (by decide) rfl ⟨by decide, by decide⟩ rfl rfl ⟨by decide, by decide⟩ rfl rfl (Nat.le_of_ble_eq_true rfl) dX5_mindsOf_24 ?_
      by_cases s_27_1 : (T.2.2.1 0 q) = (1 : Int32)
      · skip
        refine aw_tabIn C (1) 64 dX5_mindsOf_27 (by rw [s_27_1]; rfl) (by decide) (by decide) rfl (by decide) ?_
        refine aw_iconst C (1 : Int32) dX5_mindsOf_64 (by decide) ?_
        exact aw_bret C (b := true) hr hlk dX5_mindsOf_65 rfl ⟨rb (by first | (exact absurd ‹(5 : Int32) < g› (Int32.not_lt.mpr ‹g ≤ 5›)) | (simp [tMind, mMind, *]; done) | (simp_all [tMind, mMind]; done)), by rfl⟩
      by_cases s_27_2 : (T.2.2.1 0 q) = (2 : Int32)
      · skip
        refine aw_tabIn C (2) 66 dX5_mindsOf_27 (by rw [s_27_2]; rfl) (by decide) (by decide) rfl (by decide) ?_
        refine aw_pc 66 rfl ?_
        refine aw_iload_n C dX5_mindsOf_66 rfl ?_
        refine aw_iconst C (5 : Int32) dX5_mindsOf_67 (by decide) ?_
        refine aw_icmp_gt C 75 dX5_mindsOf_68 (by decide) (fun c_68 => ?_) (fun c_68 => ?_)
        · skip
          refine aw_iconst C (0 : Int32) dX5_mindsOf_75 (by decide) ?_
          exact aw_bret C (b := false) hr hlk dX5_mindsOf_76 rfl ⟨rb (by first | (exact absurd ‹(5 : Int32) < g› (Int32.not_lt.mpr ‹g ≤ 5›)) | (simp [tMind, mMind, *]; done) | (simp_all [tMind, mMind]; done)), by rfl⟩
        · skip
          refine aw_iconst C (1 : Int32) dX5_mindsOf_71 (by decide) ?_
          refine aw_goto C 76 dX5_mindsOf_72 (by decide) ?_
          exact aw_bret C (b := true) hr hlk dX5_mindsOf_76 rfl ⟨rb (by first | (exact absurd ‹(5 : Int32) < g› (Int32.not_lt.mpr ‹g ≤ 5›)) | (simp [tMind, mMind, *]; done) | (simp_all [tMind, mMind]; done)), by rfl⟩
      by_cases s_27_3 : (T.2.2.1 0 q) = (3 : Int32)
      · skip
        refine aw_tabIn C (3) 77 dX5_mindsOf_27 (by rw [s_27_3]; rfl) (by decide) (by decide) rfl (by decide) ?_
        refine aw_iload_n C dX5_mindsOf_77 rfl ?_
        exact aw_bret C (b := true) hr hlk dX5_mindsOf_78 rfl ⟨rb (by first | (exact absurd ‹(5 : Int32) < g› (Int32.not_lt.mpr ‹g ≤ 5›)) | (simp [tMind, mMind, *]; done) | (simp_all [tMind, mMind]; done)), by rfl⟩
      by_cases s_27_4 : (T.2.2.1 0 q) = (4 : Int32)
      · skip
        refine aw_tabIn C (4) 79 dX5_mindsOf_27 (by rw [s_27_4]; rfl) (by decide) (by decide) rfl (by decide) ?_
        refine aw_pc 79 rfl ?_
        refine aw_iload_n C dX5_mindsOf_79 rfl ?_
        refine aw_bipush C (9 : Int32) dX5_mindsOf_80 (by decide) ?_
        refine aw_icmp_eq C 98 dX5_mindsOf_82 (by decide) (fun c_82 => ?_) (fun c_82 => ?_)
        · skip
          refine aw_iconst C (1 : Int32) dX5_mindsOf_98 (by decide) ?_
          refine aw_goto C 103 dX5_mindsOf_99 (by decide) ?_
          exact aw_bret C (b := true) hr hlk dX5_mindsOf_103 rfl ⟨rb (by first | (exact absurd ‹(5 : Int32) < g› (Int32.not_lt.mpr ‹g ≤ 5›)) | (simp [tMind, mMind, *]; done) | (simp_all [tMind, mMind]; done)), by rfl⟩
        · skip
          refine aw_aload_n C dX5_mindsOf_85 rfl ?_
          refine aw_iload_n C dX5_mindsOf_86 rfl ?_
          refine aw_iconst C (3 : Int32) dX5_mindsOf_87 (by decide) ?_
          refine aw_callVp C (As := [.int (nI q), .int (3 : Int32)]) (c_X5_get l D cI cC adK adV y T X q 3 (by omega) (by decide)) k4_85 cv_X5_get 0 4 rfl rfl rfl [0, 1, 2, 3, 4, 5, 6, 7, 8, 9, 10, 11, 12] (by decide) rfl ⟨by decide, by decide⟩ rfl rfl ⟨by decide, by decide⟩ rfl rfl (Nat.le_of_ble_eq_true rfl) dX5_mindsOf_88 ?_
          refine aw_pc 91 rfl ?_
          refine aw_if_ne C 102 dX5_mindsOf_91 (by decide) (fun c_91 => ?_) (fun c_91 => ?_)
          · skip
            refine aw_iconst C (0 : Int32) dX5_mindsOf_102 (by decide) ?_
            exact aw_bret C (b := false) hr hlk dX5_mindsOf_103 rfl ⟨rb (by first | (exact absurd ‹(5 : Int32) < g› (Int32.not_lt.mpr ‹g ≤ 5›)) | (simp [tMind, mMind, *]; done) | (simp_all [tMind, mMind]; done)), by rfl⟩
          · skip
            refine aw_iload_n C dX5_mindsOf_94 rfl ?_
            refine aw_if_eq C 102 dX5_mindsOf_95 (by decide) (fun c_95 => absurd c_95 (by decide)) (fun c_95 => ?_)
            refine aw_iconst C (1 : Int32) dX5_mindsOf_98 (by decide) ?_
            refine aw_goto C 103 dX5_mindsOf_99 (by decide) ?_
            exact aw_bret C (b := true) hr hlk dX5_mindsOf_103 rfl ⟨rb (by first | (exact absurd ‹(5 : Int32) < g› (Int32.not_lt.mpr ‹g ≤ 5›)) | (simp [tMind, mMind, *]; done) | (simp_all [tMind, mMind]; done)), by rfl⟩
      by_cases s_27_5 : (T.2.2.1 0 q) = (5 : Int32)
      · skip
        refine aw_tabIn C (5) 104 dX5_mindsOf_27 (by rw [s_27_5]; rfl) (by decide) (by decide) rfl (by decide) ?_
        refine aw_iconst C (0 : Int32) dX5_mindsOf_104 (by decide) ?_
        exact aw_bret C (b := false) hr hlk dX5_mindsOf_105 rfl ⟨rb (by first | (exact absurd ‹(5 : Int32) < g› (Int32.not_lt.mpr ‹g ≤ 5›)) | (simp [tMind, mMind, *]; done) | (simp_all [tMind, mMind]; done)), by rfl⟩
      by_cases s_27_6 : (T.2.2.1 0 q) = (6 : Int32)
      · skip
        refine aw_tabIn C (6) 106 dX5_mindsOf_27 (by rw [s_27_6]; rfl) (by decide) (by decide) rfl (by decide) ?_
        refine aw_pc 106 rfl ?_
        refine aw_iload_n C dX5_mindsOf_106 rfl ?_
        refine aw_iconst C (2 : Int32) dX5_mindsOf_107 (by decide) ?_
        refine aw_irem C dX5_mindsOf_108 (by decide) ?_
        refine aw_iconst C (1 : Int32) dX5_mindsOf_109 (by decide) ?_
        refine aw_icmp_ne C 117 dX5_mindsOf_110 (by decide) (fun c_110 => ?_) (fun c_110 => ?_)
        · skip
          refine aw_iconst C (0 : Int32) dX5_mindsOf_117 (by decide) ?_
          exact aw_bret C (b := false) hr hlk dX5_mindsOf_118 rfl ⟨rb (by first | (exact absurd ‹(5 : Int32) < g› (Int32.not_lt.mpr ‹g ≤ 5›)) | (simp [tMind, mMind, *]; done) | (simp_all [tMind, mMind]; done)), by rfl⟩
        · skip
          refine aw_iconst C (1 : Int32) dX5_mindsOf_113 (by decide) ?_
          refine aw_goto C 118 dX5_mindsOf_114 (by decide) ?_
          exact aw_bret C (b := true) hr hlk dX5_mindsOf_118 rfl ⟨rb (by first | (exact absurd ‹(5 : Int32) < g› (Int32.not_lt.mpr ‹g ≤ 5›)) | (simp [tMind, mMind, *]; done) | (simp_all [tMind, mMind]; done)), by rfl⟩
      refine aw_tabOut C 119 dX5_mindsOf_27 (by have q0 := ne_toInt s_27_1 (z := 1) rfl; have q1 := ne_toInt s_27_2 (z := 2) rfl; have q2 := ne_toInt s_27_3 (z := 3) rfl; have q3 := ne_toInt s_27_4 (z := 4) rfl; have q4 := ne_toInt s_27_5 (z := 5) rfl; have q5 := ne_toInt s_27_6 (z := 6) rfl; omega) (by decide) ?_
      refine aw_pc 119 rfl ?_
      refine aw_iload_n C dX5_mindsOf_119 rfl ?_
      refine aw_aload_n C dX5_mindsOf_120 rfl ?_
      refine aw_iload_n C dX5_mindsOf_121 rfl ?_
      refine aw_iconst C (2 : Int32) dX5_mindsOf_122 (by decide) ?_
      refine aw_callVp C (As := [.int (nI q), .int (2 : Int32)]) (c_X5_get l D cI cC adK adV y T X q 2 (by omega) (by decide)) k4_85 cv_X5_get 0 4 rfl rfl rfl [0, 1, 2, 3, 4, 5, 6, 7, 8, 9, 10, 11, 12] (by decide) rfl ⟨by decide, by decide⟩ rfl rfl ⟨by decide, by decide⟩ rfl rfl (Nat.le_of_ble_eq_true rfl) dX5_mindsOf_123 ?_
      refine aw_icmp_eq C 133 dX5_mindsOf_126 (by decide) (fun c_126 => ?_) (fun c_126 => ?_)
      · skip
        refine aw_iconst C (0 : Int32) dX5_mindsOf_133 (by decide) ?_
        exact aw_bret C (b := false) hr hlk dX5_mindsOf_134 rfl ⟨rb (by first | (exact absurd ‹(5 : Int32) < g› (Int32.not_lt.mpr ‹g ≤ 5›)) | (simp [tMind, mMind, *]; done) | (simp_all [tMind, mMind]; done)), by rfl⟩
      · skip
        refine aw_iconst C (1 : Int32) dX5_mindsOf_129 (by decide) ?_
        refine aw_goto C 134 dX5_mindsOf_130 (by decide) ?_
        refine aw_pc 134 rfl ?_
        exact aw_bret C (b := true) hr hlk dX5_mindsOf_134 rfl ⟨rb (by first | (exact absurd ‹(5 : Int32) < g› (Int32.not_lt.mpr ‹g ≤ 5›)) | (simp [tMind, mMind, *]; done) | (simp_all [tMind, mMind]; done)), by rfl⟩
abbrev r_X5_shinesOf : Room := { frames := 1, cells := 0, slots := 0, locals := 22 }
theorem cv_X5_shinesOf : cV yX5_shinesOf cX5_shinesOf 2 (some .int) 1 := ⟨k4_99, k0_29, k4_100, k1_6, by decide, by decide, by decide +kernel⟩
set_option maxHeartbeats 4000000 in
set_option maxRecDepth 100000 in
theorem c_X5_shinesOf (l : Launch) (D : va_G) (cI cC : ClassId) (adK adV : Nat → Nat) (y : Nat → Nat) (T : Tw) (X : Mr) (q : Nat) (hq : q < 8) (ho : gOk T) : FC l yX5_shinesOf (wW yX5_shinesOf cX5_shinesOf 2 (some .int)) r_X5_shinesOf D (tyC cI cC) adK adV (wMo cI cC y (rowOf T) X) [.ref (y 0), .int (nI q)] 0 0 (fQ (some (.int (mShine (T.2.2.1 0 q)))) (wMo cI cC y (rowOf T) X)) := by
  refine FC.of (own := RX5) (by decide) rfl (Nat.le_of_ble_eq_true rfl) ?_
  intro p9 e9 s9 m9 args9 below9 meth9 c9 A9 C hr hlk hmn
  show AW p9 l e9 r_X5_shinesOf s9 m9 args9 below9 meth9 c9 D A9 2 0 0 _ 0 [(0, .ref (y 0)), (1, .int (nI q))] [] _
  refine aw_aload_n C dX5_shinesOf_0 rfl ?_
  refine aw_iload_n C dX5_shinesOf_1 rfl ?_
  refine aw_iconst C (0 : Int32) dX5_shinesOf_2 (by decide) ?_
  refine aw_callVp C (As := [.int (nI q), .int (0 : Int32)]) (c_X5_get l D cI cC adK adV y T X q 0 (by omega) (by decide)) k4_85 cv_X5_get 0 4 rfl rfl rfl [0, 1, 2, 3, 4, 5, 6, 7, 8, 9, 10, 11, 12] (by decide) rfl ⟨by decide, by decide⟩ rfl rfl ⟨by decide, by decide⟩ rfl rfl (Nat.le_of_ble_eq_true rfl) dX5_shinesOf_3 ?_
  by_cases s_6_0 : (T.2.2.1 0 q) = (0 : Int32)
  · skip
    refine aw_tabIn C (0) 40 dX5_shinesOf_6 (by rw [s_6_0]; rfl) (by decide) (by decide) rfl (by decide) ?_
    refine aw_iconst C (1 : Int32) dX5_shinesOf_40 (by decide) ?_
    exact aw_iret C hr hlk dX5_shinesOf_41 ⟨ri (by first | exact (shine_D (ho.f 0 (by decide) q) s_6_0 s_6_1 s_6_2 s_6_3 s_6_4).symm | (simp [mShine, *]; done)), by rfl⟩
  by_cases s_6_1 : (T.2.2.1 0 q) = (1 : Int32)
  · skip
    refine aw_tabIn C (1) 46 dX5_shinesOf_6 (by rw [s_6_1]; rfl) (by decide) (by decide) rfl (by decide) ?_
    refine aw_iconst C (0 : Int32) dX5_shinesOf_46 (by decide) ?_
    exact aw_iret C hr hlk dX5_shinesOf_47 ⟨ri (by first | exact (shine_D (ho.f 0 (by decide) q) s_6_0 s_6_1 s_6_2 s_6_3 s_6_4).symm | (simp [mShine, *]; done)), by rfl⟩
  by_cases s_6_2 : (T.2.2.1 0 q) = (2 : Int32)
  · skip
    refine aw_tabIn C (2) 42 dX5_shinesOf_6 (by rw [s_6_2]; rfl) (by decide) (by decide) rfl (by decide) ?_
    refine aw_pc 42 rfl ?_
    refine aw_iconst C (2 : Int32) dX5_shinesOf_42 (by decide) ?_
    exact aw_iret C hr hlk dX5_shinesOf_43 ⟨ri (by first | exact (shine_D (ho.f 0 (by decide) q) s_6_0 s_6_1 s_6_2 s_6_3 s_6_4).symm | (simp [mShine, *]; done)), by rfl⟩
  by_cases s_6_3 : (T.2.2.1 0 q) = (3 : Int32)
  · skip
    refine aw_tabIn C (3) 42 dX5_shinesOf_6 (by rw [s_6_3]; rfl) (by decide) (by decide) rfl (by decide) ?_
    refine aw_iconst C (2 : Int32) dX5_shinesOf_42 (by decide) ?_
    exact aw_iret C hr hlk dX5_shinesOf_43 ⟨ri (by first | exact (shine_D (ho.f 0 (by decide) q) s_6_0 s_6_1 s_6_2 s_6_3 s_6_4).symm | (simp [mShine, *]; done)), by rfl⟩
  by_cases s_6_4 : (T.2.2.1 0 q) = (4 : Int32)
  · skip
    refine aw_tabIn C (4) 44 dX5_shinesOf_6 (by rw [s_6_4]; rfl) (by decide) (by decide) rfl (by decide) ?_
    refine aw_iconst C (4 : Int32) dX5_shinesOf_44 (by decide) ?_
    exact aw_iret C hr hlk dX5_shinesOf_45 ⟨ri (by first | exact (shine_D (ho.f 0 (by decide) q) s_6_0 s_6_1 s_6_2 s_6_3 s_6_4).symm | (simp [mShine, *]; done)), by rfl⟩
  refine aw_tabOut C 46 dX5_shinesOf_6 (by have q0 := ne_toInt s_6_0 (z := 0) rfl; have q1 := ne_toInt s_6_1 (z := 1) rfl; have q2 := ne_toInt s_6_2 (z := 2) rfl; have q3 := ne_toInt s_6_3 (z := 3) rfl; have q4 := ne_toInt s_6_4 (z := 4) rfl; omega) (by decide) ?_
  refine aw_iconst C (0 : Int32) dX5_shinesOf_46 (by decide) ?_
  exact aw_iret C hr hlk dX5_shinesOf_47 ⟨ri (by first | exact (shine_D (ho.f 0 (by decide) q) s_6_0 s_6_1 s_6_2 s_6_3 s_6_4).symm | (simp [mShine, *]; done)), by rfl⟩
abbrev r_X5_gladdensOf : Room := { frames := 1, cells := 0, slots := 0, locals := 22 }
theorem cv_X5_gladdensOf : cV yX5_gladdensOf cX5_gladdensOf 3 (some .int) 1 := ⟨k4_103, k0_30, k4_104, k1_6, by decide, by decide, by decide +kernel⟩
set_option maxHeartbeats 4000000 in
set_option maxRecDepth 100000 in
theorem c_X5_gladdensOf (l : Launch) (D : va_G) (cI cC : ClassId) (adK adV : Nat → Nat) (y : Nat → Nat) (T : Tw) (X : Mr) (q : Nat) (hq : q < 8) (ho : gOk T) : FC l yX5_gladdensOf (wW yX5_gladdensOf cX5_gladdensOf 3 (some .int)) r_X5_gladdensOf D (tyC cI cC) adK adV (wMo cI cC y (rowOf T) X) [.ref (y 0), .int (nI q)] 0 0 (fQ (some (.int (tGlad T q))) (wMo cI cC y (rowOf T) X)) := by
  refine FC.of (own := RX5) (by decide) rfl (Nat.le_of_ble_eq_true rfl) ?_
  intro p9 e9 s9 m9 args9 below9 meth9 c9 A9 C hr hlk hmn
  show AW p9 l e9 r_X5_gladdensOf s9 m9 args9 below9 meth9 c9 D A9 3 0 0 _ 0 [(0, .ref (y 0)), (1, .int (nI q))] [] _
  refine aw_iconst C (3 : Int32) dX5_gladdensOf_0 (by decide) ?_
  refine aw_aload_n C dX5_gladdensOf_1 rfl ?_
  refine aw_iload_n C dX5_gladdensOf_2 rfl ?_
  refine aw_iconst C (4 : Int32) dX5_gladdensOf_3 (by decide) ?_
  refine aw_callVp C (As := [.int (nI q), .int (4 : Int32)]) (c_X5_get l D cI cC adK adV y T X q 4 (by omega) (by decide)) k4_85 cv_X5_get 0 4 rfl rfl rfl [0, 1, 2, 3, 4, 5, 6, 7, 8, 9, 10, 11, 12] (by decide) rfl ⟨by decide, by decide⟩ rfl rfl ⟨by decide, by decide⟩ rfl rfl (Nat.le_of_ble_eq_true rfl) dX5_gladdensOf_4 ?_
  refine aw_callSp C (As := [.int (T.2.2.1 4 q)]) (c_X5_bits_r l D cI cC adK adV (T.2.2.1 4 q) (ho.f 4 (by decide) _)) k4_105 cs_X5_bits_r [] (by decide) rfl ⟨by decide, by decide⟩ rfl rfl ⟨by decide, by decide⟩ rfl rfl (Nat.le_of_ble_eq_true rfl) dX5_gladdensOf_7 ?_
  refine aw_iadd C dX5_gladdensOf_10 ?_
  refine aw_istore_n C true (lv' := [(0, .ref (y 0)), (1, .int (nI q)), (2, .int ((3 : Int32) + (bcE (T.2.2.1 4 q))))]) dX5_gladdensOf_11 (by decide) rfl rfl ?_
  refine aw_aload_n C dX5_gladdensOf_12 rfl ?_
  refine aw_pc 13 rfl ?_
  refine aw_iload_n C dX5_gladdensOf_13 rfl ?_
  refine aw_iconst C (0 : Int32) dX5_gladdensOf_14 (by decide) ?_
  refine aw_callVp C (As := [.int (nI q), .int (0 : Int32)]) (c_X5_get l D cI cC adK adV y T X q 0 (by omega) (by decide)) k4_85 cv_X5_get 0 4 rfl rfl rfl [0, 1, 2, 3, 4, 5, 6, 7, 8, 9, 10, 11, 12] (by decide) rfl ⟨by decide, by decide⟩ rfl rfl ⟨by decide, by decide⟩ rfl rfl (Nat.le_of_ble_eq_true rfl) dX5_gladdensOf_15 ?_
  by_cases s_18_2 : (T.2.2.1 0 q) = (2 : Int32)
  · skip
    refine aw_tabIn C (2) 52 dX5_gladdensOf_18 (by rw [s_18_2]; rfl) (by decide) (by decide) rfl (by decide) ?_
    refine aw_iconst C (3 : Int32) dX5_gladdensOf_52 (by decide) ?_
    exact aw_iret C hr hlk dX5_gladdensOf_53 ⟨ri (by simp only [if_pos s_18_2, tGlad, mGlad] <;> first | done | rfl), by rfl⟩
  by_cases s_18_3 : (T.2.2.1 0 q) = (3 : Int32)
  · skip
    refine aw_tabIn C (3) 54 dX5_gladdensOf_18 (by rw [s_18_3]; rfl) (by decide) (by decide) rfl (by decide) ?_
    refine aw_iload_n C dX5_gladdensOf_54 rfl ?_
    exact aw_iret C hr hlk dX5_gladdensOf_55 ⟨ri (by simp only [if_pos s_18_3, if_neg s_18_2, tGlad, mGlad] <;> first | done | rfl), by rfl⟩
  by_cases s_18_4 : (T.2.2.1 0 q) = (4 : Int32)
  · skip
    refine aw_tabIn C (4) 56 dX5_gladdensOf_18 (by rw [s_18_4]; rfl) (by decide) (by decide) rfl (by decide) ?_
    refine aw_iconst C (3 : Int32) dX5_gladdensOf_56 (by decide) ?_
    refine aw_iload_n C dX5_gladdensOf_57 rfl ?_
    refine aw_pc 58 rfl ?_
    refine aw_imul C dX5_gladdensOf_58 ?_
    exact aw_iret C hr hlk dX5_gladdensOf_59 ⟨ri (by simp only [if_pos s_18_4, if_neg s_18_2, if_neg s_18_3, tGlad, mGlad] <;> first | done | rfl), by rfl⟩
  by_cases s_18_5 : (T.2.2.1 0 q) = (5 : Int32)
  · skip
    refine aw_tabIn C (5) 60 dX5_gladdensOf_18 (by rw [s_18_5]; rfl) (by decide) (by decide) rfl (by decide) ?_
    refine aw_iconst C (0 : Int32) dX5_gladdensOf_60 (by decide) ?_
    exact aw_iret C hr hlk dX5_gladdensOf_61 ⟨ri (by simp only [if_pos s_18_5, if_neg s_18_2, if_neg s_18_3, if_neg s_18_4, tGlad, mGlad] <;> first | done | rfl), by rfl⟩
  by_cases s_18_6 : (T.2.2.1 0 q) = (6 : Int32)
  · skip
    refine aw_tabIn C (6) 62 dX5_gladdensOf_18 (by rw [s_18_6]; rfl) (by decide) (by decide) rfl (by decide) ?_
    refine aw_bipush C (20 : Int32) dX5_gladdensOf_62 (by decide) ?_
    exact aw_iret C hr hlk dX5_gladdensOf_64 ⟨ri (by simp only [if_pos s_18_6, if_neg s_18_2, if_neg s_18_3, if_neg s_18_4, if_neg s_18_5, tGlad, mGlad] <;> first | done | rfl), by rfl⟩
  refine aw_tabOut C 65 dX5_gladdensOf_18 (by have q0 := ne_toInt s_18_2 (z := 2) rfl; have q1 := ne_toInt s_18_3 (z := 3) rfl; have q2 := ne_toInt s_18_4 (z := 4) rfl; have q3 := ne_toInt s_18_5 (z := 5) rfl; have q4 := ne_toInt s_18_6 (z := 6) rfl; omega) (by decide) ?_
  refine aw_iconst C (1 : Int32) dX5_gladdensOf_65 (by decide) ?_
  exact aw_iret C hr hlk dX5_gladdensOf_66 ⟨ri (by simp only [if_neg s_18_2, if_neg s_18_3, if_neg s_18_4, if_neg s_18_5, if_neg s_18_6, tGlad, mGlad] <;> first | done | rfl), by rfl⟩
abbrev r_X5_farOf : Room := { frames := 1, cells := 0, slots := 0, locals := 22 }
theorem cv_X5_farOf : cV yX5_farOf cX5_farOf 4 (some .int) 2 := ⟨k4_137, k0_34, k4_138, k1_6, by decide, by decide, by decide +kernel⟩
set_option maxHeartbeats 4000000 in
set_option maxRecDepth 100000 in
theorem c_X5_farOf (l : Launch) (D : va_G) (cI cC : ClassId) (adK adV : Nat → Nat) (y : Nat → Nat) (T : Tw) (X : Mr) (u : Nat) (v : Nat) (hu : u < 8) (hv : v < 8) (ho : gOk T) : FC l yX5_farOf (wW yX5_farOf cX5_farOf 4 (some .int)) r_X5_farOf D (tyC cI cC) adK adV (wMo cI cC y (rowOf T) X) [.ref (y 0), .int (nI u), .int (nI v)] 0 0 (fQ (some (.int (tFar T u v))) (wMo cI cC y (rowOf T) X)) := by
  refine FC.of (own := RX5) (by decide) rfl (Nat.le_of_ble_eq_true rfl) ?_
  intro p9 e9 s9 m9 args9 below9 meth9 c9 A9 C hr hlk hmn
  show AW p9 l e9 r_X5_farOf s9 m9 args9 below9 meth9 c9 D A9 4 0 0 _ 0 [(0, .ref (y 0)), (1, .int (nI u)), (2, .int (nI v))] [] _
  refine aw_aload_n C dX5_farOf_0 rfl ?_
  refine aw_iload_n C dX5_farOf_1 rfl ?_
  refine aw_iconst C (1 : Int32) dX5_farOf_2 (by decide) ?_
  refine aw_callVp C (As := [.int (nI u), .int (1 : Int32)]) (c_X5_get l D cI cC adK adV y T X u 1 (by omega) (by decide)) k4_85 cv_X5_get 0 4 rfl rfl rfl [0, 1, 2, 3, 4, 5, 6, 7, 8, 9, 10, 11, 12] (by decide) rfl ⟨by decide, by decide⟩ rfl rfl ⟨by decide, by decide⟩ rfl rfl (Nat.le_of_ble_eq_true rfl) dX5_farOf_3 ?_
  refine aw_bipush C (16 : Int32) dX5_farOf_6 (by decide) ?_
  refine aw_iadd C dX5_farOf_8 ?_
  refine aw_aload_n C dX5_farOf_9 rfl ?_
  refine aw_iload_n C dX5_farOf_10 rfl ?_
  refine aw_iconst C (1 : Int32) dX5_farOf_11 (by decide) ?_
  refine aw_pc 12 rfl ?_
  refine aw_callVp C (As := [.int (nI v), .int (1 : Int32)]) (c_X5_get l D cI cC adK adV y T X v 1 (by omega) (by decide)) k4_85 cv_X5_get 0 4 rfl rfl rfl [0, 1, 2, 3, 4, 5, 6, 7, 8, 9, 10, 11, 12] (by decide) rfl ⟨by decide, by decide⟩ rfl rfl ⟨by decide, by decide⟩ rfl rfl (Nat.le_of_ble_eq_true rfl) dX5_farOf_12 ?_
  refine aw_isub C dX5_farOf_15 ?_
  refine aw_bipush C (16 : Int32) dX5_farOf_16 (by decide) ?_
  refine aw_irem C dX5_farOf_18 (by decide) ?_
  refine aw_istore_n C true (lv' := [(0, .ref (y 0)), (1, .int (nI u)), (2, .int (nI v)), (3, .int (ir (((T.2.2.1 1 u) + (16 : Int32)) - (T.2.2.1 1 v)) (16 : Int32)))]) dX5_farOf_19 (by decide) rfl rfl ?_
  refine aw_iload_n C dX5_farOf_20 rfl ?_
  refine aw_bipush C (16 : Int32) dX5_farOf_21 (by decide) ?_
  refine aw_iload_n C dX5_farOf_23 rfl ?_
  refine aw_isub C dX5_farOf_24 ?_
  refine aw_callSp C (As := [.int (ir (((T.2.2.1 1 u) + (16 : Int32)) - (T.2.2.1 1 v)) (16 : Int32)), .int ((16 : Int32) - (ir (((T.2.2.1 1 u) + (16 : Int32)) - (T.2.2.1 1 v)) (16 : Int32)))]) (c_X5_less l D cI cC adK adV (ir (((T.2.2.1 1 u) + (16 : Int32)) - (T.2.2.1 1 v)) (16 : Int32)) ((16 : Int32) - (ir (((T.2.2.1 1 u) + (16 : Int32)) - (T.2.2.1 1 v)) (16 : Int32)))) k4_139 cs_X5_less [] (by decide) rfl ⟨by decide, by decide⟩ rfl rfl ⟨by decide, by decide⟩ rfl rfl (Nat.le_of_ble_eq_true rfl) dX5_farOf_25 ?_
  refine aw_pc 28 rfl ?_
  exact aw_iret C hr hlk dX5_farOf_28 ⟨ri (by obtain ⟨x9, hx9, e9⟩ := ho.f 1 (by decide) u; obtain ⟨z9, hz9, e8⟩ := ho.f 1 (by decide) v; unfold tFar; rw [e9, e8]; exact far_ok x9 hx9 z9 hz9), by rfl⟩
abbrev r_X5_hasMet : Room := { frames := 1, cells := 0, slots := 0, locals := 22 }
theorem cv_X5_hasMet : cV yX5_hasMet cX5_hasMet 3 (some .boolean) 2 := ⟨k4_152, k0_35, k4_153, k1_6, by decide, by decide, by decide +kernel⟩
set_option maxHeartbeats 4000000 in
set_option maxRecDepth 100000 in
theorem c_X5_hasMet (l : Launch) (D : va_G) (cI cC : ClassId) (adK adV : Nat → Nat) (y : Nat → Nat) (T : Tw) (X : Mr) (u : Nat) (v : Nat) (hu : u < 8) : FC l yX5_hasMet (wW yX5_hasMet cX5_hasMet 3 (some .boolean)) r_X5_hasMet D (tyC cI cC) adK adV (wMo cI cC y (rowOf T) X) [.ref (y 0), .int (nI u), .int (nI v)] 0 0 (fQ (some (.int (b2 (tMet T u v)))) (wMo cI cC y (rowOf T) X)) := by
  refine FC.of (own := RX5) (by decide) rfl (Nat.le_of_ble_eq_true rfl) ?_
  intro p9 e9 s9 m9 args9 below9 meth9 c9 A9 C hr hlk hmn
  show AW p9 l e9 r_X5_hasMet s9 m9 args9 below9 meth9 c9 D A9 3 0 0 _ 0 [(0, .ref (y 0)), (1, .int (nI u)), (2, .int (nI v))] [] _
  refine aw_aload_n C dX5_hasMet_0 rfl ?_
  refine aw_iload_n C dX5_hasMet_1 rfl ?_
  refine aw_iconst C (3 : Int32) dX5_hasMet_2 (by decide) ?_
  refine aw_callVp C (As := [.int (nI u), .int (3 : Int32)]) (c_X5_get l D cI cC adK adV y T X u 3 (by omega) (by decide)) k4_85 cv_X5_get 0 4 rfl rfl rfl [0, 1, 2, 3, 4, 5, 6, 7, 8, 9, 10, 11, 12] (by decide) rfl ⟨by decide, by decide⟩ rfl rfl ⟨by decide, by decide⟩ rfl rfl (Nat.le_of_ble_eq_true rfl) dX5_hasMet_3 ?_
  refine aw_iload_n C dX5_hasMet_6 rfl ?_
  refine aw_ishr C dX5_hasMet_7 ?_
  refine aw_iconst C (1 : Int32) dX5_hasMet_8 (by decide) ?_
  refine aw_iand C dX5_hasMet_9 ?_
  refine aw_iconst C (1 : Int32) dX5_hasMet_10 (by decide) ?_
  refine aw_pc 11 rfl ?_
  refine aw_icmp_ne C 18 dX5_hasMet_11 (by decide) (fun c_11 => ?_) (fun c_11 => ?_)
  · skip
    refine aw_iconst C (0 : Int32) dX5_hasMet_18 (by decide) ?_
    exact aw_bret C (b := false) hr hlk dX5_hasMet_19 rfl ⟨rb (by simp [tMet, hol, *]), by rfl⟩
  · skip
    refine aw_iconst C (1 : Int32) dX5_hasMet_14 (by decide) ?_
    refine aw_goto C 19 dX5_hasMet_15 (by decide) ?_
    exact aw_bret C (b := true) hr hlk dX5_hasMet_19 rfl ⟨rb (by simp [tMet, hol, *]), by rfl⟩
abbrev r_X5_doesKnow : Room := { frames := 1, cells := 0, slots := 0, locals := 22 }
theorem cv_X5_doesKnow : cV yX5_doesKnow cX5_doesKnow 3 (some .boolean) 2 := ⟨k4_156, k0_36, k4_157, k1_6, by decide, by decide, by decide +kernel⟩
set_option maxHeartbeats 4000000 in
set_option maxRecDepth 100000 in
theorem c_X5_doesKnow (l : Launch) (D : va_G) (cI cC : ClassId) (adK adV : Nat → Nat) (y : Nat → Nat) (T : Tw) (X : Mr) (u : Nat) (v : Nat) (hu : u < 8) : FC l yX5_doesKnow (wW yX5_doesKnow cX5_doesKnow 3 (some .boolean)) r_X5_doesKnow D (tyC cI cC) adK adV (wMo cI cC y (rowOf T) X) [.ref (y 0), .int (nI u), .int (nI v)] 0 0 (fQ (some (.int (b2 (tKno T u v)))) (wMo cI cC y (rowOf T) X)) := by
  refine FC.of (own := RX5) (by decide) rfl (Nat.le_of_ble_eq_true rfl) ?_
  intro p9 e9 s9 m9 args9 below9 meth9 c9 A9 C hr hlk hmn
  show AW p9 l e9 r_X5_doesKnow s9 m9 args9 below9 meth9 c9 D A9 3 0 0 _ 0 [(0, .ref (y 0)), (1, .int (nI u)), (2, .int (nI v))] [] _
  refine aw_aload_n C dX5_doesKnow_0 rfl ?_
  refine aw_iload_n C dX5_doesKnow_1 rfl ?_
  refine aw_iconst C (4 : Int32) dX5_doesKnow_2 (by decide) ?_
  refine aw_callVp C (As := [.int (nI u), .int (4 : Int32)]) (c_X5_get l D cI cC adK adV y T X u 4 (by omega) (by decide)) k4_85 cv_X5_get 0 4 rfl rfl rfl [0, 1, 2, 3, 4, 5, 6, 7, 8, 9, 10, 11, 12] (by decide) rfl ⟨by decide, by decide⟩ rfl rfl ⟨by decide, by decide⟩ rfl rfl (Nat.le_of_ble_eq_true rfl) dX5_doesKnow_3 ?_
  refine aw_iload_n C dX5_doesKnow_6 rfl ?_
  refine aw_ishr C dX5_doesKnow_7 ?_
  refine aw_iconst C (1 : Int32) dX5_doesKnow_8 (by decide) ?_
  refine aw_iand C dX5_doesKnow_9 ?_
  refine aw_iconst C (1 : Int32) dX5_doesKnow_10 (by decide) ?_
  refine aw_pc 11 rfl ?_
  refine aw_icmp_ne C 18 dX5_doesKnow_11 (by decide) (fun c_11 => ?_) (fun c_11 => ?_)
  · skip
    refine aw_iconst C (0 : Int32) dX5_doesKnow_18 (by decide) ?_
    exact aw_bret C (b := false) hr hlk dX5_doesKnow_19 rfl ⟨rb (by simp [tKno, hol, *]), by rfl⟩
  · skip
    refine aw_iconst C (1 : Int32) dX5_doesKnow_14 (by decide) ?_
    refine aw_goto C 19 dX5_doesKnow_15 (by decide) ?_
    exact aw_bret C (b := true) hr hlk dX5_doesKnow_19 rfl ⟨rb (by simp [tKno, hol, *]), by rfl⟩
abbrev r_X5_wouldSee : Room := { frames := 2, cells := 0, slots := 0, locals := 45 }
theorem cv_X5_wouldSee : cV yX5_wouldSee cX5_wouldSee 3 (some .boolean) 2 := ⟨k4_160, k0_37, k4_161, k1_6, by decide, by decide, by decide +kernel⟩
set_option maxHeartbeats 4000000 in
set_option maxRecDepth 100000 in
theorem c_X5_wouldSee (l : Launch) (D : va_G) (cI cC : ClassId) (adK adV : Nat → Nat) (y : Nat → Nat) (T : Tw) (X : Mr) (u : Nat) (v : Nat) (hu : u < 8) (hv : v < 8) (ho : gOk T) : FC l yX5_wouldSee (wW yX5_wouldSee cX5_wouldSee 3 (some .boolean)) r_X5_wouldSee D (tyC cI cC) adK adV (wMo cI cC y (rowOf T) X) [.ref (y 0), .int (nI u), .int (nI v)] 0 0 (fQ (some (.int (b2 (tSee T u v)))) (wMo cI cC y (rowOf T) X)) := by
  refine FC.of (own := RX5) (by decide) rfl (Nat.le_of_ble_eq_true rfl) ?_
  intro p9 e9 s9 m9 args9 below9 meth9 c9 A9 C hr hlk hmn
  show AW p9 l e9 r_X5_wouldSee s9 m9 args9 below9 meth9 c9 D A9 3 0 0 _ 0 [(0, .ref (y 0)), (1, .int (nI u)), (2, .int (nI v))] [] _
  refine aw_aload_n C dX5_wouldSee_0 rfl ?_
  refine aw_iload_n C dX5_wouldSee_1 rfl ?_
  refine aw_iconst C (5 : Int32) dX5_wouldSee_2 (by decide) ?_
  refine aw_callVp C (As := [.int (nI u), .int (5 : Int32)]) (c_X5_get l D cI cC adK adV y T X u 5 (by omega) (by decide)) k4_85 cv_X5_get 0 4 rfl rfl rfl [0, 1, 2, 3, 4, 5, 6, 7, 8, 9, 10, 11, 12] (by decide) rfl ⟨by decide, by decide⟩ rfl rfl ⟨by decide, by decide⟩ rfl rfl (Nat.le_of_ble_eq_true rfl) dX5_wouldSee_3 ?_
  refine aw_if_ne C 44 dX5_wouldSee_6 (by decide) (fun c_6 => ?_) (fun c_6 => ?_)
  · skip
    refine aw_iconst C (0 : Int32) dX5_wouldSee_44 (by decide) ?_
    exact aw_bret C (b := false) hr hlk dX5_wouldSee_45 rfl ⟨rb (by simp [tSee, *]), by rfl⟩
  · skip
    refine aw_aload_n C dX5_wouldSee_9 rfl ?_
    refine aw_iload_n C dX5_wouldSee_10 rfl ?_
    refine aw_pc 11 rfl ?_
    refine aw_iconst C (5 : Int32) dX5_wouldSee_11 (by decide) ?_
    refine aw_callVp C (As := [.int (nI v), .int (5 : Int32)]) (c_X5_get l D cI cC adK adV y T X v 5 (by omega) (by decide)) k4_85 cv_X5_get 0 4 rfl rfl rfl [0, 1, 2, 3, 4, 5, 6, 7, 8, 9, 10, 11, 12] (by decide) rfl ⟨by decide, by decide⟩ rfl rfl ⟨by decide, by decide⟩ rfl rfl (Nat.le_of_ble_eq_true rfl) dX5_wouldSee_12 ?_
    refine aw_if_ne C 44 dX5_wouldSee_15 (by decide) (fun c_15 => ?_) (fun c_15 => ?_)
    · skip
      refine aw_iconst C (0 : Int32) dX5_wouldSee_44 (by decide) ?_
      exact aw_bret C (b := false) hr hlk dX5_wouldSee_45 rfl ⟨rb (by simp [tSee, *]), by rfl⟩
    · skip
      refine aw_aload_n C dX5_wouldSee_18 rfl ?_
      refine aw_iload_n C dX5_wouldSee_19 rfl ?_
      refine aw_iload_n C dX5_wouldSee_20 rfl ?_
      refine aw_callVp C (As := [.int (nI u), .int (nI v)]) (c_X5_farOf l D cI cC adK adV y T X u v (by omega) (by omega) ho) k4_135 cv_X5_farOf 0 4 rfl rfl rfl [0, 1, 2, 3, 4, 5, 6, 7, 8, 9, 10, 11, 12] (by decide) rfl ⟨by decide, by decide⟩ rfl rfl ⟨by decide, by decide⟩ rfl rfl (Nat.le_of_ble_eq_true rfl) dX5_wouldSee_21 ?_
      refine aw_aload_n C dX5_wouldSee_24 rfl ?_
      refine aw_pc 25 rfl ?_
      refine aw_iload_n C dX5_wouldSee_25 rfl ?_
      refine aw_callVp C (As := [.int (nI u)]) (c_X5_shinesOf l D cI cC adK adV y T X u (by omega) ho) k4_97 cv_X5_shinesOf 0 4 rfl rfl rfl [0, 1, 2, 3, 4, 5, 6, 7, 8, 9, 10, 11, 12] (by decide) rfl ⟨by decide, by decide⟩ rfl rfl ⟨by decide, by decide⟩ rfl rfl (Nat.le_of_ble_eq_true rfl) dX5_wouldSee_26 ?_
      refine aw_aload_n C dX5_wouldSee_29 rfl ?_
      refine aw_iload_n C dX5_wouldSee_30 rfl ?_
      refine aw_callVp C (As := [.int (nI v)]) (c_X5_shinesOf l D cI cC adK adV y T X v (by omega) ho) k4_97 cv_X5_shinesOf 0 4 rfl rfl rfl [0, 1, 2, 3, 4, 5, 6, 7, 8, 9, 10, 11, 12] (by decide) rfl ⟨by decide, by decide⟩ rfl rfl ⟨by decide, by decide⟩ rfl rfl (Nat.le_of_ble_eq_true rfl) dX5_wouldSee_31 ?_
      refine aw_callSp C (As := [.int (mShine (T.2.2.1 0 u)), .int (mShine (T.2.2.1 0 v))]) (c_X5_less l D cI cC adK adV (mShine (T.2.2.1 0 u)) (mShine (T.2.2.1 0 v))) k4_139 cs_X5_less [] (by decide) rfl ⟨by decide, by decide⟩ rfl rfl ⟨by decide, by decide⟩ rfl rfl (Nat.le_of_ble_eq_true rfl) dX5_wouldSee_34 ?_
      refine aw_icmp_gt C 44 dX5_wouldSee_37 (by decide) (fun c_37 => ?_) (fun c_37 => ?_)
      · skip
        refine aw_iconst C (0 : Int32) dX5_wouldSee_44 (by decide) ?_
        exact aw_bret C (b := false) hr hlk dX5_wouldSee_45 rfl ⟨rb (by simp [tSee, *]), by rfl⟩
      · skip
        refine aw_iconst C (1 : Int32) dX5_wouldSee_40 (by decide) ?_
        refine aw_pc 41 rfl ?_
        refine aw_goto C 45 dX5_wouldSee_41 (by decide) ?_
        exact aw_bret C (b := true) hr hlk dX5_wouldSee_45 rfl ⟨rb (by simp [tSee, *]), by rfl⟩
abbrev r_X5_meets : Room := { frames := 2, cells := 0, slots := 0, locals := 45 }
theorem cv_X5_meets : cV yX5_meets cX5_meets 3 none 2 := ⟨k4_193, k0_44, k4_194, k1_6, by decide, by decide, by decide +kernel⟩
set_option maxHeartbeats 4000000 in
set_option maxRecDepth 100000 in
theorem c_X5_meets (l : Launch) (D : va_G) (cI cC : ClassId) (adK adV : Nat → Nat) (y : Nat → Nat) (T : Tw) (X : Mr) (u : Nat) (v : Nat) (hu : u < 8) (hv : v < 8) : FC l yX5_meets (wW yX5_meets cX5_meets 3 none) r_X5_meets D (tyC cI cC) adK adV (wMo cI cC y (rowOf T) X) [.ref (y 0), .int (nI u), .int (nI v)] 0 0 (fQ none (wMo cI cC y (rowOf (tMeets T u v)) X)) := by
  refine FC.of (own := RX5) (by decide) rfl (Nat.le_of_ble_eq_true rfl) ?_
  intro p9 e9 s9 m9 args9 below9 meth9 c9 A9 C hr hlk hmn
  show AW p9 l e9 r_X5_meets s9 m9 args9 below9 meth9 c9 D A9 3 0 0 _ 0 [(0, .ref (y 0)), (1, .int (nI u)), (2, .int (nI v))] [] _
  refine aw_aload_n C dX5_meets_0 rfl ?_
  refine aw_iload_n C dX5_meets_1 rfl ?_
  refine aw_aload_n C dX5_meets_2 rfl ?_
  refine aw_iload_n C dX5_meets_3 rfl ?_
  refine aw_iconst C (2 : Int32) dX5_meets_4 (by decide) ?_
  refine aw_callVp C (As := [.int (nI v), .int (2 : Int32)]) (c_X5_get l D cI cC adK adV y T X v 2 (by omega) (by decide)) k4_85 cv_X5_get 0 4 rfl rfl rfl [0, 1, 2, 3, 4, 5, 6, 7, 8, 9, 10, 11, 12] (by decide) rfl ⟨by decide, by decide⟩ rfl rfl ⟨by decide, by decide⟩ rfl rfl (Nat.le_of_ble_eq_true rfl) dX5_meets_5 ?_
  refine aw_callVp C (As := [.int (nI u), .int (T.2.2.1 2 v)]) (c_X5_mindsOf l D cI cC adK adV y T X u (T.2.2.1 2 v) (by omega)) k4_123 cv_X5_mindsOf 0 4 rfl rfl rfl [0, 1, 2, 3, 4, 5, 6, 7, 8, 9, 10, 11, 12] (by decide) rfl ⟨by decide, by decide⟩ rfl rfl ⟨by decide, by decide⟩ rfl rfl (Nat.le_of_ble_eq_true rfl) dX5_meets_8 ?_
  refine aw_ifeq_b C 30 dX5_meets_11 (by decide) (fun c_11 => ?_) (fun c_11 => ?_)
  · skip
    exact aw_vret C hr hlk dX5_meets_30 ⟨rfl, by have cc : tMind T u (T.2.2.1 2 v) = _ := c_11; simp only [tMeets, bitOf, cc, cond_true, cond_false] <;> first | done | rfl⟩
  · skip
    refine aw_pc 14 rfl ?_
    refine aw_aload_n C dX5_meets_14 rfl ?_
    refine aw_iload_n C dX5_meets_15 rfl ?_
    refine aw_iconst C (3 : Int32) dX5_meets_16 (by decide) ?_
    refine aw_aload_n C dX5_meets_17 rfl ?_
    refine aw_iload_n C dX5_meets_18 rfl ?_
    refine aw_iconst C (3 : Int32) dX5_meets_19 (by decide) ?_
    refine aw_callVp C (As := [.int (nI u), .int (3 : Int32)]) (c_X5_get l D cI cC adK adV y T X u 3 (by omega) (by decide)) k4_85 cv_X5_get 0 4 rfl rfl rfl [0, 1, 2, 3, 4, 5, 6, 7, 8, 9, 10, 11, 12] (by decide) rfl ⟨by decide, by decide⟩ rfl rfl ⟨by decide, by decide⟩ rfl rfl (Nat.le_of_ble_eq_true rfl) dX5_meets_20 ?_
    refine aw_iconst C (1 : Int32) dX5_meets_23 (by decide) ?_
    refine aw_iload_n C dX5_meets_24 rfl ?_
    refine aw_ishl C dX5_meets_25 ?_
    refine aw_pc 26 rfl ?_
    refine aw_ior C dX5_meets_26 ?_
    refine aw_callVdv C (As := [.int (nI u), .int (3 : Int32), .int ((T.2.2.1 3 u) ||| ((1 : Int32) <<< ((nI v) &&& 31)))]) (c_X5_puts l D cI cC adK adV y T X u 3 ((T.2.2.1 3 u) ||| ((1 : Int32) <<< ((nI v) &&& 31))) (by omega) (by decide)) k4_69 cv_X5_puts 0 4 rfl rfl rfl [0, 1, 2, 3, 4, 5, 6, 7, 8, 9, 10, 11, 12] (by decide) rfl (wr := ([] : va_W)) [] rfl (by decide) (by decide) [0, 1, 2, 3, 4, 5, 6, 7, 8, 9, 10, 11, 12] (by decide) (ws' := wMo cI cC y (rowOf (sP T 3 u ((T.2.2.1 3 u) ||| ((1 : Int32) <<< ((nI v) &&& 31))))) X) rfl ⟨by decide, by decide⟩ rfl rfl ⟨by decide, by decide⟩ rfl rfl (Nat.le_of_ble_eq_true rfl) dX5_meets_27 ?_
    exact aw_vret C hr hlk dX5_meets_30 ⟨rfl, by have cc : tMind T u (T.2.2.1 2 v) = _ := c_11; simp only [tMeets, bitOf, cc, cond_true, cond_false] <;> first | done | rfl⟩
abbrev r_X5_comesToKnow : Room := { frames := 2, cells := 0, slots := 0, locals := 44 }
theorem cv_X5_comesToKnow : cV yX5_comesToKnow cX5_comesToKnow 3 none 2 := ⟨k4_185, k0_42, k4_186, k1_6, by decide, by decide, by decide +kernel⟩
set_option maxHeartbeats 4000000 in
set_option maxRecDepth 100000 in
theorem c_X5_comesToKnow (l : Launch) (D : va_G) (cI cC : ClassId) (adK adV : Nat → Nat) (y : Nat → Nat) (T : Tw) (X : Mr) (u : Nat) (v : Nat) (hu : u < 8) (hv : v < 8) (ho : gOk T) : FC l yX5_comesToKnow (wW yX5_comesToKnow cX5_comesToKnow 3 none) r_X5_comesToKnow D (tyC cI cC) adK adV (wMo cI cC y (rowOf T) X) [.ref (y 0), .int (nI u), .int (nI v)] 0 0 (fQ none (wMo cI cC y (rowOf (tCtk T u v)) X)) := by
  refine FC.of (own := RX5) (by decide) rfl (Nat.le_of_ble_eq_true rfl) ?_
  intro p9 e9 s9 m9 args9 below9 meth9 c9 A9 C hr hlk hmn
  show AW p9 l e9 r_X5_comesToKnow s9 m9 args9 below9 meth9 c9 D A9 3 0 0 _ 0 [(0, .ref (y 0)), (1, .int (nI u)), (2, .int (nI v))] [] _
  refine aw_aload_n C dX5_comesToKnow_0 rfl ?_
  refine aw_iload_n C dX5_comesToKnow_1 rfl ?_
  refine aw_iload_n C dX5_comesToKnow_2 rfl ?_
  refine aw_callVp C (As := [.int (nI u), .int (nI v)]) (c_X5_doesKnow l D cI cC adK adV y T X u v (by omega)) k4_154 cv_X5_doesKnow 0 4 rfl rfl rfl [0, 1, 2, 3, 4, 5, 6, 7, 8, 9, 10, 11, 12] (by decide) rfl ⟨by decide, by decide⟩ rfl rfl ⟨by decide, by decide⟩ rfl rfl (Nat.le_of_ble_eq_true rfl) dX5_comesToKnow_3 ?_
  refine aw_ifne_b C 48 dX5_comesToKnow_6 (by decide) (fun c_6 => ?_) (fun c_6 => ?_)
  · skip
    exact aw_vret C hr hlk dX5_comesToKnow_48 ⟨rfl, by have cc : tKno T u v = _ := c_6; simp only [tCtk, cc, cond_true, cond_false] <;> first | done | rfl⟩
  · skip
    refine aw_aload_n C dX5_comesToKnow_9 rfl ?_
    refine aw_getf C 0 4 0 18 inX5 rfl (by decide) rfl k3_234 rfl rfl dX5_comesToKnow_10 ?_
    refine aw_iconst C (3 : Int32) dX5_comesToKnow_13 (by decide) ?_
    refine aw_pc 14 rfl ?_
    refine aw_ldc C k4_166 dX5_comesToKnow_14 ?_
    refine aw_aload_n C dX5_comesToKnow_16 rfl ?_
    refine aw_getf C 0 4 0 18 inX5 rfl (by decide) rfl k3_234 rfl rfl dX5_comesToKnow_17 ?_
    refine aw_iconst C (3 : Int32) dX5_comesToKnow_20 (by decide) ?_
    refine aw_ialdN C 1 0 3 rfl rfl rfl (by decide) (by decide) dX5_comesToKnow_21 ?_
    refine aw_top (y := (T.2.1 3)) rfl ?_
    refine aw_aload_n C dX5_comesToKnow_22 rfl ?_
    refine aw_iload_n C dX5_comesToKnow_23 rfl ?_
    refine aw_callVp C (As := [.int (nI u)]) (c_X5_gladdensOf l D cI cC adK adV y T X u (by omega) ho) k4_101 cv_X5_gladdensOf 0 4 rfl rfl rfl [0, 1, 2, 3, 4, 5, 6, 7, 8, 9, 10, 11, 12] (by decide) rfl ⟨by decide, by decide⟩ rfl rfl ⟨by decide, by decide⟩ rfl rfl (Nat.le_of_ble_eq_true rfl) dX5_comesToKnow_24 ?_
    refine aw_iadd C dX5_comesToKnow_27 ?_
    refine aw_callSp C (As := [.int (99999 : Int32), .int ((T.2.1 3) + (tGlad T u))]) (c_X5_less l D cI cC adK adV (99999 : Int32) ((T.2.1 3) + (tGlad T u))) k4_139 cs_X5_less [] (by decide) rfl ⟨by decide, by decide⟩ rfl rfl ⟨by decide, by decide⟩ rfl rfl (Nat.le_of_ble_eq_true rfl) dX5_comesToKnow_28 ?_
    refine aw_pc 31 rfl ?_
    refine aw_iastN C 1 0 3 rfl rfl rfl (by decide) (by decide) (ws' := wMo cI cC y (upd (rowOf T) 3 (mn (99999 : Int32) ((T.2.1 3) + (tGlad T u)))) X) rfl dX5_comesToKnow_31 ?_
    refine aw_eq (lv' := [(0, .ref (y 0)), (1, .int (nI u)), (2, .int (nI v))]) (ws' := wMo cI cC y (rowOf (sG T 3 (mn (99999 : Int32) ((T.2.1 3) + (tGlad T u))))) X) rfl rfl (by rw [row_G3]) ?_
    refine aw_aload_n C dX5_comesToKnow_32 rfl ?_
    refine aw_iload_n C dX5_comesToKnow_33 rfl ?_
    refine aw_iconst C (4 : Int32) dX5_comesToKnow_34 (by decide) ?_
    refine aw_aload_n C dX5_comesToKnow_35 rfl ?_
    refine aw_iload_n C dX5_comesToKnow_36 rfl ?_
    refine aw_iconst C (4 : Int32) dX5_comesToKnow_37 (by decide) ?_
    refine aw_callVp C (As := [.int (nI u), .int (4 : Int32)]) (c_X5_get l D cI cC adK adV y (sG T 3 (mn (99999 : Int32) ((T.2.1 3) + (tGlad T u)))) X u 4 (by omega) (by decide)) k4_85 cv_X5_get 0 4 rfl rfl rfl [0, 1, 2, 3, 4, 5, 6, 7, 8, 9, 10, 11, 12] (by decide) rfl ⟨by decide, by decide⟩ rfl rfl ⟨by decide, by decide⟩ rfl rfl (Nat.le_of_ble_eq_true rfl) dX5_comesToKnow_38 ?_
    refine aw_iconst C (1 : Int32) dX5_comesToKnow_41 (by decide) ?_
    refine aw_iload_n C dX5_comesToKnow_42 rfl ?_
    refine aw_pc 43 rfl ?_
    refine aw_ishl C dX5_comesToKnow_43 ?_
    refine aw_ior C dX5_comesToKnow_44 ?_
    refine aw_callVdv C (As := [.int (nI u), .int (4 : Int32), .int (((sG T 3 (mn (99999 : Int32) ((T.2.1 3) + (tGlad T u)))).2.2.1 4 u) ||| ((1 : Int32) <<< ((nI v) &&& 31)))]) (c_X5_puts l D cI cC adK adV y (sG T 3 (mn (99999 : Int32) ((T.2.1 3) + (tGlad T u)))) X u 4 (((sG T 3 (mn (99999 : Int32) ((T.2.1 3) + (tGlad T u)))).2.2.1 4 u) ||| ((1 : Int32) <<< ((nI v) &&& 31))) (by omega) (by decide)) k4_69 cv_X5_puts 0 4 rfl rfl rfl [0, 1, 2, 3, 4, 5, 6, 7, 8, 9, 10, 11, 12] (by decide) rfl (wr := ([] : va_W)) [] rfl (by decide) (by decide) [0, 1, 2, 3, 4, 5, 6, 7, 8, 9, 10, 11, 12] (by decide) (ws' := wMo cI cC y (rowOf (sP (sG T 3 (mn (99999 : Int32) ((T.2.1 3) + (tGlad T u)))) 4 u (((sG T 3 (mn (99999 : Int32) ((T.2.1 3) + (tGlad T u)))).2.2.1 4 u) ||| ((1 : Int32) <<< ((nI v) &&& 31))))) X) rfl ⟨by decide, by decide⟩ rfl rfl ⟨by decide, by decide⟩ rfl rfl (Nat.le_of_ble_eq_true rfl) dX5_comesToKnow_45 ?_
    exact aw_vret C hr hlk dX5_comesToKnow_48 ⟨rfl, by have cc : tKno T u v = _ := c_6; simp only [tCtk, cc, cond_true, cond_false] <;> first | done | rfl⟩
abbrev r_X5_passesBy : Room := { frames := 1, cells := 0, slots := 0, locals := 23 }
theorem cv_X5_passesBy : cV yX5_passesBy cX5_passesBy 2 none 1 := ⟨k4_189, k0_43, k4_190, k1_6, by decide, by decide, by decide +kernel⟩
set_option maxHeartbeats 4000000 in
set_option maxRecDepth 100000 in
theorem c_X5_passesBy (l : Launch) (D : va_G) (cI cC : ClassId) (adK adV : Nat → Nat) (y : Nat → Nat) (T : Tw) (X : Mr) (u : Nat) (hu : u < 8) : FC l yX5_passesBy (wW yX5_passesBy cX5_passesBy 2 none) r_X5_passesBy D (tyC cI cC) adK adV (wMo cI cC y (rowOf T) X) [.ref (y 0), .int (nI u)] 0 0 (fQ none (wMo cI cC y (rowOf (tPby T u)) X)) := by
  refine FC.of (own := RX5) (by decide) rfl (Nat.le_of_ble_eq_true rfl) ?_
  intro p9 e9 s9 m9 args9 below9 meth9 c9 A9 C hr hlk hmn
  show AW p9 l e9 r_X5_passesBy s9 m9 args9 below9 meth9 c9 D A9 2 0 0 _ 0 [(0, .ref (y 0)), (1, .int (nI u))] [] _
  refine aw_aload_n C dX5_passesBy_0 rfl ?_
  refine aw_iload_n C dX5_passesBy_1 rfl ?_
  refine aw_bipush C (6 : Int32) dX5_passesBy_2 (by decide) ?_
  refine aw_sipush C (9999 : Int32) dX5_passesBy_4 (by decide) ?_
  refine aw_aload_n C dX5_passesBy_7 rfl ?_
  refine aw_iload_n C dX5_passesBy_8 rfl ?_
  refine aw_bipush C (6 : Int32) dX5_passesBy_9 (by decide) ?_
  refine aw_callVp C (As := [.int (nI u), .int (6 : Int32)]) (c_X5_get l D cI cC adK adV y T X u 6 (by omega) (by decide)) k4_85 cv_X5_get 0 4 rfl rfl rfl [0, 1, 2, 3, 4, 5, 6, 7, 8, 9, 10, 11, 12] (by decide) rfl ⟨by decide, by decide⟩ rfl rfl ⟨by decide, by decide⟩ rfl rfl (Nat.le_of_ble_eq_true rfl) dX5_passesBy_11 ?_
  refine aw_iconst C (1 : Int32) dX5_passesBy_14 (by decide) ?_
  refine aw_pc 15 rfl ?_
  refine aw_iadd C dX5_passesBy_15 ?_
  refine aw_callSp C (As := [.int (9999 : Int32), .int ((T.2.2.1 6 u) + (1 : Int32))]) (c_X5_less l D cI cC adK adV (9999 : Int32) ((T.2.2.1 6 u) + (1 : Int32))) k4_139 cs_X5_less [] (by decide) rfl ⟨by decide, by decide⟩ rfl rfl ⟨by decide, by decide⟩ rfl rfl (Nat.le_of_ble_eq_true rfl) dX5_passesBy_16 ?_
  refine aw_callVdv C (As := [.int (nI u), .int (6 : Int32), .int (mn (9999 : Int32) ((T.2.2.1 6 u) + (1 : Int32)))]) (c_X5_puts l D cI cC adK adV y T X u 6 (mn (9999 : Int32) ((T.2.2.1 6 u) + (1 : Int32))) (by omega) (by decide)) k4_69 cv_X5_puts 0 4 rfl rfl rfl [0, 1, 2, 3, 4, 5, 6, 7, 8, 9, 10, 11, 12] (by decide) rfl (wr := ([] : va_W)) [] rfl (by decide) (by decide) [0, 1, 2, 3, 4, 5, 6, 7, 8, 9, 10, 11, 12] (by decide) (ws' := wMo cI cC y (rowOf (sP T 6 u (mn (9999 : Int32) ((T.2.2.1 6 u) + (1 : Int32))))) X) rfl ⟨by decide, by decide⟩ rfl rfl ⟨by decide, by decide⟩ rfl rfl (Nat.le_of_ble_eq_true rfl) dX5_passesBy_19 ?_
  exact aw_vret C hr hlk dX5_passesBy_22 ⟨rfl, by rfl⟩
abbrev r_X5_barefaced : Room := { frames := 3, cells := 0, slots := 0, locals := 67 }
theorem cv_X5_barefaced : cV yX5_barefaced cX5_barefaced 3 none 2 := ⟨k4_181, k0_41, k4_182, k1_6, by decide, by decide, by decide +kernel⟩
set_option maxHeartbeats 4000000 in
set_option maxRecDepth 100000 in
theorem c_X5_barefaced (l : Launch) (D : va_G) (cI cC : ClassId) (adK adV : Nat → Nat) (y : Nat → Nat) (T : Tw) (X : Mr) (u : Nat) (v : Nat) (hu : u < T.1) (hv : v < T.1) (ho : gOk T) : FC l yX5_barefaced (wW yX5_barefaced cX5_barefaced 3 none) r_X5_barefaced D (tyC cI cC) adK adV (wMo cI cC y (rowOf T) X) [.ref (y 0), .int (nI u), .int (nI v)] 0 0 (fQ none (wMo cI cC y (rowOf (tBare T u v)) X)) := by
  refine FC.of (own := RX5) (by decide) rfl (Nat.le_of_ble_eq_true rfl) ?_
  intro p9 e9 s9 m9 args9 below9 meth9 c9 A9 C hr hlk hmn
  show AW p9 l e9 r_X5_barefaced s9 m9 args9 below9 meth9 c9 D A9 3 0 0 _ 0 [(0, .ref (y 0)), (1, .int (nI u)), (2, .int (nI v))] [] _
  have hn := ho.n
  refine aw_aload_n C dX5_barefaced_0 rfl ?_
  refine aw_iload_n C dX5_barefaced_1 rfl ?_
  refine aw_iload_n C dX5_barefaced_2 rfl ?_
  refine aw_callVp C (As := [.int (nI u), .int (nI v)]) (c_X5_wouldSee l D cI cC adK adV y T X u v (by omega) (by omega) ho) k4_158 cv_X5_wouldSee 0 4 rfl rfl rfl [0, 1, 2, 3, 4, 5, 6, 7, 8, 9, 10, 11, 12] (by decide) rfl ⟨by decide, by decide⟩ rfl rfl ⟨by decide, by decide⟩ rfl rfl (Nat.le_of_ble_eq_true rfl) dX5_barefaced_3 ?_
  refine aw_ifne_b C 10 dX5_barefaced_6 (by decide) (fun c_6 => ?_) (fun c_6 => ?_)
  · skip
    refine aw_aload_n C dX5_barefaced_10 rfl ?_
    refine aw_iload_n C dX5_barefaced_11 rfl ?_
    refine aw_iload_n C dX5_barefaced_12 rfl ?_
    refine aw_callVp C (As := [.int (nI u), .int (nI v)]) (c_X5_hasMet l D cI cC adK adV y T X u v (by omega)) k4_150 cv_X5_hasMet 0 4 rfl rfl rfl [0, 1, 2, 3, 4, 5, 6, 7, 8, 9, 10, 11, 12] (by decide) rfl ⟨by decide, by decide⟩ rfl rfl ⟨by decide, by decide⟩ rfl rfl (Nat.le_of_ble_eq_true rfl) dX5_barefaced_13 ?_
    refine aw_pc 16 rfl ?_
    refine aw_ifeq_b C 43 dX5_barefaced_16 (by decide) (fun c_16 => ?_) (fun c_16 => ?_)
    · skip
      refine aw_aload_n C dX5_barefaced_43 rfl ?_
      refine aw_iload_n C dX5_barefaced_44 rfl ?_
      refine aw_callVdv C (As := [.int (nI u)]) (c_X5_passesBy l D cI cC adK adV y T X u (by omega)) k4_187 cv_X5_passesBy 0 4 rfl rfl rfl [0, 1, 2, 3, 4, 5, 6, 7, 8, 9, 10, 11, 12] (by decide) rfl (wr := ([] : va_W)) [] rfl (by decide) (by decide) [0, 1, 2, 3, 4, 5, 6, 7, 8, 9, 10, 11, 12] (by decide) (ws' := wMo cI cC y (rowOf (tPby T u)) X) rfl ⟨by decide, by decide⟩ rfl rfl ⟨by decide, by decide⟩ rfl rfl (Nat.le_of_ble_eq_true rfl) dX5_barefaced_45 ?_
      refine aw_aload_n C dX5_barefaced_48 rfl ?_
      refine aw_iload_n C dX5_barefaced_49 rfl ?_
      refine aw_callVdv C (As := [.int (nI v)]) (c_X5_passesBy l D cI cC adK adV y (tPby T u) X v (by omega)) k4_187 cv_X5_passesBy 0 4 rfl rfl rfl [0, 1, 2, 3, 4, 5, 6, 7, 8, 9, 10, 11, 12] (by decide) rfl (wr := ([] : va_W)) [] rfl (by decide) (by decide) [0, 1, 2, 3, 4, 5, 6, 7, 8, 9, 10, 11, 12] (by decide) (ws' := wMo cI cC y (rowOf (tPby (tPby T u) v)) X) rfl ⟨by decide, by decide⟩ rfl rfl ⟨by decide, by decide⟩ rfl rfl (Nat.le_of_ble_eq_true rfl) dX5_barefaced_50 ?_
      exact aw_vret C hr hlk dX5_barefaced_53 ⟨rfl, by simp only [tBare, mut_met, cond_true, cond_false, Bool.and_true, Bool.true_and, Bool.and_false, Bool.false_and, c_6, c_16] <;> first | done | rfl⟩
    · skip
      refine aw_aload_n C dX5_barefaced_19 rfl ?_
      refine aw_iload_n C dX5_barefaced_20 rfl ?_
      refine aw_pc 21 rfl ?_
      refine aw_iload_n C dX5_barefaced_21 rfl ?_
      refine aw_callVp C (As := [.int (nI v), .int (nI u)]) (c_X5_hasMet l D cI cC adK adV y T X v u (by omega)) k4_150 cv_X5_hasMet 0 4 rfl rfl rfl [0, 1, 2, 3, 4, 5, 6, 7, 8, 9, 10, 11, 12] (by decide) rfl ⟨by decide, by decide⟩ rfl rfl ⟨by decide, by decide⟩ rfl rfl (Nat.le_of_ble_eq_true rfl) dX5_barefaced_22 ?_
      refine aw_ifeq_b C 43 dX5_barefaced_25 (by decide) (fun c_25 => ?_) (fun c_25 => ?_)
      · skip
        refine aw_aload_n C dX5_barefaced_43 rfl ?_
        refine aw_iload_n C dX5_barefaced_44 rfl ?_
        refine aw_callVdv C (As := [.int (nI u)]) (c_X5_passesBy l D cI cC adK adV y T X u (by omega)) k4_187 cv_X5_passesBy 0 4 rfl rfl rfl [0, 1, 2, 3, 4, 5, 6, 7, 8, 9, 10, 11, 12] (by decide) rfl (wr := ([] : va_W)) [] rfl (by decide) (by decide) [0, 1, 2, 3, 4, 5, 6, 7, 8, 9, 10, 11, 12] (by decide) (ws' := wMo cI cC y (rowOf (tPby T u)) X) rfl ⟨by decide, by decide⟩ rfl rfl ⟨by decide, by decide⟩ rfl rfl (Nat.le_of_ble_eq_true rfl) dX5_barefaced_45 ?_
        refine aw_aload_n C dX5_barefaced_48 rfl ?_
        refine aw_iload_n C dX5_barefaced_49 rfl ?_
        refine aw_callVdv C (As := [.int (nI v)]) (c_X5_passesBy l D cI cC adK adV y (tPby T u) X v (by omega)) k4_187 cv_X5_passesBy 0 4 rfl rfl rfl [0, 1, 2, 3, 4, 5, 6, 7, 8, 9, 10, 11, 12] (by decide) rfl (wr := ([] : va_W)) [] rfl (by decide) (by decide) [0, 1, 2, 3, 4, 5, 6, 7, 8, 9, 10, 11, 12] (by decide) (ws' := wMo cI cC y (rowOf (tPby (tPby T u) v)) X) rfl ⟨by decide, by decide⟩ rfl rfl ⟨by decide, by decide⟩ rfl rfl (Nat.le_of_ble_eq_true rfl) dX5_barefaced_50 ?_
        exact aw_vret C hr hlk dX5_barefaced_53 ⟨rfl, by simp only [tBare, mut_met, cond_true, cond_false, Bool.and_true, Bool.true_and, Bool.and_false, Bool.false_and, c_6, c_16, c_25] <;> first | done | rfl⟩
      · skip
        refine aw_pc 28 rfl ?_
        refine aw_aload_n C dX5_barefaced_28 rfl ?_
        refine aw_iload_n C dX5_barefaced_29 rfl ?_
        refine aw_iload_n C dX5_barefaced_30 rfl ?_
        refine aw_callVdv C (As := [.int (nI u), .int (nI v)]) (c_X5_comesToKnow l D cI cC adK adV y T X u v (by omega) (by omega) ho) k4_183 cv_X5_comesToKnow 0 4 rfl rfl rfl [0, 1, 2, 3, 4, 5, 6, 7, 8, 9, 10, 11, 12] (by decide) rfl (wr := ([] : va_W)) [] rfl (by decide) (by decide) [0, 1, 2, 3, 4, 5, 6, 7, 8, 9, 10, 11, 12] (by decide) (ws' := wMo cI cC y (rowOf (tCtk T u v)) X) rfl ⟨by decide, by decide⟩ rfl rfl ⟨by decide, by decide⟩ rfl rfl (Nat.le_of_ble_eq_true rfl) dX5_barefaced_31 ?_
        refine aw_aload_n C dX5_barefaced_34 rfl ?_
        refine aw_iload_n C dX5_barefaced_35 rfl ?_
        refine aw_iload_n C dX5_barefaced_36 rfl ?_
        refine aw_callVdv C (As := [.int (nI v), .int (nI u)]) (c_X5_comesToKnow l D cI cC adK adV y (tCtk T u v) X v u (by omega) (by omega) (ctk_ok ho hu hv)) k4_183 cv_X5_comesToKnow 0 4 rfl rfl rfl [0, 1, 2, 3, 4, 5, 6, 7, 8, 9, 10, 11, 12] (by decide) rfl (wr := ([] : va_W)) [] rfl (by decide) (by decide) [0, 1, 2, 3, 4, 5, 6, 7, 8, 9, 10, 11, 12] (by decide) (ws' := wMo cI cC y (rowOf (tCtk (tCtk T u v) v u)) X) rfl ⟨by decide, by decide⟩ rfl rfl ⟨by decide, by decide⟩ rfl rfl (Nat.le_of_ble_eq_true rfl) dX5_barefaced_37 ?_
        refine aw_goto C 53 dX5_barefaced_40 (by decide) ?_
        exact aw_vret C hr hlk dX5_barefaced_53 ⟨rfl, by simp only [tBare, mut_met, cond_true, cond_false, Bool.and_true, Bool.true_and, Bool.and_false, Bool.false_and, c_6, c_16, c_25] <;> first | done | rfl⟩
  · skip
    refine aw_pc 9 rfl ?_
    exact aw_vret C hr hlk dX5_barefaced_9 ⟨rfl, by simp only [tBare, mut_met, cond_true, cond_false, Bool.and_true, Bool.true_and, Bool.and_false, Bool.false_and, c_6] <;> first | done | rfl⟩
abbrev r_X5_goesOn : Room := { frames := 2, cells := 0, slots := 0, locals := 44 }
theorem cv_X5_goesOn : cV yX5_goesOn cX5_goesOn 3 none 2 := ⟨k4_177, k0_40, k4_178, k1_6, by decide, by decide, by decide +kernel⟩
set_option maxHeartbeats 4000000 in
set_option maxRecDepth 100000 in
theorem c_X5_goesOn (l : Launch) (D : va_G) (cI cC : ClassId) (adK adV : Nat → Nat) (y : Nat → Nat) (T : Tw) (X : Mr) (q : Nat) (b : Bool) (hq : q < 8) : FC l yX5_goesOn (wW yX5_goesOn cX5_goesOn 3 none) r_X5_goesOn D (tyC cI cC) adK adV (wMo cI cC y (rowOf T) X) [.ref (y 0), .int (nI q), .int (b2 b)] 0 0 (fQ none (wMo cI cC y (rowOf (tGoes T b q)) X)) := by
  refine FC.of (own := RX5) (by decide) rfl (Nat.le_of_ble_eq_true rfl) ?_
  intro p9 e9 s9 m9 args9 below9 meth9 c9 A9 C hr hlk hmn
  show AW p9 l e9 r_X5_goesOn s9 m9 args9 below9 meth9 c9 D A9 3 0 0 _ 0 [(0, .ref (y 0)), (1, .int (nI q)), (2, .int (b2 b))] [] _
  refine aw_aload_n C dX5_goesOn_0 rfl ?_
  refine aw_iload_n C dX5_goesOn_1 rfl ?_
  refine aw_iconst C (1 : Int32) dX5_goesOn_2 (by decide) ?_
  refine aw_aload_n C dX5_goesOn_3 rfl ?_
  refine aw_iload_n C dX5_goesOn_4 rfl ?_
  refine aw_iconst C (1 : Int32) dX5_goesOn_5 (by decide) ?_
  refine aw_callVp C (As := [.int (nI q), .int (1 : Int32)]) (c_X5_get l D cI cC adK adV y T X q 1 (by omega) (by decide)) k4_85 cv_X5_get 0 4 rfl rfl rfl [0, 1, 2, 3, 4, 5, 6, 7, 8, 9, 10, 11, 12] (by decide) rfl ⟨by decide, by decide⟩ rfl rfl ⟨by decide, by decide⟩ rfl rfl (Nat.le_of_ble_eq_true rfl) dX5_goesOn_6 ?_
  refine aw_aload_n C dX5_goesOn_9 rfl ?_
  refine aw_iload_n C dX5_goesOn_10 rfl ?_
  refine aw_pc 11 rfl ?_
  refine aw_callVp C (As := [.int (nI q)]) (c_X5_walksOf l D cI cC adK adV y T X q (by omega)) k4_81 cv_X5_walksOf 0 4 rfl rfl rfl [0, 1, 2, 3, 4, 5, 6, 7, 8, 9, 10, 11, 12] (by decide) rfl ⟨by decide, by decide⟩ rfl rfl ⟨by decide, by decide⟩ rfl rfl (Nat.le_of_ble_eq_true rfl) dX5_goesOn_11 ?_
  refine aw_iadd C dX5_goesOn_14 ?_
  refine aw_bipush C (16 : Int32) dX5_goesOn_15 (by decide) ?_
  refine aw_irem C dX5_goesOn_17 (by decide) ?_
  refine aw_callVdv C (As := [.int (nI q), .int (1 : Int32), .int (ir ((T.2.2.1 1 q) + (mWalk (T.2.2.1 0 q) (T.2.1 0))) (16 : Int32))]) (c_X5_puts l D cI cC adK adV y T X q 1 (ir ((T.2.2.1 1 q) + (mWalk (T.2.2.1 0 q) (T.2.1 0))) (16 : Int32)) (by omega) (by decide)) k4_69 cv_X5_puts 0 4 rfl rfl rfl [0, 1, 2, 3, 4, 5, 6, 7, 8, 9, 10, 11, 12] (by decide) rfl (wr := ([] : va_W)) [] rfl (by decide) (by decide) [0, 1, 2, 3, 4, 5, 6, 7, 8, 9, 10, 11, 12] (by decide) (ws' := wMo cI cC y (rowOf (sP T 1 q (ir ((T.2.2.1 1 q) + (mWalk (T.2.2.1 0 q) (T.2.1 0))) (16 : Int32)))) X) rfl ⟨by decide, by decide⟩ rfl rfl ⟨by decide, by decide⟩ rfl rfl (Nat.le_of_ble_eq_true rfl) dX5_goesOn_18 ?_
  refine aw_aload_n C dX5_goesOn_21 rfl ?_
  refine aw_iload_n C dX5_goesOn_22 rfl ?_
  refine aw_iconst C (2 : Int32) dX5_goesOn_23 (by decide) ?_
  refine aw_iload_n C dX5_goesOn_24 rfl ?_
  refine aw_ifeq_b C 37 dX5_goesOn_25 (by decide) (fun c_25 => ?_) (fun c_25 => ?_)
  · skip
    refine aw_pc 37 rfl ?_
    refine aw_aload_n C dX5_goesOn_37 rfl ?_
    refine aw_iload_n C dX5_goesOn_38 rfl ?_
    refine aw_iconst C (2 : Int32) dX5_goesOn_39 (by decide) ?_
    refine aw_callVp C (As := [.int (nI q), .int (2 : Int32)]) (c_X5_get l D cI cC adK adV y (sP T 1 q (ir ((T.2.2.1 1 q) + (mWalk (T.2.2.1 0 q) (T.2.1 0))) (16 : Int32))) X q 2 (by omega) (by decide)) k4_85 cv_X5_get 0 4 rfl rfl rfl [0, 1, 2, 3, 4, 5, 6, 7, 8, 9, 10, 11, 12] (by decide) rfl ⟨by decide, by decide⟩ rfl rfl ⟨by decide, by decide⟩ rfl rfl (Nat.le_of_ble_eq_true rfl) dX5_goesOn_40 ?_
    refine aw_aload_n C dX5_goesOn_43 rfl ?_
    refine aw_iload_n C dX5_goesOn_44 rfl ?_
    refine aw_callVp C (As := [.int (nI q)]) (c_X5_shiftsOf l D cI cC adK adV y (sP T 1 q (ir ((T.2.2.1 1 q) + (mWalk (T.2.2.1 0 q) (T.2.1 0))) (16 : Int32))) X q (by omega)) k4_93 cv_X5_shiftsOf 0 4 rfl rfl rfl [0, 1, 2, 3, 4, 5, 6, 7, 8, 9, 10, 11, 12] (by decide) rfl ⟨by decide, by decide⟩ rfl rfl ⟨by decide, by decide⟩ rfl rfl (Nat.le_of_ble_eq_true rfl) dX5_goesOn_45 ?_
    refine aw_iadd C dX5_goesOn_48 ?_
    refine aw_bipush C (12 : Int32) dX5_goesOn_49 (by decide) ?_
    refine aw_irem C dX5_goesOn_51 (by decide) ?_
    refine aw_pc 52 rfl ?_
    refine aw_callVdv C (As := [.int (nI q), .int (2 : Int32), .int (ir (((sP T 1 q (ir ((T.2.2.1 1 q) + (mWalk (T.2.2.1 0 q) (T.2.1 0))) (16 : Int32))).2.2.1 2 q) + (mShift ((sP T 1 q (ir ((T.2.2.1 1 q) + (mWalk (T.2.2.1 0 q) (T.2.1 0))) (16 : Int32))).2.2.1 0 q) ((sP T 1 q (ir ((T.2.2.1 1 q) + (mWalk (T.2.2.1 0 q) (T.2.1 0))) (16 : Int32))).2.1 0))) (12 : Int32))]) (c_X5_puts l D cI cC adK adV y (sP T 1 q (ir ((T.2.2.1 1 q) + (mWalk (T.2.2.1 0 q) (T.2.1 0))) (16 : Int32))) X q 2 (ir (((sP T 1 q (ir ((T.2.2.1 1 q) + (mWalk (T.2.2.1 0 q) (T.2.1 0))) (16 : Int32))).2.2.1 2 q) + (mShift ((sP T 1 q (ir ((T.2.2.1 1 q) + (mWalk (T.2.2.1 0 q) (T.2.1 0))) (16 : Int32))).2.2.1 0 q) ((sP T 1 q (ir ((T.2.2.1 1 q) + (mWalk (T.2.2.1 0 q) (T.2.1 0))) (16 : Int32))).2.1 0))) (12 : Int32)) (by omega) (by decide)) k4_69 cv_X5_puts 0 4 rfl rfl rfl [0, 1, 2, 3, 4, 5, 6, 7, 8, 9, 10, 11, 12] (by decide) rfl (wr := ([] : va_W)) [] rfl (by decide) (by decide) [0, 1, 2, 3, 4, 5, 6, 7, 8, 9, 10, 11, 12] (by decide) (ws' := wMo cI cC y (rowOf (sP (sP T 1 q (ir ((T.2.2.1 1 q) + (mWalk (T.2.2.1 0 q) (T.2.1 0))) (16 : Int32))) 2 q (ir (((sP T 1 q (ir ((T.2.2.1 1 q) + (mWalk (T.2.2.1 0 q) (T.2.1 0))) (16 : Int32))).2.2.1 2 q) + (mShift ((sP T 1 q (ir ((T.2.2.1 1 q) + (mWalk (T.2.2.1 0 q) (T.2.1 0))) (16 : Int32))).2.2.1 0 q) ((sP T 1 q (ir ((T.2.2.1 1 q) + (mWalk (T.2.2.1 0 q) (T.2.1 0))) (16 : Int32))).2.1 0))) (12 : Int32)))) X) rfl ⟨by decide, by decide⟩ rfl rfl ⟨by decide, by decide⟩ rfl rfl (Nat.le_of_ble_eq_true rfl) dX5_goesOn_52 ?_
    exact aw_vret C hr hlk dX5_goesOn_55 ⟨rfl, by simp only [tGoes, c_25, cond_true, cond_false] <;> first | done | rfl | exact congrArg _ (congrArg _ (sP_id _ 2 q)) | (rw [sP_id]) ⟩
  · skip
    refine aw_aload_n C dX5_goesOn_28 rfl ?_
    refine aw_iload_n C dX5_goesOn_29 rfl ?_
    refine aw_iconst C (2 : Int32) dX5_goesOn_30 (by decide) ?_
    refine aw_callVp C (As := [.int (nI q), .int (2 : Int32)]) (c_X5_get l D cI cC adK adV y (sP T 1 q (ir ((T.2.2.1 1 q) + (mWalk (T.2.2.1 0 q) (T.2.1 0))) (16 : Int32))) X q 2 (by omega) (by decide)) k4_85 cv_X5_get 0 4 rfl rfl rfl [0, 1, 2, 3, 4, 5, 6, 7, 8, 9, 10, 11, 12] (by decide) rfl ⟨by decide, by decide⟩ rfl rfl ⟨by decide, by decide⟩ rfl rfl (Nat.le_of_ble_eq_true rfl) dX5_goesOn_31 ?_
    refine aw_goto C 52 dX5_goesOn_34 (by decide) ?_
    refine aw_callVdv C (As := [.int (nI q), .int (2 : Int32), .int ((sP T 1 q (ir ((T.2.2.1 1 q) + (mWalk (T.2.2.1 0 q) (T.2.1 0))) (16 : Int32))).2.2.1 2 q)]) (c_X5_puts l D cI cC adK adV y (sP T 1 q (ir ((T.2.2.1 1 q) + (mWalk (T.2.2.1 0 q) (T.2.1 0))) (16 : Int32))) X q 2 ((sP T 1 q (ir ((T.2.2.1 1 q) + (mWalk (T.2.2.1 0 q) (T.2.1 0))) (16 : Int32))).2.2.1 2 q) (by omega) (by decide)) k4_69 cv_X5_puts 0 4 rfl rfl rfl [0, 1, 2, 3, 4, 5, 6, 7, 8, 9, 10, 11, 12] (by decide) rfl (wr := ([] : va_W)) [] rfl (by decide) (by decide) [0, 1, 2, 3, 4, 5, 6, 7, 8, 9, 10, 11, 12] (by decide) (ws' := wMo cI cC y (rowOf (sP (sP T 1 q (ir ((T.2.2.1 1 q) + (mWalk (T.2.2.1 0 q) (T.2.1 0))) (16 : Int32))) 2 q ((sP T 1 q (ir ((T.2.2.1 1 q) + (mWalk (T.2.2.1 0 q) (T.2.1 0))) (16 : Int32))).2.2.1 2 q))) X) rfl ⟨by decide, by decide⟩ rfl rfl ⟨by decide, by decide⟩ rfl rfl (Nat.le_of_ble_eq_true rfl) dX5_goesOn_52 ?_
    exact aw_vret C hr hlk dX5_goesOn_55 ⟨rfl, by simp only [tGoes, c_25, cond_true, cond_false] <;> first | done | rfl | exact congrArg _ (congrArg _ (sP_id _ 2 q)) | (rw [sP_id]) ⟩
abbrev r_X5_day : Room := { frames := 4, cells := 0, slots := 0, locals := 89 }
theorem cv_X5_day : cV yX5_day cX5_day 4 none 0 := ⟨k4_173, k0_39, k4_174, k1_6, by decide, by decide, by decide +kernel⟩
set_option maxHeartbeats 4000000 in
set_option maxRecDepth 100000 in
theorem c_X5_day (l : Launch) (D : va_G) (cI cC : ClassId) (adK adV : Nat → Nat) (y : Nat → Nat) (T : Tw) (X : Mr) (ho : gOk T) : FC l yX5_day (wW yX5_day cX5_day 4 none) r_X5_day D (tyC cI cC) adK adV (wMo cI cC y (rowOf T) X) [.ref (y 0)] 0 0 (fQ none (wMo cI cC y (rowOf (tDay T)) X)) := by
  refine FC.of (own := RX5) (by decide) rfl (Nat.le_of_ble_eq_true rfl) ?_
  intro p9 e9 s9 m9 args9 below9 meth9 c9 A9 C hr hlk hmn
  show AW p9 l e9 r_X5_day s9 m9 args9 below9 meth9 c9 D A9 4 0 0 _ 0 [(0, .ref (y 0))] [] _
  have hn := ho.n
  refine aw_aload_n C dX5_day_0 rfl ?_
  refine aw_callVp C (As := []) (c_X5_isBare l D cI cC adK adV y T X ) k4_89 cv_X5_isBare 0 4 rfl rfl rfl [0, 1, 2, 3, 4, 5, 6, 7, 8, 9, 10, 11, 12] (by decide) rfl ⟨by decide, by decide⟩ rfl rfl ⟨by decide, by decide⟩ rfl rfl (Nat.le_of_ble_eq_true rfl) dX5_day_1 ?_
  refine aw_istore_n C true (lv' := [(0, .ref (y 0)), (1, .int (b2 (mBare (T.2.1 0))))]) dX5_day_4 (by decide) rfl rfl ?_
  refine aw_iconst C (0 : Int32) dX5_day_5 (by decide) ?_
  refine aw_istore_n C true (lv' := [(0, .ref (y 0)), (1, .int (b2 (mBare (T.2.1 0)))), (2, .int (0 : Int32))]) dX5_day_6 (by decide) rfl rfl ?_
  refine aw_eq (lv' := [(0, .ref (y 0)), (1, .int (b2 (mBare (T.2.1 0)))), (2, .int (nI 0))]) (ws' := wMo cI cC y (rowOf (itr (fun p U => tGoes U (mBare (T.2.1 0)) p) 0 T)) X) (by first | rfl | (simp only [itr])) rfl (by rfl) ?_
  refine aw_loop (LV := fun i0 => [(0, .ref (y 0)), (1, .int (b2 (mBare (T.2.1 0)))), (2, .int (nI i0))]) (WS := fun i0 => wMo cI cC y (rowOf (itr (fun p U => tGoes U (mBare (T.2.1 0)) p) i0 T)) X) T.1 (Inv := fun _ => True) trivial ?_ ?_
  · intro hv7
    refine aw_iload_n C dX5_day_7 rfl ?_
    refine aw_aload_n C dX5_day_8 rfl ?_
    refine aw_getf C 0 4 0 18 inX5 rfl (by decide) rfl k3_234 rfl rfl dX5_day_9 ?_
    refine aw_iconst C (1 : Int32) dX5_day_12 (by decide) ?_
    refine aw_pc 13 rfl ?_
    refine aw_ialdN C 1 0 1 rfl rfl rfl (by decide) (by decide) dX5_day_13 ?_
    refine aw_top (y := (nI (itr (fun p U => tGoes U (mBare (T.2.1 0)) p) T.1 T).1)) rfl ?_
    refine aw_top (y := (nI T.1)) (by rw [itr_n (fun _ _ => goes_n _ _ _)]) ?_
    refine aw_icmp_ge C 29 dX5_day_14 (by decide) (fun c_14 => ?_) (fun c_14 => absurd c_14 (fun z => z (Int32.le_refl _)))
    refine aw_iconst C (0 : Int32) dX5_day_29 (by decide) ?_
    refine aw_istore_n C false (lv' := [(0, .ref (y 0)), (1, .int (b2 (mBare (T.2.1 0)))), (2, .int (0 : Int32))]) dX5_day_30 (by decide) rfl rfl ?_
    refine aw_eq (lv' := [(0, .ref (y 0)), (1, .int (b2 (mBare (T.2.1 0)))), (2, .int (nI 0))]) (ws' := wMo cI cC y (rowOf (itr (fun a U => tRow (mBare (T.2.1 0)) T.1 a (T.1 - (a + 1)) U) 0 (itr (fun p U => tGoes U (mBare (T.2.1 0)) p) T.1 T))) X) (by first | rfl | (simp only [itr])) rfl (by rfl) ?_
    refine aw_loop (LV := fun i1 => [(0, .ref (y 0)), (1, .int (b2 (mBare (T.2.1 0)))), (2, .int (nI i1))]) (WS := fun i1 => wMo cI cC y (rowOf (itr (fun a U => tRow (mBare (T.2.1 0)) T.1 a (T.1 - (a + 1)) U) i1 (itr (fun p U => tGoes U (mBare (T.2.1 0)) p) T.1 T))) X) T.1 (Inv := fun _ => True) trivial ?_ ?_
    · intro hv31
      refine aw_iload_n C dX5_day_31 rfl ?_
      refine aw_aload_n C dX5_day_32 rfl ?_
      refine aw_getf C 0 4 0 18 inX5 rfl (by decide) rfl k3_234 rfl rfl dX5_day_33 ?_
      refine aw_iconst C (1 : Int32) dX5_day_36 (by decide) ?_
      refine aw_ialdN C 1 0 1 rfl rfl rfl (by decide) (by decide) dX5_day_37 ?_
      refine aw_top (y := (nI (itr (fun a U => tRow (mBare (T.2.1 0)) T.1 a (T.1 - (a + 1)) U) T.1 (itr (fun p U => tGoes U (mBare (T.2.1 0)) p) T.1 T)).1)) rfl ?_
      refine aw_top (y := (nI T.1)) (by rw [itr_n (fun _ _ => row_n _ _ _ _ _), itr_n (fun _ _ => goes_n _ _ _)]) ?_
      refine aw_icmp_ge C 107 dX5_day_38 (by decide) (fun c_38 => ?_) (fun c_38 => absurd c_38 (fun z => z (Int32.le_refl _)))
      refine aw_pc 107 rfl ?_
      refine aw_aload_n C dX5_day_107 rfl ?_
      refine aw_getf C 0 4 0 18 inX5 rfl (by decide) rfl k3_234 rfl rfl dX5_day_108 ?_
      refine aw_iconst C (0 : Int32) dX5_day_111 (by decide) ?_
      refine aw_ldc C k4_166 dX5_day_112 ?_
      refine aw_aload_n C dX5_day_114 rfl ?_
      refine aw_getf C 0 4 0 18 inX5 rfl (by decide) rfl k3_234 rfl rfl dX5_day_115 ?_
      refine aw_iconst C (0 : Int32) dX5_day_118 (by decide) ?_
      refine aw_ialdN C 1 0 0 rfl rfl rfl (by decide) (by decide) dX5_day_119 ?_
      refine aw_top (y := ((itr (fun a U => tRow (mBare (T.2.1 0)) T.1 a (T.1 - (a + 1)) U) T.1 (itr (fun p U => tGoes U (mBare (T.2.1 0)) p) T.1 T)).2.1 0)) rfl ?_
      refine aw_iconst C (1 : Int32) dX5_day_120 (by decide) ?_
      refine aw_iadd C dX5_day_121 ?_
      refine aw_pc 122 rfl ?_
      refine aw_callSp C (As := [.int (99999 : Int32), .int (((itr (fun a U => tRow (mBare (T.2.1 0)) T.1 a (T.1 - (a + 1)) U) T.1 (itr (fun p U => tGoes U (mBare (T.2.1 0)) p) T.1 T)).2.1 0) + (1 : Int32))]) (c_X5_less l D cI cC adK adV (99999 : Int32) (((itr (fun a U => tRow (mBare (T.2.1 0)) T.1 a (T.1 - (a + 1)) U) T.1 (itr (fun p U => tGoes U (mBare (T.2.1 0)) p) T.1 T)).2.1 0) + (1 : Int32))) k4_139 cs_X5_less [] (by decide) rfl ⟨by decide, by decide⟩ rfl rfl ⟨by decide, by decide⟩ rfl rfl (Nat.le_of_ble_eq_true rfl) dX5_day_122 ?_
      refine aw_iastN C 1 0 0 rfl rfl rfl (by decide) (by decide) (ws' := wMo cI cC y (upd (rowOf (itr (fun a U => tRow (mBare (T.2.1 0)) T.1 a (T.1 - (a + 1)) U) T.1 (itr (fun p U => tGoes U (mBare (T.2.1 0)) p) T.1 T))) 0 (mn (99999 : Int32) (((itr (fun a U => tRow (mBare (T.2.1 0)) T.1 a (T.1 - (a + 1)) U) T.1 (itr (fun p U => tGoes U (mBare (T.2.1 0)) p) T.1 T)).2.1 0) + (1 : Int32)))) X) rfl dX5_day_125 ?_
      refine aw_eq (lv' := [(0, .ref (y 0)), (1, .int (b2 (mBare (T.2.1 0)))), (2, .int (nI T.1))]) (ws' := wMo cI cC y (rowOf (sG (itr (fun a U => tRow (mBare (T.2.1 0)) T.1 a (T.1 - (a + 1)) U) T.1 (itr (fun p U => tGoes U (mBare (T.2.1 0)) p) T.1 T)) 0 (mn (99999 : Int32) (((itr (fun a U => tRow (mBare (T.2.1 0)) T.1 a (T.1 - (a + 1)) U) T.1 (itr (fun p U => tGoes U (mBare (T.2.1 0)) p) T.1 T)).2.1 0) + (1 : Int32))))) X) rfl rfl (by rw [row_G0]) ?_
      exact aw_vret C hr hlk dX5_day_126 ⟨rfl, by rfl⟩
    · intro i1 hi31 hv31 ih31
      refine aw_iload_n C dX5_day_31 rfl ?_
      refine aw_aload_n C dX5_day_32 rfl ?_
      refine aw_getf C 0 4 0 18 inX5 rfl (by decide) rfl k3_234 rfl rfl dX5_day_33 ?_
      refine aw_iconst C (1 : Int32) dX5_day_36 (by decide) ?_
      refine aw_ialdN C 1 0 1 rfl rfl rfl (by decide) (by decide) dX5_day_37 ?_
      refine aw_top (y := (nI (itr (fun a U => tRow (mBare (T.2.1 0)) T.1 a (T.1 - (a + 1)) U) i1 (itr (fun p U => tGoes U (mBare (T.2.1 0)) p) T.1 T)).1)) rfl ?_
      refine aw_top (y := (nI T.1)) (by rw [itr_n (fun _ _ => row_n _ _ _ _ _), itr_n (fun _ _ => goes_n _ _ _)]) ?_
      refine aw_icmp_ge C 107 dX5_day_38 (by decide) (fun c_38 => absurd c_38 (nI_ge hi31 (by omega))) (fun c_38 => ?_)
      refine aw_iload_n C dX5_day_41 rfl ?_
      refine aw_pc 42 rfl ?_
      refine aw_iconst C (1 : Int32) dX5_day_42 (by decide) ?_
      refine aw_iadd C dX5_day_43 ?_
      refine aw_top (y := (nI (i1 + 1 + 0))) (by exact nI_1 _) ?_
      refine aw_istore_n C true (lv' := [(0, .ref (y 0)), (1, .int (b2 (mBare (T.2.1 0)))), (2, .int (nI i1)), (3, .int (nI (i1 + 1 + 0)))]) dX5_day_44 (by decide) rfl rfl ?_
      refine aw_eq (lv' := [(0, .ref (y 0)), (1, .int (b2 (mBare (T.2.1 0)))), (2, .int (nI i1)), (3, .int (nI (i1 + 1 + 0)))]) (ws' := wMo cI cC y (rowOf (itr (fun j U => tPair (mBare (T.2.1 0)) i1 (i1 + 1 + j) U) 0 (itr (fun a U => tRow (mBare (T.2.1 0)) T.1 a (T.1 - (a + 1)) U) i1 (itr (fun p U => tGoes U (mBare (T.2.1 0)) p) T.1 T)))) X) (by first | rfl | (simp only [itr])) rfl (by rfl) ?_
      refine aw_loop (LV := fun j1 => [(0, .ref (y 0)), (1, .int (b2 (mBare (T.2.1 0)))), (2, .int (nI i1)), (3, .int (nI (i1 + 1 + j1)))]) (WS := fun j1 => wMo cI cC y (rowOf (itr (fun j U => tPair (mBare (T.2.1 0)) i1 (i1 + 1 + j) U) j1 (itr (fun a U => tRow (mBare (T.2.1 0)) T.1 a (T.1 - (a + 1)) U) i1 (itr (fun p U => tGoes U (mBare (T.2.1 0)) p) T.1 T)))) X) (T.1 - (i1 + 1)) (Inv := fun _ => True) trivial ?_ ?_
      · intro hv45
        refine aw_iload_n C dX5_day_45 rfl ?_
        refine aw_aload_n C dX5_day_46 rfl ?_
        refine aw_getf C 0 4 0 18 inX5 rfl (by decide) rfl k3_234 rfl rfl dX5_day_47 ?_
        refine aw_iconst C (1 : Int32) dX5_day_50 (by decide) ?_
        refine aw_ialdN C 1 0 1 rfl rfl rfl (by decide) (by decide) dX5_day_51 ?_
        refine aw_top (y := (nI (itr (fun j U => tPair (mBare (T.2.1 0)) i1 (i1 + 1 + j) U) (T.1 - (i1 + 1)) (itr (fun a U => tRow (mBare (T.2.1 0)) T.1 a (T.1 - (a + 1)) U) i1 (itr (fun p U => tGoes U (mBare (T.2.1 0)) p) T.1 T))).1)) rfl ?_
        refine aw_top (y := (nI T.1)) (by rw [itr_n (fun _ _ => pair_n _ _ _ _), itr_n (fun _ _ => row_n _ _ _ _ _), itr_n (fun _ _ => goes_n _ _ _)]) ?_
        refine aw_icmp_ge C 101 dX5_day_52 (by decide) (fun c_52 => ?_) (fun c_52 => absurd c_52 (fun z => z (nI_le (by omega) (by omega))))
        refine aw_iinc C (nI (i1 + 1)) dX5_day_101 rfl (inc_nI _ 1) (by decide) rfl (lv' := [(0, .ref (y 0)), (1, .int (b2 (mBare (T.2.1 0)))), (2, .int (nI (i1 + 1))), (3, .int (nI (i1 + 1 + (T.1 - (i1 + 1)))))]) rfl ?_
        refine aw_pc 104 rfl ?_
        refine aw_goto C 31 dX5_day_104 (by decide) ?_
        refine aw_sub (lv' := [(0, .ref (y 0)), (1, .int (b2 (mBare (T.2.1 0)))), (2, .int (nI (i1 + 1)))]) [0, 1, 2] rfl ?_
        exact aw_eq (by first | rfl | (simp only [itr])) rfl (by first | rfl | (simp only [itr] <;> first | done | rfl)) (ih31 trivial)
      · intro j1 hi45 hv45 ih45
        refine aw_iload_n C dX5_day_45 rfl ?_
        refine aw_aload_n C dX5_day_46 rfl ?_
        refine aw_getf C 0 4 0 18 inX5 rfl (by decide) rfl k3_234 rfl rfl dX5_day_47 ?_
        refine aw_iconst C (1 : Int32) dX5_day_50 (by decide) ?_
        refine aw_ialdN C 1 0 1 rfl rfl rfl (by decide) (by decide) dX5_day_51 ?_
        refine aw_top (y := (nI (itr (fun j U => tPair (mBare (T.2.1 0)) i1 (i1 + 1 + j) U) j1 (itr (fun a U => tRow (mBare (T.2.1 0)) T.1 a (T.1 - (a + 1)) U) i1 (itr (fun p U => tGoes U (mBare (T.2.1 0)) p) T.1 T))).1)) rfl ?_
        refine aw_top (y := (nI T.1)) (by rw [itr_n (fun _ _ => pair_n _ _ _ _), itr_n (fun _ _ => row_n _ _ _ _ _), itr_n (fun _ _ => goes_n _ _ _)]) ?_
        refine aw_icmp_ge C 101 dX5_day_52 (by decide) (fun c_52 => absurd c_52 (nI_ge (by omega) (by omega))) (fun c_52 => ?_)
        refine aw_iload_n C dX5_day_55 rfl ?_
        refine aw_ifeq_b C 68 dX5_day_56 (by decide) (fun c_56 => ?_) (fun c_56 => ?_)
        · skip
          refine aw_aload_n C dX5_day_68 rfl ?_
          refine aw_pc 69 rfl ?_
          refine aw_iload_n C dX5_day_69 rfl ?_
          refine aw_iconst C (1 : Int32) dX5_day_70 (by decide) ?_
          refine aw_callVp C (As := [.int (nI i1), .int (1 : Int32)]) (c_X5_get l D cI cC adK adV y (itr (fun j U => tPair (mBare (T.2.1 0)) i1 (i1 + 1 + j) U) j1 (itr (fun a U => tRow (mBare (T.2.1 0)) T.1 a (T.1 - (a + 1)) U) i1 (itr (fun p U => tGoes U (mBare (T.2.1 0)) p) T.1 T))) X i1 1 (by omega) (by decide)) k4_85 cv_X5_get 0 4 rfl rfl rfl [0, 1, 2, 3, 4, 5, 6, 7, 8, 9, 10, 11, 12] (by decide) rfl ⟨by decide, by decide⟩ rfl rfl ⟨by decide, by decide⟩ rfl rfl (Nat.le_of_ble_eq_true rfl) dX5_day_71 ?_
          refine aw_aload_n C dX5_day_74 rfl ?_
          refine aw_iload_n C dX5_day_75 rfl ?_
          refine aw_iconst C (1 : Int32) dX5_day_76 (by decide) ?_
          refine aw_callVp C (As := [.int (nI (i1 + 1 + j1)), .int (1 : Int32)]) (c_X5_get l D cI cC adK adV y (itr (fun j U => tPair (mBare (T.2.1 0)) i1 (i1 + 1 + j) U) j1 (itr (fun a U => tRow (mBare (T.2.1 0)) T.1 a (T.1 - (a + 1)) U) i1 (itr (fun p U => tGoes U (mBare (T.2.1 0)) p) T.1 T))) X (i1 + 1 + j1) 1 (by omega) (by decide)) k4_85 cv_X5_get 0 4 rfl rfl rfl [0, 1, 2, 3, 4, 5, 6, 7, 8, 9, 10, 11, 12] (by decide) rfl ⟨by decide, by decide⟩ rfl rfl ⟨by decide, by decide⟩ rfl rfl (Nat.le_of_ble_eq_true rfl) dX5_day_77 ?_
          refine aw_icmp_ne C 95 dX5_day_80 (by decide) (fun c_80 => ?_) (fun c_80 => ?_)
          · skip
            refine aw_iinc C (nI ((i1 + 1 + j1) + 1)) dX5_day_95 rfl (inc_nI _ 1) (by decide) rfl (lv' := [(0, .ref (y 0)), (1, .int (b2 (mBare (T.2.1 0)))), (2, .int (nI i1)), (3, .int (nI ((i1 + 1 + j1) + 1)))]) rfl ?_
            refine aw_goto C 45 dX5_day_98 (by decide) ?_
            exact aw_eq (by first | rfl | (simp only [itr, c_56, c_80])) rfl (by first | (rw [itr_s, pair_b c_56]) | (rw [itr_s, pair_m c_56 c_80]; rfl) | (rw [itr_s, pair_k c_56 c_80])) (ih45 trivial)
          · skip
            refine aw_pc 83 rfl ?_
            refine aw_aload_n C dX5_day_83 rfl ?_
            refine aw_iload_n C dX5_day_84 rfl ?_
            refine aw_iload_n C dX5_day_85 rfl ?_
            refine aw_callVdv C (As := [.int (nI i1), .int (nI (i1 + 1 + j1))]) (c_X5_meets l D cI cC adK adV y (itr (fun j U => tPair (mBare (T.2.1 0)) i1 (i1 + 1 + j) U) j1 (itr (fun a U => tRow (mBare (T.2.1 0)) T.1 a (T.1 - (a + 1)) U) i1 (itr (fun p U => tGoes U (mBare (T.2.1 0)) p) T.1 T))) X i1 (i1 + 1 + j1) (by omega) (by omega)) k4_191 cv_X5_meets 0 4 rfl rfl rfl [0, 1, 2, 3, 4, 5, 6, 7, 8, 9, 10, 11, 12] (by decide) rfl (wr := ([] : va_W)) [] rfl (by decide) (by decide) [0, 1, 2, 3, 4, 5, 6, 7, 8, 9, 10, 11, 12] (by decide) (ws' := wMo cI cC y (rowOf (tMeets (itr (fun j U => tPair (mBare (T.2.1 0)) i1 (i1 + 1 + j) U) j1 (itr (fun a U => tRow (mBare (T.2.1 0)) T.1 a (T.1 - (a + 1)) U) i1 (itr (fun p U => tGoes U (mBare (T.2.1 0)) p) T.1 T))) i1 (i1 + 1 + j1))) X) rfl ⟨by decide, by decide⟩ rfl rfl ⟨by decide, by decide⟩ rfl rfl (Nat.le_of_ble_eq_true rfl) dX5_day_86 ?_
            refine aw_aload_n C dX5_day_89 rfl ?_
            refine aw_iload_n C dX5_day_90 rfl ?_
            refine aw_iload_n C dX5_day_91 rfl ?_
            refine aw_callVdv C (As := [.int (nI (i1 + 1 + j1)), .int (nI i1)]) (c_X5_meets l D cI cC adK adV y (tMeets (itr (fun j U => tPair (mBare (T.2.1 0)) i1 (i1 + 1 + j) U) j1 (itr (fun a U => tRow (mBare (T.2.1 0)) T.1 a (T.1 - (a + 1)) U) i1 (itr (fun p U => tGoes U (mBare (T.2.1 0)) p) T.1 T))) i1 (i1 + 1 + j1)) X (i1 + 1 + j1) i1 (by omega) (by omega)) k4_191 cv_X5_meets 0 4 rfl rfl rfl [0, 1, 2, 3, 4, 5, 6, 7, 8, 9, 10, 11, 12] (by decide) rfl (wr := ([] : va_W)) [] rfl (by decide) (by decide) [0, 1, 2, 3, 4, 5, 6, 7, 8, 9, 10, 11, 12] (by decide) (ws' := wMo cI cC y (rowOf (tMeets (tMeets (itr (fun j U => tPair (mBare (T.2.1 0)) i1 (i1 + 1 + j) U) j1 (itr (fun a U => tRow (mBare (T.2.1 0)) T.1 a (T.1 - (a + 1)) U) i1 (itr (fun p U => tGoes U (mBare (T.2.1 0)) p) T.1 T))) i1 (i1 + 1 + j1)) (i1 + 1 + j1) i1)) X) rfl ⟨by decide, by decide⟩ rfl rfl ⟨by decide, by decide⟩ rfl rfl (Nat.le_of_ble_eq_true rfl) dX5_day_92 ?_
            refine aw_iinc C (nI ((i1 + 1 + j1) + 1)) dX5_day_95 rfl (inc_nI _ 1) (by decide) rfl (lv' := [(0, .ref (y 0)), (1, .int (b2 (mBare (T.2.1 0)))), (2, .int (nI i1)), (3, .int (nI ((i1 + 1 + j1) + 1)))]) rfl ?_
            refine aw_goto C 45 dX5_day_98 (by decide) ?_
            exact aw_eq (by first | rfl | (simp only [itr, c_56, c_80])) rfl (by first | (rw [itr_s, pair_b c_56]) | (rw [itr_s, pair_m c_56 c_80]; rfl) | (rw [itr_s, pair_k c_56 c_80])) (ih45 trivial)
        · skip
          refine aw_pc 59 rfl ?_
          refine aw_aload_n C dX5_day_59 rfl ?_
          refine aw_iload_n C dX5_day_60 rfl ?_
          refine aw_iload_n C dX5_day_61 rfl ?_
          refine aw_callVdv C (As := [.int (nI i1), .int (nI (i1 + 1 + j1))]) (c_X5_barefaced l D cI cC adK adV y (itr (fun j U => tPair (mBare (T.2.1 0)) i1 (i1 + 1 + j) U) j1 (itr (fun a U => tRow (mBare (T.2.1 0)) T.1 a (T.1 - (a + 1)) U) i1 (itr (fun p U => tGoes U (mBare (T.2.1 0)) p) T.1 T))) X i1 (i1 + 1 + j1) (by rw [itr_n (fun _ _ => pair_n _ _ _ _), itr_n (fun _ _ => row_n _ _ _ _ _), itr_n (fun _ _ => goes_n _ _ _)]; exact (by omega)) (by rw [itr_n (fun _ _ => pair_n _ _ _ _), itr_n (fun _ _ => row_n _ _ _ _ _), itr_n (fun _ _ => goes_n _ _ _)]; exact (by omega)) (itr_ok (m := T.1 - (i1 + 1)) (fun _ _ => pair_n _ _ _ _) (fun j9 U9 h9 o9 e9 => pair_ok o9 (by rw [e9, itr_n (fun _ _ => row_n _ _ _ _ _), itr_n (fun _ _ => goes_n _ _ _)]; omega) (by rw [e9, itr_n (fun _ _ => row_n _ _ _ _ _), itr_n (fun _ _ => goes_n _ _ _)]; omega)) (rows_ok (walk_ok ho _ (Nat.le_refl _)) (itr_n (fun _ _ => goes_n _ _ _) T T.1) i1 (by omega)) j1 (by omega))) k4_179 cv_X5_barefaced 0 4 rfl rfl rfl [0, 1, 2, 3, 4, 5, 6, 7, 8, 9, 10, 11, 12] (by decide) rfl (wr := ([] : va_W)) [] rfl (by decide) (by decide) [0, 1, 2, 3, 4, 5, 6, 7, 8, 9, 10, 11, 12] (by decide) (ws' := wMo cI cC y (rowOf (tBare (itr (fun j U => tPair (mBare (T.2.1 0)) i1 (i1 + 1 + j) U) j1 (itr (fun a U => tRow (mBare (T.2.1 0)) T.1 a (T.1 - (a + 1)) U) i1 (itr (fun p U => tGoes U (mBare (T.2.1 0)) p) T.1 T))) i1 (i1 + 1 + j1))) X) rfl ⟨by decide, by decide⟩ rfl rfl ⟨by decide, by decide⟩ rfl rfl (Nat.le_of_ble_eq_true rfl) dX5_day_62 ?_
          refine aw_goto C 95 dX5_day_65 (by decide) ?_
          refine aw_iinc C (nI ((i1 + 1 + j1) + 1)) dX5_day_95 rfl (inc_nI _ 1) (by decide) rfl (lv' := [(0, .ref (y 0)), (1, .int (b2 (mBare (T.2.1 0)))), (2, .int (nI i1)), (3, .int (nI ((i1 + 1 + j1) + 1)))]) rfl ?_
          refine aw_goto C 45 dX5_day_98 (by decide) ?_
          exact aw_eq (by first | rfl | (simp only [itr, c_56])) rfl (by first | (rw [itr_s, pair_b c_56]) | (rw [itr_s, pair_m c_56 c_80]; rfl) | (rw [itr_s, pair_k c_56 c_80])) (ih45 trivial)
  · intro i0 hi7 hv7 ih7
    refine aw_iload_n C dX5_day_7 rfl ?_
    refine aw_aload_n C dX5_day_8 rfl ?_
    refine aw_getf C 0 4 0 18 inX5 rfl (by decide) rfl k3_234 rfl rfl dX5_day_9 ?_
    refine aw_pc 12 rfl ?_
    refine aw_iconst C (1 : Int32) dX5_day_12 (by decide) ?_
    refine aw_ialdN C 1 0 1 rfl rfl rfl (by decide) (by decide) dX5_day_13 ?_
    refine aw_top (y := (nI (itr (fun p U => tGoes U (mBare (T.2.1 0)) p) i0 T).1)) rfl ?_
    refine aw_top (y := (nI T.1)) (by rw [itr_n (fun _ _ => goes_n _ _ _)]) ?_
    refine aw_icmp_ge C 29 dX5_day_14 (by decide) (fun c_14 => absurd c_14 (nI_ge hi7 (by omega))) (fun c_14 => ?_)
    refine aw_aload_n C dX5_day_17 rfl ?_
    refine aw_iload_n C dX5_day_18 rfl ?_
    refine aw_iload_n C dX5_day_19 rfl ?_
    refine aw_callVdv C (As := [.int (nI i0), .int (b2 (mBare (T.2.1 0)))]) (c_X5_goesOn l D cI cC adK adV y (itr (fun p U => tGoes U (mBare (T.2.1 0)) p) i0 T) X i0 (mBare (T.2.1 0)) (by omega)) k4_175 cv_X5_goesOn 0 4 rfl rfl rfl [0, 1, 2, 3, 4, 5, 6, 7, 8, 9, 10, 11, 12] (by decide) rfl (wr := ([] : va_W)) [] rfl (by decide) (by decide) [0, 1, 2, 3, 4, 5, 6, 7, 8, 9, 10, 11, 12] (by decide) (ws' := wMo cI cC y (rowOf (tGoes (itr (fun p U => tGoes U (mBare (T.2.1 0)) p) i0 T) (mBare (T.2.1 0)) i0)) X) rfl ⟨by decide, by decide⟩ rfl rfl ⟨by decide, by decide⟩ rfl rfl (Nat.le_of_ble_eq_true rfl) dX5_day_20 ?_
    refine aw_iinc C (nI (i0 + 1)) dX5_day_23 rfl (inc_nI _ 1) (by decide) rfl (lv' := [(0, .ref (y 0)), (1, .int (b2 (mBare (T.2.1 0)))), (2, .int (nI (i0 + 1)))]) rfl ?_
    refine aw_goto C 7 dX5_day_26 (by decide) ?_
    exact aw_eq (by first | rfl | (simp only [itr])) rfl (by first | rfl | (simp only [itr] <;> first | done | rfl)) (ih7 trivial)
abbrev r_X5_goes : Room := { frames := 5, cells := 0, slots := 0, locals := 112 }
theorem cv_X5_goes : cV yX5_goes cX5_goes 3 none 1 := ⟨k4_169, k0_38, k4_170, k1_6, by decide, by decide, by decide +kernel⟩
set_option maxHeartbeats 4000000 in
set_option maxRecDepth 100000 in
theorem c_X5_goes (l : Launch) (D : va_G) (cI cC : ClassId) (adK adV : Nat → Nat) (y : Nat → Nat) (T : Tw) (X : Mr) (k : Nat) (ho : gOk T) (hk : k < 2 ^ 30) : FC l yX5_goes (wW yX5_goes cX5_goes 3 none) r_X5_goes D (tyC cI cC) adK adV (wMo cI cC y (rowOf T) X) [.ref (y 0), .int (nI k)] 0 0 (fQ none (wMo cI cC y (rowOf (tDays k T)) X)) := by
  refine FC.of (own := RX5) (by decide) rfl (Nat.le_of_ble_eq_true rfl) ?_
  intro p9 e9 s9 m9 args9 below9 meth9 c9 A9 C hr hlk hmn
  show AW p9 l e9 r_X5_goes s9 m9 args9 below9 meth9 c9 D A9 3 0 0 _ 0 [(0, .ref (y 0)), (1, .int (nI k))] [] _
  refine aw_iconst C (0 : Int32) dX5_goes_0 (by decide) ?_
  refine aw_istore_n C true (lv' := [(0, .ref (y 0)), (1, .int (nI k)), (2, .int (0 : Int32))]) dX5_goes_1 (by decide) rfl rfl ?_
  refine aw_eq (lv' := [(0, .ref (y 0)), (1, .int (nI k)), (2, .int (nI 0))]) (ws' := wMo cI cC y (rowOf (itr (fun _ U => tDay U) 0 T)) X) (by first | rfl | (simp only [itr])) rfl (by rfl) ?_
  refine aw_loop (LV := fun i => [(0, .ref (y 0)), (1, .int (nI k)), (2, .int (nI i))]) (WS := fun i => wMo cI cC y (rowOf (itr (fun _ U => tDay U) i T)) X) k (Inv := fun _ => True) trivial ?_ ?_
  · intro hv2
    refine aw_iload_n C dX5_goes_2 rfl ?_
    refine aw_iload_n C dX5_goes_3 rfl ?_
    refine aw_icmp_ge C 17 dX5_goes_4 (by decide) (fun c_4 => ?_) (fun c_4 => absurd c_4 (fun z => z (Int32.le_refl _)))
    exact aw_vret C hr hlk dX5_goes_17 ⟨rfl, by rfl⟩
  · intro i hi2 hv2 ih2
    refine aw_iload_n C dX5_goes_2 rfl ?_
    refine aw_iload_n C dX5_goes_3 rfl ?_
    refine aw_icmp_ge C 17 dX5_goes_4 (by decide) (fun c_4 => absurd c_4 (nI_ge hi2 (by omega))) (fun c_4 => ?_)
    refine aw_pc 7 rfl ?_
    refine aw_aload_n C dX5_goes_7 rfl ?_
    refine aw_callVdv C (As := []) (c_X5_day l D cI cC adK adV y (itr (fun _ U => tDay U) i T) X  (days_ok ho i)) k4_171 cv_X5_day 0 4 rfl rfl rfl [0, 1, 2, 3, 4, 5, 6, 7, 8, 9, 10, 11, 12] (by decide) rfl (wr := ([] : va_W)) [] rfl (by decide) (by decide) [0, 1, 2, 3, 4, 5, 6, 7, 8, 9, 10, 11, 12] (by decide) (ws' := wMo cI cC y (rowOf (tDay (itr (fun _ U => tDay U) i T))) X) rfl ⟨by decide, by decide⟩ rfl rfl ⟨by decide, by decide⟩ rfl rfl (Nat.le_of_ble_eq_true rfl) dX5_goes_8 ?_
    refine aw_iinc C (nI (i + 1)) dX5_goes_11 rfl (inc_nI _ 1) (by decide) rfl (lv' := [(0, .ref (y 0)), (1, .int (nI k)), (2, .int (nI (i + 1)))]) rfl ?_
    refine aw_goto C 2 dX5_goes_14 (by decide) ?_
    exact aw_eq (by first | rfl | (simp only [itr])) rfl (by first | rfl | (simp only [itr] <;> first | done | rfl)) (ih2 trivial)
