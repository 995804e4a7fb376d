/-! the reference: items of a text, text() -/
theorem b_tf (b : Bool) : b = true ∨ b = false := by cases b <;> simp
theorem nmV_ge (f : Nat → Int32) (n p : Nat) : 0 ≤ nmV f n p := Int32.not_lt.mp (nmV_nn f n p)
theorem sP_z {U : Tw} {f p : Nat} (h : U.2.2.1 f p = 0) : sP U f p 0 = U := by
  have e := sP_id U f p
  rwa [h] at e
theorem ri_p {f : Nat → Int32} {n p : Nat} {T : Tw} (c : ¬ wWord f n p 0 7 < 0) : rdItem f n T p = rdOne f n (wWord f n p 0 7) T p := by
  rw [rdItem, kW_e, decide_eq_false (fun z => c (by rw [z]; decide)), cond_false]
theorem ri_n {f : Nat → Int32} {n p : Nat} {T : Tw} (c : wWord f n p 0 7 < 0) (d : ¬ 0 ≤ wWord f n p 7 2) : rdItem f n T p = (false, T, p) := by
  have e := wW_neg (by decide) (Int32.not_le.mp d)
  have k7 : wK f n p 7 = false := wW_f (k0 := 7) (m := 2) (w := 0) (by decide) (by decide) (by rw [e]; decide)
  have k8 : wK f n p 8 = false := wW_f (k0 := 7) (m := 2) (w := 1) (by decide) (by decide) (by rw [e]; decide)
  rw [rdItem, kW_e, decide_eq_true (wW_neg (by decide) c), cond_true, k7, cond_false, k8, cond_false]
theorem ri_m {f : Nat → Int32} {n p : Nat} {T : Tw} (c : wWord f n p 0 7 < 0) (e : wWord f n p 7 2 = 0) : rdItem f n T p = rdMet f n T p := by
  have k7 : wK f n p 7 = true := (wW_iff (k0 := 7) (m := 2) (w := 0) (by decide) (by decide)).mp e
  rw [rdItem, kW_e, decide_eq_true (wW_neg (by decide) c), cond_true, k7, cond_true]
theorem ri_b {f : Nat → Int32} {n p : Nat} {T : Tw} (c : wWord f n p 0 7 < 0) (d : 0 ≤ wWord f n p 7 2) (e : ¬ wWord f n p 7 2 = 0) : rdItem f n T p = rdBell f n T p := by
  have k7 : wK f n p 7 = false := wW_f (k0 := 7) (m := 2) (w := 0) (by decide) (by decide) e
  have k8 : wK f n p 8 = true := by
    cases k8 : wK f n p 8 with
    | true => rfl
    | false =>
      exfalso
      rw [wW_no (k0 := 7) 2 (fun w hw => by rcases (by omega : w = 0 ∨ w = 1) with q | q <;> subst q; exact k7; exact k8)] at d
      exact absurd d (by decide)
  rw [rdItem, kW_e, decide_eq_true (wW_neg (by decide) c), cond_true, k7, cond_false, k8, cond_true]
def pRp (cI cC : ClassId) (y : Nat → Nat) (kr ar : Nat → Int32) (ik : Bool) (F f : Nat → Int32) (n : Nat) (s1 s2 s3 cr : Nat → Int32) (o : Bool × Tw × Nat) : Option Value → va_W → Prop := fun r w => r = some (.int (b2 o.1)) ∧ ∃ sr : Nat → Int32, w = wMo cI cC y sr (kr, ar, ik, F, f, n, tkR f n o.2.2, o.2.2, tkE f n o.2.2, vlR f n o.2.2, s1, s2, s3, cr) ∧ (o.1 = true → sr = rowOf o.2.1)
theorem pRp_any {l : Launch} {y : MethodName} {ws : List Cond} {rm : Room} {D : va_G} {tys : List (ClassId × FieldType)} {adK adV : Nat → Nat} {wc : va_W} {av : List Value} {mc ns : Nat} {cI cC : ClassId} {z : Nat → Nat} {kr ar : Nat → Int32} {ik : Bool} {F f : Nat → Int32} {n : Nat} {s1 s2 s3 cr : Nat → Int32} {o1 o2 : Bool × Tw × Nat} (h : FC l y ws rm D tys adK adV wc av mc ns (pRp cI cC z kr ar ik F f n s1 s2 s3 cr o1)) (e : o2 = o1) : FC l y ws rm D tys adK adV wc av mc ns (pRp cI cC z kr ar ik F f n s1 s2 s3 cr o2) := by rw [e]; exact h
theorem rdAt_ge {f : Nat → Int32} {n p k : Nat} {m : Int32} : p ≤ (rdAt f n p k m).2.2 := by
  have nge : ∀ q, q ≤ nx f n q := fun q => Nat.le_trans (tkE_ge f n q) (skp_ge f n _)
  unfold rdAt
  cases wK f n p k
  · exact Nat.le_refl _
  · cases nB f n (nx f n p) m
    · exact nge p
    · exact Nat.le_trans (nge p) (nge _)
theorem nx_ge (f : Nat → Int32) (n p : Nat) : p ≤ nx f n p := Nat.le_trans (tkE_ge f n p) (skp_ge f n _)
theorem rdItem_ge {f : Nat → Int32} {n p : Nat} {T : Tw} : p ≤ (rdItem f n T p).2.2 := by
  unfold rdItem
  cases decide (kW f n p = -1)
  · show p ≤ (rdOne f n (kW f n p) T p).2.2
    unfold rdOne
    cases !decide (nI T.1 < 8)
    · have h1 : p ≤ (rdAt f n (nx f n p) 9 16).2.2 := Nat.le_trans (nx_ge f n p) rdAt_ge
      cases (rdAt f n (nx f n p) 9 16).1
      · exact h1
      · show p ≤ (rdAs f n (kW f n p) _ T _).2.2
        unfold rdAs
        have h2 : p ≤ (rdAt f n (rdAt f n (nx f n p) 9 16).2.2 10 12).2.2 := Nat.le_trans h1 rdAt_ge
        cases (rdAt f n (rdAt f n (nx f n p) 9 16).2.2 10 12).1
        · exact h2
        · show p ≤ (rdOut f n _ _ _).2.2
          unfold rdOut
          cases wK f n (rdAt f n (rdAt f n (nx f n p) 9 16).2.2 10 12).2.2 11
          · exact h2
          · exact Nat.le_trans h2 (nx_ge f n _)
    · exact Nat.le_refl _
  · cases wK f n p 7
    · cases wK f n p 8
      · exact Nat.le_refl _
      · show p ≤ (rdBell f n T p).2.2
        unfold rdBell
        cases nB f n (nx f n p) 12
        · exact nx_ge f n p
        · exact Nat.le_trans (nx_ge f n p) (nx_ge f n _)
    · show p ≤ (rdMet f n T p).2.2
      unfold rdMet
      cases nB f n (nx f n p) (nI T.1)
      · exact nx_ge f n p
      · cases nB f n (nx f n (nx f n p)) (nI T.1) && !decide (nmV f n (nx f n (nx f n p)) = nmV f n (nx f n p))
        · exact Nat.le_trans (nx_ge f n p) (nx_ge f n _)
        · exact Nat.le_trans (nx_ge f n p) (Nat.le_trans (nx_ge f n _) (nx_ge f n _))
theorem nB_rg {f : Nat → Int32} {n p m : Nat} (hm : m < 2 ^ 31) (h : nB f n p (nI m) = true) : rgO (nmV f n p) m := ⟨ix (nmV f n p), nB_lt hm h, nmV_ix f n p⟩
theorem rdAt_rg {f : Nat → Int32} {n p k m : Nat} (h0 : 0 < m) (hm : m < 2 ^ 31) : rgO (rdAt f n p k (nI m)).2.1 m := by
  unfold rdAt
  cases wK f n p k
  · exact rg_c 0 h0
  · cases h : nB f n (nx f n p) (nI m)
    · exact rg_c 0 h0
    · exact nB_rg hm h
theorem gOk_N {T : Tw} (h : gOk T) (h8 : T.1 < 8) : gOk (sN T (T.1 + 1)) := gOk_mk h8 h.f h.d h.j (fun f hf p hp => h.z f hf p (by have : T.1 + 1 ≤ p := hp; omega))
theorem tAdd_ok {T : Tw} {k c : Int32} (h : gOk T) (h8 : T.1 < 8) (hk : rgO k 7) (hc : rgO c 16) : gOk (tAdd T k c) :=
  gOk_P (gOk_P (gOk_N h h8) (by decide) (Nat.lt_succ_self _) hk) (by decide) (Nat.lt_succ_self _) hc
theorem kW_rg {f : Nat → Int32} {n p : Nat} (h : ¬ kW f n p = -1) : rgO (kW f n p) 7 := by
  rw [kW_e] at h ⊢
  rcases fst9_or (c := fun w => wK f n p (0 + w)) 7 with ⟨_, h2⟩ | ⟨h1, h2, _⟩
  · exact absurd (wW_no 7 h2) h
  · rw [wW_at h2 7 h1 (by decide)]
    exact rg_c _ h1
theorem put_5 (U : Tw) (p : Nat) (v : Int32) : mPut U p 5 v = sP U 5 p v := rfl
theorem rdOut_ok {f : Nat → Int32} {n a p : Nat} {U : Tw} (h : gOk U) (ha : a < U.1) : gOk (rdOut f n U a p).2.1 := by
  unfold rdOut
  cases wK f n p 11
  · exact h
  · show gOk (mPut U a 5 1)
    rw [put_5]
    exact gOk_P h (by decide) ha (rg_c 1 (by decide))
theorem rdItem_ok {f : Nat → Int32} {n p : Nat} {T : Tw} (h : gOk T) : gOk (rdItem f n T p).2.1 := by
  have h8 := h.n
  unfold rdItem
  cases hk : decide (kW f n p = -1)
  · have hk := of_decide_eq_false hk
    show gOk (rdOne f n (kW f n p) T p).2.1
    unfold rdOne
    cases c : !decide (nI T.1 < 8)
    · have hl := nfull h8 c
      cases (rdAt f n (nx f n p) 9 16).1
      · exact h
      · show gOk (rdAs f n (kW f n p) (rdAt f n (nx f n p) 9 16).2.1 T (rdAt f n (nx f n p) 9 16).2.2).2.1
        unfold rdAs
        cases (rdAt f n (rdAt f n (nx f n p) 9 16).2.2 10 12).1
        · exact h
        · refine rdOut_ok ?_ ?_
          · rw [put_2]
            exact gOk_P (tAdd_ok h hl (kW_rg hk) (rdAt_rg (m := 16) (by decide) (by decide))) (by decide) (Nat.lt_succ_self _) (rdAt_rg (m := 12) (by decide) (by decide))
          · rw [put_2]
            exact Nat.lt_succ_self _
    · exact h
  · cases wK f n p 7
    · cases wK f n p 8
      · exact h
      · show gOk (rdBell f n T p).2.1
        unfold rdBell
        cases nB f n (nx f n p) 12
        · exact h
        · exact skip_ok h (nmV_rg f n _) (by decide)
    · show gOk (rdMet f n T p).2.1
      unfold rdMet
      cases c1 : nB f n (nx f n p) (nI T.1)
      · exact h
      · cases c2 : nB f n (nx f n (nx f n p)) (nI T.1) && !decide (nmV f n (nx f n (nx f n p)) = nmV f n (nx f n p))
        · exact h
        · have a1 := nB_lt (by omega) c1
          have a2 := nB_lt (by omega) (and_2 c2).1
          have g1 : gOk (sP T 3 (ix (nmV f n (nx f n p))) (T.2.2.1 3 (ix (nmV f n (nx f n p))) ||| bitOf (nI (ix (nmV f n (nx f n (nx f n p))))))) := gOk_P h (by decide) a1 (rg_bit (h.f 3 (by decide) _) (by omega))
          exact gOk_P g1 (by decide) a2 (rg_bit (g1.f 3 (by decide) _) (by omega))
theorem wK_end {f : Nat → Int32} {n p k : Nat} (h : n ≤ p) : wK f n p k = false := wK_n (fun z => by have := (tkI_1 z).1; rw [decide_eq_true h] at this; exact absurd this (by decide))
theorem it_end {f : Nat → Int32} {n p : Nat} {T : Tw} (h : n ≤ p) : rdItem f n T p = (false, T, p) := by
  have e : kW f n p = -1 := by rw [kW_e]; exact wW_no 7 (fun w _ => wK_end h)
  rw [rdItem, decide_eq_true e, cond_true, wK_end h, cond_false, wK_end h, cond_false]
theorem tx_end {f : Nat → Int32} {n p : Nat} {T : Tw} {M : Bool × Tw × Nat} (hT : n ≤ 120) (h : M = rdItem f n T p) (h120 : 120 ≤ p) : ¬ M.1 = true := by
  rw [h, it_end (by omega)]
  exact Bool.false_ne_true
theorem tx_a {f : Nat → Int32} {n p : Nat} {T : Tw} {M : Bool × Tw × Nat} {R : Int32 × Tw} (hT : n ≤ 120) (h : M = rdItem f n T p) (h120 : 120 ≤ p) (e : rdLoop f n (120 - 120) 120 T p = R) : (-1 - nI M.2.2, M.2.1) = R := by
  rw [h, it_end (by omega)]
  exact e
theorem neg_p : ∀ p, p < 121 → (-1 : Int32) - nI p < 0 := by decide +kernel
theorem nx_gt {f : Nat → Int32} {n p : Nat} (h : tkI f n p = 3) : p + 1 ≤ nx f n p := by
  refine Nat.le_trans ?_ (skp_ge f n _)
  unfold tkI at h
  unfold tkE
  cases h1 : decide (n ≤ p) <;> rw [h1] at h
  · cases h2 : isL (f p) <;> rw [h2] at h
    · cases h3 : isD (f p) <;> rw [h3] at h
      · exact Nat.le_refl _
      · exact absurd (show (2 : Int32) = 3 from h) (by decide)
    · exact absurd (show (1 : Int32) = 3 from h) (by decide)
  · exact absurd (show (0 : Int32) = 3 from h) (by decide)

abbrev r_X5_readsPerson : Room := { frames := 4, cells := 0, slots := 0, locals := 85 }
theorem cv_X5_readsPerson : cV yX5_readsPerson cX5_readsPerson 5 (some .boolean) 1 := ⟨k5_134, k0_66, k5_135, k1_6, by decide, by decide, by decide +kernel⟩
set_option maxHeartbeats 4000000 in
set_option maxRecDepth 100000 in
theorem c_X5_readsPerson (l : Launch) (D : va_G) (cI cC : ClassId) (adK adV : Nat → Nat) (y : Nat → Nat) (T : Tw) (kr : Nat → Int32) (ar : Nat → Int32) (ik : Bool) (F : Nat → Int32) (f : Nat → Int32) (n : Nat) (s1 : Nat → Int32) (s2 : Nat → Int32) (s3 : Nat → Int32) (cr : Nat → Int32) (p : Nat) (k : Int32) (ho : gOk T) (hp : p ≤ n) (hn : n ≤ 120) : FC l yX5_readsPerson (wW yX5_readsPerson cX5_readsPerson 5 (some .boolean)) r_X5_readsPerson D (tyC cI cC) adK adV (wMo cI cC y (rowOf T) (kr, ar, ik, F, f, n, (tkR f n p), p, (tkE f n p), (vlR f n p), s1, s2, s3, cr)) [.ref (y 0), .int k] 0 0 (pRp cI cC y kr ar ik F f n s1 s2 s3 cr (rdOne f n k T p)) := by
  refine FC.of (own := RX5) (by decide) rfl (Nat.le_of_ble_eq_true rfl) ?_
  intro p9 e9 s9 m9 args9 below9 meth9 c9 A9 C hr hlk hmn
  show AW p9 l e9 r_X5_readsPerson s9 m9 args9 below9 meth9 c9 D A9 5 0 0 _ 0 [(0, .ref (y 0)), (1, .int k)] [] _
  have h8 := ho.n
  refine aw_aload_n C dX5_readsPerson_0 rfl ?_
  refine aw_getf C 0 4 0 18 inX5 rfl (by decide) rfl k3_234 rfl rfl dX5_readsPerson_1 ?_
  refine aw_iconst C (1 : Int32) dX5_readsPerson_4 (by decide) ?_
  refine aw_ialdN C 1 0 1 rfl rfl rfl (by decide) (by decide) dX5_readsPerson_5 ?_
  refine aw_top (y := (nI T.1)) rfl ?_
  refine aw_bipush C (8 : Int32) dX5_readsPerson_6 (by decide) ?_
  refine aw_icmp_ne C 13 dX5_readsPerson_8 (by decide) (fun c_8 => ?_) (fun c_8 => ?_)
  · skip
    have c8 := full_8 h8 c_8
    have c9 := lt_8 c8
    refine aw_aload_n C dX5_readsPerson_13 rfl ?_
    refine aw_getf C 0 4 0 18 inX5 rfl (by decide) rfl k3_234 rfl rfl dX5_readsPerson_14 ?_
    refine aw_iconst C (1 : Int32) dX5_readsPerson_17 (by decide) ?_
    refine aw_pc 18 rfl ?_
    refine aw_ialdN C 1 0 1 rfl rfl rfl (by decide) (by decide) dX5_readsPerson_18 ?_
    refine aw_top (y := (nI T.1)) rfl ?_
    refine aw_istore_n C true (lv' := [(0, .ref (y 0)), (1, .int k), (2, .int (nI T.1))]) dX5_readsPerson_19 (by decide) rfl rfl ?_
    refine aw_aload_n C dX5_readsPerson_20 rfl ?_
    refine aw_iload_n C dX5_readsPerson_21 rfl ?_
    refine aw_callVdv C (As := [.int k]) (c_X5_adds l D cI cC adK adV y T (kr, ar, ik, F, f, n, (tkR f n p), p, (tkE f n p), (vlR f n p), s1, s2, s3, cr) k ho c8) k4_65 cv_X5_adds 0 4 rfl rfl rfl [0, 1, 2, 3, 4, 5, 6, 7, 8, 9, 10, 11, 12] (by decide) rfl (wr := ([] : va_W)) [] rfl (by decide) (by decide) [0, 1, 2, 3, 4, 5, 6, 7, 8, 9, 10, 11, 12] (by decide) (ws' := wMo cI cC y (rowOf (sN (sP T 0 T.1 k) (T.1 + 1))) (kr, ar, ik, F, f, n, (tkR f n p), p, (tkE f n p), (vlR f n p), s1, s2, s3, cr)) rfl ⟨by decide, by decide⟩ rfl rfl ⟨by decide, by decide⟩ rfl rfl (Nat.le_of_ble_eq_true rfl) dX5_readsPerson_22 ?_
    refine aw_aload_n C dX5_readsPerson_25 rfl ?_
    refine aw_callVdv C (As := []) (c_X5_nextTokenS l D cI cC adK adV y (rowOf (sN (sP T 0 T.1 k) (T.1 + 1))) kr ar ik F f n s1 s2 s3 cr p hp hn) k5_108 cv_X5_nextToken 0 4 rfl rfl rfl [0, 1, 2, 3, 4, 5, 6, 7, 8, 9, 10, 11, 12] (by decide) rfl (wr := ([] : va_W)) [] rfl (by decide) (by decide) [0, 1, 2, 3, 4, 5, 6, 7, 8, 9, 10, 11, 12] (by decide) (ws' := wMo cI cC y (rowOf (sN (sP T 0 T.1 k) (T.1 + 1))) (kr, ar, ik, F, f, n, (tkR f n (nx f n p)), (nx f n p), (tkE f n (nx f n p)), (vlR f n (nx f n p)), s1, s2, s3, cr)) rfl ⟨by decide, by decide⟩ rfl rfl ⟨by decide, by decide⟩ rfl rfl (Nat.le_of_ble_eq_true rfl) dX5_readsPerson_26 ?_
    refine aw_iconst C (0 : Int32) dX5_readsPerson_29 (by decide) ?_
    refine aw_istore_n C true (lv' := [(0, .ref (y 0)), (1, .int k), (2, .int (nI T.1)), (3, .int (0 : Int32))]) dX5_readsPerson_30 (by decide) rfl rfl ?_
    refine aw_iload_n C dX5_readsPerson_31 rfl ?_
    refine aw_pc 32 rfl ?_
    refine aw_iconst C (2 : Int32) dX5_readsPerson_32 (by decide) ?_
    refine aw_icmp_ge C 93 dX5_readsPerson_33 (by decide) (fun c_33 => absurd c_33 (by decide)) (fun c_33 => ?_)
    refine aw_aload_n C dX5_readsPerson_36 rfl ?_
    refine aw_aload_n C dX5_readsPerson_37 rfl ?_
    refine aw_getf C 0 4 12 18 inX5 rfl (by decide) rfl k4_6 rfl rfl dX5_readsPerson_38 ?_
    refine aw_callVp C (As := [.ref (y 7)]) (c_X5_wordOf_M l D cI cC adK adV y (rowOf (sN (sP T 0 T.1 k) (T.1 + 1))) kr ar ik F f n s1 s2 s3 cr (nx f n p)) k5_128 cv_X5_wordOf_M 0 4 rfl rfl rfl [0, 1, 2, 3, 4, 5, 6, 7, 8, 9, 10, 11, 12] (by decide) rfl ⟨by decide, by decide⟩ rfl rfl ⟨by decide, by decide⟩ rfl rfl (Nat.le_of_ble_eq_true rfl) dX5_readsPerson_41 ?_
    refine aw_iload_n C dX5_readsPerson_44 rfl ?_
    refine aw_icmp_ne C 87 dX5_readsPerson_45 (by decide) (fun c_45 => ?_) (fun c_45 => ?_)
    · skip
      have k9 : wK f n (nx f n p) 9 = false := wW_f (k0 := 9) (m := 3) (w := 0) (by decide) (by decide) c_45
      refine aw_eq (lv' := [(0, .ref (y 0)), (1, .int k), (2, .int (nI T.1)), (3, .int (0 : Int32))]) (ws' := wMo cI cC y (rowOf (sP (sN (sP T 0 T.1 k) (T.1 + 1)) 1 T.1 0)) (kr, ar, ik, F, f, n, (tkR f n (nx f n p)), (nx f n p), (tkE f n (nx f n p)), (vlR f n (nx f n p)), s1, s2, s3, cr)) rfl rfl (by rw [sP_z (show ((sN (sP T 0 T.1 k) (T.1 + 1))).2.2.1 1 T.1 = 0 from ho.z 1 (by decide) T.1 (Nat.le_refl _))]) ?_
      refine aw_iinc C (1 : Int32) dX5_readsPerson_87 rfl (by decide) (by decide) rfl (lv' := [(0, .ref (y 0)), (1, .int k), (2, .int (nI T.1)), (3, .int (1 : Int32))]) rfl ?_
      refine aw_pc 90 rfl ?_
      refine aw_goto C 31 dX5_readsPerson_90 (by decide) ?_
      refine aw_iload_n C dX5_readsPerson_31 rfl ?_
      refine aw_iconst C (2 : Int32) dX5_readsPerson_32 (by decide) ?_
      refine aw_icmp_ge C 93 dX5_readsPerson_33 (by decide) (fun c_33 => absurd c_33 (by decide)) (fun c_33 => ?_)
      refine aw_aload_n C dX5_readsPerson_36 rfl ?_
      refine aw_aload_n C dX5_readsPerson_37 rfl ?_
      refine aw_getf C 0 4 12 18 inX5 rfl (by decide) rfl k4_6 rfl rfl dX5_readsPerson_38 ?_
      refine aw_callVp C (As := [.ref (y 7)]) (c_X5_wordOf_M l D cI cC adK adV y (rowOf (sP (sN (sP T 0 T.1 k) (T.1 + 1)) 1 T.1 0)) kr ar ik F f n s1 s2 s3 cr (nx f n p)) k5_128 cv_X5_wordOf_M 0 4 rfl rfl rfl [0, 1, 2, 3, 4, 5, 6, 7, 8, 9, 10, 11, 12] (by decide) rfl ⟨by decide, by decide⟩ rfl rfl ⟨by decide, by decide⟩ rfl rfl (Nat.le_of_ble_eq_true rfl) dX5_readsPerson_41 ?_
      refine aw_iload_n C dX5_readsPerson_44 rfl ?_
      refine aw_icmp_ne C 87 dX5_readsPerson_45 (by decide) (fun c_45_1 => ?_) (fun c_45_1 => ?_)
      · skip
        have k10 : wK f n (nx f n p) 10 = false := wW_f (k0 := 9) (m := 3) (w := 1) (by decide) (by decide) c_45_1
        refine aw_pc 87 rfl ?_
        refine aw_eq (lv' := [(0, .ref (y 0)), (1, .int k), (2, .int (nI T.1)), (3, .int (1 : Int32))]) (ws' := wMo cI cC y (rowOf (sP (sP (sN (sP T 0 T.1 k) (T.1 + 1)) 1 T.1 0) 2 T.1 0)) (kr, ar, ik, F, f, n, (tkR f n (nx f n p)), (nx f n p), (tkE f n (nx f n p)), (vlR f n (nx f n p)), s1, s2, s3, cr)) rfl rfl (by rw [sP_z (show ((sP (sN (sP T 0 T.1 k) (T.1 + 1)) 1 T.1 0)).2.2.1 2 T.1 = 0 from ho.z 2 (by decide) T.1 (Nat.le_refl _))]) ?_
        refine aw_iinc C (2 : Int32) dX5_readsPerson_87 rfl (by decide) (by decide) rfl (lv' := [(0, .ref (y 0)), (1, .int k), (2, .int (nI T.1)), (3, .int (2 : Int32))]) rfl ?_
        refine aw_goto C 31 dX5_readsPerson_90 (by decide) ?_
        refine aw_iload_n C dX5_readsPerson_31 rfl ?_
        refine aw_iconst C (2 : Int32) dX5_readsPerson_32 (by decide) ?_
        refine aw_icmp_ge C 93 dX5_readsPerson_33 (by decide) (fun c_33 => ?_) (fun c_33 => absurd c_33 (by decide))
        refine aw_aload_n C dX5_readsPerson_93 rfl ?_
        refine aw_aload_n C dX5_readsPerson_94 rfl ?_
        refine aw_getf C 0 4 12 18 inX5 rfl (by decide) rfl k4_6 rfl rfl dX5_readsPerson_95 ?_
        refine aw_callVp C (As := [.ref (y 7)]) (c_X5_wordOf_M l D cI cC adK adV y (rowOf (sP (sP (sN (sP T 0 T.1 k) (T.1 + 1)) 1 T.1 0) 2 T.1 0)) kr ar ik F f n s1 s2 s3 cr (nx f n p)) k5_128 cv_X5_wordOf_M 0 4 rfl rfl rfl [0, 1, 2, 3, 4, 5, 6, 7, 8, 9, 10, 11, 12] (by decide) rfl ⟨by decide, by decide⟩ rfl rfl ⟨by decide, by decide⟩ rfl rfl (Nat.le_of_ble_eq_true rfl) dX5_readsPerson_98 ?_
        refine aw_pc 101 rfl ?_
        refine aw_iconst C (2 : Int32) dX5_readsPerson_101 (by decide) ?_
        refine aw_icmp_ne C 116 dX5_readsPerson_102 (by decide) (fun c_102 => ?_) (fun c_102 => ?_)
        · skip
          have k11 : wK f n (nx f n p) 11 = false := wW_f (k0 := 9) (m := 3) (w := 2) (by decide) (by decide) c_102
          refine aw_iconst C (1 : Int32) dX5_readsPerson_116 (by decide) ?_
          have hm : (rdOne f n k T p) = (true, (sP (sP (sN (sP T 0 T.1 k) (T.1 + 1)) 1 T.1 0) 2 T.1 0), (nx f n p)) := by simp only [rdOne, rdAt, rdAs, rdOut, decide_eq_true c9, k9, k10, k11, decide_true, decide_false, Bool.not_true, Bool.not_false, Bool.true_and, Bool.false_and, Bool.and_true, Bool.and_false, Bool.true_or, Bool.false_or, Bool.or_true, Bool.or_false, cond_true, cond_false, eq_self, if_true, if_false, ite_true, ite_false] <;> rfl
          exact aw_bret C (b := true) hr hlk dX5_readsPerson_117 rfl ⟨rb (by rw [hm]), (rowOf (sP (sP (sN (sP T 0 T.1 k) (T.1 + 1)) 1 T.1 0) 2 T.1 0)), by rw [hm], fun _ => by rw [hm]⟩
        · skip
          have k11 : wK f n (nx f n p) 11 = true := (wW_iff (k0 := 9) (m := 3) (w := 2) (by decide) (by decide)).mp c_102
          refine aw_aload_n C dX5_readsPerson_105 rfl ?_
          refine aw_callVdv C (As := []) (c_X5_nextTokenS l D cI cC adK adV y (rowOf (sP (sP (sN (sP T 0 T.1 k) (T.1 + 1)) 1 T.1 0) 2 T.1 0)) kr ar ik F f n s1 s2 s3 cr (nx f n p) (nx_le hp) hn) k5_108 cv_X5_nextToken 0 4 rfl rfl rfl [0, 1, 2, 3, 4, 5, 6, 7, 8, 9, 10, 11, 12] (by decide) rfl (wr := ([] : va_W)) [] rfl (by decide) (by decide) [0, 1, 2, 3, 4, 5, 6, 7, 8, 9, 10, 11, 12] (by decide) (ws' := wMo cI cC y (rowOf (sP (sP (sN (sP T 0 T.1 k) (T.1 + 1)) 1 T.1 0) 2 T.1 0)) (kr, ar, ik, F, f, n, (tkR f n (nx f n (nx f n p))), (nx f n (nx f n p)), (tkE f n (nx f n (nx f n p))), (vlR f n (nx f n (nx f n p))), s1, s2, s3, cr)) rfl ⟨by decide, by decide⟩ rfl rfl ⟨by decide, by decide⟩ rfl rfl (Nat.le_of_ble_eq_true rfl) dX5_readsPerson_106 ?_
          refine aw_aload_n C dX5_readsPerson_109 rfl ?_
          refine aw_iload_n C dX5_readsPerson_110 rfl ?_
          refine aw_iconst C (5 : Int32) dX5_readsPerson_111 (by decide) ?_
          refine aw_iconst C (1 : Int32) dX5_readsPerson_112 (by decide) ?_
          refine aw_pc 113 rfl ?_
          refine aw_callVdv C (As := [.int (nI T.1), .int (5 : Int32), .int (1 : Int32)]) (c_X5_puts l D cI cC adK adV y (sP (sP (sN (sP T 0 T.1 k) (T.1 + 1)) 1 T.1 0) 2 T.1 0) (kr, ar, ik, F, f, n, (tkR f n (nx f n (nx f n p))), (nx f n (nx f n p)), (tkE f n (nx f n (nx f n p))), (vlR f n (nx f n (nx f n p))), s1, s2, s3, cr) T.1 5 (1 : Int32) (by omega) (by decide)) k4_69 cv_X5_puts 0 4 rfl rfl rfl [0, 1, 2, 3, 4, 5, 6, 7, 8, 9, 10, 11, 12] (by decide) rfl (wr := ([] : va_W)) [] rfl (by decide) (by decide) [0, 1, 2, 3, 4, 5, 6, 7, 8, 9, 10, 11, 12] (by decide) (ws' := wMo cI cC y (rowOf (sP (sP (sP (sN (sP T 0 T.1 k) (T.1 + 1)) 1 T.1 0) 2 T.1 0) 5 T.1 (1 : Int32))) (kr, ar, ik, F, f, n, (tkR f n (nx f n (nx f n p))), (nx f n (nx f n p)), (tkE f n (nx f n (nx f n p))), (vlR f n (nx f n (nx f n p))), s1, s2, s3, cr)) rfl ⟨by decide, by decide⟩ rfl rfl ⟨by decide, by decide⟩ rfl rfl (Nat.le_of_ble_eq_true rfl) dX5_readsPerson_113 ?_
          refine aw_iconst C (1 : Int32) dX5_readsPerson_116 (by decide) ?_
          have hm : (rdOne f n k T p) = (true, (sP (sP (sP (sN (sP T 0 T.1 k) (T.1 + 1)) 1 T.1 0) 2 T.1 0) 5 T.1 (1 : Int32)), (nx f n (nx f n p))) := by simp only [rdOne, rdAt, rdAs, rdOut, decide_eq_true c9, k9, k10, k11, decide_true, decide_false, Bool.not_true, Bool.not_false, Bool.true_and, Bool.false_and, Bool.and_true, Bool.and_false, Bool.true_or, Bool.false_or, Bool.or_true, Bool.or_false, cond_true, cond_false, eq_self, if_true, if_false, ite_true, ite_false] <;> rfl
          exact aw_bret C (b := true) hr hlk dX5_readsPerson_117 rfl ⟨rb (by rw [hm]), (rowOf (sP (sP (sP (sN (sP T 0 T.1 k) (T.1 + 1)) 1 T.1 0) 2 T.1 0) 5 T.1 (1 : Int32))), by rw [hm], fun _ => by rw [hm]⟩
      · skip
        have k10 : wK f n (nx f n p) 10 = true := (wW_iff (k0 := 9) (m := 3) (w := 1) (by decide) (by decide)).mp c_45_1
        refine aw_aload_n C dX5_readsPerson_48 rfl ?_
        refine aw_callVdv C (As := []) (c_X5_nextTokenS l D cI cC adK adV y (rowOf (sP (sN (sP T 0 T.1 k) (T.1 + 1)) 1 T.1 0)) kr ar ik F f n s1 s2 s3 cr (nx f n p) (nx_le hp) hn) k5_108 cv_X5_nextToken 0 4 rfl rfl rfl [0, 1, 2, 3, 4, 5, 6, 7, 8, 9, 10, 11, 12] (by decide) rfl (wr := ([] : va_W)) [] rfl (by decide) (by decide) [0, 1, 2, 3, 4, 5, 6, 7, 8, 9, 10, 11, 12] (by decide) (ws' := wMo cI cC y (rowOf (sP (sN (sP T 0 T.1 k) (T.1 + 1)) 1 T.1 0)) (kr, ar, ik, F, f, n, (tkR f n (nx f n (nx f n p))), (nx f n (nx f n p)), (tkE f n (nx f n (nx f n p))), (vlR f n (nx f n (nx f n p))), s1, s2, s3, cr)) rfl ⟨by decide, by decide⟩ rfl rfl ⟨by decide, by decide⟩ rfl rfl (Nat.le_of_ble_eq_true rfl) dX5_readsPerson_49 ?_
        refine aw_aload_n C dX5_readsPerson_52 rfl ?_
        refine aw_iconst C (0 : Int32) dX5_readsPerson_53 (by decide) ?_
        refine aw_iload_n C dX5_readsPerson_54 rfl ?_
        refine aw_if_ne C 63 dX5_readsPerson_55 (by decide) (fun c_55 => ?_) (fun c_55 => absurd c_55 (by decide))
        refine aw_bipush C (11 : Int32) dX5_readsPerson_63 (by decide) ?_
        refine aw_pc 65 rfl ?_
        refine aw_callVd C (As := [.int (0 : Int32), .int (nI 12 - (1 : Int32))]) (c_X5_takesNumber l D cI cC adK adV y (rowOf (sP (sN (sP T 0 T.1 k) (T.1 + 1)) 1 T.1 0)) kr ar ik F f n s1 s2 s3 cr (nx f n (nx f n p)) 12 (nx_le (nx_le hp)) hn (by omega)) k5_136 cv_X5_takesNumber 0 4 rfl rfl rfl [0, 1, 2, 3, 4, 5, 6, 7, 8, 9, 10, 11, 12] (by decide) rfl (wr := ([] : va_W)) [] rfl (by decide) (by decide) [0, 1, 2, 3, 4, 5, 6, 7, 8, 9, 10, 11, 12] (by decide) (ws' := wMo cI cC y (rowOf (sP (sN (sP T 0 T.1 k) (T.1 + 1)) 1 T.1 0)) (kr, ar, ik, F, f, n, (tkR f n (tkP f n (nx f n (nx f n p)) 12)), (tkP f n (nx f n (nx f n p)) 12), (tkE f n (tkP f n (nx f n (nx f n p)) 12)), (vlR f n (tkP f n (nx f n (nx f n p)) 12)), s1, s2, s3, cr)) rfl ⟨by decide, by decide⟩ rfl rfl ⟨by decide, by decide⟩ rfl rfl (Nat.le_of_ble_eq_true rfl) dX5_readsPerson_65 ?_
        rcases b_tf (nB f n (nx f n (nx f n p)) (nI 12)) with hb1 | hb1
        · skip
          refine aw_eq (lv' := [(0, .ref (y 0)), (1, .int k), (2, .int (nI T.1)), (3, .int (1 : Int32))]) (st' := [.int (nmV f n (nx f n (nx f n p)))]) (ws' := wMo cI cC y (rowOf (sP (sN (sP T 0 T.1 k) (T.1 + 1)) 1 T.1 0)) (kr, ar, ik, F, f, n, (tkR f n (nx f n (nx f n (nx f n p)))), (nx f n (nx f n (nx f n p))), (tkE f n (nx f n (nx f n (nx f n p)))), (vlR f n (nx f n (nx f n (nx f n p)))), s1, s2, s3, cr)) rfl (by rw [tkV, hb1, cond_true]) (by rw [tkP, hb1, cond_true]) ?_
          have hb1 : nB f n (nx f n (nx f n p)) 12 = true := hb1
          refine aw_istore C true (lv' := [(0, .ref (y 0)), (1, .int k), (2, .int (nI T.1)), (3, .int (1 : Int32)), (4, .int (nmV f n (nx f n (nx f n p))))]) dX5_readsPerson_68 (by decide) rfl rfl ?_
          refine aw_iload C dX5_readsPerson_70 rfl ?_
          refine aw_if_ge C 77 dX5_readsPerson_72 (by decide) (fun c_72 => ?_) (fun c_72 => absurd c_72 (fun z => z (nmV_ge _ _ _)))
          refine aw_aload_n C dX5_readsPerson_77 rfl ?_
          refine aw_iload_n C dX5_readsPerson_78 rfl ?_
          refine aw_iconst C (1 : Int32) dX5_readsPerson_79 (by decide) ?_
          refine aw_iload_n C dX5_readsPerson_80 rfl ?_
          refine aw_iadd C dX5_readsPerson_81 ?_
          refine aw_top (y := (2 : Int32)) (by decide) ?_
          refine aw_iload C dX5_readsPerson_82 rfl ?_
          refine aw_pc 84 rfl ?_
          refine aw_callVdv C (As := [.int (nI T.1), .int (2 : Int32), .int (nmV f n (nx f n (nx f n p)))]) (c_X5_puts l D cI cC adK adV y (sP (sN (sP T 0 T.1 k) (T.1 + 1)) 1 T.1 0) (kr, ar, ik, F, f, n, (tkR f n (nx f n (nx f n (nx f n p)))), (nx f n (nx f n (nx f n p))), (tkE f n (nx f n (nx f n (nx f n p)))), (vlR f n (nx f n (nx f n (nx f n p)))), s1, s2, s3, cr) T.1 2 (nmV f n (nx f n (nx f n p))) (by omega) (by decide)) k4_69 cv_X5_puts 0 4 rfl rfl rfl [0, 1, 2, 3, 4, 5, 6, 7, 8, 9, 10, 11, 12] (by decide) rfl (wr := ([] : va_W)) [] rfl (by decide) (by decide) [0, 1, 2, 3, 4, 5, 6, 7, 8, 9, 10, 11, 12] (by decide) (ws' := wMo cI cC y (rowOf (sP (sP (sN (sP T 0 T.1 k) (T.1 + 1)) 1 T.1 0) 2 T.1 (nmV f n (nx f n (nx f n p))))) (kr, ar, ik, F, f, n, (tkR f n (nx f n (nx f n (nx f n p)))), (nx f n (nx f n (nx f n p))), (tkE f n (nx f n (nx f n (nx f n p)))), (vlR f n (nx f n (nx f n (nx f n p)))), s1, s2, s3, cr)) rfl ⟨by decide, by decide⟩ rfl rfl ⟨by decide, by decide⟩ rfl rfl (Nat.le_of_ble_eq_true rfl) dX5_readsPerson_84 ?_
          refine aw_iinc C (2 : Int32) dX5_readsPerson_87 rfl (by decide) (by decide) rfl (lv' := [(0, .ref (y 0)), (1, .int k), (2, .int (nI T.1)), (3, .int (2 : Int32)), (4, .int (nmV f n (nx f n (nx f n p))))]) rfl ?_
          refine aw_goto C 31 dX5_readsPerson_90 (by decide) ?_
          refine aw_iload_n C dX5_readsPerson_31 rfl ?_
          refine aw_iconst C (2 : Int32) dX5_readsPerson_32 (by decide) ?_
          refine aw_icmp_ge C 93 dX5_readsPerson_33 (by decide) (fun c_33 => ?_) (fun c_33 => absurd c_33 (by decide))
          refine aw_aload_n C dX5_readsPerson_93 rfl ?_
          refine aw_aload_n C dX5_readsPerson_94 rfl ?_
          refine aw_getf C 0 4 12 18 inX5 rfl (by decide) rfl k4_6 rfl rfl dX5_readsPerson_95 ?_
          refine aw_callVp C (As := [.ref (y 7)]) (c_X5_wordOf_M l D cI cC adK adV y (rowOf (sP (sP (sN (sP T 0 T.1 k) (T.1 + 1)) 1 T.1 0) 2 T.1 (nmV f n (nx f n (nx f n p))))) kr ar ik F f n s1 s2 s3 cr (nx f n (nx f n (nx f n p)))) k5_128 cv_X5_wordOf_M 0 4 rfl rfl rfl [0, 1, 2, 3, 4, 5, 6, 7, 8, 9, 10, 11, 12] (by decide) rfl ⟨by decide, by decide⟩ rfl rfl ⟨by decide, by decide⟩ rfl rfl (Nat.le_of_ble_eq_true rfl) dX5_readsPerson_98 ?_
          refine aw_pc 101 rfl ?_
          refine aw_iconst C (2 : Int32) dX5_readsPerson_101 (by decide) ?_
          refine aw_icmp_ne C 116 dX5_readsPerson_102 (by decide) (fun c_102 => ?_) (fun c_102 => ?_)
          · skip
            have k11 : wK f n (nx f n (nx f n (nx f n p))) 11 = false := wW_f (k0 := 9) (m := 3) (w := 2) (by decide) (by decide) c_102
            refine aw_iconst C (1 : Int32) dX5_readsPerson_116 (by decide) ?_
            have hm : (rdOne f n k T p) = (true, (sP (sP (sN (sP T 0 T.1 k) (T.1 + 1)) 1 T.1 0) 2 T.1 (nmV f n (nx f n (nx f n p)))), (nx f n (nx f n (nx f n p)))) := by simp only [rdOne, rdAt, rdAs, rdOut, decide_eq_true c9, k9, k10, hb1, k11, decide_true, decide_false, Bool.not_true, Bool.not_false, Bool.true_and, Bool.false_and, Bool.and_true, Bool.and_false, Bool.true_or, Bool.false_or, Bool.or_true, Bool.or_false, cond_true, cond_false, eq_self, if_true, if_false, ite_true, ite_false] <;> rfl
            exact aw_bret C (b := true) hr hlk dX5_readsPerson_117 rfl ⟨rb (by rw [hm]), (rowOf (sP (sP (sN (sP T 0 T.1 k) (T.1 + 1)) 1 T.1 0) 2 T.1 (nmV f n (nx f n (nx f n p))))), by rw [hm], fun _ => by rw [hm]⟩
          · skip
            have k11 : wK f n (nx f n (nx f n (nx f n p))) 11 = true := (wW_iff (k0 := 9) (m := 3) (w := 2) (by decide) (by decide)).mp c_102
            refine aw_aload_n C dX5_readsPerson_105 rfl ?_
            refine aw_callVdv C (As := []) (c_X5_nextTokenS l D cI cC adK adV y (rowOf (sP (sP (sN (sP T 0 T.1 k) (T.1 + 1)) 1 T.1 0) 2 T.1 (nmV f n (nx f n (nx f n p))))) kr ar ik F f n s1 s2 s3 cr (nx f n (nx f n (nx f n p))) (nx_le (nx_le (nx_le hp))) hn) k5_108 cv_X5_nextToken 0 4 rfl rfl rfl [0, 1, 2, 3, 4, 5, 6, 7, 8, 9, 10, 11, 12] (by decide) rfl (wr := ([] : va_W)) [] rfl (by decide) (by decide) [0, 1, 2, 3, 4, 5, 6, 7, 8, 9, 10, 11, 12] (by decide) (ws' := wMo cI cC y (rowOf (sP (sP (sN (sP T 0 T.1 k) (T.1 + 1)) 1 T.1 0) 2 T.1 (nmV f n (nx f n (nx f n p))))) (kr, ar, ik, F, f, n, (tkR f n (nx f n (nx f n (nx f n (nx f n p))))), (nx f n (nx f n (nx f n (nx f n p)))), (tkE f n (nx f n (nx f n (nx f n (nx f n p))))), (vlR f n (nx f n (nx f n (nx f n (nx f n p))))), s1, s2, s3, cr)) rfl ⟨by decide, by decide⟩ rfl rfl ⟨by decide, by decide⟩ rfl rfl (Nat.le_of_ble_eq_true rfl) dX5_readsPerson_106 ?_
            refine aw_aload_n C dX5_readsPerson_109 rfl ?_
            refine aw_iload_n C dX5_readsPerson_110 rfl ?_
            refine aw_iconst C (5 : Int32) dX5_readsPerson_111 (by decide) ?_
            refine aw_iconst C (1 : Int32) dX5_readsPerson_112 (by decide) ?_
            refine aw_pc 113 rfl ?_
            refine aw_callVdv C (As := [.int (nI T.1), .int (5 : Int32), .int (1 : Int32)]) (c_X5_puts l D cI cC adK adV y (sP (sP (sN (sP T 0 T.1 k) (T.1 + 1)) 1 T.1 0) 2 T.1 (nmV f n (nx f n (nx f n p)))) (kr, ar, ik, F, f, n, (tkR f n (nx f n (nx f n (nx f n (nx f n p))))), (nx f n (nx f n (nx f n (nx f n p)))), (tkE f n (nx f n (nx f n (nx f n (nx f n p))))), (vlR f n (nx f n (nx f n (nx f n (nx f n p))))), s1, s2, s3, cr) T.1 5 (1 : Int32) (by omega) (by decide)) k4_69 cv_X5_puts 0 4 rfl rfl rfl [0, 1, 2, 3, 4, 5, 6, 7, 8, 9, 10, 11, 12] (by decide) rfl (wr := ([] : va_W)) [] rfl (by decide) (by decide) [0, 1, 2, 3, 4, 5, 6, 7, 8, 9, 10, 11, 12] (by decide) (ws' := wMo cI cC y (rowOf (sP (sP (sP (sN (sP T 0 T.1 k) (T.1 + 1)) 1 T.1 0) 2 T.1 (nmV f n (nx f n (nx f n p)))) 5 T.1 (1 : Int32))) (kr, ar, ik, F, f, n, (tkR f n (nx f n (nx f n (nx f n (nx f n p))))), (nx f n (nx f n (nx f n (nx f n p)))), (tkE f n (nx f n (nx f n (nx f n (nx f n p))))), (vlR f n (nx f n (nx f n (nx f n (nx f n p))))), s1, s2, s3, cr)) rfl ⟨by decide, by decide⟩ rfl rfl ⟨by decide, by decide⟩ rfl rfl (Nat.le_of_ble_eq_true rfl) dX5_readsPerson_113 ?_
            refine aw_iconst C (1 : Int32) dX5_readsPerson_116 (by decide) ?_
            have hm : (rdOne f n k T p) = (true, (sP (sP (sP (sN (sP T 0 T.1 k) (T.1 + 1)) 1 T.1 0) 2 T.1 (nmV f n (nx f n (nx f n p)))) 5 T.1 (1 : Int32)), (nx f n (nx f n (nx f n (nx f n p))))) := by simp only [rdOne, rdAt, rdAs, rdOut, decide_eq_true c9, k9, k10, hb1, k11, decide_true, decide_false, Bool.not_true, Bool.not_false, Bool.true_and, Bool.false_and, Bool.and_true, Bool.and_false, Bool.true_or, Bool.false_or, Bool.or_true, Bool.or_false, cond_true, cond_false, eq_self, if_true, if_false, ite_true, ite_false] <;> rfl
            exact aw_bret C (b := true) hr hlk dX5_readsPerson_117 rfl ⟨rb (by rw [hm]), (rowOf (sP (sP (sP (sN (sP T 0 T.1 k) (T.1 + 1)) 1 T.1 0) 2 T.1 (nmV f n (nx f n (nx f n p)))) 5 T.1 (1 : Int32))), by rw [hm], fun _ => by rw [hm]⟩
        · skip
          refine aw_eq (lv' := [(0, .ref (y 0)), (1, .int k), (2, .int (nI T.1)), (3, .int (1 : Int32))]) (st' := [.int (-1 : Int32)]) (ws' := wMo cI cC y (rowOf (sP (sN (sP T 0 T.1 k) (T.1 + 1)) 1 T.1 0)) (kr, ar, ik, F, f, n, (tkR f n (nx f n (nx f n p))), (nx f n (nx f n p)), (tkE f n (nx f n (nx f n p))), (vlR f n (nx f n (nx f n p))), s1, s2, s3, cr)) rfl (by rw [tkV, hb1, cond_false]) (by rw [tkP, hb1, cond_false]) ?_
          have hb1 : nB f n (nx f n (nx f n p)) 12 = false := hb1
          refine aw_istore C true (lv' := [(0, .ref (y 0)), (1, .int k), (2, .int (nI T.1)), (3, .int (1 : Int32)), (4, .int (-1 : Int32))]) dX5_readsPerson_68 (by decide) rfl rfl ?_
          refine aw_iload C dX5_readsPerson_70 rfl ?_
          refine aw_if_ge C 77 dX5_readsPerson_72 (by decide) (fun c_72 => absurd c_72 (by decide)) (fun c_72 => ?_)
          refine aw_iconst C (0 : Int32) dX5_readsPerson_75 (by decide) ?_
          have hm : (rdOne f n k T p) = (false, T, (nx f n (nx f n p))) := by simp only [rdOne, rdAt, rdAs, rdOut, decide_eq_true c9, k9, k10, hb1, decide_true, decide_false, Bool.not_true, Bool.not_false, Bool.true_and, Bool.false_and, Bool.and_true, Bool.and_false, Bool.true_or, Bool.false_or, Bool.or_true, Bool.or_false, cond_true, cond_false, eq_self, if_true, if_false, ite_true, ite_false]
          exact aw_bret C (b := false) hr hlk dX5_readsPerson_76 rfl ⟨rb (by rw [hm]), (rowOf (sP (sN (sP T 0 T.1 k) (T.1 + 1)) 1 T.1 0)), by rw [hm], fun z => by rw [hm] at z; exact absurd z Bool.false_ne_true⟩
    · skip
      have k9 : wK f n (nx f n p) 9 = true := (wW_iff (k0 := 9) (m := 3) (w := 0) (by decide) (by decide)).mp c_45
      refine aw_aload_n C dX5_readsPerson_48 rfl ?_
      refine aw_callVdv C (As := []) (c_X5_nextTokenS l D cI cC adK adV y (rowOf (sN (sP T 0 T.1 k) (T.1 + 1))) kr ar ik F f n s1 s2 s3 cr (nx f n p) (nx_le hp) hn) k5_108 cv_X5_nextToken 0 4 rfl rfl rfl [0, 1, 2, 3, 4, 5, 6, 7, 8, 9, 10, 11, 12] (by decide) rfl (wr := ([] : va_W)) [] rfl (by decide) (by decide) [0, 1, 2, 3, 4, 5, 6, 7, 8, 9, 10, 11, 12] (by decide) (ws' := wMo cI cC y (rowOf (sN (sP T 0 T.1 k) (T.1 + 1))) (kr, ar, ik, F, f, n, (tkR f n (nx f n (nx f n p))), (nx f n (nx f n p)), (tkE f n (nx f n (nx f n p))), (vlR f n (nx f n (nx f n p))), s1, s2, s3, cr)) rfl ⟨by decide, by decide⟩ rfl rfl ⟨by decide, by decide⟩ rfl rfl (Nat.le_of_ble_eq_true rfl) dX5_readsPerson_49 ?_
      refine aw_pc 52 rfl ?_
      refine aw_aload_n C dX5_readsPerson_52 rfl ?_
      refine aw_iconst C (0 : Int32) dX5_readsPerson_53 (by decide) ?_
      refine aw_iload_n C dX5_readsPerson_54 rfl ?_
      refine aw_if_ne C 63 dX5_readsPerson_55 (by decide) (fun c_55 => absurd c_55 (by decide)) (fun c_55 => ?_)
      refine aw_bipush C (15 : Int32) dX5_readsPerson_58 (by decide) ?_
      refine aw_goto C 65 dX5_readsPerson_60 (by decide) ?_
      refine aw_callVd C (As := [.int (0 : Int32), .int (nI 16 - (1 : Int32))]) (c_X5_takesNumber l D cI cC adK adV y (rowOf (sN (sP T 0 T.1 k) (T.1 + 1))) kr ar ik F f n s1 s2 s3 cr (nx f n (nx f n p)) 16 (nx_le (nx_le hp)) hn (by omega)) k5_136 cv_X5_takesNumber 0 4 rfl rfl rfl [0, 1, 2, 3, 4, 5, 6, 7, 8, 9, 10, 11, 12] (by decide) rfl (wr := ([] : va_W)) [] rfl (by decide) (by decide) [0, 1, 2, 3, 4, 5, 6, 7, 8, 9, 10, 11, 12] (by decide) (ws' := wMo cI cC y (rowOf (sN (sP T 0 T.1 k) (T.1 + 1))) (kr, ar, ik, F, f, n, (tkR f n (tkP f n (nx f n (nx f n p)) 16)), (tkP f n (nx f n (nx f n p)) 16), (tkE f n (tkP f n (nx f n (nx f n p)) 16)), (vlR f n (tkP f n (nx f n (nx f n p)) 16)), s1, s2, s3, cr)) rfl ⟨by decide, by decide⟩ rfl rfl ⟨by decide, by decide⟩ rfl rfl (Nat.le_of_ble_eq_true rfl) dX5_readsPerson_65 ?_
      rcases b_tf (nB f n (nx f n (nx f n p)) (nI 16)) with hb2 | hb2
      · skip
        refine aw_eq (lv' := [(0, .ref (y 0)), (1, .int k), (2, .int (nI T.1)), (3, .int (0 : Int32))]) (st' := [.int (nmV f n (nx f n (nx f n p)))]) (ws' := wMo cI cC y (rowOf (sN (sP T 0 T.1 k) (T.1 + 1))) (kr, ar, ik, F, f, n, (tkR f n (nx f n (nx f n (nx f n p)))), (nx f n (nx f n (nx f n p))), (tkE f n (nx f n (nx f n (nx f n p)))), (vlR f n (nx f n (nx f n (nx f n p)))), s1, s2, s3, cr)) rfl (by rw [tkV, hb2, cond_true]) (by rw [tkP, hb2, cond_true]) ?_
        have hb2 : nB f n (nx f n (nx f n p)) 16 = true := hb2
        refine aw_istore C true (lv' := [(0, .ref (y 0)), (1, .int k), (2, .int (nI T.1)), (3, .int (0 : Int32)), (4, .int (nmV f n (nx f n (nx f n p))))]) dX5_readsPerson_68 (by decide) rfl rfl ?_
        refine aw_iload C dX5_readsPerson_70 rfl ?_
        refine aw_if_ge C 77 dX5_readsPerson_72 (by decide) (fun c_72 => ?_) (fun c_72 => absurd c_72 (fun z => z (nmV_ge _ _ _)))
        refine aw_pc 77 rfl ?_
        refine aw_aload_n C dX5_readsPerson_77 rfl ?_
        refine aw_iload_n C dX5_readsPerson_78 rfl ?_
        refine aw_iconst C (1 : Int32) dX5_readsPerson_79 (by decide) ?_
        refine aw_iload_n C dX5_readsPerson_80 rfl ?_
        refine aw_iadd C dX5_readsPerson_81 ?_
        refine aw_top (y := (1 : Int32)) (by decide) ?_
        refine aw_iload C dX5_readsPerson_82 rfl ?_
        refine aw_callVdv C (As := [.int (nI T.1), .int (1 : Int32), .int (nmV f n (nx f n (nx f n p)))]) (c_X5_puts l D cI cC adK adV y (sN (sP T 0 T.1 k) (T.1 + 1)) (kr, ar, ik, F, f, n, (tkR f n (nx f n (nx f n (nx f n p)))), (nx f n (nx f n (nx f n p))), (tkE f n (nx f n (nx f n (nx f n p)))), (vlR f n (nx f n (nx f n (nx f n p)))), s1, s2, s3, cr) T.1 1 (nmV f n (nx f n (nx f n p))) (by omega) (by decide)) k4_69 cv_X5_puts 0 4 rfl rfl rfl [0, 1, 2, 3, 4, 5, 6, 7, 8, 9, 10, 11, 12] (by decide) rfl (wr := ([] : va_W)) [] rfl (by decide) (by decide) [0, 1, 2, 3, 4, 5, 6, 7, 8, 9, 10, 11, 12] (by decide) (ws' := wMo cI cC y (rowOf (sP (sN (sP T 0 T.1 k) (T.1 + 1)) 1 T.1 (nmV f n (nx f n (nx f n p))))) (kr, ar, ik, F, f, n, (tkR f n (nx f n (nx f n (nx f n p)))), (nx f n (nx f n (nx f n p))), (tkE f n (nx f n (nx f n (nx f n p)))), (vlR f n (nx f n (nx f n (nx f n p)))), s1, s2, s3, cr)) rfl ⟨by decide, by decide⟩ rfl rfl ⟨by decide, by decide⟩ rfl rfl (Nat.le_of_ble_eq_true rfl) dX5_readsPerson_84 ?_
        refine aw_iinc C (1 : Int32) dX5_readsPerson_87 rfl (by decide) (by decide) rfl (lv' := [(0, .ref (y 0)), (1, .int k), (2, .int (nI T.1)), (3, .int (1 : Int32)), (4, .int (nmV f n (nx f n (nx f n p))))]) rfl ?_
        refine aw_goto C 31 dX5_readsPerson_90 (by decide) ?_
        refine aw_iload_n C dX5_readsPerson_31 rfl ?_
        refine aw_pc 32 rfl ?_
        refine aw_iconst C (2 : Int32) dX5_readsPerson_32 (by decide) ?_
        refine aw_icmp_ge C 93 dX5_readsPerson_33 (by decide) (fun c_33 => absurd c_33 (by decide)) (fun c_33 => ?_)
        refine aw_aload_n C dX5_readsPerson_36 rfl ?_
        refine aw_aload_n C dX5_readsPerson_37 rfl ?_
        refine aw_getf C 0 4 12 18 inX5 rfl (by decide) rfl k4_6 rfl rfl dX5_readsPerson_38 ?_
        refine aw_callVp C (As := [.ref (y 7)]) (c_X5_wordOf_M l D cI cC adK adV y (rowOf (sP (sN (sP T 0 T.1 k) (T.1 + 1)) 1 T.1 (nmV f n (nx f n (nx f n p))))) kr ar ik F f n s1 s2 s3 cr (nx f n (nx f n (nx f n p)))) k5_128 cv_X5_wordOf_M 0 4 rfl rfl rfl [0, 1, 2, 3, 4, 5, 6, 7, 8, 9, 10, 11, 12] (by decide) rfl ⟨by decide, by decide⟩ rfl rfl ⟨by decide, by decide⟩ rfl rfl (Nat.le_of_ble_eq_true rfl) dX5_readsPerson_41 ?_
        refine aw_iload_n C dX5_readsPerson_44 rfl ?_
        refine aw_icmp_ne C 87 dX5_readsPerson_45 (by decide) (fun c_45_2 => ?_) (fun c_45_2 => ?_)
        · skip
          have k10 : wK f n (nx f n (nx f n (nx f n p))) 10 = false := wW_f (k0 := 9) (m := 3) (w := 1) (by decide) (by decide) c_45_2
          refine aw_eq (lv' := [(0, .ref (y 0)), (1, .int k), (2, .int (nI T.1)), (3, .int (1 : Int32)), (4, .int (nmV f n (nx f n (nx f n p))))]) (ws' := wMo cI cC y (rowOf (sP (sP (sN (sP T 0 T.1 k) (T.1 + 1)) 1 T.1 (nmV f n (nx f n (nx f n p)))) 2 T.1 0)) (kr, ar, ik, F, f, n, (tkR f n (nx f n (nx f n (nx f n p)))), (nx f n (nx f n (nx f n p))), (tkE f n (nx f n (nx f n (nx f n p)))), (vlR f n (nx f n (nx f n (nx f n p)))), s1, s2, s3, cr)) rfl rfl (by rw [sP_z (show ((sP (sN (sP T 0 T.1 k) (T.1 + 1)) 1 T.1 (nmV f n (nx f n (nx f n p))))).2.2.1 2 T.1 = 0 from ho.z 2 (by decide) T.1 (Nat.le_refl _))]) ?_
          refine aw_iinc C (2 : Int32) dX5_readsPerson_87 rfl (by decide) (by decide) rfl (lv' := [(0, .ref (y 0)), (1, .int k), (2, .int (nI T.1)), (3, .int (2 : Int32)), (4, .int (nmV f n (nx f n (nx f n p))))]) rfl ?_
          refine aw_pc 90 rfl ?_
          refine aw_goto C 31 dX5_readsPerson_90 (by decide) ?_
          refine aw_iload_n C dX5_readsPerson_31 rfl ?_
          refine aw_iconst C (2 : Int32) dX5_readsPerson_32 (by decide) ?_
          refine aw_icmp_ge C 93 dX5_readsPerson_33 (by decide) (fun c_33 => ?_) (fun c_33 => absurd c_33 (by decide))
          refine aw_aload_n C dX5_readsPerson_93 rfl ?_
          refine aw_aload_n C dX5_readsPerson_94 rfl ?_
          refine aw_getf C 0 4 12 18 inX5 rfl (by decide) rfl k4_6 rfl rfl dX5_readsPerson_95 ?_
          refine aw_callVp C (As := [.ref (y 7)]) (c_X5_wordOf_M l D cI cC adK adV y (rowOf (sP (sP (sN (sP T 0 T.1 k) (T.1 + 1)) 1 T.1 (nmV f n (nx f n (nx f n p)))) 2 T.1 0)) kr ar ik F f n s1 s2 s3 cr (nx f n (nx f n (nx f n p)))) k5_128 cv_X5_wordOf_M 0 4 rfl rfl rfl [0, 1, 2, 3, 4, 5, 6, 7, 8, 9, 10, 11, 12] (by decide) rfl ⟨by decide, by decide⟩ rfl rfl ⟨by decide, by decide⟩ rfl rfl (Nat.le_of_ble_eq_true rfl) dX5_readsPerson_98 ?_
          refine aw_iconst C (2 : Int32) dX5_readsPerson_101 (by decide) ?_
          refine aw_icmp_ne C 116 dX5_readsPerson_102 (by decide) (fun c_102 => ?_) (fun c_102 => ?_)
          · skip
            have k11 : wK f n (nx f n (nx f n (nx f n p))) 11 = false := wW_f (k0 := 9) (m := 3) (w := 2) (by decide) (by decide) c_102
            refine aw_pc 116 rfl ?_
            refine aw_iconst C (1 : Int32) dX5_readsPerson_116 (by decide) ?_
            have hm : (rdOne f n k T p) = (true, (sP (sP (sN (sP T 0 T.1 k) (T.1 + 1)) 1 T.1 (nmV f n (nx f n (nx f n p)))) 2 T.1 0), (nx f n (nx f n (nx f n p)))) := by simp only [rdOne, rdAt, rdAs, rdOut, decide_eq_true c9, k9, hb2, k10, k11, decide_true, decide_false, Bool.not_true, Bool.not_false, Bool.true_and, Bool.false_and, Bool.and_true, Bool.and_false, Bool.true_or, Bool.false_or, Bool.or_true, Bool.or_false, cond_true, cond_false, eq_self, if_true, if_false, ite_true, ite_false] <;> rfl
            exact aw_bret C (b := true) hr hlk dX5_readsPerson_117 rfl ⟨rb (by rw [hm]), (rowOf (sP (sP (sN (sP T 0 T.1 k) (T.1 + 1)) 1 T.1 (nmV f n (nx f n (nx f n p)))) 2 T.1 0)), by rw [hm], fun _ => by rw [hm]⟩
          · skip
            have k11 : wK f n (nx f n (nx f n (nx f n p))) 11 = true := (wW_iff (k0 := 9) (m := 3) (w := 2) (by decide) (by decide)).mp c_102
            refine aw_aload_n C dX5_readsPerson_105 rfl ?_
            refine aw_callVdv C (As := []) (c_X5_nextTokenS l D cI cC adK adV y (rowOf (sP (sP (sN (sP T 0 T.1 k) (T.1 + 1)) 1 T.1 (nmV f n (nx f n (nx f n p)))) 2 T.1 0)) kr ar ik F f n s1 s2 s3 cr (nx f n (nx f n (nx f n p))) (nx_le (nx_le (nx_le hp))) hn) k5_108 cv_X5_nextToken 0 4 rfl rfl rfl [0, 1, 2, 3, 4, 5, 6, 7, 8, 9, 10, 11, 12] (by decide) rfl (wr := ([] : va_W)) [] rfl (by decide) (by decide) [0, 1, 2, 3, 4, 5, 6, 7, 8, 9, 10, 11, 12] (by decide) (ws' := wMo cI cC y (rowOf (sP (sP (sN (sP T 0 T.1 k) (T.1 + 1)) 1 T.1 (nmV f n (nx f n (nx f n p)))) 2 T.1 0)) (kr, ar, ik, F, f, n, (tkR f n (nx f n (nx f n (nx f n (nx f n p))))), (nx f n (nx f n (nx f n (nx f n p)))), (tkE f n (nx f n (nx f n (nx f n (nx f n p))))), (vlR f n (nx f n (nx f n (nx f n (nx f n p))))), s1, s2, s3, cr)) rfl ⟨by decide, by decide⟩ rfl rfl ⟨by decide, by decide⟩ rfl rfl (Nat.le_of_ble_eq_true rfl) dX5_readsPerson_106 ?_
            refine aw_aload_n C dX5_readsPerson_109 rfl ?_
            refine aw_iload_n C dX5_readsPerson_110 rfl ?_
            refine aw_iconst C (5 : Int32) dX5_readsPerson_111 (by decide) ?_
            refine aw_iconst C (1 : Int32) dX5_readsPerson_112 (by decide) ?_
            refine aw_callVdv C (As := [.int (nI T.1), .int (5 : Int32), .int (1 : Int32)]) (c_X5_puts l D cI cC adK adV y (sP (sP (sN (sP T 0 T.1 k) (T.1 + 1)) 1 T.1 (nmV f n (nx f n (nx f n p)))) 2 T.1 0) (kr, ar, ik, F, f, n, (tkR f n (nx f n (nx f n (nx f n (nx f n p))))), (nx f n (nx f n (nx f n (nx f n p)))), (tkE f n (nx f n (nx f n (nx f n (nx f n p))))), (vlR f n (nx f n (nx f n (nx f n (nx f n p))))), s1, s2, s3, cr) T.1 5 (1 : Int32) (by omega) (by decide)) k4_69 cv_X5_puts 0 4 rfl rfl rfl [0, 1, 2, 3, 4, 5, 6, 7, 8, 9, 10, 11, 12] (by decide) rfl (wr := ([] : va_W)) [] rfl (by decide) (by decide) [0, 1, 2, 3, 4, 5, 6, 7, 8, 9, 10, 11, 12] (by decide) (ws' := wMo cI cC y (rowOf (sP (sP (sP (sN (sP T 0 T.1 k) (T.1 + 1)) 1 T.1 (nmV f n (nx f n (nx f n p)))) 2 T.1 0) 5 T.1 (1 : Int32))) (kr, ar, ik, F, f, n, (tkR f n (nx f n (nx f n (nx f n (nx f n p))))), (nx f n (nx f n (nx f n (nx f n p)))), (tkE f n (nx f n (nx f n (nx f n (nx f n p))))), (vlR f n (nx f n (nx f n (nx f n (nx f n p))))), s1, s2, s3, cr)) rfl ⟨by decide, by decide⟩ rfl rfl ⟨by decide, by decide⟩ rfl rfl (Nat.le_of_ble_eq_true rfl) dX5_readsPerson_113 ?_
            refine aw_iconst C (1 : Int32) dX5_readsPerson_116 (by decide) ?_
            refine aw_pc 117 rfl ?_
            have hm : (rdOne f n k T p) = (true, (sP (sP (sP (sN (sP T 0 T.1 k) (T.1 + 1)) 1 T.1 (nmV f n (nx f n (nx f n p)))) 2 T.1 0) 5 T.1 (1 : Int32)), (nx f n (nx f n (nx f n (nx f n p))))) := by simp only [rdOne, rdAt, rdAs, rdOut, decide_eq_true c9, k9, hb2, k10, k11, decide_true, decide_false, Bool.not_true, Bool.not_false, Bool.true_and, Bool.false_and, Bool.and_true, Bool.and_false, Bool.true_or, Bool.false_or, Bool.or_true, Bool.or_false, cond_true, cond_false, eq_self, if_true, if_false, ite_true, ite_false] <;> rfl
            exact aw_bret C (b := true) hr hlk dX5_readsPerson_117 rfl ⟨rb (by rw [hm]), (rowOf (sP (sP (sP (sN (sP T 0 T.1 k) (T.1 + 1)) 1 T.1 (nmV f n (nx f n (nx f n p)))) 2 T.1 0) 5 T.1 (1 : Int32))), by rw [hm], fun _ => by rw [hm]⟩
        · skip
          have k10 : wK f n (nx f n (nx f n (nx f n p))) 10 = true := (wW_iff (k0 := 9) (m := 3) (w := 1) (by decide) (by decide)).mp c_45_2
          refine aw_aload_n C dX5_readsPerson_48 rfl ?_
          refine aw_callVdv C (As := []) (c_X5_nextTokenS l D cI cC adK adV y (rowOf (sP (sN (sP T 0 T.1 k) (T.1 + 1)) 1 T.1 (nmV f n (nx f n (nx f n p))))) kr ar ik F f n s1 s2 s3 cr (nx f n (nx f n (nx f n p))) (nx_le (nx_le (nx_le hp))) hn) k5_108 cv_X5_nextToken 0 4 rfl rfl rfl [0, 1, 2, 3, 4, 5, 6, 7, 8, 9, 10, 11, 12] (by decide) rfl (wr := ([] : va_W)) [] rfl (by decide) (by decide) [0, 1, 2, 3, 4, 5, 6, 7, 8, 9, 10, 11, 12] (by decide) (ws' := wMo cI cC y (rowOf (sP (sN (sP T 0 T.1 k) (T.1 + 1)) 1 T.1 (nmV f n (nx f n (nx f n p))))) (kr, ar, ik, F, f, n, (tkR f n (nx f n (nx f n (nx f n (nx f n p))))), (nx f n (nx f n (nx f n (nx f n p)))), (tkE f n (nx f n (nx f n (nx f n (nx f n p))))), (vlR f n (nx f n (nx f n (nx f n (nx f n p))))), s1, s2, s3, cr)) rfl ⟨by decide, by decide⟩ rfl rfl ⟨by decide, by decide⟩ rfl rfl (Nat.le_of_ble_eq_true rfl) dX5_readsPerson_49 ?_
          refine aw_aload_n C dX5_readsPerson_52 rfl ?_
          refine aw_iconst C (0 : Int32) dX5_readsPerson_53 (by decide) ?_
          refine aw_iload_n C dX5_readsPerson_54 rfl ?_
          refine aw_if_ne C 63 dX5_readsPerson_55 (by decide) (fun c_55 => ?_) (fun c_55 => absurd c_55 (by decide))
          refine aw_bipush C (11 : Int32) dX5_readsPerson_63 (by decide) ?_
          refine aw_callVd C (As := [.int (0 : Int32), .int (nI 12 - (1 : Int32))]) (c_X5_takesNumber l D cI cC adK adV y (rowOf (sP (sN (sP T 0 T.1 k) (T.1 + 1)) 1 T.1 (nmV f n (nx f n (nx f n p))))) kr ar ik F f n s1 s2 s3 cr (nx f n (nx f n (nx f n (nx f n p)))) 12 (nx_le (nx_le (nx_le (nx_le hp)))) hn (by omega)) k5_136 cv_X5_takesNumber 0 4 rfl rfl rfl [0, 1, 2, 3, 4, 5, 6, 7, 8, 9, 10, 11, 12] (by decide) rfl (wr := ([] : va_W)) [] rfl (by decide) (by decide) [0, 1, 2, 3, 4, 5, 6, 7, 8, 9, 10, 11, 12] (by decide) (ws' := wMo cI cC y (rowOf (sP (sN (sP T 0 T.1 k) (T.1 + 1)) 1 T.1 (nmV f n (nx f n (nx f n p))))) (kr, ar, ik, F, f, n, (tkR f n (tkP f n (nx f n (nx f n (nx f n (nx f n p)))) 12)), (tkP f n (nx f n (nx f n (nx f n (nx f n p)))) 12), (tkE f n (tkP f n (nx f n (nx f n (nx f n (nx f n p)))) 12)), (vlR f n (tkP f n (nx f n (nx f n (nx f n (nx f n p)))) 12)), s1, s2, s3, cr)) rfl ⟨by decide, by decide⟩ rfl rfl ⟨by decide, by decide⟩ rfl rfl (Nat.le_of_ble_eq_true rfl) dX5_readsPerson_65 ?_
          rcases b_tf (nB f n (nx f n (nx f n (nx f n (nx f n p)))) (nI 12)) with hb3 | hb3
          · skip
            refine aw_eq (lv' := [(0, .ref (y 0)), (1, .int k), (2, .int (nI T.1)), (3, .int (1 : Int32)), (4, .int (nmV f n (nx f n (nx f n p))))]) (st' := [.int (nmV f n (nx f n (nx f n (nx f n (nx f n p)))))]) (ws' := wMo cI cC y (rowOf (sP (sN (sP T 0 T.1 k) (T.1 + 1)) 1 T.1 (nmV f n (nx f n (nx f n p))))) (kr, ar, ik, F, f, n, (tkR f n (nx f n (nx f n (nx f n (nx f n (nx f n p)))))), (nx f n (nx f n (nx f n (nx f n (nx f n p))))), (tkE f n (nx f n (nx f n (nx f n (nx f n (nx f n p)))))), (vlR f n (nx f n (nx f n (nx f n (nx f n (nx f n p)))))), s1, s2, s3, cr)) rfl (by rw [tkV, hb3, cond_true]) (by rw [tkP, hb3, cond_true]) ?_
            have hb3 : nB f n (nx f n (nx f n (nx f n (nx f n p)))) 12 = true := hb3
            refine aw_istore C false (lv' := [(0, .ref (y 0)), (1, .int k), (2, .int (nI T.1)), (3, .int (1 : Int32)), (4, .int (nmV f n (nx f n (nx f n (nx f n (nx f n p))))))]) dX5_readsPerson_68 (by decide) rfl rfl ?_
            refine aw_pc 70 rfl ?_
            refine aw_iload C dX5_readsPerson_70 rfl ?_
            refine aw_if_ge C 77 dX5_readsPerson_72 (by decide) (fun c_72 => ?_) (fun c_72 => absurd c_72 (fun z => z (nmV_ge _ _ _)))
            refine aw_aload_n C dX5_readsPerson_77 rfl ?_
            refine aw_iload_n C dX5_readsPerson_78 rfl ?_
            refine aw_iconst C (1 : Int32) dX5_readsPerson_79 (by decide) ?_
            refine aw_iload_n C dX5_readsPerson_80 rfl ?_
            refine aw_iadd C dX5_readsPerson_81 ?_
            refine aw_top (y := (2 : Int32)) (by decide) ?_
            refine aw_iload C dX5_readsPerson_82 rfl ?_
            refine aw_callVdv C (As := [.int (nI T.1), .int (2 : Int32), .int (nmV f n (nx f n (nx f n (nx f n (nx f n p)))))]) (c_X5_puts l D cI cC adK adV y (sP (sN (sP T 0 T.1 k) (T.1 + 1)) 1 T.1 (nmV f n (nx f n (nx f n p)))) (kr, ar, ik, F, f, n, (tkR f n (nx f n (nx f n (nx f n (nx f n (nx f n p)))))), (nx f n (nx f n (nx f n (nx f n (nx f n p))))), (tkE f n (nx f n (nx f n (nx f n (nx f n (nx f n p)))))), (vlR f n (nx f n (nx f n (nx f n (nx f n (nx f n p)))))), s1, s2, s3, cr) T.1 2 (nmV f n (nx f n (nx f n (nx f n (nx f n p))))) (by omega) (by decide)) k4_69 cv_X5_puts 0 4 rfl rfl rfl [0, 1, 2, 3, 4, 5, 6, 7, 8, 9, 10, 11, 12] (by decide) rfl (wr := ([] : va_W)) [] rfl (by decide) (by decide) [0, 1, 2, 3, 4, 5, 6, 7, 8, 9, 10, 11, 12] (by decide) (ws' := wMo cI cC y (rowOf (sP (sP (sN (sP T 0 T.1 k) (T.1 + 1)) 1 T.1 (nmV f n (nx f n (nx f n p)))) 2 T.1 (nmV f n (nx f n (nx f n (nx f n (nx f n p))))))) (kr, ar, ik, F, f, n, (tkR f n (nx f n (nx f n (nx f n (nx f n (nx f n p)))))), (nx f n (nx f n (nx f n (nx f n (nx f n p))))), (tkE f n (nx f n (nx f n (nx f n (nx f n (nx f n p)))))), (vlR f n (nx f n (nx f n (nx f n (nx f n (nx f n p)))))), s1, s2, s3, cr)) rfl ⟨by decide, by decide⟩ rfl rfl ⟨by decide, by decide⟩ rfl rfl (Nat.le_of_ble_eq_true rfl) dX5_readsPerson_84 ?_
            refine aw_iinc C (2 : Int32) dX5_readsPerson_87 rfl (by decide) (by decide) rfl (lv' := [(0, .ref (y 0)), (1, .int k), (2, .int (nI T.1)), (3, .int (2 : Int32)), (4, .int (nmV f n (nx f n (nx f n (nx f n (nx f n p))))))]) rfl ?_
            refine aw_pc 90 rfl ?_
            refine aw_goto C 31 dX5_readsPerson_90 (by decide) ?_
            refine aw_iload_n C dX5_readsPerson_31 rfl ?_
            refine aw_iconst C (2 : Int32) dX5_readsPerson_32 (by decide) ?_
            refine aw_icmp_ge C 93 dX5_readsPerson_33 (by decide) (fun c_33 => ?_) (fun c_33 => absurd c_33 (by decide))
            refine aw_aload_n C dX5_readsPerson_93 rfl ?_
            refine aw_aload_n C dX5_readsPerson_94 rfl ?_
            refine aw_getf C 0 4 12 18 inX5 rfl (by decide) rfl k4_6 rfl rfl dX5_readsPerson_95 ?_
            refine aw_callVp C (As := [.ref (y 7)]) (c_X5_wordOf_M l D cI cC adK adV y (rowOf (sP (sP (sN (sP T 0 T.1 k) (T.1 + 1)) 1 T.1 (nmV f n (nx f n (nx f n p)))) 2 T.1 (nmV f n (nx f n (nx f n (nx f n (nx f n p))))))) kr ar ik F f n s1 s2 s3 cr (nx f n (nx f n (nx f n (nx f n (nx f n p)))))) k5_128 cv_X5_wordOf_M 0 4 rfl rfl rfl [0, 1, 2, 3, 4, 5, 6, 7, 8, 9, 10, 11, 12] (by decide) rfl ⟨by decide, by decide⟩ rfl rfl ⟨by decide, by decide⟩ rfl rfl (Nat.le_of_ble_eq_true rfl) dX5_readsPerson_98 ?_
            refine aw_iconst C (2 : Int32) dX5_readsPerson_101 (by decide) ?_
            refine aw_icmp_ne C 116 dX5_readsPerson_102 (by decide) (fun c_102 => ?_) (fun c_102 => ?_)
            · skip
              have k11 : wK f n (nx f n (nx f n (nx f n (nx f n (nx f n p))))) 11 = false := wW_f (k0 := 9) (m := 3) (w := 2) (by decide) (by decide) c_102
              refine aw_pc 116 rfl ?_
              refine aw_iconst C (1 : Int32) dX5_readsPerson_116 (by decide) ?_
              have hm : (rdOne f n k T p) = (true, (sP (sP (sN (sP T 0 T.1 k) (T.1 + 1)) 1 T.1 (nmV f n (nx f n (nx f n p)))) 2 T.1 (nmV f n (nx f n (nx f n (nx f n (nx f n p)))))), (nx f n (nx f n (nx f n (nx f n (nx f n p)))))) := by simp only [rdOne, rdAt, rdAs, rdOut, decide_eq_true c9, k9, hb2, k10, hb3, k11, decide_true, decide_false, Bool.not_true, Bool.not_false, Bool.true_and, Bool.false_and, Bool.and_true, Bool.and_false, Bool.true_or, Bool.false_or, Bool.or_true, Bool.or_false, cond_true, cond_false, eq_self, if_true, if_false, ite_true, ite_false] <;> rfl
              exact aw_bret C (b := true) hr hlk dX5_readsPerson_117 rfl ⟨rb (by rw [hm]), (rowOf (sP (sP (sN (sP T 0 T.1 k) (T.1 + 1)) 1 T.1 (nmV f n (nx f n (nx f n p)))) 2 T.1 (nmV f n (nx f n (nx f n (nx f n (nx f n p))))))), by rw [hm], fun _ => by rw [hm]⟩
            · skip
              have k11 : wK f n (nx f n (nx f n (nx f n (nx f n (nx f n p))))) 11 = true := (wW_iff (k0 := 9) (m := 3) (w := 2) (by decide) (by decide)).mp c_102
              refine aw_aload_n C dX5_readsPerson_105 rfl ?_
              refine aw_callVdv C (As := []) (c_X5_nextTokenS l D cI cC adK adV y (rowOf (sP (sP (sN (sP T 0 T.1 k) (T.1 + 1)) 1 T.1 (nmV f n (nx f n (nx f n p)))) 2 T.1 (nmV f n (nx f n (nx f n (nx f n (nx f n p))))))) kr ar ik F f n s1 s2 s3 cr (nx f n (nx f n (nx f n (nx f n (nx f n p))))) (nx_le (nx_le (nx_le (nx_le (nx_le hp))))) hn) k5_108 cv_X5_nextToken 0 4 rfl rfl rfl [0, 1, 2, 3, 4, 5, 6, 7, 8, 9, 10, 11, 12] (by decide) rfl (wr := ([] : va_W)) [] rfl (by decide) (by decide) [0, 1, 2, 3, 4, 5, 6, 7, 8, 9, 10, 11, 12] (by decide) (ws' := wMo cI cC y (rowOf (sP (sP (sN (sP T 0 T.1 k) (T.1 + 1)) 1 T.1 (nmV f n (nx f n (nx f n p)))) 2 T.1 (nmV f n (nx f n (nx f n (nx f n (nx f n p))))))) (kr, ar, ik, F, f, n, (tkR f n (nx f n (nx f n (nx f n (nx f n (nx f n (nx f n p))))))), (nx f n (nx f n (nx f n (nx f n (nx f n (nx f n p)))))), (tkE f n (nx f n (nx f n (nx f n (nx f n (nx f n (nx f n p))))))), (vlR f n (nx f n (nx f n (nx f n (nx f n (nx f n (nx f n p))))))), s1, s2, s3, cr)) rfl ⟨by decide, by decide⟩ rfl rfl ⟨by decide, by decide⟩ rfl rfl (Nat.le_of_ble_eq_true rfl) dX5_readsPerson_106 ?_
              refine aw_aload_n C dX5_readsPerson_109 rfl ?_
              refine aw_iload_n C dX5_readsPerson_110 rfl ?_
              refine aw_iconst C (5 : Int32) dX5_readsPerson_111 (by decide) ?_
              refine aw_iconst C (1 : Int32) dX5_readsPerson_112 (by decide) ?_
              refine aw_callVdv C (As := [.int (nI T.1), .int (5 : Int32), .int (1 : Int32)]) (c_X5_puts l D cI cC adK adV y (sP (sP (sN (sP T 0 T.1 k) (T.1 + 1)) 1 T.1 (nmV f n (nx f n (nx f n p)))) 2 T.1 (nmV f n (nx f n (nx f n (nx f n (nx f n p)))))) (kr, ar, ik, F, f, n, (tkR f n (nx f n (nx f n (nx f n (nx f n (nx f n (nx f n p))))))), (nx f n (nx f n (nx f n (nx f n (nx f n (nx f n p)))))), (tkE f n (nx f n (nx f n (nx f n (nx f n (nx f n (nx f n p))))))), (vlR f n (nx f n (nx f n (nx f n (nx f n (nx f n (nx f n p))))))), s1, s2, s3, cr) T.1 5 (1 : Int32) (by omega) (by decide)) k4_69 cv_X5_puts 0 4 rfl rfl rfl [0, 1, 2, 3, 4, 5, 6, 7, 8, 9, 10, 11, 12] (by decide) rfl (wr := ([] : va_W)) [] rfl (by decide) (by decide) [0, 1, 2, 3, 4, 5, 6, 7, 8, 9, 10, 11, 12] (by decide) (ws' := wMo cI cC y (rowOf (sP (sP (sP (sN (sP T 0 T.1 k) (T.1 + 1)) 1 T.1 (nmV f n (nx f n (nx f n p)))) 2 T.1 (nmV f n (nx f n (nx f n (nx f n (nx f n p)))))) 5 T.1 (1 : Int32))) (kr, ar, ik, F, f, n, (tkR f n (nx f n (nx f n (nx f n (nx f n (nx f n (nx f n p))))))), (nx f n (nx f n (nx f n (nx f n (nx f n (nx f n p)))))), (tkE f n (nx f n (nx f n (nx f n (nx f n (nx f n (nx f n p))))))), (vlR f n (nx f n (nx f n (nx f n (nx f n (nx f n (nx f n p))))))), s1, s2, s3, cr)) rfl ⟨by decide, by decide⟩ rfl rfl ⟨by decide, by decide⟩ rfl rfl (Nat.le_of_ble_eq_true rfl) dX5_readsPerson_113 ?_
              refine aw_iconst C (1 : Int32) dX5_readsPerson_116 (by decide) ?_
              refine aw_pc 117 rfl ?_
              have hm : (rdOne f n k T p) = (true, (sP (sP (sP (sN (sP T 0 T.1 k) (T.1 + 1)) 1 T.1 (nmV f n (nx f n (nx f n p)))) 2 T.1 (nmV f n (nx f n (nx f n (nx f n (nx f n p)))))) 5 T.1 (1 : Int32)), (nx f n (nx f n (nx f n (nx f n (nx f n (nx f n p))))))) := by simp only [rdOne, rdAt, rdAs, rdOut, decide_eq_true c9, k9, hb2, k10, hb3, k11, decide_true, decide_false, Bool.not_true, Bool.not_false, Bool.true_and, Bool.false_and, Bool.and_true, Bool.and_false, Bool.true_or, Bool.false_or, Bool.or_true, Bool.or_false, cond_true, cond_false, eq_self, if_true, if_false, ite_true, ite_false] <;> rfl
              exact aw_bret C (b := true) hr hlk dX5_readsPerson_117 rfl ⟨rb (by rw [hm]), (rowOf (sP (sP (sP (sN (sP T 0 T.1 k) (T.1 + 1)) 1 T.1 (nmV f n (nx f n (nx f n p)))) 2 T.1 (nmV f n (nx f n (nx f n (nx f n (nx f n p)))))) 5 T.1 (1 : Int32))), by rw [hm], fun _ => by rw [hm]⟩
          · skip
            refine aw_eq (lv' := [(0, .ref (y 0)), (1, .int k), (2, .int (nI T.1)), (3, .int (1 : Int32)), (4, .int (nmV f n (nx f n (nx f n p))))]) (st' := [.int (-1 : Int32)]) (ws' := wMo cI cC y (rowOf (sP (sN (sP T 0 T.1 k) (T.1 + 1)) 1 T.1 (nmV f n (nx f n (nx f n p))))) (kr, ar, ik, F, f, n, (tkR f n (nx f n (nx f n (nx f n (nx f n p))))), (nx f n (nx f n (nx f n (nx f n p)))), (tkE f n (nx f n (nx f n (nx f n (nx f n p))))), (vlR f n (nx f n (nx f n (nx f n (nx f n p))))), s1, s2, s3, cr)) rfl (by rw [tkV, hb3, cond_false]) (by rw [tkP, hb3, cond_false]) ?_
            have hb3 : nB f n (nx f n (nx f n (nx f n (nx f n p)))) 12 = false := hb3
            refine aw_istore C false (lv' := [(0, .ref (y 0)), (1, .int k), (2, .int (nI T.1)), (3, .int (1 : Int32)), (4, .int (-1 : Int32))]) dX5_readsPerson_68 (by decide) rfl rfl ?_
            refine aw_iload C dX5_readsPerson_70 rfl ?_
            refine aw_if_ge C 77 dX5_readsPerson_72 (by decide) (fun c_72 => absurd c_72 (by decide)) (fun c_72 => ?_)
            refine aw_iconst C (0 : Int32) dX5_readsPerson_75 (by decide) ?_
            have hm : (rdOne f n k T p) = (false, T, (nx f n (nx f n (nx f n (nx f n p))))) := by simp only [rdOne, rdAt, rdAs, rdOut, decide_eq_true c9, k9, hb2, k10, hb3, decide_true, decide_false, Bool.not_true, Bool.not_false, Bool.true_and, Bool.false_and, Bool.and_true, Bool.and_false, Bool.true_or, Bool.false_or, Bool.or_true, Bool.or_false, cond_true, cond_false, eq_self, if_true, if_false, ite_true, ite_false]
            exact aw_bret C (b := false) hr hlk dX5_readsPerson_76 rfl ⟨rb (by rw [hm]), (rowOf (sP (sN (sP T 0 T.1 k) (T.1 + 1)) 1 T.1 (nmV f n (nx f n (nx f n p))))), by rw [hm], fun z => by rw [hm] at z; exact absurd z Bool.false_ne_true⟩
      · skip
        refine aw_eq (lv' := [(0, .ref (y 0)), (1, .int k), (2, .int (nI T.1)), (3, .int (0 : Int32))]) (st' := [.int (-1 : Int32)]) (ws' := wMo cI cC y (rowOf (sN (sP T 0 T.1 k) (T.1 + 1))) (kr, ar, ik, F, f, n, (tkR f n (nx f n (nx f n p))), (nx f n (nx f n p)), (tkE f n (nx f n (nx f n p))), (vlR f n (nx f n (nx f n p))), s1, s2, s3, cr)) rfl (by rw [tkV, hb2, cond_false]) (by rw [tkP, hb2, cond_false]) ?_
        have hb2 : nB f n (nx f n (nx f n p)) 16 = false := hb2
        refine aw_istore C true (lv' := [(0, .ref (y 0)), (1, .int k), (2, .int (nI T.1)), (3, .int (0 : Int32)), (4, .int (-1 : Int32))]) dX5_readsPerson_68 (by decide) rfl rfl ?_
        refine aw_iload C dX5_readsPerson_70 rfl ?_
        refine aw_if_ge C 77 dX5_readsPerson_72 (by decide) (fun c_72 => absurd c_72 (by decide)) (fun c_72 => ?_)
        refine aw_iconst C (0 : Int32) dX5_readsPerson_75 (by decide) ?_
        refine aw_pc 76 rfl ?_
        have hm : (rdOne f n k T p) = (false, T, (nx f n (nx f n p))) := by simp only [rdOne, rdAt, rdAs, rdOut, decide_eq_true c9, k9, hb2, decide_true, decide_false, Bool.not_true, Bool.not_false, Bool.true_and, Bool.false_and, Bool.and_true, Bool.and_false, Bool.true_or, Bool.false_or, Bool.or_true, Bool.or_false, cond_true, cond_false, eq_self, if_true, if_false, ite_true, ite_false]
        exact aw_bret C (b := false) hr hlk dX5_readsPerson_76 rfl ⟨rb (by rw [hm]), (rowOf (sN (sP T 0 T.1 k) (T.1 + 1))), by rw [hm], fun z => by rw [hm] at z; exact absurd z Bool.false_ne_true⟩
  · skip
    refine aw_iconst C (0 : Int32) dX5_readsPerson_11 (by decide) ?_
    have hm : (rdOne f n k T p) = (false, T, p) := by simp only [rdOne, decide_eq_false (eq_8 c_8), decide_true, decide_false, Bool.not_true, Bool.not_false, Bool.true_and, Bool.false_and, Bool.and_true, Bool.and_false, Bool.true_or, Bool.false_or, Bool.or_true, Bool.or_false, cond_true, cond_false, eq_self, if_true, if_false, ite_true, ite_false]
    exact aw_bret C (b := false) hr hlk dX5_readsPerson_12 rfl ⟨rb (by rw [hm]), (rowOf T), by rw [hm], fun z => by rw [hm] at z; exact absurd z Bool.false_ne_true⟩
abbrev r_X5_readsMet : Room := { frames := 4, cells := 0, slots := 0, locals := 85 }
theorem cv_X5_readsMet : cV yX5_readsMet cX5_readsMet 3 (some .boolean) 0 := ⟨k5_142, k0_68, k5_143, k1_6, by decide, by decide, by decide +kernel⟩
set_option maxHeartbeats 4000000 in
set_option maxRecDepth 100000 in
theorem c_X5_readsMet (l : Launch) (D : va_G) (cI cC : ClassId) (adK adV : Nat → Nat) (y : Nat → Nat) (T : Tw) (kr : Nat → Int32) (ar : Nat → Int32) (ik : Bool) (F : Nat → Int32) (f : Nat → Int32) (n : Nat) (s1 : Nat → Int32) (s2 : Nat → Int32) (s3 : Nat → Int32) (cr : Nat → Int32) (p : Nat)  (ho : gOk T) (hp : p ≤ n) (hn : n ≤ 120) : FC l yX5_readsMet (wW yX5_readsMet cX5_readsMet 3 (some .boolean)) r_X5_readsMet D (tyC cI cC) adK adV (wMo cI cC y (rowOf T) (kr, ar, ik, F, f, n, (tkR f n (nx f n p)), (nx f n p), (tkE f n (nx f n p)), (vlR f n (nx f n p)), s1, s2, s3, cr)) [.ref (y 0)] 0 0 (pRp cI cC y kr ar ik F f n s1 s2 s3 cr (rdMet f n T p)) := by
  refine FC.of (own := RX5) (by decide) rfl (Nat.le_of_ble_eq_true rfl) ?_
  intro p9 e9 s9 m9 args9 below9 meth9 c9 A9 C hr hlk hmn
  show AW p9 l e9 r_X5_readsMet s9 m9 args9 below9 meth9 c9 D A9 3 0 0 _ 0 [(0, .ref (y 0))] [] _
  have h8 := ho.n
  refine aw_aload_n C dX5_readsMet_0 rfl ?_
  refine aw_iconst C (0 : Int32) dX5_readsMet_1 (by decide) ?_
  refine aw_aload_n C dX5_readsMet_2 rfl ?_
  refine aw_getf C 0 4 0 18 inX5 rfl (by decide) rfl k3_234 rfl rfl dX5_readsMet_3 ?_
  refine aw_iconst C (1 : Int32) dX5_readsMet_6 (by decide) ?_
  refine aw_ialdN C 1 0 1 rfl rfl rfl (by decide) (by decide) dX5_readsMet_7 ?_
  refine aw_top (y := (nI T.1)) rfl ?_
  refine aw_iconst C (1 : Int32) dX5_readsMet_8 (by decide) ?_
  refine aw_isub C dX5_readsMet_9 ?_
  refine aw_callVd C (As := [.int (0 : Int32), .int (nI T.1 - (1 : Int32))]) (c_X5_takesNumber l D cI cC adK adV y (rowOf T) kr ar ik F f n s1 s2 s3 cr (nx f n p) T.1 (nx_le hp) hn (by omega)) k5_136 cv_X5_takesNumber 0 4 rfl rfl rfl [0, 1, 2, 3, 4, 5, 6, 7, 8, 9, 10, 11, 12] (by decide) rfl (wr := ([] : va_W)) [] rfl (by decide) (by decide) [0, 1, 2, 3, 4, 5, 6, 7, 8, 9, 10, 11, 12] (by decide) (ws' := wMo cI cC y (rowOf T) (kr, ar, ik, F, f, n, (tkR f n (tkP f n (nx f n p) T.1)), (tkP f n (nx f n p) T.1), (tkE f n (tkP f n (nx f n p) T.1)), (vlR f n (tkP f n (nx f n p) T.1)), s1, s2, s3, cr)) rfl ⟨by decide, by decide⟩ rfl rfl ⟨by decide, by decide⟩ rfl rfl (Nat.le_of_ble_eq_true rfl) dX5_readsMet_10 ?_
  rcases b_tf (nB f n (nx f n p) (nI T.1)) with hb4 | hb4
  · skip
    have lb4 := nB_lt (by omega) hb4
    refine aw_eq (lv' := [(0, .ref (y 0))]) (st' := [.int (nI (ix (nmV f n (nx f n p))))]) (ws' := wMo cI cC y (rowOf T) (kr, ar, ik, F, f, n, (tkR f n (nx f n (nx f n p))), (nx f n (nx f n p)), (tkE f n (nx f n (nx f n p))), (vlR f n (nx f n (nx f n p))), s1, s2, s3, cr)) rfl (by rw [tkV, hb4, cond_true, ← nmV_ix]) (by rw [tkP, hb4, cond_true]) ?_
    refine aw_pc 13 rfl ?_
    refine aw_istore_n C true (lv' := [(0, .ref (y 0)), (1, .int (nI (ix (nmV f n (nx f n p)))))]) dX5_readsMet_13 (by decide) rfl rfl ?_
    refine aw_iload_n C dX5_readsMet_14 rfl ?_
    refine aw_if_lt C 36 dX5_readsMet_15 (by decide) (fun c_15 => absurd c_15 (nI_pos (by omega))) (fun c_15 => ?_)
    refine aw_aload_n C dX5_readsMet_18 rfl ?_
    refine aw_getf C 0 4 7 18 inX5 rfl (by decide) rfl k4_1 rfl rfl dX5_readsMet_19 ?_
    refine aw_top (y := (tkR f n (nx f n (nx f n p)))) rfl ?_
    refine aw_iconst C (2 : Int32) dX5_readsMet_22 (by decide) ?_
    refine aw_icmp_ne C 38 dX5_readsMet_23 (by decide) (fun c_23 => ?_) (fun c_23 => ?_)
    · skip
      refine aw_aload_n C dX5_readsMet_38 rfl ?_
      refine aw_iconst C (0 : Int32) dX5_readsMet_39 (by decide) ?_
      refine aw_aload_n C dX5_readsMet_40 rfl ?_
      refine aw_pc 41 rfl ?_
      refine aw_getf C 0 4 0 18 inX5 rfl (by decide) rfl k3_234 rfl rfl dX5_readsMet_41 ?_
      refine aw_iconst C (1 : Int32) dX5_readsMet_44 (by decide) ?_
      refine aw_ialdN C 1 0 1 rfl rfl rfl (by decide) (by decide) dX5_readsMet_45 ?_
      refine aw_top (y := (nI T.1)) rfl ?_
      refine aw_iconst C (1 : Int32) dX5_readsMet_46 (by decide) ?_
      refine aw_isub C dX5_readsMet_47 ?_
      refine aw_callVd C (As := [.int (0 : Int32), .int (nI T.1 - (1 : Int32))]) (c_X5_takesNumber l D cI cC adK adV y (rowOf T) kr ar ik F f n s1 s2 s3 cr (nx f n (nx f n p)) T.1 (nx_le (nx_le hp)) hn (by omega)) k5_136 cv_X5_takesNumber 0 4 rfl rfl rfl [0, 1, 2, 3, 4, 5, 6, 7, 8, 9, 10, 11, 12] (by decide) rfl (wr := ([] : va_W)) [] rfl (by decide) (by decide) [0, 1, 2, 3, 4, 5, 6, 7, 8, 9, 10, 11, 12] (by decide) (ws' := wMo cI cC y (rowOf T) (kr, ar, ik, F, f, n, (tkR f n (tkP f n (nx f n (nx f n p)) T.1)), (tkP f n (nx f n (nx f n p)) T.1), (tkE f n (tkP f n (nx f n (nx f n p)) T.1)), (vlR f n (tkP f n (nx f n (nx f n p)) T.1)), s1, s2, s3, cr)) rfl ⟨by decide, by decide⟩ rfl rfl ⟨by decide, by decide⟩ rfl rfl (Nat.le_of_ble_eq_true rfl) dX5_readsMet_48 ?_
      rcases b_tf (nB f n (nx f n (nx f n p)) (nI T.1)) with hb5 | hb5
      · skip
        have lb5 := nB_lt (by omega) hb5
        refine aw_eq (lv' := [(0, .ref (y 0)), (1, .int (nI (ix (nmV f n (nx f n p)))))]) (st' := [.int (nI (ix (nmV f n (nx f n (nx f n p)))))]) (ws' := wMo cI cC y (rowOf T) (kr, ar, ik, F, f, n, (tkR f n (nx f n (nx f n (nx f n p)))), (nx f n (nx f n (nx f n p))), (tkE f n (nx f n (nx f n (nx f n p)))), (vlR f n (nx f n (nx f n (nx f n p)))), s1, s2, s3, cr)) rfl (by rw [tkV, hb5, cond_true, ← nmV_ix]) (by rw [tkP, hb5, cond_true]) ?_
        refine aw_istore_n C true (lv' := [(0, .ref (y 0)), (1, .int (nI (ix (nmV f n (nx f n p))))), (2, .int (nI (ix (nmV f n (nx f n (nx f n p))))))]) dX5_readsMet_51 (by decide) rfl rfl ?_
        refine aw_iload_n C dX5_readsMet_52 rfl ?_
        refine aw_if_lt C 88 dX5_readsMet_53 (by decide) (fun c_53 => absurd c_53 (nI_pos (by omega))) (fun c_53 => ?_)
        refine aw_aload_n C dX5_readsMet_56 rfl ?_
        refine aw_pc 57 rfl ?_
        refine aw_iload_n C dX5_readsMet_57 rfl ?_
        refine aw_iconst C (3 : Int32) dX5_readsMet_58 (by decide) ?_
        refine aw_aload_n C dX5_readsMet_59 rfl ?_
        refine aw_iload_n C dX5_readsMet_60 rfl ?_
        refine aw_iconst C (3 : Int32) dX5_readsMet_61 (by decide) ?_
        refine aw_callVp C (As := [.int (nI (ix (nmV f n (nx f n p)))), .int (3 : Int32)]) (c_X5_get l D cI cC adK adV y T (kr, ar, ik, F, f, n, (tkR f n (nx f n (nx f n (nx f n p)))), (nx f n (nx f n (nx f n p))), (tkE f n (nx f n (nx f n (nx f n p)))), (vlR f n (nx f n (nx f n (nx f n p)))), s1, s2, s3, cr) (ix (nmV f n (nx f n p))) 3 (by omega) (by decide)) k4_85 cv_X5_get 0 4 rfl rfl rfl [0, 1, 2, 3, 4, 5, 6, 7, 8, 9, 10, 11, 12] (by decide) rfl ⟨by decide, by decide⟩ rfl rfl ⟨by decide, by decide⟩ rfl rfl (Nat.le_of_ble_eq_true rfl) dX5_readsMet_62 ?_
        refine aw_iconst C (1 : Int32) dX5_readsMet_65 (by decide) ?_
        refine aw_iload_n C dX5_readsMet_66 rfl ?_
        refine aw_ishl C dX5_readsMet_67 ?_
        refine aw_ior C dX5_readsMet_68 ?_
        refine aw_pc 69 rfl ?_
        refine aw_callVdv C (As := [.int (nI (ix (nmV f n (nx f n p)))), .int (3 : Int32), .int ((T.2.2.1 3 (ix (nmV f n (nx f n p)))) ||| ((1 : Int32) <<< ((nI (ix (nmV f n (nx f n (nx f n p))))) &&& 31)))]) (c_X5_puts l D cI cC adK adV y T (kr, ar, ik, F, f, n, (tkR f n (nx f n (nx f n (nx f n p)))), (nx f n (nx f n (nx f n p))), (tkE f n (nx f n (nx f n (nx f n p)))), (vlR f n (nx f n (nx f n (nx f n p)))), s1, s2, s3, cr) (ix (nmV f n (nx f n p))) 3 ((T.2.2.1 3 (ix (nmV f n (nx f n p)))) ||| ((1 : Int32) <<< ((nI (ix (nmV f n (nx f n (nx f n p))))) &&& 31))) (by omega) (by decide)) k4_69 cv_X5_puts 0 4 rfl rfl rfl [0, 1, 2, 3, 4, 5, 6, 7, 8, 9, 10, 11, 12] (by decide) rfl (wr := ([] : va_W)) [] rfl (by decide) (by decide) [0, 1, 2, 3, 4, 5, 6, 7, 8, 9, 10, 11, 12] (by decide) (ws' := wMo cI cC y (rowOf (sP T 3 (ix (nmV f n (nx f n p))) ((T.2.2.1 3 (ix (nmV f n (nx f n p)))) ||| ((1 : Int32) <<< ((nI (ix (nmV f n (nx f n (nx f n p))))) &&& 31))))) (kr, ar, ik, F, f, n, (tkR f n (nx f n (nx f n (nx f n p)))), (nx f n (nx f n (nx f n p))), (tkE f n (nx f n (nx f n (nx f n p)))), (vlR f n (nx f n (nx f n (nx f n p)))), s1, s2, s3, cr)) rfl ⟨by decide, by decide⟩ rfl rfl ⟨by decide, by decide⟩ rfl rfl (Nat.le_of_ble_eq_true rfl) dX5_readsMet_69 ?_
        refine aw_aload_n C dX5_readsMet_72 rfl ?_
        refine aw_iload_n C dX5_readsMet_73 rfl ?_
        refine aw_iconst C (3 : Int32) dX5_readsMet_74 (by decide) ?_
        refine aw_aload_n C dX5_readsMet_75 rfl ?_
        refine aw_iload_n C dX5_readsMet_76 rfl ?_
        refine aw_iconst C (3 : Int32) dX5_readsMet_77 (by decide) ?_
        refine aw_callVp C (As := [.int (nI (ix (nmV f n (nx f n (nx f n p))))), .int (3 : Int32)]) (c_X5_get l D cI cC adK adV y (sP T 3 (ix (nmV f n (nx f n p))) ((T.2.2.1 3 (ix (nmV f n (nx f n p)))) ||| ((1 : Int32) <<< ((nI (ix (nmV f n (nx f n (nx f n p))))) &&& 31)))) (kr, ar, ik, F, f, n, (tkR f n (nx f n (nx f n (nx f n p)))), (nx f n (nx f n (nx f n p))), (tkE f n (nx f n (nx f n (nx f n p)))), (vlR f n (nx f n (nx f n (nx f n p)))), s1, s2, s3, cr) (ix (nmV f n (nx f n (nx f n p)))) 3 (by omega) (by decide)) k4_85 cv_X5_get 0 4 rfl rfl rfl [0, 1, 2, 3, 4, 5, 6, 7, 8, 9, 10, 11, 12] (by decide) rfl ⟨by decide, by decide⟩ rfl rfl ⟨by decide, by decide⟩ rfl rfl (Nat.le_of_ble_eq_true rfl) dX5_readsMet_78 ?_
        refine aw_iconst C (1 : Int32) dX5_readsMet_81 (by decide) ?_
        refine aw_iload_n C dX5_readsMet_82 rfl ?_
        refine aw_pc 83 rfl ?_
        refine aw_ishl C dX5_readsMet_83 ?_
        refine aw_ior C dX5_readsMet_84 ?_
        refine aw_callVdv C (As := [.int (nI (ix (nmV f n (nx f n (nx f n p))))), .int (3 : Int32), .int (((sP T 3 (ix (nmV f n (nx f n p))) ((T.2.2.1 3 (ix (nmV f n (nx f n p)))) ||| ((1 : Int32) <<< ((nI (ix (nmV f n (nx f n (nx f n p))))) &&& 31)))).2.2.1 3 (ix (nmV f n (nx f n (nx f n p))))) ||| ((1 : Int32) <<< ((nI (ix (nmV f n (nx f n p)))) &&& 31)))]) (c_X5_puts l D cI cC adK adV y (sP T 3 (ix (nmV f n (nx f n p))) ((T.2.2.1 3 (ix (nmV f n (nx f n p)))) ||| ((1 : Int32) <<< ((nI (ix (nmV f n (nx f n (nx f n p))))) &&& 31)))) (kr, ar, ik, F, f, n, (tkR f n (nx f n (nx f n (nx f n p)))), (nx f n (nx f n (nx f n p))), (tkE f n (nx f n (nx f n (nx f n p)))), (vlR f n (nx f n (nx f n (nx f n p)))), s1, s2, s3, cr) (ix (nmV f n (nx f n (nx f n p)))) 3 (((sP T 3 (ix (nmV f n (nx f n p))) ((T.2.2.1 3 (ix (nmV f n (nx f n p)))) ||| ((1 : Int32) <<< ((nI (ix (nmV f n (nx f n (nx f n p))))) &&& 31)))).2.2.1 3 (ix (nmV f n (nx f n (nx f n p))))) ||| ((1 : Int32) <<< ((nI (ix (nmV f n (nx f n p)))) &&& 31))) (by omega) (by decide)) k4_69 cv_X5_puts 0 4 rfl rfl rfl [0, 1, 2, 3, 4, 5, 6, 7, 8, 9, 10, 11, 12] (by decide) rfl (wr := ([] : va_W)) [] rfl (by decide) (by decide) [0, 1, 2, 3, 4, 5, 6, 7, 8, 9, 10, 11, 12] (by decide) (ws' := wMo cI cC y (rowOf (sP (sP T 3 (ix (nmV f n (nx f n p))) ((T.2.2.1 3 (ix (nmV f n (nx f n p)))) ||| ((1 : Int32) <<< ((nI (ix (nmV f n (nx f n (nx f n p))))) &&& 31)))) 3 (ix (nmV f n (nx f n (nx f n p)))) (((sP T 3 (ix (nmV f n (nx f n p))) ((T.2.2.1 3 (ix (nmV f n (nx f n p)))) ||| ((1 : Int32) <<< ((nI (ix (nmV f n (nx f n (nx f n p))))) &&& 31)))).2.2.1 3 (ix (nmV f n (nx f n (nx f n p))))) ||| ((1 : Int32) <<< ((nI (ix (nmV f n (nx f n p)))) &&& 31))))) (kr, ar, ik, F, f, n, (tkR f n (nx f n (nx f n (nx f n p)))), (nx f n (nx f n (nx f n p))), (tkE f n (nx f n (nx f n (nx f n p)))), (vlR f n (nx f n (nx f n (nx f n p)))), s1, s2, s3, cr)) rfl ⟨by decide, by decide⟩ rfl rfl ⟨by decide, by decide⟩ rfl rfl (Nat.le_of_ble_eq_true rfl) dX5_readsMet_85 ?_
        refine aw_iload_n C dX5_readsMet_88 rfl ?_
        refine aw_if_lt C 96 dX5_readsMet_89 (by decide) (fun c_89 => absurd c_89 (nI_pos (by omega))) (fun c_89 => ?_)
        refine aw_iconst C (1 : Int32) dX5_readsMet_92 (by decide) ?_
        refine aw_goto C 97 dX5_readsMet_93 (by decide) ?_
        have hm : (rdMet f n T p) = (true, (sP (sP T 3 (ix (nmV f n (nx f n p))) ((T.2.2.1 3 (ix (nmV f n (nx f n p)))) ||| ((1 : Int32) <<< ((nI (ix (nmV f n (nx f n (nx f n p))))) &&& 31)))) 3 (ix (nmV f n (nx f n (nx f n p)))) (((sP T 3 (ix (nmV f n (nx f n p))) ((T.2.2.1 3 (ix (nmV f n (nx f n p)))) ||| ((1 : Int32) <<< ((nI (ix (nmV f n (nx f n (nx f n p))))) &&& 31)))).2.2.1 3 (ix (nmV f n (nx f n (nx f n p))))) ||| ((1 : Int32) <<< ((nI (ix (nmV f n (nx f n p)))) &&& 31)))), (nx f n (nx f n (nx f n p)))) := by exact absurd hb5 (by rw [num_n c_23 (by omega)]; exact Bool.false_ne_true)
        exact aw_bret C (b := true) hr hlk dX5_readsMet_97 rfl ⟨rb (by rw [hm]), (rowOf (sP (sP T 3 (ix (nmV f n (nx f n p))) ((T.2.2.1 3 (ix (nmV f n (nx f n p)))) ||| ((1 : Int32) <<< ((nI (ix (nmV f n (nx f n (nx f n p))))) &&& 31)))) 3 (ix (nmV f n (nx f n (nx f n p)))) (((sP T 3 (ix (nmV f n (nx f n p))) ((T.2.2.1 3 (ix (nmV f n (nx f n p)))) ||| ((1 : Int32) <<< ((nI (ix (nmV f n (nx f n (nx f n p))))) &&& 31)))).2.2.1 3 (ix (nmV f n (nx f n (nx f n p))))) ||| ((1 : Int32) <<< ((nI (ix (nmV f n (nx f n p)))) &&& 31))))), by rw [hm], fun _ => by rw [hm]⟩
      · skip
        refine aw_eq (lv' := [(0, .ref (y 0)), (1, .int (nI (ix (nmV f n (nx f n p)))))]) (st' := [.int (-1 : Int32)]) (ws' := wMo cI cC y (rowOf T) (kr, ar, ik, F, f, n, (tkR f n (nx f n (nx f n p))), (nx f n (nx f n p)), (tkE f n (nx f n (nx f n p))), (vlR f n (nx f n (nx f n p))), s1, s2, s3, cr)) rfl (by rw [tkV, hb5, cond_false]) (by rw [tkP, hb5, cond_false]) ?_
        refine aw_istore_n C true (lv' := [(0, .ref (y 0)), (1, .int (nI (ix (nmV f n (nx f n p))))), (2, .int (-1 : Int32))]) dX5_readsMet_51 (by decide) rfl rfl ?_
        refine aw_iload_n C dX5_readsMet_52 rfl ?_
        refine aw_pc 53 rfl ?_
        refine aw_if_lt C 88 dX5_readsMet_53 (by decide) (fun c_53 => ?_) (fun c_53 => absurd c_53 (by decide))
        refine aw_iload_n C dX5_readsMet_88 rfl ?_
        refine aw_if_lt C 96 dX5_readsMet_89 (by decide) (fun c_89 => ?_) (fun c_89 => absurd c_89 (by decide))
        refine aw_iconst C (0 : Int32) dX5_readsMet_96 (by decide) ?_
        have hm : (rdMet f n T p) = (false, T, (nx f n (nx f n p))) := by simp only [rdMet, hb4, hb5, decide_true, decide_false, Bool.not_true, Bool.not_false, Bool.true_and, Bool.false_and, Bool.and_true, Bool.and_false, Bool.true_or, Bool.false_or, Bool.or_true, Bool.or_false, cond_true, cond_false, eq_self, if_true, if_false, ite_true, ite_false]
        exact aw_bret C (b := false) hr hlk dX5_readsMet_97 rfl ⟨rb (by rw [hm]), (rowOf T), by rw [hm], fun z => by rw [hm] at z; exact absurd z Bool.false_ne_true⟩
    · skip
      refine aw_aload_n C dX5_readsMet_26 rfl ?_
      refine aw_getf C 0 4 10 18 inX5 rfl (by decide) rfl k4_4 rfl rfl dX5_readsMet_27 ?_
      refine aw_topv (y := .long (vlR f n (nx f n (nx f n p)))) rfl ?_
      refine aw_iload_n C dX5_readsMet_30 rfl ?_
      refine aw_i2l C dX5_readsMet_31 ?_
      refine aw_lcmp C dX5_readsMet_32 ?_
      refine aw_pc 33 rfl ?_
      refine aw_if_ne C 38 dX5_readsMet_33 (by decide) (fun c_33 => ?_) (fun c_33 => ?_)
      · skip
        refine aw_aload_n C dX5_readsMet_38 rfl ?_
        refine aw_iconst C (0 : Int32) dX5_readsMet_39 (by decide) ?_
        refine aw_aload_n C dX5_readsMet_40 rfl ?_
        refine aw_getf C 0 4 0 18 inX5 rfl (by decide) rfl k3_234 rfl rfl dX5_readsMet_41 ?_
        refine aw_iconst C (1 : Int32) dX5_readsMet_44 (by decide) ?_
        refine aw_ialdN C 1 0 1 rfl rfl rfl (by decide) (by decide) dX5_readsMet_45 ?_
        refine aw_top (y := (nI T.1)) rfl ?_
        refine aw_iconst C (1 : Int32) dX5_readsMet_46 (by decide) ?_
        refine aw_isub C dX5_readsMet_47 ?_
        refine aw_callVd C (As := [.int (0 : Int32), .int (nI T.1 - (1 : Int32))]) (c_X5_takesNumber l D cI cC adK adV y (rowOf T) kr ar ik F f n s1 s2 s3 cr (nx f n (nx f n p)) T.1 (nx_le (nx_le hp)) hn (by omega)) k5_136 cv_X5_takesNumber 0 4 rfl rfl rfl [0, 1, 2, 3, 4, 5, 6, 7, 8, 9, 10, 11, 12] (by decide) rfl (wr := ([] : va_W)) [] rfl (by decide) (by decide) [0, 1, 2, 3, 4, 5, 6, 7, 8, 9, 10, 11, 12] (by decide) (ws' := wMo cI cC y (rowOf T) (kr, ar, ik, F, f, n, (tkR f n (tkP f n (nx f n (nx f n p)) T.1)), (tkP f n (nx f n (nx f n p)) T.1), (tkE f n (tkP f n (nx f n (nx f n p)) T.1)), (vlR f n (tkP f n (nx f n (nx f n p)) T.1)), s1, s2, s3, cr)) rfl ⟨by decide, by decide⟩ rfl rfl ⟨by decide, by decide⟩ rfl rfl (Nat.le_of_ble_eq_true rfl) dX5_readsMet_48 ?_
        rcases b_tf (nB f n (nx f n (nx f n p)) (nI T.1)) with hb6 | hb6
        · skip
          have lb6 := nB_lt (by omega) hb6
          refine aw_eq (lv' := [(0, .ref (y 0)), (1, .int (nI (ix (nmV f n (nx f n p)))))]) (st' := [.int (nI (ix (nmV f n (nx f n (nx f n p)))))]) (ws' := wMo cI cC y (rowOf T) (kr, ar, ik, F, f, n, (tkR f n (nx f n (nx f n (nx f n p)))), (nx f n (nx f n (nx f n p))), (tkE f n (nx f n (nx f n (nx f n p)))), (vlR f n (nx f n (nx f n (nx f n p)))), s1, s2, s3, cr)) rfl (by rw [tkV, hb6, cond_true, ← nmV_ix]) (by rw [tkP, hb6, cond_true]) ?_
          refine aw_pc 51 rfl ?_
          refine aw_istore_n C true (lv' := [(0, .ref (y 0)), (1, .int (nI (ix (nmV f n (nx f n p))))), (2, .int (nI (ix (nmV f n (nx f n (nx f n p))))))]) dX5_readsMet_51 (by decide) rfl rfl ?_
          refine aw_iload_n C dX5_readsMet_52 rfl ?_
          refine aw_if_lt C 88 dX5_readsMet_53 (by decide) (fun c_53 => absurd c_53 (nI_pos (by omega))) (fun c_53 => ?_)
          refine aw_aload_n C dX5_readsMet_56 rfl ?_
          refine aw_iload_n C dX5_readsMet_57 rfl ?_
          refine aw_iconst C (3 : Int32) dX5_readsMet_58 (by decide) ?_
          refine aw_aload_n C dX5_readsMet_59 rfl ?_
          refine aw_iload_n C dX5_readsMet_60 rfl ?_
          refine aw_iconst C (3 : Int32) dX5_readsMet_61 (by decide) ?_
          refine aw_callVp C (As := [.int (nI (ix (nmV f n (nx f n p)))), .int (3 : Int32)]) (c_X5_get l D cI cC adK adV y T (kr, ar, ik, F, f, n, (tkR f n (nx f n (nx f n (nx f n p)))), (nx f n (nx f n (nx f n p))), (tkE f n (nx f n (nx f n (nx f n p)))), (vlR f n (nx f n (nx f n (nx f n p)))), s1, s2, s3, cr) (ix (nmV f n (nx f n p))) 3 (by omega) (by decide)) k4_85 cv_X5_get 0 4 rfl rfl rfl [0, 1, 2, 3, 4, 5, 6, 7, 8, 9, 10, 11, 12] (by decide) rfl ⟨by decide, by decide⟩ rfl rfl ⟨by decide, by decide⟩ rfl rfl (Nat.le_of_ble_eq_true rfl) dX5_readsMet_62 ?_
          refine aw_pc 65 rfl ?_
          refine aw_iconst C (1 : Int32) dX5_readsMet_65 (by decide) ?_
          refine aw_iload_n C dX5_readsMet_66 rfl ?_
          refine aw_ishl C dX5_readsMet_67 ?_
          refine aw_ior C dX5_readsMet_68 ?_
          refine aw_callVdv C (As := [.int (nI (ix (nmV f n (nx f n p)))), .int (3 : Int32), .int ((T.2.2.1 3 (ix (nmV f n (nx f n p)))) ||| ((1 : Int32) <<< ((nI (ix (nmV f n (nx f n (nx f n p))))) &&& 31)))]) (c_X5_puts l D cI cC adK adV y T (kr, ar, ik, F, f, n, (tkR f n (nx f n (nx f n (nx f n p)))), (nx f n (nx f n (nx f n p))), (tkE f n (nx f n (nx f n (nx f n p)))), (vlR f n (nx f n (nx f n (nx f n p)))), s1, s2, s3, cr) (ix (nmV f n (nx f n p))) 3 ((T.2.2.1 3 (ix (nmV f n (nx f n p)))) ||| ((1 : Int32) <<< ((nI (ix (nmV f n (nx f n (nx f n p))))) &&& 31))) (by omega) (by decide)) k4_69 cv_X5_puts 0 4 rfl rfl rfl [0, 1, 2, 3, 4, 5, 6, 7, 8, 9, 10, 11, 12] (by decide) rfl (wr := ([] : va_W)) [] rfl (by decide) (by decide) [0, 1, 2, 3, 4, 5, 6, 7, 8, 9, 10, 11, 12] (by decide) (ws' := wMo cI cC y (rowOf (sP T 3 (ix (nmV f n (nx f n p))) ((T.2.2.1 3 (ix (nmV f n (nx f n p)))) ||| ((1 : Int32) <<< ((nI (ix (nmV f n (nx f n (nx f n p))))) &&& 31))))) (kr, ar, ik, F, f, n, (tkR f n (nx f n (nx f n (nx f n p)))), (nx f n (nx f n (nx f n p))), (tkE f n (nx f n (nx f n (nx f n p)))), (vlR f n (nx f n (nx f n (nx f n p)))), s1, s2, s3, cr)) rfl ⟨by decide, by decide⟩ rfl rfl ⟨by decide, by decide⟩ rfl rfl (Nat.le_of_ble_eq_true rfl) dX5_readsMet_69 ?_
          refine aw_aload_n C dX5_readsMet_72 rfl ?_
          refine aw_iload_n C dX5_readsMet_73 rfl ?_
          refine aw_iconst C (3 : Int32) dX5_readsMet_74 (by decide) ?_
          refine aw_aload_n C dX5_readsMet_75 rfl ?_
          refine aw_iload_n C dX5_readsMet_76 rfl ?_
          refine aw_pc 77 rfl ?_
          refine aw_iconst C (3 : Int32) dX5_readsMet_77 (by decide) ?_
          refine aw_callVp C (As := [.int (nI (ix (nmV f n (nx f n (nx f n p))))), .int (3 : Int32)]) (c_X5_get l D cI cC adK adV y (sP T 3 (ix (nmV f n (nx f n p))) ((T.2.2.1 3 (ix (nmV f n (nx f n p)))) ||| ((1 : Int32) <<< ((nI (ix (nmV f n (nx f n (nx f n p))))) &&& 31)))) (kr, ar, ik, F, f, n, (tkR f n (nx f n (nx f n (nx f n p)))), (nx f n (nx f n (nx f n p))), (tkE f n (nx f n (nx f n (nx f n p)))), (vlR f n (nx f n (nx f n (nx f n p)))), s1, s2, s3, cr) (ix (nmV f n (nx f n (nx f n p)))) 3 (by omega) (by decide)) k4_85 cv_X5_get 0 4 rfl rfl rfl [0, 1, 2, 3, 4, 5, 6, 7, 8, 9, 10, 11, 12] (by decide) rfl ⟨by decide, by decide⟩ rfl rfl ⟨by decide, by decide⟩ rfl rfl (Nat.le_of_ble_eq_true rfl) dX5_readsMet_78 ?_
          refine aw_iconst C (1 : Int32) dX5_readsMet_81 (by decide) ?_
          refine aw_iload_n C dX5_readsMet_82 rfl ?_
          refine aw_ishl C dX5_readsMet_83 ?_
          refine aw_ior C dX5_readsMet_84 ?_
          refine aw_callVdv C (As := [.int (nI (ix (nmV f n (nx f n (nx f n p))))), .int (3 : Int32), .int (((sP T 3 (ix (nmV f n (nx f n p))) ((T.2.2.1 3 (ix (nmV f n (nx f n p)))) ||| ((1 : Int32) <<< ((nI (ix (nmV f n (nx f n (nx f n p))))) &&& 31)))).2.2.1 3 (ix (nmV f n (nx f n (nx f n p))))) ||| ((1 : Int32) <<< ((nI (ix (nmV f n (nx f n p)))) &&& 31)))]) (c_X5_puts l D cI cC adK adV y (sP T 3 (ix (nmV f n (nx f n p))) ((T.2.2.1 3 (ix (nmV f n (nx f n p)))) ||| ((1 : Int32) <<< ((nI (ix (nmV f n (nx f n (nx f n p))))) &&& 31)))) (kr, ar, ik, F, f, n, (tkR f n (nx f n (nx f n (nx f n p)))), (nx f n (nx f n (nx f n p))), (tkE f n (nx f n (nx f n (nx f n p)))), (vlR f n (nx f n (nx f n (nx f n p)))), s1, s2, s3, cr) (ix (nmV f n (nx f n (nx f n p)))) 3 (((sP T 3 (ix (nmV f n (nx f n p))) ((T.2.2.1 3 (ix (nmV f n (nx f n p)))) ||| ((1 : Int32) <<< ((nI (ix (nmV f n (nx f n (nx f n p))))) &&& 31)))).2.2.1 3 (ix (nmV f n (nx f n (nx f n p))))) ||| ((1 : Int32) <<< ((nI (ix (nmV f n (nx f n p)))) &&& 31))) (by omega) (by decide)) k4_69 cv_X5_puts 0 4 rfl rfl rfl [0, 1, 2, 3, 4, 5, 6, 7, 8, 9, 10, 11, 12] (by decide) rfl (wr := ([] : va_W)) [] rfl (by decide) (by decide) [0, 1, 2, 3, 4, 5, 6, 7, 8, 9, 10, 11, 12] (by decide) (ws' := wMo cI cC y (rowOf (sP (sP T 3 (ix (nmV f n (nx f n p))) ((T.2.2.1 3 (ix (nmV f n (nx f n p)))) ||| ((1 : Int32) <<< ((nI (ix (nmV f n (nx f n (nx f n p))))) &&& 31)))) 3 (ix (nmV f n (nx f n (nx f n p)))) (((sP T 3 (ix (nmV f n (nx f n p))) ((T.2.2.1 3 (ix (nmV f n (nx f n p)))) ||| ((1 : Int32) <<< ((nI (ix (nmV f n (nx f n (nx f n p))))) &&& 31)))).2.2.1 3 (ix (nmV f n (nx f n (nx f n p))))) ||| ((1 : Int32) <<< ((nI (ix (nmV f n (nx f n p)))) &&& 31))))) (kr, ar, ik, F, f, n, (tkR f n (nx f n (nx f n (nx f n p)))), (nx f n (nx f n (nx f n p))), (tkE f n (nx f n (nx f n (nx f n p)))), (vlR f n (nx f n (nx f n (nx f n p)))), s1, s2, s3, cr)) rfl ⟨by decide, by decide⟩ rfl rfl ⟨by decide, by decide⟩ rfl rfl (Nat.le_of_ble_eq_true rfl) dX5_readsMet_85 ?_
          refine aw_iload_n C dX5_readsMet_88 rfl ?_
          refine aw_if_lt C 96 dX5_readsMet_89 (by decide) (fun c_89 => absurd c_89 (nI_pos (by omega))) (fun c_89 => ?_)
          refine aw_iconst C (1 : Int32) dX5_readsMet_92 (by decide) ?_
          refine aw_pc 93 rfl ?_
          refine aw_goto C 97 dX5_readsMet_93 (by decide) ?_
          have hm : (rdMet f n T p) = (true, (sP (sP T 3 (ix (nmV f n (nx f n p))) ((T.2.2.1 3 (ix (nmV f n (nx f n p)))) ||| ((1 : Int32) <<< ((nI (ix (nmV f n (nx f n (nx f n p))))) &&& 31)))) 3 (ix (nmV f n (nx f n (nx f n p)))) (((sP T 3 (ix (nmV f n (nx f n p))) ((T.2.2.1 3 (ix (nmV f n (nx f n p)))) ||| ((1 : Int32) <<< ((nI (ix (nmV f n (nx f n (nx f n p))))) &&& 31)))).2.2.1 3 (ix (nmV f n (nx f n (nx f n p))))) ||| ((1 : Int32) <<< ((nI (ix (nmV f n (nx f n p)))) &&& 31)))), (nx f n (nx f n (nx f n p)))) := by simp only [rdMet, hb4, hb6, decide_eq_false (num_ne c_23 c_33), decide_true, decide_false, Bool.not_true, Bool.not_false, Bool.true_and, Bool.false_and, Bool.and_true, Bool.and_false, Bool.true_or, Bool.false_or, Bool.or_true, Bool.or_false, cond_true, cond_false, eq_self, if_true, if_false, ite_true, ite_false] <;> rfl
          exact aw_bret C (b := true) hr hlk dX5_readsMet_97 rfl ⟨rb (by rw [hm]), (rowOf (sP (sP T 3 (ix (nmV f n (nx f n p))) ((T.2.2.1 3 (ix (nmV f n (nx f n p)))) ||| ((1 : Int32) <<< ((nI (ix (nmV f n (nx f n (nx f n p))))) &&& 31)))) 3 (ix (nmV f n (nx f n (nx f n p)))) (((sP T 3 (ix (nmV f n (nx f n p))) ((T.2.2.1 3 (ix (nmV f n (nx f n p)))) ||| ((1 : Int32) <<< ((nI (ix (nmV f n (nx f n (nx f n p))))) &&& 31)))).2.2.1 3 (ix (nmV f n (nx f n (nx f n p))))) ||| ((1 : Int32) <<< ((nI (ix (nmV f n (nx f n p)))) &&& 31))))), by rw [hm], fun _ => by rw [hm]⟩
        · skip
          refine aw_eq (lv' := [(0, .ref (y 0)), (1, .int (nI (ix (nmV f n (nx f n p)))))]) (st' := [.int (-1 : Int32)]) (ws' := wMo cI cC y (rowOf T) (kr, ar, ik, F, f, n, (tkR f n (nx f n (nx f n p))), (nx f n (nx f n p)), (tkE f n (nx f n (nx f n p))), (vlR f n (nx f n (nx f n p))), s1, s2, s3, cr)) rfl (by rw [tkV, hb6, cond_false]) (by rw [tkP, hb6, cond_false]) ?_
          refine aw_istore_n C true (lv' := [(0, .ref (y 0)), (1, .int (nI (ix (nmV f n (nx f n p))))), (2, .int (-1 : Int32))]) dX5_readsMet_51 (by decide) rfl rfl ?_
          refine aw_iload_n C dX5_readsMet_52 rfl ?_
          refine aw_if_lt C 88 dX5_readsMet_53 (by decide) (fun c_53 => ?_) (fun c_53 => absurd c_53 (by decide))
          refine aw_iload_n C dX5_readsMet_88 rfl ?_
          refine aw_if_lt C 96 dX5_readsMet_89 (by decide) (fun c_89 => ?_) (fun c_89 => absurd c_89 (by decide))
          refine aw_iconst C (0 : Int32) dX5_readsMet_96 (by decide) ?_
          have hm : (rdMet f n T p) = (false, T, (nx f n (nx f n p))) := by simp only [rdMet, hb4, hb6, decide_true, decide_false, Bool.not_true, Bool.not_false, Bool.true_and, Bool.false_and, Bool.and_true, Bool.and_false, Bool.true_or, Bool.false_or, Bool.or_true, Bool.or_false, cond_true, cond_false, eq_self, if_true, if_false, ite_true, ite_false]
          exact aw_bret C (b := false) hr hlk dX5_readsMet_97 rfl ⟨rb (by rw [hm]), (rowOf T), by rw [hm], fun z => by rw [hm] at z; exact absurd z Bool.false_ne_true⟩
      · skip
        refine aw_iconst C (0 : Int32) dX5_readsMet_36 (by decide) ?_
        refine aw_pc 37 rfl ?_
        have hm : (rdMet f n T p) = (false, T, (nx f n (nx f n p))) := by simp only [rdMet, hb4, decide_eq_true (num_eq c_23 c_33), decide_true, decide_false, Bool.not_true, Bool.not_false, Bool.true_and, Bool.false_and, Bool.and_true, Bool.and_false, Bool.true_or, Bool.false_or, Bool.or_true, Bool.or_false, cond_true, cond_false, eq_self, if_true, if_false, ite_true, ite_false]
        exact aw_bret C (b := false) hr hlk dX5_readsMet_37 rfl ⟨rb (by rw [hm]), (rowOf T), by rw [hm], fun z => by rw [hm] at z; exact absurd z Bool.false_ne_true⟩
  · skip
    refine aw_eq (lv' := [(0, .ref (y 0))]) (st' := [.int (-1 : Int32)]) (ws' := wMo cI cC y (rowOf T) (kr, ar, ik, F, f, n, (tkR f n (nx f n p)), (nx f n p), (tkE f n (nx f n p)), (vlR f n (nx f n p)), s1, s2, s3, cr)) rfl (by rw [tkV, hb4, cond_false]) (by rw [tkP, hb4, cond_false]) ?_
    refine aw_istore_n C true (lv' := [(0, .ref (y 0)), (1, .int (-1 : Int32))]) dX5_readsMet_13 (by decide) rfl rfl ?_
    refine aw_iload_n C dX5_readsMet_14 rfl ?_
    refine aw_if_lt C 36 dX5_readsMet_15 (by decide) (fun c_15 => ?_) (fun c_15 => absurd c_15 (by decide))
    refine aw_iconst C (0 : Int32) dX5_readsMet_36 (by decide) ?_
    have hm : (rdMet f n T p) = (false, T, (nx f n p)) := by simp only [rdMet, hb4, decide_true, decide_false, Bool.not_true, Bool.not_false, Bool.true_and, Bool.false_and, Bool.and_true, Bool.and_false, Bool.true_or, Bool.false_or, Bool.or_true, Bool.or_false, cond_true, cond_false, eq_self, if_true, if_false, ite_true, ite_false]
    exact aw_bret C (b := false) hr hlk dX5_readsMet_37 rfl ⟨rb (by rw [hm]), (rowOf T), by rw [hm], fun z => by rw [hm] at z; exact absurd z Bool.false_ne_true⟩
abbrev r_X5_readsItem : Room := { frames := 5, cells := 0, slots := 0, locals := 109 }
theorem cv_X5_readsItem : cV yX5_readsItem cX5_readsItem 4 (some .boolean) 0 := ⟨k5_126, k0_64, k5_127, k1_6, by decide, by decide, by decide +kernel⟩
set_option maxHeartbeats 4000000 in
set_option maxRecDepth 100000 in
theorem c_X5_readsItem (l : Launch) (D : va_G) (cI cC : ClassId) (adK adV : Nat → Nat) (y : Nat → Nat) (T : Tw) (kr : Nat → Int32) (ar : Nat → Int32) (ik : Bool) (F : Nat → Int32) (f : Nat → Int32) (n : Nat) (s1 : Nat → Int32) (s2 : Nat → Int32) (s3 : Nat → Int32) (cr : Nat → Int32) (p : Nat)  (ho : gOk T) (hp : p ≤ n) (hn : n ≤ 120) : FC l yX5_readsItem (wW yX5_readsItem cX5_readsItem 4 (some .boolean)) r_X5_readsItem D (tyC cI cC) adK adV (wMo cI cC y (rowOf T) (kr, ar, ik, F, f, n, (tkR f n p), p, (tkE f n p), (vlR f n p), s1, s2, s3, cr)) [.ref (y 0)] 0 0 (pRp cI cC y kr ar ik F f n s1 s2 s3 cr (rdItem f n T p)) := by
  refine FC.of (own := RX5) (by decide) rfl (Nat.le_of_ble_eq_true rfl) ?_
  intro p9 e9 s9 m9 args9 below9 meth9 c9 A9 C hr hlk hmn
  show AW p9 l e9 r_X5_readsItem s9 m9 args9 below9 meth9 c9 D A9 4 0 0 _ 0 [(0, .ref (y 0))] [] _
  have h8 := ho.n
  refine aw_aload_n C dX5_readsItem_0 rfl ?_
  refine aw_aload_n C dX5_readsItem_1 rfl ?_
  refine aw_getf C 0 4 11 18 inX5 rfl (by decide) rfl k4_5 rfl rfl dX5_readsItem_2 ?_
  refine aw_callVp C (As := [.ref (y 6)]) (c_X5_wordOf_L l D cI cC adK adV y (rowOf T) kr ar ik F f n s1 s2 s3 cr p) k5_128 cv_X5_wordOf_L 0 4 rfl rfl rfl [0, 1, 2, 3, 4, 5, 6, 7, 8, 9, 10, 11, 12] (by decide) rfl ⟨by decide, by decide⟩ rfl rfl ⟨by decide, by decide⟩ rfl rfl (Nat.le_of_ble_eq_true rfl) dX5_readsItem_5 ?_
  refine aw_istore_n C true (lv' := [(0, .ref (y 0)), (1, .int (wWord f n p 0 7))]) dX5_readsItem_8 (by decide) rfl rfl ?_
  refine aw_iload_n C dX5_readsItem_9 rfl ?_
  refine aw_if_lt C 19 dX5_readsItem_10 (by decide) (fun c_10 => ?_) (fun c_10 => ?_)
  · skip
    refine aw_aload_n C dX5_readsItem_19 rfl ?_
    refine aw_aload_n C dX5_readsItem_20 rfl ?_
    refine aw_pc 21 rfl ?_
    refine aw_getf C 0 4 13 18 inX5 rfl (by decide) rfl k4_7 rfl rfl dX5_readsItem_21 ?_
    refine aw_callVp C (As := [.ref (y 8)]) (c_X5_wordOf_O l D cI cC adK adV y (rowOf T) kr ar ik F f n s1 s2 s3 cr p) k5_128 cv_X5_wordOf_O 0 4 rfl rfl rfl [0, 1, 2, 3, 4, 5, 6, 7, 8, 9, 10, 11, 12] (by decide) rfl ⟨by decide, by decide⟩ rfl rfl ⟨by decide, by decide⟩ rfl rfl (Nat.le_of_ble_eq_true rfl) dX5_readsItem_24 ?_
    refine aw_istore_n C true (lv' := [(0, .ref (y 0)), (1, .int (wWord f n p 0 7)), (2, .int (wWord f n p 7 2))]) dX5_readsItem_27 (by decide) rfl rfl ?_
    refine aw_iload_n C dX5_readsItem_28 rfl ?_
    refine aw_if_ge C 34 dX5_readsItem_29 (by decide) (fun c_29 => ?_) (fun c_29 => ?_)
    · skip
      refine aw_aload_n C dX5_readsItem_34 rfl ?_
      refine aw_callVdv C (As := []) (c_X5_nextTokenS l D cI cC adK adV y (rowOf T) kr ar ik F f n s1 s2 s3 cr p hp hn) k5_108 cv_X5_nextToken 0 4 rfl rfl rfl [0, 1, 2, 3, 4, 5, 6, 7, 8, 9, 10, 11, 12] (by decide) rfl (wr := ([] : va_W)) [] rfl (by decide) (by decide) [0, 1, 2, 3, 4, 5, 6, 7, 8, 9, 10, 11, 12] (by decide) (ws' := wMo cI cC y (rowOf T) (kr, ar, ik, F, f, n, (tkR f n (nx f n p)), (nx f n p), (tkE f n (nx f n p)), (vlR f n (nx f n p)), s1, s2, s3, cr)) rfl ⟨by decide, by decide⟩ rfl rfl ⟨by decide, by decide⟩ rfl rfl (Nat.le_of_ble_eq_true rfl) dX5_readsItem_35 ?_
      refine aw_iload_n C dX5_readsItem_38 rfl ?_
      refine aw_if_ne C 47 dX5_readsItem_39 (by decide) (fun c_39 => ?_) (fun c_39 => ?_)
      · skip
        refine aw_aload_n C dX5_readsItem_47 rfl ?_
        refine aw_pc 48 rfl ?_
        refine aw_iconst C (0 : Int32) dX5_readsItem_48 (by decide) ?_
        refine aw_bipush C (11 : Int32) dX5_readsItem_49 (by decide) ?_
        refine aw_callVd C (As := [.int (0 : Int32), .int (nI 12 - (1 : Int32))]) (c_X5_takesNumber l D cI cC adK adV y (rowOf T) kr ar ik F f n s1 s2 s3 cr (nx f n p) 12 (nx_le hp) hn (by omega)) k5_136 cv_X5_takesNumber 0 4 rfl rfl rfl [0, 1, 2, 3, 4, 5, 6, 7, 8, 9, 10, 11, 12] (by decide) rfl (wr := ([] : va_W)) [] rfl (by decide) (by decide) [0, 1, 2, 3, 4, 5, 6, 7, 8, 9, 10, 11, 12] (by decide) (ws' := wMo cI cC y (rowOf T) (kr, ar, ik, F, f, n, (tkR f n (tkP f n (nx f n p) 12)), (tkP f n (nx f n p) 12), (tkE f n (tkP f n (nx f n p) 12)), (vlR f n (tkP f n (nx f n p) 12)), s1, s2, s3, cr)) rfl ⟨by decide, by decide⟩ rfl rfl ⟨by decide, by decide⟩ rfl rfl (Nat.le_of_ble_eq_true rfl) dX5_readsItem_51 ?_
        rcases b_tf (nB f n (nx f n p) (nI 12)) with hb7 | hb7
        · skip
          refine aw_eq (lv' := [(0, .ref (y 0)), (1, .int (wWord f n p 0 7)), (2, .int (wWord f n p 7 2))]) (st' := [.int (nmV f n (nx f n p))]) (ws' := wMo cI cC y (rowOf T) (kr, ar, ik, F, f, n, (tkR f n (nx f n (nx f n p))), (nx f n (nx f n p)), (tkE f n (nx f n (nx f n p))), (vlR f n (nx f n (nx f n p))), s1, s2, s3, cr)) rfl (by rw [tkV, hb7, cond_true]) (by rw [tkP, hb7, cond_true]) ?_
          have hb7 : nB f n (nx f n p) 12 = true := hb7
          refine aw_istore_n C true (lv' := [(0, .ref (y 0)), (1, .int (wWord f n p 0 7)), (2, .int (wWord f n p 7 2)), (3, .int (nmV f n (nx f n p)))]) dX5_readsItem_54 (by decide) rfl rfl ?_
          refine aw_aload_n C dX5_readsItem_55 rfl ?_
          refine aw_getf C 0 4 0 18 inX5 rfl (by decide) rfl k3_234 rfl rfl dX5_readsItem_56 ?_
          refine aw_iconst C (0 : Int32) dX5_readsItem_59 (by decide) ?_
          refine aw_iload_n C dX5_readsItem_60 rfl ?_
          refine aw_if_ge C 73 dX5_readsItem_61 (by decide) (fun c_61 => ?_) (fun c_61 => absurd c_61 (fun z => z (nmV_ge _ _ _)))
          refine aw_ldc C k4_166 dX5_readsItem_73 ?_
          refine aw_pc 75 rfl ?_
          refine aw_aload_n C dX5_readsItem_75 rfl ?_
          refine aw_getf C 0 4 0 18 inX5 rfl (by decide) rfl k3_234 rfl rfl dX5_readsItem_76 ?_
          refine aw_iconst C (0 : Int32) dX5_readsItem_79 (by decide) ?_
          refine aw_ialdN C 1 0 0 rfl rfl rfl (by decide) (by decide) dX5_readsItem_80 ?_
          refine aw_top (y := (T.2.1 0)) rfl ?_
          refine aw_iload_n C dX5_readsItem_81 rfl ?_
          refine aw_iadd C dX5_readsItem_82 ?_
          refine aw_callSp C (As := [.int (99999 : Int32), .int ((T.2.1 0) + (nmV f n (nx f n p)))]) (c_X5_less l D cI cC adK adV (99999 : Int32) ((T.2.1 0) + (nmV f n (nx f n p)))) k4_139 cs_X5_less [] (by decide) rfl ⟨by decide, by decide⟩ rfl rfl ⟨by decide, by decide⟩ rfl rfl (Nat.le_of_ble_eq_true rfl) dX5_readsItem_83 ?_
          refine aw_iastN C 1 0 0 rfl rfl rfl (by decide) (by decide) (ws' := wMo cI cC y (upd (rowOf T) 0 (mn (99999 : Int32) ((T.2.1 0) + (nmV f n (nx f n p))))) (kr, ar, ik, F, f, n, (tkR f n (nx f n (nx f n p))), (nx f n (nx f n p)), (tkE f n (nx f n (nx f n p))), (vlR f n (nx f n (nx f n p))), s1, s2, s3, cr)) rfl dX5_readsItem_86 ?_
          refine aw_eq (lv' := [(0, .ref (y 0)), (1, .int (wWord f n p 0 7)), (2, .int (wWord f n p 7 2)), (3, .int (nmV f n (nx f n p)))]) (ws' := wMo cI cC y (rowOf (sG T 0 (mn (99999 : Int32) ((T.2.1 0) + (nmV f n (nx f n p)))))) (kr, ar, ik, F, f, n, (tkR f n (nx f n (nx f n p))), (nx f n (nx f n p)), (tkE f n (nx f n (nx f n p))), (vlR f n (nx f n (nx f n p))), s1, s2, s3, cr)) rfl rfl (by rw [row_G0]) ?_
          refine aw_iload_n C dX5_readsItem_87 rfl ?_
          refine aw_if_lt C 95 dX5_readsItem_88 (by decide) (fun c_88 => absurd c_88 (nmV_nn _ _ _)) (fun c_88 => ?_)
          refine aw_pc 91 rfl ?_
          refine aw_iconst C (1 : Int32) dX5_readsItem_91 (by decide) ?_
          refine aw_goto C 96 dX5_readsItem_92 (by decide) ?_
          have hm : (rdItem f n T p) = (true, (sG T 0 (mn (99999 : Int32) ((T.2.1 0) + (nmV f n (nx f n p))))), (nx f n (nx f n p))) := by rw [ri_b c_10 c_29 c_39, rdBell, hb7, cond_true] <;> rfl
          exact aw_bret C (b := true) hr hlk dX5_readsItem_96 rfl ⟨rb (by rw [hm]), (rowOf (sG T 0 (mn (99999 : Int32) ((T.2.1 0) + (nmV f n (nx f n p)))))), by rw [hm], fun _ => by rw [hm]⟩
        · skip
          refine aw_eq (lv' := [(0, .ref (y 0)), (1, .int (wWord f n p 0 7)), (2, .int (wWord f n p 7 2))]) (st' := [.int (-1 : Int32)]) (ws' := wMo cI cC y (rowOf T) (kr, ar, ik, F, f, n, (tkR f n (nx f n p)), (nx f n p), (tkE f n (nx f n p)), (vlR f n (nx f n p)), s1, s2, s3, cr)) rfl (by rw [tkV, hb7, cond_false]) (by rw [tkP, hb7, cond_false]) ?_
          have hb7 : nB f n (nx f n p) 12 = false := hb7
          refine aw_istore_n C true (lv' := [(0, .ref (y 0)), (1, .int (wWord f n p 0 7)), (2, .int (wWord f n p 7 2)), (3, .int (-1 : Int32))]) dX5_readsItem_54 (by decide) rfl rfl ?_
          refine aw_aload_n C dX5_readsItem_55 rfl ?_
          refine aw_getf C 0 4 0 18 inX5 rfl (by decide) rfl k3_234 rfl rfl dX5_readsItem_56 ?_
          refine aw_iconst C (0 : Int32) dX5_readsItem_59 (by decide) ?_
          refine aw_iload_n C dX5_readsItem_60 rfl ?_
          refine aw_if_ge C 73 dX5_readsItem_61 (by decide) (fun c_61 => absurd c_61 (by decide)) (fun c_61 => ?_)
          refine aw_aload_n C dX5_readsItem_64 rfl ?_
          refine aw_pc 65 rfl ?_
          refine aw_getf C 0 4 0 18 inX5 rfl (by decide) rfl k3_234 rfl rfl dX5_readsItem_65 ?_
          refine aw_iconst C (0 : Int32) dX5_readsItem_68 (by decide) ?_
          refine aw_ialdN C 1 0 0 rfl rfl rfl (by decide) (by decide) dX5_readsItem_69 ?_
          refine aw_top (y := (T.2.1 0)) rfl ?_
          refine aw_goto C 86 dX5_readsItem_70 (by decide) ?_
          refine aw_iastN C 1 0 0 rfl rfl rfl (by decide) (by decide) (ws' := wMo cI cC y (upd (rowOf T) 0 (T.2.1 0)) (kr, ar, ik, F, f, n, (tkR f n (nx f n p)), (nx f n p), (tkE f n (nx f n p)), (vlR f n (nx f n p)), s1, s2, s3, cr)) rfl dX5_readsItem_86 ?_
          refine aw_eq (lv' := [(0, .ref (y 0)), (1, .int (wWord f n p 0 7)), (2, .int (wWord f n p 7 2)), (3, .int (-1 : Int32))]) (ws' := wMo cI cC y (rowOf (sG T 0 (T.2.1 0))) (kr, ar, ik, F, f, n, (tkR f n (nx f n p)), (nx f n p), (tkE f n (nx f n p)), (vlR f n (nx f n p)), s1, s2, s3, cr)) rfl rfl (by rw [row_G0]) ?_
          refine aw_iload_n C dX5_readsItem_87 rfl ?_
          refine aw_if_lt C 95 dX5_readsItem_88 (by decide) (fun c_88 => ?_) (fun c_88 => absurd c_88 (by decide))
          refine aw_iconst C (0 : Int32) dX5_readsItem_95 (by decide) ?_
          have hm : (rdItem f n T p) = (false, T, (nx f n p)) := by rw [ri_b c_10 c_29 c_39, rdBell, hb7, cond_false]
          exact aw_bret C (b := false) hr hlk dX5_readsItem_96 rfl ⟨rb (by rw [hm]), (rowOf (sG T 0 (T.2.1 0))), by rw [hm], fun z => by rw [hm] at z; exact absurd z Bool.false_ne_true⟩
      · skip
        refine aw_aload_n C dX5_readsItem_42 rfl ?_
        refine aw_pc 43 rfl ?_
        obtain ⟨M8, hM8⟩ : ∃ z9, z9 = (rdMet f n T p) := ⟨_, rfl⟩
        refine aw_callV C (As := []) (pRp_any (c_X5_readsMet l D cI cC adK adV y T kr ar ik F f n s1 s2 s3 cr p  ho hp hn) hM8) k5_140 cv_X5_readsMet 0 4 rfl rfl rfl [0, 1, 2, 3, 4, 5, 6, 7, 8, 9, 10, 11, 12] (by decide) rfl (wr := ([] : va_W)) [] rfl (by decide) (by decide) ⟨by decide, by decide⟩ rfl rfl ⟨by decide, by decide⟩ rfl rfl (Nat.le_of_ble_eq_true rfl) dX5_readsItem_43 ?_
        rintro _ _ ⟨rfl, sr8, rfl, hs8⟩
        refine aw_eq (lv' := [(0, .ref (y 0)), (1, .int (wWord f n p 0 7)), (2, .int (wWord f n p 7 2))]) (st' := [.int (b2 M8.1)]) (ws' := wMo cI cC y sr8 (kr, ar, ik, F, f, n, (tkR f n M8.2.2), M8.2.2, (tkE f n M8.2.2), (vlR f n M8.2.2), s1, s2, s3, cr)) rfl rfl rfl ?_
        have hm : (rdItem f n T p) = (M8.1, M8.2.1, M8.2.2) := by exact Eq.trans (ri_m c_10 c_39) hM8.symm
        exact aw_bret C (b := M8.1) hr hlk dX5_readsItem_46 rfl ⟨rb (by rw [hm]), sr8, by rw [hm], fun z => by rw [hm] at z ⊢; exact hs8 z⟩
    · skip
      refine aw_iconst C (0 : Int32) dX5_readsItem_32 (by decide) ?_
      have hm : (rdItem f n T p) = (false, T, p) := by exact ri_n c_10 c_29
      exact aw_bret C (b := false) hr hlk dX5_readsItem_33 rfl ⟨rb (by rw [hm]), (rowOf T), by rw [hm], fun z => by rw [hm] at z; exact absurd z Bool.false_ne_true⟩
  · skip
    refine aw_aload_n C dX5_readsItem_13 rfl ?_
    refine aw_iload_n C dX5_readsItem_14 rfl ?_
    obtain ⟨M9, hM9⟩ : ∃ z9, z9 = (rdOne f n (wWord f n p 0 7) T p) := ⟨_, rfl⟩
    refine aw_callV C (As := [.int (wWord f n p 0 7)]) (pRp_any (c_X5_readsPerson l D cI cC adK adV y T kr ar ik F f n s1 s2 s3 cr p (wWord f n p 0 7) ho hp hn) hM9) k5_132 cv_X5_readsPerson 0 4 rfl rfl rfl [0, 1, 2, 3, 4, 5, 6, 7, 8, 9, 10, 11, 12] (by decide) rfl (wr := ([] : va_W)) [] rfl (by decide) (by decide) ⟨by decide, by decide⟩ rfl rfl ⟨by decide, by decide⟩ rfl rfl (Nat.le_of_ble_eq_true rfl) dX5_readsItem_15 ?_
    rintro _ _ ⟨rfl, sr9, rfl, hs9⟩
    refine aw_eq (lv' := [(0, .ref (y 0)), (1, .int (wWord f n p 0 7))]) (st' := [.int (b2 M9.1)]) (ws' := wMo cI cC y sr9 (kr, ar, ik, F, f, n, (tkR f n M9.2.2), M9.2.2, (tkE f n M9.2.2), (vlR f n M9.2.2), s1, s2, s3, cr)) rfl rfl rfl ?_
    have hm : (rdItem f n T p) = (M9.1, M9.2.1, M9.2.2) := by exact Eq.trans (ri_p c_10) hM9.symm
    exact aw_bret C (b := M9.1) hr hlk dX5_readsItem_18 rfl ⟨rb (by rw [hm]), sr9, by rw [hm], fun z => by rw [hm] at z ⊢; exact hs9 z⟩
