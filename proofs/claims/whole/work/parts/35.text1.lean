/-! String constants: the JDK's own methods on them; the tokens of the tape -/
theorem chJ_n : ∀ i, i < 12 → ∀ j, j < lenJ.getD i 0 → ((((bytJ.getD i []).getD j 0) &&& 255).toUInt32 % 65536).toInt32 = (bytJ.getD i []).getD j 0 := by decide +kernel
theorem chJ_m : ∀ i, i < 12 → ∀ j, j < lenJ.getD i 0 → (((bytJ.getD i []).getD j 0).toUInt32 % 65536).toInt32 = (bytJ.getD i []).getD j 0 := by decide +kernel
theorem chJ_w {i j : Nat} (hi : i < 12) (hj : j < lenJ.getD i 0) : narrow .char (.int ((bytJ.getD i []).getD j 0)) = .int ((bytJ.getD i []).getD j 0) := congrArg Value.int (chJ_m i hi j hj)
def isL (b : Int32) : Bool := !decide (b < 97) && !decide (122 < b)
def isD (b : Int32) : Bool := !decide (b < 48) && !decide (57 < b)
def skp (f : Nat → Int32) (n e : Nat) : Nat := e + fst9 (fun j => !decide (f (e + j) = 32)) (n - e)
def runL (f : Nat → Int32) (n e : Nat) : Nat := e + fst9 (fun j => !isL (f (e + j))) (n - e)
def runD (f : Nat → Int32) (n e : Nat) : Nat := e + fst9 (fun j => !isD (f (e + j))) (n - e)
def nmI (f : Nat → Int32) (b j : Nat) : Int32 := itr (fun j v => mn 1000 (v * 10 + f (b + j) - 48)) j 0
def nmV (f : Nat → Int32) (n p : Nat) : Int32 := nmI f p (runD f n p - p)
def tkI (f : Nat → Int32) (n p : Nat) : Int32 := bif decide (n ≤ p) then 0 else bif isL (f p) then 1 else bif isD (f p) then 2 else bif decide (f p = 59) then 3 else 4
def tkE (f : Nat → Int32) (n p : Nat) : Nat := bif decide (n ≤ p) then p else bif isL (f p) then runL f n p else bif isD (f p) then runD f n p else p + 1
def nmT (f : Nat → Int32) (n p : Nat) (q : Int32) : Int32 := bif decide (n ≤ p) then q else bif isL (f p) then q else bif isD (f p) then nmV f n p else q
def nx (f : Nat → Int32) (n p : Nat) : Nat := skp f n (tkE f n p)
theorem fst9_le (c : Nat → Bool) (n : Nat) : fst9 c n ≤ n := by
  induction n with
  | zero => exact Nat.le_refl _
  | succ n ih =>
    rw [fst9]
    by_cases h : fst9 c n < n
    · rw [decide_eq_true h]; show fst9 c n ≤ n + 1; omega
    · rw [decide_eq_false h]
      cases c n
      · exact Nat.le_refl _
      · exact Nat.le_succ _
theorem skp_le {f : Nat → Int32} {n e : Nat} (h : e ≤ n) : skp f n e ≤ n := by have := fst9_le (fun j => !decide (f (e + j) = 32)) (n - e); unfold skp; omega
theorem skp_ge (f : Nat → Int32) (n e : Nat) : e ≤ skp f n e := Nat.le_add_right _ _
theorem runL_le {f : Nat → Int32} {n e : Nat} (h : e ≤ n) : runL f n e ≤ n := by have := fst9_le (fun j => !isL (f (e + j))) (n - e); unfold runL; omega
theorem runD_le {f : Nat → Int32} {n e : Nat} (h : e ≤ n) : runD f n e ≤ n := by have := fst9_le (fun j => !isD (f (e + j))) (n - e); unfold runD; omega
theorem tkE_le {f : Nat → Int32} {n p : Nat} (h : p ≤ n) : tkE f n p ≤ n := by
  unfold tkE
  by_cases q : n ≤ p
  · rw [decide_eq_true q]; exact h
  · rw [decide_eq_false q]
    cases isL (f p)
    · cases isD (f p)
      · show p + 1 ≤ n; omega
      · exact runD_le h
    · exact runL_le h
theorem tkE_ge (f : Nat → Int32) (n p : Nat) : p ≤ tkE f n p := by
  unfold tkE
  cases decide (n ≤ p)
  · cases isL (f p)
    · cases isD (f p)
      · exact Nat.le_succ _
      · exact Nat.le_add_right _ _
    · exact Nat.le_add_right _ _
  · exact Nat.le_refl _
theorem nx_le {f : Nat → Int32} {n p : Nat} (h : p ≤ n) : nx f n p ≤ n := skp_le (tkE_le h)
theorem nmT_2 {f : Nat → Int32} {n p : Nat} {q : Int32} (h : tkI f n p = 2) : nmT f n p q = nmV f n p := by
  unfold tkI at h
  unfold nmT
  cases h1 : decide (n ≤ p) <;> rw [h1] at h
  · cases h2 : isL (f p) <;> rw [h2] at h
    · cases h3 : isD (f p) <;> rw [h3] at h
      · cases h4 : decide (f p = 59) <;> rw [h4] at h <;> exact absurd h (by decide)
      · rfl
    · exact absurd (show (1 : Int32) = 2 from h) (by decide)
  · exact absurd (show (0 : Int32) = 2 from h) (by decide)
def wIs (f : Nat → Int32) (b e k : Nat) : Bool := decide (e - b = lenJ.getD k 0) && allB (fun j => decide (f (b + j) = (bytJ.getD k []).getD j 0)) (lenJ.getD k 0)
def wK (f : Nat → Int32) (n p k : Nat) : Bool := decide (tkI f n p = 1) && wIs f p (tkE f n p) k
def nB (f : Nat → Int32) (n p : Nat) (m : Int32) : Bool := decide (tkI f n p = 2) && decide (nmV f n p < m)

abbrev r_J0_coder_7d493 : Room := { frames := 0, cells := 0, slots := 0, locals := 0 }
theorem cv_J0_coder_7d493 : cV yJ0_coder_7d493 cJ0_coder_7d493 1 (some .byte) 0 := ⟨k3_59, k3_60, k3_61, k1_11, by decide, by decide, by decide +kernel⟩
set_option maxHeartbeats 4000000 in
set_option maxRecDepth 100000 in
theorem c_J0_coder_7d493 (l : Launch) (D : va_G) (cI cC : ClassId) (adK adV : Nat → Nat) (i : Nat) (hi : i < 12) : FC l yJ0_coder_7d493 (wW yJ0_coder_7d493 cJ0_coder_7d493 1 (some .byte)) r_J0_coder_7d493 D (tyC cI cC) adK adV (([] : va_W)) [.ref (adK i)] 0 0 (fQ (some (.int (0 : Int32))) (([] : va_W))) := by
  refine FC.of (own := RJ0) (by decide) rfl (Nat.le_of_ble_eq_true rfl) ?_
  intro p9 e9 s9 m9 args9 below9 meth9 c9 A9 C hr hlk hmn
  show AW p9 l e9 r_J0_coder_7d493 s9 m9 args9 below9 meth9 c9 D A9 1 0 0 _ 0 [(0, .ref (adK i))] [] _
  refine aw_getsZ C k3_62 dJ0_coder_7d493_0 ?_
  refine aw_if_eq C 13 dJ0_coder_7d493_3 (by decide) (fun c_3 => absurd c_3 (by decide)) (fun c_3 => ?_)
  refine aw_aload_n C dJ0_coder_7d493_6 rfl ?_
  refine aw_kgetc C (i := i) hi k5_199 dJ0_coder_7d493_7 ?_
  refine aw_goto C 14 dJ0_coder_7d493_10 (by decide) ?_
  exact aw_zret C hr hlk (by rfl) dJ0_coder_7d493_14 ⟨ri (by first | rfl | (simp only [])), by rfl⟩
abbrev r_J0_length_8abf5 : Room := { frames := 1, cells := 0, slots := 0, locals := 20 }
theorem cv_J0_length_8abf5 : cV yJ0_length_8abf5 cJ0_length_8abf5 1 (some .int) 0 := ⟨k3_55, k3_56, k3_57, k1_11, by decide, by decide, by decide +kernel⟩
set_option maxHeartbeats 4000000 in
set_option maxRecDepth 100000 in
theorem c_J0_length_8abf5 (l : Launch) (D : va_G) (cI cC : ClassId) (adK adV : Nat → Nat) (i : Nat) (hi : i < 12) : FC l yJ0_length_8abf5 (wW yJ0_length_8abf5 cJ0_length_8abf5 1 (some .int)) r_J0_length_8abf5 D (tyC cI cC) adK adV (([] : va_W)) [.ref (adK i)] 0 0 (fQ (some (.int (nI (lenJ.getD i 0)))) (([] : va_W))) := by
  refine FC.of (own := RJ0) (by decide) rfl (Nat.le_of_ble_eq_true rfl) ?_
  intro p9 e9 s9 m9 args9 below9 meth9 c9 A9 C hr hlk hmn
  show AW p9 l e9 r_J0_length_8abf5 s9 m9 args9 below9 meth9 c9 D A9 1 0 0 _ 0 [(0, .ref (adK i))] [] _
  refine aw_aload_n C dJ0_length_8abf5_0 rfl ?_
  refine aw_kgetv C (i := i) hi k5_198 dJ0_length_8abf5_1 ?_
  refine aw_klen C (i := i) hi dJ0_length_8abf5_4 ?_
  refine aw_aload_n C dJ0_length_8abf5_5 rfl ?_
  refine aw_callKp C (As := []) (c_J0_coder_7d493 l D cI cC adK adV i hi) hi k3_58 cv_J0_coder_7d493 rfl ⟨by decide, by decide⟩ rfl rfl ⟨by decide, by decide⟩ rfl rfl (Nat.le_of_ble_eq_true rfl) dJ0_length_8abf5_6 ?_
  refine aw_ishr C dJ0_length_8abf5_9 ?_
  exact aw_iret C hr hlk dJ0_length_8abf5_10 ⟨ri (by exact sb_shr0 _), by rfl⟩
abbrev r_J0_isLatin1_aae02 : Room := { frames := 0, cells := 0, slots := 0, locals := 0 }
theorem cv_J0_isLatin1_aae02 : cV yJ0_isLatin1_aae02 cJ0_isLatin1_aae02 1 (some .boolean) 0 := ⟨k3_69, k3_70, k3_71, k1_11, by decide, by decide, by decide +kernel⟩
set_option maxHeartbeats 4000000 in
set_option maxRecDepth 100000 in
theorem c_J0_isLatin1_aae02 (l : Launch) (D : va_G) (cI cC : ClassId) (adK adV : Nat → Nat) (i : Nat) (hi : i < 12) : FC l yJ0_isLatin1_aae02 (wW yJ0_isLatin1_aae02 cJ0_isLatin1_aae02 1 (some .boolean)) r_J0_isLatin1_aae02 D (tyC cI cC) adK adV (([] : va_W)) [.ref (adK i)] 0 0 (fQ (some (.int (b2 true))) (([] : va_W))) := by
  refine FC.of (own := RJ0) (by decide) rfl (Nat.le_of_ble_eq_true rfl) ?_
  intro p9 e9 s9 m9 args9 below9 meth9 c9 A9 C hr hlk hmn
  show AW p9 l e9 r_J0_isLatin1_aae02 s9 m9 args9 below9 meth9 c9 D A9 1 0 0 _ 0 [(0, .ref (adK i))] [] _
  refine aw_getsZ C k3_62 dJ0_isLatin1_aae02_0 ?_
  refine aw_if_eq C 17 dJ0_isLatin1_aae02_3 (by decide) (fun c_3 => absurd c_3 (by decide)) (fun c_3 => ?_)
  refine aw_aload_n C dJ0_isLatin1_aae02_6 rfl ?_
  refine aw_kgetc C (i := i) hi k5_199 dJ0_isLatin1_aae02_7 ?_
  refine aw_if_ne C 17 dJ0_isLatin1_aae02_10 (by decide) (fun c_10 => absurd c_10 (by decide)) (fun c_10 => ?_)
  refine aw_iconst C (1 : Int32) dJ0_isLatin1_aae02_13 (by decide) ?_
  refine aw_goto C 18 dJ0_isLatin1_aae02_14 (by decide) ?_
  exact aw_bret C (b := true) hr hlk dJ0_isLatin1_aae02_18 rfl ⟨rb (by first | rfl | (simp only [])), by rfl⟩
abbrev r_J3_checkIndex_8e157_n : Room := { frames := 0, cells := 0, slots := 0, locals := 0 }
theorem cs_J3_checkIndex_8e157_n : cS yJ3_checkIndex_8e157 cJ3_checkIndex_8e157 3 (some .int) 3 := ⟨k3_81, k3_82, k1_13, by decide, by decide, by decide +kernel⟩
set_option maxHeartbeats 4000000 in
set_option maxRecDepth 100000 in
theorem c_J3_checkIndex_8e157_n (l : Launch) (D : va_G) (cI cC : ClassId) (adK adV : Nat → Nat) (j n : Nat) (hj : j < n) (hn : n < 2 ^ 31) : FC l yJ3_checkIndex_8e157 (wW yJ3_checkIndex_8e157 cJ3_checkIndex_8e157 3 (some .int)) r_J3_checkIndex_8e157_n D (tyC cI cC) adK adV (([] : va_W)) [.int (nI j), .int (nI n), .null] 0 0 (fQ (some (.int (nI j))) (([] : va_W))) := by
  refine FC.of (own := RJ3) (by decide) rfl (Nat.le_of_ble_eq_true rfl) ?_
  intro p9 e9 s9 m9 args9 below9 meth9 c9 A9 C hr hlk hmn
  show AW p9 l e9 r_J3_checkIndex_8e157_n s9 m9 args9 below9 meth9 c9 D A9 3 0 0 _ 0 [(0, .int (nI j)), (1, .int (nI n)), (2, .null)] [] _
  refine aw_iload_n C dJ3_checkIndex_8e157_0 rfl ?_
  refine aw_if_lt C 9 dJ3_checkIndex_8e157_1 (by decide) (fun c_1 => absurd c_1 (nI_pos (by omega))) (fun c_1 => ?_)
  refine aw_iload_n C dJ3_checkIndex_8e157_4 rfl ?_
  refine aw_iload_n C dJ3_checkIndex_8e157_5 rfl ?_
  refine aw_icmp_lt C 16 dJ3_checkIndex_8e157_6 (by decide) (fun c_6 => ?_) (fun c_6 => absurd c_6 (fun z => z (nI_lt hj (by omega))))
  refine aw_iload_n C dJ3_checkIndex_8e157_16 rfl ?_
  exact aw_iret C hr hlk dJ3_checkIndex_8e157_17 ⟨ri (by first | rfl | (simp only [])), by rfl⟩
abbrev r_J3_checkIndex_8e157_r : Room := { frames := 0, cells := 0, slots := 0, locals := 0 }
theorem cs_J3_checkIndex_8e157_r : cS yJ3_checkIndex_8e157 cJ3_checkIndex_8e157 3 (some .int) 3 := ⟨k3_81, k3_82, k1_13, by decide, by decide, by decide +kernel⟩
set_option maxHeartbeats 4000000 in
set_option maxRecDepth 100000 in
theorem c_J3_checkIndex_8e157_r (l : Launch) (D : va_G) (cI cC : ClassId) (adK adV : Nat → Nat) (j n : Nat) (hj : j < n) (hn : n < 2 ^ 31) (t : Nat) : FC l yJ3_checkIndex_8e157 (wW yJ3_checkIndex_8e157 cJ3_checkIndex_8e157 3 (some .int)) r_J3_checkIndex_8e157_r D (tyC cI cC) adK adV (([] : va_W)) [.int (nI j), .int (nI n), .ref t] 0 0 (fQ (some (.int (nI j))) (([] : va_W))) := by
  refine FC.of (own := RJ3) (by decide) rfl (Nat.le_of_ble_eq_true rfl) ?_
  intro p9 e9 s9 m9 args9 below9 meth9 c9 A9 C hr hlk hmn
  show AW p9 l e9 r_J3_checkIndex_8e157_r s9 m9 args9 below9 meth9 c9 D A9 3 0 0 _ 0 [(0, .int (nI j)), (1, .int (nI n)), (2, .ref t)] [] _
  refine aw_iload_n C dJ3_checkIndex_8e157_0 rfl ?_
  refine aw_if_lt C 9 dJ3_checkIndex_8e157_1 (by decide) (fun c_1 => absurd c_1 (nI_pos (by omega))) (fun c_1 => ?_)
  refine aw_iload_n C dJ3_checkIndex_8e157_4 rfl ?_
  refine aw_iload_n C dJ3_checkIndex_8e157_5 rfl ?_
  refine aw_icmp_lt C 16 dJ3_checkIndex_8e157_6 (by decide) (fun c_6 => ?_) (fun c_6 => absurd c_6 (fun z => z (nI_lt hj (by omega))))
  refine aw_iload_n C dJ3_checkIndex_8e157_16 rfl ?_
  exact aw_iret C hr hlk dJ3_checkIndex_8e157_17 ⟨ri (by first | rfl | (simp only [])), by rfl⟩
abbrev r_J0_checkIndex_df160 : Room := { frames := 1, cells := 0, slots := 0, locals := 22 }
theorem cs_J0_checkIndex_df160 : cS yJ0_checkIndex_df160 cJ0_checkIndex_df160 2 none 2 := ⟨k3_76, k3_77, k1_11, by decide, by decide, by decide +kernel⟩
set_option maxHeartbeats 4000000 in
set_option maxRecDepth 100000 in
theorem c_J0_checkIndex_df160 (l : Launch) (D : va_G) (cI cC : ClassId) (adK adV : Nat → Nat) (j n : Nat) (hj : j < n) (hn : n < 2 ^ 31) : FC l yJ0_checkIndex_df160 (wW yJ0_checkIndex_df160 cJ0_checkIndex_df160 2 none) r_J0_checkIndex_df160 D (tyC cI cC) adK adV (([] : va_W)) [.int (nI j), .int (nI n)] 0 0 (fQ none (([] : va_W))) := by
  refine FC.of (own := RJ0) (by decide) rfl (Nat.le_of_ble_eq_true rfl) ?_
  intro p9 e9 s9 m9 args9 below9 meth9 c9 A9 C hr hlk hmn
  show AW p9 l e9 r_J0_checkIndex_df160 s9 m9 args9 below9 meth9 c9 D A9 2 0 0 _ 0 [(0, .int (nI j)), (1, .int (nI n))] [] _
  refine aw_iload_n C dJ0_checkIndex_df160_0 rfl ?_
  refine aw_iload_n C dJ0_checkIndex_df160_1 rfl ?_
  refine aw_getsQ C k3_78 dJ0_checkIndex_df160_2 ?_ (fun t => ?_)
  · skip
    refine aw_callSp C (As := [.int (nI j), .int (nI n), .null]) (c_J3_checkIndex_8e157_n l D cI cC adK adV j n hj hn) k3_80 cs_J3_checkIndex_8e157_n [] (by decide) rfl ⟨by decide, by decide⟩ rfl rfl ⟨by decide, by decide⟩ rfl rfl (Nat.le_of_ble_eq_true rfl) dJ0_checkIndex_df160_5 ?_
    refine aw_pop C dJ0_checkIndex_df160_8 rfl ?_
    exact aw_vret C hr hlk dJ0_checkIndex_df160_9 ⟨rfl, by rfl⟩
  · skip
    refine aw_callSp C (As := [.int (nI j), .int (nI n), .ref t]) (c_J3_checkIndex_8e157_r l D cI cC adK adV j n hj hn t) k3_80 cs_J3_checkIndex_8e157_r [] (by decide) rfl ⟨by decide, by decide⟩ rfl rfl ⟨by decide, by decide⟩ rfl rfl (Nat.le_of_ble_eq_true rfl) dJ0_checkIndex_df160_5 ?_
    refine aw_pop C dJ0_checkIndex_df160_8 rfl ?_
    exact aw_vret C hr hlk dJ0_checkIndex_df160_9 ⟨rfl, by rfl⟩
abbrev r_J1_charAt_3b067 : Room := { frames := 2, cells := 0, slots := 0, locals := 43 }
theorem cs_J1_charAt_3b067 : cS yJ1_charAt_3b067 cJ1_charAt_3b067 2 (some .char) 2 := ⟨k3_73, k3_74, k1_12, by decide, by decide, by decide +kernel⟩
set_option maxHeartbeats 4000000 in
set_option maxRecDepth 100000 in
theorem c_J1_charAt_3b067 (l : Launch) (D : va_G) (cI cC : ClassId) (adK adV : Nat → Nat) (i j : Nat) (hi : i < 12) (hj : j < lenJ.getD i 0) : FC l yJ1_charAt_3b067 (wW yJ1_charAt_3b067 cJ1_charAt_3b067 2 (some .char)) r_J1_charAt_3b067 D (tyC cI cC) adK adV (([] : va_W)) [.ref (adV i), .int (nI j)] 0 0 (fQ (some (.int ((bytJ.getD i []).getD j 0))) (([] : va_W))) := by
  refine FC.of (own := RJ1) (by decide) rfl (Nat.le_of_ble_eq_true rfl) ?_
  intro p9 e9 s9 m9 args9 below9 meth9 c9 A9 C hr hlk hmn
  show AW p9 l e9 r_J1_charAt_3b067 s9 m9 args9 below9 meth9 c9 D A9 2 0 0 _ 0 [(0, .ref (adV i)), (1, .int (nI j))] [] _
  refine aw_iload_n C dJ1_charAt_3b067_0 rfl ?_
  refine aw_aload_n C dJ1_charAt_3b067_1 rfl ?_
  refine aw_klen C (i := i) hi dJ1_charAt_3b067_2 ?_
  refine aw_callSpv C (As := [.int (nI j), .int (nI (lenJ.getD i 0))]) (c_J0_checkIndex_df160 l D cI cC adK adV j (lenJ.getD i 0) hj (by have := lenJ_lt i hi; omega)) k3_75 cs_J0_checkIndex_df160 [] (by decide) rfl ⟨by decide, by decide⟩ rfl rfl ⟨by decide, by decide⟩ rfl rfl (Nat.le_of_ble_eq_true rfl) dJ1_charAt_3b067_3 ?_
  refine aw_aload_n C dJ1_charAt_3b067_6 rfl ?_
  refine aw_iload_n C dJ1_charAt_3b067_7 rfl ?_
  refine aw_kbal C (i := i) (j := j) hi hj dJ1_charAt_3b067_8 ?_
  refine aw_sipush C (255 : Int32) dJ1_charAt_3b067_9 (by decide) ?_
  refine aw_iand C dJ1_charAt_3b067_12 ?_
  refine aw_pc 13 rfl ?_
  refine aw_i2c C dJ1_charAt_3b067_13 ?_
  refine aw_top (y := ((bytJ.getD i []).getD j 0)) (by exact chJ_n i hi j hj) ?_
  exact aw_zret C hr hlk (by exact chJ_w hi hj) dJ1_charAt_3b067_14 ⟨ri (by first | rfl | (simp only [])), by rfl⟩
abbrev r_J0_charAt_5068e : Room := { frames := 3, cells := 0, slots := 0, locals := 64 }
theorem cv_J0_charAt_5068e : cV yJ0_charAt_5068e cJ0_charAt_5068e 2 (some .char) 1 := ⟨k3_65, k3_66, k3_67, k1_11, by decide, by decide, by decide +kernel⟩
set_option maxHeartbeats 4000000 in
set_option maxRecDepth 100000 in
theorem c_J0_charAt_5068e (l : Launch) (D : va_G) (cI cC : ClassId) (adK adV : Nat → Nat) (i j : Nat) (hi : i < 12) (hj : j < lenJ.getD i 0) : FC l yJ0_charAt_5068e (wW yJ0_charAt_5068e cJ0_charAt_5068e 2 (some .char)) r_J0_charAt_5068e D (tyC cI cC) adK adV (([] : va_W)) [.ref (adK i), .int (nI j)] 0 0 (fQ (some (.int ((bytJ.getD i []).getD j 0))) (([] : va_W))) := by
  refine FC.of (own := RJ0) (by decide) rfl (Nat.le_of_ble_eq_true rfl) ?_
  intro p9 e9 s9 m9 args9 below9 meth9 c9 A9 C hr hlk hmn
  show AW p9 l e9 r_J0_charAt_5068e s9 m9 args9 below9 meth9 c9 D A9 2 0 0 _ 0 [(0, .ref (adK i)), (1, .int (nI j))] [] _
  refine aw_aload_n C dJ0_charAt_5068e_0 rfl ?_
  refine aw_callKp C (As := []) (c_J0_isLatin1_aae02 l D cI cC adK adV i hi) hi k3_68 cv_J0_isLatin1_aae02 rfl ⟨by decide, by decide⟩ rfl rfl ⟨by decide, by decide⟩ rfl rfl (Nat.le_of_ble_eq_true rfl) dJ0_charAt_5068e_1 ?_
  refine aw_ifeq_b C 16 dJ0_charAt_5068e_4 (by decide) (fun c_4 => absurd c_4 (by simp)) (fun c_4 => ?_)
  refine aw_aload_n C dJ0_charAt_5068e_7 rfl ?_
  refine aw_kgetv C (i := i) hi k5_198 dJ0_charAt_5068e_8 ?_
  refine aw_iload_n C dJ0_charAt_5068e_11 rfl ?_
  refine aw_callSp C (As := [.ref (adV i), .int (nI j)]) (c_J1_charAt_3b067 l D cI cC adK adV i j hi hj) k3_72 cs_J1_charAt_3b067 [] (by decide) rfl ⟨by decide, by decide⟩ rfl rfl ⟨by decide, by decide⟩ rfl rfl (Nat.le_of_ble_eq_true rfl) dJ0_charAt_5068e_12 ?_
  exact aw_zret C hr hlk (by exact chJ_w hi hj) dJ0_charAt_5068e_15 ⟨ri (by first | rfl | (simp only [])), by rfl⟩
theorem nI_eqn {a b : Nat} (ha : a < 2 ^ 31) (hb : b < 2 ^ 31) (h : nI a = nI b) : a = b := by
  have := congrArg (fun q : Int32 => q.toNatClampNeg) h
  have this : ix (nI a) = ix (nI b) := this
  rwa [ix_nI ha, ix_nI hb] at this
abbrev r_X2_isWord : Room := { frames := 4, cells := 0, slots := 0, locals := 85 }
theorem cv_X2_isWord : cV yX2_isWord cX2_isWord 3 (some .boolean) 1 := ⟨k3_52, k0_16, k3_53, k1_4, by decide, by decide, by decide +kernel⟩
set_option maxHeartbeats 4000000 in
set_option maxRecDepth 100000 in
theorem c_X2_isWord (l : Launch) (D : va_G) (cI cC : ClassId) (adK adV : Nat → Nat) (h b : Nat) (f : Nat → Int32) (n : Nat) (tk : Int32) (bg en : Nat) (nm : Int32) (k : Nat) (hk : k < 12) (hbe : bg ≤ en) (hen : en ≤ 120) : FC l yX2_isWord (wW yX2_isWord cX2_isWord 3 (some .boolean)) r_X2_isWord D (tyC cI cC) adK adV (wTp cI h b f n tk bg en nm) [.ref h, .ref (adK k)] 0 0 (fQ (some (.int (b2 (decide (tk = 1) && wIs f bg en k)))) (wTp cI h b f n tk bg en nm)) := by
  refine FC.of (own := RX2) (by decide) rfl (Nat.le_of_ble_eq_true rfl) ?_
  intro p9 e9 s9 m9 args9 below9 meth9 c9 A9 C hr hlk hmn
  show AW p9 l e9 r_X2_isWord s9 m9 args9 below9 meth9 c9 D A9 3 0 0 _ 0 [(0, .ref h), (1, .ref (adK k))] [] _
  refine aw_aload_n C dX2_isWord_0 rfl ?_
  refine aw_getf C 0 1 2 6 inX2 rfl (by decide) rfl k1_84 rfl rfl dX2_isWord_1 ?_
  refine aw_iconst C (1 : Int32) dX2_isWord_4 (by decide) ?_
  refine aw_icmp_ne C 24 dX2_isWord_5 (by decide) (fun c_5 => ?_) (fun c_5 => ?_)
  · skip
    refine aw_iconst C (0 : Int32) dX2_isWord_24 (by decide) ?_
    exact aw_bret C (b := false) hr hlk dX2_isWord_25 rfl ⟨rb (by simp only [decide_eq_false c_5, Bool.false_and]), by rfl⟩
  · skip
    refine aw_aload_n C dX2_isWord_8 rfl ?_
    refine aw_getf C 0 1 4 6 inX2 rfl (by decide) rfl k1_86 rfl rfl dX2_isWord_9 ?_
    refine aw_aload_n C dX2_isWord_12 rfl ?_
    refine aw_pc 13 rfl ?_
    refine aw_getf C 0 1 3 6 inX2 rfl (by decide) rfl k1_85 rfl rfl dX2_isWord_13 ?_
    refine aw_isub C dX2_isWord_16 ?_
    refine aw_top (y := nI (en - bg)) (by exact pk_sub hbe) ?_
    refine aw_aload_n C dX2_isWord_17 rfl ?_
    refine aw_callKp C (As := []) (c_J0_length_8abf5 l D cI cC adK adV k hk) hk k3_54 cv_J0_length_8abf5 rfl ⟨by decide, by decide⟩ rfl rfl ⟨by decide, by decide⟩ rfl rfl (Nat.le_of_ble_eq_true rfl) dX2_isWord_18 ?_
    refine aw_icmp_eq C 26 dX2_isWord_21 (by decide) (fun c_21 => ?_) (fun c_21 => ?_)
    · skip
      have h20 := lenJ_lt k hk
      have h21 : en - bg = lenJ.getD k 0 := nI_eqn (by omega) (by omega) c_21
      refine aw_iconst C (0 : Int32) dX2_isWord_26 (by decide) ?_
      refine aw_istore_n C true (lv' := [(0, .ref h), (1, .ref (adK k)), (2, .int (0 : Int32))]) dX2_isWord_27 (by decide) rfl rfl ?_
      refine aw_eq (lv' := [(0, .ref h), (1, .ref (adK k)), (2, .int (nI 0))]) (ws' := wTp cI h b f n tk bg en nm) (by first | rfl | (simp only [itr, c_5, c_21])) rfl (by rfl) ?_
      refine aw_loop (LV := fun i => [(0, .ref h), (1, .ref (adK k)), (2, .int (nI i))]) (WS := fun i => wTp cI h b f n tk bg en nm) (lenJ.getD k 0) (Inv := fun i => allB (fun j => decide (f (bg + j) = (bytJ.getD k []).getD j 0)) i = true) rfl ?_ ?_
      · intro hv28
        refine aw_iload_n C dX2_isWord_28 rfl ?_
        refine aw_aload_n C dX2_isWord_29 rfl ?_
        refine aw_callKp C (As := []) (c_J0_length_8abf5 l D cI cC adK adV k hk) hk k3_54 cv_J0_length_8abf5 rfl ⟨by decide, by decide⟩ rfl rfl ⟨by decide, by decide⟩ rfl rfl (Nat.le_of_ble_eq_true rfl) dX2_isWord_30 ?_
        refine aw_pc 33 rfl ?_
        refine aw_icmp_ge C 63 dX2_isWord_33 (by decide) (fun c_33 => ?_) (fun c_33 => absurd c_33 (fun z => z (Int32.le_refl _)))
        refine aw_iconst C (1 : Int32) dX2_isWord_63 (by decide) ?_
        exact aw_bret C (b := true) hr hlk dX2_isWord_64 rfl ⟨rb (by simp only [wIs, decide_eq_true c_5, decide_eq_true h21, Bool.true_and]; exact hv28.symm), by rfl⟩
      · intro i hi28 hv28 ih28
        refine aw_iload_n C dX2_isWord_28 rfl ?_
        refine aw_aload_n C dX2_isWord_29 rfl ?_
        refine aw_callKp C (As := []) (c_J0_length_8abf5 l D cI cC adK adV k hk) hk k3_54 cv_J0_length_8abf5 rfl ⟨by decide, by decide⟩ rfl rfl ⟨by decide, by decide⟩ rfl rfl (Nat.le_of_ble_eq_true rfl) dX2_isWord_30 ?_
        refine aw_icmp_ge C 63 dX2_isWord_33 (by decide) (fun c_33 => absurd c_33 (nI_ge hi28 (by omega))) (fun c_33 => ?_)
        refine aw_aload_n C dX2_isWord_36 rfl ?_
        refine aw_getf C 0 1 0 6 inX2 rfl (by decide) rfl k1_82 rfl rfl dX2_isWord_37 ?_
        refine aw_aload_n C dX2_isWord_40 rfl ?_
        refine aw_pc 41 rfl ?_
        refine aw_getf C 0 1 3 6 inX2 rfl (by decide) rfl k1_85 rfl rfl dX2_isWord_41 ?_
        refine aw_iload_n C dX2_isWord_44 rfl ?_
        refine aw_iadd C dX2_isWord_45 ?_
        refine aw_ialdN C 1 0 (bg + i) rfl rfl (nI_add _ _) (by omega) (by decide) dX2_isWord_46 ?_
        refine aw_aload_n C dX2_isWord_47 rfl ?_
        refine aw_iload_n C dX2_isWord_48 rfl ?_
        refine aw_callKp C (As := [.int (nI i)]) (c_J0_charAt_5068e l D cI cC adK adV k i hk hi28) hk k3_64 cv_J0_charAt_5068e rfl ⟨by decide, by decide⟩ rfl rfl ⟨by decide, by decide⟩ rfl rfl (Nat.le_of_ble_eq_true rfl) dX2_isWord_49 ?_
        refine aw_icmp_eq C 57 dX2_isWord_52 (by decide) (fun c_52 => ?_) (fun c_52 => ?_)
        · skip
          refine aw_iinc C (nI (i + 1)) dX2_isWord_57 rfl (inc_nI _ 1) (by decide) rfl (lv' := [(0, .ref h), (1, .ref (adK k)), (2, .int (nI (i + 1)))]) rfl ?_
          refine aw_goto C 28 dX2_isWord_60 (by decide) ?_
          exact aw_eq (by first | rfl | (simp only [itr, c_5, c_21, c_52])) rfl (by first | rfl | (simp only [itr, c_5, c_21, c_52] <;> first | done | rfl)) (ih28 (allB_s hv28 (decide_eq_true c_52)))
        · skip
          refine aw_pc 55 rfl ?_
          refine aw_iconst C (0 : Int32) dX2_isWord_55 (by decide) ?_
          exact aw_bret C (b := false) hr hlk dX2_isWord_56 rfl ⟨rb (by have cc : (fun j => decide (f (bg + j) = (bytJ.getD k []).getD j 0)) i = false := decide_eq_false c_52; simp only [wIs, decide_eq_true c_5, decide_eq_true h21, Bool.true_and]; exact (allB_f cc hi28).symm), by rfl⟩
    · skip
      refine aw_iconst C (0 : Int32) dX2_isWord_24 (by decide) ?_
      exact aw_bret C (b := false) hr hlk dX2_isWord_25 rfl ⟨rb (by simp only [wIs, decide_eq_false (fun z : en - bg = lenJ.getD k 0 => c_21 (by rw [z])), Bool.false_and, Bool.and_false]), by rfl⟩
abbrev r_X2_passWord : Room := { frames := 1, cells := 0, slots := 0, locals := 20 }
theorem cv_X2_passWord : cV yX2_passWord cX2_passWord 1 none 0 := ⟨k3_31, k0_12, k3_32, k1_4, by decide, by decide, by decide +kernel⟩
set_option maxHeartbeats 4000000 in
set_option maxRecDepth 100000 in
theorem c_X2_passWord (l : Launch) (D : va_G) (cI cC : ClassId) (adK adV : Nat → Nat) (h b : Nat) (f : Nat → Int32) (n : Nat) (tk : Int32) (bg en : Nat) (nm : Int32) (he : en ≤ n) (hn : n ≤ 120) : FC l yX2_passWord (wW yX2_passWord cX2_passWord 1 none) r_X2_passWord D (tyC cI cC) adK adV (wTp cI h b f n tk bg en nm) [.ref h] 0 0 (fQ none (wTp cI h b f n tk bg (runL f n en) nm)) := by
  refine FC.of (own := RX2) (by decide) rfl (Nat.le_of_ble_eq_true rfl) ?_
  intro p9 e9 s9 m9 args9 below9 meth9 c9 A9 C hr hlk hmn
  show AW p9 l e9 r_X2_passWord s9 m9 args9 below9 meth9 c9 D A9 1 0 0 _ 0 [(0, .ref h)] [] _
  refine aw_eq (lv' := [(0, .ref h)]) (ws' := wTp cI h b f n tk bg (en + 0) nm) (by first | rfl | (simp only [itr])) rfl (by rfl) ?_
  refine aw_loop (LV := fun i => [(0, .ref h)]) (WS := fun i => wTp cI h b f n tk bg (en + i) nm) (n - en) (Inv := fun i => ∀ k, k < i → (!isL (f (en + k))) = false) (fun k hk => absurd hk (Nat.not_lt_zero k)) ?_ ?_
  · intro hv0
    refine aw_aload_n C dX2_passWord_0 rfl ?_
    refine aw_getf C 0 1 4 6 inX2 rfl (by decide) rfl k1_86 rfl rfl dX2_passWord_1 ?_
    refine aw_aload_n C dX2_passWord_4 rfl ?_
    refine aw_getf C 0 1 1 6 inX2 rfl (by decide) rfl k1_83 rfl rfl dX2_passWord_5 ?_
    refine aw_icmp_ge C 39 dX2_passWord_8 (by decide) (fun c_8 => ?_) (fun c_8 => absurd c_8 (fun z => z (nI_le (by omega) (by omega))))
    exact aw_vret C hr hlk dX2_passWord_39 ⟨rfl, by first | (rw [runL, fst9_at hv0 (by show (!isL (f (en + i))) = true; rw [show isL (f (en + i)) = false from c_23]; rfl) hi0]) | (rw [runL, fst9_none hv0])⟩
  · intro i hi0 hv0 ih0
    refine aw_aload_n C dX2_passWord_0 rfl ?_
    refine aw_getf C 0 1 4 6 inX2 rfl (by decide) rfl k1_86 rfl rfl dX2_passWord_1 ?_
    refine aw_aload_n C dX2_passWord_4 rfl ?_
    refine aw_pc 5 rfl ?_
    refine aw_getf C 0 1 1 6 inX2 rfl (by decide) rfl k1_83 rfl rfl dX2_passWord_5 ?_
    refine aw_icmp_ge C 39 dX2_passWord_8 (by decide) (fun c_8 => absurd c_8 (nI_ge (by omega) (by omega))) (fun c_8 => ?_)
    refine aw_aload_n C dX2_passWord_11 rfl ?_
    refine aw_getf C 0 1 0 6 inX2 rfl (by decide) rfl k1_82 rfl rfl dX2_passWord_12 ?_
    refine aw_aload_n C dX2_passWord_15 rfl ?_
    refine aw_getf C 0 1 4 6 inX2 rfl (by decide) rfl k1_86 rfl rfl dX2_passWord_16 ?_
    refine aw_ialdN C 1 0 (en + i) rfl rfl rfl (by omega) (by decide) dX2_passWord_19 ?_
    refine aw_callSp C (As := [.int (f (en + i))]) (c_X2_isLetter l D cI cC adK adV (f (en + i))) k3_26 cs_X2_isLetter [] (by decide) rfl ⟨by decide, by decide⟩ rfl rfl ⟨by decide, by decide⟩ rfl rfl (Nat.le_of_ble_eq_true rfl) dX2_passWord_20 ?_
    refine aw_ifeq_b C 39 dX2_passWord_23 (by decide) (fun c_23 => ?_) (fun c_23 => ?_)
    · skip
      exact aw_vret C hr hlk dX2_passWord_39 ⟨rfl, by first | (rw [runL, fst9_at hv0 (by show (!isL (f (en + i))) = true; rw [show isL (f (en + i)) = false from c_23]; rfl) hi0]) | (rw [runL, fst9_none hv0])⟩
    · skip
      refine aw_pc 26 rfl ?_
      refine aw_aload_n C dX2_passWord_26 rfl ?_
      refine aw_dup C dX2_passWord_27 rfl ?_
      refine aw_getf C 0 1 4 6 inX2 rfl (by decide) rfl k1_86 rfl rfl dX2_passWord_28 ?_
      refine aw_iconst C (1 : Int32) dX2_passWord_31 (by decide) ?_
      refine aw_iadd C dX2_passWord_32 ?_
      refine aw_top (y := (nI (en + i + 1))) (by exact nI_1 _) ?_
      refine aw_putf C 0 1 4 6 tyX2 inX2 tyX2_ok nmX2 rfl (by decide) rfl k1_86 rfl rfl rfl rfl rfl (Nat.le_of_ble_eq_true rfl) (ws' := wTp cI h b f n tk bg (en + i + 1) nm) rfl dX2_passWord_33 ?_
      refine aw_goto C 0 dX2_passWord_36 (by decide) ?_
      exact aw_eq (by first | rfl | (simp only [itr, c_23])) rfl (by rfl) (ih0 (all_s hv0 (by rw [show isL (f (en + i)) = true from c_23]; rfl)))
abbrev r_X2_passNumber : Room := { frames := 1, cells := 0, slots := 0, locals := 20 }
theorem cv_X2_passNumber : cV yX2_passNumber cX2_passNumber 1 none 0 := ⟨k3_38, k0_13, k3_39, k1_4, by decide, by decide, by decide +kernel⟩
set_option maxHeartbeats 4000000 in
set_option maxRecDepth 100000 in
theorem c_X2_passNumber (l : Launch) (D : va_G) (cI cC : ClassId) (adK adV : Nat → Nat) (h b : Nat) (f : Nat → Int32) (n : Nat) (tk : Int32) (bg en : Nat) (nm : Int32) (he : en ≤ n) (hn : n ≤ 120) : FC l yX2_passNumber (wW yX2_passNumber cX2_passNumber 1 none) r_X2_passNumber D (tyC cI cC) adK adV (wTp cI h b f n tk bg en nm) [.ref h] 0 0 (fQ none (wTp cI h b f n tk bg (runD f n en) (nmI f en (runD f n en - en)))) := by
  refine FC.of (own := RX2) (by decide) rfl (Nat.le_of_ble_eq_true rfl) ?_
  intro p9 e9 s9 m9 args9 below9 meth9 c9 A9 C hr hlk hmn
  show AW p9 l e9 r_X2_passNumber s9 m9 args9 below9 meth9 c9 D A9 1 0 0 _ 0 [(0, .ref h)] [] _
  refine aw_aload_n C dX2_passNumber_0 rfl ?_
  refine aw_iconst C (0 : Int32) dX2_passNumber_1 (by decide) ?_
  refine aw_putf C 0 1 5 6 tyX2 inX2 tyX2_ok nmX2 rfl (by decide) rfl k1_87 rfl rfl rfl rfl rfl (Nat.le_of_ble_eq_true rfl) (ws' := wTp cI h b f n tk bg en (0 : Int32)) rfl dX2_passNumber_2 ?_
  refine aw_eq (lv' := [(0, .ref h)]) (ws' := wTp cI h b f n tk bg (en + 0) (nmI f en 0)) (by first | rfl | (simp only [itr])) rfl (by rfl) ?_
  refine aw_loop (LV := fun i => [(0, .ref h)]) (WS := fun i => wTp cI h b f n tk bg (en + i) (nmI f en i)) (n - en) (Inv := fun i => ∀ k, k < i → (!isD (f (en + k))) = false) (fun k hk => absurd hk (Nat.not_lt_zero k)) ?_ ?_
  · intro hv5
    refine aw_aload_n C dX2_passNumber_5 rfl ?_
    refine aw_getf C 0 1 4 6 inX2 rfl (by decide) rfl k1_86 rfl rfl dX2_passNumber_6 ?_
    refine aw_aload_n C dX2_passNumber_9 rfl ?_
    refine aw_getf C 0 1 1 6 inX2 rfl (by decide) rfl k1_83 rfl rfl dX2_passNumber_10 ?_
    refine aw_icmp_ge C 74 dX2_passNumber_13 (by decide) (fun c_13 => ?_) (fun c_13 => absurd c_13 (fun z => z (nI_le (by omega) (by omega))))
    exact aw_vret C hr hlk dX2_passNumber_74 ⟨rfl, by first | (rw [show runD f n en = en + i by rw [runD, fst9_at hv5 (by show (!isD (f (en + i))) = true; rw [show isD (f (en + i)) = false from c_28]; rfl) hi5], show en + i - en = i by omega]) | (rw [show runD f n en = en + (n - en) by rw [runD, fst9_none hv5], show en + (n - en) - en = n - en by omega])⟩
  · intro i hi5 hv5 ih5
    refine aw_pc 5 rfl ?_
    refine aw_aload_n C dX2_passNumber_5 rfl ?_
    refine aw_getf C 0 1 4 6 inX2 rfl (by decide) rfl k1_86 rfl rfl dX2_passNumber_6 ?_
    refine aw_aload_n C dX2_passNumber_9 rfl ?_
    refine aw_getf C 0 1 1 6 inX2 rfl (by decide) rfl k1_83 rfl rfl dX2_passNumber_10 ?_
    refine aw_icmp_ge C 74 dX2_passNumber_13 (by decide) (fun c_13 => absurd c_13 (nI_ge (by omega) (by omega))) (fun c_13 => ?_)
    refine aw_aload_n C dX2_passNumber_16 rfl ?_
    refine aw_getf C 0 1 0 6 inX2 rfl (by decide) rfl k1_82 rfl rfl dX2_passNumber_17 ?_
    refine aw_aload_n C dX2_passNumber_20 rfl ?_
    refine aw_getf C 0 1 4 6 inX2 rfl (by decide) rfl k1_86 rfl rfl dX2_passNumber_21 ?_
    refine aw_ialdN C 1 0 (en + i) rfl rfl rfl (by omega) (by decide) dX2_passNumber_24 ?_
    refine aw_pc 25 rfl ?_
    refine aw_callSp C (As := [.int (f (en + i))]) (c_X2_isDigit l D cI cC adK adV (f (en + i))) k3_33 cs_X2_isDigit [] (by decide) rfl ⟨by decide, by decide⟩ rfl rfl ⟨by decide, by decide⟩ rfl rfl (Nat.le_of_ble_eq_true rfl) dX2_passNumber_25 ?_
    refine aw_ifeq_b C 74 dX2_passNumber_28 (by decide) (fun c_28 => ?_) (fun c_28 => ?_)
    · skip
      exact aw_vret C hr hlk dX2_passNumber_74 ⟨rfl, by first | (rw [show runD f n en = en + i by rw [runD, fst9_at hv5 (by show (!isD (f (en + i))) = true; rw [show isD (f (en + i)) = false from c_28]; rfl) hi5], show en + i - en = i by omega]) | (rw [show runD f n en = en + (n - en) by rw [runD, fst9_none hv5], show en + (n - en) - en = n - en by omega])⟩
    · skip
      refine aw_aload_n C dX2_passNumber_31 rfl ?_
      refine aw_sipush C (1000 : Int32) dX2_passNumber_32 (by decide) ?_
      refine aw_aload_n C dX2_passNumber_35 rfl ?_
      refine aw_getf C 0 1 5 6 inX2 rfl (by decide) rfl k1_87 rfl rfl dX2_passNumber_36 ?_
      refine aw_bipush C (10 : Int32) dX2_passNumber_39 (by decide) ?_
      refine aw_imul C dX2_passNumber_41 ?_
      refine aw_aload_n C dX2_passNumber_42 rfl ?_
      refine aw_pc 43 rfl ?_
      refine aw_getf C 0 1 0 6 inX2 rfl (by decide) rfl k1_82 rfl rfl dX2_passNumber_43 ?_
      refine aw_aload_n C dX2_passNumber_46 rfl ?_
      refine aw_getf C 0 1 4 6 inX2 rfl (by decide) rfl k1_86 rfl rfl dX2_passNumber_47 ?_
      refine aw_ialdN C 1 0 (en + i) rfl rfl rfl (by omega) (by decide) dX2_passNumber_50 ?_
      refine aw_iadd C dX2_passNumber_51 ?_
      refine aw_bipush C (48 : Int32) dX2_passNumber_52 (by decide) ?_
      refine aw_isub C dX2_passNumber_54 ?_
      refine aw_mmin C k3_40 (by decide) (Nat.le_of_ble_eq_true rfl) (by decide) (by decide) dX2_passNumber_55 ?_
      refine aw_putf C 0 1 5 6 tyX2 inX2 tyX2_ok nmX2 rfl (by decide) rfl k1_87 rfl rfl rfl rfl rfl (Nat.le_of_ble_eq_true rfl) (ws' := wTp cI h b f n tk bg (en + i) (mn (1000 : Int32) ((((nmI f en i) * (10 : Int32)) + (f (en + i))) - (48 : Int32)))) rfl dX2_passNumber_58 ?_
      refine aw_aload_n C dX2_passNumber_61 rfl ?_
      refine aw_pc 62 rfl ?_
      refine aw_dup C dX2_passNumber_62 rfl ?_
      refine aw_getf C 0 1 4 6 inX2 rfl (by decide) rfl k1_86 rfl rfl dX2_passNumber_63 ?_
      refine aw_iconst C (1 : Int32) dX2_passNumber_66 (by decide) ?_
      refine aw_iadd C dX2_passNumber_67 ?_
      refine aw_top (y := (nI (en + i + 1))) (by exact nI_1 _) ?_
      refine aw_putf C 0 1 4 6 tyX2 inX2 tyX2_ok nmX2 rfl (by decide) rfl k1_86 rfl rfl rfl rfl rfl (Nat.le_of_ble_eq_true rfl) (ws' := wTp cI h b f n tk bg (en + i + 1) (mn (1000 : Int32) ((((nmI f en i) * (10 : Int32)) + (f (en + i))) - (48 : Int32)))) rfl dX2_passNumber_68 ?_
      refine aw_goto C 5 dX2_passNumber_71 (by decide) ?_
      exact aw_eq (by first | rfl | (simp only [itr, c_28])) rfl (by rfl) (ih5 (all_s hv5 (by rw [show isD (f (en + i)) = true from c_28]; rfl)))
abbrev r_X2_nextToken : Room := { frames := 2, cells := 0, slots := 0, locals := 40 }
theorem cv_X2_nextToken : cV yX2_nextToken cX2_nextToken 1 none 0 := ⟨k3_24, k0_11, k3_25, k1_4, by decide, by decide, by decide +kernel⟩
set_option maxHeartbeats 4000000 in
set_option maxRecDepth 100000 in
theorem c_X2_nextToken (l : Launch) (D : va_G) (cI cC : ClassId) (adK adV : Nat → Nat) (h b : Nat) (f : Nat → Int32) (n : Nat) (tk : Int32) (bg en : Nat) (nm : Int32) (he : en ≤ n) (hn : n ≤ 120) : FC l yX2_nextToken (wW yX2_nextToken cX2_nextToken 1 none) r_X2_nextToken D (tyC cI cC) adK adV (wTp cI h b f n tk bg en nm) [.ref h] 0 0 (fQ none (wTp cI h b f n (tkI f n (skp f n en)) (skp f n en) (tkE f n (skp f n en)) (nmT f n (skp f n en) nm))) := by
  refine FC.of (own := RX2) (by decide) rfl (Nat.le_of_ble_eq_true rfl) ?_
  intro p9 e9 s9 m9 args9 below9 meth9 c9 A9 C hr hlk hmn
  show AW p9 l e9 r_X2_nextToken s9 m9 args9 below9 meth9 c9 D A9 1 0 0 _ 0 [(0, .ref h)] [] _
  refine aw_aload_n C dX2_nextToken_0 rfl ?_
  refine aw_aload_n C dX2_nextToken_1 rfl ?_
  refine aw_getf C 0 1 4 6 inX2 rfl (by decide) rfl k1_86 rfl rfl dX2_nextToken_2 ?_
  refine aw_putf C 0 1 3 6 tyX2 inX2 tyX2_ok nmX2 rfl (by decide) rfl k1_85 rfl rfl rfl rfl rfl (Nat.le_of_ble_eq_true rfl) (ws' := wTp cI h b f n tk en en nm) rfl dX2_nextToken_5 ?_
  refine aw_eq (lv' := [(0, .ref h)]) (ws' := wTp cI h b f n tk (en + 0) en nm) (by first | rfl | (simp only [itr])) rfl (by rfl) ?_
  refine aw_loop (LV := fun i => [(0, .ref h)]) (WS := fun i => wTp cI h b f n tk (en + i) en nm) (n - en) (Inv := fun i => ∀ k, k < i → (!decide (f (en + k) = 32)) = false) (fun k hk => absurd hk (Nat.not_lt_zero k)) ?_ ?_
  · intro hv8
    refine aw_aload_n C dX2_nextToken_8 rfl ?_
    refine aw_getf C 0 1 3 6 inX2 rfl (by decide) rfl k1_85 rfl rfl dX2_nextToken_9 ?_
    refine aw_aload_n C dX2_nextToken_12 rfl ?_
    refine aw_getf C 0 1 1 6 inX2 rfl (by decide) rfl k1_83 rfl rfl dX2_nextToken_13 ?_
    refine aw_icmp_ge C 46 dX2_nextToken_16 (by decide) (fun c_16 => ?_) (fun c_16 => absurd c_16 (fun z => z (nI_le (by omega) (by omega))))
    refine aw_pc 46 rfl ?_
    refine aw_eq (lv' := [(0, .ref h)]) (ws' := wTp cI h b f n tk (skp f n en) en nm) rfl rfl (by first | (rw [skp, fst9_at hv8 (by show (!decide (f (en + i) = 32)) = true; rw [decide_eq_false c_30]; rfl) hi8]) | (rw [skp, fst9_none hv8])) ?_
    have hpn : (skp f n en) ≤ n := skp_le he
    refine aw_aload_n C dX2_nextToken_46 rfl ?_
    refine aw_aload_n C dX2_nextToken_47 rfl ?_
    refine aw_getf C 0 1 3 6 inX2 rfl (by decide) rfl k1_85 rfl rfl dX2_nextToken_48 ?_
    refine aw_putf C 0 1 4 6 tyX2 inX2 tyX2_ok nmX2 rfl (by decide) rfl k1_86 rfl rfl rfl rfl rfl (Nat.le_of_ble_eq_true rfl) (ws' := wTp cI h b f n tk (skp f n en) (skp f n en) nm) rfl dX2_nextToken_51 ?_
    refine aw_aload_n C dX2_nextToken_54 rfl ?_
    refine aw_getf C 0 1 3 6 inX2 rfl (by decide) rfl k1_85 rfl rfl dX2_nextToken_55 ?_
    refine aw_aload_n C dX2_nextToken_58 rfl ?_
    refine aw_getf C 0 1 1 6 inX2 rfl (by decide) rfl k1_83 rfl rfl dX2_nextToken_59 ?_
    refine aw_icmp_lt C 73 dX2_nextToken_62 (by decide) (fun c_62 => ?_) (fun c_62 => ?_)
    · skip
      have hlt : (skp f n en) < n := (nI_ltI (by omega) (by omega)).mp c_62
      have d0 : decide (n ≤ (skp f n en)) = false := decide_eq_false (by omega)
      refine aw_pc 73 rfl ?_
      refine aw_aload_n C dX2_nextToken_73 rfl ?_
      refine aw_getf C 0 1 0 6 inX2 rfl (by decide) rfl k1_82 rfl rfl dX2_nextToken_74 ?_
      refine aw_aload_n C dX2_nextToken_77 rfl ?_
      refine aw_getf C 0 1 3 6 inX2 rfl (by decide) rfl k1_85 rfl rfl dX2_nextToken_78 ?_
      refine aw_ialdN C 1 0 (skp f n en) rfl rfl rfl (by omega) (by decide) dX2_nextToken_81 ?_
      refine aw_callSp C (As := [.int (f (skp f n en))]) (c_X2_isLetter l D cI cC adK adV (f (skp f n en))) k3_26 cs_X2_isLetter [] (by decide) rfl ⟨by decide, by decide⟩ rfl rfl ⟨by decide, by decide⟩ rfl rfl (Nat.le_of_ble_eq_true rfl) dX2_nextToken_82 ?_
      refine aw_ifeq_b C 100 dX2_nextToken_85 (by decide) (fun c_85 => ?_) (fun c_85 => ?_)
      · skip
        have d1 : isL (f (skp f n en)) = false := c_85
        refine aw_aload_n C dX2_nextToken_100 rfl ?_
        refine aw_getf C 0 1 0 6 inX2 rfl (by decide) rfl k1_82 rfl rfl dX2_nextToken_101 ?_
        refine aw_aload_n C dX2_nextToken_104 rfl ?_
        refine aw_pc 105 rfl ?_
        refine aw_getf C 0 1 3 6 inX2 rfl (by decide) rfl k1_85 rfl rfl dX2_nextToken_105 ?_
        refine aw_ialdN C 1 0 (skp f n en) rfl rfl rfl (by omega) (by decide) dX2_nextToken_108 ?_
        refine aw_callSp C (As := [.int (f (skp f n en))]) (c_X2_isDigit l D cI cC adK adV (f (skp f n en))) k3_33 cs_X2_isDigit [] (by decide) rfl ⟨by decide, by decide⟩ rfl rfl ⟨by decide, by decide⟩ rfl rfl (Nat.le_of_ble_eq_true rfl) dX2_nextToken_109 ?_
        refine aw_ifeq_b C 127 dX2_nextToken_112 (by decide) (fun c_112 => ?_) (fun c_112 => ?_)
        · skip
          have d2 : isD (f (skp f n en)) = false := c_112
          refine aw_aload_n C dX2_nextToken_127 rfl ?_
          refine aw_aload_n C dX2_nextToken_128 rfl ?_
          refine aw_getf C 0 1 0 6 inX2 rfl (by decide) rfl k1_82 rfl rfl dX2_nextToken_129 ?_
          refine aw_aload_n C dX2_nextToken_132 rfl ?_
          refine aw_getf C 0 1 3 6 inX2 rfl (by decide) rfl k1_85 rfl rfl dX2_nextToken_133 ?_
          refine aw_ialdN C 1 0 (skp f n en) rfl rfl rfl (by omega) (by decide) dX2_nextToken_136 ?_
          refine aw_pc 137 rfl ?_
          refine aw_bipush C (59 : Int32) dX2_nextToken_137 (by decide) ?_
          refine aw_icmp_ne C 146 dX2_nextToken_139 (by decide) (fun c_139 => ?_) (fun c_139 => ?_)
          · skip
            refine aw_iconst C (4 : Int32) dX2_nextToken_146 (by decide) ?_
            refine aw_putf C 0 1 2 6 tyX2 inX2 tyX2_ok nmX2 rfl (by decide) rfl k1_84 rfl rfl rfl rfl rfl (Nat.le_of_ble_eq_true rfl) (ws' := wTp cI h b f n (4 : Int32) (skp f n en) (skp f n en) nm) rfl dX2_nextToken_147 ?_
            refine aw_aload_n C dX2_nextToken_150 rfl ?_
            refine aw_aload_n C dX2_nextToken_151 rfl ?_
            refine aw_getf C 0 1 3 6 inX2 rfl (by decide) rfl k1_85 rfl rfl dX2_nextToken_152 ?_
            refine aw_iconst C (1 : Int32) dX2_nextToken_155 (by decide) ?_
            refine aw_iadd C dX2_nextToken_156 ?_
            refine aw_top (y := (nI ((skp f n en) + 1))) (by exact nI_1 _) ?_
            refine aw_putf C 0 1 4 6 tyX2 inX2 tyX2_ok nmX2 rfl (by decide) rfl k1_86 rfl rfl rfl rfl rfl (Nat.le_of_ble_eq_true rfl) (ws' := wTp cI h b f n (4 : Int32) (skp f n en) ((skp f n en) + 1) nm) rfl dX2_nextToken_157 ?_
            refine aw_pc 160 rfl ?_
            exact aw_vret C hr hlk dX2_nextToken_160 ⟨rfl, by simp only [tkI, tkE, nmT, nmV, d0, cond_true, cond_false] <;> first | done | rfl | (simp only [d1, cond_true, cond_false] <;> first | done | rfl | (simp only [d2, cond_true, cond_false] <;> first | done | rfl | (simp only [decide_eq_true c_139, cond_true] <;> first | done | rfl) | (simp only [decide_eq_false c_139, cond_false] <;> first | done | rfl)))⟩
          · skip
            refine aw_iconst C (3 : Int32) dX2_nextToken_142 (by decide) ?_
            refine aw_goto C 147 dX2_nextToken_143 (by decide) ?_
            refine aw_putf C 0 1 2 6 tyX2 inX2 tyX2_ok nmX2 rfl (by decide) rfl k1_84 rfl rfl rfl rfl rfl (Nat.le_of_ble_eq_true rfl) (ws' := wTp cI h b f n (3 : Int32) (skp f n en) (skp f n en) nm) rfl dX2_nextToken_147 ?_
            refine aw_aload_n C dX2_nextToken_150 rfl ?_
            refine aw_aload_n C dX2_nextToken_151 rfl ?_
            refine aw_getf C 0 1 3 6 inX2 rfl (by decide) rfl k1_85 rfl rfl dX2_nextToken_152 ?_
            refine aw_iconst C (1 : Int32) dX2_nextToken_155 (by decide) ?_
            refine aw_iadd C dX2_nextToken_156 ?_
            refine aw_top (y := (nI ((skp f n en) + 1))) (by exact nI_1 _) ?_
            refine aw_putf C 0 1 4 6 tyX2 inX2 tyX2_ok nmX2 rfl (by decide) rfl k1_86 rfl rfl rfl rfl rfl (Nat.le_of_ble_eq_true rfl) (ws' := wTp cI h b f n (3 : Int32) (skp f n en) ((skp f n en) + 1) nm) rfl dX2_nextToken_157 ?_
            refine aw_pc 160 rfl ?_
            exact aw_vret C hr hlk dX2_nextToken_160 ⟨rfl, by simp only [tkI, tkE, nmT, nmV, d0, cond_true, cond_false] <;> first | done | rfl | (simp only [d1, cond_true, cond_false] <;> first | done | rfl | (simp only [d2, cond_true, cond_false] <;> first | done | rfl | (simp only [decide_eq_true c_139, cond_true] <;> first | done | rfl) | (simp only [decide_eq_false c_139, cond_false] <;> first | done | rfl)))⟩
        · skip
          have d2 : isD (f (skp f n en)) = true := c_112
          refine aw_aload_n C dX2_nextToken_115 rfl ?_
          refine aw_iconst C (2 : Int32) dX2_nextToken_116 (by decide) ?_
          refine aw_putf C 0 1 2 6 tyX2 inX2 tyX2_ok nmX2 rfl (by decide) rfl k1_84 rfl rfl rfl rfl rfl (Nat.le_of_ble_eq_true rfl) (ws' := wTp cI h b f n (2 : Int32) (skp f n en) (skp f n en) nm) rfl dX2_nextToken_117 ?_
          refine aw_aload_n C dX2_nextToken_120 rfl ?_
          refine aw_callVdv C (As := []) (c_X2_passNumber l D cI cC adK adV h b f n (2 : Int32) (skp f n en) (skp f n en) nm  (by omega) (by omega)) k3_36 cv_X2_passNumber 0 1 rfl rfl rfl [0, 1] (by decide) rfl (wr := ([] : va_W)) [] rfl (by decide) (by decide) [0, 1] (by decide) (ws' := wTp cI h b f n (2 : Int32) (skp f n en) (runD f n (skp f n en)) (nmI f (skp f n en) (runD f n (skp f n en) - (skp f n en)))) rfl ⟨by decide, by decide⟩ rfl rfl ⟨by decide, by decide⟩ rfl rfl (Nat.le_of_ble_eq_true rfl) dX2_nextToken_121 ?_
          refine aw_goto C 160 dX2_nextToken_124 (by decide) ?_
          exact aw_vret C hr hlk dX2_nextToken_160 ⟨rfl, by simp only [tkI, tkE, nmT, nmV, d0, cond_true, cond_false] <;> first | done | rfl | (simp only [d1, cond_true, cond_false] <;> first | done | rfl | (simp only [d2, cond_true, cond_false] <;> first | done | rfl | (simp only [decide_eq_true c_139, cond_true] <;> first | done | rfl) | (simp only [decide_eq_false c_139, cond_false] <;> first | done | rfl)))⟩
      · skip
        have d1 : isL (f (skp f n en)) = true := c_85
        refine aw_aload_n C dX2_nextToken_88 rfl ?_
        refine aw_iconst C (1 : Int32) dX2_nextToken_89 (by decide) ?_
        refine aw_pc 90 rfl ?_
        refine aw_putf C 0 1 2 6 tyX2 inX2 tyX2_ok nmX2 rfl (by decide) rfl k1_84 rfl rfl rfl rfl rfl (Nat.le_of_ble_eq_true rfl) (ws' := wTp cI h b f n (1 : Int32) (skp f n en) (skp f n en) nm) rfl dX2_nextToken_90 ?_
        refine aw_aload_n C dX2_nextToken_93 rfl ?_
        refine aw_callVdv C (As := []) (c_X2_passWord l D cI cC adK adV h b f n (1 : Int32) (skp f n en) (skp f n en) nm  (by omega) (by omega)) k3_29 cv_X2_passWord 0 1 rfl rfl rfl [0, 1] (by decide) rfl (wr := ([] : va_W)) [] rfl (by decide) (by decide) [0, 1] (by decide) (ws' := wTp cI h b f n (1 : Int32) (skp f n en) (runL f n (skp f n en)) nm) rfl ⟨by decide, by decide⟩ rfl rfl ⟨by decide, by decide⟩ rfl rfl (Nat.le_of_ble_eq_true rfl) dX2_nextToken_94 ?_
        refine aw_goto C 160 dX2_nextToken_97 (by decide) ?_
        exact aw_vret C hr hlk dX2_nextToken_160 ⟨rfl, by simp only [tkI, tkE, nmT, nmV, d0, cond_true, cond_false] <;> first | done | rfl | (simp only [d1, cond_true, cond_false] <;> first | done | rfl | (simp only [d2, cond_true, cond_false] <;> first | done | rfl | (simp only [decide_eq_true c_139, cond_true] <;> first | done | rfl) | (simp only [decide_eq_false c_139, cond_false] <;> first | done | rfl)))⟩
    · skip
      have d0 : decide (n ≤ (skp f n en)) = true := decide_eq_true (Nat.le_of_not_lt (fun z => c_62 (nI_lt z (by omega))))
      refine aw_aload_n C dX2_nextToken_65 rfl ?_
      refine aw_iconst C (0 : Int32) dX2_nextToken_66 (by decide) ?_
      refine aw_putf C 0 1 2 6 tyX2 inX2 tyX2_ok nmX2 rfl (by decide) rfl k1_84 rfl rfl rfl rfl rfl (Nat.le_of_ble_eq_true rfl) (ws' := wTp cI h b f n (0 : Int32) (skp f n en) (skp f n en) nm) rfl dX2_nextToken_67 ?_
      refine aw_goto C 160 dX2_nextToken_70 (by decide) ?_
      exact aw_vret C hr hlk dX2_nextToken_160 ⟨rfl, by simp only [tkI, tkE, nmT, nmV, d0, cond_true, cond_false] <;> first | done | rfl | (simp only [d1, cond_true, cond_false] <;> first | done | rfl | (simp only [d2, cond_true, cond_false] <;> first | done | rfl | (simp only [decide_eq_true c_139, cond_true] <;> first | done | rfl) | (simp only [decide_eq_false c_139, cond_false] <;> first | done | rfl)))⟩
  · intro i hi8 hv8 ih8
    refine aw_pc 8 rfl ?_
    refine aw_aload_n C dX2_nextToken_8 rfl ?_
    refine aw_getf C 0 1 3 6 inX2 rfl (by decide) rfl k1_85 rfl rfl dX2_nextToken_9 ?_
    refine aw_aload_n C dX2_nextToken_12 rfl ?_
    refine aw_getf C 0 1 1 6 inX2 rfl (by decide) rfl k1_83 rfl rfl dX2_nextToken_13 ?_
    refine aw_icmp_ge C 46 dX2_nextToken_16 (by decide) (fun c_16 => absurd c_16 (nI_ge (by omega) (by omega))) (fun c_16 => ?_)
    refine aw_aload_n C dX2_nextToken_19 rfl ?_
    refine aw_getf C 0 1 0 6 inX2 rfl (by decide) rfl k1_82 rfl rfl dX2_nextToken_20 ?_
    refine aw_aload_n C dX2_nextToken_23 rfl ?_
    refine aw_getf C 0 1 3 6 inX2 rfl (by decide) rfl k1_85 rfl rfl dX2_nextToken_24 ?_
    refine aw_ialdN C 1 0 (en + i) rfl rfl rfl (by omega) (by decide) dX2_nextToken_27 ?_
    refine aw_pc 28 rfl ?_
    refine aw_bipush C (32 : Int32) dX2_nextToken_28 (by decide) ?_
    refine aw_icmp_ne C 46 dX2_nextToken_30 (by decide) (fun c_30 => ?_) (fun c_30 => ?_)
    · skip
      refine aw_eq (lv' := [(0, .ref h)]) (ws' := wTp cI h b f n tk (skp f n en) en nm) rfl rfl (by first | (rw [skp, fst9_at hv8 (by show (!decide (f (en + i) = 32)) = true; rw [decide_eq_false c_30]; rfl) hi8]) | (rw [skp, fst9_none hv8])) ?_
      have hpn : (skp f n en) ≤ n := skp_le he
      refine aw_aload_n C dX2_nextToken_46 rfl ?_
      refine aw_aload_n C dX2_nextToken_47 rfl ?_
      refine aw_getf C 0 1 3 6 inX2 rfl (by decide) rfl k1_85 rfl rfl dX2_nextToken_48 ?_
      refine aw_putf C 0 1 4 6 tyX2 inX2 tyX2_ok nmX2 rfl (by decide) rfl k1_86 rfl rfl rfl rfl rfl (Nat.le_of_ble_eq_true rfl) (ws' := wTp cI h b f n tk (skp f n en) (skp f n en) nm) rfl dX2_nextToken_51 ?_
      refine aw_aload_n C dX2_nextToken_54 rfl ?_
      refine aw_getf C 0 1 3 6 inX2 rfl (by decide) rfl k1_85 rfl rfl dX2_nextToken_55 ?_
      refine aw_aload_n C dX2_nextToken_58 rfl ?_
      refine aw_pc 59 rfl ?_
      refine aw_getf C 0 1 1 6 inX2 rfl (by decide) rfl k1_83 rfl rfl dX2_nextToken_59 ?_
      refine aw_icmp_lt C 73 dX2_nextToken_62 (by decide) (fun c_62 => ?_) (fun c_62 => ?_)
      · skip
        have hlt : (skp f n en) < n := (nI_ltI (by omega) (by omega)).mp c_62
        have d0 : decide (n ≤ (skp f n en)) = false := decide_eq_false (by omega)
        refine aw_aload_n C dX2_nextToken_73 rfl ?_
        refine aw_getf C 0 1 0 6 inX2 rfl (by decide) rfl k1_82 rfl rfl dX2_nextToken_74 ?_
        refine aw_aload_n C dX2_nextToken_77 rfl ?_
        refine aw_getf C 0 1 3 6 inX2 rfl (by decide) rfl k1_85 rfl rfl dX2_nextToken_78 ?_
        refine aw_ialdN C 1 0 (skp f n en) rfl rfl rfl (by omega) (by decide) dX2_nextToken_81 ?_
        refine aw_callSp C (As := [.int (f (skp f n en))]) (c_X2_isLetter l D cI cC adK adV (f (skp f n en))) k3_26 cs_X2_isLetter [] (by decide) rfl ⟨by decide, by decide⟩ rfl rfl ⟨by decide, by decide⟩ rfl rfl (Nat.le_of_ble_eq_true rfl) dX2_nextToken_82 ?_
        refine aw_ifeq_b C 100 dX2_nextToken_85 (by decide) (fun c_85 => ?_) (fun c_85 => ?_)
        · skip
          have d1 : isL (f (skp f n en)) = false := c_85
          refine aw_aload_n C dX2_nextToken_100 rfl ?_
          refine aw_pc 101 rfl ?_
          refine aw_getf C 0 1 0 6 inX2 rfl (by decide) rfl k1_82 rfl rfl dX2_nextToken_101 ?_
          refine aw_aload_n C dX2_nextToken_104 rfl ?_
          refine aw_getf C 0 1 3 6 inX2 rfl (by decide) rfl k1_85 rfl rfl dX2_nextToken_105 ?_
          refine aw_ialdN C 1 0 (skp f n en) rfl rfl rfl (by omega) (by decide) dX2_nextToken_108 ?_
          refine aw_callSp C (As := [.int (f (skp f n en))]) (c_X2_isDigit l D cI cC adK adV (f (skp f n en))) k3_33 cs_X2_isDigit [] (by decide) rfl ⟨by decide, by decide⟩ rfl rfl ⟨by decide, by decide⟩ rfl rfl (Nat.le_of_ble_eq_true rfl) dX2_nextToken_109 ?_
          refine aw_ifeq_b C 127 dX2_nextToken_112 (by decide) (fun c_112 => ?_) (fun c_112 => ?_)
          · skip
            have d2 : isD (f (skp f n en)) = false := c_112
            refine aw_aload_n C dX2_nextToken_127 rfl ?_
            refine aw_aload_n C dX2_nextToken_128 rfl ?_
            refine aw_getf C 0 1 0 6 inX2 rfl (by decide) rfl k1_82 rfl rfl dX2_nextToken_129 ?_
            refine aw_aload_n C dX2_nextToken_132 rfl ?_
            refine aw_pc 133 rfl ?_
            refine aw_getf C 0 1 3 6 inX2 rfl (by decide) rfl k1_85 rfl rfl dX2_nextToken_133 ?_
            refine aw_ialdN C 1 0 (skp f n en) rfl rfl rfl (by omega) (by decide) dX2_nextToken_136 ?_
            refine aw_bipush C (59 : Int32) dX2_nextToken_137 (by decide) ?_
            refine aw_icmp_ne C 146 dX2_nextToken_139 (by decide) (fun c_139 => ?_) (fun c_139 => ?_)
            · skip
              refine aw_iconst C (4 : Int32) dX2_nextToken_146 (by decide) ?_
              refine aw_putf C 0 1 2 6 tyX2 inX2 tyX2_ok nmX2 rfl (by decide) rfl k1_84 rfl rfl rfl rfl rfl (Nat.le_of_ble_eq_true rfl) (ws' := wTp cI h b f n (4 : Int32) (skp f n en) (skp f n en) nm) rfl dX2_nextToken_147 ?_
              refine aw_aload_n C dX2_nextToken_150 rfl ?_
              refine aw_aload_n C dX2_nextToken_151 rfl ?_
              refine aw_getf C 0 1 3 6 inX2 rfl (by decide) rfl k1_85 rfl rfl dX2_nextToken_152 ?_
              refine aw_iconst C (1 : Int32) dX2_nextToken_155 (by decide) ?_
              refine aw_pc 156 rfl ?_
              refine aw_iadd C dX2_nextToken_156 ?_
              refine aw_top (y := (nI ((skp f n en) + 1))) (by exact nI_1 _) ?_
              refine aw_putf C 0 1 4 6 tyX2 inX2 tyX2_ok nmX2 rfl (by decide) rfl k1_86 rfl rfl rfl rfl rfl (Nat.le_of_ble_eq_true rfl) (ws' := wTp cI h b f n (4 : Int32) (skp f n en) ((skp f n en) + 1) nm) rfl dX2_nextToken_157 ?_
              exact aw_vret C hr hlk dX2_nextToken_160 ⟨rfl, by simp only [tkI, tkE, nmT, nmV, d0, cond_true, cond_false] <;> first | done | rfl | (simp only [d1, cond_true, cond_false] <;> first | done | rfl | (simp only [d2, cond_true, cond_false] <;> first | done | rfl | (simp only [decide_eq_true c_139, cond_true] <;> first | done | rfl) | (simp only [decide_eq_false c_139, cond_false] <;> first | done | rfl)))⟩
            · skip
              refine aw_iconst C (3 : Int32) dX2_nextToken_142 (by decide) ?_
              refine aw_goto C 147 dX2_nextToken_143 (by decide) ?_
              refine aw_putf C 0 1 2 6 tyX2 inX2 tyX2_ok nmX2 rfl (by decide) rfl k1_84 rfl rfl rfl rfl rfl (Nat.le_of_ble_eq_true rfl) (ws' := wTp cI h b f n (3 : Int32) (skp f n en) (skp f n en) nm) rfl dX2_nextToken_147 ?_
              refine aw_aload_n C dX2_nextToken_150 rfl ?_
              refine aw_aload_n C dX2_nextToken_151 rfl ?_
              refine aw_getf C 0 1 3 6 inX2 rfl (by decide) rfl k1_85 rfl rfl dX2_nextToken_152 ?_
              refine aw_iconst C (1 : Int32) dX2_nextToken_155 (by decide) ?_
              refine aw_pc 156 rfl ?_
              refine aw_iadd C dX2_nextToken_156 ?_
              refine aw_top (y := (nI ((skp f n en) + 1))) (by exact nI_1 _) ?_
              refine aw_putf C 0 1 4 6 tyX2 inX2 tyX2_ok nmX2 rfl (by decide) rfl k1_86 rfl rfl rfl rfl rfl (Nat.le_of_ble_eq_true rfl) (ws' := wTp cI h b f n (3 : Int32) (skp f n en) ((skp f n en) + 1) nm) rfl dX2_nextToken_157 ?_
              exact aw_vret C hr hlk dX2_nextToken_160 ⟨rfl, by simp only [tkI, tkE, nmT, nmV, d0, cond_true, cond_false] <;> first | done | rfl | (simp only [d1, cond_true, cond_false] <;> first | done | rfl | (simp only [d2, cond_true, cond_false] <;> first | done | rfl | (simp only [decide_eq_true c_139, cond_true] <;> first | done | rfl) | (simp only [decide_eq_false c_139, cond_false] <;> first | done | rfl)))⟩
          · skip
            have d2 : isD (f (skp f n en)) = true := c_112
            refine aw_aload_n C dX2_nextToken_115 rfl ?_
            refine aw_iconst C (2 : Int32) dX2_nextToken_116 (by decide) ?_
            refine aw_putf C 0 1 2 6 tyX2 inX2 tyX2_ok nmX2 rfl (by decide) rfl k1_84 rfl rfl rfl rfl rfl (Nat.le_of_ble_eq_true rfl) (ws' := wTp cI h b f n (2 : Int32) (skp f n en) (skp f n en) nm) rfl dX2_nextToken_117 ?_
            refine aw_aload_n C dX2_nextToken_120 rfl ?_
            refine aw_callVdv C (As := []) (c_X2_passNumber l D cI cC adK adV h b f n (2 : Int32) (skp f n en) (skp f n en) nm  (by omega) (by omega)) k3_36 cv_X2_passNumber 0 1 rfl rfl rfl [0, 1] (by decide) rfl (wr := ([] : va_W)) [] rfl (by decide) (by decide) [0, 1] (by decide) (ws' := wTp cI h b f n (2 : Int32) (skp f n en) (runD f n (skp f n en)) (nmI f (skp f n en) (runD f n (skp f n en) - (skp f n en)))) rfl ⟨by decide, by decide⟩ rfl rfl ⟨by decide, by decide⟩ rfl rfl (Nat.le_of_ble_eq_true rfl) dX2_nextToken_121 ?_
            refine aw_goto C 160 dX2_nextToken_124 (by decide) ?_
            exact aw_vret C hr hlk dX2_nextToken_160 ⟨rfl, by simp only [tkI, tkE, nmT, nmV, d0, cond_true, cond_false] <;> first | done | rfl | (simp only [d1, cond_true, cond_false] <;> first | done | rfl | (simp only [d2, cond_true, cond_false] <;> first | done | rfl | (simp only [decide_eq_true c_139, cond_true] <;> first | done | rfl) | (simp only [decide_eq_false c_139, cond_false] <;> first | done | rfl)))⟩
        · skip
          have d1 : isL (f (skp f n en)) = true := c_85
          refine aw_pc 88 rfl ?_
          refine aw_aload_n C dX2_nextToken_88 rfl ?_
          refine aw_iconst C (1 : Int32) dX2_nextToken_89 (by decide) ?_
          refine aw_putf C 0 1 2 6 tyX2 inX2 tyX2_ok nmX2 rfl (by decide) rfl k1_84 rfl rfl rfl rfl rfl (Nat.le_of_ble_eq_true rfl) (ws' := wTp cI h b f n (1 : Int32) (skp f n en) (skp f n en) nm) rfl dX2_nextToken_90 ?_
          refine aw_aload_n C dX2_nextToken_93 rfl ?_
          refine aw_callVdv C (As := []) (c_X2_passWord l D cI cC adK adV h b f n (1 : Int32) (skp f n en) (skp f n en) nm  (by omega) (by omega)) k3_29 cv_X2_passWord 0 1 rfl rfl rfl [0, 1] (by decide) rfl (wr := ([] : va_W)) [] rfl (by decide) (by decide) [0, 1] (by decide) (ws' := wTp cI h b f n (1 : Int32) (skp f n en) (runL f n (skp f n en)) nm) rfl ⟨by decide, by decide⟩ rfl rfl ⟨by decide, by decide⟩ rfl rfl (Nat.le_of_ble_eq_true rfl) dX2_nextToken_94 ?_
          refine aw_goto C 160 dX2_nextToken_97 (by decide) ?_
          exact aw_vret C hr hlk dX2_nextToken_160 ⟨rfl, by simp only [tkI, tkE, nmT, nmV, d0, cond_true, cond_false] <;> first | done | rfl | (simp only [d1, cond_true, cond_false] <;> first | done | rfl | (simp only [d2, cond_true, cond_false] <;> first | done | rfl | (simp only [decide_eq_true c_139, cond_true] <;> first | done | rfl) | (simp only [decide_eq_false c_139, cond_false] <;> first | done | rfl)))⟩
      · skip
        have d0 : decide (n ≤ (skp f n en)) = true := decide_eq_true (Nat.le_of_not_lt (fun z => c_62 (nI_lt z (by omega))))
        refine aw_aload_n C dX2_nextToken_65 rfl ?_
        refine aw_iconst C (0 : Int32) dX2_nextToken_66 (by decide) ?_
        refine aw_putf C 0 1 2 6 tyX2 inX2 tyX2_ok nmX2 rfl (by decide) rfl k1_84 rfl rfl rfl rfl rfl (Nat.le_of_ble_eq_true rfl) (ws' := wTp cI h b f n (0 : Int32) (skp f n en) (skp f n en) nm) rfl dX2_nextToken_67 ?_
        refine aw_pc 70 rfl ?_
        refine aw_goto C 160 dX2_nextToken_70 (by decide) ?_
        exact aw_vret C hr hlk dX2_nextToken_160 ⟨rfl, by simp only [tkI, tkE, nmT, nmV, d0, cond_true, cond_false] <;> first | done | rfl | (simp only [d1, cond_true, cond_false] <;> first | done | rfl | (simp only [d2, cond_true, cond_false] <;> first | done | rfl | (simp only [decide_eq_true c_139, cond_true] <;> first | done | rfl) | (simp only [decide_eq_false c_139, cond_false] <;> first | done | rfl)))⟩
    · skip
      refine aw_aload_n C dX2_nextToken_33 rfl ?_
      refine aw_dup C dX2_nextToken_34 rfl ?_
      refine aw_getf C 0 1 3 6 inX2 rfl (by decide) rfl k1_85 rfl rfl dX2_nextToken_35 ?_
      refine aw_iconst C (1 : Int32) dX2_nextToken_38 (by decide) ?_
      refine aw_iadd C dX2_nextToken_39 ?_
      refine aw_top (y := (nI (en + i + 1))) (by exact nI_1 _) ?_
      refine aw_putf C 0 1 3 6 tyX2 inX2 tyX2_ok nmX2 rfl (by decide) rfl k1_85 rfl rfl rfl rfl rfl (Nat.le_of_ble_eq_true rfl) (ws' := wTp cI h b f n tk (en + i + 1) en nm) rfl dX2_nextToken_40 ?_
      refine aw_goto C 8 dX2_nextToken_43 (by decide) ?_
      exact aw_eq (by first | rfl | (simp only [itr, c_30])) rfl (by rfl) (ih8 (all_s hv8 (by rw [decide_eq_true c_30]; rfl)))
abbrev r_X2_isNumberBelow : Room := { frames := 0, cells := 0, slots := 0, locals := 0 }
theorem cv_X2_isNumberBelow : cV yX2_isNumberBelow cX2_isNumberBelow 2 (some .boolean) 1 := ⟨k3_116, k0_18, k3_117, k1_4, by decide, by decide, by decide +kernel⟩
set_option maxHeartbeats 4000000 in
set_option maxRecDepth 100000 in
theorem c_X2_isNumberBelow (l : Launch) (D : va_G) (cI cC : ClassId) (adK adV : Nat → Nat) (h b : Nat) (f : Nat → Int32) (n : Nat) (tk : Int32) (bg en : Nat) (nm : Int32) (m : Int32) : FC l yX2_isNumberBelow (wW yX2_isNumberBelow cX2_isNumberBelow 2 (some .boolean)) r_X2_isNumberBelow D (tyC cI cC) adK adV (wTp cI h b f n tk bg en nm) [.ref h, .int m] 0 0 (fQ (some (.int (b2 (decide (tk = 2) && decide (nm < m))))) (wTp cI h b f n tk bg en nm)) := by
  refine FC.of (own := RX2) (by decide) rfl (Nat.le_of_ble_eq_true rfl) ?_
  intro p9 e9 s9 m9 args9 below9 meth9 c9 A9 C hr hlk hmn
  show AW p9 l e9 r_X2_isNumberBelow s9 m9 args9 below9 meth9 c9 D A9 2 0 0 _ 0 [(0, .ref h), (1, .int m)] [] _
  refine aw_aload_n C dX2_isNumberBelow_0 rfl ?_
  refine aw_getf C 0 1 2 6 inX2 rfl (by decide) rfl k1_84 rfl rfl dX2_isNumberBelow_1 ?_
  refine aw_iconst C (2 : Int32) dX2_isNumberBelow_4 (by decide) ?_
  refine aw_icmp_ne C 20 dX2_isNumberBelow_5 (by decide) (fun c_5 => ?_) (fun c_5 => ?_)
  · skip
    refine aw_iconst C (0 : Int32) dX2_isNumberBelow_20 (by decide) ?_
    exact aw_bret C (b := false) hr hlk dX2_isNumberBelow_21 rfl ⟨rb (by simp only [c_5, decide_true, decide_false, Bool.not_true, Bool.not_false, Bool.true_and, Bool.false_and, Bool.and_true, Bool.and_false, Bool.true_or, Bool.false_or, Bool.or_true, Bool.or_false, cond_true, cond_false, eq_self, if_true, if_false, ite_true, ite_false] <;> first | done | rfl | (rw [decide_eq_false (Int32.not_lt.mpr c_13)]) | (rw [decide_eq_true (Int32.not_le.mp c_13)])), by rfl⟩
  · skip
    refine aw_aload_n C dX2_isNumberBelow_8 rfl ?_
    refine aw_getf C 0 1 5 6 inX2 rfl (by decide) rfl k1_87 rfl rfl dX2_isNumberBelow_9 ?_
    refine aw_iload_n C dX2_isNumberBelow_12 rfl ?_
    refine aw_pc 13 rfl ?_
    refine aw_icmp_ge C 20 dX2_isNumberBelow_13 (by decide) (fun c_13 => ?_) (fun c_13 => ?_)
    · skip
      refine aw_iconst C (0 : Int32) dX2_isNumberBelow_20 (by decide) ?_
      exact aw_bret C (b := false) hr hlk dX2_isNumberBelow_21 rfl ⟨rb (by simp only [c_5, c_13, decide_true, decide_false, Bool.not_true, Bool.not_false, Bool.true_and, Bool.false_and, Bool.and_true, Bool.and_false, Bool.true_or, Bool.false_or, Bool.or_true, Bool.or_false, cond_true, cond_false, eq_self, if_true, if_false, ite_true, ite_false] <;> first | done | rfl | (rw [decide_eq_false (Int32.not_lt.mpr c_13)]) | (rw [decide_eq_true (Int32.not_le.mp c_13)])), by rfl⟩
    · skip
      refine aw_iconst C (1 : Int32) dX2_isNumberBelow_16 (by decide) ?_
      refine aw_goto C 21 dX2_isNumberBelow_17 (by decide) ?_
      exact aw_bret C (b := true) hr hlk dX2_isNumberBelow_21 rfl ⟨rb (by simp only [c_5, c_13, decide_true, decide_false, Bool.not_true, Bool.not_false, Bool.true_and, Bool.false_and, Bool.and_true, Bool.and_false, Bool.true_or, Bool.false_or, Bool.or_true, Bool.or_false, cond_true, cond_false, eq_self, if_true, if_false, ite_true, ite_false] <;> first | done | rfl | (rw [decide_eq_false (Int32.not_lt.mpr c_13)]) | (rw [decide_eq_true (Int32.not_le.mp c_13)])), by rfl⟩
