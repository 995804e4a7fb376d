/-! THE MODEL: what both programs compute. A town T: how many people, numbers (0 day, 2 z, 3 joy), traits P f p, spots. -/
abbrev Tw : Type := Nat × (Nat → Int32) × (Nat → Nat → Int32) × (Nat → Int32)
def sG (T : Tw) (k : Nat) (v : Int32) : Tw := (T.1, upd T.2.1 k v, T.2.2)
def sP (T : Tw) (f p : Nat) (v : Int32) : Tw := (T.1, T.2.1, fun g => if g = f then upd (T.2.2.1 f) p v else T.2.2.1 g, T.2.2.2)
def sS (T : Tw) (k : Nat) (v : Int32) : Tw := (T.1, T.2.1, T.2.2.1, upd T.2.2.2 k v)
def sN (T : Tw) (n : Nat) : Tw := (n, T.2)
/-- one bit of a set -/
def hol (set p : Int32) : Bool := decide ((set >>> (p &&& 31)) &&& 1 = 1)
def bitOf (p : Int32) : Int32 := (1 : Int32) <<< (p &&& 31)
/-- Integer.bitCount, as it reckons -/
def bc1 (x : Int32) : Int32 := x - (us x 1 &&& 1431655765)
def bc2 (x : Int32) : Int32 := (x &&& 858993459) + (us x 2 &&& 858993459)
def bc3 (x : Int32) : Int32 := (x + us x 4) &&& 252645135
def bc4 (x : Int32) : Int32 := x + us x 8
def bc5 (x : Int32) : Int32 := x + us x 16
def bcE (x : Int32) : Int32 := bc5 (bc4 (bc3 (bc2 (bc1 x)))) &&& 63
def mBare (d : Int32) : Bool := decide (ir d 12 = 11)
def mWalk (k d : Int32) : Int32 := if k = 1 then 3 else if k = 2 then ir d 2 else if k = 3 then ir d 2 + 1 else if k = 4 then (bif mBare d then 5 else 0) else if k = 5 then 0 else if k = 6 then 2 else 1
def mShift (k d : Int32) : Int32 := if k = 1 then 2 else if k = 2 then 0 else if k = 3 then (if ir d 3 = 0 then 1 else 0) else if k = 4 then 5 else if k = 5 then 0 else if k = 6 then 2 else 1
def mMind (k g own : Int32) (no : Bool) : Bool := if k = 1 then true else if k = 2 then decide (g ≤ 5) else if k = 3 then (decide (g ≤ 5) || decide (g = own)) else if k = 4 then (decide (g = 9) || (no && (decide (g ≤ 5) || decide (g = own)))) else if k = 5 then false else if k = 6 then decide (ir g 2 = 1) else !decide (g = own)
def mShine (k : Int32) : Int32 := if k = 1 then 0 else if k = 2 then 2 else if k = 3 then 2 else if k = 4 then 4 else if k = 5 then 0 else if k = 6 then 0 else 1
def mGlad (k c : Int32) : Int32 := if k = 2 then 3 else if k = 3 then 3 + c else if k = 4 then 3 * (3 + c) else if k = 5 then 0 else if k = 6 then 20 else 1
def mAbove (k : Int32) : Int32 := if k = 1 then 0 else if k = 2 then 0 else if k = 3 then 2 else if k = 4 then 3 else if k = 5 then 0 else if k = 6 then 1 else -1
def mFar (x y : Int32) : Int32 := mn (ab (x - y)) (16 - ab (x - y))
def tFar (T : Tw) (a b : Nat) : Int32 := mFar (T.2.2.1 1 a) (T.2.2.1 1 b)
def tMind (T : Tw) (p : Nat) (g : Int32) : Bool := mMind (T.2.2.1 0 p) g (T.2.2.1 2 p) (decide (T.2.2.1 3 p = 0))
def tMet (T : Tw) (a b : Nat) : Bool := hol (T.2.2.1 3 a) (nI b)
def tKno (T : Tw) (a b : Nat) : Bool := hol (T.2.2.1 4 a) (nI b)
def tMut (T : Tw) (f a b : Nat) : Bool := hol (T.2.2.1 f a) (nI b) && hol (T.2.2.1 f b) (nI a)
def tGlad (T : Tw) (p : Nat) : Int32 := mGlad (T.2.2.1 0 p) (bcE (T.2.2.1 4 p))
def tSee (T : Tw) (a b : Nat) : Bool := decide (T.2.2.1 5 a = 0) && (decide (T.2.2.1 5 b = 0) && !decide (mn (mShine (T.2.2.1 0 a)) (mShine (T.2.2.1 0 b)) < tFar T a b))
def tMeets (T : Tw) (a b : Nat) : Tw := bif tMind T a (T.2.2.1 2 b) then sP T 3 a (T.2.2.1 3 a ||| bitOf (nI b)) else T
def tMingle (T : Tw) (a b : Nat) : Tw := tMeets (tMeets T a b) b a
def tCtk (T : Tw) (a b : Nat) : Tw := bif tKno T a b then T else sP (sG T 3 (mn 99999 (T.2.1 3 + tGlad T a))) 4 a (T.2.2.1 4 a ||| bitOf (nI b))
def tPby (T : Tw) (a : Nat) : Tw := sP T 6 a (mn 9999 (T.2.2.1 6 a + 1))
def tBare (T : Tw) (a b : Nat) : Tw := bif tSee T a b then (bif tMut T 3 a b then tCtk (tCtk T a b) b a else tPby (tPby T a) b) else T
def tGoes (T : Tw) (bare : Bool) (p : Nat) : Tw :=
  let T1 := sP T 1 p (ir (T.2.2.1 1 p + mWalk (T.2.2.1 0 p) (T.2.1 0)) 16)
  bif bare then T1 else sP T1 2 p (ir (T.2.2.1 2 p + mShift (T.2.2.1 0 p) (T.2.1 0)) 12)
/-- a loop over 0 .. i - 1 -/
def itr {α : Type} (f : Nat → α → α) : Nat → α → α
  | 0, x => x
  | i + 1, x => f i (itr f i x)
def tPair (bare : Bool) (a b : Nat) (T : Tw) : Tw := bif bare then tBare T a b else bif decide (T.2.2.1 1 a = T.2.2.1 1 b) then tMingle T a b else T
def tRow (bare : Bool) (n a j : Nat) (T : Tw) : Tw := itr (fun j T => tPair bare a (a + 1 + j) T) j T
def tSkip (T : Tw) (n : Int32) : Tw := sG T 0 (mn 99999 (T.2.1 0 + n))
def tDay (T : Tw) : Tw :=
  let bare := mBare (T.2.1 0)
  tSkip (itr (fun a T1 => tRow bare T.1 a (T.1 - (a + 1)) T1) T.1 (itr (fun p T1 => tGoes T1 bare p) T.1 T)) 1
def tDays (n : Nat) (T : Tw) : Tw := itr (fun _ T => tDay T) n T
def in0 (v n : Int32) : Bool := !decide (v < 0) && !decide (n ≤ v)
def mThere (T : Tw) (p : Int32) : Bool := in0 p (nI T.1)
def mTwo (T : Tw) (a b : Int32) : Bool := mThere T a && (mThere T b && !decide (a = b))
def evb (T : Tw) : Int32 := bitOf (nI T.1) - 1
def mTrait (T : Tw) (p : Nat) (w : Int32) : Int32 := if w = 0 then T.2.2.1 0 p else if w = 1 then T.2.2.1 1 p else if w = 2 then T.2.2.1 2 p else if w = 3 then T.2.2.1 3 p else if w = 4 then T.2.2.1 4 p else if w = 5 then T.2.2.1 5 p else if w = 6 then T.2.2.1 6 p else if w = 7 then mWalk (T.2.2.1 0 p) (T.2.1 0) else if w = 8 then mShift (T.2.2.1 0 p) (T.2.1 0) else if w = 9 then mShine (T.2.2.1 0 p) else tGlad T p
def mPut (T : Tw) (p : Nat) (w v : Int32) : Tw := if w = 0 then sP T 0 p v else if w = 1 then sP T 1 p v else if w = 2 then sP T 2 p v else if w = 3 then sP T 3 p v else if w = 4 then sP T 4 p v else if w = 5 then sP T 5 p v else if w = 6 then sP T 6 p v else T
/-- the cells of a Town: its own, its spots, kind, cell, guise, met, knows, out, passes -/
def wTo (cI : ClassId) (h : Nat) (a : Nat → Nat) (T : Tw) : va_W := [(h, .inr (2, [.int (nI T.1), .int (T.2.1 0), .int (T.2.1 3), .int (T.2.1 2), .ref (a 0), .ref (a 1), .ref (a 2), .ref (a 3), .ref (a 4), .ref (a 5), .ref (a 6), .ref (a 7)])), (a 0, .inl (cI, 10, .inl T.2.2.2)), (a 1, .inl (cI, 8, .inl (T.2.2.1 0))), (a 2, .inl (cI, 8, .inl (T.2.2.1 1))), (a 3, .inl (cI, 8, .inl (T.2.2.1 2))), (a 4, .inl (cI, 8, .inl (T.2.2.1 3))), (a 5, .inl (cI, 8, .inl (T.2.2.1 4))), (a 6, .inl (cI, 8, .inl (T.2.2.1 5))), (a 7, .inl (cI, 8, .inl (T.2.2.1 6)))]
abbrev tyC (cI cC : ClassId) : List (ClassId × FieldType) := [(cI, .int), (cC, .char)]
theorem ne_toInt {x v : Int32} {z : Int} (h : ¬ x = v) (e : v.toInt = z) : ¬ x.toInt = z := fun q => h (Int32.toInt_inj.mp (q.trans e.symm))
theorem b2_dec {b : Bool} : (if b = true then (1 : Int32) else 0) = b2 b := by cases b <;> rfl
theorem sP_n (T : Tw) (f p : Nat) (v : Int32) : (sP T f p v).1 = T.1 := rfl
theorem upd_id (f : Nat → Int32) (k : Nat) : upd f k (f k) = f := by
  funext j
  unfold upd
  by_cases h : j = k
  · rw [if_pos h, h]
  · rw [if_neg h]
theorem in0_t {v n : Int32} : in0 v n = true ↔ ¬ v < 0 ∧ ¬ n ≤ v := by simp [in0]
theorem in0_of {v : Int32} {n : Nat} (hn : n < 2 ^ 31) (h : in0 v (nI n) = true) : ∃ j : Nat, j < n ∧ v = nI j := by
  obtain ⟨h1, h2⟩ := in0_t.mp h
  obtain ⟨j, hj, rfl⟩ := nI_of h1
  exact ⟨j, (nI_ltI hj (by omega)).mp (Int32.not_le.mp h2), rfl⟩
theorem in0_nI {n j : Nat} (hn : n < 2 ^ 31) (h : j < n) : in0 (nI j) (nI n) = true := in0_t.mpr ⟨nI_pos (by omega), nI_ge h hn⟩
theorem there_of {T : Tw} {p : Int32} (hn : T.1 ≤ 8) (h : mThere T p = true) : ∃ j : Nat, j < T.1 ∧ p = nI j := in0_of (by omega) h
theorem there_nI {T : Tw} {j : Nat} (hn : T.1 ≤ 8) (h : j < T.1) : mThere T (nI j) = true := in0_nI (by omega) h

def setBy (c : Nat → Bool) (n : Nat) : Int32 := itr (fun p x => bif c p then x ||| bitOf (nI p) else x) n 0
def allB (c : Nat → Bool) (n : Nat) : Bool := itr (fun p b => b && c p) n true
def mWho (T : Tw) (c : Int32) : Int32 := setBy (fun p => decide (T.2.2.1 1 p = c)) T.1
def mKnowers (T : Tw) : Int32 := setBy (fun p => !decide (T.2.2.1 4 p = 0)) T.1
def mWorn (T : Tw) : Int32 := itr (fun p x => x ||| bitOf (T.2.2.1 2 p)) T.1 0
def mPassed (T : Tw) : Int32 := itr (fun p x => x + T.2.2.1 6 p) T.1 0
def mHeld (T : Tw) : Int32 := itr (fun k x => bif decide (T.2.2.2 k = -1) then x else x + 1) 10 0
def mMinded (T : Tw) (q : Nat) : Int32 := itr (fun g x => bif tMind T q (nI g) then x + 1 else x) 12 0
def tPutOut (T : Tw) (x : Int32) : Tw := itr (fun p U => bif hol x (nI p) then sP U 5 p 1 else U) T.1 T
def mPairs (T : Tw) (f : Nat) : Int32 := itr (fun a x => itr (fun j x => bif tMut T f a (a + 1 + j) then x + 1 else x) (T.1 - (a + 1)) x) T.1 0
def cBad (T : Tw) (x : Int32) (f p : Nat) : Bool := hol x (nI p) && !decide (x &&& ((T.2.2.1 f p ||| bitOf (nI p)) ^^^ -1) = 0)
def mCirc (T : Tw) (x : Int32) (f : Nat) : Bool := allB (fun p => !cBad T x f p) T.1
def mOthers (T : Tw) (p : Nat) (x : Int32) : Bool := decide (x &&& ((evb T &&& (bitOf (nI p) ^^^ -1)) ^^^ -1) = 0)
def mCan (T : Tw) (p : Nat) (w v : Int32) : Bool := if w = 0 then in0 v 7 else if w = 1 then in0 v 16 else if w = 2 then in0 v 12 else if w = 3 then mOthers T p v else if w = 4 then mOthers T p v else if w = 5 then in0 v 2 else if w = 6 then (!decide (v < 0) && !decide (9999 < v)) else false
def tDraw (T : Tw) : Tw := sG T 2 (T.2.1 2 * 1103515245 + 12345)
def mDraw (T : Tw) : Int32 := us (T.2.1 2 * 1103515245 + 12345) 8
def tMeet (T : Tw) (a b : Nat) : Tw := sP (sP T 3 a (T.2.2.1 3 a ||| bitOf (nI b))) 3 b ((sP T 3 a (T.2.2.1 3 a ||| bitOf (nI b))).2.2.1 3 b ||| bitOf (nI a))
def tAdd (T : Tw) (k c : Int32) : Tw := sP (sP (sN T (T.1 + 1)) 0 T.1 k) 1 T.1 c
theorem itr_s {α : Type} (f : Nat → α → α) (i : Nat) (x : α) : itr f (i + 1) x = f i (itr f i x) := rfl
theorem itr_n {f : Nat → Tw → Tw} (h : ∀ p U, (f p U).1 = U.1) (T : Tw) : ∀ i, (itr f i T).1 = T.1
  | 0 => rfl
  | i + 1 => (h i _).trans (itr_n h T i)
theorem goes_n (U : Tw) (b : Bool) (p : Nat) : (tGoes U b p).1 = U.1 := by cases b <;> rfl
theorem meets_n (U : Tw) (p q : Nat) : (tMeets U p q).1 = U.1 := by unfold tMeets; cases tMind U p _ <;> rfl
theorem mingle_n (U : Tw) (p q : Nat) : (tMingle U p q).1 = U.1 := (meets_n _ _ _).trans (meets_n _ _ _)
theorem ctk_n (U : Tw) (p q : Nat) : (tCtk U p q).1 = U.1 := by unfold tCtk; cases tKno U p q <;> rfl
theorem bare_n (U : Tw) (p q : Nat) : (tBare U p q).1 = U.1 := by
  unfold tBare
  cases tSee U p q
  · rfl
  · cases tMut U 3 p q
    · rfl
    · exact (ctk_n _ _ _).trans (ctk_n _ _ _)
theorem pair_n (b : Bool) (p q : Nat) (U : Tw) : (tPair b p q U).1 = U.1 := by
  unfold tPair
  cases b
  · cases decide (U.2.2.1 1 p = U.2.2.1 1 q)
    · rfl
    · exact mingle_n _ _ _
  · exact bare_n _ _ _
theorem row_n (b : Bool) (n p j : Nat) (U : Tw) : (tRow b n p j U).1 = U.1 := itr_n (fun _ _ => pair_n _ _ _ _) U j
theorem day_n (T : Tw) : (tDay T).1 = T.1 := (itr_n (fun _ _ => row_n _ _ _ _ _) _ _).trans (itr_n (fun _ _ => goes_n _ _ _) _ _)
theorem days_n (n : Nat) (T : Tw) : (tDays n T).1 = T.1 := itr_n (fun _ _ => day_n _) T n
theorem putOut_n (x : Int32) (T : Tw) : (tPutOut T x).1 = T.1 := itr_n (fun p U => by cases hol x (nI p) <;> rfl) T T.1
theorem allB_f {c : Nat → Bool} {i : Nat} (h : c i = false) : ∀ {n : Nat}, i < n → allB c n = false
  | n + 1, hn => by
    show (allB c n && c n) = false
    by_cases e : i = n
    · rw [← e, h, Bool.and_false]
    · rw [allB_f h (by omega), Bool.false_and]
theorem allB_s {c : Nat → Bool} {n : Nat} (h : allB c n = true) (hc : c n = true) : allB c (n + 1) = true := by
  show (allB c n && c n) = true
  rw [h, hc]
  rfl
theorem allB_iff {c : Nat → Bool} : ∀ {n : Nat}, allB c n = true ↔ ∀ i, i < n → c i = true
  | 0 => ⟨fun _ i h => absurd h (Nat.not_lt_zero i), fun _ => rfl⟩
  | n + 1 => by
    show (allB c n && c n) = true ↔ _
    rw [Bool.and_eq_true, allB_iff]
    refine ⟨fun h i hi => ?_, fun h => ⟨fun i hi => h i (by omega), h n (by omega)⟩⟩
    by_cases e : i = n
    · rw [e]; exact h.2
    · exact h.1 i (by omega)
theorem pair_b {b : Bool} {p q : Nat} {U : Tw} (h : b = true) : tPair b p q U = tBare U p q := by rw [h]; rfl
theorem pair_m {b : Bool} {p q : Nat} {U : Tw} (h : b = false) (e : U.2.2.1 1 p = U.2.2.1 1 q) : tPair b p q U = tMingle U p q := by unfold tPair; rw [h, decide_eq_true e]; rfl
theorem pair_k {b : Bool} {p q : Nat} {U : Tw} (h : b = false) (e : ¬ U.2.2.1 1 p = U.2.2.1 1 q) : tPair b p q U = U := by unfold tPair; rw [h, decide_eq_false e]; rfl
