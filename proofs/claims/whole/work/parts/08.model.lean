/-! THE MODEL: what both programs compute. A town T: how many people, numbers (0 day, 2 z, 3 joy), traits P f p, spots. -/
abbrev Tw : Type := Nat × (Nat → Int32) × (Nat → Nat → Int32) × (Nat → Int32)
def ir (x y : Int32) : Int32 := x - x / y * y
def mn (x y : Int32) : Int32 := if y < x then y else x
def sG (T : Tw) (k : Nat) (v : Int32) : Tw := (T.1, upd T.2.1 k v, T.2.2)
def sP (T : Tw) (f p : Nat) (v : Int32) : Tw := (T.1, T.2.1, fun g => if g = f then upd (T.2.2.1 f) p v else T.2.2.1 g, T.2.2.2)
def sS (T : Tw) (k : Nat) (v : Int32) : Tw := (T.1, T.2.1, T.2.2.1, upd T.2.2.2 k v)
def sN (T : Tw) (n : Nat) : Tw := (n, T.2)
/-- one bit of a set -/
def hol (set p : Int32) : Bool := decide ((set >>> (p &&& 31)) &&& 1 = 1)
def bitOf (p : Int32) : Int32 := (1 : Int32) <<< (p &&& 31)
/-- Integer.bitCount, as it reckons -/
def us (x y : Int32) : Int32 := (x.toUInt32 >>> (y.toUInt32 &&& Int32.toUInt32 31)).toInt32
def bc1 (x : Int32) : Int32 := x - (us x 1 &&& 1431655765)
def bc2 (x : Int32) : Int32 := (x &&& 858993459) + (us x 2 &&& 858993459)
def bc3 (x : Int32) : Int32 := (x + us x 4) &&& 252645135
def bc4 (x : Int32) : Int32 := x + us x 8
def bc5 (x : Int32) : Int32 := x + us x 16
def bcE (x : Int32) : Int32 := bc5 (bc4 (bc3 (bc2 (bc1 x)))) &&& 63
def mBare (d : Int32) : Bool := decide (ir d 12 = 11)
def mWalk (k d : Int32) : Int32 := if k = 1 then 3 else if k = 2 then ir d 2 else if k = 3 then ir d 2 + 1 else if k = 4 then (bif mBare d then 5 else 0) else if k = 5 then 0 else if k = 6 then 2 else 1
def mShift (k d : Int32) : Int32 := if k = 1 then 2 else if k = 2 then 0 else if k = 3 then (if ir d 3 = 0 then 1 else 0) else if k = 4 then 5 else if k = 5 then 0 else if k = 6 then 2 else 1
def mMind (k g own : Int32) (no : Bool) : Bool := if k = 1 then true else if k = 2 then decide (g ≤ 5) else if k = 3 then (decide (g ≤ 5) || decide (g = own)) else if k = 4 then (decide (g = 9) || (no && (decide (g ≤ 5) || decide (g = own)))) else if k = 5 then false else if k = 6 then decide (ir g 2 = 1) else !decide (g = own)
def mShine (k : Int32) : Int32 := if k = 1 then 0 else if k = 2 then 2 else if k = 3 then 2 else if k = 4 then 4 else if k = 5 then 0 else if k = 6 then 0 else 1
def mGlad (k c : Int32) : Int32 := if k = 2 then 3 else if k = 3 then 3 + c else if k = 4 then 3 * (3 + c) else if k = 5 then 0 else if k = 6 then 20 else 1
def mAbove (k : Int32) : Int32 := if k = 1 then 0 else if k = 2 then 0 else if k = 3 then 2 else if k = 4 then 3 else if k = 5 then 0 else if k = 6 then 1 else -1
def ab (x : Int32) : Int32 := if 0 ≤ x then x else -x
def mFar (x y : Int32) : Int32 := mn (ab (x - y)) (16 - ab (x - y))
def tFar (T : Tw) (a b : Nat) : Int32 := mFar (T.2.2.1 1 a) (T.2.2.1 1 b)
def tMind (T : Tw) (p : Nat) (g : Int32) : Bool := mMind (T.2.2.1 0 p) g (T.2.2.1 2 p) (decide (T.2.2.1 3 p = 0))
def tMet (T : Tw) (a b : Nat) : Bool := hol (T.2.2.1 3 a) (nI b)
def tKno (T : Tw) (a b : Nat) : Bool := hol (T.2.2.1 4 a) (nI b)
def tMut (T : Tw) (f a b : Nat) : Bool := hol (T.2.2.1 f a) (nI b) && hol (T.2.2.1 f b) (nI a)
def tGlad (T : Tw) (p : Nat) : Int32 := mGlad (T.2.2.1 0 p) (bcE (T.2.2.1 4 p))
def tSee (T : Tw) (a b : Nat) : Bool := decide (T.2.2.1 5 a = 0) && (decide (T.2.2.1 5 b = 0) && decide (tFar T a b ≤ mn (mShine (T.2.2.1 0 a)) (mShine (T.2.2.1 0 b))))
def tMeets (T : Tw) (a b : Nat) : Tw := bif tMind T a (T.2.2.1 2 b) then sP T 3 a (T.2.2.1 3 a ||| bitOf (nI b)) else T
def tMingle (T : Tw) (a b : Nat) : Tw := tMeets (tMeets T a b) b a
def tCtk (T : Tw) (a b : Nat) : Tw := bif tKno T a b then T else sP (sG T 3 (mn 99999 (T.2.1 3 + tGlad T a))) 4 a (T.2.2.1 4 a ||| bitOf (nI b))
def tPby (T : Tw) (a : Nat) : Tw := sP T 6 a (mn 9999 (T.2.2.1 6 a + 1))
def tBare (T : Tw) (a b : Nat) : Tw := bif tSee T a b then (bif tMut T 3 a b then tCtk (tCtk T a b) b a else tPby (tPby T a) b) else T
def tGoes (T : Tw) (bare : Bool) (p : Nat) : Tw :=
  let T1 := sP T 1 p (ir (T.2.2.1 1 p + mWalk (T.2.2.1 0 p) (T.2.1 0)) 16)
  bif bare then T1 else sP T1 2 p (ir (T.2.2.1 2 p + mShift (T.2.2.1 0 p) (T.2.1 0)) 12)
/-- a loop over 0 .. i - 1 -/
def itr {α : Type} (f : Nat → α → α) : Nat → α → α
  | 0, x => x
  | i + 1, x => f i (itr f i x)
def tPair (bare : Bool) (a b : Nat) (T : Tw) : Tw := bif bare then tBare T a b else bif decide (T.2.2.1 1 a = T.2.2.1 1 b) then tMingle T a b else T
def tRow (bare : Bool) (n a j : Nat) (T : Tw) : Tw := itr (fun j T => tPair bare a (a + 1 + j) T) j T
def tSkip (T : Tw) (n : Int32) : Tw := sG T 0 (mn 99999 (T.2.1 0 + n))
def tDay (T : Tw) : Tw :=
  let bare := mBare (T.2.1 0)
  tSkip (itr (fun a T1 => tRow bare T.1 a (T.1 - (a + 1)) T1) T.1 (itr (fun p T1 => tGoes T1 bare p) T.1 T)) 1
def tDays (n : Nat) (T : Tw) : Tw := itr (fun _ T => tDay T) n T
def in0 (v n : Int32) : Bool := !decide (v < 0) && !decide (n ≤ v)
def mThere (T : Tw) (p : Int32) : Bool := in0 p (nI T.1)
def mTwo (T : Tw) (a b : Int32) : Bool := mThere T a && (mThere T b && !decide (a = b))
def evb (T : Tw) : Int32 := bitOf (nI T.1) - 1
def mTrait (T : Tw) (p : Nat) (w : Int32) : Int32 := if w = 0 then T.2.2.1 0 p else if w = 1 then T.2.2.1 1 p else if w = 2 then T.2.2.1 2 p else if w = 3 then T.2.2.1 3 p else if w = 4 then T.2.2.1 4 p else if w = 5 then T.2.2.1 5 p else if w = 6 then T.2.2.1 6 p else if w = 7 then mWalk (T.2.2.1 0 p) (T.2.1 0) else if w = 8 then mShift (T.2.2.1 0 p) (T.2.1 0) else if w = 9 then mShine (T.2.2.1 0 p) else tGlad T p
def mPut (T : Tw) (p : Nat) (w v : Int32) : Tw := if w = 0 then sP T 0 p v else if w = 1 then sP T 1 p v else if w = 2 then sP T 2 p v else if w = 3 then sP T 3 p v else if w = 4 then sP T 4 p v else if w = 5 then sP T 5 p v else if w = 6 then sP T 6 p v else T
/-- the cells of a Town: its own, its spots, kind, cell, guise, met, knows, out, passes -/
def wTo (cI : ClassId) (h : Nat) (a : Nat → Nat) (T : Tw) : va_W := [(h, .inr (2, [.int (nI T.1), .int (T.2.1 0), .int (T.2.1 3), .int (T.2.1 2), .ref (a 0), .ref (a 1), .ref (a 2), .ref (a 3), .ref (a 4), .ref (a 5), .ref (a 6), .ref (a 7)])), (a 0, .inl (cI, 10, .inl T.2.2.2)), (a 1, .inl (cI, 8, .inl (T.2.2.1 0))), (a 2, .inl (cI, 8, .inl (T.2.2.1 1))), (a 3, .inl (cI, 8, .inl (T.2.2.1 2))), (a 4, .inl (cI, 8, .inl (T.2.2.1 3))), (a 5, .inl (cI, 8, .inl (T.2.2.1 4))), (a 6, .inl (cI, 8, .inl (T.2.2.1 5))), (a 7, .inl (cI, 8, .inl (T.2.2.1 6)))]
abbrev tyC (cI cC : ClassId) : List (ClassId × FieldType) := [(cI, .int), (cC, .char)]
theorem ne_toInt {x v : Int32} {z : Int} (h : ¬ x = v) (e : v.toInt = z) : ¬ x.toInt = z := fun q => h (Int32.toInt_inj.mp (q.trans e.symm))
theorem b2_dec {b : Bool} : (if b = true then (1 : Int32) else 0) = b2 b := by cases b <;> rfl
theorem sP_n (T : Tw) (f p : Nat) (v : Int32) : (sP T f p v).1 = T.1 := rfl
theorem upd_id (f : Nat → Int32) (k : Nat) : upd f k (f k) = f := by
  funext j
  unfold upd
  by_cases h : j = k
  · rw [if_pos h, h]
  · rw [if_neg h]
theorem in0_t {v n : Int32} : in0 v n = true ↔ ¬ v < 0 ∧ ¬ n ≤ v := by simp [in0]
theorem in0_of {v : Int32} {n : Nat} (hn : n < 2 ^ 31) (h : in0 v (nI n) = true) : ∃ j : Nat, j < n ∧ v = nI j := by
  obtain ⟨h1, h2⟩ := in0_t.mp h
  obtain ⟨j, hj, rfl⟩ := nI_of h1
  exact ⟨j, (nI_ltI hj (by omega)).mp (Int32.not_le.mp h2), rfl⟩
theorem in0_nI {n j : Nat} (hn : n < 2 ^ 31) (h : j < n) : in0 (nI j) (nI n) = true := in0_t.mpr ⟨nI_pos (by omega), nI_ge h hn⟩
theorem there_of {T : Tw} {p : Int32} (hn : T.1 ≤ 8) (h : mThere T p = true) : ∃ j : Nat, j < T.1 ∧ p = nI j := in0_of (by omega) h
theorem there_nI {T : Tw} {j : Nat} (hn : T.1 ≤ 8) (h : j < T.1) : mThere T (nI j) = true := in0_nI (by omega) h
