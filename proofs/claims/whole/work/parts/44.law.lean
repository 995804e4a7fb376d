/-! the law -/
/-! THE CLAIM OUT OF ONE WALK OF THE LAW'S BODY. Your part is whole_start (and what it stands on); all else here is the same for every law, but numbers. -/
def R_law : String := "BareThursdayLaw"
def lw_P (b : Addr) (xs : List Int32) (args : Array Value) (s : State) : Prop := args = #[.ref b] ∧ s.IntsAt b xs ∧ xs.length ≤ 3072 ∧ (Jvm.Cond.and given_1 narrow_1).before args s = true
def lw_Q (_ : Array Value) (s : State) (o : Outcome) (t : State) : Prop := o = .returned (some (.int 1)) ∧ Framed s o t [] 48 1216
def lw_Z (below : List Frame) (a : Array Value) (s : State) : State → Prop := fun t => ∃ o, t.status = .running ∧ Ended t below o ∧ lw_Q a s o t
/-- the law's own end, with 1 on the stack, nothing written that was there before, its room as the claim has it -/
theorem lw_ret {p : Program} {l : Launch} {e : Env} {s : State} {m : MethodId} {below : List Frame} {meth : Method} {c : Code} {b : Nat} (hx : p.tables.exec = Jvm.exec) (hb : c.code = code) (hr : meth.sig.returnType = ret) (hlocks : meth.locks = false) {pc : Nat} {H : Heap} {ls : Array Slot} (hdg : decode code pc = .ok (.ireturn, 1)) : W p l e room_1 s m #[Value.ref b] below meth c H [] 48 1216 (lw_Z below #[Value.ref b] s) (F0 m pc ls [.int 1]) := by
  intro T hT X
  obtain ⟨fs, hret, hrun, hended, hW, hframe⟩ := X.leave (v := some (.int 1)) (hlocks := hlocks) (fun h => by rw [hr] at h; cases h)
  have hmeth' : T.vm.method? m = some meth := X.method'
  refine ⟨T.setFrames fs, ?_, .returned (some (.int 1)), hrun, hended, rfl, ⟨_, rfl⟩, hW, hframe⟩
  jvm_step X.here [X.here.top, hx, hb, hdg, hmeth', hr, ret, narrow_b1]
  (try refine ⟨rfl, ?_⟩); (try refine ⟨rfl, ?_⟩)
  first | (intro acts; rw [hret _ acts rfl rfl rfl]) | rw [hret _ _ rfl rfl rfl]
  exact Steps.refl _
/-- what holds at the law's entry: the machine, the code, the tables' words (any of lw_tbl by 'hts w (by decide +kernel)'), the script of L ints xs at the cell b, what the Statement gives of the start (any of its parts by flat_of_before) -/
def lw_At (p : Program) (s : State) (m : MethodId) (meth : Method) (c : Code) (b L : Nat) (xs : Nat → Int32) : Prop :=
  p.tables.exec = Jvm.exec ∧ c.code = code ∧ meth.sig.returnType = ret ∧ c.maxLocals = 4 ∧ s.vm.findClass R_law = some m.cls ∧ (∀ w ∈ lw_tbl, w.before #[Value.ref b] s = true) ∧ va_X b L xs s s.heap ∧ b < s.heap.size ∧ meth.locks = false ∧ (Jvm.Cond.and given_1 narrow_1).before #[Value.ref b] s = true

section LAW
variable {p : Program} {l : Launch} {e : Env} {R : Room} {s : State} {m : MethodId} {args : Array Value} {below : List Frame} {meth : Method} {c : Code} {D : va_G} {tys : List (ClassId × FieldType)} {A : Nat → Prop} {cc : ByteArray} {nL mk ms : Nat} {own : String} {adK adV : Nat → Nat} {Q : State → Prop} {pc : Nat} {lv : List (Nat × Value)} {st : List Value} {ws : va_W} {cI cC : ClassId} {b L : Nat} {xs : Nat → Int32}
theorem nI_nn {j : Nat} (h : j < 2 ^ 31) : ¬ nI j < 0 := fun c => absurd ((nI_ltI h (by decide)).mp (show nI j < nI 0 from c)) (Nat.not_lt_zero _)
theorem awX_len (C : aC p s m args c cc nL own D tys A adK adV) (hX : va_X b L xs s s.heap) (hbl : b < s.heap.size) (hbA : ¬ A b) (hd : decode cc pc = .ok (.arraylength, 1)) (k : AW p l e R s m args below meth c D A nL mk ms Q (pc + 1) lv (.int (nI L) :: st) ws) : AW p l e R s m args below meth c D A nL mk ms Q pc lv (.ref b :: st) ws := fun H locs ls hP hD hS hl => va_slen C.1 C.2.1 hX hbl hbA hS hd (k H locs ls hP hD hS hl)
theorem awX_ld (C : aC p s m args c cc nL own D tys A adK adV) (hX : va_X b L xs s s.heap) (hbl : b < s.heap.size) (hbA : ¬ A b) (hL : L ≤ 3072) {j : Nat} {i : Int32} (hi : i = nI j) (hj : j < L) (hd : decode cc pc = .ok (.iaload, 1)) (k : AW p l e R s m args below meth c D A nL mk ms Q (pc + 1) lv (.int (xs j) :: st) ws) : AW p l e R s m args below meth c D A nL mk ms Q pc lv (.int i :: .ref b :: st) ws := by
  subst hi
  have e9 : (nI j).toNatClampNeg = j := nI_clamp (by omega)
  intro H locs ls hP hD hS hl
  refine va_sld C.1 C.2.1 hX hbl hbA hS (i := nI j) ?_ hd ?_
  · rintro (h | h)
    · exact absurd h (nI_nn (by omega))
    · rw [e9] at h; omega
  · rw [e9]; exact k H locs ls hP hD hS hl
def lawL (b x0 y0 j : Nat) : List (Nat × Value) := [(0, .ref b), (1, .ref x0), (2, .ref y0), (3, .int (nI j))]
theorem awX_arg (C : aC p s m args c cc nL own D tys A adK adV) (hX : va_X b L xs s s.heap) (hbl : b < s.heap.size) (hbA : ¬ A b) (hL : L ≤ 3072) {x0 y0 j : Nat} (k : Nat) {kz : Int} (hk : Int32.ofInt kz = nI k) (hj : j + k < L) (d0 : decode cc pc = .ok (.aload_n 0, 1)) (d1 : decode cc (pc + 1) = .ok (.iload_n 3, 1)) (d2 : decode cc (pc + 2) = .ok (.iconst kz, 1)) (d3 : decode cc (pc + 3) = .ok (.iadd, 1)) (d4 : decode cc (pc + 4) = .ok (.iaload, 1)) (kk : AW p l e R s m args below meth c D A nL mk ms Q (pc + 5) (lawL b x0 y0 j) (.int (xs (j + k)) :: st) ws) : AW p l e R s m args below meth c D A nL mk ms Q pc (lawL b x0 y0 j) st ws := by
  refine aw_aload_n C d0 rfl ?_
  refine aw_iload_n C d1 rfl ?_
  refine aw_iconst C (nI k) d2 hk ?_
  refine aw_iadd C d3 ?_
  exact awX_ld C hX hbl hbA hL (j := j + k) (nI_add j k) hj d4 kk
theorem fl_two (a b : va_W) : fl [a] ++ b = fl [a, b] := by simp [fl]
def lwW (cI cC : ClassId) (x0 y0 : Nat) (G : Sg) (w : va_W) : Prop := ∃ (z y : Nat → Nat) (w1 w2 : va_W), z 0 = x0 ∧ y 0 = y0 ∧ pBaW cI z G w1 ∧ pMoW cI cC y G w2 ∧ w = fl [w1, w2]
theorem lcmp_self (x : Int64) : lg_cmp x x = 0 := by
  unfold lg_cmp
  first | (rw [if_neg (Int64.lt_irrefl x)]; simp; done) | simp

set_option maxHeartbeats 1000000 in
set_option maxRecDepth 20000 in
theorem lawK_person (C : aC p s m args c cL_law 4 RL D (tyC cI cC) A adK adV) (hX : va_X b L xs s s.heap) (hbl : b < s.heap.size) (hbA : ¬ A b) (hL : L ≤ 3072) (x0 y0 j : Nat) (hj : j + 6 ≤ L) (G : Sg) (hG : gI G) (w : va_W) (hw : lwW cI cC x0 y0 G w) (k9 : ∀ (G : Sg) (w : va_W), gI G → lwW cI cC x0 y0 G w → AW p l e room_1 s m args below meth c D A 4 48 1216 Q 1352 (lawL b x0 y0 j) [] w) : AW p l e room_1 s m args below meth c D A 4 48 1216 Q 204 (lawL b x0 y0 j) [] w := by
  obtain ⟨z, y, w0, w2, rfl, rfl, ⟨R, tk, bg, en, nm, rfl⟩, hw2, rfl⟩ := hw
  obtain ⟨T, K, ik, F, f, n, s1, s2, s3⟩ := G
  obtain ⟨o9, ho9⟩ : ∃ o9, o9 = m_person (T, K, ik, F, f, n, s1, s2, s3) (xs (j + 1)) (xs (j + 2)) := ⟨_, rfl⟩
  have hG2 : gI o9.2 := by rw [ho9]; exact k_person hG (xs (j + 1)) (xs (j + 2))
  obtain ⟨ho, hoK, hp, hpK, hS, hT⟩ := hG
  have hn := ho.n
  refine aw_aload_n C dL_law_204 rfl ?_
  refine awX_arg C hX hbl hbA hL 1 rfl (by omega) dL_law_205 dL_law_206 dL_law_207 dL_law_208 dL_law_209 ?_
  refine awX_arg C hX hbl hbA hL 2 rfl (by omega) dL_law_210 dL_law_211 dL_law_212 dL_law_213 dL_law_214 ?_
  refine aw_gV C (As := [.int (xs (j + 1)), .int (xs (j + 2))]) (rest := []) (c_X4_person l D cI cC adK adV z T R K ik F f n tk bg en nm s1 s2 s3 (xs (j + 1)) (xs (j + 2)) hn) k1_139 cv_X4_person 3 rfl rfl rfl (gc := [wBa cI z T R K ik F f n tk bg en nm s1 s2 s3]) (gr := [w2]) [0, 1] (fl1 _) rfl 2 rfl (by decide) ⟨by decide, by decide⟩ rfl rfl ⟨by decide, by decide⟩ rfl rfl (by decide) dL_law_215 ?_
  rw [← ho9]
  rintro _ w1 ⟨rfl, h1⟩
  obtain ⟨kr, ar, tk, bg, en, vl, cr, rfl, hk⟩ := hw2
  refine aw_eq (ws' := fl [wMo cI cC y (rowOf T) (kr, ar, ik, F, f, n, tk, bg, en, vl, s1, s2, s3, cr), w1]) rfl rfl (fl_two _ _) ?_
  refine aw_aload_n C dL_law_218 rfl ?_
  refine awX_arg C hX hbl hbA hL 1 rfl (by omega) dL_law_219 dL_law_220 dL_law_221 dL_law_222 dL_law_223 ?_
  refine awX_arg C hX hbl hbA hL 2 rfl (by omega) dL_law_224 dL_law_225 dL_law_226 dL_law_227 dL_law_228 ?_
  refine aw_gV C (As := [.int (xs (j + 1)), .int (xs (j + 2))]) (rest := [.int o9.1]) (c_X5_person l D cI cC adK adV y T K ik F f n s1 s2 s3 kr ar tk bg en vl cr hk ho (xs (j + 1)) (xs (j + 2))) k4_50 cv_X5_person 4 rfl rfl rfl (gc := [wMo cI cC y (rowOf T) (kr, ar, ik, F, f, n, tk, bg, en, vl, s1, s2, s3, cr)]) (gr := [w1]) [0, 1] (fl1 _) rfl 2 rfl (by decide) ⟨by decide, by decide⟩ rfl rfl ⟨by decide, by decide⟩ rfl rfl (Nat.le_of_ble_eq_true rfl) dL_law_229 ?_
  rw [← ho9]
  rintro _ w2 ⟨rfl, h2⟩
  refine aw_icmp_eq C 1352 dL_law_232 (by decide) (fun _ => ?_) (fun h => absurd rfl h)
  exact k9 o9.2 _ hG2 ⟨z, y, w1, w2, rfl, rfl, h1, h2, fl_two _ _⟩
set_option maxHeartbeats 1000000 in
set_option maxRecDepth 20000 in
theorem lawK_of (C : aC p s m args c cL_law 4 RL D (tyC cI cC) A adK adV) (hX : va_X b L xs s s.heap) (hbl : b < s.heap.size) (hbA : ¬ A b) (hL : L ≤ 3072) (x0 y0 j : Nat) (hj : j + 6 ≤ L) (G : Sg) (hG : gI G) (w : va_W) (hw : lwW cI cC x0 y0 G w) (k9 : ∀ (G : Sg) (w : va_W), gI G → lwW cI cC x0 y0 G w → AW p l e room_1 s m args below meth c D A 4 48 1216 Q 1352 (lawL b x0 y0 j) [] w) : AW p l e room_1 s m args below meth c D A 4 48 1216 Q 237 (lawL b x0 y0 j) [] w := by
  obtain ⟨z, y, w0, w2, rfl, rfl, ⟨R, tk, bg, en, nm, rfl⟩, hw2, rfl⟩ := hw
  obtain ⟨T, K, ik, F, f, n, s1, s2, s3⟩ := G
  obtain ⟨o9, ho9⟩ : ∃ o9, o9 = m_of (T, K, ik, F, f, n, s1, s2, s3) (xs (j + 1)) (xs (j + 2)) := ⟨_, rfl⟩
  have hG2 : gI o9.2 := by rw [ho9]; exact k_of hG (xs (j + 1)) (xs (j + 2))
  obtain ⟨ho, hoK, hp, hpK, hS, hT⟩ := hG
  have hn := ho.n
  refine aw_aload_n C dL_law_237 rfl ?_
  refine awX_arg C hX hbl hbA hL 1 rfl (by omega) dL_law_238 dL_law_239 dL_law_240 dL_law_241 dL_law_242 ?_
  refine awX_arg C hX hbl hbA hL 2 rfl (by omega) dL_law_243 dL_law_244 dL_law_245 dL_law_246 dL_law_247 ?_
  refine aw_gV C (As := [.int (xs (j + 1)), .int (xs (j + 2))]) (rest := []) (c_X4_of l D cI cC adK adV z T R K ik F f n tk bg en nm s1 s2 s3 (xs (j + 1)) (xs (j + 2)) hn) k1_168 cv_X4_of 3 rfl rfl rfl (gc := [wBa cI z T R K ik F f n tk bg en nm s1 s2 s3]) (gr := [w2]) [0, 1] (fl1 _) rfl 2 rfl (by decide) ⟨by decide, by decide⟩ rfl rfl ⟨by decide, by decide⟩ rfl rfl (by decide) dL_law_248 ?_
  rw [← ho9]
  rintro _ w1 ⟨rfl, h1⟩
  obtain ⟨kr, ar, tk, bg, en, vl, cr, rfl, hk⟩ := hw2
  refine aw_eq (ws' := fl [wMo cI cC y (rowOf T) (kr, ar, ik, F, f, n, tk, bg, en, vl, s1, s2, s3, cr), w1]) rfl rfl (fl_two _ _) ?_
  refine aw_aload_n C dL_law_251 rfl ?_
  refine awX_arg C hX hbl hbA hL 1 rfl (by omega) dL_law_252 dL_law_253 dL_law_254 dL_law_255 dL_law_256 ?_
  refine awX_arg C hX hbl hbA hL 2 rfl (by omega) dL_law_257 dL_law_258 dL_law_259 dL_law_260 dL_law_261 ?_
  refine aw_gV C (As := [.int (xs (j + 1)), .int (xs (j + 2))]) (rest := [.int o9.1]) (c_X5_of l D cI cC adK adV y T K ik F f n s1 s2 s3 kr ar tk bg en vl cr hk ho (xs (j + 1)) (xs (j + 2))) k4_73 cv_X5_of 4 rfl rfl rfl (gc := [wMo cI cC y (rowOf T) (kr, ar, ik, F, f, n, tk, bg, en, vl, s1, s2, s3, cr)]) (gr := [w1]) [0, 1] (fl1 _) rfl 2 rfl (by decide) ⟨by decide, by decide⟩ rfl rfl ⟨by decide, by decide⟩ rfl rfl (Nat.le_of_ble_eq_true rfl) dL_law_262 ?_
  rw [← ho9]
  rintro _ w2 ⟨rfl, h2⟩
  refine aw_icmp_eq C 1352 dL_law_265 (by decide) (fun _ => ?_) (fun h => absurd rfl h)
  exact k9 o9.2 _ hG2 ⟨z, y, w1, w2, rfl, rfl, h1, h2, fl_two _ _⟩
set_option maxHeartbeats 1000000 in
set_option maxRecDepth 20000 in
theorem lawK_change (C : aC p s m args c cL_law 4 RL D (tyC cI cC) A adK adV) (hX : va_X b L xs s s.heap) (hbl : b < s.heap.size) (hbA : ¬ A b) (hL : L ≤ 3072) (x0 y0 j : Nat) (hj : j + 6 ≤ L) (G : Sg) (hG : gI G) (w : va_W) (hw : lwW cI cC x0 y0 G w) (k9 : ∀ (G : Sg) (w : va_W), gI G → lwW cI cC x0 y0 G w → AW p l e room_1 s m args below meth c D A 4 48 1216 Q 1352 (lawL b x0 y0 j) [] w) : AW p l e room_1 s m args below meth c D A 4 48 1216 Q 270 (lawL b x0 y0 j) [] w := by
  obtain ⟨z, y, w0, w2, rfl, rfl, ⟨R, tk, bg, en, nm, rfl⟩, hw2, rfl⟩ := hw
  obtain ⟨T, K, ik, F, f, n, s1, s2, s3⟩ := G
  obtain ⟨o9, ho9⟩ : ∃ o9, o9 = m_change (T, K, ik, F, f, n, s1, s2, s3) (xs (j + 1)) (xs (j + 2)) (xs (j + 3)) := ⟨_, rfl⟩
  have hG2 : gI o9.2 := by rw [ho9]; exact k_change hG (xs (j + 1)) (xs (j + 2)) (xs (j + 3))
  obtain ⟨ho, hoK, hp, hpK, hS, hT⟩ := hG
  have hn := ho.n
  refine aw_aload_n C dL_law_270 rfl ?_
  refine awX_arg C hX hbl hbA hL 1 rfl (by omega) dL_law_271 dL_law_272 dL_law_273 dL_law_274 dL_law_275 ?_
  refine awX_arg C hX hbl hbA hL 2 rfl (by omega) dL_law_276 dL_law_277 dL_law_278 dL_law_279 dL_law_280 ?_
  refine awX_arg C hX hbl hbA hL 3 rfl (by omega) dL_law_281 dL_law_282 dL_law_283 dL_law_284 dL_law_285 ?_
  refine aw_gV C (As := [.int (xs (j + 1)), .int (xs (j + 2)), .int (xs (j + 3))]) (rest := []) (c_X4_change l D cI cC adK adV z T R K ik F f n tk bg en nm s1 s2 s3 (xs (j + 1)) (xs (j + 2)) (xs (j + 3)) hn) k1_198 cv_X4_change 3 rfl rfl rfl (gc := [wBa cI z T R K ik F f n tk bg en nm s1 s2 s3]) (gr := [w2]) [0, 1] (fl1 _) rfl 2 rfl (by decide) ⟨by decide, by decide⟩ rfl rfl ⟨by decide, by decide⟩ rfl rfl (by decide) dL_law_286 ?_
  rw [← ho9]
  rintro _ w1 ⟨rfl, h1⟩
  obtain ⟨kr, ar, tk, bg, en, vl, cr, rfl, hk⟩ := hw2
  refine aw_eq (ws' := fl [wMo cI cC y (rowOf T) (kr, ar, ik, F, f, n, tk, bg, en, vl, s1, s2, s3, cr), w1]) rfl rfl (fl_two _ _) ?_
  refine aw_aload_n C dL_law_289 rfl ?_
  refine awX_arg C hX hbl hbA hL 1 rfl (by omega) dL_law_290 dL_law_291 dL_law_292 dL_law_293 dL_law_294 ?_
  refine awX_arg C hX hbl hbA hL 2 rfl (by omega) dL_law_295 dL_law_296 dL_law_297 dL_law_298 dL_law_299 ?_
  refine awX_arg C hX hbl hbA hL 3 rfl (by omega) dL_law_300 dL_law_301 dL_law_302 dL_law_303 dL_law_304 ?_
  refine aw_gV C (As := [.int (xs (j + 1)), .int (xs (j + 2)), .int (xs (j + 3))]) (rest := [.int o9.1]) (c_X5_change l D cI cC adK adV y T K ik F f n s1 s2 s3 kr ar tk bg en vl cr hk ho (xs (j + 1)) (xs (j + 2)) (xs (j + 3))) k4_108 cv_X5_change 4 rfl rfl rfl (gc := [wMo cI cC y (rowOf T) (kr, ar, ik, F, f, n, tk, bg, en, vl, s1, s2, s3, cr)]) (gr := [w1]) [0, 1] (fl1 _) rfl 2 rfl (by decide) ⟨by decide, by decide⟩ rfl rfl ⟨by decide, by decide⟩ rfl rfl (Nat.le_of_ble_eq_true rfl) dL_law_305 ?_
  rw [← ho9]
  rintro _ w2 ⟨rfl, h2⟩
  refine aw_icmp_eq C 1352 dL_law_308 (by decide) (fun _ => ?_) (fun h => absurd rfl h)
  exact k9 o9.2 _ hG2 ⟨z, y, w1, w2, rfl, rfl, h1, h2, fl_two _ _⟩
set_option maxHeartbeats 1000000 in
set_option maxRecDepth 20000 in
theorem lawK_minds (C : aC p s m args c cL_law 4 RL D (tyC cI cC) A adK adV) (hX : va_X b L xs s s.heap) (hbl : b < s.heap.size) (hbA : ¬ A b) (hL : L ≤ 3072) (x0 y0 j : Nat) (hj : j + 6 ≤ L) (G : Sg) (hG : gI G) (w : va_W) (hw : lwW cI cC x0 y0 G w) (k9 : ∀ (G : Sg) (w : va_W), gI G → lwW cI cC x0 y0 G w → AW p l e room_1 s m args below meth c D A 4 48 1216 Q 1352 (lawL b x0 y0 j) [] w) : AW p l e room_1 s m args below meth c D A 4 48 1216 Q 313 (lawL b x0 y0 j) [] w := by
  obtain ⟨z, y, w0, w2, rfl, rfl, ⟨R, tk, bg, en, nm, rfl⟩, hw2, rfl⟩ := hw
  obtain ⟨T, K, ik, F, f, n, s1, s2, s3⟩ := G
  obtain ⟨o9, ho9⟩ : ∃ o9, o9 = m_minds (T, K, ik, F, f, n, s1, s2, s3) (xs (j + 1)) (xs (j + 2)) := ⟨_, rfl⟩
  have hG2 : gI o9.2 := by rw [ho9]; exact k_minds hG (xs (j + 1)) (xs (j + 2))
  obtain ⟨ho, hoK, hp, hpK, hS, hT⟩ := hG
  have hn := ho.n
  refine aw_aload_n C dL_law_313 rfl ?_
  refine awX_arg C hX hbl hbA hL 1 rfl (by omega) dL_law_314 dL_law_315 dL_law_316 dL_law_317 dL_law_318 ?_
  refine awX_arg C hX hbl hbA hL 2 rfl (by omega) dL_law_319 dL_law_320 dL_law_321 dL_law_322 dL_law_323 ?_
  refine aw_gV C (As := [.int (xs (j + 1)), .int (xs (j + 2))]) (rest := []) (c_X4_minds l D cI cC adK adV z T R K ik F f n tk bg en nm s1 s2 s3 (xs (j + 1)) (xs (j + 2)) hn) k1_216 cv_X4_minds 3 rfl rfl rfl (gc := [wBa cI z T R K ik F f n tk bg en nm s1 s2 s3]) (gr := [w2]) [0, 1] (fl1 _) rfl 2 rfl (by decide) ⟨by decide, by decide⟩ rfl rfl ⟨by decide, by decide⟩ rfl rfl (by decide) dL_law_324 ?_
  rw [← ho9]
  rintro _ w1 ⟨rfl, h1⟩
  obtain ⟨kr, ar, tk, bg, en, vl, cr, rfl, hk⟩ := hw2
  refine aw_eq (ws' := fl [wMo cI cC y (rowOf T) (kr, ar, ik, F, f, n, tk, bg, en, vl, s1, s2, s3, cr), w1]) rfl rfl (fl_two _ _) ?_
  refine aw_aload_n C dL_law_327 rfl ?_
  refine awX_arg C hX hbl hbA hL 1 rfl (by omega) dL_law_328 dL_law_329 dL_law_330 dL_law_331 dL_law_332 ?_
  refine awX_arg C hX hbl hbA hL 2 rfl (by omega) dL_law_333 dL_law_334 dL_law_335 dL_law_336 dL_law_337 ?_
  refine aw_gV C (As := [.int (xs (j + 1)), .int (xs (j + 2))]) (rest := [.int o9.1]) (c_X5_minds l D cI cC adK adV y T K ik F f n s1 s2 s3 kr ar tk bg en vl cr hk ho (xs (j + 1)) (xs (j + 2))) k4_119 cv_X5_minds 4 rfl rfl rfl (gc := [wMo cI cC y (rowOf T) (kr, ar, ik, F, f, n, tk, bg, en, vl, s1, s2, s3, cr)]) (gr := [w1]) [0, 1] (fl1 _) rfl 2 rfl (by decide) ⟨by decide, by decide⟩ rfl rfl ⟨by decide, by decide⟩ rfl rfl (Nat.le_of_ble_eq_true rfl) dL_law_338 ?_
  rw [← ho9]
  rintro _ w2 ⟨rfl, h2⟩
  refine aw_icmp_eq C 1352 dL_law_341 (by decide) (fun _ => ?_) (fun h => absurd rfl h)
  exact k9 o9.2 _ hG2 ⟨z, y, w1, w2, rfl, rfl, h1, h2, fl_two _ _⟩
set_option maxHeartbeats 1000000 in
set_option maxRecDepth 20000 in
theorem lawK_far (C : aC p s m args c cL_law 4 RL D (tyC cI cC) A adK adV) (hX : va_X b L xs s s.heap) (hbl : b < s.heap.size) (hbA : ¬ A b) (hL : L ≤ 3072) (x0 y0 j : Nat) (hj : j + 6 ≤ L) (G : Sg) (hG : gI G) (w : va_W) (hw : lwW cI cC x0 y0 G w) (k9 : ∀ (G : Sg) (w : va_W), gI G → lwW cI cC x0 y0 G w → AW p l e room_1 s m args below meth c D A 4 48 1216 Q 1352 (lawL b x0 y0 j) [] w) : AW p l e room_1 s m args below meth c D A 4 48 1216 Q 346 (lawL b x0 y0 j) [] w := by
  obtain ⟨z, y, w0, w2, rfl, rfl, ⟨R, tk, bg, en, nm, rfl⟩, hw2, rfl⟩ := hw
  obtain ⟨T, K, ik, F, f, n, s1, s2, s3⟩ := G
  obtain ⟨o9, ho9⟩ : ∃ o9, o9 = m_far (T, K, ik, F, f, n, s1, s2, s3) (xs (j + 1)) (xs (j + 2)) := ⟨_, rfl⟩
  have hG2 : gI o9.2 := by rw [ho9]; exact k_far hG (xs (j + 1)) (xs (j + 2))
  obtain ⟨ho, hoK, hp, hpK, hS, hT⟩ := hG
  have hn := ho.n
  refine aw_aload_n C dL_law_346 rfl ?_
  refine awX_arg C hX hbl hbA hL 1 rfl (by omega) dL_law_347 dL_law_348 dL_law_349 dL_law_350 dL_law_351 ?_
  refine awX_arg C hX hbl hbA hL 2 rfl (by omega) dL_law_352 dL_law_353 dL_law_354 dL_law_355 dL_law_356 ?_
  refine aw_gV C (As := [.int (xs (j + 1)), .int (xs (j + 2))]) (rest := []) (c_X4_far l D cI cC adK adV z T R K ik F f n tk bg en nm s1 s2 s3 (xs (j + 1)) (xs (j + 2)) hn) k1_230 cv_X4_far 3 rfl rfl rfl (gc := [wBa cI z T R K ik F f n tk bg en nm s1 s2 s3]) (gr := [w2]) [0, 1] (fl1 _) rfl 2 rfl (by decide) ⟨by decide, by decide⟩ rfl rfl ⟨by decide, by decide⟩ rfl rfl (by decide) dL_law_357 ?_
  rw [← ho9]
  rintro _ w1 ⟨rfl, h1⟩
  obtain ⟨kr, ar, tk, bg, en, vl, cr, rfl, hk⟩ := hw2
  refine aw_eq (ws' := fl [wMo cI cC y (rowOf T) (kr, ar, ik, F, f, n, tk, bg, en, vl, s1, s2, s3, cr), w1]) rfl rfl (fl_two _ _) ?_
  refine aw_aload_n C dL_law_360 rfl ?_
  refine awX_arg C hX hbl hbA hL 1 rfl (by omega) dL_law_361 dL_law_362 dL_law_363 dL_law_364 dL_law_365 ?_
  refine awX_arg C hX hbl hbA hL 2 rfl (by omega) dL_law_366 dL_law_367 dL_law_368 dL_law_369 dL_law_370 ?_
  refine aw_gV C (As := [.int (xs (j + 1)), .int (xs (j + 2))]) (rest := [.int o9.1]) (c_X5_far l D cI cC adK adV y T K ik F f n s1 s2 s3 kr ar tk bg en vl cr hk ho (xs (j + 1)) (xs (j + 2))) k4_127 cv_X5_far 4 rfl rfl rfl (gc := [wMo cI cC y (rowOf T) (kr, ar, ik, F, f, n, tk, bg, en, vl, s1, s2, s3, cr)]) (gr := [w1]) [0, 1] (fl1 _) rfl 2 rfl (by decide) ⟨by decide, by decide⟩ rfl rfl ⟨by decide, by decide⟩ rfl rfl (Nat.le_of_ble_eq_true rfl) dL_law_371 ?_
  rw [← ho9]
  rintro _ w2 ⟨rfl, h2⟩
  refine aw_icmp_eq C 1352 dL_law_374 (by decide) (fun _ => ?_) (fun h => absurd rfl h)
  exact k9 o9.2 _ hG2 ⟨z, y, w1, w2, rfl, rfl, h1, h2, fl_two _ _⟩
set_option maxHeartbeats 1000000 in
set_option maxRecDepth 20000 in
theorem lawK_who (C : aC p s m args c cL_law 4 RL D (tyC cI cC) A adK adV) (hX : va_X b L xs s s.heap) (hbl : b < s.heap.size) (hbA : ¬ A b) (hL : L ≤ 3072) (x0 y0 j : Nat) (hj : j + 6 ≤ L) (G : Sg) (hG : gI G) (w : va_W) (hw : lwW cI cC x0 y0 G w) (k9 : ∀ (G : Sg) (w : va_W), gI G → lwW cI cC x0 y0 G w → AW p l e room_1 s m args below meth c D A 4 48 1216 Q 1352 (lawL b x0 y0 j) [] w) : AW p l e room_1 s m args below meth c D A 4 48 1216 Q 379 (lawL b x0 y0 j) [] w := by
  obtain ⟨z, y, w0, w2, rfl, rfl, ⟨R, tk, bg, en, nm, rfl⟩, hw2, rfl⟩ := hw
  obtain ⟨T, K, ik, F, f, n, s1, s2, s3⟩ := G
  obtain ⟨o9, ho9⟩ : ∃ o9, o9 = m_who (T, K, ik, F, f, n, s1, s2, s3) (xs (j + 1)) := ⟨_, rfl⟩
  have hG2 : gI o9.2 := by rw [ho9]; exact k_who hG (xs (j + 1))
  obtain ⟨ho, hoK, hp, hpK, hS, hT⟩ := hG
  have hn := ho.n
  refine aw_aload_n C dL_law_379 rfl ?_
  refine awX_arg C hX hbl hbA hL 1 rfl (by omega) dL_law_380 dL_law_381 dL_law_382 dL_law_383 dL_law_384 ?_
  refine aw_gV C (As := [.int (xs (j + 1))]) (rest := []) (c_X4_who l D cI cC adK adV z T R K ik F f n tk bg en nm s1 s2 s3 (xs (j + 1)) hn) k2_8 cv_X4_who 3 rfl rfl rfl (gc := [wBa cI z T R K ik F f n tk bg en nm s1 s2 s3]) (gr := [w2]) [0, 1] (fl1 _) rfl 2 rfl (by decide) ⟨by decide, by decide⟩ rfl rfl ⟨by decide, by decide⟩ rfl rfl (by decide) dL_law_385 ?_
  rw [← ho9]
  rintro _ w1 ⟨rfl, h1⟩
  obtain ⟨kr, ar, tk, bg, en, vl, cr, rfl, hk⟩ := hw2
  refine aw_eq (ws' := fl [wMo cI cC y (rowOf T) (kr, ar, ik, F, f, n, tk, bg, en, vl, s1, s2, s3, cr), w1]) rfl rfl (fl_two _ _) ?_
  refine aw_aload_n C dL_law_388 rfl ?_
  refine awX_arg C hX hbl hbA hL 1 rfl (by omega) dL_law_389 dL_law_390 dL_law_391 dL_law_392 dL_law_393 ?_
  refine aw_gV C (As := [.int (xs (j + 1))]) (rest := [.int o9.1]) (c_X5_who l D cI cC adK adV y T K ik F f n s1 s2 s3 kr ar tk bg en vl cr hk ho (xs (j + 1))) k4_142 cv_X5_who 4 rfl rfl rfl (gc := [wMo cI cC y (rowOf T) (kr, ar, ik, F, f, n, tk, bg, en, vl, s1, s2, s3, cr)]) (gr := [w1]) [0, 1] (fl1 _) rfl 2 rfl (by decide) ⟨by decide, by decide⟩ rfl rfl ⟨by decide, by decide⟩ rfl rfl (Nat.le_of_ble_eq_true rfl) dL_law_394 ?_
  rw [← ho9]
  rintro _ w2 ⟨rfl, h2⟩
  refine aw_icmp_eq C 1352 dL_law_397 (by decide) (fun _ => ?_) (fun h => absurd rfl h)
  exact k9 o9.2 _ hG2 ⟨z, y, w1, w2, rfl, rfl, h1, h2, fl_two _ _⟩
set_option maxHeartbeats 1000000 in
set_option maxRecDepth 20000 in
theorem lawK_two (C : aC p s m args c cL_law 4 RL D (tyC cI cC) A adK adV) (hX : va_X b L xs s s.heap) (hbl : b < s.heap.size) (hbA : ¬ A b) (hL : L ≤ 3072) (x0 y0 j : Nat) (hj : j + 6 ≤ L) (G : Sg) (hG : gI G) (w : va_W) (hw : lwW cI cC x0 y0 G w) (k9 : ∀ (G : Sg) (w : va_W), gI G → lwW cI cC x0 y0 G w → AW p l e room_1 s m args below meth c D A 4 48 1216 Q 1352 (lawL b x0 y0 j) [] w) : AW p l e room_1 s m args below meth c D A 4 48 1216 Q 402 (lawL b x0 y0 j) [] w := by
  obtain ⟨z, y, w0, w2, rfl, rfl, ⟨R, tk, bg, en, nm, rfl⟩, hw2, rfl⟩ := hw
  obtain ⟨T, K, ik, F, f, n, s1, s2, s3⟩ := G
  obtain ⟨o9, ho9⟩ : ∃ o9, o9 = m_two (T, K, ik, F, f, n, s1, s2, s3) (xs (j + 1)) (xs (j + 2)) (xs (j + 3)) := ⟨_, rfl⟩
  have hG2 : gI o9.2 := by rw [ho9]; exact k_two hG (xs (j + 1)) (xs (j + 2)) (xs (j + 3))
  obtain ⟨ho, hoK, hp, hpK, hS, hT⟩ := hG
  have hn := ho.n
  refine aw_aload_n C dL_law_402 rfl ?_
  refine awX_arg C hX hbl hbA hL 1 rfl (by omega) dL_law_403 dL_law_404 dL_law_405 dL_law_406 dL_law_407 ?_
  refine awX_arg C hX hbl hbA hL 2 rfl (by omega) dL_law_408 dL_law_409 dL_law_410 dL_law_411 dL_law_412 ?_
  refine awX_arg C hX hbl hbA hL 3 rfl (by omega) dL_law_413 dL_law_414 dL_law_415 dL_law_416 dL_law_417 ?_
  refine aw_gV C (As := [.int (xs (j + 1)), .int (xs (j + 2)), .int (xs (j + 3))]) (rest := []) (c_X4_two l D cI cC adK adV z T R K ik F f n tk bg en nm s1 s2 s3 (xs (j + 1)) (xs (j + 2)) (xs (j + 3)) hn) k2_16 cv_X4_two 3 rfl rfl rfl (gc := [wBa cI z T R K ik F f n tk bg en nm s1 s2 s3]) (gr := [w2]) [0, 1] (fl1 _) rfl 2 rfl (by decide) ⟨by decide, by decide⟩ rfl rfl ⟨by decide, by decide⟩ rfl rfl (by decide) dL_law_418 ?_
  rw [← ho9]
  rintro _ w1 ⟨rfl, h1⟩
  obtain ⟨kr, ar, tk, bg, en, vl, cr, rfl, hk⟩ := hw2
  refine aw_eq (ws' := fl [wMo cI cC y (rowOf T) (kr, ar, ik, F, f, n, tk, bg, en, vl, s1, s2, s3, cr), w1]) rfl rfl (fl_two _ _) ?_
  refine aw_aload_n C dL_law_421 rfl ?_
  refine awX_arg C hX hbl hbA hL 1 rfl (by omega) dL_law_422 dL_law_423 dL_law_424 dL_law_425 dL_law_426 ?_
  refine awX_arg C hX hbl hbA hL 2 rfl (by omega) dL_law_427 dL_law_428 dL_law_429 dL_law_430 dL_law_431 ?_
  refine awX_arg C hX hbl hbA hL 3 rfl (by omega) dL_law_432 dL_law_433 dL_law_434 dL_law_435 dL_law_436 ?_
  refine aw_gV C (As := [.int (xs (j + 1)), .int (xs (j + 2)), .int (xs (j + 3))]) (rest := [.int o9.1]) (c_X5_two l D cI cC adK adV y T K ik F f n s1 s2 s3 kr ar tk bg en vl cr hk ho (xs (j + 1)) (xs (j + 2)) (xs (j + 3))) k4_146 cv_X5_two 4 rfl rfl rfl (gc := [wMo cI cC y (rowOf T) (kr, ar, ik, F, f, n, tk, bg, en, vl, s1, s2, s3, cr)]) (gr := [w1]) [0, 1] (fl1 _) rfl 2 rfl (by decide) ⟨by decide, by decide⟩ rfl rfl ⟨by decide, by decide⟩ rfl rfl (Nat.le_of_ble_eq_true rfl) dL_law_437 ?_
  rw [← ho9]
  rintro _ w2 ⟨rfl, h2⟩
  refine aw_icmp_eq C 1352 dL_law_440 (by decide) (fun _ => ?_) (fun h => absurd rfl h)
  exact k9 o9.2 _ hG2 ⟨z, y, w1, w2, rfl, rfl, h1, h2, fl_two _ _⟩
set_option maxHeartbeats 1000000 in
set_option maxRecDepth 20000 in
theorem lawK_go (C : aC p s m args c cL_law 4 RL D (tyC cI cC) A adK adV) (hX : va_X b L xs s s.heap) (hbl : b < s.heap.size) (hbA : ¬ A b) (hL : L ≤ 3072) (x0 y0 j : Nat) (hj : j + 6 ≤ L) (G : Sg) (hG : gI G) (w : va_W) (hw : lwW cI cC x0 y0 G w) (k9 : ∀ (G : Sg) (w : va_W), gI G → lwW cI cC x0 y0 G w → AW p l e room_1 s m args below meth c D A 4 48 1216 Q 1352 (lawL b x0 y0 j) [] w) : AW p l e room_1 s m args below meth c D A 4 48 1216 Q 445 (lawL b x0 y0 j) [] w := by
  obtain ⟨z, y, w0, w2, rfl, rfl, ⟨R, tk, bg, en, nm, rfl⟩, hw2, rfl⟩ := hw
  obtain ⟨T, K, ik, F, f, n, s1, s2, s3⟩ := G
  obtain ⟨o9, ho9⟩ : ∃ o9, o9 = m_go (T, K, ik, F, f, n, s1, s2, s3) (xs (j + 1)) := ⟨_, rfl⟩
  have hG2 : gI o9.2 := by rw [ho9]; exact k_go hG (xs (j + 1))
  obtain ⟨ho, hoK, hp, hpK, hS, hT⟩ := hG
  have hn := ho.n
  refine aw_aload_n C dL_law_445 rfl ?_
  refine awX_arg C hX hbl hbA hL 1 rfl (by omega) dL_law_446 dL_law_447 dL_law_448 dL_law_449 dL_law_450 ?_
  refine aw_gV C (As := [.int (xs (j + 1))]) (rest := []) (c_X4_go l D cI cC adK adV z T R K ik F f n tk bg en nm s1 s2 s3 (xs (j + 1)) hn) k2_39 cv_X4_go 3 rfl rfl rfl (gc := [wBa cI z T R K ik F f n tk bg en nm s1 s2 s3]) (gr := [w2]) [0, 1] (fl1 _) rfl 2 rfl (by decide) ⟨by decide, by decide⟩ rfl rfl ⟨by decide, by decide⟩ rfl rfl (by decide) dL_law_451 ?_
  rw [← ho9]
  rintro _ w1 ⟨rfl, h1⟩
  obtain ⟨kr, ar, tk, bg, en, vl, cr, rfl, hk⟩ := hw2
  refine aw_eq (ws' := fl [wMo cI cC y (rowOf T) (kr, ar, ik, F, f, n, tk, bg, en, vl, s1, s2, s3, cr), w1]) rfl rfl (fl_two _ _) ?_
  refine aw_aload_n C dL_law_454 rfl ?_
  refine awX_arg C hX hbl hbA hL 1 rfl (by omega) dL_law_455 dL_law_456 dL_law_457 dL_law_458 dL_law_459 ?_
  refine aw_gV C (As := [.int (xs (j + 1))]) (rest := [.int o9.1]) (c_X5_go l D cI cC adK adV y T K ik F f n s1 s2 s3 kr ar tk bg en vl cr hk ho (xs (j + 1))) k4_162 cv_X5_go 4 rfl rfl rfl (gc := [wMo cI cC y (rowOf T) (kr, ar, ik, F, f, n, tk, bg, en, vl, s1, s2, s3, cr)]) (gr := [w1]) [0, 1] (fl1 _) rfl 2 rfl (by decide) ⟨by decide, by decide⟩ rfl rfl ⟨by decide, by decide⟩ rfl rfl (Nat.le_of_ble_eq_true rfl) dL_law_460 ?_
  rw [← ho9]
  rintro _ w2 ⟨rfl, h2⟩
  refine aw_icmp_eq C 1352 dL_law_463 (by decide) (fun _ => ?_) (fun h => absurd rfl h)
  exact k9 o9.2 _ hG2 ⟨z, y, w1, w2, rfl, rfl, h1, h2, fl_two _ _⟩
set_option maxHeartbeats 1000000 in
set_option maxRecDepth 20000 in
theorem lawK_now (C : aC p s m args c cL_law 4 RL D (tyC cI cC) A adK adV) (hX : va_X b L xs s s.heap) (hbl : b < s.heap.size) (hbA : ¬ A b) (hL : L ≤ 3072) (x0 y0 j : Nat) (hj : j + 6 ≤ L) (G : Sg) (hG : gI G) (w : va_W) (hw : lwW cI cC x0 y0 G w) (k9 : ∀ (G : Sg) (w : va_W), gI G → lwW cI cC x0 y0 G w → AW p l e room_1 s m args below meth c D A 4 48 1216 Q 1352 (lawL b x0 y0 j) [] w) : AW p l e room_1 s m args below meth c D A 4 48 1216 Q 468 (lawL b x0 y0 j) [] w := by
  obtain ⟨z, y, w0, w2, rfl, rfl, ⟨R, tk, bg, en, nm, rfl⟩, hw2, rfl⟩ := hw
  obtain ⟨T, K, ik, F, f, n, s1, s2, s3⟩ := G
  obtain ⟨o9, ho9⟩ : ∃ o9, o9 = m_now (T, K, ik, F, f, n, s1, s2, s3) (xs (j + 1)) := ⟨_, rfl⟩
  have hG2 : gI o9.2 := by rw [ho9]; exact k_now hG (xs (j + 1))
  obtain ⟨ho, hoK, hp, hpK, hS, hT⟩ := hG
  have hn := ho.n
  refine aw_aload_n C dL_law_468 rfl ?_
  refine awX_arg C hX hbl hbA hL 1 rfl (by omega) dL_law_469 dL_law_470 dL_law_471 dL_law_472 dL_law_473 ?_
  refine aw_gV C (As := [.int (xs (j + 1))]) (rest := []) (c_X4_now l D cI cC adK adV z T R K ik F f n tk bg en nm s1 s2 s3 (xs (j + 1)) hn) k2_80 cv_X4_now 3 rfl rfl rfl (gc := [wBa cI z T R K ik F f n tk bg en nm s1 s2 s3]) (gr := [w2]) [0, 1] (fl1 _) rfl 2 rfl (by decide) ⟨by decide, by decide⟩ rfl rfl ⟨by decide, by decide⟩ rfl rfl (by decide) dL_law_474 ?_
  rw [← ho9]
  rintro _ w1 ⟨rfl, h1⟩
  obtain ⟨kr, ar, tk, bg, en, vl, cr, rfl, hk⟩ := hw2
  refine aw_eq (ws' := fl [wMo cI cC y (rowOf T) (kr, ar, ik, F, f, n, tk, bg, en, vl, s1, s2, s3, cr), w1]) rfl rfl (fl_two _ _) ?_
  refine aw_aload_n C dL_law_477 rfl ?_
  refine awX_arg C hX hbl hbA hL 1 rfl (by omega) dL_law_478 dL_law_479 dL_law_480 dL_law_481 dL_law_482 ?_
  refine aw_gV C (As := [.int (xs (j + 1))]) (rest := [.int o9.1]) (c_X5_now l D cI cC adK adV y T K ik F f n s1 s2 s3 kr ar tk bg en vl cr hk ho (xs (j + 1))) k4_195 cv_X5_now 4 rfl rfl rfl (gc := [wMo cI cC y (rowOf T) (kr, ar, ik, F, f, n, tk, bg, en, vl, s1, s2, s3, cr)]) (gr := [w1]) [0, 1] (fl1 _) rfl 2 rfl (by decide) ⟨by decide, by decide⟩ rfl rfl ⟨by decide, by decide⟩ rfl rfl (Nat.le_of_ble_eq_true rfl) dL_law_483 ?_
  rw [← ho9]
  rintro _ w2 ⟨rfl, h2⟩
  refine aw_icmp_eq C 1352 dL_law_486 (by decide) (fun _ => ?_) (fun h => absurd rfl h)
  exact k9 o9.2 _ hG2 ⟨z, y, w1, w2, rfl, rfl, h1, h2, fl_two _ _⟩
set_option maxHeartbeats 1000000 in
set_option maxRecDepth 20000 in
theorem lawK_ahead (C : aC p s m args c cL_law 4 RL D (tyC cI cC) A adK adV) (hX : va_X b L xs s s.heap) (hbl : b < s.heap.size) (hbA : ¬ A b) (hL : L ≤ 3072) (x0 y0 j : Nat) (hj : j + 6 ≤ L) (G : Sg) (hG : gI G) (w : va_W) (hw : lwW cI cC x0 y0 G w) (k9 : ∀ (G : Sg) (w : va_W), gI G → lwW cI cC x0 y0 G w → AW p l e room_1 s m args below meth c D A 4 48 1216 Q 1352 (lawL b x0 y0 j) [] w) : AW p l e room_1 s m args below meth c D A 4 48 1216 Q 491 (lawL b x0 y0 j) [] w := by
  obtain ⟨z, y, w0, w2, rfl, rfl, ⟨R, tk, bg, en, nm, rfl⟩, hw2, rfl⟩ := hw
  obtain ⟨T, K, ik, F, f, n, s1, s2, s3⟩ := G
  obtain ⟨o9, ho9⟩ : ∃ o9, o9 = m_ahead (T, K, ik, F, f, n, s1, s2, s3) (xs (j + 1)) (xs (j + 2)) (xs (j + 3)) := ⟨_, rfl⟩
  have hG2 : gI o9.2 := by rw [ho9]; exact k_ahead hG (xs (j + 1)) (xs (j + 2)) (xs (j + 3))
  obtain ⟨ho, hoK, hp, hpK, hS, hT⟩ := hG
  have hn := ho.n
  refine aw_aload_n C dL_law_491 rfl ?_
  refine awX_arg C hX hbl hbA hL 1 rfl (by omega) dL_law_492 dL_law_493 dL_law_494 dL_law_495 dL_law_496 ?_
  refine awX_arg C hX hbl hbA hL 2 rfl (by omega) dL_law_497 dL_law_498 dL_law_499 dL_law_500 dL_law_501 ?_
  refine awX_arg C hX hbl hbA hL 3 rfl (by omega) dL_law_502 dL_law_503 dL_law_504 dL_law_505 dL_law_506 ?_
  refine aw_gV C (As := [.int (xs (j + 1)), .int (xs (j + 2)), .int (xs (j + 3))]) (rest := []) (c_X4_ahead l D cI cC adK adV z T R K ik F f n tk bg en nm s1 s2 s3 (xs (j + 1)) (xs (j + 2)) (xs (j + 3)) hn) k2_109 cv_X4_ahead 3 rfl rfl rfl (gc := [wBa cI z T R K ik F f n tk bg en nm s1 s2 s3]) (gr := [w2]) [0, 1] (fl1 _) rfl 2 rfl (by decide) ⟨by decide, by decide⟩ rfl rfl ⟨by decide, by decide⟩ rfl rfl (by decide) dL_law_507 ?_
  rw [← ho9]
  rintro _ w1 ⟨rfl, h1⟩
  obtain ⟨kr, ar, tk, bg, en, vl, cr, rfl, hk⟩ := hw2
  refine aw_eq (ws' := fl [wMo cI cC y (rowOf T) (kr, ar, ik, F, f, n, tk, bg, en, vl, s1, s2, s3, cr), w1]) rfl rfl (fl_two _ _) ?_
  refine aw_aload_n C dL_law_510 rfl ?_
  refine awX_arg C hX hbl hbA hL 1 rfl (by omega) dL_law_511 dL_law_512 dL_law_513 dL_law_514 dL_law_515 ?_
  refine awX_arg C hX hbl hbA hL 2 rfl (by omega) dL_law_516 dL_law_517 dL_law_518 dL_law_519 dL_law_520 ?_
  refine awX_arg C hX hbl hbA hL 3 rfl (by omega) dL_law_521 dL_law_522 dL_law_523 dL_law_524 dL_law_525 ?_
  refine aw_gV C (As := [.int (xs (j + 1)), .int (xs (j + 2)), .int (xs (j + 3))]) (rest := [.int o9.1]) (c_X5_ahead l D cI cC adK adV y T K ik F f n s1 s2 s3 kr ar tk bg en vl cr hk ho (xs (j + 1)) (xs (j + 2)) (xs (j + 3))) k4_215 cv_X5_ahead 4 rfl rfl rfl (gc := [wMo cI cC y (rowOf T) (kr, ar, ik, F, f, n, tk, bg, en, vl, s1, s2, s3, cr)]) (gr := [w1]) [0, 1] (fl1 _) rfl 2 rfl (by decide) ⟨by decide, by decide⟩ rfl rfl ⟨by decide, by decide⟩ rfl rfl (Nat.le_of_ble_eq_true rfl) dL_law_526 ?_
  rw [← ho9]
  rintro _ w2 ⟨rfl, h2⟩
  refine aw_icmp_eq C 1352 dL_law_529 (by decide) (fun _ => ?_) (fun h => absurd rfl h)
  exact k9 o9.2 _ hG2 ⟨z, y, w1, w2, rfl, rfl, h1, h2, fl_two _ _⟩
set_option maxHeartbeats 1000000 in
set_option maxRecDepth 20000 in
theorem lawK_joy (C : aC p s m args c cL_law 4 RL D (tyC cI cC) A adK adV) (hX : va_X b L xs s s.heap) (hbl : b < s.heap.size) (hbA : ¬ A b) (hL : L ≤ 3072) (x0 y0 j : Nat) (hj : j + 6 ≤ L) (G : Sg) (hG : gI G) (w : va_W) (hw : lwW cI cC x0 y0 G w) (k9 : ∀ (G : Sg) (w : va_W), gI G → lwW cI cC x0 y0 G w → AW p l e room_1 s m args below meth c D A 4 48 1216 Q 1352 (lawL b x0 y0 j) [] w) : AW p l e room_1 s m args below meth c D A 4 48 1216 Q 534 (lawL b x0 y0 j) [] w := by
  obtain ⟨z, y, w0, w2, rfl, rfl, ⟨R, tk, bg, en, nm, rfl⟩, hw2, rfl⟩ := hw
  obtain ⟨T, K, ik, F, f, n, s1, s2, s3⟩ := G
  obtain ⟨o9, ho9⟩ : ∃ o9, o9 = m_joy (T, K, ik, F, f, n, s1, s2, s3) (xs (j + 1)) := ⟨_, rfl⟩
  have hG2 : gI o9.2 := by rw [ho9]; exact k_joy hG (xs (j + 1))
  obtain ⟨ho, hoK, hp, hpK, hS, hT⟩ := hG
  have hn := ho.n
  refine aw_aload_n C dL_law_534 rfl ?_
  refine awX_arg C hX hbl hbA hL 1 rfl (by omega) dL_law_535 dL_law_536 dL_law_537 dL_law_538 dL_law_539 ?_
  refine aw_gV C (As := [.int (xs (j + 1))]) (rest := []) (c_X4_joy l D cI cC adK adV z T R K ik F f n tk bg en nm s1 s2 s3 (xs (j + 1)) hn) k2_120 cv_X4_joy 3 rfl rfl rfl (gc := [wBa cI z T R K ik F f n tk bg en nm s1 s2 s3]) (gr := [w2]) [0, 1] (fl1 _) rfl 2 rfl (by decide) ⟨by decide, by decide⟩ rfl rfl ⟨by decide, by decide⟩ rfl rfl (by decide) dL_law_540 ?_
  rw [← ho9]
  rintro _ w1 ⟨rfl, h1⟩
  obtain ⟨kr, ar, tk, bg, en, vl, cr, rfl, hk⟩ := hw2
  refine aw_eq (ws' := fl [wMo cI cC y (rowOf T) (kr, ar, ik, F, f, n, tk, bg, en, vl, s1, s2, s3, cr), w1]) rfl rfl (fl_two _ _) ?_
  refine aw_aload_n C dL_law_543 rfl ?_
  refine awX_arg C hX hbl hbA hL 1 rfl (by omega) dL_law_544 dL_law_545 dL_law_546 dL_law_547 dL_law_548 ?_
  refine aw_gV C (As := [.int (xs (j + 1))]) (rest := [.int o9.1]) (c_X5_joy l D cI cC adK adV y T K ik F f n s1 s2 s3 kr ar tk bg en vl cr hk ho (xs (j + 1))) k4_231 cv_X5_joy 4 rfl rfl rfl (gc := [wMo cI cC y (rowOf T) (kr, ar, ik, F, f, n, tk, bg, en, vl, s1, s2, s3, cr)]) (gr := [w1]) [0, 1] (fl1 _) rfl 2 rfl (by decide) ⟨by decide, by decide⟩ rfl rfl ⟨by decide, by decide⟩ rfl rfl (Nat.le_of_ble_eq_true rfl) dL_law_549 ?_
  rw [← ho9]
  rintro _ w2 ⟨rfl, h2⟩
  refine aw_icmp_eq C 1352 dL_law_552 (by decide) (fun _ => ?_) (fun h => absurd rfl h)
  exact k9 o9.2 _ hG2 ⟨z, y, w1, w2, rfl, rfl, h1, h2, fl_two _ _⟩
set_option maxHeartbeats 1000000 in
set_option maxRecDepth 20000 in
theorem lawK_when (C : aC p s m args c cL_law 4 RL D (tyC cI cC) A adK adV) (hX : va_X b L xs s s.heap) (hbl : b < s.heap.size) (hbA : ¬ A b) (hL : L ≤ 3072) (x0 y0 j : Nat) (hj : j + 6 ≤ L) (G : Sg) (hG : gI G) (w : va_W) (hw : lwW cI cC x0 y0 G w) (k9 : ∀ (G : Sg) (w : va_W), gI G → lwW cI cC x0 y0 G w → AW p l e room_1 s m args below meth c D A 4 48 1216 Q 1352 (lawL b x0 y0 j) [] w) : AW p l e room_1 s m args below meth c D A 4 48 1216 Q 557 (lawL b x0 y0 j) [] w := by
  obtain ⟨z, y, w0, w2, rfl, rfl, ⟨R, tk, bg, en, nm, rfl⟩, hw2, rfl⟩ := hw
  obtain ⟨T, K, ik, F, f, n, s1, s2, s3⟩ := G
  obtain ⟨o9, ho9⟩ : ∃ o9, o9 = m_when (T, K, ik, F, f, n, s1, s2, s3) (xs (j + 1)) (xs (j + 2)) (xs (j + 3)) := ⟨_, rfl⟩
  have hG2 : gI o9.2 := by rw [ho9]; exact k_when hG (xs (j + 1)) (xs (j + 2)) (xs (j + 3))
  obtain ⟨ho, hoK, hp, hpK, hS, hT⟩ := hG
  have hn := ho.n
  refine aw_aload_n C dL_law_557 rfl ?_
  refine awX_arg C hX hbl hbA hL 1 rfl (by omega) dL_law_558 dL_law_559 dL_law_560 dL_law_561 dL_law_562 ?_
  refine awX_arg C hX hbl hbA hL 2 rfl (by omega) dL_law_563 dL_law_564 dL_law_565 dL_law_566 dL_law_567 ?_
  refine awX_arg C hX hbl hbA hL 3 rfl (by omega) dL_law_568 dL_law_569 dL_law_570 dL_law_571 dL_law_572 ?_
  refine aw_gV C (As := [.int (xs (j + 1)), .int (xs (j + 2)), .int (xs (j + 3))]) (rest := []) (c_X4_when l D cI cC adK adV z T R K ik F f n tk bg en nm s1 s2 s3 (xs (j + 1)) (xs (j + 2)) (xs (j + 3)) hn) k2_124 cv_X4_when 3 rfl rfl rfl (gc := [wBa cI z T R K ik F f n tk bg en nm s1 s2 s3]) (gr := [w2]) [0, 1] (fl1 _) rfl 2 rfl (by decide) ⟨by decide, by decide⟩ rfl rfl ⟨by decide, by decide⟩ rfl rfl (by decide) dL_law_573 ?_
  rw [← ho9]
  rintro _ w1 ⟨rfl, h1⟩
  obtain ⟨kr, ar, tk, bg, en, vl, cr, rfl, hk⟩ := hw2
  refine aw_eq (ws' := fl [wMo cI cC y (rowOf T) (kr, ar, ik, F, f, n, tk, bg, en, vl, s1, s2, s3, cr), w1]) rfl rfl (fl_two _ _) ?_
  refine aw_aload_n C dL_law_576 rfl ?_
  refine awX_arg C hX hbl hbA hL 1 rfl (by omega) dL_law_577 dL_law_578 dL_law_579 dL_law_580 dL_law_581 ?_
  refine awX_arg C hX hbl hbA hL 2 rfl (by omega) dL_law_582 dL_law_583 dL_law_584 dL_law_585 dL_law_586 ?_
  refine awX_arg C hX hbl hbA hL 3 rfl (by omega) dL_law_587 dL_law_588 dL_law_589 dL_law_590 dL_law_591 ?_
  refine aw_gV C (As := [.int (xs (j + 1)), .int (xs (j + 2)), .int (xs (j + 3))]) (rest := [.int o9.1]) (c_X5_when l D cI cC adK adV y T K ik F f n s1 s2 s3 kr ar tk bg en vl cr hk ho (xs (j + 1)) (xs (j + 2)) (xs (j + 3))) k4_235 cv_X5_when 4 rfl rfl rfl (gc := [wMo cI cC y (rowOf T) (kr, ar, ik, F, f, n, tk, bg, en, vl, s1, s2, s3, cr)]) (gr := [w1]) [0, 1] (fl1 _) rfl 2 rfl (by decide) ⟨by decide, by decide⟩ rfl rfl ⟨by decide, by decide⟩ rfl rfl (Nat.le_of_ble_eq_true rfl) dL_law_592 ?_
  rw [← ho9]
  rintro _ w2 ⟨rfl, h2⟩
  refine aw_icmp_eq C 1352 dL_law_595 (by decide) (fun _ => ?_) (fun h => absurd rfl h)
  exact k9 o9.2 _ hG2 ⟨z, y, w1, w2, rfl, rfl, h1, h2, fl_two _ _⟩
set_option maxHeartbeats 1000000 in
set_option maxRecDepth 20000 in
theorem lawK_known (C : aC p s m args c cL_law 4 RL D (tyC cI cC) A adK adV) (hX : va_X b L xs s s.heap) (hbl : b < s.heap.size) (hbA : ¬ A b) (hL : L ≤ 3072) (x0 y0 j : Nat) (hj : j + 6 ≤ L) (G : Sg) (hG : gI G) (w : va_W) (hw : lwW cI cC x0 y0 G w) (k9 : ∀ (G : Sg) (w : va_W), gI G → lwW cI cC x0 y0 G w → AW p l e room_1 s m args below meth c D A 4 48 1216 Q 1352 (lawL b x0 y0 j) [] w) : AW p l e room_1 s m args below meth c D A 4 48 1216 Q 600 (lawL b x0 y0 j) [] w := by
  obtain ⟨z, y, w0, w2, rfl, rfl, ⟨R, tk, bg, en, nm, rfl⟩, hw2, rfl⟩ := hw
  obtain ⟨T, K, ik, F, f, n, s1, s2, s3⟩ := G
  obtain ⟨o9, ho9⟩ : ∃ o9, o9 = m_known (T, K, ik, F, f, n, s1, s2, s3) := ⟨_, rfl⟩
  have hG2 : gI o9.2 := by rw [ho9]; exact k_known hG
  obtain ⟨ho, hoK, hp, hpK, hS, hT⟩ := hG
  have hn := ho.n
  refine aw_aload_n C dL_law_600 rfl ?_
  refine aw_gV C (As := []) (rest := []) (c_X4_known l D cI cC adK adV z T R K ik F f n tk bg en nm s1 s2 s3 hn) k2_132 cv_X4_known 3 rfl rfl rfl (gc := [wBa cI z T R K ik F f n tk bg en nm s1 s2 s3]) (gr := [w2]) [0, 1] (fl1 _) rfl 2 rfl (by decide) ⟨by decide, by decide⟩ rfl rfl ⟨by decide, by decide⟩ rfl rfl (by decide) dL_law_601 ?_
  rw [← ho9]
  rintro _ w1 ⟨rfl, h1⟩
  obtain ⟨kr, ar, tk, bg, en, vl, cr, rfl, hk⟩ := hw2
  refine aw_eq (ws' := fl [wMo cI cC y (rowOf T) (kr, ar, ik, F, f, n, tk, bg, en, vl, s1, s2, s3, cr), w1]) rfl rfl (fl_two _ _) ?_
  refine aw_aload_n C dL_law_604 rfl ?_
  refine aw_gV C (As := []) (rest := [.int o9.1]) (c_X5_known l D cI cC adK adV y T K ik F f n s1 s2 s3 kr ar tk bg en vl cr hk ho) k5_7 cv_X5_known 4 rfl rfl rfl (gc := [wMo cI cC y (rowOf T) (kr, ar, ik, F, f, n, tk, bg, en, vl, s1, s2, s3, cr)]) (gr := [w1]) [0, 1] (fl1 _) rfl 2 rfl (by decide) ⟨by decide, by decide⟩ rfl rfl ⟨by decide, by decide⟩ rfl rfl (Nat.le_of_ble_eq_true rfl) dL_law_605 ?_
  rw [← ho9]
  rintro _ w2 ⟨rfl, h2⟩
  refine aw_icmp_eq C 1352 dL_law_608 (by decide) (fun _ => ?_) (fun h => absurd rfl h)
  exact k9 o9.2 _ hG2 ⟨z, y, w1, w2, rfl, rfl, h1, h2, fl_two _ _⟩
set_option maxHeartbeats 1000000 in
set_option maxRecDepth 20000 in
theorem lawK_passed (C : aC p s m args c cL_law 4 RL D (tyC cI cC) A adK adV) (hX : va_X b L xs s s.heap) (hbl : b < s.heap.size) (hbA : ¬ A b) (hL : L ≤ 3072) (x0 y0 j : Nat) (hj : j + 6 ≤ L) (G : Sg) (hG : gI G) (w : va_W) (hw : lwW cI cC x0 y0 G w) (k9 : ∀ (G : Sg) (w : va_W), gI G → lwW cI cC x0 y0 G w → AW p l e room_1 s m args below meth c D A 4 48 1216 Q 1352 (lawL b x0 y0 j) [] w) : AW p l e room_1 s m args below meth c D A 4 48 1216 Q 613 (lawL b x0 y0 j) [] w := by
  obtain ⟨z, y, w0, w2, rfl, rfl, ⟨R, tk, bg, en, nm, rfl⟩, hw2, rfl⟩ := hw
  obtain ⟨T, K, ik, F, f, n, s1, s2, s3⟩ := G
  obtain ⟨o9, ho9⟩ : ∃ o9, o9 = m_passed (T, K, ik, F, f, n, s1, s2, s3) (xs (j + 1)) (xs (j + 2)) := ⟨_, rfl⟩
  have hG2 : gI o9.2 := by rw [ho9]; exact k_passed hG (xs (j + 1)) (xs (j + 2))
  obtain ⟨ho, hoK, hp, hpK, hS, hT⟩ := hG
  have hn := ho.n
  refine aw_aload_n C dL_law_613 rfl ?_
  refine awX_arg C hX hbl hbA hL 1 rfl (by omega) dL_law_614 dL_law_615 dL_law_616 dL_law_617 dL_law_618 ?_
  refine awX_arg C hX hbl hbA hL 2 rfl (by omega) dL_law_619 dL_law_620 dL_law_621 dL_law_622 dL_law_623 ?_
  refine aw_gV C (As := [.int (xs (j + 1)), .int (xs (j + 2))]) (rest := []) (c_X4_passed l D cI cC adK adV z T R K ik F f n tk bg en nm s1 s2 s3 (xs (j + 1)) (xs (j + 2)) hn) k2_136 cv_X4_passed 3 rfl rfl rfl (gc := [wBa cI z T R K ik F f n tk bg en nm s1 s2 s3]) (gr := [w2]) [0, 1] (fl1 _) rfl 2 rfl (by decide) ⟨by decide, by decide⟩ rfl rfl ⟨by decide, by decide⟩ rfl rfl (by decide) dL_law_624 ?_
  rw [← ho9]
  rintro _ w1 ⟨rfl, h1⟩
  obtain ⟨kr, ar, tk, bg, en, vl, cr, rfl, hk⟩ := hw2
  refine aw_eq (ws' := fl [wMo cI cC y (rowOf T) (kr, ar, ik, F, f, n, tk, bg, en, vl, s1, s2, s3, cr), w1]) rfl rfl (fl_two _ _) ?_
  refine aw_aload_n C dL_law_627 rfl ?_
  refine awX_arg C hX hbl hbA hL 1 rfl (by omega) dL_law_628 dL_law_629 dL_law_630 dL_law_631 dL_law_632 ?_
  refine awX_arg C hX hbl hbA hL 2 rfl (by omega) dL_law_633 dL_law_634 dL_law_635 dL_law_636 dL_law_637 ?_
  refine aw_gV C (As := [.int (xs (j + 1)), .int (xs (j + 2))]) (rest := [.int o9.1]) (c_X5_passed l D cI cC adK adV y T K ik F f n s1 s2 s3 kr ar tk bg en vl cr hk ho (xs (j + 1)) (xs (j + 2))) k5_11 cv_X5_passed 4 rfl rfl rfl (gc := [wMo cI cC y (rowOf T) (kr, ar, ik, F, f, n, tk, bg, en, vl, s1, s2, s3, cr)]) (gr := [w1]) [0, 1] (fl1 _) rfl 2 rfl (by decide) ⟨by decide, by decide⟩ rfl rfl ⟨by decide, by decide⟩ rfl rfl (Nat.le_of_ble_eq_true rfl) dL_law_638 ?_
  rw [← ho9]
  rintro _ w2 ⟨rfl, h2⟩
  refine aw_icmp_eq C 1352 dL_law_641 (by decide) (fun _ => ?_) (fun h => absurd rfl h)
  exact k9 o9.2 _ hG2 ⟨z, y, w1, w2, rfl, rfl, h1, h2, fl_two _ _⟩
set_option maxHeartbeats 1000000 in
set_option maxRecDepth 20000 in
theorem lawK_standFor (C : aC p s m args c cL_law 4 RL D (tyC cI cC) A adK adV) (hX : va_X b L xs s s.heap) (hbl : b < s.heap.size) (hbA : ¬ A b) (hL : L ≤ 3072) (x0 y0 j : Nat) (hj : j + 6 ≤ L) (G : Sg) (hG : gI G) (w : va_W) (hw : lwW cI cC x0 y0 G w) (k9 : ∀ (G : Sg) (w : va_W), gI G → lwW cI cC x0 y0 G w → AW p l e room_1 s m args below meth c D A 4 48 1216 Q 1352 (lawL b x0 y0 j) [] w) : AW p l e room_1 s m args below meth c D A 4 48 1216 Q 646 (lawL b x0 y0 j) [] w := by
  obtain ⟨z, y, w0, w2, rfl, rfl, ⟨R, tk, bg, en, nm, rfl⟩, hw2, rfl⟩ := hw
  obtain ⟨T, K, ik, F, f, n, s1, s2, s3⟩ := G
  obtain ⟨o9, ho9⟩ : ∃ o9, o9 = m_standFor (T, K, ik, F, f, n, s1, s2, s3) (xs (j + 1)) (xs (j + 2)) := ⟨_, rfl⟩
  have hG2 : gI o9.2 := by rw [ho9]; exact k_standFor hG (xs (j + 1)) (xs (j + 2))
  obtain ⟨ho, hoK, hp, hpK, hS, hT⟩ := hG
  have hn := ho.n
  refine aw_aload_n C dL_law_646 rfl ?_
  refine awX_arg C hX hbl hbA hL 1 rfl (by omega) dL_law_647 dL_law_648 dL_law_649 dL_law_650 dL_law_651 ?_
  refine awX_arg C hX hbl hbA hL 2 rfl (by omega) dL_law_652 dL_law_653 dL_law_654 dL_law_655 dL_law_656 ?_
  refine aw_gV C (As := [.int (xs (j + 1)), .int (xs (j + 2))]) (rest := []) (c_X4_standFor l D cI cC adK adV z T R K ik F f n tk bg en nm s1 s2 s3 (xs (j + 1)) (xs (j + 2)) hn) k2_140 cv_X4_standFor 3 rfl rfl rfl (gc := [wBa cI z T R K ik F f n tk bg en nm s1 s2 s3]) (gr := [w2]) [0, 1] (fl1 _) rfl 2 rfl (by decide) ⟨by decide, by decide⟩ rfl rfl ⟨by decide, by decide⟩ rfl rfl (by decide) dL_law_657 ?_
  rw [← ho9]
  rintro _ w1 ⟨rfl, h1⟩
  obtain ⟨kr, ar, tk, bg, en, vl, cr, rfl, hk⟩ := hw2
  refine aw_eq (ws' := fl [wMo cI cC y (rowOf T) (kr, ar, ik, F, f, n, tk, bg, en, vl, s1, s2, s3, cr), w1]) rfl rfl (fl_two _ _) ?_
  refine aw_aload_n C dL_law_660 rfl ?_
  refine awX_arg C hX hbl hbA hL 1 rfl (by omega) dL_law_661 dL_law_662 dL_law_663 dL_law_664 dL_law_665 ?_
  refine awX_arg C hX hbl hbA hL 2 rfl (by omega) dL_law_666 dL_law_667 dL_law_668 dL_law_669 dL_law_670 ?_
  refine aw_gV C (As := [.int (xs (j + 1)), .int (xs (j + 2))]) (rest := [.int o9.1]) (c_X5_standFor l D cI cC adK adV y T K ik F f n s1 s2 s3 kr ar tk bg en vl cr hk ho (xs (j + 1)) (xs (j + 2))) k5_15 cv_X5_standFor 4 rfl rfl rfl (gc := [wMo cI cC y (rowOf T) (kr, ar, ik, F, f, n, tk, bg, en, vl, s1, s2, s3, cr)]) (gr := [w1]) [0, 1] (fl1 _) rfl 2 rfl (by decide) ⟨by decide, by decide⟩ rfl rfl ⟨by decide, by decide⟩ rfl rfl (Nat.le_of_ble_eq_true rfl) dL_law_671 ?_
  rw [← ho9]
  rintro _ w2 ⟨rfl, h2⟩
  refine aw_icmp_eq C 1352 dL_law_674 (by decide) (fun _ => ?_) (fun h => absurd rfl h)
  exact k9 o9.2 _ hG2 ⟨z, y, w1, w2, rfl, rfl, h1, h2, fl_two _ _⟩
set_option maxHeartbeats 1000000 in
set_option maxRecDepth 20000 in
theorem lawK_guiseFor (C : aC p s m args c cL_law 4 RL D (tyC cI cC) A adK adV) (hX : va_X b L xs s s.heap) (hbl : b < s.heap.size) (hbA : ¬ A b) (hL : L ≤ 3072) (x0 y0 j : Nat) (hj : j + 6 ≤ L) (G : Sg) (hG : gI G) (w : va_W) (hw : lwW cI cC x0 y0 G w) (k9 : ∀ (G : Sg) (w : va_W), gI G → lwW cI cC x0 y0 G w → AW p l e room_1 s m args below meth c D A 4 48 1216 Q 1352 (lawL b x0 y0 j) [] w) : AW p l e room_1 s m args below meth c D A 4 48 1216 Q 679 (lawL b x0 y0 j) [] w := by
  obtain ⟨z, y, w0, w2, rfl, rfl, ⟨R, tk, bg, en, nm, rfl⟩, hw2, rfl⟩ := hw
  obtain ⟨T, K, ik, F, f, n, s1, s2, s3⟩ := G
  obtain ⟨o9, ho9⟩ : ∃ o9, o9 = m_guiseFor (T, K, ik, F, f, n, s1, s2, s3) (xs (j + 1)) (xs (j + 2)) := ⟨_, rfl⟩
  have hG2 : gI o9.2 := by rw [ho9]; exact k_guiseFor hG (xs (j + 1)) (xs (j + 2))
  obtain ⟨ho, hoK, hp, hpK, hS, hT⟩ := hG
  have hn := ho.n
  refine aw_aload_n C dL_law_679 rfl ?_
  refine awX_arg C hX hbl hbA hL 1 rfl (by omega) dL_law_680 dL_law_681 dL_law_682 dL_law_683 dL_law_684 ?_
  refine awX_arg C hX hbl hbA hL 2 rfl (by omega) dL_law_685 dL_law_686 dL_law_687 dL_law_688 dL_law_689 ?_
  refine aw_gV C (As := [.int (xs (j + 1)), .int (xs (j + 2))]) (rest := []) (c_X4_guiseFor l D cI cC adK adV z T R K ik F f n tk bg en nm s1 s2 s3 (xs (j + 1)) (xs (j + 2)) hn) k2_148 cv_X4_guiseFor 3 rfl rfl rfl (gc := [wBa cI z T R K ik F f n tk bg en nm s1 s2 s3]) (gr := [w2]) [0, 1] (fl1 _) rfl 2 rfl (by decide) ⟨by decide, by decide⟩ rfl rfl ⟨by decide, by decide⟩ rfl rfl (by decide) dL_law_690 ?_
  rw [← ho9]
  rintro _ w1 ⟨rfl, h1⟩
  obtain ⟨kr, ar, tk, bg, en, vl, cr, rfl, hk⟩ := hw2
  refine aw_eq (ws' := fl [wMo cI cC y (rowOf T) (kr, ar, ik, F, f, n, tk, bg, en, vl, s1, s2, s3, cr), w1]) rfl rfl (fl_two _ _) ?_
  refine aw_aload_n C dL_law_693 rfl ?_
  refine awX_arg C hX hbl hbA hL 1 rfl (by omega) dL_law_694 dL_law_695 dL_law_696 dL_law_697 dL_law_698 ?_
  refine awX_arg C hX hbl hbA hL 2 rfl (by omega) dL_law_699 dL_law_700 dL_law_701 dL_law_702 dL_law_703 ?_
  refine aw_gV C (As := [.int (xs (j + 1)), .int (xs (j + 2))]) (rest := [.int o9.1]) (c_X5_guiseFor l D cI cC adK adV y T K ik F f n s1 s2 s3 kr ar tk bg en vl cr hk ho (xs (j + 1)) (xs (j + 2))) k5_27 cv_X5_guiseFor 4 rfl rfl rfl (gc := [wMo cI cC y (rowOf T) (kr, ar, ik, F, f, n, tk, bg, en, vl, s1, s2, s3, cr)]) (gr := [w1]) [0, 1] (fl1 _) rfl 2 rfl (by decide) ⟨by decide, by decide⟩ rfl rfl ⟨by decide, by decide⟩ rfl rfl (Nat.le_of_ble_eq_true rfl) dL_law_704 ?_
  rw [← ho9]
  rintro _ w2 ⟨rfl, h2⟩
  refine aw_icmp_eq C 1352 dL_law_707 (by decide) (fun _ => ?_) (fun h => absurd rfl h)
  exact k9 o9.2 _ hG2 ⟨z, y, w1, w2, rfl, rfl, h1, h2, fl_two _ _⟩
set_option maxHeartbeats 1000000 in
set_option maxRecDepth 20000 in
theorem lawK_kindFor (C : aC p s m args c cL_law 4 RL D (tyC cI cC) A adK adV) (hX : va_X b L xs s s.heap) (hbl : b < s.heap.size) (hbA : ¬ A b) (hL : L ≤ 3072) (x0 y0 j : Nat) (hj : j + 6 ≤ L) (G : Sg) (hG : gI G) (w : va_W) (hw : lwW cI cC x0 y0 G w) (k9 : ∀ (G : Sg) (w : va_W), gI G → lwW cI cC x0 y0 G w → AW p l e room_1 s m args below meth c D A 4 48 1216 Q 1352 (lawL b x0 y0 j) [] w) : AW p l e room_1 s m args below meth c D A 4 48 1216 Q 712 (lawL b x0 y0 j) [] w := by
  obtain ⟨z, y, w0, w2, rfl, rfl, ⟨R, tk, bg, en, nm, rfl⟩, hw2, rfl⟩ := hw
  obtain ⟨T, K, ik, F, f, n, s1, s2, s3⟩ := G
  obtain ⟨o9, ho9⟩ : ∃ o9, o9 = m_kindFor (T, K, ik, F, f, n, s1, s2, s3) (xs (j + 1)) (xs (j + 2)) := ⟨_, rfl⟩
  have hG2 : gI o9.2 := by rw [ho9]; exact k_kindFor hG (xs (j + 1)) (xs (j + 2))
  obtain ⟨ho, hoK, hp, hpK, hS, hT⟩ := hG
  have hn := ho.n
  refine aw_aload_n C dL_law_712 rfl ?_
  refine awX_arg C hX hbl hbA hL 1 rfl (by omega) dL_law_713 dL_law_714 dL_law_715 dL_law_716 dL_law_717 ?_
  refine awX_arg C hX hbl hbA hL 2 rfl (by omega) dL_law_718 dL_law_719 dL_law_720 dL_law_721 dL_law_722 ?_
  refine aw_gV C (As := [.int (xs (j + 1)), .int (xs (j + 2))]) (rest := []) (c_X4_kindFor l D cI cC adK adV z T R K ik F f n tk bg en nm s1 s2 s3 (xs (j + 1)) (xs (j + 2)) hn) k2_152 cv_X4_kindFor 3 rfl rfl rfl (gc := [wBa cI z T R K ik F f n tk bg en nm s1 s2 s3]) (gr := [w2]) [0, 1] (fl1 _) rfl 2 rfl (by decide) ⟨by decide, by decide⟩ rfl rfl ⟨by decide, by decide⟩ rfl rfl (by decide) dL_law_723 ?_
  rw [← ho9]
  rintro _ w1 ⟨rfl, h1⟩
  obtain ⟨kr, ar, tk, bg, en, vl, cr, rfl, hk⟩ := hw2
  refine aw_eq (ws' := fl [wMo cI cC y (rowOf T) (kr, ar, ik, F, f, n, tk, bg, en, vl, s1, s2, s3, cr), w1]) rfl rfl (fl_two _ _) ?_
  refine aw_aload_n C dL_law_726 rfl ?_
  refine awX_arg C hX hbl hbA hL 1 rfl (by omega) dL_law_727 dL_law_728 dL_law_729 dL_law_730 dL_law_731 ?_
  refine awX_arg C hX hbl hbA hL 2 rfl (by omega) dL_law_732 dL_law_733 dL_law_734 dL_law_735 dL_law_736 ?_
  refine aw_gV C (As := [.int (xs (j + 1)), .int (xs (j + 2))]) (rest := [.int o9.1]) (c_X5_kindFor l D cI cC adK adV y T K ik F f n s1 s2 s3 kr ar tk bg en vl cr hk ho (xs (j + 1)) (xs (j + 2))) k5_31 cv_X5_kindFor 4 rfl rfl rfl (gc := [wMo cI cC y (rowOf T) (kr, ar, ik, F, f, n, tk, bg, en, vl, s1, s2, s3, cr)]) (gr := [w1]) [0, 1] (fl1 _) rfl 2 rfl (by decide) ⟨by decide, by decide⟩ rfl rfl ⟨by decide, by decide⟩ rfl rfl (Nat.le_of_ble_eq_true rfl) dL_law_737 ?_
  rw [← ho9]
  rintro _ w2 ⟨rfl, h2⟩
  refine aw_icmp_eq C 1352 dL_law_740 (by decide) (fun _ => ?_) (fun h => absurd rfl h)
  exact k9 o9.2 _ hG2 ⟨z, y, w1, w2, rfl, rfl, h1, h2, fl_two _ _⟩
set_option maxHeartbeats 1000000 in
set_option maxRecDepth 20000 in
theorem lawK_dark (C : aC p s m args c cL_law 4 RL D (tyC cI cC) A adK adV) (hX : va_X b L xs s s.heap) (hbl : b < s.heap.size) (hbA : ¬ A b) (hL : L ≤ 3072) (x0 y0 j : Nat) (hj : j + 6 ≤ L) (G : Sg) (hG : gI G) (w : va_W) (hw : lwW cI cC x0 y0 G w) (k9 : ∀ (G : Sg) (w : va_W), gI G → lwW cI cC x0 y0 G w → AW p l e room_1 s m args below meth c D A 4 48 1216 Q 1352 (lawL b x0 y0 j) [] w) : AW p l e room_1 s m args below meth c D A 4 48 1216 Q 745 (lawL b x0 y0 j) [] w := by
  obtain ⟨z, y, w0, w2, rfl, rfl, ⟨R, tk, bg, en, nm, rfl⟩, hw2, rfl⟩ := hw
  obtain ⟨T, K, ik, F, f, n, s1, s2, s3⟩ := G
  obtain ⟨o9, ho9⟩ : ∃ o9, o9 = m_dark (T, K, ik, F, f, n, s1, s2, s3) (xs (j + 1)) := ⟨_, rfl⟩
  have hG2 : gI o9.2 := by rw [ho9]; exact k_dark hG (xs (j + 1))
  obtain ⟨ho, hoK, hp, hpK, hS, hT⟩ := hG
  have hn := ho.n
  refine aw_aload_n C dL_law_745 rfl ?_
  refine awX_arg C hX hbl hbA hL 1 rfl (by omega) dL_law_746 dL_law_747 dL_law_748 dL_law_749 dL_law_750 ?_
  refine aw_gV C (As := [.int (xs (j + 1))]) (rest := []) (c_X4_dark l D cI cC adK adV z T R K ik F f n tk bg en nm s1 s2 s3 (xs (j + 1)) hn) k2_156 cv_X4_dark 3 rfl rfl rfl (gc := [wBa cI z T R K ik F f n tk bg en nm s1 s2 s3]) (gr := [w2]) [0, 1] (fl1 _) rfl 2 rfl (by decide) ⟨by decide, by decide⟩ rfl rfl ⟨by decide, by decide⟩ rfl rfl (by decide) dL_law_751 ?_
  rw [← ho9]
  rintro _ w1 ⟨rfl, h1⟩
  obtain ⟨kr, ar, tk, bg, en, vl, cr, rfl, hk⟩ := hw2
  refine aw_eq (ws' := fl [wMo cI cC y (rowOf T) (kr, ar, ik, F, f, n, tk, bg, en, vl, s1, s2, s3, cr), w1]) rfl rfl (fl_two _ _) ?_
  refine aw_aload_n C dL_law_754 rfl ?_
  refine awX_arg C hX hbl hbA hL 1 rfl (by omega) dL_law_755 dL_law_756 dL_law_757 dL_law_758 dL_law_759 ?_
  refine aw_gV C (As := [.int (xs (j + 1))]) (rest := [.int o9.1]) (c_X5_dark l D cI cC adK adV y T K ik F f n s1 s2 s3 kr ar tk bg en vl cr hk ho (xs (j + 1))) k5_35 cv_X5_dark 4 rfl rfl rfl (gc := [wMo cI cC y (rowOf T) (kr, ar, ik, F, f, n, tk, bg, en, vl, s1, s2, s3, cr)]) (gr := [w1]) [0, 1] (fl1 _) rfl 2 rfl (by decide) ⟨by decide, by decide⟩ rfl rfl ⟨by decide, by decide⟩ rfl rfl (Nat.le_of_ble_eq_true rfl) dL_law_760 ?_
  rw [← ho9]
  rintro _ w2 ⟨rfl, h2⟩
  refine aw_icmp_eq C 1352 dL_law_763 (by decide) (fun _ => ?_) (fun h => absurd rfl h)
  exact k9 o9.2 _ hG2 ⟨z, y, w1, w2, rfl, rfl, h1, h2, fl_two _ _⟩
set_option maxHeartbeats 1000000 in
set_option maxRecDepth 20000 in
theorem lawK_circle (C : aC p s m args c cL_law 4 RL D (tyC cI cC) A adK adV) (hX : va_X b L xs s s.heap) (hbl : b < s.heap.size) (hbA : ¬ A b) (hL : L ≤ 3072) (x0 y0 j : Nat) (hj : j + 6 ≤ L) (G : Sg) (hG : gI G) (w : va_W) (hw : lwW cI cC x0 y0 G w) (k9 : ∀ (G : Sg) (w : va_W), gI G → lwW cI cC x0 y0 G w → AW p l e room_1 s m args below meth c D A 4 48 1216 Q 1352 (lawL b x0 y0 j) [] w) : AW p l e room_1 s m args below meth c D A 4 48 1216 Q 768 (lawL b x0 y0 j) [] w := by
  obtain ⟨z, y, w0, w2, rfl, rfl, ⟨R, tk, bg, en, nm, rfl⟩, hw2, rfl⟩ := hw
  obtain ⟨T, K, ik, F, f, n, s1, s2, s3⟩ := G
  obtain ⟨o9, ho9⟩ : ∃ o9, o9 = m_circle (T, K, ik, F, f, n, s1, s2, s3) (xs (j + 1)) := ⟨_, rfl⟩
  have hG2 : gI o9.2 := by rw [ho9]; exact k_circle hG (xs (j + 1))
  obtain ⟨ho, hoK, hp, hpK, hS, hT⟩ := hG
  have hn := ho.n
  refine aw_aload_n C dL_law_768 rfl ?_
  refine awX_arg C hX hbl hbA hL 1 rfl (by omega) dL_law_769 dL_law_770 dL_law_771 dL_law_772 dL_law_773 ?_
  refine aw_gV C (As := [.int (xs (j + 1))]) (rest := []) (c_X4_circle l D cI cC adK adV z T R K ik F f n tk bg en nm s1 s2 s3 (xs (j + 1)) hn) k2_170 cv_X4_circle 3 rfl rfl rfl (gc := [wBa cI z T R K ik F f n tk bg en nm s1 s2 s3]) (gr := [w2]) [0, 1] (fl1 _) rfl 2 rfl (by decide) ⟨by decide, by decide⟩ rfl rfl ⟨by decide, by decide⟩ rfl rfl (by decide) dL_law_774 ?_
  rw [← ho9]
  rintro _ w1 ⟨rfl, h1⟩
  obtain ⟨kr, ar, tk, bg, en, vl, cr, rfl, hk⟩ := hw2
  refine aw_eq (ws' := fl [wMo cI cC y (rowOf T) (kr, ar, ik, F, f, n, tk, bg, en, vl, s1, s2, s3, cr), w1]) rfl rfl (fl_two _ _) ?_
  refine aw_aload_n C dL_law_777 rfl ?_
  refine awX_arg C hX hbl hbA hL 1 rfl (by omega) dL_law_778 dL_law_779 dL_law_780 dL_law_781 dL_law_782 ?_
  refine aw_gV C (As := [.int (xs (j + 1))]) (rest := [.int o9.1]) (c_X5_circle l D cI cC adK adV y T K ik F f n s1 s2 s3 kr ar tk bg en vl cr hk ho (xs (j + 1))) k5_43 cv_X5_circle 4 rfl rfl rfl (gc := [wMo cI cC y (rowOf T) (kr, ar, ik, F, f, n, tk, bg, en, vl, s1, s2, s3, cr)]) (gr := [w1]) [0, 1] (fl1 _) rfl 2 rfl (by decide) ⟨by decide, by decide⟩ rfl rfl ⟨by decide, by decide⟩ rfl rfl (Nat.le_of_ble_eq_true rfl) dL_law_783 ?_
  rw [← ho9]
  rintro _ w2 ⟨rfl, h2⟩
  refine aw_icmp_eq C 1352 dL_law_786 (by decide) (fun _ => ?_) (fun h => absurd rfl h)
  exact k9 o9.2 _ hG2 ⟨z, y, w1, w2, rfl, rfl, h1, h2, fl_two _ _⟩
set_option maxHeartbeats 1000000 in
set_option maxRecDepth 20000 in
theorem lawK_fits (C : aC p s m args c cL_law 4 RL D (tyC cI cC) A adK adV) (hX : va_X b L xs s s.heap) (hbl : b < s.heap.size) (hbA : ¬ A b) (hL : L ≤ 3072) (x0 y0 j : Nat) (hj : j + 6 ≤ L) (G : Sg) (hG : gI G) (w : va_W) (hw : lwW cI cC x0 y0 G w) (k9 : ∀ (G : Sg) (w : va_W), gI G → lwW cI cC x0 y0 G w → AW p l e room_1 s m args below meth c D A 4 48 1216 Q 1352 (lawL b x0 y0 j) [] w) : AW p l e room_1 s m args below meth c D A 4 48 1216 Q 791 (lawL b x0 y0 j) [] w := by
  obtain ⟨z, y, w0, w2, rfl, rfl, ⟨R, tk, bg, en, nm, rfl⟩, hw2, rfl⟩ := hw
  obtain ⟨T, K, ik, F, f, n, s1, s2, s3⟩ := G
  obtain ⟨o9, ho9⟩ : ∃ o9, o9 = m_fits (T, K, ik, F, f, n, s1, s2, s3) (xs (j + 1)) (xs (j + 2)) := ⟨_, rfl⟩
  have hG2 : gI o9.2 := by rw [ho9]; exact k_fits hG (xs (j + 1)) (xs (j + 2))
  obtain ⟨ho, hoK, hp, hpK, hS, hT⟩ := hG
  have hn := ho.n
  refine aw_aload_n C dL_law_791 rfl ?_
  refine awX_arg C hX hbl hbA hL 1 rfl (by omega) dL_law_792 dL_law_793 dL_law_794 dL_law_795 dL_law_796 ?_
  refine awX_arg C hX hbl hbA hL 2 rfl (by omega) dL_law_797 dL_law_798 dL_law_799 dL_law_800 dL_law_801 ?_
  refine aw_gV C (As := [.int (xs (j + 1)), .int (xs (j + 2))]) (rest := []) (c_X4_fits l D cI cC adK adV z T R K ik F f n tk bg en nm s1 s2 s3 (xs (j + 1)) (xs (j + 2)) hn hS) k2_178 cv_X4_fits 3 rfl rfl rfl (gc := [wBa cI z T R K ik F f n tk bg en nm s1 s2 s3]) (gr := [w2]) [0, 1] (fl1 _) rfl 2 rfl (by decide) ⟨by decide, by decide⟩ rfl rfl ⟨by decide, by decide⟩ rfl rfl (by decide) dL_law_802 ?_
  rw [← ho9]
  rintro _ w1 ⟨rfl, h1⟩
  obtain ⟨kr, ar, tk, bg, en, vl, cr, rfl, hk⟩ := hw2
  refine aw_eq (ws' := fl [wMo cI cC y (rowOf T) (kr, ar, ik, F, f, n, tk, bg, en, vl, s1, s2, s3, cr), w1]) rfl rfl (fl_two _ _) ?_
  refine aw_aload_n C dL_law_805 rfl ?_
  refine awX_arg C hX hbl hbA hL 1 rfl (by omega) dL_law_806 dL_law_807 dL_law_808 dL_law_809 dL_law_810 ?_
  refine awX_arg C hX hbl hbA hL 2 rfl (by omega) dL_law_811 dL_law_812 dL_law_813 dL_law_814 dL_law_815 ?_
  refine aw_gV C (As := [.int (xs (j + 1)), .int (xs (j + 2))]) (rest := [.int o9.1]) (c_X5_fits l D cI cC adK adV y T K ik F f n s1 s2 s3 kr ar tk bg en vl cr hk ho (xs (j + 1)) (xs (j + 2)) hS) k5_51 cv_X5_fits 4 rfl rfl rfl (gc := [wMo cI cC y (rowOf T) (kr, ar, ik, F, f, n, tk, bg, en, vl, s1, s2, s3, cr)]) (gr := [w1]) [0, 1] (fl1 _) rfl 2 rfl (by decide) ⟨by decide, by decide⟩ rfl rfl ⟨by decide, by decide⟩ rfl rfl (Nat.le_of_ble_eq_true rfl) dL_law_816 ?_
  rw [← ho9]
  rintro _ w2 ⟨rfl, h2⟩
  refine aw_icmp_eq C 1352 dL_law_819 (by decide) (fun _ => ?_) (fun h => absurd rfl h)
  exact k9 o9.2 _ hG2 ⟨z, y, w1, w2, rfl, rfl, h1, h2, fl_two _ _⟩
set_option maxHeartbeats 1000000 in
set_option maxRecDepth 20000 in
theorem lawK_kinds (C : aC p s m args c cL_law 4 RL D (tyC cI cC) A adK adV) (hX : va_X b L xs s s.heap) (hbl : b < s.heap.size) (hbA : ¬ A b) (hL : L ≤ 3072) (x0 y0 j : Nat) (hj : j + 6 ≤ L) (G : Sg) (hG : gI G) (w : va_W) (hw : lwW cI cC x0 y0 G w) (k9 : ∀ (G : Sg) (w : va_W), gI G → lwW cI cC x0 y0 G w → AW p l e room_1 s m args below meth c D A 4 48 1216 Q 1352 (lawL b x0 y0 j) [] w) : AW p l e room_1 s m args below meth c D A 4 48 1216 Q 824 (lawL b x0 y0 j) [] w := by
  obtain ⟨z, y, w0, w2, rfl, rfl, ⟨R, tk, bg, en, nm, rfl⟩, hw2, rfl⟩ := hw
  obtain ⟨T, K, ik, F, f, n, s1, s2, s3⟩ := G
  obtain ⟨o9, ho9⟩ : ∃ o9, o9 = m_kinds (T, K, ik, F, f, n, s1, s2, s3) (xs (j + 1)) (xs (j + 2)) := ⟨_, rfl⟩
  have hG2 : gI o9.2 := by rw [ho9]; exact k_kinds hG (xs (j + 1)) (xs (j + 2))
  obtain ⟨ho, hoK, hp, hpK, hS, hT⟩ := hG
  have hn := ho.n
  refine aw_aload_n C dL_law_824 rfl ?_
  refine awX_arg C hX hbl hbA hL 1 rfl (by omega) dL_law_825 dL_law_826 dL_law_827 dL_law_828 dL_law_829 ?_
  refine awX_arg C hX hbl hbA hL 2 rfl (by omega) dL_law_830 dL_law_831 dL_law_832 dL_law_833 dL_law_834 ?_
  refine aw_gV C (As := [.int (xs (j + 1)), .int (xs (j + 2))]) (rest := []) (c_X4_kinds l D cI cC adK adV z T R K ik F f n tk bg en nm s1 s2 s3 (xs (j + 1)) (xs (j + 2)) hn hS) k2_202 cv_X4_kinds 3 rfl rfl rfl (gc := [wBa cI z T R K ik F f n tk bg en nm s1 s2 s3]) (gr := [w2]) [0, 1] (fl1 _) rfl 2 rfl (by decide) ⟨by decide, by decide⟩ rfl rfl ⟨by decide, by decide⟩ rfl rfl (by decide) dL_law_835 ?_
  rw [← ho9]
  rintro _ w1 ⟨rfl, h1⟩
  obtain ⟨kr, ar, tk, bg, en, vl, cr, rfl, hk⟩ := hw2
  refine aw_eq (ws' := fl [wMo cI cC y (rowOf T) (kr, ar, ik, F, f, n, tk, bg, en, vl, s1, s2, s3, cr), w1]) rfl rfl (fl_two _ _) ?_
  refine aw_aload_n C dL_law_838 rfl ?_
  refine awX_arg C hX hbl hbA hL 1 rfl (by omega) dL_law_839 dL_law_840 dL_law_841 dL_law_842 dL_law_843 ?_
  refine awX_arg C hX hbl hbA hL 2 rfl (by omega) dL_law_844 dL_law_845 dL_law_846 dL_law_847 dL_law_848 ?_
  refine aw_gV C (As := [.int (xs (j + 1)), .int (xs (j + 2))]) (rest := [.int o9.1]) (c_X5_kinds l D cI cC adK adV y T K ik F f n s1 s2 s3 kr ar tk bg en vl cr hk ho (xs (j + 1)) (xs (j + 2)) hS) k5_74 cv_X5_kinds 4 rfl rfl rfl (gc := [wMo cI cC y (rowOf T) (kr, ar, ik, F, f, n, tk, bg, en, vl, s1, s2, s3, cr)]) (gr := [w1]) [0, 1] (fl1 _) rfl 2 rfl (by decide) ⟨by decide, by decide⟩ rfl rfl ⟨by decide, by decide⟩ rfl rfl (Nat.le_of_ble_eq_true rfl) dL_law_849 ?_
  rw [← ho9]
  rintro _ w2 ⟨rfl, h2⟩
  refine aw_icmp_eq C 1352 dL_law_852 (by decide) (fun _ => ?_) (fun h => absurd rfl h)
  exact k9 o9.2 _ hG2 ⟨z, y, w1, w2, rfl, rfl, h1, h2, fl_two _ _⟩
set_option maxHeartbeats 1000000 in
set_option maxRecDepth 20000 in
theorem lawK_night (C : aC p s m args c cL_law 4 RL D (tyC cI cC) A adK adV) (hX : va_X b L xs s s.heap) (hbl : b < s.heap.size) (hbA : ¬ A b) (hL : L ≤ 3072) (x0 y0 j : Nat) (hj : j + 6 ≤ L) (G : Sg) (hG : gI G) (w : va_W) (hw : lwW cI cC x0 y0 G w) (k9 : ∀ (G : Sg) (w : va_W), gI G → lwW cI cC x0 y0 G w → AW p l e room_1 s m args below meth c D A 4 48 1216 Q 1352 (lawL b x0 y0 j) [] w) : AW p l e room_1 s m args below meth c D A 4 48 1216 Q 857 (lawL b x0 y0 j) [] w := by
  obtain ⟨z, y, w0, w2, rfl, rfl, ⟨R, tk, bg, en, nm, rfl⟩, hw2, rfl⟩ := hw
  obtain ⟨T, K, ik, F, f, n, s1, s2, s3⟩ := G
  obtain ⟨o9, ho9⟩ : ∃ o9, o9 = m_night (T, K, ik, F, f, n, s1, s2, s3) (xs (j + 1)) := ⟨_, rfl⟩
  have hG2 : gI o9.2 := by rw [ho9]; exact k_night hG (xs (j + 1))
  obtain ⟨ho, hoK, hp, hpK, hS, hT⟩ := hG
  have hn := ho.n
  refine aw_aload_n C dL_law_857 rfl ?_
  refine awX_arg C hX hbl hbA hL 1 rfl (by omega) dL_law_858 dL_law_859 dL_law_860 dL_law_861 dL_law_862 ?_
  refine aw_gV C (As := [.int (xs (j + 1))]) (rest := []) (c_X4_night l D cI cC adK adV z T R K ik F f n tk bg en nm s1 s2 s3 (xs (j + 1)) hn) k2_206 cv_X4_night 3 rfl rfl rfl (gc := [wBa cI z T R K ik F f n tk bg en nm s1 s2 s3]) (gr := [w2]) [0, 1] (fl1 _) rfl 2 rfl (by decide) ⟨by decide, by decide⟩ rfl rfl ⟨by decide, by decide⟩ rfl rfl (by decide) dL_law_863 ?_
  rw [← ho9]
  rintro _ w1 ⟨rfl, h1⟩
  obtain ⟨kr, ar, tk, bg, en, vl, cr, rfl, hk⟩ := hw2
  refine aw_eq (ws' := fl [wMo cI cC y (rowOf T) (kr, ar, ik, F, f, n, tk, bg, en, vl, s1, s2, s3, cr), w1]) rfl rfl (fl_two _ _) ?_
  refine aw_aload_n C dL_law_866 rfl ?_
  refine awX_arg C hX hbl hbA hL 1 rfl (by omega) dL_law_867 dL_law_868 dL_law_869 dL_law_870 dL_law_871 ?_
  refine aw_gV C (As := [.int (xs (j + 1))]) (rest := [.int o9.1]) (c_X5_night l D cI cC adK adV y T K ik F f n s1 s2 s3 kr ar tk bg en vl cr hk ho (xs (j + 1))) k5_78 cv_X5_night 4 rfl rfl rfl (gc := [wMo cI cC y (rowOf T) (kr, ar, ik, F, f, n, tk, bg, en, vl, s1, s2, s3, cr)]) (gr := [w1]) [0, 1] (fl1 _) rfl 2 rfl (by decide) ⟨by decide, by decide⟩ rfl rfl ⟨by decide, by decide⟩ rfl rfl (Nat.le_of_ble_eq_true rfl) dL_law_872 ?_
  rw [← ho9]
  rintro _ w2 ⟨rfl, h2⟩
  refine aw_icmp_eq C 1352 dL_law_875 (by decide) (fun _ => ?_) (fun h => absurd rfl h)
  exact k9 o9.2 _ hG2 ⟨z, y, w1, w2, rfl, rfl, h1, h2, fl_two _ _⟩
set_option maxHeartbeats 1000000 in
set_option maxRecDepth 20000 in
theorem lawK_odds (C : aC p s m args c cL_law 4 RL D (tyC cI cC) A adK adV) (hX : va_X b L xs s s.heap) (hbl : b < s.heap.size) (hbA : ¬ A b) (hL : L ≤ 3072) (x0 y0 j : Nat) (hj : j + 6 ≤ L) (G : Sg) (hG : gI G) (w : va_W) (hw : lwW cI cC x0 y0 G w) (k9 : ∀ (G : Sg) (w : va_W), gI G → lwW cI cC x0 y0 G w → AW p l e room_1 s m args below meth c D A 4 48 1216 Q 1352 (lawL b x0 y0 j) [] w) : AW p l e room_1 s m args below meth c D A 4 48 1216 Q 880 (lawL b x0 y0 j) [] w := by
  obtain ⟨z, y, w0, w2, rfl, rfl, ⟨R, tk, bg, en, nm, rfl⟩, hw2, rfl⟩ := hw
  obtain ⟨T, K, ik, F, f, n, s1, s2, s3⟩ := G
  obtain ⟨o9, ho9⟩ : ∃ o9, o9 = m_odds (T, K, ik, F, f, n, s1, s2, s3) (xs (j + 1)) (xs (j + 2)) (xs (j + 3)) := ⟨_, rfl⟩
  have hG2 : gI o9.2 := by rw [ho9]; exact k_odds hG (xs (j + 1)) (xs (j + 2)) (xs (j + 3))
  obtain ⟨ho, hoK, hp, hpK, hS, hT⟩ := hG
  have hn := ho.n
  refine aw_aload_n C dL_law_880 rfl ?_
  refine awX_arg C hX hbl hbA hL 1 rfl (by omega) dL_law_881 dL_law_882 dL_law_883 dL_law_884 dL_law_885 ?_
  refine awX_arg C hX hbl hbA hL 2 rfl (by omega) dL_law_886 dL_law_887 dL_law_888 dL_law_889 dL_law_890 ?_
  refine awX_arg C hX hbl hbA hL 3 rfl (by omega) dL_law_891 dL_law_892 dL_law_893 dL_law_894 dL_law_895 ?_
  refine aw_gV C (As := [.int (xs (j + 1)), .int (xs (j + 2)), .int (xs (j + 3))]) (rest := []) (c_X4_odds l D cI cC adK adV z T R K ik F f n tk bg en nm s1 s2 s3 (xs (j + 1)) (xs (j + 2)) (xs (j + 3)) hn) k2_215 cv_X4_odds 3 rfl rfl rfl (gc := [wBa cI z T R K ik F f n tk bg en nm s1 s2 s3]) (gr := [w2]) [0, 1] (fl1 _) rfl 2 rfl (by decide) ⟨by decide, by decide⟩ rfl rfl ⟨by decide, by decide⟩ rfl rfl (by decide) dL_law_896 ?_
  rw [← ho9]
  rintro _ w1 ⟨rfl, h1⟩
  obtain ⟨kr, ar, tk, bg, en, vl, cr, rfl, hk⟩ := hw2
  refine aw_eq (ws' := fl [wMo cI cC y (rowOf T) (kr, ar, ik, F, f, n, tk, bg, en, vl, s1, s2, s3, cr), w1]) rfl rfl (fl_two _ _) ?_
  refine aw_aload_n C dL_law_899 rfl ?_
  refine awX_arg C hX hbl hbA hL 1 rfl (by omega) dL_law_900 dL_law_901 dL_law_902 dL_law_903 dL_law_904 ?_
  refine awX_arg C hX hbl hbA hL 2 rfl (by omega) dL_law_905 dL_law_906 dL_law_907 dL_law_908 dL_law_909 ?_
  refine awX_arg C hX hbl hbA hL 3 rfl (by omega) dL_law_910 dL_law_911 dL_law_912 dL_law_913 dL_law_914 ?_
  refine aw_gV C (As := [.int (xs (j + 1)), .int (xs (j + 2)), .int (xs (j + 3))]) (rest := [.long o9.1]) (c_X5_odds l D cI cC adK adV y T K ik F f n s1 s2 s3 kr ar tk bg en vl cr hk ho (xs (j + 1)) (xs (j + 2)) (xs (j + 3))) k5_87 cv_X5_odds 4 rfl rfl rfl (gc := [wMo cI cC y (rowOf T) (kr, ar, ik, F, f, n, tk, bg, en, vl, s1, s2, s3, cr)]) (gr := [w1]) [0, 1] (fl1 _) rfl 2 rfl (by decide) ⟨by decide, by decide⟩ rfl rfl ⟨by decide, by decide⟩ rfl rfl (Nat.le_of_ble_eq_true rfl) dL_law_915 ?_
  rw [← ho9]
  rintro _ w2 ⟨rfl, h2⟩
  refine aw_lcmp C dL_law_918 ?_
  refine aw_if_eq C 1352 dL_law_919 (by decide) (fun _ => ?_) (fun h => absurd (lcmp_self _) h)
  exact k9 o9.2 _ hG2 ⟨z, y, w1, w2, rfl, rfl, h1, h2, fl_two _ _⟩
set_option maxHeartbeats 1000000 in
set_option maxRecDepth 20000 in
theorem lawK_seed (C : aC p s m args c cL_law 4 RL D (tyC cI cC) A adK adV) (hX : va_X b L xs s s.heap) (hbl : b < s.heap.size) (hbA : ¬ A b) (hL : L ≤ 3072) (x0 y0 j : Nat) (hj : j + 6 ≤ L) (G : Sg) (hG : gI G) (w : va_W) (hw : lwW cI cC x0 y0 G w) (k9 : ∀ (G : Sg) (w : va_W), gI G → lwW cI cC x0 y0 G w → AW p l e room_1 s m args below meth c D A 4 48 1216 Q 1352 (lawL b x0 y0 j) [] w) : AW p l e room_1 s m args below meth c D A 4 48 1216 Q 924 (lawL b x0 y0 j) [] w := by
  obtain ⟨z, y, w0, w2, rfl, rfl, ⟨R, tk, bg, en, nm, rfl⟩, hw2, rfl⟩ := hw
  obtain ⟨T, K, ik, F, f, n, s1, s2, s3⟩ := G
  obtain ⟨o9, ho9⟩ : ∃ o9, o9 = m_seed (T, K, ik, F, f, n, s1, s2, s3) (xs (j + 1)) := ⟨_, rfl⟩
  have hG2 : gI o9.2 := by rw [ho9]; exact k_seed hG (xs (j + 1))
  obtain ⟨ho, hoK, hp, hpK, hS, hT⟩ := hG
  have hn := ho.n
  refine aw_aload_n C dL_law_924 rfl ?_
  refine awX_arg C hX hbl hbA hL 1 rfl (by omega) dL_law_925 dL_law_926 dL_law_927 dL_law_928 dL_law_929 ?_
  refine aw_gV C (As := [.int (xs (j + 1))]) (rest := []) (c_X4_seed l D cI cC adK adV z T R K ik F f n tk bg en nm s1 s2 s3 (xs (j + 1))) k2_226 cv_X4_seed 3 rfl rfl rfl (gc := [wBa cI z T R K ik F f n tk bg en nm s1 s2 s3]) (gr := [w2]) [0, 1] (fl1 _) rfl 2 rfl (by decide) ⟨by decide, by decide⟩ rfl rfl ⟨by decide, by decide⟩ rfl rfl (by decide) dL_law_930 ?_
  rw [← ho9]
  rintro _ w1 ⟨rfl, h1⟩
  obtain ⟨kr, ar, tk, bg, en, vl, cr, rfl, hk⟩ := hw2
  refine aw_eq (ws' := fl [wMo cI cC y (rowOf T) (kr, ar, ik, F, f, n, tk, bg, en, vl, s1, s2, s3, cr), w1]) rfl rfl (fl_two _ _) ?_
  refine aw_aload_n C dL_law_933 rfl ?_
  refine awX_arg C hX hbl hbA hL 1 rfl (by omega) dL_law_934 dL_law_935 dL_law_936 dL_law_937 dL_law_938 ?_
  refine aw_gV C (As := [.int (xs (j + 1))]) (rest := [.int o9.1]) (c_X5_seed l D cI cC adK adV y T K ik F f n s1 s2 s3 kr ar tk bg en vl cr hk ho (xs (j + 1))) k5_92 cv_X5_seed 4 rfl rfl rfl (gc := [wMo cI cC y (rowOf T) (kr, ar, ik, F, f, n, tk, bg, en, vl, s1, s2, s3, cr)]) (gr := [w1]) [0, 1] (fl1 _) rfl 2 rfl (by decide) ⟨by decide, by decide⟩ rfl rfl ⟨by decide, by decide⟩ rfl rfl (Nat.le_of_ble_eq_true rfl) dL_law_939 ?_
  rw [← ho9]
  rintro _ w2 ⟨rfl, h2⟩
  refine aw_icmp_eq C 1352 dL_law_942 (by decide) (fun _ => ?_) (fun h => absurd rfl h)
  exact k9 o9.2 _ hG2 ⟨z, y, w1, w2, rfl, rfl, h1, h2, fl_two _ _⟩
set_option maxHeartbeats 1000000 in
set_option maxRecDepth 20000 in
theorem lawK_feed (C : aC p s m args c cL_law 4 RL D (tyC cI cC) A adK adV) (hX : va_X b L xs s s.heap) (hbl : b < s.heap.size) (hbA : ¬ A b) (hL : L ≤ 3072) (x0 y0 j : Nat) (hj : j + 6 ≤ L) (G : Sg) (hG : gI G) (w : va_W) (hw : lwW cI cC x0 y0 G w) (k9 : ∀ (G : Sg) (w : va_W), gI G → lwW cI cC x0 y0 G w → AW p l e room_1 s m args below meth c D A 4 48 1216 Q 1352 (lawL b x0 y0 j) [] w) : AW p l e room_1 s m args below meth c D A 4 48 1216 Q 947 (lawL b x0 y0 j) [] w := by
  obtain ⟨z, y, w0, w2, rfl, rfl, ⟨R, tk, bg, en, nm, rfl⟩, hw2, rfl⟩ := hw
  obtain ⟨T, K, ik, F, f, n, s1, s2, s3⟩ := G
  obtain ⟨o9, ho9⟩ : ∃ o9, o9 = m_feed (T, K, ik, F, f, n, s1, s2, s3) (xs (j + 1)) (xs (j + 2)) := ⟨_, rfl⟩
  have hG2 : gI o9.2 := by rw [ho9]; exact k_feed hG (xs (j + 1)) (xs (j + 2))
  obtain ⟨ho, hoK, hp, hpK, hS, hT⟩ := hG
  have hn := ho.n
  refine aw_aload_n C dL_law_947 rfl ?_
  refine awX_arg C hX hbl hbA hL 1 rfl (by omega) dL_law_948 dL_law_949 dL_law_950 dL_law_951 dL_law_952 ?_
  refine awX_arg C hX hbl hbA hL 2 rfl (by omega) dL_law_953 dL_law_954 dL_law_955 dL_law_956 dL_law_957 ?_
  refine aw_gV C (As := [.int (xs (j + 1)), .int (xs (j + 2))]) (rest := []) (c_X4_feed l D cI cC adK adV z T R K ik F f n tk bg en nm s1 s2 s3 (xs (j + 1)) (xs (j + 2)) hT) k2_230 cv_X4_feed 3 rfl rfl rfl (gc := [wBa cI z T R K ik F f n tk bg en nm s1 s2 s3]) (gr := [w2]) [0, 1] (fl1 _) rfl 2 rfl (by decide) ⟨by decide, by decide⟩ rfl rfl ⟨by decide, by decide⟩ rfl rfl (by decide) dL_law_958 ?_
  rw [← ho9]
  rintro _ w1 ⟨rfl, h1⟩
  obtain ⟨kr, ar, tk, bg, en, vl, cr, rfl, hk⟩ := hw2
  refine aw_eq (ws' := fl [wMo cI cC y (rowOf T) (kr, ar, ik, F, f, n, tk, bg, en, vl, s1, s2, s3, cr), w1]) rfl rfl (fl_two _ _) ?_
  refine aw_aload_n C dL_law_961 rfl ?_
  refine awX_arg C hX hbl hbA hL 1 rfl (by omega) dL_law_962 dL_law_963 dL_law_964 dL_law_965 dL_law_966 ?_
  refine awX_arg C hX hbl hbA hL 2 rfl (by omega) dL_law_967 dL_law_968 dL_law_969 dL_law_970 dL_law_971 ?_
  refine aw_gV C (As := [.int (xs (j + 1)), .int (xs (j + 2))]) (rest := [.int o9.1]) (c_X5_feed l D cI cC adK adV y T K ik F f n s1 s2 s3 kr ar tk bg en vl cr hk ho (xs (j + 1)) (xs (j + 2)) hT) k5_96 cv_X5_feed 4 rfl rfl rfl (gc := [wMo cI cC y (rowOf T) (kr, ar, ik, F, f, n, tk, bg, en, vl, s1, s2, s3, cr)]) (gr := [w1]) [0, 1] (fl1 _) rfl 2 rfl (by decide) ⟨by decide, by decide⟩ rfl rfl ⟨by decide, by decide⟩ rfl rfl (Nat.le_of_ble_eq_true rfl) dL_law_972 ?_
  rw [← ho9]
  rintro _ w2 ⟨rfl, h2⟩
  refine aw_icmp_eq C 1352 dL_law_975 (by decide) (fun _ => ?_) (fun h => absurd rfl h)
  exact k9 o9.2 _ hG2 ⟨z, y, w1, w2, rfl, rfl, h1, h2, fl_two _ _⟩
set_option maxHeartbeats 1000000 in
set_option maxRecDepth 20000 in
theorem lawK_wipe (C : aC p s m args c cL_law 4 RL D (tyC cI cC) A adK adV) (hX : va_X b L xs s s.heap) (hbl : b < s.heap.size) (hbA : ¬ A b) (hL : L ≤ 3072) (x0 y0 j : Nat) (hj : j + 6 ≤ L) (G : Sg) (hG : gI G) (w : va_W) (hw : lwW cI cC x0 y0 G w) (k9 : ∀ (G : Sg) (w : va_W), gI G → lwW cI cC x0 y0 G w → AW p l e room_1 s m args below meth c D A 4 48 1216 Q 1352 (lawL b x0 y0 j) [] w) : AW p l e room_1 s m args below meth c D A 4 48 1216 Q 980 (lawL b x0 y0 j) [] w := by
  obtain ⟨z, y, w0, w2, rfl, rfl, ⟨R, tk, bg, en, nm, rfl⟩, hw2, rfl⟩ := hw
  obtain ⟨T, K, ik, F, f, n, s1, s2, s3⟩ := G
  obtain ⟨o9, ho9⟩ : ∃ o9, o9 = m_wipe (T, K, ik, F, f, n, s1, s2, s3) := ⟨_, rfl⟩
  have hG2 : gI o9.2 := by rw [ho9]; exact k_wipe hG
  obtain ⟨ho, hoK, hp, hpK, hS, hT⟩ := hG
  have hn := ho.n
  refine aw_aload_n C dL_law_980 rfl ?_
  refine aw_gV C (As := []) (rest := []) (c_X4_wipe l D cI cC adK adV z T R K ik F f n tk bg en nm s1 s2 s3 ) k3_6 cv_X4_wipe 3 rfl rfl rfl (gc := [wBa cI z T R K ik F f n tk bg en nm s1 s2 s3]) (gr := [w2]) [0, 1] (fl1 _) rfl 2 rfl (by decide) ⟨by decide, by decide⟩ rfl rfl ⟨by decide, by decide⟩ rfl rfl (by decide) dL_law_981 ?_
  rw [← ho9]
  rintro _ w1 ⟨rfl, h1⟩
  obtain ⟨kr, ar, tk, bg, en, vl, cr, rfl, hk⟩ := hw2
  refine aw_eq (ws' := fl [wMo cI cC y (rowOf T) (kr, ar, ik, F, f, n, tk, bg, en, vl, s1, s2, s3, cr), w1]) rfl rfl (fl_two _ _) ?_
  refine aw_aload_n C dL_law_984 rfl ?_
  refine aw_gV C (As := []) (rest := [.int o9.1]) (c_X5_wipe l D cI cC adK adV y T K ik F f n s1 s2 s3 kr ar tk bg en vl cr hk ho) k5_100 cv_X5_wipe 4 rfl rfl rfl (gc := [wMo cI cC y (rowOf T) (kr, ar, ik, F, f, n, tk, bg, en, vl, s1, s2, s3, cr)]) (gr := [w1]) [0, 1] (fl1 _) rfl 2 rfl (by decide) ⟨by decide, by decide⟩ rfl rfl ⟨by decide, by decide⟩ rfl rfl (Nat.le_of_ble_eq_true rfl) dL_law_985 ?_
  rw [← ho9]
  rintro _ w2 ⟨rfl, h2⟩
  refine aw_icmp_eq C 1352 dL_law_988 (by decide) (fun _ => ?_) (fun h => absurd rfl h)
  exact k9 o9.2 _ hG2 ⟨z, y, w1, w2, rfl, rfl, h1, h2, fl_two _ _⟩
set_option maxHeartbeats 1000000 in
set_option maxRecDepth 20000 in
theorem lawK_text (C : aC p s m args c cL_law 4 RL D (tyC cI cC) A adK adV) (hX : va_X b L xs s s.heap) (hbl : b < s.heap.size) (hbA : ¬ A b) (hL : L ≤ 3072) (x0 y0 j : Nat) (hj : j + 6 ≤ L) (G : Sg) (hG : gI G) (w : va_W) (hw : lwW cI cC x0 y0 G w) (k9 : ∀ (G : Sg) (w : va_W), gI G → lwW cI cC x0 y0 G w → AW p l e room_1 s m args below meth c D A 4 48 1216 Q 1352 (lawL b x0 y0 j) [] w) : AW p l e room_1 s m args below meth c D A 4 48 1216 Q 993 (lawL b x0 y0 j) [] w := by
  obtain ⟨z, y, w0, w2, rfl, rfl, ⟨R, tk, bg, en, nm, rfl⟩, hw2, rfl⟩ := hw
  obtain ⟨T, K, ik, F, f, n, s1, s2, s3⟩ := G
  obtain ⟨o9, ho9⟩ : ∃ o9, o9 = m_text (T, K, ik, F, f, n, s1, s2, s3) := ⟨_, rfl⟩
  have hG2 : gI o9.2 := by rw [ho9]; exact k_text hG
  obtain ⟨ho, hoK, hp, hpK, hS, hT⟩ := hG
  have hn := ho.n
  refine aw_aload_n C dL_law_993 rfl ?_
  refine aw_gV C (As := []) (rest := []) (c_X4_text l D cI cC adK adV z T R K ik F f n tk bg en nm s1 s2 s3 hn hT) k3_14 cv_X4_text 3 rfl rfl rfl (gc := [wBa cI z T R K ik F f n tk bg en nm s1 s2 s3]) (gr := [w2]) [0, 1] (fl1 _) rfl 2 rfl (by decide) ⟨by decide, by decide⟩ rfl rfl ⟨by decide, by decide⟩ rfl rfl (by decide) dL_law_994 ?_
  rw [← ho9]
  rintro _ w1 ⟨rfl, h1⟩
  obtain ⟨kr, ar, tk, bg, en, vl, cr, rfl, hk⟩ := hw2
  refine aw_eq (ws' := fl [wMo cI cC y (rowOf T) (kr, ar, ik, F, f, n, tk, bg, en, vl, s1, s2, s3, cr), w1]) rfl rfl (fl_two _ _) ?_
  refine aw_aload_n C dL_law_997 rfl ?_
  refine aw_gV C (As := []) (rest := [.int o9.1]) (c_X5_text l D cI cC adK adV y T K ik F f n s1 s2 s3 kr ar tk bg en vl cr hk ho hT) k5_104 cv_X5_text 4 rfl rfl rfl (gc := [wMo cI cC y (rowOf T) (kr, ar, ik, F, f, n, tk, bg, en, vl, s1, s2, s3, cr)]) (gr := [w1]) [0, 1] (fl1 _) rfl 2 rfl (by decide) ⟨by decide, by decide⟩ rfl rfl ⟨by decide, by decide⟩ rfl rfl (Nat.le_of_ble_eq_true rfl) dL_law_998 ?_
  rw [← ho9]
  rintro _ w2 ⟨rfl, h2⟩
  refine aw_icmp_eq C 1352 dL_law_1001 (by decide) (fun _ => ?_) (fun h => absurd rfl h)
  exact k9 o9.2 _ hG2 ⟨z, y, w1, w2, rfl, rfl, h1, h2, fl_two _ _⟩
set_option maxHeartbeats 1000000 in
set_option maxRecDepth 20000 in
theorem lawK_hold (C : aC p s m args c cL_law 4 RL D (tyC cI cC) A adK adV) (hX : va_X b L xs s s.heap) (hbl : b < s.heap.size) (hbA : ¬ A b) (hL : L ≤ 3072) (x0 y0 j : Nat) (hj : j + 6 ≤ L) (G : Sg) (hG : gI G) (w : va_W) (hw : lwW cI cC x0 y0 G w) (k9 : ∀ (G : Sg) (w : va_W), gI G → lwW cI cC x0 y0 G w → AW p l e room_1 s m args below meth c D A 4 48 1216 Q 1352 (lawL b x0 y0 j) [] w) : AW p l e room_1 s m args below meth c D A 4 48 1216 Q 1006 (lawL b x0 y0 j) [] w := by
  obtain ⟨z, y, w0, w2, rfl, rfl, ⟨R, tk, bg, en, nm, rfl⟩, hw2, rfl⟩ := hw
  obtain ⟨T, K, ik, F, f, n, s1, s2, s3⟩ := G
  obtain ⟨o9, ho9⟩ : ∃ o9, o9 = m_hold (T, K, ik, F, f, n, s1, s2, s3) (xs (j + 1)) (xs (j + 2)) := ⟨_, rfl⟩
  have hG2 : gI o9.2 := by rw [ho9]; exact k_hold hG (xs (j + 1)) (xs (j + 2))
  obtain ⟨ho, hoK, hp, hpK, hS, hT⟩ := hG
  have hn := ho.n
  refine aw_aload_n C dL_law_1006 rfl ?_
  refine awX_arg C hX hbl hbA hL 1 rfl (by omega) dL_law_1007 dL_law_1008 dL_law_1009 dL_law_1010 dL_law_1011 ?_
  refine awX_arg C hX hbl hbA hL 2 rfl (by omega) dL_law_1012 dL_law_1013 dL_law_1014 dL_law_1015 dL_law_1016 ?_
  refine aw_gV C (As := [.int (xs (j + 1)), .int (xs (j + 2))]) (rest := []) (c_X4_hold l D cI cC adK adV z T R K ik F f n tk bg en nm s1 s2 s3 (xs (j + 1)) (xs (j + 2))) k3_139 cv_X4_hold 3 rfl rfl rfl (gc := [wBa cI z T R K ik F f n tk bg en nm s1 s2 s3]) (gr := [w2]) [0, 1] (fl1 _) rfl 2 rfl (by decide) ⟨by decide, by decide⟩ rfl rfl ⟨by decide, by decide⟩ rfl rfl (by decide) dL_law_1017 ?_
  rw [← ho9]
  rintro _ w1 ⟨rfl, h1⟩
  obtain ⟨kr, ar, tk, bg, en, vl, cr, rfl, hk⟩ := hw2
  refine aw_eq (ws' := fl [wMo cI cC y (rowOf T) (kr, ar, ik, F, f, n, tk, bg, en, vl, s1, s2, s3, cr), w1]) rfl rfl (fl_two _ _) ?_
  refine aw_aload_n C dL_law_1020 rfl ?_
  refine awX_arg C hX hbl hbA hL 1 rfl (by omega) dL_law_1021 dL_law_1022 dL_law_1023 dL_law_1024 dL_law_1025 ?_
  refine awX_arg C hX hbl hbA hL 2 rfl (by omega) dL_law_1026 dL_law_1027 dL_law_1028 dL_law_1029 dL_law_1030 ?_
  refine aw_gV C (As := [.int (xs (j + 1)), .int (xs (j + 2))]) (rest := [.int o9.1]) (c_X5_hold l D cI cC adK adV y T K ik F f n s1 s2 s3 kr ar tk bg en vl cr hk ho (xs (j + 1)) (xs (j + 2))) k5_144 cv_X5_hold 4 rfl rfl rfl (gc := [wMo cI cC y (rowOf T) (kr, ar, ik, F, f, n, tk, bg, en, vl, s1, s2, s3, cr)]) (gr := [w1]) [0, 1] (fl1 _) rfl 2 rfl (by decide) ⟨by decide, by decide⟩ rfl rfl ⟨by decide, by decide⟩ rfl rfl (Nat.le_of_ble_eq_true rfl) dL_law_1031 ?_
  rw [← ho9]
  rintro _ w2 ⟨rfl, h2⟩
  refine aw_icmp_eq C 1352 dL_law_1034 (by decide) (fun _ => ?_) (fun h => absurd rfl h)
  exact k9 o9.2 _ hG2 ⟨z, y, w1, w2, rfl, rfl, h1, h2, fl_two _ _⟩
set_option maxHeartbeats 1000000 in
set_option maxRecDepth 20000 in
theorem lawK_as (C : aC p s m args c cL_law 4 RL D (tyC cI cC) A adK adV) (hX : va_X b L xs s s.heap) (hbl : b < s.heap.size) (hbA : ¬ A b) (hL : L ≤ 3072) (x0 y0 j : Nat) (hj : j + 6 ≤ L) (G : Sg) (hG : gI G) (w : va_W) (hw : lwW cI cC x0 y0 G w) (k9 : ∀ (G : Sg) (w : va_W), gI G → lwW cI cC x0 y0 G w → AW p l e room_1 s m args below meth c D A 4 48 1216 Q 1352 (lawL b x0 y0 j) [] w) : AW p l e room_1 s m args below meth c D A 4 48 1216 Q 1039 (lawL b x0 y0 j) [] w := by
  obtain ⟨z, y, w0, w2, rfl, rfl, ⟨R, tk, bg, en, nm, rfl⟩, hw2, rfl⟩ := hw
  obtain ⟨T, K, ik, F, f, n, s1, s2, s3⟩ := G
  obtain ⟨o9, ho9⟩ : ∃ o9, o9 = m_as (T, K, ik, F, f, n, s1, s2, s3) (xs (j + 1)) (xs (j + 2)) := ⟨_, rfl⟩
  have hG2 : gI o9.2 := by rw [ho9]; exact k_as hG (xs (j + 1)) (xs (j + 2))
  obtain ⟨ho, hoK, hp, hpK, hS, hT⟩ := hG
  have hn := ho.n
  refine aw_aload_n C dL_law_1039 rfl ?_
  refine awX_arg C hX hbl hbA hL 1 rfl (by omega) dL_law_1040 dL_law_1041 dL_law_1042 dL_law_1043 dL_law_1044 ?_
  refine awX_arg C hX hbl hbA hL 2 rfl (by omega) dL_law_1045 dL_law_1046 dL_law_1047 dL_law_1048 dL_law_1049 ?_
  refine aw_gV C (As := [.int (xs (j + 1)), .int (xs (j + 2))]) (rest := []) (c_X4_as l D cI cC adK adV z T R K ik F f n tk bg en nm s1 s2 s3 (xs (j + 1)) (xs (j + 2)) hn) k3_143 cv_X4_as 3 rfl rfl rfl (gc := [wBa cI z T R K ik F f n tk bg en nm s1 s2 s3]) (gr := [w2]) [0, 1] (fl1 _) rfl 2 rfl (by decide) ⟨by decide, by decide⟩ rfl rfl ⟨by decide, by decide⟩ rfl rfl (by decide) dL_law_1050 ?_
  rw [← ho9]
  rintro _ w1 ⟨rfl, h1⟩
  obtain ⟨kr, ar, tk, bg, en, vl, cr, rfl, hk⟩ := hw2
  refine aw_eq (ws' := fl [wMo cI cC y (rowOf T) (kr, ar, ik, F, f, n, tk, bg, en, vl, s1, s2, s3, cr), w1]) rfl rfl (fl_two _ _) ?_
  refine aw_aload_n C dL_law_1053 rfl ?_
  refine awX_arg C hX hbl hbA hL 1 rfl (by omega) dL_law_1054 dL_law_1055 dL_law_1056 dL_law_1057 dL_law_1058 ?_
  refine awX_arg C hX hbl hbA hL 2 rfl (by omega) dL_law_1059 dL_law_1060 dL_law_1061 dL_law_1062 dL_law_1063 ?_
  refine aw_gV C (As := [.int (xs (j + 1)), .int (xs (j + 2))]) (rest := [.int o9.1]) (c_X5_as l D cI cC adK adV y T K ik F f n s1 s2 s3 kr ar tk bg en vl cr hk ho (xs (j + 1)) (xs (j + 2)) hp) k5_151 cv_X5_as 4 rfl rfl rfl (gc := [wMo cI cC y (rowOf T) (kr, ar, ik, F, f, n, tk, bg, en, vl, s1, s2, s3, cr)]) (gr := [w1]) [0, 1] (fl1 _) rfl 2 rfl (by decide) ⟨by decide, by decide⟩ rfl rfl ⟨by decide, by decide⟩ rfl rfl (Nat.le_of_ble_eq_true rfl) dL_law_1064 ?_
  rw [← ho9]
  rintro _ w2 ⟨rfl, h2⟩
  refine aw_icmp_eq C 1352 dL_law_1067 (by decide) (fun _ => ?_) (fun h => absurd rfl h)
  exact k9 o9.2 _ hG2 ⟨z, y, w1, w2, rfl, rfl, h1, h2, fl_two _ _⟩
set_option maxHeartbeats 1000000 in
set_option maxRecDepth 20000 in
theorem lawK_sheet (C : aC p s m args c cL_law 4 RL D (tyC cI cC) A adK adV) (hX : va_X b L xs s s.heap) (hbl : b < s.heap.size) (hbA : ¬ A b) (hL : L ≤ 3072) (x0 y0 j : Nat) (hj : j + 6 ≤ L) (G : Sg) (hG : gI G) (w : va_W) (hw : lwW cI cC x0 y0 G w) (k9 : ∀ (G : Sg) (w : va_W), gI G → lwW cI cC x0 y0 G w → AW p l e room_1 s m args below meth c D A 4 48 1216 Q 1352 (lawL b x0 y0 j) [] w) : AW p l e room_1 s m args below meth c D A 4 48 1216 Q 1072 (lawL b x0 y0 j) [] w := by
  obtain ⟨z, y, w0, w2, rfl, rfl, ⟨R, tk, bg, en, nm, rfl⟩, hw2, rfl⟩ := hw
  obtain ⟨T, K, ik, F, f, n, s1, s2, s3⟩ := G
  obtain ⟨o9, ho9⟩ : ∃ o9, o9 = m_sheet (T, K, ik, F, f, n, s1, s2, s3) (xs (j + 1)) (xs (j + 2)) (xs (j + 3)) := ⟨_, rfl⟩
  have hG2 : gI o9.2 := by rw [ho9]; exact k_sheet hG (xs (j + 1)) (xs (j + 2)) (xs (j + 3))
  obtain ⟨ho, hoK, hp, hpK, hS, hT⟩ := hG
  have hn := ho.n
  refine aw_aload_n C dL_law_1072 rfl ?_
  refine awX_arg C hX hbl hbA hL 1 rfl (by omega) dL_law_1073 dL_law_1074 dL_law_1075 dL_law_1076 dL_law_1077 ?_
  refine awX_arg C hX hbl hbA hL 2 rfl (by omega) dL_law_1078 dL_law_1079 dL_law_1080 dL_law_1081 dL_law_1082 ?_
  refine awX_arg C hX hbl hbA hL 3 rfl (by omega) dL_law_1083 dL_law_1084 dL_law_1085 dL_law_1086 dL_law_1087 ?_
  refine aw_gV C (As := [.int (xs (j + 1)), .int (xs (j + 2)), .int (xs (j + 3))]) (rest := []) (c_X4_sheet l D cI cC adK adV z T R K ik F f n tk bg en nm s1 s2 s3 (xs (j + 1)) (xs (j + 2)) (xs (j + 3))) k3_153 cv_X4_sheet 3 rfl rfl rfl (gc := [wBa cI z T R K ik F f n tk bg en nm s1 s2 s3]) (gr := [w2]) [0, 1] (fl1 _) rfl 2 rfl (by decide) ⟨by decide, by decide⟩ rfl rfl ⟨by decide, by decide⟩ rfl rfl (by decide) dL_law_1088 ?_
  rw [← ho9]
  rintro _ w1 ⟨rfl, h1⟩
  obtain ⟨kr, ar, tk, bg, en, vl, cr, rfl, hk⟩ := hw2
  refine aw_eq (ws' := fl [wMo cI cC y (rowOf T) (kr, ar, ik, F, f, n, tk, bg, en, vl, s1, s2, s3, cr), w1]) rfl rfl (fl_two _ _) ?_
  refine aw_aload_n C dL_law_1091 rfl ?_
  refine awX_arg C hX hbl hbA hL 1 rfl (by omega) dL_law_1092 dL_law_1093 dL_law_1094 dL_law_1095 dL_law_1096 ?_
  refine awX_arg C hX hbl hbA hL 2 rfl (by omega) dL_law_1097 dL_law_1098 dL_law_1099 dL_law_1100 dL_law_1101 ?_
  refine awX_arg C hX hbl hbA hL 3 rfl (by omega) dL_law_1102 dL_law_1103 dL_law_1104 dL_law_1105 dL_law_1106 ?_
  refine aw_gV C (As := [.int (xs (j + 1)), .int (xs (j + 2)), .int (xs (j + 3))]) (rest := [.int o9.1]) (c_X5_sheet l D cI cC adK adV y T K ik F f n s1 s2 s3 kr ar tk bg en vl cr hk ho (xs (j + 1)) (xs (j + 2)) (xs (j + 3))) k5_158 cv_X5_sheet 4 rfl rfl rfl (gc := [wMo cI cC y (rowOf T) (kr, ar, ik, F, f, n, tk, bg, en, vl, s1, s2, s3, cr)]) (gr := [w1]) [0, 1] (fl1 _) rfl 2 rfl (by decide) ⟨by decide, by decide⟩ rfl rfl ⟨by decide, by decide⟩ rfl rfl (Nat.le_of_ble_eq_true rfl) dL_law_1107 ?_
  rw [← ho9]
  rintro _ w2 ⟨rfl, h2⟩
  refine aw_icmp_eq C 1352 dL_law_1110 (by decide) (fun _ => ?_) (fun h => absurd rfl h)
  exact k9 o9.2 _ hG2 ⟨z, y, w1, w2, rfl, rfl, h1, h2, fl_two _ _⟩
set_option maxHeartbeats 1000000 in
set_option maxRecDepth 20000 in
theorem lawK_write (C : aC p s m args c cL_law 4 RL D (tyC cI cC) A adK adV) (hX : va_X b L xs s s.heap) (hbl : b < s.heap.size) (hbA : ¬ A b) (hL : L ≤ 3072) (x0 y0 j : Nat) (hj : j + 6 ≤ L) (G : Sg) (hG : gI G) (w : va_W) (hw : lwW cI cC x0 y0 G w) (k9 : ∀ (G : Sg) (w : va_W), gI G → lwW cI cC x0 y0 G w → AW p l e room_1 s m args below meth c D A 4 48 1216 Q 1352 (lawL b x0 y0 j) [] w) : AW p l e room_1 s m args below meth c D A 4 48 1216 Q 1115 (lawL b x0 y0 j) [] w := by
  obtain ⟨z, y, w0, w2, rfl, rfl, ⟨R, tk, bg, en, nm, rfl⟩, hw2, rfl⟩ := hw
  obtain ⟨T, K, ik, F, f, n, s1, s2, s3⟩ := G
  obtain ⟨o9, ho9⟩ : ∃ o9, o9 = m_write (T, K, ik, F, f, n, s1, s2, s3) (xs (j + 1)) (xs (j + 2)) (xs (j + 3)) := ⟨_, rfl⟩
  have hG2 : gI o9.2 := by rw [ho9]; exact k_write hG (xs (j + 1)) (xs (j + 2)) (xs (j + 3))
  obtain ⟨ho, hoK, hp, hpK, hS, hT⟩ := hG
  have hn := ho.n
  refine aw_aload_n C dL_law_1115 rfl ?_
  refine awX_arg C hX hbl hbA hL 1 rfl (by omega) dL_law_1116 dL_law_1117 dL_law_1118 dL_law_1119 dL_law_1120 ?_
  refine awX_arg C hX hbl hbA hL 2 rfl (by omega) dL_law_1121 dL_law_1122 dL_law_1123 dL_law_1124 dL_law_1125 ?_
  refine awX_arg C hX hbl hbA hL 3 rfl (by omega) dL_law_1126 dL_law_1127 dL_law_1128 dL_law_1129 dL_law_1130 ?_
  refine aw_gV C (As := [.int (xs (j + 1)), .int (xs (j + 2)), .int (xs (j + 3))]) (rest := []) (c_X4_write l D cI cC adK adV z T R K ik F f n tk bg en nm s1 s2 s3 (xs (j + 1)) (xs (j + 2)) (xs (j + 3)) hS) k3_167 cv_X4_write 3 rfl rfl rfl (gc := [wBa cI z T R K ik F f n tk bg en nm s1 s2 s3]) (gr := [w2]) [0, 1] (fl1 _) rfl 2 rfl (by decide) ⟨by decide, by decide⟩ rfl rfl ⟨by decide, by decide⟩ rfl rfl (by decide) dL_law_1131 ?_
  rw [← ho9]
  rintro _ w1 ⟨rfl, h1⟩
  obtain ⟨kr, ar, tk, bg, en, vl, cr, rfl, hk⟩ := hw2
  refine aw_eq (ws' := fl [wMo cI cC y (rowOf T) (kr, ar, ik, F, f, n, tk, bg, en, vl, s1, s2, s3, cr), w1]) rfl rfl (fl_two _ _) ?_
  refine aw_aload_n C dL_law_1134 rfl ?_
  refine awX_arg C hX hbl hbA hL 1 rfl (by omega) dL_law_1135 dL_law_1136 dL_law_1137 dL_law_1138 dL_law_1139 ?_
  refine awX_arg C hX hbl hbA hL 2 rfl (by omega) dL_law_1140 dL_law_1141 dL_law_1142 dL_law_1143 dL_law_1144 ?_
  refine awX_arg C hX hbl hbA hL 3 rfl (by omega) dL_law_1145 dL_law_1146 dL_law_1147 dL_law_1148 dL_law_1149 ?_
  refine aw_gV C (As := [.int (xs (j + 1)), .int (xs (j + 2)), .int (xs (j + 3))]) (rest := [.int o9.1]) (c_X5_write l D cI cC adK adV y T K ik F f n s1 s2 s3 kr ar tk bg en vl cr hk ho (xs (j + 1)) (xs (j + 2)) (xs (j + 3)) hS) k5_162 cv_X5_write 4 rfl rfl rfl (gc := [wMo cI cC y (rowOf T) (kr, ar, ik, F, f, n, tk, bg, en, vl, s1, s2, s3, cr)]) (gr := [w1]) [0, 1] (fl1 _) rfl 2 rfl (by decide) ⟨by decide, by decide⟩ rfl rfl ⟨by decide, by decide⟩ rfl rfl (Nat.le_of_ble_eq_true rfl) dL_law_1150 ?_
  rw [← ho9]
  rintro _ w2 ⟨rfl, h2⟩
  refine aw_icmp_eq C 1352 dL_law_1153 (by decide) (fun _ => ?_) (fun h => absurd rfl h)
  exact k9 o9.2 _ hG2 ⟨z, y, w1, w2, rfl, rfl, h1, h2, fl_two _ _⟩
set_option maxHeartbeats 1000000 in
set_option maxRecDepth 20000 in
theorem lawK_copy (C : aC p s m args c cL_law 4 RL D (tyC cI cC) A adK adV) (hX : va_X b L xs s s.heap) (hbl : b < s.heap.size) (hbA : ¬ A b) (hL : L ≤ 3072) (x0 y0 j : Nat) (hj : j + 6 ≤ L) (G : Sg) (hG : gI G) (w : va_W) (hw : lwW cI cC x0 y0 G w) (k9 : ∀ (G : Sg) (w : va_W), gI G → lwW cI cC x0 y0 G w → AW p l e room_1 s m args below meth c D A 4 48 1216 Q 1352 (lawL b x0 y0 j) [] w) : AW p l e room_1 s m args below meth c D A 4 48 1216 Q 1158 (lawL b x0 y0 j) [] w := by
  obtain ⟨z, y, w0, w2, rfl, rfl, ⟨R, tk, bg, en, nm, rfl⟩, hw2, rfl⟩ := hw
  obtain ⟨T, K, ik, F, f, n, s1, s2, s3⟩ := G
  obtain ⟨o9, ho9⟩ : ∃ o9, o9 = m_copy (T, K, ik, F, f, n, s1, s2, s3) (xs (j + 1)) (xs (j + 2)) (xs (j + 3)) (xs (j + 4)) (xs (j + 5)) := ⟨_, rfl⟩
  have hG2 : gI o9.2 := by rw [ho9]; exact k_copy hG (xs (j + 1)) (xs (j + 2)) (xs (j + 3)) (xs (j + 4)) (xs (j + 5))
  obtain ⟨ho, hoK, hp, hpK, hS, hT⟩ := hG
  have hn := ho.n
  refine aw_aload_n C dL_law_1158 rfl ?_
  refine awX_arg C hX hbl hbA hL 1 rfl (by omega) dL_law_1159 dL_law_1160 dL_law_1161 dL_law_1162 dL_law_1163 ?_
  refine awX_arg C hX hbl hbA hL 2 rfl (by omega) dL_law_1164 dL_law_1165 dL_law_1166 dL_law_1167 dL_law_1168 ?_
  refine awX_arg C hX hbl hbA hL 3 rfl (by omega) dL_law_1169 dL_law_1170 dL_law_1171 dL_law_1172 dL_law_1173 ?_
  refine awX_arg C hX hbl hbA hL 4 rfl (by omega) dL_law_1174 dL_law_1175 dL_law_1176 dL_law_1177 dL_law_1178 ?_
  refine awX_arg C hX hbl hbA hL 5 rfl (by omega) dL_law_1179 dL_law_1180 dL_law_1181 dL_law_1182 dL_law_1183 ?_
  refine aw_gV C (As := [.int (xs (j + 1)), .int (xs (j + 2)), .int (xs (j + 3)), .int (xs (j + 4)), .int (xs (j + 5))]) (rest := []) (c_X4_copy l D cI cC adK adV z T R K ik F f n tk bg en nm s1 s2 s3 (xs (j + 1)) (xs (j + 2)) (xs (j + 3)) (xs (j + 4)) (xs (j + 5)) hS) k3_178 cv_X4_copy 3 rfl rfl rfl (gc := [wBa cI z T R K ik F f n tk bg en nm s1 s2 s3]) (gr := [w2]) [0, 1] (fl1 _) rfl 2 rfl (by decide) ⟨by decide, by decide⟩ rfl rfl ⟨by decide, by decide⟩ rfl rfl (by decide) dL_law_1184 ?_
  rw [← ho9]
  rintro _ w1 ⟨rfl, h1⟩
  obtain ⟨kr, ar, tk, bg, en, vl, cr, rfl, hk⟩ := hw2
  refine aw_eq (ws' := fl [wMo cI cC y (rowOf T) (kr, ar, ik, F, f, n, tk, bg, en, vl, s1, s2, s3, cr), w1]) rfl rfl (fl_two _ _) ?_
  refine aw_aload_n C dL_law_1187 rfl ?_
  refine awX_arg C hX hbl hbA hL 1 rfl (by omega) dL_law_1188 dL_law_1189 dL_law_1190 dL_law_1191 dL_law_1192 ?_
  refine awX_arg C hX hbl hbA hL 2 rfl (by omega) dL_law_1193 dL_law_1194 dL_law_1195 dL_law_1196 dL_law_1197 ?_
  refine awX_arg C hX hbl hbA hL 3 rfl (by omega) dL_law_1198 dL_law_1199 dL_law_1200 dL_law_1201 dL_law_1202 ?_
  refine awX_arg C hX hbl hbA hL 4 rfl (by omega) dL_law_1203 dL_law_1204 dL_law_1205 dL_law_1206 dL_law_1207 ?_
  refine awX_arg C hX hbl hbA hL 5 rfl (by omega) dL_law_1208 dL_law_1209 dL_law_1210 dL_law_1211 dL_law_1212 ?_
  refine aw_gV C (As := [.int (xs (j + 1)), .int (xs (j + 2)), .int (xs (j + 3)), .int (xs (j + 4)), .int (xs (j + 5))]) (rest := [.int o9.1]) (c_X5_copy l D cI cC adK adV y T K ik F f n s1 s2 s3 kr ar tk bg en vl cr hk ho (xs (j + 1)) (xs (j + 2)) (xs (j + 3)) (xs (j + 4)) (xs (j + 5)) hS) k5_166 cv_X5_copy 4 rfl rfl rfl (gc := [wMo cI cC y (rowOf T) (kr, ar, ik, F, f, n, tk, bg, en, vl, s1, s2, s3, cr)]) (gr := [w1]) [0, 1] (fl1 _) rfl 2 rfl (by decide) ⟨by decide, by decide⟩ rfl rfl ⟨by decide, by decide⟩ rfl rfl (Nat.le_of_ble_eq_true rfl) dL_law_1213 ?_
  rw [← ho9]
  rintro _ w2 ⟨rfl, h2⟩
  refine aw_icmp_eq C 1352 dL_law_1216 (by decide) (fun _ => ?_) (fun h => absurd rfl h)
  exact k9 o9.2 _ hG2 ⟨z, y, w1, w2, rfl, rfl, h1, h2, fl_two _ _⟩
set_option maxHeartbeats 1000000 in
set_option maxRecDepth 20000 in
theorem lawK_load (C : aC p s m args c cL_law 4 RL D (tyC cI cC) A adK adV) (hX : va_X b L xs s s.heap) (hbl : b < s.heap.size) (hbA : ¬ A b) (hL : L ≤ 3072) (x0 y0 j : Nat) (hj : j + 6 ≤ L) (G : Sg) (hG : gI G) (w : va_W) (hw : lwW cI cC x0 y0 G w) (k9 : ∀ (G : Sg) (w : va_W), gI G → lwW cI cC x0 y0 G w → AW p l e room_1 s m args below meth c D A 4 48 1216 Q 1352 (lawL b x0 y0 j) [] w) : AW p l e room_1 s m args below meth c D A 4 48 1216 Q 1221 (lawL b x0 y0 j) [] w := by
  obtain ⟨z, y, w0, w2, rfl, rfl, ⟨R, tk, bg, en, nm, rfl⟩, hw2, rfl⟩ := hw
  obtain ⟨T, K, ik, F, f, n, s1, s2, s3⟩ := G
  obtain ⟨o9, ho9⟩ : ∃ o9, o9 = m_load (T, K, ik, F, f, n, s1, s2, s3) (xs (j + 1)) := ⟨_, rfl⟩
  have hG2 : gI o9.2 := by rw [ho9]; exact k_load hG (xs (j + 1))
  obtain ⟨ho, hoK, hp, hpK, hS, hT⟩ := hG
  have hn := ho.n
  refine aw_aload_n C dL_law_1221 rfl ?_
  refine awX_arg C hX hbl hbA hL 1 rfl (by omega) dL_law_1222 dL_law_1223 dL_law_1224 dL_law_1225 dL_law_1226 ?_
  refine aw_gV C (As := [.int (xs (j + 1))]) (rest := []) (c_X4_load l D cI cC adK adV z T R K ik F f n tk bg en nm s1 s2 s3 (xs (j + 1)) hn hS) k3_195 cv_X4_load 3 rfl rfl rfl (gc := [wBa cI z T R K ik F f n tk bg en nm s1 s2 s3]) (gr := [w2]) [0, 1] (fl1 _) rfl 2 rfl (by decide) ⟨by decide, by decide⟩ rfl rfl ⟨by decide, by decide⟩ rfl rfl (by decide) dL_law_1227 ?_
  rw [← ho9]
  rintro _ w1 ⟨rfl, h1⟩
  obtain ⟨kr, ar, tk, bg, en, vl, cr, rfl, hk⟩ := hw2
  refine aw_eq (ws' := fl [wMo cI cC y (rowOf T) (kr, ar, ik, F, f, n, tk, bg, en, vl, s1, s2, s3, cr), w1]) rfl rfl (fl_two _ _) ?_
  refine aw_aload_n C dL_law_1230 rfl ?_
  refine awX_arg C hX hbl hbA hL 1 rfl (by omega) dL_law_1231 dL_law_1232 dL_law_1233 dL_law_1234 dL_law_1235 ?_
  refine aw_gV C (As := [.int (xs (j + 1))]) (rest := [.int o9.1]) (c_X5_load l D cI cC adK adV y T K ik F f n s1 s2 s3 kr ar tk bg en vl cr hk ho (xs (j + 1)) hS) k5_170 cv_X5_load 4 rfl rfl rfl (gc := [wMo cI cC y (rowOf T) (kr, ar, ik, F, f, n, tk, bg, en, vl, s1, s2, s3, cr)]) (gr := [w1]) [0, 1] (fl1 _) rfl 2 rfl (by decide) ⟨by decide, by decide⟩ rfl rfl ⟨by decide, by decide⟩ rfl rfl (Nat.le_of_ble_eq_true rfl) dL_law_1236 ?_
  rw [← ho9]
  rintro _ w2 ⟨rfl, h2⟩
  refine aw_icmp_eq C 1352 dL_law_1239 (by decide) (fun _ => ?_) (fun h => absurd rfl h)
  exact k9 o9.2 _ hG2 ⟨z, y, w1, w2, rfl, rfl, h1, h2, fl_two _ _⟩
set_option maxHeartbeats 1000000 in
set_option maxRecDepth 20000 in
theorem lawK_judge (C : aC p s m args c cL_law 4 RL D (tyC cI cC) A adK adV) (hX : va_X b L xs s s.heap) (hbl : b < s.heap.size) (hbA : ¬ A b) (hL : L ≤ 3072) (x0 y0 j : Nat) (hj : j + 6 ≤ L) (G : Sg) (hG : gI G) (w : va_W) (hw : lwW cI cC x0 y0 G w) (k9 : ∀ (G : Sg) (w : va_W), gI G → lwW cI cC x0 y0 G w → AW p l e room_1 s m args below meth c D A 4 48 1216 Q 1352 (lawL b x0 y0 j) [] w) : AW p l e room_1 s m args below meth c D A 4 48 1216 Q 1244 (lawL b x0 y0 j) [] w := by
  obtain ⟨z, y, w0, w2, rfl, rfl, ⟨R, tk, bg, en, nm, rfl⟩, hw2, rfl⟩ := hw
  obtain ⟨T, K, ik, F, f, n, s1, s2, s3⟩ := G
  obtain ⟨o9, ho9⟩ : ∃ o9, o9 = m_judge (T, K, ik, F, f, n, s1, s2, s3) (xs (j + 1)) := ⟨_, rfl⟩
  have hG2 : gI o9.2 := by rw [ho9]; exact k_judge hG (xs (j + 1))
  obtain ⟨ho, hoK, hp, hpK, hS, hT⟩ := hG
  have hn := ho.n
  refine aw_aload_n C dL_law_1244 rfl ?_
  refine awX_arg C hX hbl hbA hL 1 rfl (by omega) dL_law_1245 dL_law_1246 dL_law_1247 dL_law_1248 dL_law_1249 ?_
  refine aw_gV C (As := [.int (xs (j + 1))]) (rest := []) (c_X4_judge l D cI cC adK adV z T R K ik F f n tk bg en nm s1 s2 s3 (xs (j + 1)) hn hS) k3_200 cv_X4_judge 3 rfl rfl rfl (gc := [wBa cI z T R K ik F f n tk bg en nm s1 s2 s3]) (gr := [w2]) [0, 1] (fl1 _) rfl 2 rfl (by decide) ⟨by decide, by decide⟩ rfl rfl ⟨by decide, by decide⟩ rfl rfl (by decide) dL_law_1250 ?_
  rw [← ho9]
  rintro _ w1 ⟨rfl, h1⟩
  obtain ⟨kr, ar, tk, bg, en, vl, cr, rfl, hk⟩ := hw2
  refine aw_eq (ws' := fl [wMo cI cC y (rowOf T) (kr, ar, ik, F, f, n, tk, bg, en, vl, s1, s2, s3, cr), w1]) rfl rfl (fl_two _ _) ?_
  refine aw_aload_n C dL_law_1253 rfl ?_
  refine awX_arg C hX hbl hbA hL 1 rfl (by omega) dL_law_1254 dL_law_1255 dL_law_1256 dL_law_1257 dL_law_1258 ?_
  refine aw_gV C (As := [.int (xs (j + 1))]) (rest := [.int o9.1]) (c_X5_judge l D cI cC adK adV y T K ik F f n s1 s2 s3 kr ar tk bg en vl cr hk ho (xs (j + 1)) hS) k5_174 cv_X5_judge 4 rfl rfl rfl (gc := [wMo cI cC y (rowOf T) (kr, ar, ik, F, f, n, tk, bg, en, vl, s1, s2, s3, cr)]) (gr := [w1]) [0, 1] (fl1 _) rfl 2 rfl (by decide) ⟨by decide, by decide⟩ rfl rfl ⟨by decide, by decide⟩ rfl rfl (Nat.le_of_ble_eq_true rfl) dL_law_1259 ?_
  rw [← ho9]
  rintro _ w2 ⟨rfl, h2⟩
  refine aw_icmp_eq C 1352 dL_law_1262 (by decide) (fun _ => ?_) (fun h => absurd rfl h)
  exact k9 o9.2 _ hG2 ⟨z, y, w1, w2, rfl, rfl, h1, h2, fl_two _ _⟩
set_option maxHeartbeats 1000000 in
set_option maxRecDepth 20000 in
theorem lawK_image (C : aC p s m args c cL_law 4 RL D (tyC cI cC) A adK adV) (hX : va_X b L xs s s.heap) (hbl : b < s.heap.size) (hbA : ¬ A b) (hL : L ≤ 3072) (x0 y0 j : Nat) (hj : j + 6 ≤ L) (G : Sg) (hG : gI G) (w : va_W) (hw : lwW cI cC x0 y0 G w) (k9 : ∀ (G : Sg) (w : va_W), gI G → lwW cI cC x0 y0 G w → AW p l e room_1 s m args below meth c D A 4 48 1216 Q 1352 (lawL b x0 y0 j) [] w) : AW p l e room_1 s m args below meth c D A 4 48 1216 Q 1267 (lawL b x0 y0 j) [] w := by
  obtain ⟨z, y, w0, w2, rfl, rfl, ⟨R, tk, bg, en, nm, rfl⟩, hw2, rfl⟩ := hw
  obtain ⟨T, K, ik, F, f, n, s1, s2, s3⟩ := G
  obtain ⟨o9, ho9⟩ : ∃ o9, o9 = m_image (T, K, ik, F, f, n, s1, s2, s3) := ⟨_, rfl⟩
  have hG2 : gI o9.2 := by rw [ho9]; exact k_image hG
  obtain ⟨ho, hoK, hp, hpK, hS, hT⟩ := hG
  have hn := ho.n
  refine aw_aload_n C dL_law_1267 rfl ?_
  refine aw_gV C (As := []) (rest := []) (c_X4_image l D cI cC adK adV z T R K ik F f n tk bg en nm s1 s2 s3 ) k3_204 cv_X4_image 3 rfl rfl rfl (gc := [wBa cI z T R K ik F f n tk bg en nm s1 s2 s3]) (gr := [w2]) [0, 1] (fl1 _) rfl 2 rfl (by decide) ⟨by decide, by decide⟩ rfl rfl ⟨by decide, by decide⟩ rfl rfl (by decide) dL_law_1268 ?_
  rw [← ho9]
  rintro _ w1 ⟨rfl, h1⟩
  obtain ⟨kr, ar, tk, bg, en, vl, cr, rfl, hk⟩ := hw2
  refine aw_eq (ws' := fl [wMo cI cC y (rowOf T) (kr, ar, ik, F, f, n, tk, bg, en, vl, s1, s2, s3, cr), w1]) rfl rfl (fl_two _ _) ?_
  refine aw_aload_n C dL_law_1271 rfl ?_
  refine aw_gV C (As := []) (rest := [.int o9.1]) (c_X5_image l D cI cC adK adV y T K ik F f n s1 s2 s3 kr ar tk bg en vl cr hk ho) k5_178 cv_X5_image 4 rfl rfl rfl (gc := [wMo cI cC y (rowOf T) (kr, ar, ik, F, f, n, tk, bg, en, vl, s1, s2, s3, cr)]) (gr := [w1]) [0, 1] (fl1 _) rfl 2 rfl (by decide) ⟨by decide, by decide⟩ rfl rfl ⟨by decide, by decide⟩ rfl rfl (Nat.le_of_ble_eq_true rfl) dL_law_1272 ?_
  rw [← ho9]
  rintro _ w2 ⟨rfl, h2⟩
  refine aw_icmp_eq C 1352 dL_law_1275 (by decide) (fun _ => ?_) (fun h => absurd rfl h)
  exact k9 o9.2 _ hG2 ⟨z, y, w1, w2, rfl, rfl, h1, h2, fl_two _ _⟩
set_option maxHeartbeats 1000000 in
set_option maxRecDepth 20000 in
theorem lawK_undo (C : aC p s m args c cL_law 4 RL D (tyC cI cC) A adK adV) (hX : va_X b L xs s s.heap) (hbl : b < s.heap.size) (hbA : ¬ A b) (hL : L ≤ 3072) (x0 y0 j : Nat) (hj : j + 6 ≤ L) (G : Sg) (hG : gI G) (w : va_W) (hw : lwW cI cC x0 y0 G w) (k9 : ∀ (G : Sg) (w : va_W), gI G → lwW cI cC x0 y0 G w → AW p l e room_1 s m args below meth c D A 4 48 1216 Q 1352 (lawL b x0 y0 j) [] w) : AW p l e room_1 s m args below meth c D A 4 48 1216 Q 1280 (lawL b x0 y0 j) [] w := by
  obtain ⟨z, y, w0, w2, rfl, rfl, ⟨R, tk, bg, en, nm, rfl⟩, hw2, rfl⟩ := hw
  obtain ⟨T, K, ik, F, f, n, s1, s2, s3⟩ := G
  obtain ⟨o9, ho9⟩ : ∃ o9, o9 = m_undo (T, K, ik, F, f, n, s1, s2, s3) := ⟨_, rfl⟩
  have hG2 : gI o9.2 := by rw [ho9]; exact k_undo hG
  obtain ⟨ho, hoK, hp, hpK, hS, hT⟩ := hG
  have hn := ho.n
  refine aw_aload_n C dL_law_1280 rfl ?_
  refine aw_gV C (As := []) (rest := []) (c_X4_undo l D cI cC adK adV z T R K ik F f n tk bg en nm s1 s2 s3 ) k3_208 cv_X4_undo 3 rfl rfl rfl (gc := [wBa cI z T R K ik F f n tk bg en nm s1 s2 s3]) (gr := [w2]) [0, 1] (fl1 _) rfl 2 rfl (by decide) ⟨by decide, by decide⟩ rfl rfl ⟨by decide, by decide⟩ rfl rfl (by decide) dL_law_1281 ?_
  rw [← ho9]
  rintro _ w1 ⟨rfl, h1⟩
  obtain ⟨kr, ar, tk, bg, en, vl, cr, rfl, hk⟩ := hw2
  refine aw_eq (ws' := fl [wMo cI cC y (rowOf T) (kr, ar, ik, F, f, n, tk, bg, en, vl, s1, s2, s3, cr), w1]) rfl rfl (fl_two _ _) ?_
  refine aw_aload_n C dL_law_1284 rfl ?_
  refine aw_gV C (As := []) (rest := [.int o9.1]) (c_X5_undo l D cI cC adK adV y T K ik F f n s1 s2 s3 kr ar tk bg en vl cr hk ho) k5_182 cv_X5_undo 4 rfl rfl rfl (gc := [wMo cI cC y (rowOf T) (kr, ar, ik, F, f, n, tk, bg, en, vl, s1, s2, s3, cr)]) (gr := [w1]) [0, 1] (fl1 _) rfl 2 rfl (by decide) ⟨by decide, by decide⟩ rfl rfl ⟨by decide, by decide⟩ rfl rfl (Nat.le_of_ble_eq_true rfl) dL_law_1285 ?_
  rw [← ho9]
  rintro _ w2 ⟨rfl, h2⟩
  refine aw_icmp_eq C 1352 dL_law_1288 (by decide) (fun _ => ?_) (fun h => absurd rfl h)
  exact k9 o9.2 _ hG2 ⟨z, y, w1, w2, rfl, rfl, h1, h2, fl_two _ _⟩
set_option maxHeartbeats 1000000 in
set_option maxRecDepth 20000 in
theorem lawK_tear (C : aC p s m args c cL_law 4 RL D (tyC cI cC) A adK adV) (hX : va_X b L xs s s.heap) (hbl : b < s.heap.size) (hbA : ¬ A b) (hL : L ≤ 3072) (x0 y0 j : Nat) (hj : j + 6 ≤ L) (G : Sg) (hG : gI G) (w : va_W) (hw : lwW cI cC x0 y0 G w) (k9 : ∀ (G : Sg) (w : va_W), gI G → lwW cI cC x0 y0 G w → AW p l e room_1 s m args below meth c D A 4 48 1216 Q 1352 (lawL b x0 y0 j) [] w) : AW p l e room_1 s m args below meth c D A 4 48 1216 Q 1293 (lawL b x0 y0 j) [] w := by
  obtain ⟨z, y, w0, w2, rfl, rfl, ⟨R, tk, bg, en, nm, rfl⟩, hw2, rfl⟩ := hw
  obtain ⟨T, K, ik, F, f, n, s1, s2, s3⟩ := G
  obtain ⟨o9, ho9⟩ : ∃ o9, o9 = m_tear (T, K, ik, F, f, n, s1, s2, s3) := ⟨_, rfl⟩
  have hG2 : gI o9.2 := by rw [ho9]; exact k_tear hG
  obtain ⟨ho, hoK, hp, hpK, hS, hT⟩ := hG
  have hn := ho.n
  refine aw_aload_n C dL_law_1293 rfl ?_
  refine aw_gV C (As := []) (rest := []) (c_X4_tear l D cI cC adK adV z T R K ik F f n tk bg en nm s1 s2 s3 ) k3_212 cv_X4_tear 3 rfl rfl rfl (gc := [wBa cI z T R K ik F f n tk bg en nm s1 s2 s3]) (gr := [w2]) [0, 1] (fl1 _) rfl 2 rfl (by decide) ⟨by decide, by decide⟩ rfl rfl ⟨by decide, by decide⟩ rfl rfl (by decide) dL_law_1294 ?_
  rw [← ho9]
  rintro _ w1 ⟨rfl, h1⟩
  obtain ⟨kr, ar, tk, bg, en, vl, cr, rfl, hk⟩ := hw2
  refine aw_eq (ws' := fl [wMo cI cC y (rowOf T) (kr, ar, ik, F, f, n, tk, bg, en, vl, s1, s2, s3, cr), w1]) rfl rfl (fl_two _ _) ?_
  refine aw_aload_n C dL_law_1297 rfl ?_
  refine aw_gV C (As := []) (rest := [.int o9.1]) (c_X5_tear l D cI cC adK adV y T K ik F f n s1 s2 s3 kr ar tk bg en vl cr hk ho) k5_186 cv_X5_tear 4 rfl rfl rfl (gc := [wMo cI cC y (rowOf T) (kr, ar, ik, F, f, n, tk, bg, en, vl, s1, s2, s3, cr)]) (gr := [w1]) [0, 1] (fl1 _) rfl 2 rfl (by decide) ⟨by decide, by decide⟩ rfl rfl ⟨by decide, by decide⟩ rfl rfl (Nat.le_of_ble_eq_true rfl) dL_law_1298 ?_
  rw [← ho9]
  rintro _ w2 ⟨rfl, h2⟩
  refine aw_icmp_eq C 1352 dL_law_1301 (by decide) (fun _ => ?_) (fun h => absurd rfl h)
  exact k9 o9.2 _ hG2 ⟨z, y, w1, w2, rfl, rfl, h1, h2, fl_two _ _⟩
set_option maxHeartbeats 1000000 in
set_option maxRecDepth 20000 in
theorem lawK_count (C : aC p s m args c cL_law 4 RL D (tyC cI cC) A adK adV) (hX : va_X b L xs s s.heap) (hbl : b < s.heap.size) (hbA : ¬ A b) (hL : L ≤ 3072) (x0 y0 j : Nat) (hj : j + 6 ≤ L) (G : Sg) (hG : gI G) (w : va_W) (hw : lwW cI cC x0 y0 G w) (k9 : ∀ (G : Sg) (w : va_W), gI G → lwW cI cC x0 y0 G w → AW p l e room_1 s m args below meth c D A 4 48 1216 Q 1352 (lawL b x0 y0 j) [] w) : AW p l e room_1 s m args below meth c D A 4 48 1216 Q 1306 (lawL b x0 y0 j) [] w := by
  obtain ⟨z, y, w0, w2, rfl, rfl, ⟨R, tk, bg, en, nm, rfl⟩, hw2, rfl⟩ := hw
  obtain ⟨T, K, ik, F, f, n, s1, s2, s3⟩ := G
  obtain ⟨o9, ho9⟩ : ∃ o9, o9 = m_count (T, K, ik, F, f, n, s1, s2, s3) (xs (j + 1)) := ⟨_, rfl⟩
  have hG2 : gI o9.2 := by rw [ho9]; exact k_count hG (xs (j + 1))
  obtain ⟨ho, hoK, hp, hpK, hS, hT⟩ := hG
  have hn := ho.n
  refine aw_aload_n C dL_law_1306 rfl ?_
  refine awX_arg C hX hbl hbA hL 1 rfl (by omega) dL_law_1307 dL_law_1308 dL_law_1309 dL_law_1310 dL_law_1311 ?_
  refine aw_gV C (As := [.int (xs (j + 1))]) (rest := []) (c_X4_count l D cI cC adK adV z T R K ik F f n tk bg en nm s1 s2 s3 (xs (j + 1)) hn) k3_216 cv_X4_count 3 rfl rfl rfl (gc := [wBa cI z T R K ik F f n tk bg en nm s1 s2 s3]) (gr := [w2]) [0, 1] (fl1 _) rfl 2 rfl (by decide) ⟨by decide, by decide⟩ rfl rfl ⟨by decide, by decide⟩ rfl rfl (by decide) dL_law_1312 ?_
  rw [← ho9]
  rintro _ w1 ⟨rfl, h1⟩
  obtain ⟨kr, ar, tk, bg, en, vl, cr, rfl, hk⟩ := hw2
  refine aw_eq (ws' := fl [wMo cI cC y (rowOf T) (kr, ar, ik, F, f, n, tk, bg, en, vl, s1, s2, s3, cr), w1]) rfl rfl (fl_two _ _) ?_
  refine aw_aload_n C dL_law_1315 rfl ?_
  refine awX_arg C hX hbl hbA hL 1 rfl (by omega) dL_law_1316 dL_law_1317 dL_law_1318 dL_law_1319 dL_law_1320 ?_
  refine aw_gV C (As := [.int (xs (j + 1))]) (rest := [.int o9.1]) (c_X5_count l D cI cC adK adV y T K ik F f n s1 s2 s3 kr ar tk bg en vl cr hk ho (xs (j + 1)) hp) k5_190 cv_X5_count 4 rfl rfl rfl (gc := [wMo cI cC y (rowOf T) (kr, ar, ik, F, f, n, tk, bg, en, vl, s1, s2, s3, cr)]) (gr := [w1]) [0, 1] (fl1 _) rfl 2 rfl (by decide) ⟨by decide, by decide⟩ rfl rfl ⟨by decide, by decide⟩ rfl rfl (Nat.le_of_ble_eq_true rfl) dL_law_1321 ?_
  rw [← ho9]
  rintro _ w2 ⟨rfl, h2⟩
  refine aw_icmp_eq C 1352 dL_law_1324 (by decide) (fun _ => ?_) (fun h => absurd rfl h)
  exact k9 o9.2 _ hG2 ⟨z, y, w1, w2, rfl, rfl, h1, h2, fl_two _ _⟩
set_option maxHeartbeats 1000000 in
set_option maxRecDepth 20000 in
theorem lawK_status (C : aC p s m args c cL_law 4 RL D (tyC cI cC) A adK adV) (hX : va_X b L xs s s.heap) (hbl : b < s.heap.size) (hbA : ¬ A b) (hL : L ≤ 3072) (x0 y0 j : Nat) (hj : j + 6 ≤ L) (G : Sg) (hG : gI G) (w : va_W) (hw : lwW cI cC x0 y0 G w) (k9 : ∀ (G : Sg) (w : va_W), gI G → lwW cI cC x0 y0 G w → AW p l e room_1 s m args below meth c D A 4 48 1216 Q 1352 (lawL b x0 y0 j) [] w) : AW p l e room_1 s m args below meth c D A 4 48 1216 Q 1329 (lawL b x0 y0 j) [] w := by
  obtain ⟨z, y, w0, w2, rfl, rfl, ⟨R, tk, bg, en, nm, rfl⟩, hw2, rfl⟩ := hw
  obtain ⟨T, K, ik, F, f, n, s1, s2, s3⟩ := G
  obtain ⟨o9, ho9⟩ : ∃ o9, o9 = m_status (T, K, ik, F, f, n, s1, s2, s3) (xs (j + 1)) := ⟨_, rfl⟩
  have hG2 : gI o9.2 := by rw [ho9]; exact k_status hG (xs (j + 1))
  obtain ⟨ho, hoK, hp, hpK, hS, hT⟩ := hG
  have hn := ho.n
  refine aw_aload_n C dL_law_1329 rfl ?_
  refine awX_arg C hX hbl hbA hL 1 rfl (by omega) dL_law_1330 dL_law_1331 dL_law_1332 dL_law_1333 dL_law_1334 ?_
  refine aw_gV C (As := [.int (xs (j + 1))]) (rest := []) (c_X4_status l D cI cC adK adV z T R K ik F f n tk bg en nm s1 s2 s3 (xs (j + 1))) k3_224 cv_X4_status 3 rfl rfl rfl (gc := [wBa cI z T R K ik F f n tk bg en nm s1 s2 s3]) (gr := [w2]) [0, 1] (fl1 _) rfl 2 rfl (by decide) ⟨by decide, by decide⟩ rfl rfl ⟨by decide, by decide⟩ rfl rfl (by decide) dL_law_1335 ?_
  rw [← ho9]
  rintro _ w1 ⟨rfl, h1⟩
  obtain ⟨kr, ar, tk, bg, en, vl, cr, rfl, hk⟩ := hw2
  refine aw_eq (ws' := fl [wMo cI cC y (rowOf T) (kr, ar, ik, F, f, n, tk, bg, en, vl, s1, s2, s3, cr), w1]) rfl rfl (fl_two _ _) ?_
  refine aw_aload_n C dL_law_1338 rfl ?_
  refine awX_arg C hX hbl hbA hL 1 rfl (by omega) dL_law_1339 dL_law_1340 dL_law_1341 dL_law_1342 dL_law_1343 ?_
  refine aw_gV C (As := [.int (xs (j + 1))]) (rest := [.int o9.1]) (c_X5_status l D cI cC adK adV y T K ik F f n s1 s2 s3 kr ar tk bg en vl cr hk ho (xs (j + 1))) k5_194 cv_X5_status 4 rfl rfl rfl (gc := [wMo cI cC y (rowOf T) (kr, ar, ik, F, f, n, tk, bg, en, vl, s1, s2, s3, cr)]) (gr := [w1]) [0, 1] (fl1 _) rfl 2 rfl (by decide) ⟨by decide, by decide⟩ rfl rfl ⟨by decide, by decide⟩ rfl rfl (Nat.le_of_ble_eq_true rfl) dL_law_1344 ?_
  rw [← ho9]
  rintro _ w2 ⟨rfl, h2⟩
  refine aw_icmp_eq C 1352 dL_law_1347 (by decide) (fun _ => ?_) (fun h => absurd rfl h)
  exact k9 o9.2 _ hG2 ⟨z, y, w1, w2, rfl, rfl, h1, h2, fl_two _ _⟩
set_option maxHeartbeats 1000000 in
set_option maxRecDepth 20000 in
theorem lawK_step (C : aC p s m args c cL_law 4 RL D (tyC cI cC) A adK adV) (hX : va_X b L xs s s.heap) (hbl : b < s.heap.size) (hbA : ¬ A b) (hL : L ≤ 3072) (x0 y0 j : Nat) (hj : j + 6 ≤ L) (G : Sg) (hG : gI G) (w : va_W) (hw : lwW cI cC x0 y0 G w) (k9 : ∀ (G : Sg) (w : va_W), gI G → lwW cI cC x0 y0 G w → AW p l e room_1 s m args below meth c D A 4 48 1216 Q 1352 (lawL b x0 y0 j) [] w) : AW p l e room_1 s m args below meth c D A 4 48 1216 Q 27 (lawL b x0 y0 j) [] w := by
  refine aw_aload_n C dL_law_27 rfl ?_
  refine aw_iload_n C dL_law_28 rfl ?_
  refine awX_ld C hX hbl hbA hL (j := j) rfl (by omega) dL_law_29 ?_
  refine aw_bipush C (63 : Int32) dL_law_30 (by decide) ?_
  refine aw_iand C dL_law_32 ?_
  generalize xs j &&& 63 = v9
  by_cases h0 : v9.toInt < 0 ∨ 38 < v9.toInt
  · exact aw_tabOut C 1352 dL_law_33 h0 (by decide) (k9 G w hG hw)
  · have h1 : v9.toInt = 0 ∨ v9.toInt = 1 ∨ v9.toInt = 2 ∨ v9.toInt = 3 ∨ v9.toInt = 4 ∨ v9.toInt = 5 ∨ v9.toInt = 6 ∨ v9.toInt = 7 ∨ v9.toInt = 8 ∨ v9.toInt = 9 ∨ v9.toInt = 10 ∨ v9.toInt = 11 ∨ v9.toInt = 12 ∨ v9.toInt = 13 ∨ v9.toInt = 14 ∨ v9.toInt = 15 ∨ v9.toInt = 16 ∨ v9.toInt = 17 ∨ v9.toInt = 18 ∨ v9.toInt = 19 ∨ v9.toInt = 20 ∨ v9.toInt = 21 ∨ v9.toInt = 22 ∨ v9.toInt = 23 ∨ v9.toInt = 24 ∨ v9.toInt = 25 ∨ v9.toInt = 26 ∨ v9.toInt = 27 ∨ v9.toInt = 28 ∨ v9.toInt = 29 ∨ v9.toInt = 30 ∨ v9.toInt = 31 ∨ v9.toInt = 32 ∨ v9.toInt = 33 ∨ v9.toInt = 34 ∨ v9.toInt = 35 ∨ v9.toInt = 36 ∨ v9.toInt = 37 ∨ v9.toInt = 38 := by omega
    rcases h1 with h1 | h1 | h1 | h1 | h1 | h1 | h1 | h1 | h1 | h1 | h1 | h1 | h1 | h1 | h1 | h1 | h1 | h1 | h1 | h1 | h1 | h1 | h1 | h1 | h1 | h1 | h1 | h1 | h1 | h1 | h1 | h1 | h1 | h1 | h1 | h1 | h1 | h1 | h1
    · exact aw_tabIn C 0 (tgt := 204) dL_law_33 h1 (by decide) (by decide) rfl (by decide) (lawK_person C hX hbl hbA hL x0 y0 j hj G hG w hw k9)
    · exact aw_tabIn C 1 (tgt := 237) dL_law_33 h1 (by decide) (by decide) rfl (by decide) (lawK_of C hX hbl hbA hL x0 y0 j hj G hG w hw k9)
    · exact aw_tabIn C 2 (tgt := 270) dL_law_33 h1 (by decide) (by decide) rfl (by decide) (lawK_change C hX hbl hbA hL x0 y0 j hj G hG w hw k9)
    · exact aw_tabIn C 3 (tgt := 313) dL_law_33 h1 (by decide) (by decide) rfl (by decide) (lawK_minds C hX hbl hbA hL x0 y0 j hj G hG w hw k9)
    · exact aw_tabIn C 4 (tgt := 346) dL_law_33 h1 (by decide) (by decide) rfl (by decide) (lawK_far C hX hbl hbA hL x0 y0 j hj G hG w hw k9)
    · exact aw_tabIn C 5 (tgt := 379) dL_law_33 h1 (by decide) (by decide) rfl (by decide) (lawK_who C hX hbl hbA hL x0 y0 j hj G hG w hw k9)
    · exact aw_tabIn C 6 (tgt := 402) dL_law_33 h1 (by decide) (by decide) rfl (by decide) (lawK_two C hX hbl hbA hL x0 y0 j hj G hG w hw k9)
    · exact aw_tabIn C 7 (tgt := 445) dL_law_33 h1 (by decide) (by decide) rfl (by decide) (lawK_go C hX hbl hbA hL x0 y0 j hj G hG w hw k9)
    · exact aw_tabIn C 8 (tgt := 468) dL_law_33 h1 (by decide) (by decide) rfl (by decide) (lawK_now C hX hbl hbA hL x0 y0 j hj G hG w hw k9)
    · exact aw_tabIn C 9 (tgt := 491) dL_law_33 h1 (by decide) (by decide) rfl (by decide) (lawK_ahead C hX hbl hbA hL x0 y0 j hj G hG w hw k9)
    · exact aw_tabIn C 10 (tgt := 534) dL_law_33 h1 (by decide) (by decide) rfl (by decide) (lawK_joy C hX hbl hbA hL x0 y0 j hj G hG w hw k9)
    · exact aw_tabIn C 11 (tgt := 557) dL_law_33 h1 (by decide) (by decide) rfl (by decide) (lawK_when C hX hbl hbA hL x0 y0 j hj G hG w hw k9)
    · exact aw_tabIn C 12 (tgt := 600) dL_law_33 h1 (by decide) (by decide) rfl (by decide) (lawK_known C hX hbl hbA hL x0 y0 j hj G hG w hw k9)
    · exact aw_tabIn C 13 (tgt := 613) dL_law_33 h1 (by decide) (by decide) rfl (by decide) (lawK_passed C hX hbl hbA hL x0 y0 j hj G hG w hw k9)
    · exact aw_tabIn C 14 (tgt := 646) dL_law_33 h1 (by decide) (by decide) rfl (by decide) (lawK_standFor C hX hbl hbA hL x0 y0 j hj G hG w hw k9)
    · exact aw_tabIn C 15 (tgt := 679) dL_law_33 h1 (by decide) (by decide) rfl (by decide) (lawK_guiseFor C hX hbl hbA hL x0 y0 j hj G hG w hw k9)
    · exact aw_tabIn C 16 (tgt := 712) dL_law_33 h1 (by decide) (by decide) rfl (by decide) (lawK_kindFor C hX hbl hbA hL x0 y0 j hj G hG w hw k9)
    · exact aw_tabIn C 17 (tgt := 745) dL_law_33 h1 (by decide) (by decide) rfl (by decide) (lawK_dark C hX hbl hbA hL x0 y0 j hj G hG w hw k9)
    · exact aw_tabIn C 18 (tgt := 768) dL_law_33 h1 (by decide) (by decide) rfl (by decide) (lawK_circle C hX hbl hbA hL x0 y0 j hj G hG w hw k9)
    · exact aw_tabIn C 19 (tgt := 791) dL_law_33 h1 (by decide) (by decide) rfl (by decide) (lawK_fits C hX hbl hbA hL x0 y0 j hj G hG w hw k9)
    · exact aw_tabIn C 20 (tgt := 824) dL_law_33 h1 (by decide) (by decide) rfl (by decide) (lawK_kinds C hX hbl hbA hL x0 y0 j hj G hG w hw k9)
    · exact aw_tabIn C 21 (tgt := 857) dL_law_33 h1 (by decide) (by decide) rfl (by decide) (lawK_night C hX hbl hbA hL x0 y0 j hj G hG w hw k9)
    · exact aw_tabIn C 22 (tgt := 880) dL_law_33 h1 (by decide) (by decide) rfl (by decide) (lawK_odds C hX hbl hbA hL x0 y0 j hj G hG w hw k9)
    · exact aw_tabIn C 23 (tgt := 924) dL_law_33 h1 (by decide) (by decide) rfl (by decide) (lawK_seed C hX hbl hbA hL x0 y0 j hj G hG w hw k9)
    · exact aw_tabIn C 24 (tgt := 947) dL_law_33 h1 (by decide) (by decide) rfl (by decide) (lawK_feed C hX hbl hbA hL x0 y0 j hj G hG w hw k9)
    · exact aw_tabIn C 25 (tgt := 980) dL_law_33 h1 (by decide) (by decide) rfl (by decide) (lawK_wipe C hX hbl hbA hL x0 y0 j hj G hG w hw k9)
    · exact aw_tabIn C 26 (tgt := 993) dL_law_33 h1 (by decide) (by decide) rfl (by decide) (lawK_text C hX hbl hbA hL x0 y0 j hj G hG w hw k9)
    · exact aw_tabIn C 27 (tgt := 1006) dL_law_33 h1 (by decide) (by decide) rfl (by decide) (lawK_hold C hX hbl hbA hL x0 y0 j hj G hG w hw k9)
    · exact aw_tabIn C 28 (tgt := 1039) dL_law_33 h1 (by decide) (by decide) rfl (by decide) (lawK_as C hX hbl hbA hL x0 y0 j hj G hG w hw k9)
    · exact aw_tabIn C 29 (tgt := 1072) dL_law_33 h1 (by decide) (by decide) rfl (by decide) (lawK_sheet C hX hbl hbA hL x0 y0 j hj G hG w hw k9)
    · exact aw_tabIn C 30 (tgt := 1115) dL_law_33 h1 (by decide) (by decide) rfl (by decide) (lawK_write C hX hbl hbA hL x0 y0 j hj G hG w hw k9)
    · exact aw_tabIn C 31 (tgt := 1158) dL_law_33 h1 (by decide) (by decide) rfl (by decide) (lawK_copy C hX hbl hbA hL x0 y0 j hj G hG w hw k9)
    · exact aw_tabIn C 32 (tgt := 1221) dL_law_33 h1 (by decide) (by decide) rfl (by decide) (lawK_load C hX hbl hbA hL x0 y0 j hj G hG w hw k9)
    · exact aw_tabIn C 33 (tgt := 1244) dL_law_33 h1 (by decide) (by decide) rfl (by decide) (lawK_judge C hX hbl hbA hL x0 y0 j hj G hG w hw k9)
    · exact aw_tabIn C 34 (tgt := 1267) dL_law_33 h1 (by decide) (by decide) rfl (by decide) (lawK_image C hX hbl hbA hL x0 y0 j hj G hG w hw k9)
    · exact aw_tabIn C 35 (tgt := 1280) dL_law_33 h1 (by decide) (by decide) rfl (by decide) (lawK_undo C hX hbl hbA hL x0 y0 j hj G hG w hw k9)
    · exact aw_tabIn C 36 (tgt := 1293) dL_law_33 h1 (by decide) (by decide) rfl (by decide) (lawK_tear C hX hbl hbA hL x0 y0 j hj G hG w hw k9)
    · exact aw_tabIn C 37 (tgt := 1306) dL_law_33 h1 (by decide) (by decide) rfl (by decide) (lawK_count C hX hbl hbA hL x0 y0 j hj G hG w hw k9)
    · exact aw_tabIn C 38 (tgt := 1329) dL_law_33 h1 (by decide) (by decide) rfl (by decide) (lawK_status C hX hbl hbA hL x0 y0 j hj G hG w hw k9)
theorem le6 {j L : Nat} (hL : L ≤ 3072) (hj : j ≤ 3072) : (nI L - 6 < nI j) ↔ ¬ (j + 6 ≤ L) := by
  by_cases h6 : 6 ≤ L
  · have e : nI L - 6 = nI (L - 6) := by
      have h := nI_add (L - 6) 6
      rw [Nat.sub_add_cancel h6] at h
      rw [← h]
      exact Int32.add_sub_cancel _ _
    rw [e, nI_ltI (by omega) (by omega)]
    omega
  · have h9 : ∀ L, L < 6 → nI L - 6 < 0 := by decide
    exact ⟨fun _ => by omega, fun _ => Int32.lt_of_lt_of_le (h9 L (by omega)) (Int32.not_lt.mp (nI_nn (by omega)))⟩
set_option maxHeartbeats 1000000 in
set_option maxRecDepth 20000 in
theorem lawK_loop (C : aC p s m args c cL_law 4 RL D (tyC cI cC) A adK adV) (hX : va_X b L xs s s.heap) (hbl : b < s.heap.size) (hbA : ¬ A b) (hL : L ≤ 3072) (x0 y0 : Nat) (G : Sg) (hG : gI G) (w : va_W) (hw : lwW cI cC x0 y0 G w) (k9 : ∀ (j : Nat) (w : va_W), AW p l e room_1 s m args below meth c D A 4 48 1216 Q 1358 (lawL b x0 y0 j) [] w) : AW p l e room_1 s m args below meth c D A 4 48 1216 Q 18 (lawL b x0 y0 0) [] w := by
  refine aw_loopE (σ := va_W) (LV := fun i _ => lawL b x0 y0 (6 * i)) (WS := fun _ w => w) (L / 6) (Inv := fun _ w => ∃ G, gI G ∧ lwW cI cC x0 y0 G w) (x0 := w) ⟨G, hG, hw⟩ ?_ ?_
  · intro w _
    refine aw_iload_n C dL_law_18 rfl ?_
    refine aw_aload_n C dL_law_19 rfl ?_
    refine awX_len C hX hbl hbA dL_law_20 ?_
    refine aw_bipush C (6 : Int32) dL_law_21 (by decide) ?_
    refine aw_isub C dL_law_23 ?_
    refine aw_icmp_gt C 1358 dL_law_24 (by decide) (fun _ => k9 _ w) (fun h => absurd ((le6 hL (by omega)).mpr (by omega)) h)
  · intro i w hi ⟨G, hG, hw⟩ ih
    refine aw_iload_n C dL_law_18 rfl ?_
    refine aw_aload_n C dL_law_19 rfl ?_
    refine awX_len C hX hbl hbA dL_law_20 ?_
    refine aw_bipush C (6 : Int32) dL_law_21 (by decide) ?_
    refine aw_isub C dL_law_23 ?_
    refine aw_icmp_gt C 1358 dL_law_24 (by decide) (fun h => absurd (show 6 * i + 6 ≤ L by omega) ((le6 hL (by omega)).mp h)) (fun _ => ?_)
    refine lawK_step C hX hbl hbA hL x0 y0 (6 * i) (by omega) G hG w hw (fun G w hG hw => ?_)
    refine aw_iinc C (nI (6 * (i + 1))) (lv' := lawL b x0 y0 (6 * (i + 1))) dL_law_1352 rfl (inc_nI (6 * i) 6) (by decide) rfl rfl ?_
    refine aw_goto C 18 dL_law_1355 (by decide) ?_
    exact ih w ⟨G, hG, hw⟩
end LAW


theorem tabs_of {Ts : List Cond} {args : Array Value} {s : State} (hts : ∀ w ∈ Ts, w.before args s = true) {w : Cond} (h : w ∈ Ts) : w.before args s = true := hts w h
def tmJ (i : Nat) : Term := Term.string RX2 (txJ.getD i (0, "")).1
abbrev gvC : Cond := Jvm.Cond.and given_1 narrow_1
set_option maxRecDepth 100000 in
theorem g_ex : ∀ i, i < 12 → Cond.exactly (tmJ i) "java/lang/String" ∈ flatC gvC := by decide +kernel
set_option maxRecDepth 100000 in
theorem g_co : ∀ i, i < 12 → Cond.eq (.field (tmJ i) "java/lang/String" "coder" "B") (.int 0) ∈ flatC gvC := by decide +kernel
set_option maxRecDepth 100000 in
theorem g_ar : ∀ i, i < 12 → Cond.arrayOf (.field (tmJ i) "java/lang/String" "value" "[B") .byte ∈ flatC gvC := by decide +kernel
set_option maxRecDepth 100000 in
theorem g_le : ∀ i, i < 12 → Cond.eq (.length (.field (tmJ i) "java/lang/String" "value" "[B")) (.int (Int32.ofNat (lenJ.getD i 0))) ∈ flatC gvC := by decide +kernel
set_option maxRecDepth 100000 in
theorem g_el : ∀ i, i < 12 → ∀ j, j < lenJ.getD i 0 → Cond.eq (.elem (.field (tmJ i) "java/lang/String" "value" "[B") (.int (Int32.ofNat j))) (.int ((bytJ.getD i []).getD j 0)) ∈ flatC gvC := by decide +kernel
set_option maxRecDepth 100000 in
theorem g_ne : ∀ i, i < 12 → ∀ j, j < 12 → i ≠ j → Cond.not (Cond.eq (tmJ i) (tmJ j)) ∈ flatC gvC ∨ Cond.not (Cond.eq (tmJ j) (tmJ i)) ∈ flatC gvC := by decide +kernel
set_option maxRecDepth 100000 in
theorem g_sr : ∀ i, i < 12 → Cond.stringRef RX2 (txJ.getD i (0, "")).1 (txJ.getD i (0, "")).2 ∈ lw_tbl := by decide +kernel
set_option maxRecDepth 100000 in
theorem g_n1 : Cond.methodLinkNest RX3 92 yX4_isIn RX4 ∈ lw_tbl ∧ Cond.methodLinkNest RX4 24 yX2_init RX4 ∈ lw_tbl ∧ Cond.methodLinkNest RX4 31 yX1_init RX4 ∈ lw_tbl := by decide +kernel
set_option maxRecDepth 100000 in
theorem g_st : Cond.laysStatic "java/lang/String" "COMPACT_STRINGS" "Z" ∈ lw_tbl ∧ Cond.laysStatic "jdk/internal/util/Preconditions" "SIOOBE_FORMATTER" "Ljava/util/function/BiFunction;" ∈ lw_tbl ∧ Cond.initialized "java/lang/String" ∈ lw_tbl ∧ Cond.initialized "jdk/internal/util/Preconditions" ∈ lw_tbl ∧ Cond.arrayClass .int ∈ lw_tbl ∧ Cond.arrayClass .char ∈ lw_tbl := by decide +kernel
theorem arr_known {s : State} {args : Array Value} {ty : FieldType} (h : (Cond.arrayClass ty).before args s = true) : ∃ cA : ClassId, s.vm.findClass ("[" ++ ty.toString) = some cA ∧ ArrOfT s cA ty := by
  obtain ⟨c, k, comp, h1, h2, h3⟩ := Cond.arrayClass_spec (first := s) (o := none) (s := s) (idx := []) (args := args) h
  exact ⟨c, h1, fun n z => ⟨fun k h => (by cases h), k, h2, comp, h3⟩⟩

set_option maxHeartbeats 4000000 in
set_option maxRecDepth 100000 in
/-- YOUR PART: from the entry, for every script of at most 3072 ints, the law comes to its end with true ('hflags': the launch's flags, for a law that throws: no stack traces) -/
theorem whole_start {p : Program} {e : Env} {s : State} {m : MethodId} {below : List Frame} {meth : Method} {c : Code} (l : Launch) (hflags : l.flags = flags0) {b L : Nat} {xs : Nat → Int32} (hL : L ≤ 3072) (C0 : lw_At p s m meth c b L xs) : W p l e room_1 s m #[Value.ref b] below meth c s.heap [] 0 0 (lw_Z below #[Value.ref b] s) (entryFrame m ([Value.ref b] : List Value).toArray 4) := by
  obtain ⟨hx, hb, hr, hml, hown, hts, hX, hbl, hlocks, hgv⟩ := id C0
  have hgs := flat_of_before _ hgv
  have hA : ∀ q : Nat, s.heap.size ≤ q → (fun q : Nat => s.heap.size ≤ q) q := fun _ h => h
  have hbA : ¬ (fun q : Nat => s.heap.size ≤ q) b := Nat.not_le.mpr hbl
  have hnA : ∀ a : Nat, a < s.heap.size → ¬ (fun q : Nat => s.heap.size ≤ q) a := fun a h => Nat.not_le.mpr h
  obtain ⟨c0, i0, k0⟩ := u_known (C := RX1) (T := TX1) (N := 3) (n := 3) hts (fun w h => wA_tbl (inX1 w h)) (hts _ (wA_tbl k1_102))
  obtain ⟨c1, i1, k1⟩ := u_known (C := RX2) (T := TX2) (N := 6) (n := 6) hts (fun w h => wA_tbl (inX2 w h)) (hts _ (wA_tbl k1_77))
  obtain ⟨c2, i2, k2⟩ := u_known (C := RX3) (T := TX3) (N := 12) (n := 12) hts (fun w h => wA_tbl (inX3 w h)) (hts _ (wA_tbl k1_24))
  obtain ⟨c3, i3, k3⟩ := u_known (C := RX4) (T := TX4) (N := 7) (n := 7) hts (fun w h => wA_tbl (inX4 w h)) (hts _ (wA_tbl k1_16))
  obtain ⟨c4, i4, k4⟩ := u_known (C := RX5) (T := TX5) (N := 18) (n := 18) hts (fun w h => wA_tbl (inX5 w h)) (hts _ (wA_tbl k3_229))
  obtain ⟨D, hKc⟩ : ∃ D : va_G, ∀ (k : Nat) (q : vw_C), vwCl[k]? = some q → u_Kn s q.1 q.2.1 q.2.2 (D.1 k) (D.2 k) := by
    refine ⟨(fun k => if k = 0 then c0 else if k = 1 then c1 else if k = 2 then c2 else if k = 3 then c3 else c4, fun k => if k = 0 then i0 else if k = 1 then i1 else if k = 2 then i2 else if k = 3 then i3 else i4), ?_⟩
    intro k q hq
    match k, hq with
    | 0, hq => cases hq; exact k0
    | 1, hq => cases hq; exact k1
    | 2, hq => cases hq; exact k2
    | 3, hq => cases hq; exact k3
    | 4, hq => cases hq; exact k4
    | k + 5, hq => simp [vwCl] at hq
  obtain ⟨cI, qI, aI⟩ := arr_known (hts _ g_st.2.2.2.2.1)
  obtain ⟨cC, qC, aC9⟩ := arr_known (hts _ g_st.2.2.2.2.2)
  have hK : va_K D vwCl (tyC cI cC) s := by
    refine ⟨hKc, fun k q h => ?_⟩
    match k, h with
    | 0, h => cases h; exact ⟨aI, qI⟩
    | 1, h => cases h; exact ⟨aC9, qC⟩
    | k + 2, h => simp [tyC] at h
  obtain ⟨adK, adV, hSt, hSe⟩ := vk_Sof (args := #[Value.ref b]) (s := s) (N := 12) (tm := tmJ) (len := lenJ) (byt := bytJ) (A := fun q : Nat => s.heap.size ≤ q) (fun i hi => by have := lenJ_lt i hi; omega) (fun i hi => hgs _ (g_ex i hi)) (fun i hi => hgs _ (g_co i hi)) (fun i hi => hgs _ (g_ar i hi)) (fun i hi => hgs _ (g_le i hi)) (fun i hi j hj => hgs _ (g_el i hi j hj)) (fun i j hi hj hij => (g_ne i hi j hj hij).elim (fun h => Or.inl (hgs _ h)) (fun h => Or.inr (hgs _ h))) hnA
  have hE : eX adK adV (fun q : Nat => s.heap.size ≤ q) s s.heap := by
    refine ⟨va_Zof (args := #[Value.ref b]) (hts _ g_st.1) (hts _ g_st.2.2.1) (va_eqt (hgs (Cond.eq (.static "java/lang/String" "COMPACT_STRINGS" "Z") (.int 1)) (by decide +kernel))) hnA, va_Zqof (args := #[Value.ref b]) (hts _ g_st.2.1) (hts _ g_st.2.2.2.1) (hgs _ (by decide +kernel)) hnA, hts _ g_n1.1, hts _ g_n1.2.1, hts _ g_n1.2.2, hSt, fun i hi => vk_R.of (A := #[Value.ref b]) (hts _ (g_sr i hi)) (hSe i hi)⟩
  have C : aC p s m #[Value.ref b] c cL_law 4 RL D (tyC cI cC) (fun q : Nat => s.heap.size ≤ q) adK adV := ⟨hx, hb, hml, hown, fun w h => hts w (wA_tbl h), hK, hE, hA⟩
  have hl := lv_entry ([.ref b]) (n := 4) (Nat.le_of_ble_eq_true rfl)
  rw [lg_entry_eq]
  generalize (lg_sl ([.ref b]) ++ List.replicate (4 - (lg_sl ([.ref b])).length) Slot.unset).toArray = ls at hl ⊢
  have hl : lv_has ls 4 [(0, .ref b)] := hl
  have kk : AW p l e room_1 s m #[Value.ref b] below meth c D (fun q : Nat => s.heap.size ≤ q) 4 0 0 (lw_Z below #[Value.ref b] s) 0 [(0, .ref b)] [] ([] : va_W) := by
    refine aw_new C (ci := 3) (fs := [.null, .null, .null, .int 0, .null, .null, .null]) inX4 tyX4 tyX4_ok k1_15 k1_16 k1_1 rfl (fun j hj => by have h9 : j = 0 ∨ j = 1 ∨ j = 2 ∨ j = 3 ∨ j = 4 ∨ j = 5 ∨ j = 6 := (by omega); rcases h9 with rfl | rfl | rfl | rfl | rfl | rfl | rfl <;> rfl) (by decide) (by decide) dL_law_0 (fun q0 => ?_)
    refine aw_dup C dL_law_3 rfl ?_
    refine aw_callI C (As := []) (rest := [.ref q0]) (wr := ([] : va_W)) (c_X4_init l D cI cC adK adV q0) k1_17 ci_X4_init rfl [0] (by decide) rfl [] rfl (by decide) (by decide) ⟨by decide, by decide⟩ rfl rfl ⟨by decide, by decide⟩ rfl rfl (Nat.le_of_ble_eq_true rfl) dL_law_4 ?_
    rintro _ w1 ⟨rfl, z, hz, hw1⟩
    refine aw_astore_n C true (lv' := [(0, .ref b), (1, .ref q0)]) dL_law_7 (by decide) rfl rfl ?_
    refine aw_eq rfl rfl (List.nil_append w1) ?_
    refine aw_new C (ci := 4) (fs := [.null, .null, .null, .int 0, .null, .null, .int 0, .int 0, .int 0, .int 0, .long 0, .null, .null, .null, .null, .null, .null, .null]) inX5 tyX5 tyX5_ok k3_228 k3_229 k1_6 rfl (fun j hj => by have h9 : j = 0 ∨ j = 1 ∨ j = 2 ∨ j = 3 ∨ j = 4 ∨ j = 5 ∨ j = 6 ∨ j = 7 ∨ j = 8 ∨ j = 9 ∨ j = 10 ∨ j = 11 ∨ j = 12 ∨ j = 13 ∨ j = 14 ∨ j = 15 ∨ j = 16 ∨ j = 17 := (by omega); rcases h9 with rfl | rfl | rfl | rfl | rfl | rfl | rfl | rfl | rfl | rfl | rfl | rfl | rfl | rfl | rfl | rfl | rfl | rfl <;> rfl) (by decide) (by decide) dL_law_8 (fun q1 => ?_)
    refine aw_dup C dL_law_11 rfl ?_
    have hlen : w1.length = 35 := by rw [hw1]; rfl
    refine aw_callI C (As := []) (rest := [.ref q1]) (wr := w1) (c_X5_init l D cI cC adK adV q1) k3_230 ci_X5_init rfl [35] (by decide) ?_ (List.range 35) ?_ (by decide) (by decide) ⟨by decide, by decide⟩ rfl rfl ⟨by decide, by decide⟩ rfl rfl (Nat.le_of_ble_eq_true rfl) dL_law_12 ?_
    · rw [← hlen]; simp
    · rw [← hlen]; exact rg_C w1 _
    rintro _ w2 ⟨rfl, y, hy, hw2⟩
    refine aw_astore_n C true (lv' := [(0, .ref b), (1, .ref q0), (2, .ref q1)]) dL_law_15 (by decide) rfl rfl ?_
    refine aw_iconst C (0 : Int32) dL_law_16 (by decide) ?_
    refine aw_istore_n C true (lv' := lawL b q0 q1 0) dL_law_17 (by decide) rfl rfl ?_
    refine lawK_loop C hX hbl hbA hL q0 q1 gNew gNew_ok _ ⟨z, y, w1, w2, hz, hy, ⟨_, _, _, _, _, hw1⟩, ⟨_, _, _, _, _, _, _, hw2, fun h => by cases h⟩, by simp [fl]⟩ (fun j w => ?_)
    refine aw_iconst C (1 : Int32) dL_law_1358 (by decide) ?_
    intro H locs ls hP hD hS hl
    exact va_forget (fun q hq => hS.2.2 q hq) (lw_ret hx hb hr hlocks dL_law_1359)
  exact kk s.heap [] ls (fun k q h => by simp at h) ⟨fun i j p q h => by simp at h, fun k q h => by simp at h⟩ va_S.rf hl

set_option maxHeartbeats 4000000 in
theorem lw_walk (l : Launch) (hflags : l.flags = flags0) (b : Addr) (xs : List Int32) : MetFree l x (headSpec (Jvm.Cond.code x code maxLocals ret :: tables_1) room_1) (lw_P b xs) (fun _ _ _ _ _ => True) lw_Q := by
  refine MetFree.of_bodyS (code := code) (maxLocals := maxLocals) (ret := ret) (by decide) ?_ ?_
  · intro args s m h hn
    obtain ⟨meth, c, h1, h2, h3, h4, h5, h6, -, -⟩ := Cond.code_spec hn (atoms_spec (ws := Jvm.Cond.code x code maxLocals ret :: tables_1) h _ List.mem_cons_self)
    exact ⟨meth, c, h1, h2, h3, h4, h5, h6⟩
  · intro p e s m args below meth c s₁ B hml0 hP _
    obtain ⟨rfl, hx, hbd, hgv⟩ := hP
    obtain ⟨scr, harrAt, hlist, hof, hsmall⟩ := hx
    obtain ⟨hcb, hkn, -, -⟩ := State.arrayAt?_spec harrAt
    have hown : s.vm.findClass R_law = some m.cls := findClass_of_methodNamed B.named
    have hts0 : ∀ c ∈ (Jvm.Cond.code x code maxLocals ret :: tables_1), c.before #[Value.ref b] s = true := atoms_spec (ws := Jvm.Cond.code x code maxLocals ret :: tables_1) B.pre
    have hts : ∀ w ∈ lw_tbl, w.before #[Value.ref b] s = true := k2_hts_sels lw_privs (fun w hw => hts0 w (List.mem_cons_of_mem _ hw)) lw_privs_ok
    have hml : c.maxLocals = 4 := B.maxLocals_eq (hts0 _ List.mem_cons_self)
    have X₀ : Stand p l e room_1 s m #[Value.ref b] below meth c s₁ [] 0 0 := Stand.of_body B
    have hh0 : s₁.heap = s.heap := by rw [B.state]; rfl
    have hsz : scr.slots.size = xs.length := by rw [← Array.length_toList, hlist, List.length_map]
    have hval : ∀ j : Nat, j < xs.length → scr.slots[j]? = some (.int (xs.getD j 0)) := fun j hj => by
      rw [← Array.getElem?_toList, hlist]
      simp [hj]
    have hbl : b < s.heap.size := (Array.getElem?_eq_some_iff.mp hcb).1
    have hX : va_X b xs.length (fun j => xs.getD j 0) s s.heap := ⟨scr, hcb, hof, hkn, hsz, hval⟩
    have K : W p l e room_1 s m #[Value.ref b] below meth c s₁.heap [] 0 0 (lw_Z below #[Value.ref b] s) (entryFrame m ([Value.ref b] : List Value).toArray 4) := by
      rw [hh0]
      exact whole_start l hflags hbd ⟨B.exec, B.bytes, B.returns, hml, hown, hts, hX, hbl, B.notSynchronized, hgv⟩
    obtain ⟨t, a1, o, b1, b2, b3⟩ := K s₁ rfl X₀
    exact ⟨t, o, a1, b1, b2, b3⟩
theorem lw_pre_spec {args : Array Value} {s : State} (h : (Jvm.Cond.and given_1 narrow_1).before args s = true) (hr : rest_1_c.before args s = true) : ∃ (b : Addr) (xs : List Int32), lw_P b xs args s := by
  have hs := flat_of_before _ h
  have hq := flat_of_before _ hr
  have hc : (Cond.count 1).before args s = true := hs _ (by decide +kernel)
  have harr : (Cond.arrayOf (.arg 0) .int).before args s = true := hs _ (by decide +kernel)
  have hle : (Cond.le (.length (.arg 0)) (.int 3072)).before args s = true := hs _ (by decide +kernel)
  have hlen : (Cond.isInt (.length (.arg 0))).before args s = true := hq _ (by decide +kernel)
  have hall : (Cond.all (.arg 0) (.isInt (.elem (.arg 0) (.index 0)))).before args s = true := hq _ (by decide +kernel)
  obtain ⟨b, xs, hb, hx⟩ := State.ints_of_pre rfl harr hlen hall
  have hsm : xs.length < 2 ^ 31 := hx.choose_spec.2.2.2
  have hev : (Term.length (.arg 0)).eval args s none [] s = some (.int xs.length.toInt32) := hx.length_eval hb
  have hv := Cond.le_ints hev (show (Term.int 3072).eval args s none [] s = some (.int 3072) from rfl)
  have hd : xs.length.toInt32 ≤ 3072 := by
    simpa [Cond.before, Cond.holds, hv] using hle
  have hN : xs.length ≤ 3072 := (Int32.ofNat_le_ofNat hsm (by decide)).mp (show Int32.ofNat xs.length ≤ Int32.ofNat 3072 from hd)
  exact ⟨b, xs, Cond.one_arg hc (show args[0]? = some (.ref b) from hb), hx, hN, h⟩
theorem lw_comes (l : Launch) (hflags : l.flags = flags0) : Comes l x (Jvm.Cond.code x code maxLocals ret :: tables_1) room_1 (fun tb e args s => Calls_1 tb e args s ∧ rest_1 tb e args s ∧ Pre_1 tb e args s)
    (fun _ _ args s o t => lw_Q args s o t) := by
  intro p e ha hc hk s m args below hf hfit hheap happ hpre
  obtain ⟨b, xs, hP⟩ := lw_pre_spec hpre.2.2 hpre.2.1
  obtain ⟨k, o, h1, h2, h3, hQ⟩ := lw_walk l hflags b xs p e ha hc hk s m args below hf ((Spec.applies_iff_loose hf).mp happ).1 hP trivial
  exact ⟨k, o, h1, h2, h3, hQ⟩
theorem lw_frame {s t : State} {o : Outcome} {args : Array Value} (h : Framed s o t [] 48 1216) :
    Framed s o t (fieldLocs frame_1_writes args s ++ arrayLocs frame_1_arrays args s ++ staticLocs frame_1_statics s) 48 1216 := h
theorem lw_limb (L : Cond) (hL : ∀ (args : Array Value) (s t : State), L.after args s (.returned (some (.int 1))) t = true) :
    ArmFor flags0 classFile x code maxLocals ret World_1 tables_1 room_1 Calls_1 rest_1 Pre_1
      (fun tb e a s o t => postC L tb e a s o t ∧ Framed s o t (fieldLocs frame_1_writes a s ++ arrayLocs frame_1_arrays a s ++ staticLocs frame_1_statics s) 48 1216) := by
  intro l hflags _ _ p e ha hc hk s m args below hf hfit hheap happ hpre
  obtain ⟨k, o, h1, h2, h3, rfl, hF⟩ := lw_comes l hflags p e ha hc hk s m args below hf hfit hheap happ hpre
  exact ⟨k, _, h1, h2, h3, hL args s _, lw_frame hF⟩
theorem i_vc : Claimed_1_1 ∧ Claimed_1_2 := ⟨lw_limb limb_1_1 (fun args s t => by simp [limb_1_1, Cond.after, Cond.holds, Cond.value]), lw_limb limb_1_2 (fun args s t => Cond.after_iff.mpr (by
  first | (rw [show limb_1_2 = Cond.eq .result (.int 1) from rfl, Cond.eq_ints (x := 1) (y := 1) rfl rfl]; simp; done) | (simp [limb_1_2, Cond.value, Term.eval]; done)))⟩

