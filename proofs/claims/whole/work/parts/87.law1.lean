section Law1
variable {l : Launch} {D : va_G} {cI cC cJ cG : ClassId} {ε : EnvT} {b L : Nat} {xs : Nat → Int32} {H hk hr h : Nat → Nat} {x : XSt} {m : MSt} {k9 n9 : Nat} {rm : Room} {ws : va_W} {pc : Nat} {lv : List (Nat × Value)} {st : List Value} {ret : Option FieldType} {own : String} {Ts : List Cond} {cc : ByteArray} {tys : List (ClassId × FieldType)}
/-- the script: L ints at b, out of reach -/
def ScE (ε : EnvT) (b L : Nat) (xs : Nat → Int32) : Prop :=
  match ε with
  | (_, _, s, _, _, _, _, _, _, A, _) => va_X b L xs s s.heap ∧ b < s.heap.size ∧ ¬ A b
theorem jk_sld (E : En D tys ε cc own Ts ret) (SC : ScE ε b L xs) (hL : L < 2 ^ 31) {j : Nat} (hj : j < L) (hdg : decode cc pc = .ok (.iaload, 1)) (kk : JK l rm D ε k9 n9 ws (pc + 1) lv (.int (xs j) :: st)) : JK l rm D ε k9 n9 ws pc lv (.int (nI j) :: .ref b :: st) := by
  obtain ⟨p, e, s, m9, args, below, meth, c, Q, A, nL⟩ := ε
  obtain ⟨hx, hb, hml, hown, hts, hr, hlocks, hK, hA, hNW, hZ⟩ := E
  intro H9 locs ls hP hD hS hl
  exact va_sld hx hb SC.1 SC.2.1 SC.2.2 hS (vp_in_nI hj hL) hdg (by rw [nI_clamp (by omega)]; exact kk H9 locs ls hP hD hS hl)
theorem jk_slen (E : En D tys ε cc own Ts ret) (SC : ScE ε b L xs) (hdg : decode cc pc = .ok (.arraylength, 1)) (kk : JK l rm D ε k9 n9 ws (pc + 1) lv (.int (nI L) :: st)) : JK l rm D ε k9 n9 ws pc lv (.ref b :: st) := by
  obtain ⟨p, e, s, m9, args, below, meth, c, Q, A, nL⟩ := ε
  obtain ⟨hx, hb, hml, hown, hts, hr, hlocks, hK, hA, hNW, hZ⟩ := E
  intro H9 locs ls hP hD hS hl
  exact va_slen hx hb SC.1 SC.2.1 SC.2.2 hS hdg (kk H9 locs ls hP hD hS hl)
theorem jk_tabIn (E : En D tys ε cc own Ts ret) {dflt lo hi : Int} {offs : Array Int} {len : Nat} {k : Nat} {off : Int} (tgt : Nat) (hdg : decode cc pc = .ok (.tableswitch dflt lo hi offs, len)) (hk : k < 2 ^ 31) (h1 : ¬ (k : Int) < lo) (h2 : ¬ hi < (k : Int)) (h3 : offs[((k : Int) - lo).toNat]? = some off) (ht : (pc : Int) + off = (tgt : Int)) (kk : JK l rm D ε k9 n9 ws tgt lv st) : JK l rm D ε k9 n9 ws pc lv (.int (nI k) :: st) := by
  obtain ⟨p, e, s, m9, args, below, meth, c, Q, A, nL⟩ := ε
  obtain ⟨hx, hb, hml, hown, hts, hr, hlocks, hK, hA, hNW, hZ⟩ := E
  intro H9 locs ls hP hD hS hl
  exact lv_tableIn hx hb hdg (by rw [nI_toInt hk]; exact h1) (by rw [nI_toInt hk]; exact h2) (by rw [nI_toInt hk]; exact h3) ht (kk H9 locs ls hP hD hS hl)
theorem jk_tabOut (E : En D tys ε cc own Ts ret) {dflt lo hi : Int} {offs : Array Int} {len : Nat} {k : Nat} (tgt : Nat) (hdg : decode cc pc = .ok (.tableswitch dflt lo hi offs, len)) (hk : k < 2 ^ 31) (h1 : (k : Int) < lo ∨ hi < (k : Int)) (ht : (pc : Int) + dflt = (tgt : Int)) (kk : JK l rm D ε k9 n9 ws tgt lv st) : JK l rm D ε k9 n9 ws pc lv (.int (nI k) :: st) := by
  obtain ⟨p, e, s, m9, args, below, meth, c, Q, A, nL⟩ := ε
  obtain ⟨hx, hb, hml, hown, hts, hr, hlocks, hK, hA, hNW, hZ⟩ := E
  intro H9 locs ls hP hD hS hl
  exact lv_tableOut hx hb hdg (by rw [nI_toInt hk]; exact h1) ht (kk H9 locs ls hP hD hS hl)
set_option maxRecDepth 100000 in
theorem jl_X (E : En D [(cI, .int), (cC, .char), (cJ, .long), (cG, .object "PushdownGameSolver$Game")] ε cc own Ts ret) {y : MethodName} {bytes : ByteArray} {maxL : Nat} {rt : Option FieldType} {w w' : List Cond} {dx : Nat} {As rest : List Value} {n index : Nat} {v : Value} {x' : XSt} (hM : Ct l y w (rmD dx) D [(cI, .int), (cC, .char), (cJ, .long), (cG, .object "PushdownGameSolver$Game")] (.ref (H 0) :: As) (wX cI cC cJ cG H hk hr x) (S := Unit) (fun _ => True) (fun _ => some v) (fun _ => wX cI cC cJ cG H hk hr x')) (hG : GoodIn Ts (wsV own index RX9 y w)) (hd : y.cls = RX9 ∧ y.cls ≠ "java/lang/invoke/MethodHandle" ∧ y.cls ≠ "java/lang/invoke/VarHandle" ∧ (parseMethodDescriptor y.desc).map (fun d => d.parameters.length) = some n) (hw : w = Cond.code y bytes maxL rt :: w') (hdx : dx ≤ 100) (hmx : maxL ≤ 100) (hn : As.length = n) (hst : st = As.reverse ++ .ref (H 0) :: rest) (hcat : (rest.map fun v => v.category).sum ≤ 8) (hdg : decode cc pc = .ok (.invokevirtual index, 3)) (kk : JK l room_1 D ε 44 1825 (wX cI cC cJ cG H hk hr x' ++ wM cI cC cJ cG h m) (pc + 3) lv (v :: rest)) : JK l room_1 D ε 44 1825 (wX cI cC cJ cG H hk hr x ++ wM cI cC cJ cG h m) pc lv st :=
  jk_V2 (n9 := 44) E hM hG hd hw ⟨rfl, rfl⟩ ⟨by show dx + 1 ≤ 2048; omega, by show 8 + (maxL + 11) + 40 * dx ≤ 84000; omega⟩ hn [0, 1, 2, 3, 4, 5, 6, 7, 8, 9, 10, 11, 12, 13, 14, 15, 16, 17, 18, 19, 20, 21, 22, 23, 24, 25, 26, 27, 28, 29] rfl [30, 31, 32, 33, 34, 35, 36, 37, 38, 39, 40, 41, 42, 43] (wX cI cC cJ cG H hk hr x' ++ wM cI cC cJ cG h m) (fun _ => rfl) (wM cI cC cJ cG h m) [H 0, H 1, H 2, H 3, H 4, H 5, H 6, H 7, H 8, hk 0, hr 0, hk 1, hr 1, hk 2, hr 2, hk 3, hr 3, hk 4, hr 4, hk 5, hr 5, H 21, H 22, H 23, H 24, H 25, H 26, H 27, H 28, H 29, h 0, h 1, h 2, h 3, h 4, h 5, h 6, h 7, h 8, h 9, h 10, h 11, h 12, h 13] rfl rfl rfl rfl rfl (by decide) (by decide) 0 rfl rfl hst hcat hdg (fun _ _ => kk) rfl ⟨by decide, by decide⟩
set_option maxRecDepth 100000 in
theorem jl_M (E : En D [(cI, .int), (cC, .char), (cJ, .long), (cG, .object "PushdownGameSolver$Game")] ε cc own Ts ret) {y : MethodName} {bytes : ByteArray} {maxL : Nat} {rt : Option FieldType} {w w' : List Cond} {dx : Nat} {As rest : List Value} {n index : Nat} {v : Value} {S : Type} {psi : S → Prop} {m' : S → MSt} (hM : Ct l y w (rmD dx) D [(cI, .int), (cC, .char), (cJ, .long), (cG, .object "PushdownGameSolver$Game")] (.ref (h 0) :: As) (wM cI cC cJ cG h m) psi (fun _ => some v) (fun u => wM cI cC cJ cG h (m' u))) (hG : GoodIn Ts (wsV own index RX10 y w)) (hd : y.cls = RX10 ∧ y.cls ≠ "java/lang/invoke/MethodHandle" ∧ y.cls ≠ "java/lang/invoke/VarHandle" ∧ (parseMethodDescriptor y.desc).map (fun d => d.parameters.length) = some n) (hw : w = Cond.code y bytes maxL rt :: w') (hdx : dx ≤ 100) (hmx : maxL ≤ 100) (hn : As.length = n) (hst : st = As.reverse ++ .ref (h 0) :: rest) (hcat : (rest.map fun v => v.category).sum ≤ 8) (hdg : decode cc pc = .ok (.invokevirtual index, 3)) (kk : ∀ u, psi u → JK l room_1 D ε 44 1825 (wX cI cC cJ cG H hk hr x ++ wM cI cC cJ cG h (m' u)) (pc + 3) lv (v :: rest)) : JK l room_1 D ε 44 1825 (wX cI cC cJ cG H hk hr x ++ wM cI cC cJ cG h m) pc lv st :=
  jk_V3 (n9 := 44) E hM hG hd hw ⟨rfl, rfl⟩ ⟨by show dx + 1 ≤ 2048; omega, by show 8 + (maxL + 11) + 40 * dx ≤ 84000; omega⟩ hn [30, 31, 32, 33, 34, 35, 36, 37, 38, 39, 40, 41, 42, 43] rfl [0, 1, 2, 3, 4, 5, 6, 7, 8, 9, 10, 11, 12, 13, 14, 15, 16, 17, 18, 19, 20, 21, 22, 23, 24, 25, 26, 27, 28, 29] (fun u => (wX cI cC cJ cG H hk hr x ++ wM cI cC cJ cG h (m' u))) (fun _ => rfl) (wX cI cC cJ cG H hk hr x) [H 0, H 1, H 2, H 3, H 4, H 5, H 6, H 7, H 8, hk 0, hr 0, hk 1, hr 1, hk 2, hr 2, hk 3, hr 3, hk 4, hr 4, hk 5, hr 5, H 21, H 22, H 23, H 24, H 25, H 26, H 27, H 28, H 29, h 0, h 1, h 2, h 3, h 4, h 5, h 6, h 7, h 8, h 9, h 10, h 11, h 12, h 13] (fun _ => rfl) rfl (fun _ => rfl) rfl (fun _ => rfl) (by decide) (by decide) 0 rfl rfl hst hcat hdg (fun u hu => kk u hu) rfl ⟨by decide, by decide⟩
theorem lcmp_0 (z : Int64) : lg_cmp z z = 0 := by
  unfold lg_cmp
  simp
theorem lh_X9_append : yX9_append.cls = RX9 ∧ yX9_append.cls ≠ "java/lang/invoke/MethodHandle" ∧ yX9_append.cls ≠ "java/lang/invoke/VarHandle" ∧ (parseMethodDescriptor yX9_append.desc).map (fun d => d.parameters.length) = some 1 := ⟨rfl, by decide +kernel⟩
theorem lh_X10_append : yX10_append.cls = RX10 ∧ yX10_append.cls ≠ "java/lang/invoke/MethodHandle" ∧ yX10_append.cls ≠ "java/lang/invoke/VarHandle" ∧ (parseMethodDescriptor yX10_append.desc).map (fun d => d.parameters.length) = some 1 := ⟨rfl, by decide +kernel⟩
set_option maxRecDepth 100000 in
set_option maxHeartbeats 4000000 in
theorem lc_append (EE : En D [(cI, .int), (cC, .char), (cJ, .long), (cG, .object "PushdownGameSolver$Game")] ε cL_law RL wsL_law ret) (SC : ScE ε b L xs) (hL : L ≤ 3072) {i : Nat} (hi6 : i + 6 ≤ L) (hI : Inv x m) (kk : ∀ (x : XSt) (m : MSt), Inv x m → JK l room_1 D ε 44 1825 (wX cI cC cJ cG H hk hr x ++ wM cI cC cJ cG h m) 866 [(3, .int (nI i)), (2, .ref (h 0)), (1, .ref (H 0)), (0, .ref b)] []) : JK l room_1 D ε 44 1825 (wX cI cC cJ cG H hk hr x ++ wM cI cC cJ cG h m) 172 [(3, .int (nI i)), (2, .ref (h 0)), (1, .ref (H 0)), (0, .ref b)] [] := by
  obtain ⟨z, x2, S2, psi, m2, dx, dm, d1, d2, hinv, hX, hM⟩ := st_append (l := l) (D := D) (cI := cI) (cC := cC) (cJ := cJ) (cG := cG) (xs (i + 1)) hI
  refine jk_aload_n EE 2 dL_law_172 rfl rfl ?_
  refine jk_aload_n EE 3 dL_law_173 rfl rfl ?_
  refine jk_iload_n EE 0 dL_law_174 rfl rfl ?_
  refine jk_iconst (v := nI 1) EE dL_law_175 (by decide) ?_
  refine jk_iadd EE dL_law_176 ?_
  refine jk_topE (y := nI (i + 1)) (nI_add i 1) ?_
  refine jk_sld EE SC (by omega) (j := i + 1) (by omega) dL_law_177 ?_
  refine jl_X (As := [.int (xs (i + 1))]) EE (hX H hk hr) gL_law_X9_append lh_X9_append rfl d1 (by decide) rfl rfl (Nat.le_of_ble_eq_true rfl) dL_law_178 ?_
  refine jk_aload_n EE 1 dL_law_181 rfl rfl ?_
  refine jk_aload_n EE 3 dL_law_182 rfl rfl ?_
  refine jk_iload_n EE 0 dL_law_183 rfl rfl ?_
  refine jk_iconst (v := nI 1) EE dL_law_184 (by decide) ?_
  refine jk_iadd EE dL_law_185 ?_
  refine jk_topE (y := nI (i + 1)) (nI_add i 1) ?_
  refine jk_sld EE SC (by omega) (j := i + 1) (by omega) dL_law_186 ?_
  refine jl_M (As := [.int (xs (i + 1))]) EE (hM h) gL_law_X10_append lh_X10_append rfl d2 (by decide) rfl rfl (Nat.le_of_ble_eq_true rfl) dL_law_187 (fun u hu => ?_)
  exact jk_icmp_eq EE 866 dL_law_190 (by decide) (fun _ => kk x2 (m2 u) (hinv u hu)) (fun c9 => absurd rfl c9)
theorem lh_X9_clearText : yX9_clearText.cls = RX9 ∧ yX9_clearText.cls ≠ "java/lang/invoke/MethodHandle" ∧ yX9_clearText.cls ≠ "java/lang/invoke/VarHandle" ∧ (parseMethodDescriptor yX9_clearText.desc).map (fun d => d.parameters.length) = some 0 := ⟨rfl, by decide +kernel⟩
theorem lh_X10_clearText : yX10_clearText.cls = RX10 ∧ yX10_clearText.cls ≠ "java/lang/invoke/MethodHandle" ∧ yX10_clearText.cls ≠ "java/lang/invoke/VarHandle" ∧ (parseMethodDescriptor yX10_clearText.desc).map (fun d => d.parameters.length) = some 0 := ⟨rfl, by decide +kernel⟩
set_option maxRecDepth 100000 in
set_option maxHeartbeats 4000000 in
theorem lc_clearText (EE : En D [(cI, .int), (cC, .char), (cJ, .long), (cG, .object "PushdownGameSolver$Game")] ε cL_law RL wsL_law ret) (SC : ScE ε b L xs) (hL : L ≤ 3072) {i : Nat} (hi6 : i + 6 ≤ L) (hI : Inv x m) (kk : ∀ (x : XSt) (m : MSt), Inv x m → JK l room_1 D ε 44 1825 (wX cI cC cJ cG H hk hr x ++ wM cI cC cJ cG h m) 866 [(3, .int (nI i)), (2, .ref (h 0)), (1, .ref (H 0)), (0, .ref b)] []) : JK l room_1 D ε 44 1825 (wX cI cC cJ cG H hk hr x ++ wM cI cC cJ cG h m) 195 [(3, .int (nI i)), (2, .ref (h 0)), (1, .ref (H 0)), (0, .ref b)] [] := by
  obtain ⟨z, x2, S2, psi, m2, dx, dm, d1, d2, hinv, hX, hM⟩ := st_clearText (l := l) (D := D) (cI := cI) (cC := cC) (cJ := cJ) (cG := cG)  hI
  refine jk_aload_n EE 2 dL_law_195 rfl rfl ?_
  refine jl_X (As := []) EE (hX H hk hr) gL_law_X9_clearText lh_X9_clearText rfl d1 (by decide) rfl rfl (Nat.le_of_ble_eq_true rfl) dL_law_196 ?_
  refine jk_aload_n EE 1 dL_law_199 rfl rfl ?_
  refine jl_M (As := []) EE (hM h) gL_law_X10_clearText lh_X10_clearText rfl d2 (by decide) rfl rfl (Nat.le_of_ble_eq_true rfl) dL_law_200 (fun u hu => ?_)
  exact jk_icmp_eq EE 866 dL_law_203 (by decide) (fun _ => kk x2 (m2 u) (hinv u hu)) (fun c9 => absurd rfl c9)
theorem lh_X9_firstError : yX9_firstError.cls = RX9 ∧ yX9_firstError.cls ≠ "java/lang/invoke/MethodHandle" ∧ yX9_firstError.cls ≠ "java/lang/invoke/VarHandle" ∧ (parseMethodDescriptor yX9_firstError.desc).map (fun d => d.parameters.length) = some 0 := ⟨rfl, by decide +kernel⟩
theorem lh_X10_firstError : yX10_firstError.cls = RX10 ∧ yX10_firstError.cls ≠ "java/lang/invoke/MethodHandle" ∧ yX10_firstError.cls ≠ "java/lang/invoke/VarHandle" ∧ (parseMethodDescriptor yX10_firstError.desc).map (fun d => d.parameters.length) = some 0 := ⟨rfl, by decide +kernel⟩
set_option maxRecDepth 100000 in
set_option maxHeartbeats 4000000 in
theorem lc_firstError (EE : En D [(cI, .int), (cC, .char), (cJ, .long), (cG, .object "PushdownGameSolver$Game")] ε cL_law RL wsL_law ret) (SC : ScE ε b L xs) (hL : L ≤ 3072) {i : Nat} (hi6 : i + 6 ≤ L) (hI : Inv x m) (kk : ∀ (x : XSt) (m : MSt), Inv x m → JK l room_1 D ε 44 1825 (wX cI cC cJ cG H hk hr x ++ wM cI cC cJ cG h m) 866 [(3, .int (nI i)), (2, .ref (h 0)), (1, .ref (H 0)), (0, .ref b)] []) : JK l room_1 D ε 44 1825 (wX cI cC cJ cG H hk hr x ++ wM cI cC cJ cG h m) 208 [(3, .int (nI i)), (2, .ref (h 0)), (1, .ref (H 0)), (0, .ref b)] [] := by
  obtain ⟨z, x2, S2, psi, m2, dx, dm, d1, d2, hinv, hX, hM⟩ := st_firstError (l := l) (D := D) (cI := cI) (cC := cC) (cJ := cJ) (cG := cG)  hI
  refine jk_aload_n EE 2 dL_law_208 rfl rfl ?_
  refine jl_X (As := []) EE (hX H hk hr) gL_law_X9_firstError lh_X9_firstError rfl d1 (by decide) rfl rfl (Nat.le_of_ble_eq_true rfl) dL_law_209 ?_
  refine jk_aload_n EE 1 dL_law_212 rfl rfl ?_
  refine jl_M (As := []) EE (hM h) gL_law_X10_firstError lh_X10_firstError rfl d2 (by decide) rfl rfl (Nat.le_of_ble_eq_true rfl) dL_law_213 (fun u hu => ?_)
  exact jk_icmp_eq EE 866 dL_law_216 (by decide) (fun _ => kk x2 (m2 u) (hinv u hu)) (fun c9 => absurd rfl c9)
theorem lh_X9_configure : yX9_configure.cls = RX9 ∧ yX9_configure.cls ≠ "java/lang/invoke/MethodHandle" ∧ yX9_configure.cls ≠ "java/lang/invoke/VarHandle" ∧ (parseMethodDescriptor yX9_configure.desc).map (fun d => d.parameters.length) = some 0 := ⟨rfl, by decide +kernel⟩
theorem lh_X10_configure : yX10_configure.cls = RX10 ∧ yX10_configure.cls ≠ "java/lang/invoke/MethodHandle" ∧ yX10_configure.cls ≠ "java/lang/invoke/VarHandle" ∧ (parseMethodDescriptor yX10_configure.desc).map (fun d => d.parameters.length) = some 0 := ⟨rfl, by decide +kernel⟩
set_option maxRecDepth 100000 in
set_option maxHeartbeats 4000000 in
theorem lc_configure (EE : En D [(cI, .int), (cC, .char), (cJ, .long), (cG, .object "PushdownGameSolver$Game")] ε cL_law RL wsL_law ret) (SC : ScE ε b L xs) (hL : L ≤ 3072) {i : Nat} (hi6 : i + 6 ≤ L) (hI : Inv x m) (kk : ∀ (x : XSt) (m : MSt), Inv x m → JK l room_1 D ε 44 1825 (wX cI cC cJ cG H hk hr x ++ wM cI cC cJ cG h m) 866 [(3, .int (nI i)), (2, .ref (h 0)), (1, .ref (H 0)), (0, .ref b)] []) : JK l room_1 D ε 44 1825 (wX cI cC cJ cG H hk hr x ++ wM cI cC cJ cG h m) 221 [(3, .int (nI i)), (2, .ref (h 0)), (1, .ref (H 0)), (0, .ref b)] [] := by
  obtain ⟨z, x2, S2, psi, m2, dx, dm, d1, d2, hinv, hX, hM⟩ := st_configure (l := l) (D := D) (cI := cI) (cC := cC) (cJ := cJ) (cG := cG)  hI
  refine jk_aload_n EE 2 dL_law_221 rfl rfl ?_
  refine jl_X (As := []) EE (hX H hk hr) gL_law_X9_configure lh_X9_configure rfl d1 (by decide) rfl rfl (Nat.le_of_ble_eq_true rfl) dL_law_222 ?_
  refine jk_aload_n EE 1 dL_law_225 rfl rfl ?_
  refine jl_M (As := []) EE (hM h) gL_law_X10_configure lh_X10_configure rfl d2 (by decide) rfl rfl (Nat.le_of_ble_eq_true rfl) dL_law_226 (fun u hu => ?_)
  exact jk_icmp_eq EE 866 dL_law_229 (by decide) (fun _ => kk x2 (m2 u) (hinv u hu)) (fun c9 => absurd rfl c9)
theorem lh_X9_addRule : yX9_addRule.cls = RX9 ∧ yX9_addRule.cls ≠ "java/lang/invoke/MethodHandle" ∧ yX9_addRule.cls ≠ "java/lang/invoke/VarHandle" ∧ (parseMethodDescriptor yX9_addRule.desc).map (fun d => d.parameters.length) = some 5 := ⟨rfl, by decide +kernel⟩
theorem lh_X10_addRule : yX10_addRule.cls = RX10 ∧ yX10_addRule.cls ≠ "java/lang/invoke/MethodHandle" ∧ yX10_addRule.cls ≠ "java/lang/invoke/VarHandle" ∧ (parseMethodDescriptor yX10_addRule.desc).map (fun d => d.parameters.length) = some 5 := ⟨rfl, by decide +kernel⟩
set_option maxRecDepth 100000 in
set_option maxHeartbeats 4000000 in
theorem lc_addRule (EE : En D [(cI, .int), (cC, .char), (cJ, .long), (cG, .object "PushdownGameSolver$Game")] ε cL_law RL wsL_law ret) (SC : ScE ε b L xs) (hL : L ≤ 3072) {i : Nat} (hi6 : i + 6 ≤ L) (hI : Inv x m) (kk : ∀ (x : XSt) (m : MSt), Inv x m → JK l room_1 D ε 44 1825 (wX cI cC cJ cG H hk hr x ++ wM cI cC cJ cG h m) 866 [(3, .int (nI i)), (2, .ref (h 0)), (1, .ref (H 0)), (0, .ref b)] []) : JK l room_1 D ε 44 1825 (wX cI cC cJ cG H hk hr x ++ wM cI cC cJ cG h m) 234 [(3, .int (nI i)), (2, .ref (h 0)), (1, .ref (H 0)), (0, .ref b)] [] := by
  obtain ⟨z, x2, S2, psi, m2, dx, dm, d1, d2, hinv, hX, hM⟩ := st_addRule (l := l) (D := D) (cI := cI) (cC := cC) (cJ := cJ) (cG := cG) (xs (i + 1)) (xs (i + 2)) (xs (i + 3)) (xs (i + 4)) (xs (i + 5)) hI
  refine jk_aload_n EE 2 dL_law_234 rfl rfl ?_
  refine jk_aload_n EE 3 dL_law_235 rfl rfl ?_
  refine jk_iload_n EE 0 dL_law_236 rfl rfl ?_
  refine jk_iconst (v := nI 1) EE dL_law_237 (by decide) ?_
  refine jk_iadd EE dL_law_238 ?_
  refine jk_topE (y := nI (i + 1)) (nI_add i 1) ?_
  refine jk_sld EE SC (by omega) (j := i + 1) (by omega) dL_law_239 ?_
  refine jk_aload_n EE 3 dL_law_240 rfl rfl ?_
  refine jk_iload_n EE 0 dL_law_241 rfl rfl ?_
  refine jk_iconst (v := nI 2) EE dL_law_242 (by decide) ?_
  refine jk_iadd EE dL_law_243 ?_
  refine jk_topE (y := nI (i + 2)) (nI_add i 2) ?_
  refine jk_sld EE SC (by omega) (j := i + 2) (by omega) dL_law_244 ?_
  refine jk_aload_n EE 3 dL_law_245 rfl rfl ?_
  refine jk_iload_n EE 0 dL_law_246 rfl rfl ?_
  refine jk_iconst (v := nI 3) EE dL_law_247 (by decide) ?_
  refine jk_iadd EE dL_law_248 ?_
  refine jk_topE (y := nI (i + 3)) (nI_add i 3) ?_
  refine jk_sld EE SC (by omega) (j := i + 3) (by omega) dL_law_249 ?_
  refine jk_aload_n EE 3 dL_law_250 rfl rfl ?_
  refine jk_iload_n EE 0 dL_law_251 rfl rfl ?_
  refine jk_iconst (v := nI 4) EE dL_law_252 (by decide) ?_
  refine jk_iadd EE dL_law_253 ?_
  refine jk_topE (y := nI (i + 4)) (nI_add i 4) ?_
  refine jk_sld EE SC (by omega) (j := i + 4) (by omega) dL_law_254 ?_
  refine jk_aload_n EE 3 dL_law_255 rfl rfl ?_
  refine jk_iload_n EE 0 dL_law_256 rfl rfl ?_
  refine jk_iconst (v := nI 5) EE dL_law_257 (by decide) ?_
  refine jk_iadd EE dL_law_258 ?_
  refine jk_topE (y := nI (i + 5)) (nI_add i 5) ?_
  refine jk_sld EE SC (by omega) (j := i + 5) (by omega) dL_law_259 ?_
  refine jl_X (As := [.int (xs (i + 1)), .int (xs (i + 2)), .int (xs (i + 3)), .int (xs (i + 4)), .int (xs (i + 5))]) EE (hX H hk hr) gL_law_X9_addRule lh_X9_addRule rfl d1 (by decide) rfl rfl (Nat.le_of_ble_eq_true rfl) dL_law_260 ?_
  refine jk_aload_n EE 1 dL_law_263 rfl rfl ?_
  refine jk_aload_n EE 3 dL_law_264 rfl rfl ?_
  refine jk_iload_n EE 0 dL_law_265 rfl rfl ?_
  refine jk_iconst (v := nI 1) EE dL_law_266 (by decide) ?_
  refine jk_iadd EE dL_law_267 ?_
  refine jk_topE (y := nI (i + 1)) (nI_add i 1) ?_
  refine jk_sld EE SC (by omega) (j := i + 1) (by omega) dL_law_268 ?_
  refine jk_aload_n EE 3 dL_law_269 rfl rfl ?_
  refine jk_iload_n EE 0 dL_law_270 rfl rfl ?_
  refine jk_iconst (v := nI 2) EE dL_law_271 (by decide) ?_
  refine jk_iadd EE dL_law_272 ?_
  refine jk_topE (y := nI (i + 2)) (nI_add i 2) ?_
  refine jk_sld EE SC (by omega) (j := i + 2) (by omega) dL_law_273 ?_
  refine jk_aload_n EE 3 dL_law_274 rfl rfl ?_
  refine jk_iload_n EE 0 dL_law_275 rfl rfl ?_
  refine jk_iconst (v := nI 3) EE dL_law_276 (by decide) ?_
  refine jk_iadd EE dL_law_277 ?_
  refine jk_topE (y := nI (i + 3)) (nI_add i 3) ?_
  refine jk_sld EE SC (by omega) (j := i + 3) (by omega) dL_law_278 ?_
  refine jk_aload_n EE 3 dL_law_279 rfl rfl ?_
  refine jk_iload_n EE 0 dL_law_280 rfl rfl ?_
  refine jk_iconst (v := nI 4) EE dL_law_281 (by decide) ?_
  refine jk_iadd EE dL_law_282 ?_
  refine jk_topE (y := nI (i + 4)) (nI_add i 4) ?_
  refine jk_sld EE SC (by omega) (j := i + 4) (by omega) dL_law_283 ?_
  refine jk_aload_n EE 3 dL_law_284 rfl rfl ?_
  refine jk_iload_n EE 0 dL_law_285 rfl rfl ?_
  refine jk_iconst (v := nI 5) EE dL_law_286 (by decide) ?_
  refine jk_iadd EE dL_law_287 ?_
  refine jk_topE (y := nI (i + 5)) (nI_add i 5) ?_
  refine jk_sld EE SC (by omega) (j := i + 5) (by omega) dL_law_288 ?_
  refine jl_M (As := [.int (xs (i + 1)), .int (xs (i + 2)), .int (xs (i + 3)), .int (xs (i + 4)), .int (xs (i + 5))]) EE (hM h) gL_law_X10_addRule lh_X10_addRule rfl d2 (by decide) rfl rfl (Nat.le_of_ble_eq_true rfl) dL_law_289 (fun u hu => ?_)
  exact jk_icmp_eq EE 866 dL_law_292 (by decide) (fun _ => kk x2 (m2 u) (hinv u hu)) (fun c9 => absurd rfl c9)
theorem lh_X9_removeRule : yX9_removeRule.cls = RX9 ∧ yX9_removeRule.cls ≠ "java/lang/invoke/MethodHandle" ∧ yX9_removeRule.cls ≠ "java/lang/invoke/VarHandle" ∧ (parseMethodDescriptor yX9_removeRule.desc).map (fun d => d.parameters.length) = some 1 := ⟨rfl, by decide +kernel⟩
theorem lh_X10_removeRule : yX10_removeRule.cls = RX10 ∧ yX10_removeRule.cls ≠ "java/lang/invoke/MethodHandle" ∧ yX10_removeRule.cls ≠ "java/lang/invoke/VarHandle" ∧ (parseMethodDescriptor yX10_removeRule.desc).map (fun d => d.parameters.length) = some 1 := ⟨rfl, by decide +kernel⟩
set_option maxRecDepth 100000 in
set_option maxHeartbeats 4000000 in
theorem lc_removeRule (EE : En D [(cI, .int), (cC, .char), (cJ, .long), (cG, .object "PushdownGameSolver$Game")] ε cL_law RL wsL_law ret) (SC : ScE ε b L xs) (hL : L ≤ 3072) {i : Nat} (hi6 : i + 6 ≤ L) (hI : Inv x m) (kk : ∀ (x : XSt) (m : MSt), Inv x m → JK l room_1 D ε 44 1825 (wX cI cC cJ cG H hk hr x ++ wM cI cC cJ cG h m) 866 [(3, .int (nI i)), (2, .ref (h 0)), (1, .ref (H 0)), (0, .ref b)] []) : JK l room_1 D ε 44 1825 (wX cI cC cJ cG H hk hr x ++ wM cI cC cJ cG h m) 297 [(3, .int (nI i)), (2, .ref (h 0)), (1, .ref (H 0)), (0, .ref b)] [] := by
  obtain ⟨z, x2, S2, psi, m2, dx, dm, d1, d2, hinv, hX, hM⟩ := st_removeRule (l := l) (D := D) (cI := cI) (cC := cC) (cJ := cJ) (cG := cG) (xs (i + 1)) hI
  refine jk_aload_n EE 2 dL_law_297 rfl rfl ?_
  refine jk_aload_n EE 3 dL_law_298 rfl rfl ?_
  refine jk_iload_n EE 0 dL_law_299 rfl rfl ?_
  refine jk_iconst (v := nI 1) EE dL_law_300 (by decide) ?_
  refine jk_iadd EE dL_law_301 ?_
  refine jk_topE (y := nI (i + 1)) (nI_add i 1) ?_
  refine jk_sld EE SC (by omega) (j := i + 1) (by omega) dL_law_302 ?_
  refine jl_X (As := [.int (xs (i + 1))]) EE (hX H hk hr) gL_law_X9_removeRule lh_X9_removeRule rfl d1 (by decide) rfl rfl (Nat.le_of_ble_eq_true rfl) dL_law_303 ?_
  refine jk_aload_n EE 1 dL_law_306 rfl rfl ?_
  refine jk_aload_n EE 3 dL_law_307 rfl rfl ?_
  refine jk_iload_n EE 0 dL_law_308 rfl rfl ?_
  refine jk_iconst (v := nI 1) EE dL_law_309 (by decide) ?_
  refine jk_iadd EE dL_law_310 ?_
  refine jk_topE (y := nI (i + 1)) (nI_add i 1) ?_
  refine jk_sld EE SC (by omega) (j := i + 1) (by omega) dL_law_311 ?_
  refine jl_M (As := [.int (xs (i + 1))]) EE (hM h) gL_law_X10_removeRule lh_X10_removeRule rfl d2 (by decide) rfl rfl (Nat.le_of_ble_eq_true rfl) dL_law_312 (fun u hu => ?_)
  exact jk_icmp_eq EE 866 dL_law_315 (by decide) (fun _ => kk x2 (m2 u) (hinv u hu)) (fun c9 => absurd rfl c9)
theorem lh_X9_setOwner : yX9_setOwner.cls = RX9 ∧ yX9_setOwner.cls ≠ "java/lang/invoke/MethodHandle" ∧ yX9_setOwner.cls ≠ "java/lang/invoke/VarHandle" ∧ (parseMethodDescriptor yX9_setOwner.desc).map (fun d => d.parameters.length) = some 2 := ⟨rfl, by decide +kernel⟩
theorem lh_X10_setOwner : yX10_setOwner.cls = RX10 ∧ yX10_setOwner.cls ≠ "java/lang/invoke/MethodHandle" ∧ yX10_setOwner.cls ≠ "java/lang/invoke/VarHandle" ∧ (parseMethodDescriptor yX10_setOwner.desc).map (fun d => d.parameters.length) = some 2 := ⟨rfl, by decide +kernel⟩
set_option maxRecDepth 100000 in
set_option maxHeartbeats 4000000 in
theorem lc_setOwner (EE : En D [(cI, .int), (cC, .char), (cJ, .long), (cG, .object "PushdownGameSolver$Game")] ε cL_law RL wsL_law ret) (SC : ScE ε b L xs) (hL : L ≤ 3072) {i : Nat} (hi6 : i + 6 ≤ L) (hI : Inv x m) (kk : ∀ (x : XSt) (m : MSt), Inv x m → JK l room_1 D ε 44 1825 (wX cI cC cJ cG H hk hr x ++ wM cI cC cJ cG h m) 866 [(3, .int (nI i)), (2, .ref (h 0)), (1, .ref (H 0)), (0, .ref b)] []) : JK l room_1 D ε 44 1825 (wX cI cC cJ cG H hk hr x ++ wM cI cC cJ cG h m) 320 [(3, .int (nI i)), (2, .ref (h 0)), (1, .ref (H 0)), (0, .ref b)] [] := by
  obtain ⟨z, x2, S2, psi, m2, dx, dm, d1, d2, hinv, hX, hM⟩ := st_setOwner (l := l) (D := D) (cI := cI) (cC := cC) (cJ := cJ) (cG := cG) (xs (i + 1)) (xs (i + 2)) hI
  refine jk_aload_n EE 2 dL_law_320 rfl rfl ?_
  refine jk_aload_n EE 3 dL_law_321 rfl rfl ?_
  refine jk_iload_n EE 0 dL_law_322 rfl rfl ?_
  refine jk_iconst (v := nI 1) EE dL_law_323 (by decide) ?_
  refine jk_iadd EE dL_law_324 ?_
  refine jk_topE (y := nI (i + 1)) (nI_add i 1) ?_
  refine jk_sld EE SC (by omega) (j := i + 1) (by omega) dL_law_325 ?_
  refine jk_aload_n EE 3 dL_law_326 rfl rfl ?_
  refine jk_iload_n EE 0 dL_law_327 rfl rfl ?_
  refine jk_iconst (v := nI 2) EE dL_law_328 (by decide) ?_
  refine jk_iadd EE dL_law_329 ?_
  refine jk_topE (y := nI (i + 2)) (nI_add i 2) ?_
  refine jk_sld EE SC (by omega) (j := i + 2) (by omega) dL_law_330 ?_
  refine jl_X (As := [.int (xs (i + 1)), .int (xs (i + 2))]) EE (hX H hk hr) gL_law_X9_setOwner lh_X9_setOwner rfl d1 (by decide) rfl rfl (Nat.le_of_ble_eq_true rfl) dL_law_331 ?_
  refine jk_aload_n EE 1 dL_law_334 rfl rfl ?_
  refine jk_aload_n EE 3 dL_law_335 rfl rfl ?_
  refine jk_iload_n EE 0 dL_law_336 rfl rfl ?_
  refine jk_iconst (v := nI 1) EE dL_law_337 (by decide) ?_
  refine jk_iadd EE dL_law_338 ?_
  refine jk_topE (y := nI (i + 1)) (nI_add i 1) ?_
  refine jk_sld EE SC (by omega) (j := i + 1) (by omega) dL_law_339 ?_
  refine jk_aload_n EE 3 dL_law_340 rfl rfl ?_
  refine jk_iload_n EE 0 dL_law_341 rfl rfl ?_
  refine jk_iconst (v := nI 2) EE dL_law_342 (by decide) ?_
  refine jk_iadd EE dL_law_343 ?_
  refine jk_topE (y := nI (i + 2)) (nI_add i 2) ?_
  refine jk_sld EE SC (by omega) (j := i + 2) (by omega) dL_law_344 ?_
  refine jl_M (As := [.int (xs (i + 1)), .int (xs (i + 2))]) EE (hM h) gL_law_X10_setOwner lh_X10_setOwner rfl d2 (by decide) rfl rfl (Nat.le_of_ble_eq_true rfl) dL_law_345 (fun u hu => ?_)
  exact jk_icmp_eq EE 866 dL_law_348 (by decide) (fun _ => kk x2 (m2 u) (hinv u hu)) (fun c9 => absurd rfl c9)
theorem lh_X9_setTarget : yX9_setTarget.cls = RX9 ∧ yX9_setTarget.cls ≠ "java/lang/invoke/MethodHandle" ∧ yX9_setTarget.cls ≠ "java/lang/invoke/VarHandle" ∧ (parseMethodDescriptor yX9_setTarget.desc).map (fun d => d.parameters.length) = some 2 := ⟨rfl, by decide +kernel⟩
theorem lh_X10_setTarget : yX10_setTarget.cls = RX10 ∧ yX10_setTarget.cls ≠ "java/lang/invoke/MethodHandle" ∧ yX10_setTarget.cls ≠ "java/lang/invoke/VarHandle" ∧ (parseMethodDescriptor yX10_setTarget.desc).map (fun d => d.parameters.length) = some 2 := ⟨rfl, by decide +kernel⟩
set_option maxRecDepth 100000 in
set_option maxHeartbeats 4000000 in
theorem lc_setTarget (EE : En D [(cI, .int), (cC, .char), (cJ, .long), (cG, .object "PushdownGameSolver$Game")] ε cL_law RL wsL_law ret) (SC : ScE ε b L xs) (hL : L ≤ 3072) {i : Nat} (hi6 : i + 6 ≤ L) (hI : Inv x m) (kk : ∀ (x : XSt) (m : MSt), Inv x m → JK l room_1 D ε 44 1825 (wX cI cC cJ cG H hk hr x ++ wM cI cC cJ cG h m) 866 [(3, .int (nI i)), (2, .ref (h 0)), (1, .ref (H 0)), (0, .ref b)] []) : JK l room_1 D ε 44 1825 (wX cI cC cJ cG H hk hr x ++ wM cI cC cJ cG h m) 353 [(3, .int (nI i)), (2, .ref (h 0)), (1, .ref (H 0)), (0, .ref b)] [] := by
  obtain ⟨z, x2, S2, psi, m2, dx, dm, d1, d2, hinv, hX, hM⟩ := st_setTarget (l := l) (D := D) (cI := cI) (cC := cC) (cJ := cJ) (cG := cG) (xs (i + 1)) (xs (i + 2)) hI
  refine jk_aload_n EE 2 dL_law_353 rfl rfl ?_
  refine jk_aload_n EE 3 dL_law_354 rfl rfl ?_
  refine jk_iload_n EE 0 dL_law_355 rfl rfl ?_
  refine jk_iconst (v := nI 1) EE dL_law_356 (by decide) ?_
  refine jk_iadd EE dL_law_357 ?_
  refine jk_topE (y := nI (i + 1)) (nI_add i 1) ?_
  refine jk_sld EE SC (by omega) (j := i + 1) (by omega) dL_law_358 ?_
  refine jk_aload_n EE 3 dL_law_359 rfl rfl ?_
  refine jk_iload_n EE 0 dL_law_360 rfl rfl ?_
  refine jk_iconst (v := nI 2) EE dL_law_361 (by decide) ?_
  refine jk_iadd EE dL_law_362 ?_
  refine jk_topE (y := nI (i + 2)) (nI_add i 2) ?_
  refine jk_sld EE SC (by omega) (j := i + 2) (by omega) dL_law_363 ?_
  refine jl_X (As := [.int (xs (i + 1)), .int (xs (i + 2))]) EE (hX H hk hr) gL_law_X9_setTarget lh_X9_setTarget rfl d1 (by decide) rfl rfl (Nat.le_of_ble_eq_true rfl) dL_law_364 ?_
  refine jk_aload_n EE 1 dL_law_367 rfl rfl ?_
  refine jk_aload_n EE 3 dL_law_368 rfl rfl ?_
  refine jk_iload_n EE 0 dL_law_369 rfl rfl ?_
  refine jk_iconst (v := nI 1) EE dL_law_370 (by decide) ?_
  refine jk_iadd EE dL_law_371 ?_
  refine jk_topE (y := nI (i + 1)) (nI_add i 1) ?_
  refine jk_sld EE SC (by omega) (j := i + 1) (by omega) dL_law_372 ?_
  refine jk_aload_n EE 3 dL_law_373 rfl rfl ?_
  refine jk_iload_n EE 0 dL_law_374 rfl rfl ?_
  refine jk_iconst (v := nI 2) EE dL_law_375 (by decide) ?_
  refine jk_iadd EE dL_law_376 ?_
  refine jk_topE (y := nI (i + 2)) (nI_add i 2) ?_
  refine jk_sld EE SC (by omega) (j := i + 2) (by omega) dL_law_377 ?_
  refine jl_M (As := [.int (xs (i + 1)), .int (xs (i + 2))]) EE (hM h) gL_law_X10_setTarget lh_X10_setTarget rfl d2 (by decide) rfl rfl (Nat.le_of_ble_eq_true rfl) dL_law_378 (fun u hu => ?_)
  exact jk_icmp_eq EE 866 dL_law_381 (by decide) (fun _ => kk x2 (m2 u) (hinv u hu)) (fun c9 => absurd rfl c9)
theorem lh_X9_place : yX9_place.cls = RX9 ∧ yX9_place.cls ≠ "java/lang/invoke/MethodHandle" ∧ yX9_place.cls ≠ "java/lang/invoke/VarHandle" ∧ (parseMethodDescriptor yX9_place.desc).map (fun d => d.parameters.length) = some 1 := ⟨rfl, by decide +kernel⟩
theorem lh_X10_place : yX10_place.cls = RX10 ∧ yX10_place.cls ≠ "java/lang/invoke/MethodHandle" ∧ yX10_place.cls ≠ "java/lang/invoke/VarHandle" ∧ (parseMethodDescriptor yX10_place.desc).map (fun d => d.parameters.length) = some 1 := ⟨rfl, by decide +kernel⟩
set_option maxRecDepth 100000 in
set_option maxHeartbeats 4000000 in
theorem lc_place (EE : En D [(cI, .int), (cC, .char), (cJ, .long), (cG, .object "PushdownGameSolver$Game")] ε cL_law RL wsL_law ret) (SC : ScE ε b L xs) (hL : L ≤ 3072) {i : Nat} (hi6 : i + 6 ≤ L) (hI : Inv x m) (kk : ∀ (x : XSt) (m : MSt), Inv x m → JK l room_1 D ε 44 1825 (wX cI cC cJ cG H hk hr x ++ wM cI cC cJ cG h m) 866 [(3, .int (nI i)), (2, .ref (h 0)), (1, .ref (H 0)), (0, .ref b)] []) : JK l room_1 D ε 44 1825 (wX cI cC cJ cG H hk hr x ++ wM cI cC cJ cG h m) 386 [(3, .int (nI i)), (2, .ref (h 0)), (1, .ref (H 0)), (0, .ref b)] [] := by
  obtain ⟨z, x2, S2, psi, m2, dx, dm, d1, d2, hinv, hX, hM⟩ := st_place (l := l) (D := D) (cI := cI) (cC := cC) (cJ := cJ) (cG := cG) (xs (i + 1)) hI
  refine jk_aload_n EE 2 dL_law_386 rfl rfl ?_
  refine jk_aload_n EE 3 dL_law_387 rfl rfl ?_
  refine jk_iload_n EE 0 dL_law_388 rfl rfl ?_
  refine jk_iconst (v := nI 1) EE dL_law_389 (by decide) ?_
  refine jk_iadd EE dL_law_390 ?_
  refine jk_topE (y := nI (i + 1)) (nI_add i 1) ?_
  refine jk_sld EE SC (by omega) (j := i + 1) (by omega) dL_law_391 ?_
  refine jl_X (As := [.int (xs (i + 1))]) EE (hX H hk hr) gL_law_X9_place lh_X9_place rfl d1 (by decide) rfl rfl (Nat.le_of_ble_eq_true rfl) dL_law_392 ?_
  refine jk_aload_n EE 1 dL_law_395 rfl rfl ?_
  refine jk_aload_n EE 3 dL_law_396 rfl rfl ?_
  refine jk_iload_n EE 0 dL_law_397 rfl rfl ?_
  refine jk_iconst (v := nI 1) EE dL_law_398 (by decide) ?_
  refine jk_iadd EE dL_law_399 ?_
  refine jk_topE (y := nI (i + 1)) (nI_add i 1) ?_
  refine jk_sld EE SC (by omega) (j := i + 1) (by omega) dL_law_400 ?_
  refine jl_M (As := [.int (xs (i + 1))]) EE (hM h) gL_law_X10_place lh_X10_place rfl d2 (by decide) rfl rfl (Nat.le_of_ble_eq_true rfl) dL_law_401 (fun u hu => ?_)
  exact jk_icmp_eq EE 866 dL_law_404 (by decide) (fun _ => kk x2 (m2 u) (hinv u hu)) (fun c9 => absurd rfl c9)
theorem lh_X9_push : yX9_push.cls = RX9 ∧ yX9_push.cls ≠ "java/lang/invoke/MethodHandle" ∧ yX9_push.cls ≠ "java/lang/invoke/VarHandle" ∧ (parseMethodDescriptor yX9_push.desc).map (fun d => d.parameters.length) = some 1 := ⟨rfl, by decide +kernel⟩
theorem lh_X10_push : yX10_push.cls = RX10 ∧ yX10_push.cls ≠ "java/lang/invoke/MethodHandle" ∧ yX10_push.cls ≠ "java/lang/invoke/VarHandle" ∧ (parseMethodDescriptor yX10_push.desc).map (fun d => d.parameters.length) = some 1 := ⟨rfl, by decide +kernel⟩
set_option maxRecDepth 100000 in
set_option maxHeartbeats 4000000 in
theorem lc_push (EE : En D [(cI, .int), (cC, .char), (cJ, .long), (cG, .object "PushdownGameSolver$Game")] ε cL_law RL wsL_law ret) (SC : ScE ε b L xs) (hL : L ≤ 3072) {i : Nat} (hi6 : i + 6 ≤ L) (hI : Inv x m) (kk : ∀ (x : XSt) (m : MSt), Inv x m → JK l room_1 D ε 44 1825 (wX cI cC cJ cG H hk hr x ++ wM cI cC cJ cG h m) 866 [(3, .int (nI i)), (2, .ref (h 0)), (1, .ref (H 0)), (0, .ref b)] []) : JK l room_1 D ε 44 1825 (wX cI cC cJ cG H hk hr x ++ wM cI cC cJ cG h m) 409 [(3, .int (nI i)), (2, .ref (h 0)), (1, .ref (H 0)), (0, .ref b)] [] := by
  obtain ⟨z, x2, S2, psi, m2, dx, dm, d1, d2, hinv, hX, hM⟩ := st_push (l := l) (D := D) (cI := cI) (cC := cC) (cJ := cJ) (cG := cG) (xs (i + 1)) hI
  refine jk_aload_n EE 2 dL_law_409 rfl rfl ?_
  refine jk_aload_n EE 3 dL_law_410 rfl rfl ?_
  refine jk_iload_n EE 0 dL_law_411 rfl rfl ?_
  refine jk_iconst (v := nI 1) EE dL_law_412 (by decide) ?_
  refine jk_iadd EE dL_law_413 ?_
  refine jk_topE (y := nI (i + 1)) (nI_add i 1) ?_
  refine jk_sld EE SC (by omega) (j := i + 1) (by omega) dL_law_414 ?_
  refine jl_X (As := [.int (xs (i + 1))]) EE (hX H hk hr) gL_law_X9_push lh_X9_push rfl d1 (by decide) rfl rfl (Nat.le_of_ble_eq_true rfl) dL_law_415 ?_
  refine jk_aload_n EE 1 dL_law_418 rfl rfl ?_
  refine jk_aload_n EE 3 dL_law_419 rfl rfl ?_
  refine jk_iload_n EE 0 dL_law_420 rfl rfl ?_
  refine jk_iconst (v := nI 1) EE dL_law_421 (by decide) ?_
  refine jk_iadd EE dL_law_422 ?_
  refine jk_topE (y := nI (i + 1)) (nI_add i 1) ?_
  refine jk_sld EE SC (by omega) (j := i + 1) (by omega) dL_law_423 ?_
  refine jl_M (As := [.int (xs (i + 1))]) EE (hM h) gL_law_X10_push lh_X10_push rfl d2 (by decide) rfl rfl (Nat.le_of_ble_eq_true rfl) dL_law_424 (fun u hu => ?_)
  exact jk_icmp_eq EE 866 dL_law_427 (by decide) (fun _ => kk x2 (m2 u) (hinv u hu)) (fun c9 => absurd rfl c9)
theorem lh_X9_play : yX9_play.cls = RX9 ∧ yX9_play.cls ≠ "java/lang/invoke/MethodHandle" ∧ yX9_play.cls ≠ "java/lang/invoke/VarHandle" ∧ (parseMethodDescriptor yX9_play.desc).map (fun d => d.parameters.length) = some 1 := ⟨rfl, by decide +kernel⟩
theorem lh_X10_play : yX10_play.cls = RX10 ∧ yX10_play.cls ≠ "java/lang/invoke/MethodHandle" ∧ yX10_play.cls ≠ "java/lang/invoke/VarHandle" ∧ (parseMethodDescriptor yX10_play.desc).map (fun d => d.parameters.length) = some 1 := ⟨rfl, by decide +kernel⟩
set_option maxRecDepth 100000 in
set_option maxHeartbeats 4000000 in
theorem lc_play (EE : En D [(cI, .int), (cC, .char), (cJ, .long), (cG, .object "PushdownGameSolver$Game")] ε cL_law RL wsL_law ret) (SC : ScE ε b L xs) (hL : L ≤ 3072) {i : Nat} (hi6 : i + 6 ≤ L) (hI : Inv x m) (kk : ∀ (x : XSt) (m : MSt), Inv x m → JK l room_1 D ε 44 1825 (wX cI cC cJ cG H hk hr x ++ wM cI cC cJ cG h m) 866 [(3, .int (nI i)), (2, .ref (h 0)), (1, .ref (H 0)), (0, .ref b)] []) : JK l room_1 D ε 44 1825 (wX cI cC cJ cG H hk hr x ++ wM cI cC cJ cG h m) 432 [(3, .int (nI i)), (2, .ref (h 0)), (1, .ref (H 0)), (0, .ref b)] [] := by
  obtain ⟨z, x2, S2, psi, m2, dx, dm, d1, d2, hinv, hX, hM⟩ := st_play (l := l) (D := D) (cI := cI) (cC := cC) (cJ := cJ) (cG := cG) (xs (i + 1)) hI
  refine jk_aload_n EE 2 dL_law_432 rfl rfl ?_
  refine jk_aload_n EE 3 dL_law_433 rfl rfl ?_
  refine jk_iload_n EE 0 dL_law_434 rfl rfl ?_
  refine jk_iconst (v := nI 1) EE dL_law_435 (by decide) ?_
  refine jk_iadd EE dL_law_436 ?_
  refine jk_topE (y := nI (i + 1)) (nI_add i 1) ?_
  refine jk_sld EE SC (by omega) (j := i + 1) (by omega) dL_law_437 ?_
  refine jl_X (As := [.int (xs (i + 1))]) EE (hX H hk hr) gL_law_X9_play lh_X9_play rfl d1 (by decide) rfl rfl (Nat.le_of_ble_eq_true rfl) dL_law_438 ?_
  refine jk_aload_n EE 1 dL_law_441 rfl rfl ?_
  refine jk_aload_n EE 3 dL_law_442 rfl rfl ?_
  refine jk_iload_n EE 0 dL_law_443 rfl rfl ?_
  refine jk_iconst (v := nI 1) EE dL_law_444 (by decide) ?_
  refine jk_iadd EE dL_law_445 ?_
  refine jk_topE (y := nI (i + 1)) (nI_add i 1) ?_
  refine jk_sld EE SC (by omega) (j := i + 1) (by omega) dL_law_446 ?_
  refine jl_M (As := [.int (xs (i + 1))]) EE (hM h) gL_law_X10_play lh_X10_play rfl d2 (by decide) rfl rfl (Nat.le_of_ble_eq_true rfl) dL_law_447 (fun u hu => ?_)
  exact jk_icmp_eq EE 866 dL_law_450 (by decide) (fun _ => kk x2 (m2 u) (hinv u hu)) (fun c9 => absurd rfl c9)
theorem lh_X9_undo : yX9_undo.cls = RX9 ∧ yX9_undo.cls ≠ "java/lang/invoke/MethodHandle" ∧ yX9_undo.cls ≠ "java/lang/invoke/VarHandle" ∧ (parseMethodDescriptor yX9_undo.desc).map (fun d => d.parameters.length) = some 0 := ⟨rfl, by decide +kernel⟩
theorem lh_X10_undo : yX10_undo.cls = RX10 ∧ yX10_undo.cls ≠ "java/lang/invoke/MethodHandle" ∧ yX10_undo.cls ≠ "java/lang/invoke/VarHandle" ∧ (parseMethodDescriptor yX10_undo.desc).map (fun d => d.parameters.length) = some 0 := ⟨rfl, by decide +kernel⟩
set_option maxRecDepth 100000 in
set_option maxHeartbeats 4000000 in
theorem lc_undo (EE : En D [(cI, .int), (cC, .char), (cJ, .long), (cG, .object "PushdownGameSolver$Game")] ε cL_law RL wsL_law ret) (SC : ScE ε b L xs) (hL : L ≤ 3072) {i : Nat} (hi6 : i + 6 ≤ L) (hI : Inv x m) (kk : ∀ (x : XSt) (m : MSt), Inv x m → JK l room_1 D ε 44 1825 (wX cI cC cJ cG H hk hr x ++ wM cI cC cJ cG h m) 866 [(3, .int (nI i)), (2, .ref (h 0)), (1, .ref (H 0)), (0, .ref b)] []) : JK l room_1 D ε 44 1825 (wX cI cC cJ cG H hk hr x ++ wM cI cC cJ cG h m) 455 [(3, .int (nI i)), (2, .ref (h 0)), (1, .ref (H 0)), (0, .ref b)] [] := by
  obtain ⟨z, x2, S2, psi, m2, dx, dm, d1, d2, hinv, hX, hM⟩ := st_undo (l := l) (D := D) (cI := cI) (cC := cC) (cJ := cJ) (cG := cG)  hI
  refine jk_aload_n EE 2 dL_law_455 rfl rfl ?_
  refine jl_X (As := []) EE (hX H hk hr) gL_law_X9_undo lh_X9_undo rfl d1 (by decide) rfl rfl (Nat.le_of_ble_eq_true rfl) dL_law_456 ?_
  refine jk_aload_n EE 1 dL_law_459 rfl rfl ?_
  refine jl_M (As := []) EE (hM h) gL_law_X10_undo lh_X10_undo rfl d2 (by decide) rfl rfl (Nat.le_of_ble_eq_true rfl) dL_law_460 (fun u hu => ?_)
  exact jk_icmp_eq EE 866 dL_law_463 (by decide) (fun _ => kk x2 (m2 u) (hinv u hu)) (fun c9 => absurd rfl c9)
theorem lh_X9_ruleCount : yX9_ruleCount.cls = RX9 ∧ yX9_ruleCount.cls ≠ "java/lang/invoke/MethodHandle" ∧ yX9_ruleCount.cls ≠ "java/lang/invoke/VarHandle" ∧ (parseMethodDescriptor yX9_ruleCount.desc).map (fun d => d.parameters.length) = some 0 := ⟨rfl, by decide +kernel⟩
theorem lh_X10_ruleCount : yX10_ruleCount.cls = RX10 ∧ yX10_ruleCount.cls ≠ "java/lang/invoke/MethodHandle" ∧ yX10_ruleCount.cls ≠ "java/lang/invoke/VarHandle" ∧ (parseMethodDescriptor yX10_ruleCount.desc).map (fun d => d.parameters.length) = some 0 := ⟨rfl, by decide +kernel⟩
set_option maxRecDepth 100000 in
set_option maxHeartbeats 4000000 in
theorem lc_ruleCount (EE : En D [(cI, .int), (cC, .char), (cJ, .long), (cG, .object "PushdownGameSolver$Game")] ε cL_law RL wsL_law ret) (SC : ScE ε b L xs) (hL : L ≤ 3072) {i : Nat} (hi6 : i + 6 ≤ L) (hI : Inv x m) (kk : ∀ (x : XSt) (m : MSt), Inv x m → JK l room_1 D ε 44 1825 (wX cI cC cJ cG H hk hr x ++ wM cI cC cJ cG h m) 866 [(3, .int (nI i)), (2, .ref (h 0)), (1, .ref (H 0)), (0, .ref b)] []) : JK l room_1 D ε 44 1825 (wX cI cC cJ cG H hk hr x ++ wM cI cC cJ cG h m) 468 [(3, .int (nI i)), (2, .ref (h 0)), (1, .ref (H 0)), (0, .ref b)] [] := by
  obtain ⟨z, x2, S2, psi, m2, dx, dm, d1, d2, hinv, hX, hM⟩ := st_ruleCount (l := l) (D := D) (cI := cI) (cC := cC) (cJ := cJ) (cG := cG)  hI
  refine jk_aload_n EE 2 dL_law_468 rfl rfl ?_
  refine jl_X (As := []) EE (hX H hk hr) gL_law_X9_ruleCount lh_X9_ruleCount rfl d1 (by decide) rfl rfl (Nat.le_of_ble_eq_true rfl) dL_law_469 ?_
  refine jk_aload_n EE 1 dL_law_472 rfl rfl ?_
  refine jl_M (As := []) EE (hM h) gL_law_X10_ruleCount lh_X10_ruleCount rfl d2 (by decide) rfl rfl (Nat.le_of_ble_eq_true rfl) dL_law_473 (fun u hu => ?_)
  exact jk_icmp_eq EE 866 dL_law_476 (by decide) (fun _ => kk x2 (m2 u) (hinv u hu)) (fun c9 => absurd rfl c9)
theorem lh_X9_ruleState : yX9_ruleState.cls = RX9 ∧ yX9_ruleState.cls ≠ "java/lang/invoke/MethodHandle" ∧ yX9_ruleState.cls ≠ "java/lang/invoke/VarHandle" ∧ (parseMethodDescriptor yX9_ruleState.desc).map (fun d => d.parameters.length) = some 1 := ⟨rfl, by decide +kernel⟩
theorem lh_X10_ruleState : yX10_ruleState.cls = RX10 ∧ yX10_ruleState.cls ≠ "java/lang/invoke/MethodHandle" ∧ yX10_ruleState.cls ≠ "java/lang/invoke/VarHandle" ∧ (parseMethodDescriptor yX10_ruleState.desc).map (fun d => d.parameters.length) = some 1 := ⟨rfl, by decide +kernel⟩
set_option maxRecDepth 100000 in
set_option maxHeartbeats 4000000 in
theorem lc_ruleState (EE : En D [(cI, .int), (cC, .char), (cJ, .long), (cG, .object "PushdownGameSolver$Game")] ε cL_law RL wsL_law ret) (SC : ScE ε b L xs) (hL : L ≤ 3072) {i : Nat} (hi6 : i + 6 ≤ L) (hI : Inv x m) (kk : ∀ (x : XSt) (m : MSt), Inv x m → JK l room_1 D ε 44 1825 (wX cI cC cJ cG H hk hr x ++ wM cI cC cJ cG h m) 866 [(3, .int (nI i)), (2, .ref (h 0)), (1, .ref (H 0)), (0, .ref b)] []) : JK l room_1 D ε 44 1825 (wX cI cC cJ cG H hk hr x ++ wM cI cC cJ cG h m) 481 [(3, .int (nI i)), (2, .ref (h 0)), (1, .ref (H 0)), (0, .ref b)] [] := by
  obtain ⟨z, x2, S2, psi, m2, dx, dm, d1, d2, hinv, hX, hM⟩ := st_ruleState (l := l) (D := D) (cI := cI) (cC := cC) (cJ := cJ) (cG := cG) (xs (i + 1)) hI
  refine jk_aload_n EE 2 dL_law_481 rfl rfl ?_
  refine jk_aload_n EE 3 dL_law_482 rfl rfl ?_
  refine jk_iload_n EE 0 dL_law_483 rfl rfl ?_
  refine jk_iconst (v := nI 1) EE dL_law_484 (by decide) ?_
  refine jk_iadd EE dL_law_485 ?_
  refine jk_topE (y := nI (i + 1)) (nI_add i 1) ?_
  refine jk_sld EE SC (by omega) (j := i + 1) (by omega) dL_law_486 ?_
  refine jl_X (As := [.int (xs (i + 1))]) EE (hX H hk hr) gL_law_X9_ruleState lh_X9_ruleState rfl d1 (by decide) rfl rfl (Nat.le_of_ble_eq_true rfl) dL_law_487 ?_
  refine jk_aload_n EE 1 dL_law_490 rfl rfl ?_
  refine jk_aload_n EE 3 dL_law_491 rfl rfl ?_
  refine jk_iload_n EE 0 dL_law_492 rfl rfl ?_
  refine jk_iconst (v := nI 1) EE dL_law_493 (by decide) ?_
  refine jk_iadd EE dL_law_494 ?_
  refine jk_topE (y := nI (i + 1)) (nI_add i 1) ?_
  refine jk_sld EE SC (by omega) (j := i + 1) (by omega) dL_law_495 ?_
  refine jl_M (As := [.int (xs (i + 1))]) EE (hM h) gL_law_X10_ruleState lh_X10_ruleState rfl d2 (by decide) rfl rfl (Nat.le_of_ble_eq_true rfl) dL_law_496 (fun u hu => ?_)
  exact jk_icmp_eq EE 866 dL_law_499 (by decide) (fun _ => kk x2 (m2 u) (hinv u hu)) (fun c9 => absurd rfl c9)
theorem lh_X9_ruleTop : yX9_ruleTop.cls = RX9 ∧ yX9_ruleTop.cls ≠ "java/lang/invoke/MethodHandle" ∧ yX9_ruleTop.cls ≠ "java/lang/invoke/VarHandle" ∧ (parseMethodDescriptor yX9_ruleTop.desc).map (fun d => d.parameters.length) = some 1 := ⟨rfl, by decide +kernel⟩
theorem lh_X10_ruleTop : yX10_ruleTop.cls = RX10 ∧ yX10_ruleTop.cls ≠ "java/lang/invoke/MethodHandle" ∧ yX10_ruleTop.cls ≠ "java/lang/invoke/VarHandle" ∧ (parseMethodDescriptor yX10_ruleTop.desc).map (fun d => d.parameters.length) = some 1 := ⟨rfl, by decide +kernel⟩
set_option maxRecDepth 100000 in
set_option maxHeartbeats 4000000 in
theorem lc_ruleTop (EE : En D [(cI, .int), (cC, .char), (cJ, .long), (cG, .object "PushdownGameSolver$Game")] ε cL_law RL wsL_law ret) (SC : ScE ε b L xs) (hL : L ≤ 3072) {i : Nat} (hi6 : i + 6 ≤ L) (hI : Inv x m) (kk : ∀ (x : XSt) (m : MSt), Inv x m → JK l room_1 D ε 44 1825 (wX cI cC cJ cG H hk hr x ++ wM cI cC cJ cG h m) 866 [(3, .int (nI i)), (2, .ref (h 0)), (1, .ref (H 0)), (0, .ref b)] []) : JK l room_1 D ε 44 1825 (wX cI cC cJ cG H hk hr x ++ wM cI cC cJ cG h m) 504 [(3, .int (nI i)), (2, .ref (h 0)), (1, .ref (H 0)), (0, .ref b)] [] := by
  obtain ⟨z, x2, S2, psi, m2, dx, dm, d1, d2, hinv, hX, hM⟩ := st_ruleTop (l := l) (D := D) (cI := cI) (cC := cC) (cJ := cJ) (cG := cG) (xs (i + 1)) hI
  refine jk_aload_n EE 2 dL_law_504 rfl rfl ?_
  refine jk_aload_n EE 3 dL_law_505 rfl rfl ?_
  refine jk_iload_n EE 0 dL_law_506 rfl rfl ?_
  refine jk_iconst (v := nI 1) EE dL_law_507 (by decide) ?_
  refine jk_iadd EE dL_law_508 ?_
  refine jk_topE (y := nI (i + 1)) (nI_add i 1) ?_
  refine jk_sld EE SC (by omega) (j := i + 1) (by omega) dL_law_509 ?_
  refine jl_X (As := [.int (xs (i + 1))]) EE (hX H hk hr) gL_law_X9_ruleTop lh_X9_ruleTop rfl d1 (by decide) rfl rfl (Nat.le_of_ble_eq_true rfl) dL_law_510 ?_
  refine jk_aload_n EE 1 dL_law_513 rfl rfl ?_
  refine jk_aload_n EE 3 dL_law_514 rfl rfl ?_
  refine jk_iload_n EE 0 dL_law_515 rfl rfl ?_
  refine jk_iconst (v := nI 1) EE dL_law_516 (by decide) ?_
  refine jk_iadd EE dL_law_517 ?_
  refine jk_topE (y := nI (i + 1)) (nI_add i 1) ?_
  refine jk_sld EE SC (by omega) (j := i + 1) (by omega) dL_law_518 ?_
  refine jl_M (As := [.int (xs (i + 1))]) EE (hM h) gL_law_X10_ruleTop lh_X10_ruleTop rfl d2 (by decide) rfl rfl (Nat.le_of_ble_eq_true rfl) dL_law_519 (fun u hu => ?_)
  exact jk_icmp_eq EE 866 dL_law_522 (by decide) (fun _ => kk x2 (m2 u) (hinv u hu)) (fun c9 => absurd rfl c9)
theorem lh_X9_ruleNext : yX9_ruleNext.cls = RX9 ∧ yX9_ruleNext.cls ≠ "java/lang/invoke/MethodHandle" ∧ yX9_ruleNext.cls ≠ "java/lang/invoke/VarHandle" ∧ (parseMethodDescriptor yX9_ruleNext.desc).map (fun d => d.parameters.length) = some 1 := ⟨rfl, by decide +kernel⟩
theorem lh_X10_ruleNext : yX10_ruleNext.cls = RX10 ∧ yX10_ruleNext.cls ≠ "java/lang/invoke/MethodHandle" ∧ yX10_ruleNext.cls ≠ "java/lang/invoke/VarHandle" ∧ (parseMethodDescriptor yX10_ruleNext.desc).map (fun d => d.parameters.length) = some 1 := ⟨rfl, by decide +kernel⟩
set_option maxRecDepth 100000 in
set_option maxHeartbeats 4000000 in
theorem lc_ruleNext (EE : En D [(cI, .int), (cC, .char), (cJ, .long), (cG, .object "PushdownGameSolver$Game")] ε cL_law RL wsL_law ret) (SC : ScE ε b L xs) (hL : L ≤ 3072) {i : Nat} (hi6 : i + 6 ≤ L) (hI : Inv x m) (kk : ∀ (x : XSt) (m : MSt), Inv x m → JK l room_1 D ε 44 1825 (wX cI cC cJ cG H hk hr x ++ wM cI cC cJ cG h m) 866 [(3, .int (nI i)), (2, .ref (h 0)), (1, .ref (H 0)), (0, .ref b)] []) : JK l room_1 D ε 44 1825 (wX cI cC cJ cG H hk hr x ++ wM cI cC cJ cG h m) 527 [(3, .int (nI i)), (2, .ref (h 0)), (1, .ref (H 0)), (0, .ref b)] [] := by
  obtain ⟨z, x2, S2, psi, m2, dx, dm, d1, d2, hinv, hX, hM⟩ := st_ruleNext (l := l) (D := D) (cI := cI) (cC := cC) (cJ := cJ) (cG := cG) (xs (i + 1)) hI
  refine jk_aload_n EE 2 dL_law_527 rfl rfl ?_
  refine jk_aload_n EE 3 dL_law_528 rfl rfl ?_
  refine jk_iload_n EE 0 dL_law_529 rfl rfl ?_
  refine jk_iconst (v := nI 1) EE dL_law_530 (by decide) ?_
  refine jk_iadd EE dL_law_531 ?_
  refine jk_topE (y := nI (i + 1)) (nI_add i 1) ?_
  refine jk_sld EE SC (by omega) (j := i + 1) (by omega) dL_law_532 ?_
  refine jl_X (As := [.int (xs (i + 1))]) EE (hX H hk hr) gL_law_X9_ruleNext lh_X9_ruleNext rfl d1 (by decide) rfl rfl (Nat.le_of_ble_eq_true rfl) dL_law_533 ?_
  refine jk_aload_n EE 1 dL_law_536 rfl rfl ?_
  refine jk_aload_n EE 3 dL_law_537 rfl rfl ?_
  refine jk_iload_n EE 0 dL_law_538 rfl rfl ?_
  refine jk_iconst (v := nI 1) EE dL_law_539 (by decide) ?_
  refine jk_iadd EE dL_law_540 ?_
  refine jk_topE (y := nI (i + 1)) (nI_add i 1) ?_
  refine jk_sld EE SC (by omega) (j := i + 1) (by omega) dL_law_541 ?_
  refine jl_M (As := [.int (xs (i + 1))]) EE (hM h) gL_law_X10_ruleNext lh_X10_ruleNext rfl d2 (by decide) rfl rfl (Nat.le_of_ble_eq_true rfl) dL_law_542 (fun u hu => ?_)
  exact jk_icmp_eq EE 866 dL_law_545 (by decide) (fun _ => kk x2 (m2 u) (hinv u hu)) (fun c9 => absurd rfl c9)
theorem lh_X9_ruleSymbol : yX9_ruleSymbol.cls = RX9 ∧ yX9_ruleSymbol.cls ≠ "java/lang/invoke/MethodHandle" ∧ yX9_ruleSymbol.cls ≠ "java/lang/invoke/VarHandle" ∧ (parseMethodDescriptor yX9_ruleSymbol.desc).map (fun d => d.parameters.length) = some 2 := ⟨rfl, by decide +kernel⟩
theorem lh_X10_ruleSymbol : yX10_ruleSymbol.cls = RX10 ∧ yX10_ruleSymbol.cls ≠ "java/lang/invoke/MethodHandle" ∧ yX10_ruleSymbol.cls ≠ "java/lang/invoke/VarHandle" ∧ (parseMethodDescriptor yX10_ruleSymbol.desc).map (fun d => d.parameters.length) = some 2 := ⟨rfl, by decide +kernel⟩
set_option maxRecDepth 100000 in
set_option maxHeartbeats 4000000 in
theorem lc_ruleSymbol (EE : En D [(cI, .int), (cC, .char), (cJ, .long), (cG, .object "PushdownGameSolver$Game")] ε cL_law RL wsL_law ret) (SC : ScE ε b L xs) (hL : L ≤ 3072) {i : Nat} (hi6 : i + 6 ≤ L) (hI : Inv x m) (kk : ∀ (x : XSt) (m : MSt), Inv x m → JK l room_1 D ε 44 1825 (wX cI cC cJ cG H hk hr x ++ wM cI cC cJ cG h m) 866 [(3, .int (nI i)), (2, .ref (h 0)), (1, .ref (H 0)), (0, .ref b)] []) : JK l room_1 D ε 44 1825 (wX cI cC cJ cG H hk hr x ++ wM cI cC cJ cG h m) 550 [(3, .int (nI i)), (2, .ref (h 0)), (1, .ref (H 0)), (0, .ref b)] [] := by
  obtain ⟨z, x2, S2, psi, m2, dx, dm, d1, d2, hinv, hX, hM⟩ := st_ruleSymbol (l := l) (D := D) (cI := cI) (cC := cC) (cJ := cJ) (cG := cG) (xs (i + 1)) (xs (i + 2)) hI
  refine jk_aload_n EE 2 dL_law_550 rfl rfl ?_
  refine jk_aload_n EE 3 dL_law_551 rfl rfl ?_
  refine jk_iload_n EE 0 dL_law_552 rfl rfl ?_
  refine jk_iconst (v := nI 1) EE dL_law_553 (by decide) ?_
  refine jk_iadd EE dL_law_554 ?_
  refine jk_topE (y := nI (i + 1)) (nI_add i 1) ?_
  refine jk_sld EE SC (by omega) (j := i + 1) (by omega) dL_law_555 ?_
  refine jk_aload_n EE 3 dL_law_556 rfl rfl ?_
  refine jk_iload_n EE 0 dL_law_557 rfl rfl ?_
  refine jk_iconst (v := nI 2) EE dL_law_558 (by decide) ?_
  refine jk_iadd EE dL_law_559 ?_
  refine jk_topE (y := nI (i + 2)) (nI_add i 2) ?_
  refine jk_sld EE SC (by omega) (j := i + 2) (by omega) dL_law_560 ?_
  refine jl_X (As := [.int (xs (i + 1)), .int (xs (i + 2))]) EE (hX H hk hr) gL_law_X9_ruleSymbol lh_X9_ruleSymbol rfl d1 (by decide) rfl rfl (Nat.le_of_ble_eq_true rfl) dL_law_561 ?_
  refine jk_aload_n EE 1 dL_law_564 rfl rfl ?_
  refine jk_aload_n EE 3 dL_law_565 rfl rfl ?_
  refine jk_iload_n EE 0 dL_law_566 rfl rfl ?_
  refine jk_iconst (v := nI 1) EE dL_law_567 (by decide) ?_
  refine jk_iadd EE dL_law_568 ?_
  refine jk_topE (y := nI (i + 1)) (nI_add i 1) ?_
  refine jk_sld EE SC (by omega) (j := i + 1) (by omega) dL_law_569 ?_
  refine jk_aload_n EE 3 dL_law_570 rfl rfl ?_
  refine jk_iload_n EE 0 dL_law_571 rfl rfl ?_
  refine jk_iconst (v := nI 2) EE dL_law_572 (by decide) ?_
  refine jk_iadd EE dL_law_573 ?_
  refine jk_topE (y := nI (i + 2)) (nI_add i 2) ?_
  refine jk_sld EE SC (by omega) (j := i + 2) (by omega) dL_law_574 ?_
  refine jl_M (As := [.int (xs (i + 1)), .int (xs (i + 2))]) EE (hM h) gL_law_X10_ruleSymbol lh_X10_ruleSymbol rfl d2 (by decide) rfl rfl (Nat.le_of_ble_eq_true rfl) dL_law_575 (fun u hu => ?_)
  exact jk_icmp_eq EE 866 dL_law_578 (by decide) (fun _ => kk x2 (m2 u) (hinv u hu)) (fun c9 => absurd rfl c9)
theorem lh_X9_ownerOf : yX9_ownerOf.cls = RX9 ∧ yX9_ownerOf.cls ≠ "java/lang/invoke/MethodHandle" ∧ yX9_ownerOf.cls ≠ "java/lang/invoke/VarHandle" ∧ (parseMethodDescriptor yX9_ownerOf.desc).map (fun d => d.parameters.length) = some 1 := ⟨rfl, by decide +kernel⟩
theorem lh_X10_ownerOf : yX10_ownerOf.cls = RX10 ∧ yX10_ownerOf.cls ≠ "java/lang/invoke/MethodHandle" ∧ yX10_ownerOf.cls ≠ "java/lang/invoke/VarHandle" ∧ (parseMethodDescriptor yX10_ownerOf.desc).map (fun d => d.parameters.length) = some 1 := ⟨rfl, by decide +kernel⟩
set_option maxRecDepth 100000 in
set_option maxHeartbeats 4000000 in
theorem lc_ownerOf (EE : En D [(cI, .int), (cC, .char), (cJ, .long), (cG, .object "PushdownGameSolver$Game")] ε cL_law RL wsL_law ret) (SC : ScE ε b L xs) (hL : L ≤ 3072) {i : Nat} (hi6 : i + 6 ≤ L) (hI : Inv x m) (kk : ∀ (x : XSt) (m : MSt), Inv x m → JK l room_1 D ε 44 1825 (wX cI cC cJ cG H hk hr x ++ wM cI cC cJ cG h m) 866 [(3, .int (nI i)), (2, .ref (h 0)), (1, .ref (H 0)), (0, .ref b)] []) : JK l room_1 D ε 44 1825 (wX cI cC cJ cG H hk hr x ++ wM cI cC cJ cG h m) 583 [(3, .int (nI i)), (2, .ref (h 0)), (1, .ref (H 0)), (0, .ref b)] [] := by
  obtain ⟨z, x2, S2, psi, m2, dx, dm, d1, d2, hinv, hX, hM⟩ := st_ownerOf (l := l) (D := D) (cI := cI) (cC := cC) (cJ := cJ) (cG := cG) (xs (i + 1)) hI
  refine jk_aload_n EE 2 dL_law_583 rfl rfl ?_
  refine jk_aload_n EE 3 dL_law_584 rfl rfl ?_
  refine jk_iload_n EE 0 dL_law_585 rfl rfl ?_
  refine jk_iconst (v := nI 1) EE dL_law_586 (by decide) ?_
  refine jk_iadd EE dL_law_587 ?_
  refine jk_topE (y := nI (i + 1)) (nI_add i 1) ?_
  refine jk_sld EE SC (by omega) (j := i + 1) (by omega) dL_law_588 ?_
  refine jl_X (As := [.int (xs (i + 1))]) EE (hX H hk hr) gL_law_X9_ownerOf lh_X9_ownerOf rfl d1 (by decide) rfl rfl (Nat.le_of_ble_eq_true rfl) dL_law_589 ?_
  refine jk_aload_n EE 1 dL_law_592 rfl rfl ?_
  refine jk_aload_n EE 3 dL_law_593 rfl rfl ?_
  refine jk_iload_n EE 0 dL_law_594 rfl rfl ?_
  refine jk_iconst (v := nI 1) EE dL_law_595 (by decide) ?_
  refine jk_iadd EE dL_law_596 ?_
  refine jk_topE (y := nI (i + 1)) (nI_add i 1) ?_
  refine jk_sld EE SC (by omega) (j := i + 1) (by omega) dL_law_597 ?_
  refine jl_M (As := [.int (xs (i + 1))]) EE (hM h) gL_law_X10_ownerOf lh_X10_ownerOf rfl d2 (by decide) rfl rfl (Nat.le_of_ble_eq_true rfl) dL_law_598 (fun u hu => ?_)
  exact jk_icmp_eq EE 866 dL_law_601 (by decide) (fun _ => kk x2 (m2 u) (hinv u hu)) (fun c9 => absurd rfl c9)
theorem lh_X9_isTarget : yX9_isTarget.cls = RX9 ∧ yX9_isTarget.cls ≠ "java/lang/invoke/MethodHandle" ∧ yX9_isTarget.cls ≠ "java/lang/invoke/VarHandle" ∧ (parseMethodDescriptor yX9_isTarget.desc).map (fun d => d.parameters.length) = some 1 := ⟨rfl, by decide +kernel⟩
theorem lh_X10_isTarget : yX10_isTarget.cls = RX10 ∧ yX10_isTarget.cls ≠ "java/lang/invoke/MethodHandle" ∧ yX10_isTarget.cls ≠ "java/lang/invoke/VarHandle" ∧ (parseMethodDescriptor yX10_isTarget.desc).map (fun d => d.parameters.length) = some 1 := ⟨rfl, by decide +kernel⟩
set_option maxRecDepth 100000 in
set_option maxHeartbeats 4000000 in
theorem lc_isTarget (EE : En D [(cI, .int), (cC, .char), (cJ, .long), (cG, .object "PushdownGameSolver$Game")] ε cL_law RL wsL_law ret) (SC : ScE ε b L xs) (hL : L ≤ 3072) {i : Nat} (hi6 : i + 6 ≤ L) (hI : Inv x m) (kk : ∀ (x : XSt) (m : MSt), Inv x m → JK l room_1 D ε 44 1825 (wX cI cC cJ cG H hk hr x ++ wM cI cC cJ cG h m) 866 [(3, .int (nI i)), (2, .ref (h 0)), (1, .ref (H 0)), (0, .ref b)] []) : JK l room_1 D ε 44 1825 (wX cI cC cJ cG H hk hr x ++ wM cI cC cJ cG h m) 606 [(3, .int (nI i)), (2, .ref (h 0)), (1, .ref (H 0)), (0, .ref b)] [] := by
  obtain ⟨z, x2, S2, psi, m2, dx, dm, d1, d2, hinv, hX, hM⟩ := st_isTarget (l := l) (D := D) (cI := cI) (cC := cC) (cJ := cJ) (cG := cG) (xs (i + 1)) hI
  refine jk_aload_n EE 2 dL_law_606 rfl rfl ?_
  refine jk_aload_n EE 3 dL_law_607 rfl rfl ?_
  refine jk_iload_n EE 0 dL_law_608 rfl rfl ?_
  refine jk_iconst (v := nI 1) EE dL_law_609 (by decide) ?_
  refine jk_iadd EE dL_law_610 ?_
  refine jk_topE (y := nI (i + 1)) (nI_add i 1) ?_
  refine jk_sld EE SC (by omega) (j := i + 1) (by omega) dL_law_611 ?_
  refine jl_X (As := [.int (xs (i + 1))]) EE (hX H hk hr) gL_law_X9_isTarget lh_X9_isTarget rfl d1 (by decide) rfl rfl (Nat.le_of_ble_eq_true rfl) dL_law_612 ?_
  refine jk_aload_n EE 1 dL_law_615 rfl rfl ?_
  refine jk_aload_n EE 3 dL_law_616 rfl rfl ?_
  refine jk_iload_n EE 0 dL_law_617 rfl rfl ?_
  refine jk_iconst (v := nI 1) EE dL_law_618 (by decide) ?_
  refine jk_iadd EE dL_law_619 ?_
  refine jk_topE (y := nI (i + 1)) (nI_add i 1) ?_
  refine jk_sld EE SC (by omega) (j := i + 1) (by omega) dL_law_620 ?_
  refine jl_M (As := [.int (xs (i + 1))]) EE (hM h) gL_law_X10_isTarget lh_X10_isTarget rfl d2 (by decide) rfl rfl (Nat.le_of_ble_eq_true rfl) dL_law_621 (fun u hu => ?_)
  exact jk_icmp_eq EE 866 dL_law_624 (by decide) (fun _ => kk x2 (m2 u) (hinv u hu)) (fun c9 => absurd rfl c9)
theorem lh_X9_presentState : yX9_presentState.cls = RX9 ∧ yX9_presentState.cls ≠ "java/lang/invoke/MethodHandle" ∧ yX9_presentState.cls ≠ "java/lang/invoke/VarHandle" ∧ (parseMethodDescriptor yX9_presentState.desc).map (fun d => d.parameters.length) = some 0 := ⟨rfl, by decide +kernel⟩
theorem lh_X10_presentState : yX10_presentState.cls = RX10 ∧ yX10_presentState.cls ≠ "java/lang/invoke/MethodHandle" ∧ yX10_presentState.cls ≠ "java/lang/invoke/VarHandle" ∧ (parseMethodDescriptor yX10_presentState.desc).map (fun d => d.parameters.length) = some 0 := ⟨rfl, by decide +kernel⟩
set_option maxRecDepth 100000 in
set_option maxHeartbeats 4000000 in
theorem lc_presentState (EE : En D [(cI, .int), (cC, .char), (cJ, .long), (cG, .object "PushdownGameSolver$Game")] ε cL_law RL wsL_law ret) (SC : ScE ε b L xs) (hL : L ≤ 3072) {i : Nat} (hi6 : i + 6 ≤ L) (hI : Inv x m) (kk : ∀ (x : XSt) (m : MSt), Inv x m → JK l room_1 D ε 44 1825 (wX cI cC cJ cG H hk hr x ++ wM cI cC cJ cG h m) 866 [(3, .int (nI i)), (2, .ref (h 0)), (1, .ref (H 0)), (0, .ref b)] []) : JK l room_1 D ε 44 1825 (wX cI cC cJ cG H hk hr x ++ wM cI cC cJ cG h m) 629 [(3, .int (nI i)), (2, .ref (h 0)), (1, .ref (H 0)), (0, .ref b)] [] := by
  obtain ⟨z, x2, S2, psi, m2, dx, dm, d1, d2, hinv, hX, hM⟩ := st_presentState (l := l) (D := D) (cI := cI) (cC := cC) (cJ := cJ) (cG := cG)  hI
  refine jk_aload_n EE 2 dL_law_629 rfl rfl ?_
  refine jl_X (As := []) EE (hX H hk hr) gL_law_X9_presentState lh_X9_presentState rfl d1 (by decide) rfl rfl (Nat.le_of_ble_eq_true rfl) dL_law_630 ?_
  refine jk_aload_n EE 1 dL_law_633 rfl rfl ?_
  refine jl_M (As := []) EE (hM h) gL_law_X10_presentState lh_X10_presentState rfl d2 (by decide) rfl rfl (Nat.le_of_ble_eq_true rfl) dL_law_634 (fun u hu => ?_)
  exact jk_icmp_eq EE 866 dL_law_637 (by decide) (fun _ => kk x2 (m2 u) (hinv u hu)) (fun c9 => absurd rfl c9)
theorem lh_X9_stackSize : yX9_stackSize.cls = RX9 ∧ yX9_stackSize.cls ≠ "java/lang/invoke/MethodHandle" ∧ yX9_stackSize.cls ≠ "java/lang/invoke/VarHandle" ∧ (parseMethodDescriptor yX9_stackSize.desc).map (fun d => d.parameters.length) = some 0 := ⟨rfl, by decide +kernel⟩
theorem lh_X10_stackSize : yX10_stackSize.cls = RX10 ∧ yX10_stackSize.cls ≠ "java/lang/invoke/MethodHandle" ∧ yX10_stackSize.cls ≠ "java/lang/invoke/VarHandle" ∧ (parseMethodDescriptor yX10_stackSize.desc).map (fun d => d.parameters.length) = some 0 := ⟨rfl, by decide +kernel⟩
set_option maxRecDepth 100000 in
set_option maxHeartbeats 4000000 in
theorem lc_stackSize (EE : En D [(cI, .int), (cC, .char), (cJ, .long), (cG, .object "PushdownGameSolver$Game")] ε cL_law RL wsL_law ret) (SC : ScE ε b L xs) (hL : L ≤ 3072) {i : Nat} (hi6 : i + 6 ≤ L) (hI : Inv x m) (kk : ∀ (x : XSt) (m : MSt), Inv x m → JK l room_1 D ε 44 1825 (wX cI cC cJ cG H hk hr x ++ wM cI cC cJ cG h m) 866 [(3, .int (nI i)), (2, .ref (h 0)), (1, .ref (H 0)), (0, .ref b)] []) : JK l room_1 D ε 44 1825 (wX cI cC cJ cG H hk hr x ++ wM cI cC cJ cG h m) 642 [(3, .int (nI i)), (2, .ref (h 0)), (1, .ref (H 0)), (0, .ref b)] [] := by
  obtain ⟨z, x2, S2, psi, m2, dx, dm, d1, d2, hinv, hX, hM⟩ := st_stackSize (l := l) (D := D) (cI := cI) (cC := cC) (cJ := cJ) (cG := cG)  hI
  refine jk_aload_n EE 2 dL_law_642 rfl rfl ?_
  refine jl_X (As := []) EE (hX H hk hr) gL_law_X9_stackSize lh_X9_stackSize rfl d1 (by decide) rfl rfl (Nat.le_of_ble_eq_true rfl) dL_law_643 ?_
  refine jk_aload_n EE 1 dL_law_646 rfl rfl ?_
  refine jl_M (As := []) EE (hM h) gL_law_X10_stackSize lh_X10_stackSize rfl d2 (by decide) rfl rfl (Nat.le_of_ble_eq_true rfl) dL_law_647 (fun u hu => ?_)
  exact jk_icmp_eq EE 866 dL_law_650 (by decide) (fun _ => kk x2 (m2 u) (hinv u hu)) (fun c9 => absurd rfl c9)
theorem lh_X9_stackSymbol : yX9_stackSymbol.cls = RX9 ∧ yX9_stackSymbol.cls ≠ "java/lang/invoke/MethodHandle" ∧ yX9_stackSymbol.cls ≠ "java/lang/invoke/VarHandle" ∧ (parseMethodDescriptor yX9_stackSymbol.desc).map (fun d => d.parameters.length) = some 1 := ⟨rfl, by decide +kernel⟩
theorem lh_X10_stackSymbol : yX10_stackSymbol.cls = RX10 ∧ yX10_stackSymbol.cls ≠ "java/lang/invoke/MethodHandle" ∧ yX10_stackSymbol.cls ≠ "java/lang/invoke/VarHandle" ∧ (parseMethodDescriptor yX10_stackSymbol.desc).map (fun d => d.parameters.length) = some 1 := ⟨rfl, by decide +kernel⟩
set_option maxRecDepth 100000 in
set_option maxHeartbeats 4000000 in
theorem lc_stackSymbol (EE : En D [(cI, .int), (cC, .char), (cJ, .long), (cG, .object "PushdownGameSolver$Game")] ε cL_law RL wsL_law ret) (SC : ScE ε b L xs) (hL : L ≤ 3072) {i : Nat} (hi6 : i + 6 ≤ L) (hI : Inv x m) (kk : ∀ (x : XSt) (m : MSt), Inv x m → JK l room_1 D ε 44 1825 (wX cI cC cJ cG H hk hr x ++ wM cI cC cJ cG h m) 866 [(3, .int (nI i)), (2, .ref (h 0)), (1, .ref (H 0)), (0, .ref b)] []) : JK l room_1 D ε 44 1825 (wX cI cC cJ cG H hk hr x ++ wM cI cC cJ cG h m) 655 [(3, .int (nI i)), (2, .ref (h 0)), (1, .ref (H 0)), (0, .ref b)] [] := by
  obtain ⟨z, x2, S2, psi, m2, dx, dm, d1, d2, hinv, hX, hM⟩ := st_stackSymbol (l := l) (D := D) (cI := cI) (cC := cC) (cJ := cJ) (cG := cG) (xs (i + 1)) hI
  refine jk_aload_n EE 2 dL_law_655 rfl rfl ?_
  refine jk_aload_n EE 3 dL_law_656 rfl rfl ?_
  refine jk_iload_n EE 0 dL_law_657 rfl rfl ?_
  refine jk_iconst (v := nI 1) EE dL_law_658 (by decide) ?_
  refine jk_iadd EE dL_law_659 ?_
  refine jk_topE (y := nI (i + 1)) (nI_add i 1) ?_
  refine jk_sld EE SC (by omega) (j := i + 1) (by omega) dL_law_660 ?_
  refine jl_X (As := [.int (xs (i + 1))]) EE (hX H hk hr) gL_law_X9_stackSymbol lh_X9_stackSymbol rfl d1 (by decide) rfl rfl (Nat.le_of_ble_eq_true rfl) dL_law_661 ?_
  refine jk_aload_n EE 1 dL_law_664 rfl rfl ?_
  refine jk_aload_n EE 3 dL_law_665 rfl rfl ?_
  refine jk_iload_n EE 0 dL_law_666 rfl rfl ?_
  refine jk_iconst (v := nI 1) EE dL_law_667 (by decide) ?_
  refine jk_iadd EE dL_law_668 ?_
  refine jk_topE (y := nI (i + 1)) (nI_add i 1) ?_
  refine jk_sld EE SC (by omega) (j := i + 1) (by omega) dL_law_669 ?_
  refine jl_M (As := [.int (xs (i + 1))]) EE (hM h) gL_law_X10_stackSymbol lh_X10_stackSymbol rfl d2 (by decide) rfl rfl (Nat.le_of_ble_eq_true rfl) dL_law_670 (fun u hu => ?_)
  exact jk_icmp_eq EE 866 dL_law_673 (by decide) (fun _ => kk x2 (m2 u) (hinv u hu)) (fun c9 => absurd rfl c9)
theorem lh_X9_playableRules : yX9_playableRules.cls = RX9 ∧ yX9_playableRules.cls ≠ "java/lang/invoke/MethodHandle" ∧ yX9_playableRules.cls ≠ "java/lang/invoke/VarHandle" ∧ (parseMethodDescriptor yX9_playableRules.desc).map (fun d => d.parameters.length) = some 0 := ⟨rfl, by decide +kernel⟩
theorem lh_X10_playableRules : yX10_playableRules.cls = RX10 ∧ yX10_playableRules.cls ≠ "java/lang/invoke/MethodHandle" ∧ yX10_playableRules.cls ≠ "java/lang/invoke/VarHandle" ∧ (parseMethodDescriptor yX10_playableRules.desc).map (fun d => d.parameters.length) = some 0 := ⟨rfl, by decide +kernel⟩
set_option maxRecDepth 100000 in
set_option maxHeartbeats 4000000 in
theorem lc_playableRules (EE : En D [(cI, .int), (cC, .char), (cJ, .long), (cG, .object "PushdownGameSolver$Game")] ε cL_law RL wsL_law ret) (SC : ScE ε b L xs) (hL : L ≤ 3072) {i : Nat} (hi6 : i + 6 ≤ L) (hI : Inv x m) (kk : ∀ (x : XSt) (m : MSt), Inv x m → JK l room_1 D ε 44 1825 (wX cI cC cJ cG H hk hr x ++ wM cI cC cJ cG h m) 866 [(3, .int (nI i)), (2, .ref (h 0)), (1, .ref (H 0)), (0, .ref b)] []) : JK l room_1 D ε 44 1825 (wX cI cC cJ cG H hk hr x ++ wM cI cC cJ cG h m) 678 [(3, .int (nI i)), (2, .ref (h 0)), (1, .ref (H 0)), (0, .ref b)] [] := by
  obtain ⟨z, x2, S2, psi, m2, dx, dm, d1, d2, hinv, hX, hM⟩ := st_playableRules (l := l) (D := D) (cI := cI) (cC := cC) (cJ := cJ) (cG := cG)  hI
  refine jk_aload_n EE 2 dL_law_678 rfl rfl ?_
  refine jl_X (As := []) EE (hX H hk hr) gL_law_X9_playableRules lh_X9_playableRules rfl d1 (by decide) rfl rfl (Nat.le_of_ble_eq_true rfl) dL_law_679 ?_
  refine jk_aload_n EE 1 dL_law_682 rfl rfl ?_
  refine jl_M (As := []) EE (hM h) gL_law_X10_playableRules lh_X10_playableRules rfl d2 (by decide) rfl rfl (Nat.le_of_ble_eq_true rfl) dL_law_683 (fun u hu => ?_)
  exact jk_icmp_eq EE 866 dL_law_686 (by decide) (fun _ => kk x2 (m2 u) (hinv u hu)) (fun c9 => absurd rfl c9)
theorem lh_X9_winner : yX9_winner.cls = RX9 ∧ yX9_winner.cls ≠ "java/lang/invoke/MethodHandle" ∧ yX9_winner.cls ≠ "java/lang/invoke/VarHandle" ∧ (parseMethodDescriptor yX9_winner.desc).map (fun d => d.parameters.length) = some 0 := ⟨rfl, by decide +kernel⟩
theorem lh_X10_winner : yX10_winner.cls = RX10 ∧ yX10_winner.cls ≠ "java/lang/invoke/MethodHandle" ∧ yX10_winner.cls ≠ "java/lang/invoke/VarHandle" ∧ (parseMethodDescriptor yX10_winner.desc).map (fun d => d.parameters.length) = some 0 := ⟨rfl, by decide +kernel⟩
set_option maxRecDepth 100000 in
set_option maxHeartbeats 4000000 in
theorem lc_winner (EE : En D [(cI, .int), (cC, .char), (cJ, .long), (cG, .object "PushdownGameSolver$Game")] ε cL_law RL wsL_law ret) (SC : ScE ε b L xs) (hL : L ≤ 3072) {i : Nat} (hi6 : i + 6 ≤ L) (hI : Inv x m) (kk : ∀ (x : XSt) (m : MSt), Inv x m → JK l room_1 D ε 44 1825 (wX cI cC cJ cG H hk hr x ++ wM cI cC cJ cG h m) 866 [(3, .int (nI i)), (2, .ref (h 0)), (1, .ref (H 0)), (0, .ref b)] []) : JK l room_1 D ε 44 1825 (wX cI cC cJ cG H hk hr x ++ wM cI cC cJ cG h m) 691 [(3, .int (nI i)), (2, .ref (h 0)), (1, .ref (H 0)), (0, .ref b)] [] := by
  obtain ⟨z, x2, S2, psi, m2, dx, dm, d1, d2, hinv, hX, hM⟩ := st_winner (l := l) (D := D) (cI := cI) (cC := cC) (cJ := cJ) (cG := cG)  hI
  refine jk_aload_n EE 2 dL_law_691 rfl rfl ?_
  refine jl_X (As := []) EE (hX H hk hr) gL_law_X9_winner lh_X9_winner rfl d1 (by decide) rfl rfl (Nat.le_of_ble_eq_true rfl) dL_law_692 ?_
  refine jk_aload_n EE 1 dL_law_695 rfl rfl ?_
  refine jl_M (As := []) EE (hM h) gL_law_X10_winner lh_X10_winner rfl d2 (by decide) rfl rfl (Nat.le_of_ble_eq_true rfl) dL_law_696 (fun u hu => ?_)
  exact jk_icmp_eq EE 866 dL_law_699 (by decide) (fun _ => kk x2 (m2 u) (hinv u hu)) (fun c9 => absurd rfl c9)
theorem lh_X9_winningRound : yX9_winningRound.cls = RX9 ∧ yX9_winningRound.cls ≠ "java/lang/invoke/MethodHandle" ∧ yX9_winningRound.cls ≠ "java/lang/invoke/VarHandle" ∧ (parseMethodDescriptor yX9_winningRound.desc).map (fun d => d.parameters.length) = some 0 := ⟨rfl, by decide +kernel⟩
theorem lh_X10_winningRound : yX10_winningRound.cls = RX10 ∧ yX10_winningRound.cls ≠ "java/lang/invoke/MethodHandle" ∧ yX10_winningRound.cls ≠ "java/lang/invoke/VarHandle" ∧ (parseMethodDescriptor yX10_winningRound.desc).map (fun d => d.parameters.length) = some 0 := ⟨rfl, by decide +kernel⟩
set_option maxRecDepth 100000 in
set_option maxHeartbeats 4000000 in
theorem lc_winningRound (EE : En D [(cI, .int), (cC, .char), (cJ, .long), (cG, .object "PushdownGameSolver$Game")] ε cL_law RL wsL_law ret) (SC : ScE ε b L xs) (hL : L ≤ 3072) {i : Nat} (hi6 : i + 6 ≤ L) (hI : Inv x m) (kk : ∀ (x : XSt) (m : MSt), Inv x m → JK l room_1 D ε 44 1825 (wX cI cC cJ cG H hk hr x ++ wM cI cC cJ cG h m) 866 [(3, .int (nI i)), (2, .ref (h 0)), (1, .ref (H 0)), (0, .ref b)] []) : JK l room_1 D ε 44 1825 (wX cI cC cJ cG H hk hr x ++ wM cI cC cJ cG h m) 704 [(3, .int (nI i)), (2, .ref (h 0)), (1, .ref (H 0)), (0, .ref b)] [] := by
  obtain ⟨z, x2, S2, psi, m2, dx, dm, d1, d2, hinv, hX, hM⟩ := st_winningRound (l := l) (D := D) (cI := cI) (cC := cC) (cJ := cJ) (cG := cG)  hI
  refine jk_aload_n EE 2 dL_law_704 rfl rfl ?_
  refine jl_X (As := []) EE (hX H hk hr) gL_law_X9_winningRound lh_X9_winningRound rfl d1 (by decide) rfl rfl (Nat.le_of_ble_eq_true rfl) dL_law_705 ?_
  refine jk_aload_n EE 1 dL_law_708 rfl rfl ?_
  refine jl_M (As := []) EE (hM h) gL_law_X10_winningRound lh_X10_winningRound rfl d2 (by decide) rfl rfl (Nat.le_of_ble_eq_true rfl) dL_law_709 (fun u hu => ?_)
  exact jk_icmp_eq EE 866 dL_law_712 (by decide) (fun _ => kk x2 (m2 u) (hinv u hu)) (fun c9 => absurd rfl c9)
theorem lh_X9_distance : yX9_distance.cls = RX9 ∧ yX9_distance.cls ≠ "java/lang/invoke/MethodHandle" ∧ yX9_distance.cls ≠ "java/lang/invoke/VarHandle" ∧ (parseMethodDescriptor yX9_distance.desc).map (fun d => d.parameters.length) = some 0 := ⟨rfl, by decide +kernel⟩
theorem lh_X10_distance : yX10_distance.cls = RX10 ∧ yX10_distance.cls ≠ "java/lang/invoke/MethodHandle" ∧ yX10_distance.cls ≠ "java/lang/invoke/VarHandle" ∧ (parseMethodDescriptor yX10_distance.desc).map (fun d => d.parameters.length) = some 0 := ⟨rfl, by decide +kernel⟩
set_option maxRecDepth 100000 in
set_option maxHeartbeats 4000000 in
theorem lc_distance (EE : En D [(cI, .int), (cC, .char), (cJ, .long), (cG, .object "PushdownGameSolver$Game")] ε cL_law RL wsL_law ret) (SC : ScE ε b L xs) (hL : L ≤ 3072) {i : Nat} (hi6 : i + 6 ≤ L) (hI : Inv x m) (kk : ∀ (x : XSt) (m : MSt), Inv x m → JK l room_1 D ε 44 1825 (wX cI cC cJ cG H hk hr x ++ wM cI cC cJ cG h m) 866 [(3, .int (nI i)), (2, .ref (h 0)), (1, .ref (H 0)), (0, .ref b)] []) : JK l room_1 D ε 44 1825 (wX cI cC cJ cG H hk hr x ++ wM cI cC cJ cG h m) 717 [(3, .int (nI i)), (2, .ref (h 0)), (1, .ref (H 0)), (0, .ref b)] [] := by
  obtain ⟨z, x2, S2, psi, m2, dx, dm, d1, d2, hinv, hX, hM⟩ := st_distance (l := l) (D := D) (cI := cI) (cC := cC) (cJ := cJ) (cG := cG)  hI
  refine jk_aload_n EE 2 dL_law_717 rfl rfl ?_
  refine jl_X (As := []) EE (hX H hk hr) gL_law_X9_distance lh_X9_distance rfl d1 (by decide) rfl rfl (Nat.le_of_ble_eq_true rfl) dL_law_718 ?_
  refine jk_aload_n EE 1 dL_law_721 rfl rfl ?_
  refine jl_M (As := []) EE (hM h) gL_law_X10_distance lh_X10_distance rfl d2 (by decide) rfl rfl (Nat.le_of_ble_eq_true rfl) dL_law_722 (fun u hu => ?_)
  exact jk_icmp_eq EE 866 dL_law_725 (by decide) (fun _ => kk x2 (m2 u) (hinv u hu)) (fun c9 => absurd rfl c9)
theorem lh_X9_bestRule : yX9_bestRule.cls = RX9 ∧ yX9_bestRule.cls ≠ "java/lang/invoke/MethodHandle" ∧ yX9_bestRule.cls ≠ "java/lang/invoke/VarHandle" ∧ (parseMethodDescriptor yX9_bestRule.desc).map (fun d => d.parameters.length) = some 0 := ⟨rfl, by decide +kernel⟩
theorem lh_X10_bestRule : yX10_bestRule.cls = RX10 ∧ yX10_bestRule.cls ≠ "java/lang/invoke/MethodHandle" ∧ yX10_bestRule.cls ≠ "java/lang/invoke/VarHandle" ∧ (parseMethodDescriptor yX10_bestRule.desc).map (fun d => d.parameters.length) = some 0 := ⟨rfl, by decide +kernel⟩
set_option maxRecDepth 100000 in
set_option maxHeartbeats 4000000 in
theorem lc_bestRule (EE : En D [(cI, .int), (cC, .char), (cJ, .long), (cG, .object "PushdownGameSolver$Game")] ε cL_law RL wsL_law ret) (SC : ScE ε b L xs) (hL : L ≤ 3072) {i : Nat} (hi6 : i + 6 ≤ L) (hI : Inv x m) (kk : ∀ (x : XSt) (m : MSt), Inv x m → JK l room_1 D ε 44 1825 (wX cI cC cJ cG H hk hr x ++ wM cI cC cJ cG h m) 866 [(3, .int (nI i)), (2, .ref (h 0)), (1, .ref (H 0)), (0, .ref b)] []) : JK l room_1 D ε 44 1825 (wX cI cC cJ cG H hk hr x ++ wM cI cC cJ cG h m) 730 [(3, .int (nI i)), (2, .ref (h 0)), (1, .ref (H 0)), (0, .ref b)] [] := by
  obtain ⟨z, x2, S2, psi, m2, dx, dm, d1, d2, hinv, hX, hM⟩ := st_bestRule (l := l) (D := D) (cI := cI) (cC := cC) (cJ := cJ) (cG := cG)  hI
  refine jk_aload_n EE 2 dL_law_730 rfl rfl ?_
  refine jl_X (As := []) EE (hX H hk hr) gL_law_X9_bestRule lh_X9_bestRule rfl d1 (by decide) rfl rfl (Nat.le_of_ble_eq_true rfl) dL_law_731 ?_
  refine jk_aload_n EE 1 dL_law_734 rfl rfl ?_
  refine jl_M (As := []) EE (hM h) gL_law_X10_bestRule lh_X10_bestRule rfl d2 (by decide) rfl rfl (Nat.le_of_ble_eq_true rfl) dL_law_735 (fun u hu => ?_)
  exact jk_icmp_eq EE 866 dL_law_738 (by decide) (fun _ => kk x2 (m2 u) (hinv u hu)) (fun c9 => absurd rfl c9)
theorem lh_X9_rounds : yX9_rounds.cls = RX9 ∧ yX9_rounds.cls ≠ "java/lang/invoke/MethodHandle" ∧ yX9_rounds.cls ≠ "java/lang/invoke/VarHandle" ∧ (parseMethodDescriptor yX9_rounds.desc).map (fun d => d.parameters.length) = some 0 := ⟨rfl, by decide +kernel⟩
theorem lh_X10_rounds : yX10_rounds.cls = RX10 ∧ yX10_rounds.cls ≠ "java/lang/invoke/MethodHandle" ∧ yX10_rounds.cls ≠ "java/lang/invoke/VarHandle" ∧ (parseMethodDescriptor yX10_rounds.desc).map (fun d => d.parameters.length) = some 0 := ⟨rfl, by decide +kernel⟩
set_option maxRecDepth 100000 in
set_option maxHeartbeats 4000000 in
theorem lc_rounds (EE : En D [(cI, .int), (cC, .char), (cJ, .long), (cG, .object "PushdownGameSolver$Game")] ε cL_law RL wsL_law ret) (SC : ScE ε b L xs) (hL : L ≤ 3072) {i : Nat} (hi6 : i + 6 ≤ L) (hI : Inv x m) (kk : ∀ (x : XSt) (m : MSt), Inv x m → JK l room_1 D ε 44 1825 (wX cI cC cJ cG H hk hr x ++ wM cI cC cJ cG h m) 866 [(3, .int (nI i)), (2, .ref (h 0)), (1, .ref (H 0)), (0, .ref b)] []) : JK l room_1 D ε 44 1825 (wX cI cC cJ cG H hk hr x ++ wM cI cC cJ cG h m) 743 [(3, .int (nI i)), (2, .ref (h 0)), (1, .ref (H 0)), (0, .ref b)] [] := by
  obtain ⟨z, x2, S2, psi, m2, dx, dm, d1, d2, hinv, hX, hM⟩ := st_rounds (l := l) (D := D) (cI := cI) (cC := cC) (cJ := cJ) (cG := cG)  hI
  refine jk_aload_n EE 2 dL_law_743 rfl rfl ?_
  refine jl_X (As := []) EE (hX H hk hr) gL_law_X9_rounds lh_X9_rounds rfl d1 (by decide) rfl rfl (Nat.le_of_ble_eq_true rfl) dL_law_744 ?_
  refine jk_aload_n EE 1 dL_law_747 rfl rfl ?_
  refine jl_M (As := []) EE (hM h) gL_law_X10_rounds lh_X10_rounds rfl d2 (by decide) rfl rfl (Nat.le_of_ble_eq_true rfl) dL_law_748 (fun u hu => ?_)
  exact jk_icmp_eq EE 866 dL_law_751 (by decide) (fun _ => kk x2 (m2 u) (hinv u hu)) (fun c9 => absurd rfl c9)
theorem lh_X9_forcingSetCount : yX9_forcingSetCount.cls = RX9 ∧ yX9_forcingSetCount.cls ≠ "java/lang/invoke/MethodHandle" ∧ yX9_forcingSetCount.cls ≠ "java/lang/invoke/VarHandle" ∧ (parseMethodDescriptor yX9_forcingSetCount.desc).map (fun d => d.parameters.length) = some 2 := ⟨rfl, by decide +kernel⟩
theorem lh_X10_forcingSetCount : yX10_forcingSetCount.cls = RX10 ∧ yX10_forcingSetCount.cls ≠ "java/lang/invoke/MethodHandle" ∧ yX10_forcingSetCount.cls ≠ "java/lang/invoke/VarHandle" ∧ (parseMethodDescriptor yX10_forcingSetCount.desc).map (fun d => d.parameters.length) = some 2 := ⟨rfl, by decide +kernel⟩
set_option maxRecDepth 100000 in
set_option maxHeartbeats 4000000 in
theorem lc_forcingSetCount (EE : En D [(cI, .int), (cC, .char), (cJ, .long), (cG, .object "PushdownGameSolver$Game")] ε cL_law RL wsL_law ret) (SC : ScE ε b L xs) (hL : L ≤ 3072) {i : Nat} (hi6 : i + 6 ≤ L) (hI : Inv x m) (kk : ∀ (x : XSt) (m : MSt), Inv x m → JK l room_1 D ε 44 1825 (wX cI cC cJ cG H hk hr x ++ wM cI cC cJ cG h m) 866 [(3, .int (nI i)), (2, .ref (h 0)), (1, .ref (H 0)), (0, .ref b)] []) : JK l room_1 D ε 44 1825 (wX cI cC cJ cG H hk hr x ++ wM cI cC cJ cG h m) 756 [(3, .int (nI i)), (2, .ref (h 0)), (1, .ref (H 0)), (0, .ref b)] [] := by
  obtain ⟨z, x2, S2, psi, m2, dx, dm, d1, d2, hinv, hX, hM⟩ := st_forcingSetCount (l := l) (D := D) (cI := cI) (cC := cC) (cJ := cJ) (cG := cG) (xs (i + 1)) (xs (i + 2)) hI
  refine jk_aload_n EE 2 dL_law_756 rfl rfl ?_
  refine jk_aload_n EE 3 dL_law_757 rfl rfl ?_
  refine jk_iload_n EE 0 dL_law_758 rfl rfl ?_
  refine jk_iconst (v := nI 1) EE dL_law_759 (by decide) ?_
  refine jk_iadd EE dL_law_760 ?_
  refine jk_topE (y := nI (i + 1)) (nI_add i 1) ?_
  refine jk_sld EE SC (by omega) (j := i + 1) (by omega) dL_law_761 ?_
  refine jk_aload_n EE 3 dL_law_762 rfl rfl ?_
  refine jk_iload_n EE 0 dL_law_763 rfl rfl ?_
  refine jk_iconst (v := nI 2) EE dL_law_764 (by decide) ?_
  refine jk_iadd EE dL_law_765 ?_
  refine jk_topE (y := nI (i + 2)) (nI_add i 2) ?_
  refine jk_sld EE SC (by omega) (j := i + 2) (by omega) dL_law_766 ?_
  refine jl_X (As := [.int (xs (i + 1)), .int (xs (i + 2))]) EE (hX H hk hr) gL_law_X9_forcingSetCount lh_X9_forcingSetCount rfl d1 (by decide) rfl rfl (Nat.le_of_ble_eq_true rfl) dL_law_767 ?_
  refine jk_aload_n EE 1 dL_law_770 rfl rfl ?_
  refine jk_aload_n EE 3 dL_law_771 rfl rfl ?_
  refine jk_iload_n EE 0 dL_law_772 rfl rfl ?_
  refine jk_iconst (v := nI 1) EE dL_law_773 (by decide) ?_
  refine jk_iadd EE dL_law_774 ?_
  refine jk_topE (y := nI (i + 1)) (nI_add i 1) ?_
  refine jk_sld EE SC (by omega) (j := i + 1) (by omega) dL_law_775 ?_
  refine jk_aload_n EE 3 dL_law_776 rfl rfl ?_
  refine jk_iload_n EE 0 dL_law_777 rfl rfl ?_
  refine jk_iconst (v := nI 2) EE dL_law_778 (by decide) ?_
  refine jk_iadd EE dL_law_779 ?_
  refine jk_topE (y := nI (i + 2)) (nI_add i 2) ?_
  refine jk_sld EE SC (by omega) (j := i + 2) (by omega) dL_law_780 ?_
  refine jl_M (As := [.int (xs (i + 1)), .int (xs (i + 2))]) EE (hM h) gL_law_X10_forcingSetCount lh_X10_forcingSetCount rfl d2 (by decide) rfl rfl (Nat.le_of_ble_eq_true rfl) dL_law_781 (fun u hu => ?_)
  exact jk_icmp_eq EE 866 dL_law_784 (by decide) (fun _ => kk x2 (m2 u) (hinv u hu)) (fun c9 => absurd rfl c9)
theorem lh_X9_forcingSet : yX9_forcingSet.cls = RX9 ∧ yX9_forcingSet.cls ≠ "java/lang/invoke/MethodHandle" ∧ yX9_forcingSet.cls ≠ "java/lang/invoke/VarHandle" ∧ (parseMethodDescriptor yX9_forcingSet.desc).map (fun d => d.parameters.length) = some 3 := ⟨rfl, by decide +kernel⟩
theorem lh_X10_forcingSet : yX10_forcingSet.cls = RX10 ∧ yX10_forcingSet.cls ≠ "java/lang/invoke/MethodHandle" ∧ yX10_forcingSet.cls ≠ "java/lang/invoke/VarHandle" ∧ (parseMethodDescriptor yX10_forcingSet.desc).map (fun d => d.parameters.length) = some 3 := ⟨rfl, by decide +kernel⟩
set_option maxRecDepth 100000 in
set_option maxHeartbeats 4000000 in
theorem lc_forcingSet (EE : En D [(cI, .int), (cC, .char), (cJ, .long), (cG, .object "PushdownGameSolver$Game")] ε cL_law RL wsL_law ret) (SC : ScE ε b L xs) (hL : L ≤ 3072) {i : Nat} (hi6 : i + 6 ≤ L) (hI : Inv x m) (kk : ∀ (x : XSt) (m : MSt), Inv x m → JK l room_1 D ε 44 1825 (wX cI cC cJ cG H hk hr x ++ wM cI cC cJ cG h m) 866 [(3, .int (nI i)), (2, .ref (h 0)), (1, .ref (H 0)), (0, .ref b)] []) : JK l room_1 D ε 44 1825 (wX cI cC cJ cG H hk hr x ++ wM cI cC cJ cG h m) 789 [(3, .int (nI i)), (2, .ref (h 0)), (1, .ref (H 0)), (0, .ref b)] [] := by
  obtain ⟨z, x2, S2, psi, m2, dx, dm, d1, d2, hinv, hX, hM⟩ := st_forcingSet (l := l) (D := D) (cI := cI) (cC := cC) (cJ := cJ) (cG := cG) (xs (i + 1)) (xs (i + 2)) (xs (i + 3)) hI
  refine jk_aload_n EE 2 dL_law_789 rfl rfl ?_
  refine jk_aload_n EE 3 dL_law_790 rfl rfl ?_
  refine jk_iload_n EE 0 dL_law_791 rfl rfl ?_
  refine jk_iconst (v := nI 1) EE dL_law_792 (by decide) ?_
  refine jk_iadd EE dL_law_793 ?_
  refine jk_topE (y := nI (i + 1)) (nI_add i 1) ?_
  refine jk_sld EE SC (by omega) (j := i + 1) (by omega) dL_law_794 ?_
  refine jk_aload_n EE 3 dL_law_795 rfl rfl ?_
  refine jk_iload_n EE 0 dL_law_796 rfl rfl ?_
  refine jk_iconst (v := nI 2) EE dL_law_797 (by decide) ?_
  refine jk_iadd EE dL_law_798 ?_
  refine jk_topE (y := nI (i + 2)) (nI_add i 2) ?_
  refine jk_sld EE SC (by omega) (j := i + 2) (by omega) dL_law_799 ?_
  refine jk_aload_n EE 3 dL_law_800 rfl rfl ?_
  refine jk_iload_n EE 0 dL_law_801 rfl rfl ?_
  refine jk_iconst (v := nI 3) EE dL_law_802 (by decide) ?_
  refine jk_iadd EE dL_law_803 ?_
  refine jk_topE (y := nI (i + 3)) (nI_add i 3) ?_
  refine jk_sld EE SC (by omega) (j := i + 3) (by omega) dL_law_804 ?_
  refine jl_X (As := [.int (xs (i + 1)), .int (xs (i + 2)), .int (xs (i + 3))]) EE (hX H hk hr) gL_law_X9_forcingSet lh_X9_forcingSet rfl d1 (by decide) rfl rfl (Nat.le_of_ble_eq_true rfl) dL_law_805 ?_
  refine jk_aload_n EE 1 dL_law_808 rfl rfl ?_
  refine jk_aload_n EE 3 dL_law_809 rfl rfl ?_
  refine jk_iload_n EE 0 dL_law_810 rfl rfl ?_
  refine jk_iconst (v := nI 1) EE dL_law_811 (by decide) ?_
  refine jk_iadd EE dL_law_812 ?_
  refine jk_topE (y := nI (i + 1)) (nI_add i 1) ?_
  refine jk_sld EE SC (by omega) (j := i + 1) (by omega) dL_law_813 ?_
  refine jk_aload_n EE 3 dL_law_814 rfl rfl ?_
  refine jk_iload_n EE 0 dL_law_815 rfl rfl ?_
  refine jk_iconst (v := nI 2) EE dL_law_816 (by decide) ?_
  refine jk_iadd EE dL_law_817 ?_
  refine jk_topE (y := nI (i + 2)) (nI_add i 2) ?_
  refine jk_sld EE SC (by omega) (j := i + 2) (by omega) dL_law_818 ?_
  refine jk_aload_n EE 3 dL_law_819 rfl rfl ?_
  refine jk_iload_n EE 0 dL_law_820 rfl rfl ?_
  refine jk_iconst (v := nI 3) EE dL_law_821 (by decide) ?_
  refine jk_iadd EE dL_law_822 ?_
  refine jk_topE (y := nI (i + 3)) (nI_add i 3) ?_
  refine jk_sld EE SC (by omega) (j := i + 3) (by omega) dL_law_823 ?_
  refine jl_M (As := [.int (xs (i + 1)), .int (xs (i + 2)), .int (xs (i + 3))]) EE (hM h) gL_law_X10_forcingSet lh_X10_forcingSet rfl d2 (by decide) rfl rfl (Nat.le_of_ble_eq_true rfl) dL_law_824 (fun u hu => ?_)
  exact jk_icmp_eq EE 866 dL_law_827 (by decide) (fun _ => kk x2 (m2 u) (hinv u hu)) (fun c9 => absurd rfl c9)
theorem lh_X9_winningStacks : yX9_winningStacks.cls = RX9 ∧ yX9_winningStacks.cls ≠ "java/lang/invoke/MethodHandle" ∧ yX9_winningStacks.cls ≠ "java/lang/invoke/VarHandle" ∧ (parseMethodDescriptor yX9_winningStacks.desc).map (fun d => d.parameters.length) = some 2 := ⟨rfl, by decide +kernel⟩
theorem lh_X10_winningStacks : yX10_winningStacks.cls = RX10 ∧ yX10_winningStacks.cls ≠ "java/lang/invoke/MethodHandle" ∧ yX10_winningStacks.cls ≠ "java/lang/invoke/VarHandle" ∧ (parseMethodDescriptor yX10_winningStacks.desc).map (fun d => d.parameters.length) = some 2 := ⟨rfl, by decide +kernel⟩
set_option maxRecDepth 100000 in
set_option maxHeartbeats 4000000 in
theorem lc_winningStacks (EE : En D [(cI, .int), (cC, .char), (cJ, .long), (cG, .object "PushdownGameSolver$Game")] ε cL_law RL wsL_law ret) (SC : ScE ε b L xs) (hL : L ≤ 3072) {i : Nat} (hi6 : i + 6 ≤ L) (hI : Inv x m) (kk : ∀ (x : XSt) (m : MSt), Inv x m → JK l room_1 D ε 44 1825 (wX cI cC cJ cG H hk hr x ++ wM cI cC cJ cG h m) 866 [(3, .int (nI i)), (2, .ref (h 0)), (1, .ref (H 0)), (0, .ref b)] []) : JK l room_1 D ε 44 1825 (wX cI cC cJ cG H hk hr x ++ wM cI cC cJ cG h m) 832 [(3, .int (nI i)), (2, .ref (h 0)), (1, .ref (H 0)), (0, .ref b)] [] := by
  obtain ⟨z, x2, S2, psi, m2, dx, dm, d1, d2, hinv, hX, hM⟩ := st_winningStacks (l := l) (D := D) (cI := cI) (cC := cC) (cJ := cJ) (cG := cG) (xs (i + 1)) (xs (i + 2)) hI
  refine jk_aload_n EE 2 dL_law_832 rfl rfl ?_
  refine jk_aload_n EE 3 dL_law_833 rfl rfl ?_
  refine jk_iload_n EE 0 dL_law_834 rfl rfl ?_
  refine jk_iconst (v := nI 1) EE dL_law_835 (by decide) ?_
  refine jk_iadd EE dL_law_836 ?_
  refine jk_topE (y := nI (i + 1)) (nI_add i 1) ?_
  refine jk_sld EE SC (by omega) (j := i + 1) (by omega) dL_law_837 ?_
  refine jk_aload_n EE 3 dL_law_838 rfl rfl ?_
  refine jk_iload_n EE 0 dL_law_839 rfl rfl ?_
  refine jk_iconst (v := nI 2) EE dL_law_840 (by decide) ?_
  refine jk_iadd EE dL_law_841 ?_
  refine jk_topE (y := nI (i + 2)) (nI_add i 2) ?_
  refine jk_sld EE SC (by omega) (j := i + 2) (by omega) dL_law_842 ?_
  refine jl_X (As := [.int (xs (i + 1)), .int (xs (i + 2))]) EE (hX H hk hr) gL_law_X9_winningStacks lh_X9_winningStacks rfl d1 (by decide) rfl rfl (Nat.le_of_ble_eq_true rfl) dL_law_843 ?_
  refine jk_aload_n EE 1 dL_law_846 rfl rfl ?_
  refine jk_aload_n EE 3 dL_law_847 rfl rfl ?_
  refine jk_iload_n EE 0 dL_law_848 rfl rfl ?_
  refine jk_iconst (v := nI 1) EE dL_law_849 (by decide) ?_
  refine jk_iadd EE dL_law_850 ?_
  refine jk_topE (y := nI (i + 1)) (nI_add i 1) ?_
  refine jk_sld EE SC (by omega) (j := i + 1) (by omega) dL_law_851 ?_
  refine jk_aload_n EE 3 dL_law_852 rfl rfl ?_
  refine jk_iload_n EE 0 dL_law_853 rfl rfl ?_
  refine jk_iconst (v := nI 2) EE dL_law_854 (by decide) ?_
  refine jk_iadd EE dL_law_855 ?_
  refine jk_topE (y := nI (i + 2)) (nI_add i 2) ?_
  refine jk_sld EE SC (by omega) (j := i + 2) (by omega) dL_law_856 ?_
  refine jl_M (As := [.int (xs (i + 1)), .int (xs (i + 2))]) EE (hM h) gL_law_X10_winningStacks lh_X10_winningStacks rfl d2 (by decide) rfl rfl (Nat.le_of_ble_eq_true rfl) dL_law_857 (fun u hu => ?_)
  refine jk_lcmp EE dL_law_860 ?_
  exact jk_if_eq EE 866 dL_law_861 (by decide) (fun _ => kk x2 (m2 u) (hinv u hu)) (fun c9 => absurd (lcmp_0 z) c9)
end Law1
