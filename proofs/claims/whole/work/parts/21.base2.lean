section J2
variable {l : Launch} {rm : Room} {D : va_G} {tys : List (ClassId × FieldType)} {ε : EnvT} {cc : ByteArray} {own : String} {Ts : List Cond} {ret : Option FieldType} {ws : va_W} {pc : Nat} {lv : List (Nat × Value)} {st : List Value}

theorem j_copyi (E : En D tys ε cc own Ts ret) {index : Nat} (hlink : Cond.methodLink own index arraycopyName ∈ Ts) (hnat : Cond.native arraycopyName ∈ Ts) (hstat : Cond.static arraycopyName ∈ Ts) (hini : Cond.initialized "java/lang/System" ∈ Ts) (q0 q1 t0 t1 : Nat) {a a0 : Nat} {c0 c1 : ClassId} {n0 n1 : Nat} {f g : Nat → Int32} {ty : FieldType} (ha0 : ws[q0]? = some (a0, .inl (c0, n0, .inl (f)))) (ha1 : ws[q1]? = some (a, .inl (c1, n1, .inl (g)))) (ht0 : tys[t0]? = some (c0, ty)) (ht1 : tys[t1]? = some (c1, ty)) (hprim : refKind ty = false) {sp dp n : Int32} (h1 : ¬ sp < 0) (h2 : ¬ dp < 0) (h3 : ¬ n < 0) (h4 : sp.toNatClampNeg + n.toNatClampNeg ≤ n0) (h5 : dp.toNatClampNeg + n.toNatClampNeg ≤ n1) (hfit : ∀ i, i < n.toNatClampNeg → fits ty (.int (f (sp.toNatClampNeg + i))) = true) (hfr : 1 ≤ rm.frames) (hlo : (st.map fun v => v.category).sum + (nativeFrameWords "java/lang/System" "arraycopy" 5 + 11) ≤ rm.locals) {ws' : va_W} (hw : ws.set q1 (a, .inl (c1, n1, .inl (va_cpy f g sp.toNatClampNeg dp.toNatClampNeg n.toNatClampNeg))) = ws') (hdg : decode cc pc = .ok (.invokestatic index, 3)) (kk : J l rm D ε ws' (pc + 3) lv (st)) : J l rm D ε ws pc lv (.int n :: .int dp :: .ref a :: .int sp :: .ref a0 :: st) := by
  obtain ⟨p, e, s, m, args, below, meth, c, Q, A, nL⟩ := ε
  obtain ⟨hx, hb, hml, hown, hts, hr, hlocks, hK, hA, hNW, hZ⟩ := E
  intro H locs ls hP hD hS hl
  exact va_copyi hx hb (hml.trans hl.1.symm) hown (hts _ hlink) (hts _ hnat) (hts _ hstat) (hts _ hini) hK hP hD hS q0 q1 t0 t1 ha0 ha1 ht0 ht1 hprim h1 h2 h3 h4 h5 hfit hfr hlo hdg (fun H locs hP hD hS => kk H locs ls (hw ▸ hP) (hw ▸ hD) hS hl)
theorem j_copyl (E : En D tys ε cc own Ts ret) {index : Nat} (hlink : Cond.methodLink own index arraycopyName ∈ Ts) (hnat : Cond.native arraycopyName ∈ Ts) (hstat : Cond.static arraycopyName ∈ Ts) (hini : Cond.initialized "java/lang/System" ∈ Ts) (q0 q1 t0 t1 : Nat) {a a0 : Nat} {c0 c1 : ClassId} {n0 n1 : Nat} {f g : Nat → Int64} {ty : FieldType} (ha0 : ws[q0]? = some (a0, .inl (c0, n0, .inr (.inl (f))))) (ha1 : ws[q1]? = some (a, .inl (c1, n1, .inr (.inl (g))))) (ht0 : tys[t0]? = some (c0, ty)) (ht1 : tys[t1]? = some (c1, ty)) (hprim : refKind ty = false) {sp dp n : Int32} (h1 : ¬ sp < 0) (h2 : ¬ dp < 0) (h3 : ¬ n < 0) (h4 : sp.toNatClampNeg + n.toNatClampNeg ≤ n0) (h5 : dp.toNatClampNeg + n.toNatClampNeg ≤ n1) (hfit : ∀ i, i < n.toNatClampNeg → fits ty (.long (f (sp.toNatClampNeg + i))) = true) (hfr : 1 ≤ rm.frames) (hlo : (st.map fun v => v.category).sum + (nativeFrameWords "java/lang/System" "arraycopy" 5 + 11) ≤ rm.locals) {ws' : va_W} (hw : ws.set q1 (a, .inl (c1, n1, .inr (.inl (va_cpy f g sp.toNatClampNeg dp.toNatClampNeg n.toNatClampNeg)))) = ws') (hdg : decode cc pc = .ok (.invokestatic index, 3)) (kk : J l rm D ε ws' (pc + 3) lv (st)) : J l rm D ε ws pc lv (.int n :: .int dp :: .ref a :: .int sp :: .ref a0 :: st) := by
  obtain ⟨p, e, s, m, args, below, meth, c, Q, A, nL⟩ := ε
  obtain ⟨hx, hb, hml, hown, hts, hr, hlocks, hK, hA, hNW, hZ⟩ := E
  intro H locs ls hP hD hS hl
  exact va_copyl hx hb (hml.trans hl.1.symm) hown (hts _ hlink) (hts _ hnat) (hts _ hstat) (hts _ hini) hK hP hD hS q0 q1 t0 t1 ha0 ha1 ht0 ht1 hprim h1 h2 h3 h4 h5 hfit hfr hlo hdg (fun H locs hP hD hS => kk H locs ls (hw ▸ hP) (hw ▸ hD) hS hl)
theorem j_min (E : En D tys ε cc own Ts ret) {index : Nat} {x y : Int32} (hlink : Cond.methodLink own index Lib.Math.min.name ∈ Ts) (hstat : Cond.static Lib.Math.min.name ∈ Ts) (hini : Cond.initialized "java/lang/Math" ∈ Ts) (hcode : Cond.code Lib.Math.min.name Lib.Math.min.code 2 (some .int) ∈ Ts) (hfr : 1 ≤ rm.frames) (hlo : (st.map fun v => v.category).sum + 13 ≤ rm.locals) (hdg : decode cc pc = .ok (.invokestatic index, 3)) (kk : J l rm D ε ws (pc + 3) lv (.int (if y < x then y else x) :: st)) : J l rm D ε ws pc lv (.int y :: .int x :: st) := by
  obtain ⟨p, e, s, m, args, below, meth, c, Q, A, nL⟩ := ε
  obtain ⟨hx, hb, hml, hown, hts, hr, hlocks, hK, hA, hNW, hZ⟩ := E
  intro H locs ls hP hD hS hl
  exact va_mmin hx hb (hml.trans hl.1.symm) hown (hts _ hlink) (hts _ hstat) (hts _ hini) (hts _ hcode) hfr hlo (Nat.zero_le _) (Nat.zero_le _) hdg (kk H locs ls hP hD hS hl)
theorem j_max (E : En D tys ε cc own Ts ret) {index : Nat} {x y : Int32} (hlink : Cond.methodLink own index Lib.Math.max.name ∈ Ts) (hstat : Cond.static Lib.Math.max.name ∈ Ts) (hini : Cond.initialized "java/lang/Math" ∈ Ts) (hcode : Cond.code Lib.Math.max.name Lib.Math.max.code 2 (some .int) ∈ Ts) (hfr : 1 ≤ rm.frames) (hlo : (st.map fun v => v.category).sum + 13 ≤ rm.locals) (hdg : decode cc pc = .ok (.invokestatic index, 3)) (kk : J l rm D ε ws (pc + 3) lv (.int (if x < y then y else x) :: st)) : J l rm D ε ws pc lv (.int y :: .int x :: st) := by
  obtain ⟨p, e, s, m, args, below, meth, c, Q, A, nL⟩ := ε
  obtain ⟨hx, hb, hml, hown, hts, hr, hlocks, hK, hA, hNW, hZ⟩ := E
  intro H locs ls hP hD hS hl
  exact va_mmax hx hb (hml.trans hl.1.symm) hown (hts _ hlink) (hts _ hstat) (hts _ hini) (hts _ hcode) hfr hlo (Nat.zero_le _) (Nat.zero_le _) hdg (kk H locs ls hP hD hS hl)
theorem j_sws (E : En D tys ε cc own Ts ret) {index : Nat} (hlink : Cond.fieldLink own index RX0 "SETS_WITH_STATE" "[I" ∈ Ts) (j : Nat) (hj : j < 4) (hdg : decode cc pc = .ok (.getstatic index, 3)) {i : Nat} {q : Fin 4} (hdg2 : decode cc (pc + 3) = .ok (.iload_n q, 1)) (hi : (q : Nat) = i) (k : Nat) (hk : lv[k]? = some (i, .int (nI j))) (hdg3 : decode cc (pc + 3 + 1) = .ok (.iaload, 1)) (kk : J l rm D ε ws (pc + 3 + 1 + 1) lv (.int (nI (swsN j)) :: st)) : J l rm D ε ws pc lv (st) := by
  obtain ⟨p, e, s, m, args, below, meth, c, Q, A, nL⟩ := ε
  obtain ⟨hx, hb, hml, hown, hts, hr, hlocks, hK, hA, hNW, hZ⟩ := E
  intro H locs ls hP hD hS hl
  exact (by
    obtain ⟨t, hZ1, hZ2⟩ := hZ
    refine va_gets hx hb hZ1 hS hown (hts _ hlink) (fun _ h => h) hdg ?_
    refine lv_iload_n hx hb hdg2 hi (lv_at hl k hk) ?_
    refine va_ti hx hb hZ2 hS (vp_in_nI hj (by decide)) rfl hdg3 ?_
    rw [nI_clamp (by omega)]
    exact kk H locs ls hP hD hS hl)
end J2
section N2
def updN (F : Nat → Nat) (k c : Nat) : Nat → Nat := fun j => if j = k then c else F j
theorem upd_N (F : Nat → Nat) (k c : Nat) : upd (fun i => nI (F i)) k (nI c) = fun i => nI (updN F k c i) := by
  funext j
  unfold upd updN
  by_cases h : j = k
  · subst h; simp
  · simp [h]
theorem upd_lt {F : Nat → Nat} {k c B : Nat} (hF : ∀ i, F i < B) (hc : c < B) (i : Nat) : updN F k c i < B := by
  unfold updN
  by_cases h : i = k
  · rw [if_pos h]; exact hc
  · rw [if_neg h]; exact hF i
theorem updN_s (F : Nat → Nat) (k c : Nat) : updN F k c k = c := if_pos rfl
theorem updN_n (F : Nat → Nat) (k c : Nat) {j : Nat} (h : j ≠ k) : updN F k c j = F j := if_neg h
def cpyN (F G : Nat → Nat) (n : Nat) : Nat → Nat := fun i => if i < n then F i else G i
theorem cpy_N (F G : Nat → Nat) (n : Nat) (z : Int32) (hz : z.toNatClampNeg = n) (z0 z1 : Int32) (h0 : z0.toNatClampNeg = 0) (h1 : z1.toNatClampNeg = 0) : va_cpy (fun i => nI (F i)) (fun i => nI (G i)) z0.toNatClampNeg z1.toNatClampNeg z.toNatClampNeg = fun i => nI (cpyN F G n i) := by
  funext j
  rw [hz, h0, h1]
  unfold va_cpy cpyN
  by_cases h : j < n
  · simp [h]
  · simp [h]
theorem cpy_lt {F G : Nat → Nat} {n B : Nat} (hF : ∀ i, F i < B) (hG : ∀ i, G i < B) (i : Nat) : cpyN F G n i < B := by
  unfold cpyN
  by_cases h : i < n
  · rw [if_pos h]; exact hF i
  · rw [if_neg h]; exact hG i
/-- x is a number below n -/
def inR (x : Int32) (n : Nat) : Bool := decide (0 ≤ x.toInt ∧ x.toInt < n)
theorem inR_neg {x : Int32} {n : Nat} (h : x < 0) : inR x n = false := by
  have h1 := Int32.lt_iff_toInt_lt.mp h
  have h2 : (0 : Int32).toInt = 0 := rfl
  unfold inR
  rw [decide_eq_false_iff_not]
  omega
theorem inR_ge {x : Int32} {n : Nat} (hn : n < 2 ^ 31) (h : nI n ≤ x) : inR x n = false := by
  have h1 := Int32.le_iff_toInt_le.mp h
  have h2 := nI_toInt hn
  unfold inR
  rw [decide_eq_false_iff_not]
  omega
theorem inR_ok {x : Int32} {n : Nat} (hn : n < 2 ^ 31) (h0 : ¬ x < 0) (h : ¬ nI n ≤ x) : inR x n = true := by
  have h1 : ¬ x.toInt < (0 : Int32).toInt := fun z => h0 (Int32.lt_iff_toInt_lt.mpr z)
  have h3 : ¬ (nI n).toInt ≤ x.toInt := fun z => h (Int32.le_iff_toInt_le.mpr z)
  have h2 := nI_toInt hn
  have h4 : (0 : Int32).toInt = 0 := rfl
  unfold inR
  rw [decide_eq_true_eq]
  omega
theorem inR_ex {x : Int32} {n : Nat} (hn : n < 2 ^ 31) (h : inR x n = true) : ∃ j : Nat, j < n ∧ x = nI j := by
  unfold inR at h
  rw [decide_eq_true_eq] at h
  obtain ⟨j, h1, h2⟩ := nI_of (x := x) (fun z => by
    have h1 := Int32.lt_iff_toInt_lt.mp z
    have h4 : (0 : Int32).toInt = 0 := rfl
    omega)
  refine ⟨j, ?_, h2⟩
  have h3 := nI_toInt h1
  rw [h2, h3] at h
  omega
theorem inR_nI {j n : Nat} (hj : j < n) (hn : n < 2 ^ 31) : inR (nI j) n = true := by
  have h3 := nI_toInt (n := j) (by omega)
  unfold inR
  rw [decide_eq_true_eq, h3]
  omega
theorem b2d_0 {p : Prop} [Decidable p] (h : b2n (decide p) = 0) : ¬ p := by
  intro hp
  rw [decide_eq_true hp] at h
  exact absurd h (by decide)
theorem b2d_1 {p : Prop} [Decidable p] (h : b2n (decide p) ≠ 0) : p := by
  by_cases hp : p
  · exact hp
  · rw [decide_eq_false hp] at h
    exact absurd rfl h
theorem b2n_t {b : Bool} (h : b = true) : b2n b = 1 := by rw [h]; rfl
theorem b2n_f {b : Bool} (h : b = false) : b2n b = 0 := by rw [h]; rfl
theorem b2n_ne0 {b : Bool} (h : b2n b ≠ 0) : b = true := by cases b; exact absurd rfl h; rfl
theorem b2n_0 {b : Bool} (h : b2n b = 0) : b = false := by cases b; rfl; exact absurd h (by decide)
end N2
