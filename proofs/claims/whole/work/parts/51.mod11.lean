section G_51_mod11
variable {l : Launch} {D : va_G} {cI cC cJ cG : ClassId}

def smM (ft : Nat → Nat) (le : Nat) (E : Nat → Nat) (sp : Nat) : Option (Nat × (Nat → Nat)) := if sp = 0 then s1M ft le E sp else s0M ft le E sp
def raM (ft : Nat → Nat) (le : Nat) : Nat → (Nat → Nat) → Nat → Option Nat × (Nat → Nat)
  | 0, E, _ => (none, E)
  | n + 1, E, sp => if sp < le then (match smM ft le E sp with | none => (some sp, E) | some q => raM ft le n q.2 q.1) else (none, E)
theorem raM_e {ft : Nat → Nat} {le n : Nat} {E : Nat → Nat} {sp : Nat} (h : ¬ sp < le) : raM ft le n E sp = (none, E) := by
  cases n with
  | zero => rfl
  | succ n => unfold raM; rw [if_neg h]
theorem raM_n {ft : Nat → Nat} {le n : Nat} {E : Nat → Nat} {sp : Nat} (h : sp < le) (hn : le < n + sp) (hs : smM ft le E sp = none) : raM ft le n E sp = (some sp, E) := by
  cases n with
  | zero => omega
  | succ n => unfold raM; rw [if_pos h, hs]
theorem raM_s {ft : Nat → Nat} {le n : Nat} {E : Nat → Nat} {sp : Nat} {q : Nat × (Nat → Nat)} {r : Option Nat × (Nat → Nat)} (hr : raM ft le n E sp = r) (h : sp < le) (hn : le < n + sp) (hs : smM ft le E sp = some q) : ∃ n1, n = n1 + 1 ∧ raM ft le n1 q.2 q.1 = r := by
  cases n with
  | zero => omega
  | succ n =>
    unfold raM at hr
    rw [if_pos h, hs] at hr
    exact ⟨n, rfl, hr⟩
theorem nso {α : Type} {q : α} (h : none = some q) : False := nomatch h
theorem updN_b {E : Nat → Nat} {k x B : Nat} (h : ∀ i, E i < B) (hx : x < B) : ∀ i, updN E k x i < B := fun i => upd_lt h hx i
theorem ru_ok {E : Nat → Nat} {a b c u v : Nat} (hE : eOk E) (h4 : E 4 < 16) (ha : a < 65536) (hb : b < 65536) (hc : c < 65536) (hu : u < 65536) (hv : v < 65536) : eOk (ruF E a b c u v) := by
  obtain ⟨h1, h2, h3, h5, h6, h7, h8⟩ := hE
  refine ⟨?_, ?_, ?_, ?_, ?_, ?_, ru_99 h4 h8⟩
  · unfold ruF
    exact updN_b (updN_b (updN_b (updN_b (updN_b (updN_b h1 ha) hb) hc) hu) hv) (by omega)
  · unfold ruF updN
    (repeat rw [if_neg (by omega)])
    exact h2
  · unfold ruF updN
    (repeat rw [if_neg (by omega)])
    exact h3
  · unfold ruF updN
    (repeat rw [if_neg (by omega)])
    exact h5
  · unfold ruF updN
    (repeat rw [if_neg (by omega)])
    exact h6
  · rw [ruF_4]; omega
theorem riT_ok {E : Nat → Nat} {sp a b c u v : Nat} {q : Nat × (Nat → Nat)} (hE : eOk E) (ha : a < 65536) (hb : b < 65536) (hc : c < 65536) (hu : u < 65536) (hv : v < 65536) (h : riT E sp a b c u v = some q) : eOk q.2 ∧ q.1 = sp := by
  unfold riT at h
  split at h
  · rename_i hz
    rw [← Option.some.inj h]
    exact ⟨ru_ok hE hz.2 (by omega) (by omega) (by omega) hu hv, rfl⟩
  · exact (nso h).elim
theorem riM_ok {ft : Nat → Nat} {le : Nat} {E : Nat → Nat} {sp : Nat} {q : Nat × (Nat → Nat)} (hE : eOk E) (h : riM ft le E sp = some q) : eOk q.2 ∧ sp < q.1 ∧ q.1 < sp + 15 := by
  have g0 : ∀ c, fig c (E 0) < 65536 := fun c => by have := fig_le c (E 0); have := hE.2.1; omega
  have g1 : ∀ c, fig c (E 1) < 65536 := fun c => by have := fig_le c (E 1); have := hE.2.2.1; omega
  unfold riM at h
  repeat' split at h
  all_goals first
    | exact (nso h).elim
    | (have hz := riT_ok hE (g0 _) (g1 _) (g0 _) (by first | exact g1 _ | omega) (by first | exact g1 _ | omega) h
       exact ⟨hz.1, by rw [hz.2]; omega, by rw [hz.2]; omega⟩)
theorem sm_ok {ft : Nat → Nat} {le : Nat} {E : Nat → Nat} {sp : Nat} {q : Nat × (Nat → Nat)} (hE : eOk E) (h : smM ft le E sp = some q) : eOk q.2 ∧ sp < q.1 ∧ q.1 < sp + 20 := by
  have hE' := hE
  obtain ⟨h1, h2, h3, h5, h6, h7, h8⟩ := hE'
  unfold smM at h
  split at h
  · unfold s1M at h
    repeat' split at h
    all_goals first
      | exact (nso h).elim
      | (rw [← Option.some.inj h]
         have f1 := fig_le (ltr ft le (sp + 1)) 5
         have f2 := fig_le (ltr ft le (sp + 1 + 1 + 1)) 4
         refine ⟨⟨updN_b (updN_b h1 (by omega)) (by omega), ?_, ?_, ?_, ?_, ?_, un_99 (by omega) (un_99 (by omega) h8)⟩, by simp only; omega, by simp only; omega⟩ <;> simp [updN] <;> omega)
  · unfold s0M at h
    repeat' split at h
    all_goals first
      | exact (nso h).elim
      | (have hz := riM_ok hE h
         exact ⟨hz.1, by omega, by omega⟩)
      | (rw [← Option.some.inj h]
         have f1 := fig_le (ltr ft le (sp + 1)) (E 0)
         first
           | (have hw := wbit_lt (E 2) h5 (fig (ltr ft le (sp + 1)) (E 0) - 1) (by omega) 1 (by omega)
              refine ⟨⟨updN_b h1 (by omega), ?_, ?_, ?_, ?_, ?_, un_99 (by omega) h8⟩, by simp only; omega, by simp only; omega⟩ <;> simp [updN] <;> omega)
           | (have hw := wbit_lt (E 3) h6 (fig (ltr ft le (sp + 1)) (E 0) - 1) (by omega) 1 (by omega)
              refine ⟨⟨updN_b h1 (by omega), ?_, ?_, ?_, ?_, ?_, un_99 (by omega) h8⟩, by simp only; omega, by simp only; omega⟩ <;> simp [updN] <;> omega))
theorem ra_ok {ft : Nat → Nat} {le : Nat} : ∀ (n : Nat) (E : Nat → Nat) (sp : Nat), eOk E → eOk (raM ft le n E sp).2 ∧ ∀ k, (raM ft le n E sp).1 = some k → k < le
  | 0, E, sp, hE => ⟨hE, fun k hk => absurd hk (by unfold raM; simp)⟩
  | n + 1, E, sp, hE => by
    unfold raM
    split
    · rename_i hlt
      cases hs : smM ft le E sp with
      | none => exact ⟨hE, fun k hk => by have h2 : some sp = some k := hk; rw [← Option.some.inj h2]; exact hlt⟩
      | some q => exact ra_ok n q.2 q.1 (sm_ok hE hs).1
    · exact ⟨hE, fun k hk => absurd hk (by simp)⟩
def E0 : Nat → Nat := fun i => if 5 ≤ i ∧ i < 85 ∧ 3 ≤ i % 5 then 1 else 0
theorem E0_ok : eOk E0 := by
  refine ⟨fun i => by unfold E0; split <;> omega, by decide, by decide, by decide, by decide, by decide, fun i hi => by unfold E0; rw [if_neg (by omega)]⟩
def zrI (f : Nat → Int32) (k : Nat) : Nat → Int32 := fun i => if i < k then nI 0 else f i
theorem zrI_0 (f : Nat → Int32) : zrI f 0 = f := by funext i; unfold zrI; rw [if_neg (by omega)]
theorem zrI_s (f : Nat → Int32) (k : Nat) : upd (zrI f k) k (nI 0) = zrI f (k + 1) := by
  funext i
  unfold upd zrI
  by_cases h : i = k
  · subst h; rw [if_pos rfl, if_pos (by omega)]
  · rw [if_neg h]
    by_cases h2 : i < k
    · rw [if_pos h2, if_pos (by omega)]
    · rw [if_neg h2, if_neg (by omega)]
theorem zrI_E {f : Nat → Int32} (h : ∀ i, 99 ≤ i → f i = nI 0) : zrI f 99 = sA E0 := by
  funext i
  unfold zrI sA E0
  by_cases h2 : i < 99
  · rw [if_pos h2]
    split
    · rfl
    · rfl
  · rw [if_neg h2, h i (by omega), if_neg (by omega), if_neg (by omega)]
def erI : Option Nat → Int32
  | none => (-4)
  | some k => nI k
theorem erI_n {o : Option Nat} (h : ∀ k, o = some k → k < 1000) (hz : erI o = (-4)) : o = none := by
  cases o with
  | none => rfl
  | some k =>
    have h1 := h k rfl
    exact absurd (show nI k < 0 by rw [show nI k = (-4) from hz]; decide) (nI_pos (by omega))
theorem cpyN_0 (E F : Nat → Nat) : cpyN E F 0 = F := by funext i; unfold cpyN; rw [if_neg (by omega)]
theorem cpyN_s (E F : Nat → Nat) (k : Nat) : updN (cpyN E F k) k (E k) = cpyN E F (k + 1) := by
  funext i
  unfold updN cpyN
  by_cases h : i = k
  · subst h; rw [if_pos rfl, if_pos (by omega)]
  · rw [if_neg h]
    by_cases h2 : i < k
    · rw [if_pos h2, if_pos (by omega)]
    · rw [if_neg h2, if_neg (by omega)]

theorem iw_X10_readAll_X10 : ∀ w ∈ wsX100, w ∈ wsX10_readAll := fun _ h => List.mem_cons_of_mem _ (List.mem_append_right _ h)
theorem lk_X10_readAll_66 : Cond.fieldLink RX10 66 (TX10 6).1 (TX10 6).2.1 (TX10 6).2.2.1 ∈ wsX10_readAll := List.mem_of_getElem? (i := 2) rfl
theorem lk_X10_readAll_62 : Cond.fieldLink RX10 62 (TX10 5).1 (TX10 5).2.1 (TX10 5).2.2.1 ∈ wsX10_readAll := List.mem_of_getElem? (i := 3) rfl
theorem hd_X10_statement : yX10_statement.cls ≠ "java/lang/invoke/MethodHandle" ∧ yX10_statement.cls ≠ "java/lang/invoke/VarHandle" ∧ (parseMethodDescriptor yX10_statement.desc).map (fun d => d.parameters.length) = some 1 := by decide +kernel
theorem lk_X10_readAll_13 : Cond.fieldLink RX10 13 (TX10 1).1 (TX10 1).2.1 (TX10 1).2.2.1 ∈ wsX10_readAll := List.mem_of_getElem? (i := 1) rfl
set_option maxHeartbeats 4000000 in
set_option maxRecDepth 100000 in
theorem c_X10_readAll (h F Q ft B Bt a1 a2 a3 a4 a5 : Nat → Nat) (fr : Nat → Int32) (W M : Nat → Int64) (km le sp ro : Nat) (r : Option Nat × (Nat → Nat)) (hft : ∀ i, ft i < 65536) (hle : le ≤ 200) (hfr : ∀ i, 99 ≤ i → fr i = nI 0) (hr0 : raM ft le (le + 1) E0 0 = r) : Ct l yX10_readAll wsX10_readAll (rmD (4)) D [(cI, .int), (cC, .char), (cJ, .long), (cG, .object "PushdownGameSolver$Game")] [.ref ((h 0))] [((h 0), .inr (6, [.ref ((h 1)), .ref ((h 2)), .ref ((h 3)), .int (nI km), .ref ((h 4)), .int (nI le), .int (nI sp), .ref ((h 5)), .ref ((h 6)), .int (nI ro), .ref ((h 7)), .ref ((h 8)), .ref ((h 9)), .ref ((h 10)), .ref ((h 11)), .ref ((h 12)), .ref ((h 13))])), ((h 1), .inl (cI, 99, .inl (sA F))), ((h 2), .inl (cI, 99, .inl fr)), ((h 3), .inl (cI, 594, .inl (kA Q))), ((h 4), .inl (cI, 200, .inl (fun zz => nI (ft zz)))), ((h 5), .inl (cI, 12, .inl (fun zz => nI (B zz)))), ((h 6), .inl (cI, 12, .inl (fun zz => nI (Bt zz)))), ((h 7), .inl (cJ, 16, .inr (.inl W))), ((h 8), .inl (cJ, 16, .inr (.inl M))), ((h 9), .inl (cI, 9, .inl (fun zz => nI (a1 zz)))), ((h 10), .inl (cI, 9, .inl (fun zz => nI (a2 zz)))), ((h 11), .inl (cI, 198, .inl (fun zz => nI (a3 zz)))), ((h 12), .inl (cI, 9, .inl (fun zz => nI (a4 zz)))), ((h 13), .inl (cI, 9, .inl (fA a5)))] (S := RT) (fun u => (∀ i, 99 ≤ i → u.2 i = nI 0) ∧ (r.1 = none → u.2 = sA r.2)) (fun u => some (.int (erI r.1))) (fun u => [((h 0), .inr (6, [.ref ((h 1)), .ref ((h 2)), .ref ((h 3)), .int (nI km), .ref ((h 4)), .int (nI le), .int (nI u.1), .ref ((h 5)), .ref ((h 6)), .int (nI ro), .ref ((h 7)), .ref ((h 8)), .ref ((h 9)), .ref ((h 10)), .ref ((h 11)), .ref ((h 12)), .ref ((h 13))])), ((h 1), .inl (cI, 99, .inl (sA F))), ((h 2), .inl (cI, 99, .inl u.2)), ((h 3), .inl (cI, 594, .inl (kA Q))), ((h 4), .inl (cI, 200, .inl (fun zz => nI (ft zz)))), ((h 5), .inl (cI, 12, .inl (fun zz => nI (B zz)))), ((h 6), .inl (cI, 12, .inl (fun zz => nI (Bt zz)))), ((h 7), .inl (cJ, 16, .inr (.inl W))), ((h 8), .inl (cJ, 16, .inr (.inl M))), ((h 9), .inl (cI, 9, .inl (fun zz => nI (a1 zz)))), ((h 10), .inl (cI, 9, .inl (fun zz => nI (a2 zz)))), ((h 11), .inl (cI, 198, .inl (fun zz => nI (a3 zz)))), ((h 12), .inl (cI, 9, .inl (fun zz => nI (a4 zz)))), ((h 13), .inl (cI, 9, .inl (fA a5)))]) := by
  refine Ct.of (lv := [(0, .ref ((h 0)))]) (by decide) rfl (Nat.le_of_ble_eq_true rfl) rfl ?_
  intro ε hL EE FF
  have Lp_26 : ∀ (nf : Nat), ∀ (n : Nat) (E : Nat → Nat) (sp : Nat), n < nf → (eOk E) → (sp < 250) → (le < n + sp) → (raM ft le n E sp = r) → J l (rmD (4)) D ε [((h 0), .inr (6, [.ref ((h 1)), .ref ((h 2)), .ref ((h 3)), .int (nI km), .ref ((h 4)), .int (nI le), .int (nI sp), .ref ((h 5)), .ref ((h 6)), .int (nI ro), .ref ((h 7)), .ref ((h 8)), .ref ((h 9)), .ref ((h 10)), .ref ((h 11)), .ref ((h 12)), .ref ((h 13))])), ((h 1), .inl (cI, 99, .inl (sA F))), ((h 2), .inl (cI, 99, .inl (sA E))), ((h 3), .inl (cI, 594, .inl (kA Q))), ((h 4), .inl (cI, 200, .inl (fun zz => nI (ft zz)))), ((h 5), .inl (cI, 12, .inl (fun zz => nI (B zz)))), ((h 6), .inl (cI, 12, .inl (fun zz => nI (Bt zz)))), ((h 7), .inl (cJ, 16, .inr (.inl W))), ((h 8), .inl (cJ, 16, .inr (.inl M))), ((h 9), .inl (cI, 9, .inl (fun zz => nI (a1 zz)))), ((h 10), .inl (cI, 9, .inl (fun zz => nI (a2 zz)))), ((h 11), .inl (cI, 198, .inl (fun zz => nI (a3 zz)))), ((h 12), .inl (cI, 9, .inl (fun zz => nI (a4 zz)))), ((h 13), .inl (cI, 9, .inl (fA a5)))] 26 [(0, .ref ((h 0)))] [] := by
    intro nf
    induction nf with
    | zero => intro n E sp hm; exact absurd hm (Nat.not_lt_zero _)
    | succ nf ihp_26 =>
      intro n E sp hm26 hE hs9 hn hr
      have hEb := hE.1
      refine j_aload_n EE 0 dX10_readAll_26 rfl rfl ?_
      refine j_get (T := TX10) EE iw_X10_readAll_X10 0 rfl rfl 6 (by decide) lk_X10_readAll_66 rfl dX10_readAll_27 ?_
      refine j_aload_n EE 0 dX10_readAll_30 rfl rfl ?_
      refine j_get (T := TX10) EE iw_X10_readAll_X10 0 rfl rfl 5 (by decide) lk_X10_readAll_62 rfl dX10_readAll_31 ?_
      refine j_icmp_ge EE 63 dX10_readAll_34 (by decide) (fun c34 => ?_) (fun c34 => ?_)
      · skip
        have n34 : le ≤ sp := (nI_leI (a := le) (b := sp) (by omega) (by omega)).mp c34
        refine j_bipush (v := (-4)) EE dX10_readAll_63 (by decide) ?_
        have hrr := raM_e (ft := ft) (n := n) (E := E) (show ¬ sp < le by omega)
        rw [hr] at hrr
        exact j_iret EE FF dX10_readAll_65 (sp, sA E) ⟨sA_99 hE.2.2.2.2.2.2, fun _ => by rw [hrr]⟩ (by rw [hrr]; rfl) rfl
      · skip
        have n34 : ¬ le ≤ sp := fun hq => c34 ((nI_leI (a := le) (b := sp) (by omega) (by omega)).mpr hq)
        refine j_aload_n EE 0 dX10_readAll_37 rfl rfl ?_
        refine j_get (T := TX10) EE iw_X10_readAll_X10 0 rfl rfl 6 (by decide) lk_X10_readAll_66 rfl dX10_readAll_38 ?_
        refine j_istore_n EE [(1, _), (0, _)] dX10_readAll_41 rfl (Nat.lt_of_lt_of_eq (by decide) hL.symm) rfl ?_
        refine j_aload_n EE 1 dX10_readAll_42 rfl rfl ?_
        refine j_iload_n EE 0 dX10_readAll_43 rfl rfl ?_
        refine j_if_ne EE 51 dX10_readAll_44 (by decide) (fun c44 => ?_) (fun c44 => ?_)
        · skip
          have n44 : sp ≠ 0 := fun hq => c44 ((nI_eq (a := sp) (b := 0) (by omega) (by omega)).mpr hq)
          refine j_iconst (v := nI 0) EE dX10_readAll_51 (by decide) ?_
          refine j_V3 (n9 := 14) EE (c_X10_statement0 h F Q ft B Bt a1 a2 a3 a4 a5 (sA E) W M km le sp ro E hft (by omega) (by omega) hE) gX10_readAll_X10_statement ⟨rfl, hd_X10_statement⟩ rfl ⟨rfl, rfl⟩ ⟨by decide, by decide⟩ rfl [0, 1, 2, 3, 4, 5, 6, 7, 8, 9, 10, 11, 12, 13] rfl [] (fun u_52 => [((h 0), .inr (6, [.ref ((h 1)), .ref ((h 2)), .ref ((h 3)), .int (nI km), .ref ((h 4)), .int (nI le), .int (nI u_52.1), .ref ((h 5)), .ref ((h 6)), .int (nI ro), .ref ((h 7)), .ref ((h 8)), .ref ((h 9)), .ref ((h 10)), .ref ((h 11)), .ref ((h 12)), .ref ((h 13))])), ((h 1), .inl (cI, 99, .inl (sA F))), ((h 2), .inl (cI, 99, .inl u_52.2)), ((h 3), .inl (cI, 594, .inl (kA Q))), ((h 4), .inl (cI, 200, .inl (fun zz => nI (ft zz)))), ((h 5), .inl (cI, 12, .inl (fun zz => nI (B zz)))), ((h 6), .inl (cI, 12, .inl (fun zz => nI (Bt zz)))), ((h 7), .inl (cJ, 16, .inr (.inl W))), ((h 8), .inl (cJ, 16, .inr (.inl M))), ((h 9), .inl (cI, 9, .inl (fun zz => nI (a1 zz)))), ((h 10), .inl (cI, 9, .inl (fun zz => nI (a2 zz)))), ((h 11), .inl (cI, 198, .inl (fun zz => nI (a3 zz)))), ((h 12), .inl (cI, 9, .inl (fun zz => nI (a4 zz)))), ((h 13), .inl (cI, 9, .inl (fA a5)))]) (fun _ => rfl) [] [(h 0), (h 1), (h 2), (h 3), (h 4), (h 5), (h 6), (h 7), (h 8), (h 9), (h 10), (h 11), (h 12), (h 13)] (fun _ => rfl) rfl (fun _ => rfl) rfl (fun _ => rfl) (by decide) (by decide) 0 rfl rfl rfl (Nat.le_of_ble_eq_true rfl) dX10_readAll_52 (fun u_52 h_52 => ?_) rfl
          show J l _ D ε _ _ _ (.int (nI (b2n (s0M ft le E sp).isSome)) :: _)
          refine j_if_ne EE 60 dX10_readAll_55 (by decide) (fun c55 => ?_) (fun c55 => ?_)
          · skip
            have n55 : (b2n (s0M ft le E sp).isSome) ≠ 0 := fun hq => c55 ((nI_eq (a := (b2n (s0M ft le E sp).isSome)) (b := 0) (by have := b2n_lt (s0M ft le E sp).isSome; omega) (by have := b2n_lt (s0M ft le E sp).isSome; omega)).mpr hq)
            obtain ⟨q, hq⟩ := Option.isSome_iff_exists.mp (b2n_ne0 n55)
            have hqq : smM ft le E sp = some q := by
              unfold smM
              first | (rw [if_pos n44]; exact hq) | (rw [if_neg n44]; exact hq)
            have hu := h_52.1 q hq
            have hk := sm_ok hE hqq
            obtain ⟨n1, hn1, hr1⟩ := raM_s hr (by omega) hn hqq
            subst hu
            refine j_goto EE 26 dX10_readAll_60 (by decide) ?_
            refine j_lv [1] rfl ?_
            exact ihp_26 n1 q.2 q.1 (by omega) hk.1 (by omega) (by omega) hr1
          · skip
            have n55 : (b2n (s0M ft le E sp).isSome) = 0 := (nI_eq (a := (b2n (s0M ft le E sp).isSome)) (b := 0) (by have := b2n_lt (s0M ft le E sp).isSome; omega) (by have := b2n_lt (s0M ft le E sp).isSome; omega)).mp c55
            have hq := Option.not_isSome_iff_eq_none.mp (fun hz => by rw [hz] at n55; exact absurd n55 (by decide))
            have hqq : smM ft le E sp = none := by
              unfold smM
              first | (rw [if_pos n44]; exact hq) | (rw [if_neg n44]; exact hq)
            have hrr := raM_n (by omega) hn hqq
            rw [hr] at hrr
            refine j_iload_n EE 0 dX10_readAll_58 rfl rfl ?_
            exact j_iret EE FF dX10_readAll_59 u_52 ⟨h_52.2, fun hz => absurd hz (by rw [hrr]; simp)⟩ (by rw [hrr]; rfl) rfl
        · skip
          have n44 : sp = 0 := (nI_eq (a := sp) (b := 0) (by omega) (by omega)).mp c44
          refine j_iconst (v := nI 1) EE dX10_readAll_47 (by decide) ?_
          refine j_goto EE 52 dX10_readAll_48 (by decide) ?_
          refine j_V3 (n9 := 14) EE (c_X10_statement1 h F Q ft B Bt a1 a2 a3 a4 a5 (sA E) W M km le sp ro E hft (by omega) (by omega) hE) gX10_readAll_X10_statement ⟨rfl, hd_X10_statement⟩ rfl ⟨rfl, rfl⟩ ⟨by decide, by decide⟩ rfl [0, 1, 2, 3, 4, 5, 6, 7, 8, 9, 10, 11, 12, 13] rfl [] (fun u_52 => [((h 0), .inr (6, [.ref ((h 1)), .ref ((h 2)), .ref ((h 3)), .int (nI km), .ref ((h 4)), .int (nI le), .int (nI u_52.1), .ref ((h 5)), .ref ((h 6)), .int (nI ro), .ref ((h 7)), .ref ((h 8)), .ref ((h 9)), .ref ((h 10)), .ref ((h 11)), .ref ((h 12)), .ref ((h 13))])), ((h 1), .inl (cI, 99, .inl (sA F))), ((h 2), .inl (cI, 99, .inl u_52.2)), ((h 3), .inl (cI, 594, .inl (kA Q))), ((h 4), .inl (cI, 200, .inl (fun zz => nI (ft zz)))), ((h 5), .inl (cI, 12, .inl (fun zz => nI (B zz)))), ((h 6), .inl (cI, 12, .inl (fun zz => nI (Bt zz)))), ((h 7), .inl (cJ, 16, .inr (.inl W))), ((h 8), .inl (cJ, 16, .inr (.inl M))), ((h 9), .inl (cI, 9, .inl (fun zz => nI (a1 zz)))), ((h 10), .inl (cI, 9, .inl (fun zz => nI (a2 zz)))), ((h 11), .inl (cI, 198, .inl (fun zz => nI (a3 zz)))), ((h 12), .inl (cI, 9, .inl (fun zz => nI (a4 zz)))), ((h 13), .inl (cI, 9, .inl (fA a5)))]) (fun _ => rfl) [] [(h 0), (h 1), (h 2), (h 3), (h 4), (h 5), (h 6), (h 7), (h 8), (h 9), (h 10), (h 11), (h 12), (h 13)] (fun _ => rfl) rfl (fun _ => rfl) rfl (fun _ => rfl) (by decide) (by decide) 0 rfl rfl rfl (Nat.le_of_ble_eq_true rfl) dX10_readAll_52 (fun u_52 h_52 => ?_) rfl
          show J l _ D ε _ _ _ (.int (nI (b2n (s1M ft le E sp).isSome)) :: _)
          refine j_if_ne EE 60 dX10_readAll_55 (by decide) (fun c55 => ?_) (fun c55 => ?_)
          · skip
            have n55 : (b2n (s1M ft le E sp).isSome) ≠ 0 := fun hq => c55 ((nI_eq (a := (b2n (s1M ft le E sp).isSome)) (b := 0) (by have := b2n_lt (s1M ft le E sp).isSome; omega) (by have := b2n_lt (s1M ft le E sp).isSome; omega)).mpr hq)
            obtain ⟨q, hq⟩ := Option.isSome_iff_exists.mp (b2n_ne0 n55)
            have hqq : smM ft le E sp = some q := by
              unfold smM
              first | (rw [if_pos n44]; exact hq) | (rw [if_neg n44]; exact hq)
            have hu := h_52.1 q hq
            have hk := sm_ok hE hqq
            obtain ⟨n1, hn1, hr1⟩ := raM_s hr (by omega) hn hqq
            subst hu
            refine j_goto EE 26 dX10_readAll_60 (by decide) ?_
            refine j_lv [1] rfl ?_
            exact ihp_26 n1 q.2 q.1 (by omega) hk.1 (by omega) (by omega) hr1
          · skip
            have n55 : (b2n (s1M ft le E sp).isSome) = 0 := (nI_eq (a := (b2n (s1M ft le E sp).isSome)) (b := 0) (by have := b2n_lt (s1M ft le E sp).isSome; omega) (by have := b2n_lt (s1M ft le E sp).isSome; omega)).mp c55
            have hq := Option.not_isSome_iff_eq_none.mp (fun hz => by rw [hz] at n55; exact absurd n55 (by decide))
            have hqq : smM ft le E sp = none := by
              unfold smM
              first | (rw [if_pos n44]; exact hq) | (rw [if_neg n44]; exact hq)
            have hrr := raM_n (by omega) hn hqq
            rw [hr] at hrr
            refine j_iload_n EE 0 dX10_readAll_58 rfl rfl ?_
            exact j_iret EE FF dX10_readAll_59 u_52 ⟨h_52.2, fun hz => absurd hz (by rw [hrr]; simp)⟩ (by rw [hrr]; rfl) rfl
  have Lp_2 : ∀ (nf : Nat), ∀ (k : Nat), 100 - k < nf → (k ≤ 99) → J l (rmD (4)) D ε [((h 0), .inr (6, [.ref ((h 1)), .ref ((h 2)), .ref ((h 3)), .int (nI km), .ref ((h 4)), .int (nI le), .int (nI sp), .ref ((h 5)), .ref ((h 6)), .int (nI ro), .ref ((h 7)), .ref ((h 8)), .ref ((h 9)), .ref ((h 10)), .ref ((h 11)), .ref ((h 12)), .ref ((h 13))])), ((h 1), .inl (cI, 99, .inl (sA F))), ((h 2), .inl (cI, 99, .inl (zrI fr k))), ((h 3), .inl (cI, 594, .inl (kA Q))), ((h 4), .inl (cI, 200, .inl (fun zz => nI (ft zz)))), ((h 5), .inl (cI, 12, .inl (fun zz => nI (B zz)))), ((h 6), .inl (cI, 12, .inl (fun zz => nI (Bt zz)))), ((h 7), .inl (cJ, 16, .inr (.inl W))), ((h 8), .inl (cJ, 16, .inr (.inl M))), ((h 9), .inl (cI, 9, .inl (fun zz => nI (a1 zz)))), ((h 10), .inl (cI, 9, .inl (fun zz => nI (a2 zz)))), ((h 11), .inl (cI, 198, .inl (fun zz => nI (a3 zz)))), ((h 12), .inl (cI, 9, .inl (fun zz => nI (a4 zz)))), ((h 13), .inl (cI, 9, .inl (fA a5)))] 2 [(1, .int (nI k)), (0, .ref ((h 0)))] [] := by
    intro nf
    induction nf with
    | zero => intro k hm; exact absurd hm (Nat.not_lt_zero _)
    | succ nf ihp_2 =>
      intro k hm2 hk
      refine j_iload_n EE 0 dX10_readAll_2 rfl rfl ?_
      refine j_bipush (v := nI 99) EE dX10_readAll_3 (by decide) ?_
      refine j_icmp_ge EE 21 dX10_readAll_5 (by decide) (fun c5 => ?_) (fun c5 => ?_)
      · skip
        have n5 : 99 ≤ k := (nI_leI (a := 99) (b := k) (by omega) (by omega)).mp c5
        refine j_aload_n EE 1 dX10_readAll_21 rfl rfl ?_
        refine j_iconst (v := nI 0) EE dX10_readAll_22 (by decide) ?_
        refine j_put (T := TX10) (ws' := [((h 0), .inr (6, [.ref ((h 1)), .ref ((h 2)), .ref ((h 3)), .int (nI km), .ref ((h 4)), .int (nI le), .int (nI 0), .ref ((h 5)), .ref ((h 6)), .int (nI ro), .ref ((h 7)), .ref ((h 8)), .ref ((h 9)), .ref ((h 10)), .ref ((h 11)), .ref ((h 12)), .ref ((h 13))])), ((h 1), .inl (cI, 99, .inl (sA F))), ((h 2), .inl (cI, 99, .inl (zrI fr k))), ((h 3), .inl (cI, 594, .inl (kA Q))), ((h 4), .inl (cI, 200, .inl (fun zz => nI (ft zz)))), ((h 5), .inl (cI, 12, .inl (fun zz => nI (B zz)))), ((h 6), .inl (cI, 12, .inl (fun zz => nI (Bt zz)))), ((h 7), .inl (cJ, 16, .inr (.inl W))), ((h 8), .inl (cJ, 16, .inr (.inl M))), ((h 9), .inl (cI, 9, .inl (fun zz => nI (a1 zz)))), ((h 10), .inl (cI, 9, .inl (fun zz => nI (a2 zz)))), ((h 11), .inl (cI, 198, .inl (fun zz => nI (a3 zz)))), ((h 12), .inl (cI, 9, .inl (fun zz => nI (a4 zz)))), ((h 13), .inl (cI, 9, .inl (fA a5)))]) EE iw_X10_readAll_X10 tyX10 tyX10_ok nmX10 0 rfl rfl 6 (by decide) lk_X10_readAll_66 rfl rfl rfl (Nat.le_of_ble_eq_true rfl) rfl dX10_readAll_23 ?_
        refine j_lv [1] rfl ?_
        rw [show zrI fr k = sA E0 by rw [show k = 99 by omega]; exact zrI_E hfr]
        exact Lp_26 _ (le + 1) E0 0 (Nat.lt_succ_self _) E0_ok (by omega) (by omega) hr0
      · skip
        have n5 : ¬ 99 ≤ k := fun hq => c5 ((nI_leI (a := 99) (b := k) (by omega) (by omega)).mpr hq)
        refine j_aload_n EE 1 dX10_readAll_8 rfl rfl ?_
        refine j_get (T := TX10) EE iw_X10_readAll_X10 0 rfl rfl 1 (by decide) lk_X10_readAll_13 rfl dX10_readAll_9 ?_
        refine j_iload_n EE 0 dX10_readAll_12 rfl rfl ?_
        refine j_iconst (v := nI 0) EE dX10_readAll_13 (by decide) ?_
        refine j_iast (ws' := [((h 0), .inr (6, [.ref ((h 1)), .ref ((h 2)), .ref ((h 3)), .int (nI km), .ref ((h 4)), .int (nI le), .int (nI sp), .ref ((h 5)), .ref ((h 6)), .int (nI ro), .ref ((h 7)), .ref ((h 8)), .ref ((h 9)), .ref ((h 10)), .ref ((h 11)), .ref ((h 12)), .ref ((h 13))])), ((h 1), .inl (cI, 99, .inl (sA F))), ((h 2), .inl (cI, 99, .inl (zrI fr (k + 1)))), ((h 3), .inl (cI, 594, .inl (kA Q))), ((h 4), .inl (cI, 200, .inl (fun zz => nI (ft zz)))), ((h 5), .inl (cI, 12, .inl (fun zz => nI (B zz)))), ((h 6), .inl (cI, 12, .inl (fun zz => nI (Bt zz)))), ((h 7), .inl (cJ, 16, .inr (.inl W))), ((h 8), .inl (cJ, 16, .inr (.inl M))), ((h 9), .inl (cI, 9, .inl (fun zz => nI (a1 zz)))), ((h 10), .inl (cI, 9, .inl (fun zz => nI (a2 zz)))), ((h 11), .inl (cI, 198, .inl (fun zz => nI (a3 zz)))), ((h 12), .inl (cI, 9, .inl (fun zz => nI (a4 zz)))), ((h 13), .inl (cI, 9, .inl (fA a5)))]) EE 2 0 rfl rfl (vp_in_nI (n := k) (by omega) (by decide)) (by rw [nI_clamp (by omega), zrI_s]; rfl) dX10_readAll_14 ?_
        refine j_iinc (v := nI (k + 1)) EE 0 [(1, .int (nI (k + 1))), (0, _)] dX10_readAll_15 rfl (nI_1 k) (Nat.lt_of_lt_of_eq (by decide) hL.symm) rfl ?_
        refine j_goto EE 2 dX10_readAll_18 (by decide) ?_
        exact ihp_2 (k + 1) (by omega) (by omega)
  refine j_iconst (v := nI 0) EE dX10_readAll_0 (by decide) ?_
  refine j_istore_n EE [(1, _), (0, _)] dX10_readAll_1 rfl (Nat.lt_of_lt_of_eq (by decide) hL.symm) rfl ?_
  rw [← zrI_0 fr]
  exact Lp_2 _ 0 (Nat.lt_succ_self _) (by omega)

theorem hd_X10_readAll : yX10_readAll.cls ≠ "java/lang/invoke/MethodHandle" ∧ yX10_readAll.cls ≠ "java/lang/invoke/VarHandle" ∧ (parseMethodDescriptor yX10_readAll.desc).map (fun d => d.parameters.length) = some 0 := by decide +kernel
set_option maxHeartbeats 4000000 in
set_option maxRecDepth 100000 in
theorem c_X10_firstError (h F Q ft B Bt a1 a2 a3 a4 a5 : Nat → Nat) (fr : Nat → Int32) (W M : Nat → Int64) (km le sp ro : Nat) (r : Option Nat × (Nat → Nat)) (hft : ∀ i, ft i < 65536) (hle : le ≤ 200) (hfr : ∀ i, 99 ≤ i → fr i = nI 0) (hr0 : raM ft le (le + 1) E0 0 = r) : Ct l yX10_firstError wsX10_firstError (rmD (5)) D [(cI, .int), (cC, .char), (cJ, .long), (cG, .object "PushdownGameSolver$Game")] [.ref ((h 0))] [((h 0), .inr (6, [.ref ((h 1)), .ref ((h 2)), .ref ((h 3)), .int (nI km), .ref ((h 4)), .int (nI le), .int (nI sp), .ref ((h 5)), .ref ((h 6)), .int (nI ro), .ref ((h 7)), .ref ((h 8)), .ref ((h 9)), .ref ((h 10)), .ref ((h 11)), .ref ((h 12)), .ref ((h 13))])), ((h 1), .inl (cI, 99, .inl (sA F))), ((h 2), .inl (cI, 99, .inl fr)), ((h 3), .inl (cI, 594, .inl (kA Q))), ((h 4), .inl (cI, 200, .inl (fun zz => nI (ft zz)))), ((h 5), .inl (cI, 12, .inl (fun zz => nI (B zz)))), ((h 6), .inl (cI, 12, .inl (fun zz => nI (Bt zz)))), ((h 7), .inl (cJ, 16, .inr (.inl W))), ((h 8), .inl (cJ, 16, .inr (.inl M))), ((h 9), .inl (cI, 9, .inl (fun zz => nI (a1 zz)))), ((h 10), .inl (cI, 9, .inl (fun zz => nI (a2 zz)))), ((h 11), .inl (cI, 198, .inl (fun zz => nI (a3 zz)))), ((h 12), .inl (cI, 9, .inl (fun zz => nI (a4 zz)))), ((h 13), .inl (cI, 9, .inl (fA a5)))] (S := RT) (fun u => (∀ i, 99 ≤ i → u.2 i = nI 0)) (fun u => some (.int (erI r.1))) (fun u => [((h 0), .inr (6, [.ref ((h 1)), .ref ((h 2)), .ref ((h 3)), .int (nI km), .ref ((h 4)), .int (nI le), .int (nI u.1), .ref ((h 5)), .ref ((h 6)), .int (nI ro), .ref ((h 7)), .ref ((h 8)), .ref ((h 9)), .ref ((h 10)), .ref ((h 11)), .ref ((h 12)), .ref ((h 13))])), ((h 1), .inl (cI, 99, .inl (sA F))), ((h 2), .inl (cI, 99, .inl u.2)), ((h 3), .inl (cI, 594, .inl (kA Q))), ((h 4), .inl (cI, 200, .inl (fun zz => nI (ft zz)))), ((h 5), .inl (cI, 12, .inl (fun zz => nI (B zz)))), ((h 6), .inl (cI, 12, .inl (fun zz => nI (Bt zz)))), ((h 7), .inl (cJ, 16, .inr (.inl W))), ((h 8), .inl (cJ, 16, .inr (.inl M))), ((h 9), .inl (cI, 9, .inl (fun zz => nI (a1 zz)))), ((h 10), .inl (cI, 9, .inl (fun zz => nI (a2 zz)))), ((h 11), .inl (cI, 198, .inl (fun zz => nI (a3 zz)))), ((h 12), .inl (cI, 9, .inl (fun zz => nI (a4 zz)))), ((h 13), .inl (cI, 9, .inl (fA a5)))]) := by
  refine Ct.of (lv := [(0, .ref ((h 0)))]) (by decide) rfl (Nat.le_of_ble_eq_true rfl) rfl ?_
  intro ε hL EE FF
  refine j_aload_n EE 0 dX10_firstError_0 rfl rfl ?_
  refine j_V3 (n9 := 14) EE (c_X10_readAll h F Q ft B Bt a1 a2 a3 a4 a5 fr W M km le sp ro r hft hle hfr hr0) gX10_firstError_X10_readAll ⟨rfl, hd_X10_readAll⟩ rfl ⟨rfl, rfl⟩ ⟨by decide, by decide⟩ rfl [0, 1, 2, 3, 4, 5, 6, 7, 8, 9, 10, 11, 12, 13] rfl [] (fun u_1 => [((h 0), .inr (6, [.ref ((h 1)), .ref ((h 2)), .ref ((h 3)), .int (nI km), .ref ((h 4)), .int (nI le), .int (nI u_1.1), .ref ((h 5)), .ref ((h 6)), .int (nI ro), .ref ((h 7)), .ref ((h 8)), .ref ((h 9)), .ref ((h 10)), .ref ((h 11)), .ref ((h 12)), .ref ((h 13))])), ((h 1), .inl (cI, 99, .inl (sA F))), ((h 2), .inl (cI, 99, .inl u_1.2)), ((h 3), .inl (cI, 594, .inl (kA Q))), ((h 4), .inl (cI, 200, .inl (fun zz => nI (ft zz)))), ((h 5), .inl (cI, 12, .inl (fun zz => nI (B zz)))), ((h 6), .inl (cI, 12, .inl (fun zz => nI (Bt zz)))), ((h 7), .inl (cJ, 16, .inr (.inl W))), ((h 8), .inl (cJ, 16, .inr (.inl M))), ((h 9), .inl (cI, 9, .inl (fun zz => nI (a1 zz)))), ((h 10), .inl (cI, 9, .inl (fun zz => nI (a2 zz)))), ((h 11), .inl (cI, 198, .inl (fun zz => nI (a3 zz)))), ((h 12), .inl (cI, 9, .inl (fun zz => nI (a4 zz)))), ((h 13), .inl (cI, 9, .inl (fA a5)))]) (fun _ => rfl) [] [(h 0), (h 1), (h 2), (h 3), (h 4), (h 5), (h 6), (h 7), (h 8), (h 9), (h 10), (h 11), (h 12), (h 13)] (fun _ => rfl) rfl (fun _ => rfl) rfl (fun _ => rfl) (by decide) (by decide) 0 rfl rfl rfl (Nat.le_of_ble_eq_true rfl) dX10_firstError_1 (fun u_1 h_1 => ?_) rfl
  show J l _ D ε _ _ _ (.int (erI r.1) :: _)
  exact j_iret EE FF dX10_firstError_4 u_1 h_1.1 (by first | rfl | simp_all) rfl

theorem iw_X10_configure_X10 : ∀ w ∈ wsX100, w ∈ wsX10_configure := fun _ h => List.mem_cons_of_mem _ (List.mem_append_right _ h)
theorem lk_X10_configure_62 : Cond.fieldLink RX10 62 (TX10 5).1 (TX10 5).2.1 (TX10 5).2.2.1 ∈ wsX10_configure := List.mem_of_getElem? (i := 1) rfl
set_option maxHeartbeats 4000000 in
set_option maxRecDepth 100000 in
theorem c_X10_configureN (h F Q ft B Bt a1 a2 a3 a4 a5 : Nat → Nat) (fr : Nat → Int32) (W M : Nat → Int64) (km le sp ro : Nat) (r : Option Nat × (Nat → Nat)) (hft : ∀ i, ft i < 65536) (hle : le ≤ 200) (hfr : ∀ i, 99 ≤ i → fr i = nI 0) (hr0 : raM ft le (le + 1) E0 0 = r) (hN : r.1 = none → le = 0) : Ct l yX10_configure wsX10_configure (rmD (5)) D [(cI, .int), (cC, .char), (cJ, .long), (cG, .object "PushdownGameSolver$Game")] [.ref ((h 0))] [((h 0), .inr (6, [.ref ((h 1)), .ref ((h 2)), .ref ((h 3)), .int (nI km), .ref ((h 4)), .int (nI le), .int (nI sp), .ref ((h 5)), .ref ((h 6)), .int (nI ro), .ref ((h 7)), .ref ((h 8)), .ref ((h 9)), .ref ((h 10)), .ref ((h 11)), .ref ((h 12)), .ref ((h 13))])), ((h 1), .inl (cI, 99, .inl (sA F))), ((h 2), .inl (cI, 99, .inl fr)), ((h 3), .inl (cI, 594, .inl (kA Q))), ((h 4), .inl (cI, 200, .inl (fun zz => nI (ft zz)))), ((h 5), .inl (cI, 12, .inl (fun zz => nI (B zz)))), ((h 6), .inl (cI, 12, .inl (fun zz => nI (Bt zz)))), ((h 7), .inl (cJ, 16, .inr (.inl W))), ((h 8), .inl (cJ, 16, .inr (.inl M))), ((h 9), .inl (cI, 9, .inl (fun zz => nI (a1 zz)))), ((h 10), .inl (cI, 9, .inl (fun zz => nI (a2 zz)))), ((h 11), .inl (cI, 198, .inl (fun zz => nI (a3 zz)))), ((h 12), .inl (cI, 9, .inl (fun zz => nI (a4 zz)))), ((h 13), .inl (cI, 9, .inl (fA a5)))] (S := RT) (fun u => (∀ i, 99 ≤ i → u.2 i = nI 0)) (fun u => some (.int ((-2)))) (fun u => [((h 0), .inr (6, [.ref ((h 1)), .ref ((h 2)), .ref ((h 3)), .int (nI km), .ref ((h 4)), .int (nI le), .int (nI u.1), .ref ((h 5)), .ref ((h 6)), .int (nI ro), .ref ((h 7)), .ref ((h 8)), .ref ((h 9)), .ref ((h 10)), .ref ((h 11)), .ref ((h 12)), .ref ((h 13))])), ((h 1), .inl (cI, 99, .inl (sA F))), ((h 2), .inl (cI, 99, .inl u.2)), ((h 3), .inl (cI, 594, .inl (kA Q))), ((h 4), .inl (cI, 200, .inl (fun zz => nI (ft zz)))), ((h 5), .inl (cI, 12, .inl (fun zz => nI (B zz)))), ((h 6), .inl (cI, 12, .inl (fun zz => nI (Bt zz)))), ((h 7), .inl (cJ, 16, .inr (.inl W))), ((h 8), .inl (cJ, 16, .inr (.inl M))), ((h 9), .inl (cI, 9, .inl (fun zz => nI (a1 zz)))), ((h 10), .inl (cI, 9, .inl (fun zz => nI (a2 zz)))), ((h 11), .inl (cI, 198, .inl (fun zz => nI (a3 zz)))), ((h 12), .inl (cI, 9, .inl (fun zz => nI (a4 zz)))), ((h 13), .inl (cI, 9, .inl (fA a5)))]) := by
  refine Ct.of (lv := [(0, .ref ((h 0)))]) (by decide) rfl (Nat.le_of_ble_eq_true rfl) rfl ?_
  intro ε hL EE FF
  refine j_aload_n EE 0 dX10_configure_0 rfl rfl ?_
  refine j_V3 (n9 := 14) EE (c_X10_readAll h F Q ft B Bt a1 a2 a3 a4 a5 fr W M km le sp ro r hft hle hfr hr0) gX10_configure_X10_readAll ⟨rfl, hd_X10_readAll⟩ rfl ⟨rfl, rfl⟩ ⟨by decide, by decide⟩ rfl [0, 1, 2, 3, 4, 5, 6, 7, 8, 9, 10, 11, 12, 13] rfl [] (fun u_1 => [((h 0), .inr (6, [.ref ((h 1)), .ref ((h 2)), .ref ((h 3)), .int (nI km), .ref ((h 4)), .int (nI le), .int (nI u_1.1), .ref ((h 5)), .ref ((h 6)), .int (nI ro), .ref ((h 7)), .ref ((h 8)), .ref ((h 9)), .ref ((h 10)), .ref ((h 11)), .ref ((h 12)), .ref ((h 13))])), ((h 1), .inl (cI, 99, .inl (sA F))), ((h 2), .inl (cI, 99, .inl u_1.2)), ((h 3), .inl (cI, 594, .inl (kA Q))), ((h 4), .inl (cI, 200, .inl (fun zz => nI (ft zz)))), ((h 5), .inl (cI, 12, .inl (fun zz => nI (B zz)))), ((h 6), .inl (cI, 12, .inl (fun zz => nI (Bt zz)))), ((h 7), .inl (cJ, 16, .inr (.inl W))), ((h 8), .inl (cJ, 16, .inr (.inl M))), ((h 9), .inl (cI, 9, .inl (fun zz => nI (a1 zz)))), ((h 10), .inl (cI, 9, .inl (fun zz => nI (a2 zz)))), ((h 11), .inl (cI, 198, .inl (fun zz => nI (a3 zz)))), ((h 12), .inl (cI, 9, .inl (fun zz => nI (a4 zz)))), ((h 13), .inl (cI, 9, .inl (fA a5)))]) (fun _ => rfl) [] [(h 0), (h 1), (h 2), (h 3), (h 4), (h 5), (h 6), (h 7), (h 8), (h 9), (h 10), (h 11), (h 12), (h 13)] (fun _ => rfl) rfl (fun _ => rfl) rfl (fun _ => rfl) (by decide) (by decide) 0 rfl rfl rfl (Nat.le_of_ble_eq_true rfl) dX10_configure_1 (fun u_1 h_1 => ?_) rfl
  show J l _ D ε _ _ _ (.int (erI r.1) :: _)
  refine j_bipush (v := (-4)) EE dX10_configure_4 (by decide) ?_
  refine j_icmp_ne EE 16 dX10_configure_6 (by decide) (fun c6 => ?_) (fun c6 => ?_)
  · skip
    refine j_bipush (v := (-2)) EE dX10_configure_16 (by decide) ?_
    exact j_iret EE FF dX10_configure_18 u_1 h_1.1 (by first | rfl | simp_all) rfl
  · skip
    refine j_aload_n EE 0 dX10_configure_9 rfl rfl ?_
    refine j_get (T := TX10) EE iw_X10_configure_X10 0 rfl rfl 5 (by decide) lk_X10_configure_62 rfl dX10_configure_10 ?_
    refine j_if_ne EE 19 dX10_configure_13 (by decide) (fun c13 => ?_) (fun c13 => ?_)
    · skip
      have n13 : le ≠ 0 := fun hq => c13 ((nI_eq (a := le) (b := 0) (by omega) (by omega)).mpr hq)
      exfalso
      exact n13 (hN (erI_n (fun k hk => by have h9 := (ra_ok (ft := ft) (le := le) (le + 1) E0 0 E0_ok).2 k (by rw [hr0]; exact hk); omega) c6))
    · skip
      have n13 : le = 0 := (nI_eq (a := le) (b := 0) (by omega) (by omega)).mp c13
      refine j_bipush (v := (-2)) EE dX10_configure_16 (by decide) ?_
      exact j_iret EE FF dX10_configure_18 u_1 h_1.1 (by first | rfl | simp_all) rfl

theorem lk_X10_configure_7 : Cond.fieldLink RX10 7 (TX10 0).1 (TX10 0).2.1 (TX10 0).2.2.1 ∈ wsX10_configure := List.mem_of_getElem? (i := 2) rfl
theorem lk_X10_configure_92 : Cond.fieldLink RX10 92 (TX10 3).1 (TX10 3).2.1 (TX10 3).2.2.1 ∈ wsX10_configure := List.mem_of_getElem? (i := 4) rfl
theorem lk_X10_configure_13 : Cond.fieldLink RX10 13 (TX10 1).1 (TX10 1).2.1 (TX10 1).2.2.1 ∈ wsX10_configure := List.mem_of_getElem? (i := 3) rfl
set_option maxHeartbeats 4000000 in
set_option maxRecDepth 100000 in
theorem c_X10_configure (h F Q ft B Bt a1 a2 a3 a4 a5 : Nat → Nat) (fr : Nat → Int32) (W M : Nat → Int64) (km le sp ro : Nat) (r : Option Nat × (Nat → Nat)) (hft : ∀ i, ft i < 65536) (hle : le ≤ 200) (hfr : ∀ i, 99 ≤ i → fr i = nI 0) (hr0 : raM ft le (le + 1) E0 0 = r) (hS : r.1 = none) (hl : 0 < le) : Ct l yX10_configure wsX10_configure (rmD (5)) D [(cI, .int), (cC, .char), (cJ, .long), (cG, .object "PushdownGameSolver$Game")] [.ref ((h 0))] [((h 0), .inr (6, [.ref ((h 1)), .ref ((h 2)), .ref ((h 3)), .int (nI km), .ref ((h 4)), .int (nI le), .int (nI sp), .ref ((h 5)), .ref ((h 6)), .int (nI ro), .ref ((h 7)), .ref ((h 8)), .ref ((h 9)), .ref ((h 10)), .ref ((h 11)), .ref ((h 12)), .ref ((h 13))])), ((h 1), .inl (cI, 99, .inl (sA F))), ((h 2), .inl (cI, 99, .inl fr)), ((h 3), .inl (cI, 594, .inl (kA Q))), ((h 4), .inl (cI, 200, .inl (fun zz => nI (ft zz)))), ((h 5), .inl (cI, 12, .inl (fun zz => nI (B zz)))), ((h 6), .inl (cI, 12, .inl (fun zz => nI (Bt zz)))), ((h 7), .inl (cJ, 16, .inr (.inl W))), ((h 8), .inl (cJ, 16, .inr (.inl M))), ((h 9), .inl (cI, 9, .inl (fun zz => nI (a1 zz)))), ((h 10), .inl (cI, 9, .inl (fun zz => nI (a2 zz)))), ((h 11), .inl (cI, 198, .inl (fun zz => nI (a3 zz)))), ((h 12), .inl (cI, 9, .inl (fun zz => nI (a4 zz)))), ((h 13), .inl (cI, 9, .inl (fA a5)))] (S := RT) (fun u => (∀ i, 99 ≤ i → u.2 i = nI 0)) (fun u => some (.int (nI (r.2 4)))) (fun u => [((h 0), .inr (6, [.ref ((h 1)), .ref ((h 2)), .ref ((h 3)), .int (nI 0), .ref ((h 4)), .int (nI le), .int (nI u.1), .ref ((h 5)), .ref ((h 6)), .int (nI ro), .ref ((h 7)), .ref ((h 8)), .ref ((h 9)), .ref ((h 10)), .ref ((h 11)), .ref ((h 12)), .ref ((h 13))])), ((h 1), .inl (cI, 99, .inl (sA (updN (cpyN r.2 F 99) 86 1)))), ((h 2), .inl (cI, 99, .inl u.2)), ((h 3), .inl (cI, 594, .inl (kA Q))), ((h 4), .inl (cI, 200, .inl (fun zz => nI (ft zz)))), ((h 5), .inl (cI, 12, .inl (fun zz => nI (B zz)))), ((h 6), .inl (cI, 12, .inl (fun zz => nI (Bt zz)))), ((h 7), .inl (cJ, 16, .inr (.inl W))), ((h 8), .inl (cJ, 16, .inr (.inl M))), ((h 9), .inl (cI, 9, .inl (fun zz => nI (a1 zz)))), ((h 10), .inl (cI, 9, .inl (fun zz => nI (a2 zz)))), ((h 11), .inl (cI, 198, .inl (fun zz => nI (a3 zz)))), ((h 12), .inl (cI, 9, .inl (fun zz => nI (a4 zz)))), ((h 13), .inl (cI, 9, .inl (fA a5)))]) := by
  refine Ct.of (lv := [(0, .ref ((h 0)))]) (by decide) rfl (Nat.le_of_ble_eq_true rfl) rfl ?_
  intro ε hL EE FF
  have Lp_21 : ∀ (nf : Nat), ∀ (u1 : RT) (k : Nat), 100 - k < nf → (k ≤ 99) → (u1.2 = sA r.2) → (∀ i, 99 ≤ i → u1.2 i = nI 0) → J l (rmD (5)) D ε [((h 0), .inr (6, [.ref ((h 1)), .ref ((h 2)), .ref ((h 3)), .int (nI km), .ref ((h 4)), .int (nI le), .int (nI u1.1), .ref ((h 5)), .ref ((h 6)), .int (nI ro), .ref ((h 7)), .ref ((h 8)), .ref ((h 9)), .ref ((h 10)), .ref ((h 11)), .ref ((h 12)), .ref ((h 13))])), ((h 1), .inl (cI, 99, .inl (sA (cpyN r.2 F k)))), ((h 2), .inl (cI, 99, .inl u1.2)), ((h 3), .inl (cI, 594, .inl (kA Q))), ((h 4), .inl (cI, 200, .inl (fun zz => nI (ft zz)))), ((h 5), .inl (cI, 12, .inl (fun zz => nI (B zz)))), ((h 6), .inl (cI, 12, .inl (fun zz => nI (Bt zz)))), ((h 7), .inl (cJ, 16, .inr (.inl W))), ((h 8), .inl (cJ, 16, .inr (.inl M))), ((h 9), .inl (cI, 9, .inl (fun zz => nI (a1 zz)))), ((h 10), .inl (cI, 9, .inl (fun zz => nI (a2 zz)))), ((h 11), .inl (cI, 198, .inl (fun zz => nI (a3 zz)))), ((h 12), .inl (cI, 9, .inl (fun zz => nI (a4 zz)))), ((h 13), .inl (cI, 9, .inl (fA a5)))] 21 [(1, .int (nI k)), (0, .ref ((h 0)))] [] := by
    intro nf
    induction nf with
    | zero => intro u1 k hm; exact absurd hm (Nat.not_lt_zero _)
    | succ nf ihp_21 =>
      intro u1 k hm21 hk hu2 hu3
      refine j_iload_n EE 0 dX10_configure_21 rfl rfl ?_
      refine j_bipush (v := nI 99) EE dX10_configure_22 (by decide) ?_
      refine j_icmp_ge EE 45 dX10_configure_24 (by decide) (fun c24 => ?_) (fun c24 => ?_)
      · skip
        have n24 : 99 ≤ k := (nI_leI (a := 99) (b := k) (by omega) (by omega)).mp c24
        refine j_aload_n EE 1 dX10_configure_45 rfl rfl ?_
        refine j_get (T := TX10) EE iw_X10_configure_X10 0 rfl rfl 0 (by decide) lk_X10_configure_7 rfl dX10_configure_46 ?_
        refine j_bipush (v := nI 86) EE dX10_configure_49 (by decide) ?_
        refine j_iconst (v := nI 1) EE dX10_configure_51 (by decide) ?_
        refine j_iast (ws' := [((h 0), .inr (6, [.ref ((h 1)), .ref ((h 2)), .ref ((h 3)), .int (nI km), .ref ((h 4)), .int (nI le), .int (nI u1.1), .ref ((h 5)), .ref ((h 6)), .int (nI ro), .ref ((h 7)), .ref ((h 8)), .ref ((h 9)), .ref ((h 10)), .ref ((h 11)), .ref ((h 12)), .ref ((h 13))])), ((h 1), .inl (cI, 99, .inl (sA (updN (cpyN r.2 F k) 86 1)))), ((h 2), .inl (cI, 99, .inl u1.2)), ((h 3), .inl (cI, 594, .inl (kA Q))), ((h 4), .inl (cI, 200, .inl (fun zz => nI (ft zz)))), ((h 5), .inl (cI, 12, .inl (fun zz => nI (B zz)))), ((h 6), .inl (cI, 12, .inl (fun zz => nI (Bt zz)))), ((h 7), .inl (cJ, 16, .inr (.inl W))), ((h 8), .inl (cJ, 16, .inr (.inl M))), ((h 9), .inl (cI, 9, .inl (fun zz => nI (a1 zz)))), ((h 10), .inl (cI, 9, .inl (fun zz => nI (a2 zz)))), ((h 11), .inl (cI, 198, .inl (fun zz => nI (a3 zz)))), ((h 12), .inl (cI, 9, .inl (fun zz => nI (a4 zz)))), ((h 13), .inl (cI, 9, .inl (fA a5)))]) EE 1 0 rfl rfl (vp_in_nI (n := 86) (by omega) (by decide)) (by rw [nI_clamp (by omega), upd_sAn (by omega)]; rfl) dX10_configure_52 ?_
        refine j_aload_n EE 1 dX10_configure_53 rfl rfl ?_
        refine j_iconst (v := nI 0) EE dX10_configure_54 (by decide) ?_
        refine j_put (T := TX10) (ws' := [((h 0), .inr (6, [.ref ((h 1)), .ref ((h 2)), .ref ((h 3)), .int (nI 0), .ref ((h 4)), .int (nI le), .int (nI u1.1), .ref ((h 5)), .ref ((h 6)), .int (nI ro), .ref ((h 7)), .ref ((h 8)), .ref ((h 9)), .ref ((h 10)), .ref ((h 11)), .ref ((h 12)), .ref ((h 13))])), ((h 1), .inl (cI, 99, .inl (sA (updN (cpyN r.2 F k) 86 1)))), ((h 2), .inl (cI, 99, .inl u1.2)), ((h 3), .inl (cI, 594, .inl (kA Q))), ((h 4), .inl (cI, 200, .inl (fun zz => nI (ft zz)))), ((h 5), .inl (cI, 12, .inl (fun zz => nI (B zz)))), ((h 6), .inl (cI, 12, .inl (fun zz => nI (Bt zz)))), ((h 7), .inl (cJ, 16, .inr (.inl W))), ((h 8), .inl (cJ, 16, .inr (.inl M))), ((h 9), .inl (cI, 9, .inl (fun zz => nI (a1 zz)))), ((h 10), .inl (cI, 9, .inl (fun zz => nI (a2 zz)))), ((h 11), .inl (cI, 198, .inl (fun zz => nI (a3 zz)))), ((h 12), .inl (cI, 9, .inl (fun zz => nI (a4 zz)))), ((h 13), .inl (cI, 9, .inl (fA a5)))]) EE iw_X10_configure_X10 tyX10 tyX10_ok nmX10 0 rfl rfl 3 (by decide) lk_X10_configure_92 rfl rfl rfl (Nat.le_of_ble_eq_true rfl) rfl dX10_configure_55 ?_
        refine j_aload_n EE 1 dX10_configure_58 rfl rfl ?_
        refine j_get (T := TX10) EE iw_X10_configure_X10 0 rfl rfl 0 (by decide) lk_X10_configure_7 rfl dX10_configure_59 ?_
        refine j_iconst (v := nI 4) EE dX10_configure_62 (by decide) ?_
        refine j_iald EE 1 0 rfl rfl (vp_in_nI (n := 4) (by omega) (by decide)) dX10_configure_63 ?_
        refine j_topE (congrArg (sA (updN (cpyN r.2 F k) 86 1)) (nI_clamp (n := 4) (by omega))) ?_
        refine j_topE (y := nI (r.2 4)) (by rw [sA_n (by omega)]; simp only [updN, cpyN]; rw [if_neg (by omega), if_pos (by omega)]) ?_
        exact j_iret EE FF dX10_configure_64 u1 hu3 (by first | rfl | simp_all) (by rw [show k = 99 by omega])
      · skip
        have n24 : ¬ 99 ≤ k := fun hq => c24 ((nI_leI (a := 99) (b := k) (by omega) (by omega)).mpr hq)
        refine j_aload_n EE 1 dX10_configure_27 rfl rfl ?_
        refine j_get (T := TX10) EE iw_X10_configure_X10 0 rfl rfl 0 (by decide) lk_X10_configure_7 rfl dX10_configure_28 ?_
        refine j_iload_n EE 0 dX10_configure_31 rfl rfl ?_
        refine j_aload_n EE 1 dX10_configure_32 rfl rfl ?_
        refine j_get (T := TX10) EE iw_X10_configure_X10 0 rfl rfl 1 (by decide) lk_X10_configure_13 rfl dX10_configure_33 ?_
        refine j_iload_n EE 0 dX10_configure_36 rfl rfl ?_
        refine j_iald EE 2 0 rfl rfl (vp_in_nI (n := k) (by omega) (by decide)) dX10_configure_37 ?_
        refine j_topE (congrArg u1.2 (nI_clamp (n := k) (by omega))) ?_
        refine j_iast (ws' := [((h 0), .inr (6, [.ref ((h 1)), .ref ((h 2)), .ref ((h 3)), .int (nI km), .ref ((h 4)), .int (nI le), .int (nI u1.1), .ref ((h 5)), .ref ((h 6)), .int (nI ro), .ref ((h 7)), .ref ((h 8)), .ref ((h 9)), .ref ((h 10)), .ref ((h 11)), .ref ((h 12)), .ref ((h 13))])), ((h 1), .inl (cI, 99, .inl (sA (cpyN r.2 F (k + 1))))), ((h 2), .inl (cI, 99, .inl u1.2)), ((h 3), .inl (cI, 594, .inl (kA Q))), ((h 4), .inl (cI, 200, .inl (fun zz => nI (ft zz)))), ((h 5), .inl (cI, 12, .inl (fun zz => nI (B zz)))), ((h 6), .inl (cI, 12, .inl (fun zz => nI (Bt zz)))), ((h 7), .inl (cJ, 16, .inr (.inl W))), ((h 8), .inl (cJ, 16, .inr (.inl M))), ((h 9), .inl (cI, 9, .inl (fun zz => nI (a1 zz)))), ((h 10), .inl (cI, 9, .inl (fun zz => nI (a2 zz)))), ((h 11), .inl (cI, 198, .inl (fun zz => nI (a3 zz)))), ((h 12), .inl (cI, 9, .inl (fun zz => nI (a4 zz)))), ((h 13), .inl (cI, 9, .inl (fA a5)))]) EE 1 0 rfl rfl (vp_in_nI (n := k) (by omega) (by decide)) (by rw [nI_clamp (by omega), hu2, upd_sAo, cpyN_s]; rfl) dX10_configure_38 ?_
        refine j_iinc (v := nI (k + 1)) EE 0 [(1, .int (nI (k + 1))), (0, _)] dX10_configure_39 rfl (nI_1 k) (Nat.lt_of_lt_of_eq (by decide) hL.symm) rfl ?_
        refine j_goto EE 21 dX10_configure_42 (by decide) ?_
        exact ihp_21 u1 (k + 1) (by omega) (by omega) hu2 hu3
  refine j_aload_n EE 0 dX10_configure_0 rfl rfl ?_
  refine j_V3 (n9 := 14) EE (c_X10_readAll h F Q ft B Bt a1 a2 a3 a4 a5 fr W M km le sp ro r hft hle hfr hr0) gX10_configure_X10_readAll ⟨rfl, hd_X10_readAll⟩ rfl ⟨rfl, rfl⟩ ⟨by decide, by decide⟩ rfl [0, 1, 2, 3, 4, 5, 6, 7, 8, 9, 10, 11, 12, 13] rfl [] (fun u_1 => [((h 0), .inr (6, [.ref ((h 1)), .ref ((h 2)), .ref ((h 3)), .int (nI km), .ref ((h 4)), .int (nI le), .int (nI u_1.1), .ref ((h 5)), .ref ((h 6)), .int (nI ro), .ref ((h 7)), .ref ((h 8)), .ref ((h 9)), .ref ((h 10)), .ref ((h 11)), .ref ((h 12)), .ref ((h 13))])), ((h 1), .inl (cI, 99, .inl (sA F))), ((h 2), .inl (cI, 99, .inl u_1.2)), ((h 3), .inl (cI, 594, .inl (kA Q))), ((h 4), .inl (cI, 200, .inl (fun zz => nI (ft zz)))), ((h 5), .inl (cI, 12, .inl (fun zz => nI (B zz)))), ((h 6), .inl (cI, 12, .inl (fun zz => nI (Bt zz)))), ((h 7), .inl (cJ, 16, .inr (.inl W))), ((h 8), .inl (cJ, 16, .inr (.inl M))), ((h 9), .inl (cI, 9, .inl (fun zz => nI (a1 zz)))), ((h 10), .inl (cI, 9, .inl (fun zz => nI (a2 zz)))), ((h 11), .inl (cI, 198, .inl (fun zz => nI (a3 zz)))), ((h 12), .inl (cI, 9, .inl (fun zz => nI (a4 zz)))), ((h 13), .inl (cI, 9, .inl (fA a5)))]) (fun _ => rfl) [] [(h 0), (h 1), (h 2), (h 3), (h 4), (h 5), (h 6), (h 7), (h 8), (h 9), (h 10), (h 11), (h 12), (h 13)] (fun _ => rfl) rfl (fun _ => rfl) rfl (fun _ => rfl) (by decide) (by decide) 0 rfl rfl rfl (Nat.le_of_ble_eq_true rfl) dX10_configure_1 (fun u_1 h_1 => ?_) rfl
  show J l _ D ε _ _ _ (.int (erI r.1) :: _)
  refine j_bipush (v := (-4)) EE dX10_configure_4 (by decide) ?_
  refine j_icmp_ne EE 16 dX10_configure_6 (by decide) (fun c6 => absurd (by rw [hS]; rfl) c6) (fun c6 => ?_)
  refine j_aload_n EE 0 dX10_configure_9 rfl rfl ?_
  refine j_get (T := TX10) EE iw_X10_configure_X10 0 rfl rfl 5 (by decide) lk_X10_configure_62 rfl dX10_configure_10 ?_
  refine j_if_ne EE 19 dX10_configure_13 (by decide) (fun c13 => ?_) (fun c13 => absurd ((nI_eq (a := le) (b := 0) (by omega) (by omega)).mp c13) (by omega))
  have n13 : le ≠ 0 := fun hq => c13 ((nI_eq (a := le) (b := 0) (by omega) (by omega)).mpr hq)
  refine j_iconst (v := nI 0) EE dX10_configure_19 (by decide) ?_
  refine j_istore_n EE [(1, _), (0, _)] dX10_configure_20 rfl (Nat.lt_of_lt_of_eq (by decide) hL.symm) rfl ?_
  rw [← cpyN_0 r.2 F]
  exact Lp_21 _ u_1 0 (Nat.lt_succ_self _) (by omega) (h_1.2 hS) h_1.1

end G_51_mod11
