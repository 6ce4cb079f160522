theorem nw_in : ∀ w ∈ NW, w ∈ lw_tbl := by decide +kernel
theorem law_GG {p : Program} {s : State} {m : MethodId} {meth : Method} {c : Code} {b L : Nat} {xs : Nat → Int32} (C0 : lw_At p s m meth c b L xs) : ∃ tt : Nat → Nat, GG tt (fun q : Nat => s.heap.size ≤ q) s s.heap := by
  obtain ⟨hx, hb, hr, hml, hown, hts, hX, hbl, hlocks, hgv⟩ := C0
  have hs := flat_of_before _ hgv
  have hA : ∀ a : Nat, a < s.heap.size → ¬ (fun q : Nat => s.heap.size ≤ q) a := fun a h => Nat.not_le.mpr h
  have hl0 : (Term.length (Term.static "MarkRecovery" "MARK_FIRST" "[I")).eval #[Value.ref b] s none [] s = some (.int (Int32.ofNat 3)) := va_eqt (z := 3) (hs (Cond.eq (.length (Term.static "MarkRecovery" "MARK_FIRST" "[I")) (.int 3)) (by decide +kernel))
  have hv0_0 : (Term.elem (Term.static "MarkRecovery" "MARK_FIRST" "[I") (.int 0)).eval #[Value.ref b] s none [] s = some (.int 255) := va_eqt (z := 255) (hs (Cond.eq (.elem (Term.static "MarkRecovery" "MARK_FIRST" "[I") (.int 0)) (.int 255)) (by decide +kernel))
  have hv0_1 : (Term.elem (Term.static "MarkRecovery" "MARK_FIRST" "[I") (.int 1)).eval #[Value.ref b] s none [] s = some (.int 80) := va_eqt (z := 80) (hs (Cond.eq (.elem (Term.static "MarkRecovery" "MARK_FIRST" "[I") (.int 1)) (.int 80)) (by decide +kernel))
  have hv0_2 : (Term.elem (Term.static "MarkRecovery" "MARK_FIRST" "[I") (.int 2)).eval #[Value.ref b] s none [] s = some (.int 151) := va_eqt (z := 151) (hs (Cond.eq (.elem (Term.static "MarkRecovery" "MARK_FIRST" "[I") (.int 2)) (.int 151)) (by decide +kernel))
  obtain ⟨t0, ht0, hT0⟩ := va_Tof (tm := (Term.static "MarkRecovery" "MARK_FIRST" "[I")) (ty := .int) (N := 3) (f := fun j => .int (tb0 j)) (A := fun q : Nat => s.heap.size ≤ q) (by decide) (hs (Cond.arrayOf (Term.static "MarkRecovery" "MARK_FIRST" "[I") .int) (by decide +kernel)) hl0 (fun j hj => by
    rcases (show j = 0 ∨ j = 1 ∨ j = 2 by omega) with rfl | rfl | rfl
    · exact hv0_0
    · exact hv0_1
    · exact hv0_2) hA
  have hZ0 := va_Zref (A := fun q : Nat => s.heap.size ≤ q) (hts (Cond.laysStatic "MarkRecovery" "MARK_FIRST" "[I") (by decide +kernel)) (hts (Cond.initialized "MarkRecovery") (by decide +kernel)) ht0 hA
  have hl1 : (Term.length (Term.static "MarkRecovery" "MARK_SECOND" "[I")).eval #[Value.ref b] s none [] s = some (.int (Int32.ofNat 3)) := va_eqt (z := 3) (hs (Cond.eq (.length (Term.static "MarkRecovery" "MARK_SECOND" "[I")) (.int 3)) (by decide +kernel))
  have hv1_0 : (Term.elem (Term.static "MarkRecovery" "MARK_SECOND" "[I") (.int 0)).eval #[Value.ref b] s none [] s = some (.int 217) := va_eqt (z := 217) (hs (Cond.eq (.elem (Term.static "MarkRecovery" "MARK_SECOND" "[I") (.int 0)) (.int 217)) (by decide +kernel))
  have hv1_1 : (Term.elem (Term.static "MarkRecovery" "MARK_SECOND" "[I") (.int 1)).eval #[Value.ref b] s none [] s = some (.int 65) := va_eqt (z := 65) (hs (Cond.eq (.elem (Term.static "MarkRecovery" "MARK_SECOND" "[I") (.int 1)) (.int 65)) (by decide +kernel))
  have hv1_2 : (Term.elem (Term.static "MarkRecovery" "MARK_SECOND" "[I") (.int 2)).eval #[Value.ref b] s none [] s = some (.int 74) := va_eqt (z := 74) (hs (Cond.eq (.elem (Term.static "MarkRecovery" "MARK_SECOND" "[I") (.int 2)) (.int 74)) (by decide +kernel))
  obtain ⟨t1, ht1, hT1⟩ := va_Tof (tm := (Term.static "MarkRecovery" "MARK_SECOND" "[I")) (ty := .int) (N := 3) (f := fun j => .int (tb1 j)) (A := fun q : Nat => s.heap.size ≤ q) (by decide) (hs (Cond.arrayOf (Term.static "MarkRecovery" "MARK_SECOND" "[I") .int) (by decide +kernel)) hl1 (fun j hj => by
    rcases (show j = 0 ∨ j = 1 ∨ j = 2 by omega) with rfl | rfl | rfl
    · exact hv1_0
    · exact hv1_1
    · exact hv1_2) hA
  have hZ1 := va_Zref (A := fun q : Nat => s.heap.size ≤ q) (hts (Cond.laysStatic "MarkRecovery" "MARK_SECOND" "[I") (by decide +kernel)) (hts (Cond.initialized "MarkRecovery") (by decide +kernel)) ht1 hA
  have hini := hts (Cond.initialized "java/lang/Throwable") (by decide +kernel)
  have hU : vx_Zq Bundle.tN "UNASSIGNED_STACK" "[Ljava/lang/StackTraceElement;" (fun q : Nat => s.heap.size ≤ q) s s.heap := vx_Zqof (hts (Cond.laysStatic "java/lang/Throwable" "UNASSIGNED_STACK" "[Ljava/lang/StackTraceElement;") (by decide +kernel)) hini (hs (Cond.isRef (.static "java/lang/Throwable" "UNASSIGNED_STACK" "[Ljava/lang/StackTraceElement;")) (by decide +kernel)) hA
  have hN : vx_Zq Bundle.tN "SUPPRESSED_SENTINEL" "Ljava/util/List;" (fun q : Nat => s.heap.size ≤ q) s s.heap := vx_Zqof (hts (Cond.laysStatic "java/lang/Throwable" "SUPPRESSED_SENTINEL" "Ljava/util/List;") (by decide +kernel)) hini (hs (Cond.isRef (.static "java/lang/Throwable" "SUPPRESSED_SENTINEL" "Ljava/util/List;")) (by decide +kernel)) hA
  refine ⟨fun k => if k = 0 then t0 else t1, fun w hw => va_Nw.of (nw_tab w hw) (hts w (nw_in w hw)), ⟨hZ0, hT0⟩, ⟨hZ1, hT1⟩, ⟨hU, hN⟩, ?_, hts (Cond.arrayOver (.array .int)) (by decide +kernel), ?_⟩
  · have hone : ∀ (k : Nat) (tx : String), (Cond.stringRef "MarkRecovery" k tx).before #[Value.ref b] s = true → (Cond.exactly (.string "MarkRecovery" k) "java/lang/String").before #[Value.ref b] s = true → ∃ sa : Nat, vk_R "MarkRecovery" k tx sa s := fun k tx h1 h2 => by
      obtain ⟨a, c9, cell, k9, q1, -⟩ := Cond.exactly_spec h2
      exact ⟨a, vk_R.of h1 q1⟩
    intro q hq
    simp only [STRS, List.mem_cons, List.not_mem_nil, or_false] at hq
    rcases hq with rfl | rfl | rfl | rfl | rfl | rfl | rfl | rfl
    · exact hone 51 _ (hts (Cond.stringRef "MarkRecovery" 51 "one to eight bytes can be fed") (by decide +kernel)) (hs (Cond.exactly (.string "MarkRecovery" 51) "java/lang/String") (by decide +kernel))
    · exact hone 61 _ (hts (Cond.stringRef "MarkRecovery" 61 "no room for so many bytes") (by decide +kernel)) (hs (Cond.exactly (.string "MarkRecovery" 61) "java/lang/String") (by decide +kernel))
    · exact hone 69 _ (hts (Cond.stringRef "MarkRecovery" 69 "no such byte") (by decide +kernel)) (hs (Cond.exactly (.string "MarkRecovery" 69) "java/lang/String") (by decide +kernel))
    · exact hone 72 _ (hts (Cond.stringRef "MarkRecovery" 72 "a byte is 0 to 255") (by decide +kernel)) (hs (Cond.exactly (.string "MarkRecovery" 72) "java/lang/String") (by decide +kernel))
    · exact hone 131 _ (hts (Cond.stringRef "MarkRecovery" 131 "nothing was run") (by decide +kernel)) (hs (Cond.exactly (.string "MarkRecovery" 131) "java/lang/String") (by decide +kernel))
    · exact hone 134 _ (hts (Cond.stringRef "MarkRecovery" 134 "no such part") (by decide +kernel)) (hs (Cond.exactly (.string "MarkRecovery" 134) "java/lang/String") (by decide +kernel))
    · exact hone 136 _ (hts (Cond.stringRef "MarkRecovery" 136 "no such sample") (by decide +kernel)) (hs (Cond.exactly (.string "MarkRecovery" 136) "java/lang/String") (by decide +kernel))
    · exact hone 114 _ (hts (Cond.stringRef "MarkRecovery" 114 "the rules are 0 to 2") (by decide +kernel)) (hs (Cond.exactly (.string "MarkRecovery" 114) "java/lang/String") (by decide +kernel))
  · intro q hq
    simp only [NCP, List.mem_cons, List.not_mem_nil, or_false] at hq
    rcases hq with rfl | rfl | rfl
    · exact va_Nc.of (hs (Cond.not (.castable "java/lang/UnsupportedOperationException" "java/lang/IllegalArgumentException")) (by decide +kernel))
    · exact va_Nc.of (hs (Cond.not (.castable "java/lang/IllegalArgumentException" "java/lang/IndexOutOfBoundsException")) (by decide +kernel))
    · exact va_Nc.of (hs (Cond.not (.castable "java/lang/IndexOutOfBoundsException" "java/lang/IllegalStateException")) (by decide +kernel))
def d_cell (L : Nat) (xs : Nat → Int32) (k : Int32) : Int32 := if Int32.ofNat L ≤ k then 0 else xs k.toNatClampNeg
def PreX (D : va_G) (sz : Nat) (tt : Nat → Nat) (b L : Nat) (xs : Nat → Int32) : State → Prop := fun U => PreW D [] ([] : va_W) sz tt U ∧ va_X b L xs U U.heap ∧ b < sz
theorem PreX_blind {av : List Value} {D : va_G} {sz : Nat} {tt : Nat → Nat} {b L : Nat} {xs : Nat → Int32} : FrameBlind (va_Pc av (PreX D sz tt b L xs)) := fun a U g mk q => by
  obtain ⟨q0, ⟨q1, qP, qK, qD, qG⟩, qX, ql⟩ := q
  exact ⟨q0, ⟨q1, qP, va_K.moved (u := U) (U := U.calling g mk a) (Vm.Alike.refl U.vm) qK, qD, GG.same (u := U) (U := U.calling g mk a) rfl qG⟩, va_X.moved (u := U) (U := U.calling g mk a) (Vm.Alike.refl U.vm) qX, ql⟩
abbrev rm_Law_cell : Room := { frames := 0, cells := 0, slots := 0, locals := 0 }
set_option maxHeartbeats 4000000 in
set_option maxRecDepth 100000 in
theorem c_Law_cell (l : Launch) (dC : Nat → ClassId) (dI : Nat → Nat → Nat) (tt : Nat → Nat) (b L : Nat) (xs : Nat → Int32) (sz : Nat) (x1 : Int32) (hin : ¬ Int32.ofNat L ≤ x1 → vp_in x1 L) :
    Met l y_Law_cell w_Law_cell rm_Law_cell (va_Pc [.ref b, .int x1] (PreX (dC, dI) sz tt b L xs)) (va_Qi (fun (r : Int32) (_ : Unit) => r = d_cell L xs x1) (fun _ => AftW (dC, dI) [] (va_A ([] : va_W) sz) ([] : va_W)) (va_A ([] : va_W) sz)) 0 0 (va_A ([] : va_W) sz) := by
  refine Met.ofW (cc := k_Law_cell) (maxL := 2) (ret := (some .int)) (by decide) rfl ?_
  intro p e s m args below meth c s₁ B hml hv
  obtain ⟨rfl, ⟨hsz, hP, hK, hD0, hG⟩, hX, hbl⟩ := hv
  have hx := B.exec
  have hb := B.bytes
  have hr := B.returns
  have hlocks := B.notSynchronized
  subst hsz
  have hD := hD0.self (sz := s.heap.size)
  have hbA : ¬ va_A ([] : va_W) s.heap.size b := fun q => by
    rcases q with ⟨k, e9, hk⟩ | q
    · simp at hk
    · exact absurd hbl (Nat.not_lt.mpr q)
  generalize hAe : va_A ([] : va_W) s.heap.size = A at hD hG hbA ⊢
  have hA : ∀ q : Nat, s.heap.size ≤ q → A q := fun q h => by rw [← hAe]; exact Or.inr h
  have hS : va_S A s.heap s.heap [] := va_S.rf
  have hl := lv_entry ([.ref b, .int x1]) (n := 2) (Nat.le_of_ble_eq_true rfl)
  rw [lg_entry_eq]
  generalize (lg_sl ([.ref b, .int x1]) ++ List.replicate (2 - (lg_sl ([.ref b, .int x1])).length) Slot.unset).toArray = ls at hl ⊢
  have hl : lv_has ls 2 [(0, .ref b), (1, .int x1)] := hl
  refine lv_iload_n hx hb d_Law_cell_0 rfl (lv_at hl 1 rfl) ?_
  refine lv_aload_n hx hb d_Law_cell_1 rfl (lv_at hl 0 rfl) ?_
  refine va_slen hx hb hX hbl hbA hS d_Law_cell_2 ?_
  refine lv_icmp_ge (tgt := 12) hx hb d_Law_cell_3 (by decide) (fun c_1 => ?_) (fun c_1 => ?_)
  · refine lv_iconst (v := 0) hx hb d_Law_cell_12 (by decide) ?_
    exact W.iret hx hb hr (fun t ht hW => ⟨⟨_, (), rfl, (if_pos c_1).symm, AftW_mk hK hP hD ht hW⟩, hS.F ht⟩) hS.2.2 d_Law_cell_13
  · refine lv_aload_n hx hb d_Law_cell_6 rfl (lv_at hl 0 rfl) ?_
    refine lv_iload_n hx hb d_Law_cell_7 rfl (lv_at hl 1 rfl) ?_
    refine va_sld hx hb hX hbl hbA hS (hin c_1) d_Law_cell_8 ?_
    refine lv_goto (tgt := 13) hx hb d_Law_cell_9 (by decide) ?_
    exact W.iret hx hb hr (fun t ht hW => ⟨⟨_, (), rfl, (if_neg c_1).symm, AftW_mk hK hP hD ht hW⟩, hS.F ht⟩) hS.2.2 d_Law_cell_13
theorem law_pure {L : Nat} {xs : Nat → Int32} (hL : L ≤ 2050) : ∃ (N : Nat) (om : (Nat → Int32) × (Nat → Int32)) (ok : Int32 × Int32), d_Map_forgetAll N (fun _ => 0) (fun _ => 0) = some om ∧ d_Mod_init (d_cell L xs 0) (d_cell L xs 1) = some ok ∧ d_law N L xs (if (0 : Int32) < (if (d_cell L xs 0) < (2 : Int32) then (d_cell L xs 0) else (2 : Int32)) then (if (d_cell L xs 0) < (2 : Int32) then (d_cell L xs 0) else (2 : Int32)) else (0 : Int32)) (if (1 : Int32) < (if (d_cell L xs 1) < (65536 : Int32) then (d_cell L xs 1) else (65536 : Int32)) then (if (d_cell L xs 1) < (65536 : Int32) then (d_cell L xs 1) else (65536 : Int32)) else (1 : Int32)) ok.1 ok.2 600 2 0 0 0 0 0 0 0 (fun _ => 0) 0 0 (fun _ => 0) (fun _ => 0) (fun _ => 0) (fun _ => 0) (fun _ => 0) om.1 om.2 0 0 0 0 0 0 0 0 0 0 0 0 (fun _ => 0) (fun _ => 0) (fun _ => 0) (fun _ => 0) (fun _ => 0) (fun _ => 0) (fun _ => 0) (fun _ => 0) (fun _ => 0) (fun _ => 0) (fun _ => 0) (fun _ => 0) (fun _ => 0) (fun _ => 0) (fun _ _ => 0) (fun _ _ => 0) = some 1 := law_pure0 hL _ _
theorem cell_in0 {L : Nat} (hL : L ≤ 2050) : ¬ Int32.ofNat L ≤ (0 : Int32) → vp_in 0 L := fun h => by
  have h1 : 0 < L := Nat.pos_of_ne_zero fun e => h (by subst e; decide)
  exact vp_in_nI (n := 0) h1 (by omega)
theorem cell_in1 {L : Nat} (hL : L ≤ 2050) : ¬ Int32.ofNat L ≤ (1 : Int32) → vp_in 1 L := fun h => by
  have h1 : 1 < L := by
    rcases Nat.lt_or_ge 1 L with q | q
    · exact q
    · exact absurd (nI_le (a := L) (b := 1) q (by decide)) h
  exact vp_in_nI (n := 1) h1 (by omega)
set_option maxHeartbeats 4000000 in
set_option maxRecDepth 100000 in
theorem whole_start {p : Program} {e : Env} {s : State} {m : MethodId} {below : List Frame} {meth : Method} {c : Code} (l : Launch) (hlt : l.stackTraces = false) {b L : Nat} {xs : Nat → Int32} (hL : L ≤ 2050) (C0 : lw_At p s m meth c b L xs) : W p l e room_1 s m #[Value.ref b] below meth c s.heap [] 0 0 (lw_Z below #[Value.ref b] s) (entryFrame m ([Value.ref b] : List Value).toArray 7) := by
  obtain ⟨N, om, ok, hom, hok, hpure⟩ := law_pure (xs := xs) hL
  obtain ⟨tt, hG⟩ := law_GG C0
  obtain ⟨hx, hb, hr, hml, hown, hts, hX, hbl, hlocks, hgv⟩ := id C0
  have hB : ∀ w ∈ BIG, w.before _ s = true := fun w h9 => hts w (List.mem_filter.mp h9).1
  obtain ⟨c0, iS0, hKn0⟩ := u_known (C := R_MR) (T := T_MR) (N := 13) (n := 13) hB in_MR (hB _ wd_448)
  obtain ⟨c1, iS1, hKn1⟩ := u_known (C := R_Dec) (T := T_Dec) (N := 5) (n := 5) hB in_Dec (hB _ wd_203)
  obtain ⟨c2, iS2, hKn2⟩ := u_known (C := R_Boxes) (T := T_Boxes) (N := 4) (n := 4) hB in_Boxes (hB _ wd_197)
  obtain ⟨c3, iS3, hKn3⟩ := u_known (C := R_Map) (T := T_Map) (N := 2) (n := 2) hB in_Map (hB _ wd_207)
  obtain ⟨c4, iS4, hKn4⟩ := u_known (C := R_Mod) (T := T_Mod) (N := 27) (n := 27) hB in_Mod (hB _ wd_449)
  obtain ⟨dC, dI, hKc⟩ : ∃ (dC : Nat → ClassId) (dI : Nat → Nat → Nat), ∀ (k : Nat) (q : vw_C), vwCl[k]? = some q → u_Kn s q.1 q.2.1 q.2.2 (dC k) (dI k) := by
    refine ⟨fun k => if k = 0 then c0 else if k = 1 then c1 else if k = 2 then c2 else if k = 3 then c3 else c4, fun k => if k = 0 then iS0 else if k = 1 then iS1 else if k = 2 then iS2 else if k = 3 then iS3 else iS4, ?_⟩
    intro k q hq
    match k, hq with
    | 0, hq => cases hq; exact hKn0
    | 1, hq => cases hq; exact hKn1
    | 2, hq => cases hq; exact hKn2
    | 3, hq => cases hq; exact hKn3
    | 4, hq => cases hq; exact hKn4
    | k + 5, hq => simp [vwCl] at hq
  have hK : va_K (dC, dI) vwCl [] s := ⟨hKc, fun k q h => by simp at h⟩
  have hP : va_P (dC, dI) vwCl [] s.heap := fun k q h => by simp at h
  have hD : va_D (fun q : Nat => s.heap.size ≤ q) [] := ⟨fun i j p q h => by simp at h, fun k q h => by simp at h⟩
  have hin0 : ¬ Int32.ofNat L ≤ (0 : Int32) → vp_in 0 L := cell_in0 hL
  have hin1 : ¬ Int32.ofNat L ≤ (1 : Int32) → vp_in 1 L := cell_in1 hL
  generalize hAe : (fun q : Nat => s.heap.size ≤ q) = A at hG hD
  have hA : ∀ q : Nat, s.heap.size ≤ q → A q := fun q h => by rw [← hAe]; exact h
  have hbA : ¬ A b := by rw [← hAe]; exact Nat.not_le.mpr hbl
  have hS : va_S A s.heap s.heap [] := va_S.rf
  have hl := lv_entry ([.ref b]) (n := 7) (Nat.le_of_ble_eq_true rfl)
  rw [lg_entry_eq]
  generalize (lg_sl ([.ref b]) ++ List.replicate (7 - (lg_sl ([.ref b])).length) Slot.unset).toArray = ls at hl ⊢
  have hl : lv_has ls 7 [(0, .ref b)] := hl
  refine va_new (ci := 0) (fs := [.int 0, .int 0, .null, .null, .null, .null, .int 0, .int 0, .int 0, .int 0, .int 0, .int 0, .int 0]) (C := R_MR) (T := T_MR) (N := 13) hx hb hB in_MR ty_MR tyok_MR hown (hB _ wd_450) (hB _ wd_448) (hB _ wd_105) hK hP hD hS hA rfl (fun j hj => by rcases (show j = 0 ∨ j = 1 ∨ j = 2 ∨ j = 3 ∨ j = 4 ∨ j = 5 ∨ j = 6 ∨ j = 7 ∨ j = 8 ∨ j = 9 ∨ j = 10 ∨ j = 11 ∨ j = 12 by omega) with rfl | rfl | rfl | rfl | rfl | rfl | rfl | rfl | rfl | rfl | rfl | rfl | rfl <;> rfl) (Nat.le_of_ble_eq_true rfl) (Nat.le_of_ble_eq_true rfl) d_Law_law_0 (fun q0 H hP hD hS => ?_)
  have hP : va_P (dC, dI) vwCl [(q0, .inr (0, [.int 0, .int 0, .null, .null, .null, .null, .int 0, .int 0, .int 0, .int 0, .int 0, .int 0, .int 0]))] H := hP
  have hD : va_D A [(q0, .inr (0, [.int 0, .int 0, .null, .null, .null, .null, .int 0, .int 0, .int 0, .int 0, .int 0, .int 0, .int 0]))] := hD
  refine W.widen (k := 1) (n := 13) (by decide) (by decide) ?_
  refine lv_dup hx hb d_Law_law_3 rfl ?_
  refine lv_aload_n hx hb d_Law_law_4 rfl (lv_at hl 0 rfl) ?_
  refine lv_iconst (v := 0) hx hb d_Law_law_5 (by decide) ?_
  have hKc := hK.sub (tys' := []) [] rfl
  have hPc : va_P (dC, dI) vwCl ([] : va_W) H := fun k q h => by simp at h
  have hDc : va_D A ([] : va_W) := ⟨fun i j p q h => by simp at h, fun k q h => by simp at h⟩
  have hFc : ∀ q, va_A ([] : va_W) H.size q → A q := fun q h => by
    rcases h with ⟨k9, e9, hk9⟩ | h
    · simp at hk9
    · exact hA q (Nat.le_trans hS.1 h)
  have hXc : va_X b L xs s H := hX.kept (hS.2.1 b hbl hbA)
  refine va_calli (va_runS (As := [.ref b, .int 0]) (rest := [.ref q0, .ref q0]) ⟨hx, hb, hml, hown, hB⟩ (c_Law_cell l dC dI tt b L xs H.size 0 hin0) (va_cwS 2 hB (gS wd_451 wd_452 wd_365 wd_453) rfl rfl rfl (by decide +kernel) ⟨Nat.le_of_ble_eq_true rfl, Nat.le_of_ble_eq_true rfl⟩) ⟨PreX_blind, fun U hU hW => ⟨rfl, (PreW_mk (av := []) hKc hPc hDc hG hS hFc U hU hW).2, by rw [hU]; exact va_X.moved hW.alike hXc, Nat.lt_of_lt_of_le hbl hS.1⟩⟩ rfl rfl hl.1 rfl (lv_room (Nat.le_of_ble_eq_true rfl)) d_Law_law_6 ⟨(Nat.le_of_ble_eq_true rfl), (Nat.le_of_ble_eq_true rfl)⟩) hS (fun q _ h => hFc q h) hFc (fun r_9 u_9 t H1 locs ht hvm hw hB9 hz1 hk1 hS => ?_)
  have hw := hw.symm
  subst hw
  have hP := hP.kept (H1 := H1) (fun k q h => hk1 q.1 ((hP k q h).lt) (fun h9 => by rcases h9 with ⟨k9, e9, hk9⟩ | h9; (simp at hk9); exact absurd ((hP k q h).lt) (Nat.not_lt.mpr h9)))
  generalize H1 = H at hP hS ⊢
  have hP : va_P (dC, dI) vwCl [(q0, .inr (0, [.int 0, .int 0, .null, .null, .null, .null, .int 0, .int 0, .int 0, .int 0, .int 0, .int 0, .int 0]))] H := hP
  refine lv_aload_n hx hb d_Law_law_9 rfl (lv_at hl 0 rfl) ?_
  refine lv_iconst (v := 1) hx hb d_Law_law_10 (by decide) ?_
  have hKc := hK.sub (tys' := []) [] rfl
  have hPc : va_P (dC, dI) vwCl ([] : va_W) H := fun k q h => by simp at h
  have hDc : va_D A ([] : va_W) := ⟨fun i j p q h => by simp at h, fun k q h => by simp at h⟩
  have hFc : ∀ q, va_A ([] : va_W) H.size q → A q := fun q h => by
    rcases h with ⟨k9, e9, hk9⟩ | h
    · simp at hk9
    · exact hA q (Nat.le_trans hS.1 h)
  have hXc : va_X b L xs s H := hX.kept (hS.2.1 b hbl hbA)
  refine va_calli (va_runS (As := [.ref b, .int 1]) (rest := [.int (d_cell L xs 0), .ref q0, .ref q0]) ⟨hx, hb, hml, hown, hB⟩ (c_Law_cell l dC dI tt b L xs H.size 1 hin1) (va_cwS 2 hB (gS wd_451 wd_452 wd_365 wd_453) rfl rfl rfl (by decide +kernel) ⟨Nat.le_of_ble_eq_true rfl, Nat.le_of_ble_eq_true rfl⟩) ⟨PreX_blind, fun U hU hW => ⟨rfl, (PreW_mk (av := []) hKc hPc hDc hG hS hFc U hU hW).2, by rw [hU]; exact va_X.moved hW.alike hXc, Nat.lt_of_lt_of_le hbl hS.1⟩⟩ rfl rfl hl.1 rfl (lv_room (Nat.le_of_ble_eq_true rfl)) d_Law_law_11 ⟨(Nat.le_of_ble_eq_true rfl), (Nat.le_of_ble_eq_true rfl)⟩) hS (fun q _ h => hFc q h) hFc (fun r_9 u_9 t H1 locs ht hvm hw hB9 hz1 hk1 hS => ?_)
  have hw := hw.symm
  subst hw
  have hP := hP.kept (H1 := H1) (fun k q h => hk1 q.1 ((hP k q h).lt) (fun h9 => by rcases h9 with ⟨k9, e9, hk9⟩ | h9; (simp at hk9); exact absurd ((hP k q h).lt) (Nat.not_lt.mpr h9)))
  generalize H1 = H at hP hS ⊢
  have hP : va_P (dC, dI) vwCl [(q0, .inr (0, [.int 0, .int 0, .null, .null, .null, .null, .int 0, .int 0, .int 0, .int 0, .int 0, .int 0, .int 0]))] H := hP
  refine W.widen (k := 1) (n := 13) (by decide) (by decide) ?_
  have hKc := hK.sub (tys' := []) [] rfl
  have hPc := hP.sub (ws' := [(q0, .inr (0, [.int 0, .int 0, .null, .null, .null, .null, .int 0, .int 0, .int 0, .int 0, .int 0, .int 0, .int 0]))]) [0] rfl
  have hDc := hD.sub (ws' := [(q0, .inr (0, [.int 0, .int 0, .null, .null, .null, .null, .int 0, .int 0, .int 0, .int 0, .int 0, .int 0, .int 0]))]) [0] (by decide) rfl
  have hFc := va_free (wc := [(q0, .inr (0, [.int 0, .int 0, .null, .null, .null, .null, .int 0, .int 0, .int 0, .int 0, .int 0, .int 0, .int 0]))]) hD hS hA [0] rfl
  refine va_callv (va_runI (As := [.int (d_cell L xs 0), .int (d_cell L xs 1)]) (rest := [.ref q0]) ⟨hx, hb, hml, hown, hB⟩ (c_MR_init l dC dI tt q0 H.size N (d_cell L xs 0) (d_cell L xs 1) om hom) (cwI 2 hB (gW wd_454) rfl rfl rfl (hB _ wd_105) (hB _ wd_455) (hB _ wd_456) rfl (by decide +kernel) ⟨Nat.le_of_ble_eq_true rfl, Nat.le_of_ble_eq_true rfl⟩) ⟨PreW_blind, PreW_mk hKc hPc hDc hG hS hFc⟩ rfl rfl hl.1 rfl (lv_room (Nat.le_of_ble_eq_true rfl)) d_Law_law_14 ⟨(Nat.le_of_ble_eq_true rfl), (Nat.le_of_ble_eq_true rfl)⟩) hS (fun q _ h => hFc q h) hFc (fun u t H1 locs ht hvm hw hB9 hz1 hk1 hS => ?_)
  obtain ⟨ad1, cs1, r1, rc1, r2, rc2⟩ := u
  obtain ⟨hP1, hK1, hD1⟩ := hB9
  rw [ht] at hP1
  have hK1 := va_K.moved hvm.symm hK1
  dsimp only at hw hP1 hK1 hD1
  subst hw
  obtain ⟨hP, hD⟩ := va_join (wr := []) (w1 := (x_MR ad1 cs1 r1 r2 (if (0 : Int32) < (if (d_cell L xs 0) < (2 : Int32) then (d_cell L xs 0) else (2 : Int32)) then (if (d_cell L xs 0) < (2 : Int32) then (d_cell L xs 0) else (2 : Int32)) else (0 : Int32)) (if (1 : Int32) < (if (d_cell L xs 1) < (65536 : Int32) then (d_cell L xs 1) else (65536 : Int32)) then (if (d_cell L xs 1) < (65536 : Int32) then (d_cell L xs 1) else (65536 : Int32)) else (1 : Int32)) 0 0 0 0 0 0 0 (fun _ => 0) 0 0 (fun _ => 0) (fun _ => 0) (fun _ => 0) (fun _ => 0) (fun _ => 0) om.1 om.2) ++ (gw 8 r1 rc1 5 (fun _ _ => 0) ++ gw 16 r2 rc2 6 (fun _ _ => 0))) hP hD [0] [] rfl rfl (by decide) (by decide) hk1 hFc hP1 hD1
  have hK := hK.app hK1
  generalize H1 = H at hP hS ⊢
  have hP : va_P (dC, dI) vwCl ((x_MR ad1 cs1 r1 r2 (if (0 : Int32) < (if (d_cell L xs 0) < (2 : Int32) then (d_cell L xs 0) else (2 : Int32)) then (if (d_cell L xs 0) < (2 : Int32) then (d_cell L xs 0) else (2 : Int32)) else (0 : Int32)) (if (1 : Int32) < (if (d_cell L xs 1) < (65536 : Int32) then (d_cell L xs 1) else (65536 : Int32)) then (if (d_cell L xs 1) < (65536 : Int32) then (d_cell L xs 1) else (65536 : Int32)) else (1 : Int32)) 0 0 0 0 0 0 0 (fun _ => 0) 0 0 (fun _ => 0) (fun _ => 0) (fun _ => 0) (fun _ => 0) (fun _ => 0) om.1 om.2) ++ (gw 8 r1 rc1 5 (fun _ _ => 0) ++ gw 16 r2 rc2 6 (fun _ _ => 0))) H := hP
  have hD : va_D A ((x_MR ad1 cs1 r1 r2 (if (0 : Int32) < (if (d_cell L xs 0) < (2 : Int32) then (d_cell L xs 0) else (2 : Int32)) then (if (d_cell L xs 0) < (2 : Int32) then (d_cell L xs 0) else (2 : Int32)) else (0 : Int32)) (if (1 : Int32) < (if (d_cell L xs 1) < (65536 : Int32) then (d_cell L xs 1) else (65536 : Int32)) then (if (d_cell L xs 1) < (65536 : Int32) then (d_cell L xs 1) else (65536 : Int32)) else (1 : Int32)) 0 0 0 0 0 0 0 (fun _ => 0) 0 0 (fun _ => 0) (fun _ => 0) (fun _ => 0) (fun _ => 0) (fun _ => 0) om.1 om.2) ++ (gw 8 r1 rc1 5 (fun _ _ => 0) ++ gw 16 r2 rc2 6 (fun _ _ => 0))) := hD
  refine W.widen (k := 60) (n := 3000) (by decide) (by decide) ?_
  refine lv_astore_n (lv' := [(1, .ref (ad1 0)), (0, .ref b)]) hx hb d_Law_law_17 rfl hl (by decide) rfl (fun ls hl => ?_)
  refine va_new (ci := 4) (fs := [.int 0, .int 0, .int 0, .null, .int 0, .int 0, .int 0, .null, .null, .null, .null, .null, .null, .int 0, .int 0, .int 0, .int 0, .null, .null, .int 0, .int 0, .int 0, .null, .int 0, .null, .null, .null]) (C := R_Mod) (T := T_Mod) (N := 27) hx hb hB in_Mod ty_Mod tyok_Mod hown (hB _ wd_457) (hB _ wd_449) (hB _ wd_226) hK hP hD hS hA rfl (fun j hj => by rcases (show j = 0 ∨ j = 1 ∨ j = 2 ∨ j = 3 ∨ j = 4 ∨ j = 5 ∨ j = 6 ∨ j = 7 ∨ j = 8 ∨ j = 9 ∨ j = 10 ∨ j = 11 ∨ j = 12 ∨ j = 13 ∨ j = 14 ∨ j = 15 ∨ j = 16 ∨ j = 17 ∨ j = 18 ∨ j = 19 ∨ j = 20 ∨ j = 21 ∨ j = 22 ∨ j = 23 ∨ j = 24 ∨ j = 25 ∨ j = 26 by omega) with rfl | rfl | rfl | rfl | rfl | rfl | rfl | rfl | rfl | rfl | rfl | rfl | rfl | rfl | rfl | rfl | rfl | rfl | rfl | rfl | rfl | rfl | rfl | rfl | rfl | rfl | rfl <;> rfl) (Nat.le_of_ble_eq_true rfl) (Nat.le_of_ble_eq_true rfl) d_Law_law_18 (fun q5 H hP hD hS => ?_)
  have hP := hP.swap
  have hD := hD.swap
  have hP : va_P (dC, dI) vwCl (((x_MR ad1 cs1 r1 r2 (if (0 : Int32) < (if (d_cell L xs 0) < (2 : Int32) then (d_cell L xs 0) else (2 : Int32)) then (if (d_cell L xs 0) < (2 : Int32) then (d_cell L xs 0) else (2 : Int32)) else (0 : Int32)) (if (1 : Int32) < (if (d_cell L xs 1) < (65536 : Int32) then (d_cell L xs 1) else (65536 : Int32)) then (if (d_cell L xs 1) < (65536 : Int32) then (d_cell L xs 1) else (65536 : Int32)) else (1 : Int32)) 0 0 0 0 0 0 0 (fun _ => 0) 0 0 (fun _ => 0) (fun _ => 0) (fun _ => 0) (fun _ => 0) (fun _ => 0) om.1 om.2) ++ [(q5, .inr (4, [.int 0, .int 0, .int 0, .null, .int 0, .int 0, .int 0, .null, .null, .null, .null, .null, .null, .int 0, .int 0, .int 0, .int 0, .null, .null, .int 0, .int 0, .int 0, .null, .int 0, .null, .null, .null]))]) ++ (gw 8 r1 rc1 5 (fun _ _ => 0) ++ gw 16 r2 rc2 6 (fun _ _ => 0))) H := hP
  have hD : va_D A (((x_MR ad1 cs1 r1 r2 (if (0 : Int32) < (if (d_cell L xs 0) < (2 : Int32) then (d_cell L xs 0) else (2 : Int32)) then (if (d_cell L xs 0) < (2 : Int32) then (d_cell L xs 0) else (2 : Int32)) else (0 : Int32)) (if (1 : Int32) < (if (d_cell L xs 1) < (65536 : Int32) then (d_cell L xs 1) else (65536 : Int32)) then (if (d_cell L xs 1) < (65536 : Int32) then (d_cell L xs 1) else (65536 : Int32)) else (1 : Int32)) 0 0 0 0 0 0 0 (fun _ => 0) 0 0 (fun _ => 0) (fun _ => 0) (fun _ => 0) (fun _ => 0) (fun _ => 0) om.1 om.2) ++ [(q5, .inr (4, [.int 0, .int 0, .int 0, .null, .int 0, .int 0, .int 0, .null, .null, .null, .null, .null, .null, .int 0, .int 0, .int 0, .int 0, .null, .null, .int 0, .int 0, .int 0, .null, .int 0, .null, .null, .null]))]) ++ (gw 8 r1 rc1 5 (fun _ _ => 0) ++ gw 16 r2 rc2 6 (fun _ _ => 0))) := hD
  refine W.widen (k := 61) (n := 3100) (by decide) (by decide) ?_
  refine lv_dup hx hb d_Law_law_21 rfl ?_
  refine lv_aload_n hx hb d_Law_law_22 rfl (lv_at hl 1 rfl) ?_
  refine lv_iconst (v := 0) hx hb d_Law_law_23 (by decide) ?_
  have hKc := hK.sub (tys' := []) [] rfl
  have hPc : va_P (dC, dI) vwCl ([] : va_W) H := fun k q h => by simp at h
  have hDc : va_D A ([] : va_W) := ⟨fun i j p q h => by simp at h, fun k q h => by simp at h⟩
  have hFc : ∀ q, va_A ([] : va_W) H.size q → A q := fun q h => by
    rcases h with ⟨k9, e9, hk9⟩ | h
    · simp at hk9
    · exact hA q (Nat.le_trans hS.1 h)
  have hXc : va_X b L xs s H := hX.kept (hS.2.1 b hbl hbA)
  refine va_calli (va_runS (As := [.ref b, .int 0]) (rest := [.ref q5, .ref q5]) ⟨hx, hb, hml, hown, hB⟩ (c_Law_cell l dC dI tt b L xs H.size 0 hin0) (va_cwS 2 hB (gS wd_451 wd_452 wd_365 wd_453) rfl rfl rfl (by decide +kernel) ⟨Nat.le_of_ble_eq_true rfl, Nat.le_of_ble_eq_true rfl⟩) ⟨PreX_blind, fun U hU hW => ⟨rfl, (PreW_mk (av := []) hKc hPc hDc hG hS hFc U hU hW).2, by rw [hU]; exact va_X.moved hW.alike hXc, Nat.lt_of_lt_of_le hbl hS.1⟩⟩ rfl rfl hl.1 rfl (lv_room (Nat.le_of_ble_eq_true rfl)) d_Law_law_24 ⟨(Nat.le_of_ble_eq_true rfl), (Nat.le_of_ble_eq_true rfl)⟩) hS (fun q _ h => hFc q h) hFc (fun r_9 u_9 t H1 locs ht hvm hw hB9 hz1 hk1 hS => ?_)
  have hw := hw.symm
  subst hw
  have hP := hP.kept (H1 := H1) (fun k q h => hk1 q.1 ((hP k q h).lt) (fun h9 => by rcases h9 with ⟨k9, e9, hk9⟩ | h9; (simp at hk9); exact absurd ((hP k q h).lt) (Nat.not_lt.mpr h9)))
  generalize H1 = H at hP hS ⊢
  have hP : va_P (dC, dI) vwCl (((x_MR ad1 cs1 r1 r2 (if (0 : Int32) < (if (d_cell L xs 0) < (2 : Int32) then (d_cell L xs 0) else (2 : Int32)) then (if (d_cell L xs 0) < (2 : Int32) then (d_cell L xs 0) else (2 : Int32)) else (0 : Int32)) (if (1 : Int32) < (if (d_cell L xs 1) < (65536 : Int32) then (d_cell L xs 1) else (65536 : Int32)) then (if (d_cell L xs 1) < (65536 : Int32) then (d_cell L xs 1) else (65536 : Int32)) else (1 : Int32)) 0 0 0 0 0 0 0 (fun _ => 0) 0 0 (fun _ => 0) (fun _ => 0) (fun _ => 0) (fun _ => 0) (fun _ => 0) om.1 om.2) ++ [(q5, .inr (4, [.int 0, .int 0, .int 0, .null, .int 0, .int 0, .int 0, .null, .null, .null, .null, .null, .null, .int 0, .int 0, .int 0, .int 0, .null, .null, .int 0, .int 0, .int 0, .null, .int 0, .null, .null, .null]))]) ++ (gw 8 r1 rc1 5 (fun _ _ => 0) ++ gw 16 r2 rc2 6 (fun _ _ => 0))) H := hP
  refine lv_aload_n hx hb d_Law_law_27 rfl (lv_at hl 1 rfl) ?_
  refine lv_iconst (v := 1) hx hb d_Law_law_28 (by decide) ?_
  have hKc := hK.sub (tys' := []) [] rfl
  have hPc : va_P (dC, dI) vwCl ([] : va_W) H := fun k q h => by simp at h
  have hDc : va_D A ([] : va_W) := ⟨fun i j p q h => by simp at h, fun k q h => by simp at h⟩
  have hFc : ∀ q, va_A ([] : va_W) H.size q → A q := fun q h => by
    rcases h with ⟨k9, e9, hk9⟩ | h
    · simp at hk9
    · exact hA q (Nat.le_trans hS.1 h)
  have hXc : va_X b L xs s H := hX.kept (hS.2.1 b hbl hbA)
  refine va_calli (va_runS (As := [.ref b, .int 1]) (rest := [.int (d_cell L xs 0), .ref q5, .ref q5]) ⟨hx, hb, hml, hown, hB⟩ (c_Law_cell l dC dI tt b L xs H.size 1 hin1) (va_cwS 2 hB (gS wd_451 wd_452 wd_365 wd_453) rfl rfl rfl (by decide +kernel) ⟨Nat.le_of_ble_eq_true rfl, Nat.le_of_ble_eq_true rfl⟩) ⟨PreX_blind, fun U hU hW => ⟨rfl, (PreW_mk (av := []) hKc hPc hDc hG hS hFc U hU hW).2, by rw [hU]; exact va_X.moved hW.alike hXc, Nat.lt_of_lt_of_le hbl hS.1⟩⟩ rfl rfl hl.1 rfl (lv_room (Nat.le_of_ble_eq_true rfl)) d_Law_law_29 ⟨(Nat.le_of_ble_eq_true rfl), (Nat.le_of_ble_eq_true rfl)⟩) hS (fun q _ h => hFc q h) hFc (fun r_9 u_9 t H1 locs ht hvm hw hB9 hz1 hk1 hS => ?_)
  have hw := hw.symm
  subst hw
  have hP := hP.kept (H1 := H1) (fun k q h => hk1 q.1 ((hP k q h).lt) (fun h9 => by rcases h9 with ⟨k9, e9, hk9⟩ | h9; (simp at hk9); exact absurd ((hP k q h).lt) (Nat.not_lt.mpr h9)))
  generalize H1 = H at hP hS ⊢
  have hP : va_P (dC, dI) vwCl (((x_MR ad1 cs1 r1 r2 (if (0 : Int32) < (if (d_cell L xs 0) < (2 : Int32) then (d_cell L xs 0) else (2 : Int32)) then (if (d_cell L xs 0) < (2 : Int32) then (d_cell L xs 0) else (2 : Int32)) else (0 : Int32)) (if (1 : Int32) < (if (d_cell L xs 1) < (65536 : Int32) then (d_cell L xs 1) else (65536 : Int32)) then (if (d_cell L xs 1) < (65536 : Int32) then (d_cell L xs 1) else (65536 : Int32)) else (1 : Int32)) 0 0 0 0 0 0 0 (fun _ => 0) 0 0 (fun _ => 0) (fun _ => 0) (fun _ => 0) (fun _ => 0) (fun _ => 0) om.1 om.2) ++ [(q5, .inr (4, [.int 0, .int 0, .int 0, .null, .int 0, .int 0, .int 0, .null, .null, .null, .null, .null, .null, .int 0, .int 0, .int 0, .int 0, .null, .null, .int 0, .int 0, .int 0, .null, .int 0, .null, .null, .null]))]) ++ (gw 8 r1 rc1 5 (fun _ _ => 0) ++ gw 16 r2 rc2 6 (fun _ _ => 0))) H := hP
  refine W.widen (k := 61) (n := 3100) (by decide) (by decide) ?_
  have hKc := hK.sub (tys' := []) [] rfl
  have hPc := pl_P (cx := [(q5, .inr (4, [.int 0, .int 0, .int 0, .null, .int 0, .int 0, .int 0, .null, .null, .null, .null, .null, .null, .int 0, .int 0, .int 0, .int 0, .null, .null, .int 0, .int 0, .int 0, .null, .int 0, .null, .null, .null]))]) hP [14] rfl
  have hDc := pl_D (cx := [(q5, .inr (4, [.int 0, .int 0, .int 0, .null, .int 0, .int 0, .int 0, .null, .null, .null, .null, .null, .null, .int 0, .int 0, .int 0, .int 0, .null, .null, .int 0, .int 0, .int 0, .null, .int 0, .null, .null, .null]))]) hD [14] (by decide) rfl
  have hFc := pl_F (cx := [(q5, .inr (4, [.int 0, .int 0, .int 0, .null, .int 0, .int 0, .int 0, .null, .null, .null, .null, .null, .null, .int 0, .int 0, .int 0, .int 0, .null, .null, .int 0, .int 0, .int 0, .null, .int 0, .null, .null, .null]))]) hD hS hA [14] rfl
  refine va_callv (va_runI (As := [.int (d_cell L xs 0), .int (d_cell L xs 1)]) (rest := [.ref q5]) ⟨hx, hb, hml, hown, hB⟩ (c_Mod_init l dC dI tt q5 H.size N (d_cell L xs 0) (d_cell L xs 1) ok hok) (cwI 2 hB (gW wd_458) rfl rfl rfl (hB _ wd_226) (hB _ wd_459) (hB _ wd_460) rfl (by decide +kernel) ⟨Nat.le_of_ble_eq_true rfl, Nat.le_of_ble_eq_true rfl⟩) ⟨PreW_blind, PreW_mk hKc hPc hDc hG hS hFc⟩ rfl rfl hl.1 rfl (lv_room (Nat.le_of_ble_eq_true rfl)) d_Law_law_32 ⟨(Nat.le_of_ble_eq_true rfl), (Nat.le_of_ble_eq_true rfl)⟩) hS (fun q _ h => hFc q h) hFc (fun u t H1 locs ht hvm hw hB9 hz1 hk1 hS => ?_)
  obtain ⟨ad2, cs2⟩ := u
  obtain ⟨hP1, hK1, hD1⟩ := hB9
  rw [ht] at hP1
  have hK1 := va_K.moved hvm.symm hK1
  dsimp only at hw hP1 hK1 hD1
  subst hw
  obtain ⟨hP, hD⟩ := va_joinQ (wr := x_MR ad1 cs1 r1 r2 (if (0 : Int32) < (if (d_cell L xs 0) < (2 : Int32) then (d_cell L xs 0) else (2 : Int32)) then (if (d_cell L xs 0) < (2 : Int32) then (d_cell L xs 0) else (2 : Int32)) else (0 : Int32)) (if (1 : Int32) < (if (d_cell L xs 1) < (65536 : Int32) then (d_cell L xs 1) else (65536 : Int32)) then (if (d_cell L xs 1) < (65536 : Int32) then (d_cell L xs 1) else (65536 : Int32)) else (1 : Int32)) 0 0 0 0 0 0 0 (fun _ => 0) 0 0 (fun _ => 0) (fun _ => 0) (fun _ => 0) (fun _ => 0) (fun _ => 0) om.1 om.2) (w1 := x_Mod ad2 cs2 0 ok.1 ok.2 0 0 0 0 0 0 0 0 0 0 0 (fun _ => 0) (fun _ => 0) (fun _ => 0) (fun _ => 0) (fun _ => 0) (fun _ => 0) (fun _ => 0) (fun _ => 0) (fun _ => 0) (fun _ => 0) (fun _ => 0) (fun _ => 0) (fun _ => 0)) hP hD [14] [0, 1, 2, 3, 4, 5, 6, 7, 8, 9, 10, 11, 12, 13] rfl rfl (by decide) (by decide) hk1 hFc hP1 hD1
  have hK := hK.app hK1
  generalize H1 = H at hP hS ⊢
  have hP : va_P (dC, dI) vwCl (((x_MR ad1 cs1 r1 r2 (if (0 : Int32) < (if (d_cell L xs 0) < (2 : Int32) then (d_cell L xs 0) else (2 : Int32)) then (if (d_cell L xs 0) < (2 : Int32) then (d_cell L xs 0) else (2 : Int32)) else (0 : Int32)) (if (1 : Int32) < (if (d_cell L xs 1) < (65536 : Int32) then (d_cell L xs 1) else (65536 : Int32)) then (if (d_cell L xs 1) < (65536 : Int32) then (d_cell L xs 1) else (65536 : Int32)) else (1 : Int32)) 0 0 0 0 0 0 0 (fun _ => 0) 0 0 (fun _ => 0) (fun _ => 0) (fun _ => 0) (fun _ => 0) (fun _ => 0) om.1 om.2) ++ (x_Mod ad2 cs2 0 ok.1 ok.2 0 0 0 0 0 0 0 0 0 0 0 (fun _ => 0) (fun _ => 0) (fun _ => 0) (fun _ => 0) (fun _ => 0) (fun _ => 0) (fun _ => 0) (fun _ => 0) (fun _ => 0) (fun _ => 0) (fun _ => 0) (fun _ => 0) (fun _ => 0))) ++ (gw 8 r1 rc1 5 (fun _ _ => 0) ++ gw 16 r2 rc2 6 (fun _ _ => 0))) H := hP
  have hD : va_D A (((x_MR ad1 cs1 r1 r2 (if (0 : Int32) < (if (d_cell L xs 0) < (2 : Int32) then (d_cell L xs 0) else (2 : Int32)) then (if (d_cell L xs 0) < (2 : Int32) then (d_cell L xs 0) else (2 : Int32)) else (0 : Int32)) (if (1 : Int32) < (if (d_cell L xs 1) < (65536 : Int32) then (d_cell L xs 1) else (65536 : Int32)) then (if (d_cell L xs 1) < (65536 : Int32) then (d_cell L xs 1) else (65536 : Int32)) else (1 : Int32)) 0 0 0 0 0 0 0 (fun _ => 0) 0 0 (fun _ => 0) (fun _ => 0) (fun _ => 0) (fun _ => 0) (fun _ => 0) om.1 om.2) ++ (x_Mod ad2 cs2 0 ok.1 ok.2 0 0 0 0 0 0 0 0 0 0 0 (fun _ => 0) (fun _ => 0) (fun _ => 0) (fun _ => 0) (fun _ => 0) (fun _ => 0) (fun _ => 0) (fun _ => 0) (fun _ => 0) (fun _ => 0) (fun _ => 0) (fun _ => 0) (fun _ => 0))) ++ (gw 8 r1 rc1 5 (fun _ _ => 0) ++ gw 16 r2 rc2 6 (fun _ _ => 0))) := hD
  refine W.widen (k := 99) (n := 9000) (by decide) (by decide) ?_
  refine lv_astore_n (lv' := [(2, .ref (ad2 0)), (1, .ref (ad1 0)), (0, .ref b)]) hx hb d_Law_law_35 rfl hl (by decide) rfl (fun ls hl => ?_)
  refine lv_iconst (v := 1) hx hb d_Law_law_36 (by decide) ?_
  refine va_newa (atype := .long) (a0 := (1, .inr (.inl (fun _ => 0)))) hx hb (hB _ wd_461) rfl hK hP hD hS hA (fun _ => rfl) (by decide) (by decide) (by decide) (Nat.le_of_ble_eq_true rfl) (Nat.le_of_ble_eq_true rfl) d_Law_law_37 (fun q7 c7 H hK hP hD hS => ?_)
  have hP := hP.swap
  have hD := hD.swap
  have hP : va_P (dC, dI) vwCl ((x_LAW (cat2 14 ad1 (cat2 14 ad2 (lk [q7] 0))) (cat2 14 cs1 (cat2 14 cs2 (lk [c7] 0))) r1 r2 (if (0 : Int32) < (if (d_cell L xs 0) < (2 : Int32) then (d_cell L xs 0) else (2 : Int32)) then (if (d_cell L xs 0) < (2 : Int32) then (d_cell L xs 0) else (2 : Int32)) else (0 : Int32)) (if (1 : Int32) < (if (d_cell L xs 1) < (65536 : Int32) then (d_cell L xs 1) else (65536 : Int32)) then (if (d_cell L xs 1) < (65536 : Int32) then (d_cell L xs 1) else (65536 : Int32)) else (1 : Int32)) 0 0 0 0 0 0 0 (fun _ => 0) 0 0 (fun _ => 0) (fun _ => 0) (fun _ => 0) (fun _ => 0) (fun _ => 0) om.1 om.2 0 ok.1 ok.2 0 0 0 0 0 0 0 0 0 0 0 (fun _ => 0) (fun _ => 0) (fun _ => 0) (fun _ => 0) (fun _ => 0) (fun _ => 0) (fun _ => 0) (fun _ => 0) (fun _ => 0) (fun _ => 0) (fun _ => 0) (fun _ => 0) (fun _ => 0) (fun _ => 0)) ++ (gw 8 r1 rc1 5 (fun _ _ => 0) ++ gw 16 r2 rc2 6 (fun _ _ => 0))) H := hP
  have hD : va_D A ((x_LAW (cat2 14 ad1 (cat2 14 ad2 (lk [q7] 0))) (cat2 14 cs1 (cat2 14 cs2 (lk [c7] 0))) r1 r2 (if (0 : Int32) < (if (d_cell L xs 0) < (2 : Int32) then (d_cell L xs 0) else (2 : Int32)) then (if (d_cell L xs 0) < (2 : Int32) then (d_cell L xs 0) else (2 : Int32)) else (0 : Int32)) (if (1 : Int32) < (if (d_cell L xs 1) < (65536 : Int32) then (d_cell L xs 1) else (65536 : Int32)) then (if (d_cell L xs 1) < (65536 : Int32) then (d_cell L xs 1) else (65536 : Int32)) else (1 : Int32)) 0 0 0 0 0 0 0 (fun _ => 0) 0 0 (fun _ => 0) (fun _ => 0) (fun _ => 0) (fun _ => 0) (fun _ => 0) om.1 om.2 0 ok.1 ok.2 0 0 0 0 0 0 0 0 0 0 0 (fun _ => 0) (fun _ => 0) (fun _ => 0) (fun _ => 0) (fun _ => 0) (fun _ => 0) (fun _ => 0) (fun _ => 0) (fun _ => 0) (fun _ => 0) (fun _ => 0) (fun _ => 0) (fun _ => 0) (fun _ => 0)) ++ (gw 8 r1 rc1 5 (fun _ _ => 0) ++ gw 16 r2 rc2 6 (fun _ _ => 0))) := hD
  have hK := hK.sub (tys' := [(((cat2 14 cs1 (cat2 14 cs2 (lk [c7] 0))) 1), .int), (((cat2 14 cs1 (cat2 14 cs2 (lk [c7] 0))) 2), .array .int), (((cat2 14 cs1 (cat2 14 cs2 (lk [c7] 0))) 4), .int), (((cat2 14 cs1 (cat2 14 cs2 (lk [c7] 0))) 5), .int), (((cat2 14 cs1 (cat2 14 cs2 (lk [c7] 0))) 7), .int), (((cat2 14 cs1 (cat2 14 cs2 (lk [c7] 0))) 8), .int), (((cat2 14 cs1 (cat2 14 cs2 (lk [c7] 0))) 9), .int), (((cat2 14 cs1 (cat2 14 cs2 (lk [c7] 0))) 10), .array .int), (((cat2 14 cs1 (cat2 14 cs2 (lk [c7] 0))) 12), .int), (((cat2 14 cs1 (cat2 14 cs2 (lk [c7] 0))) 13), .int), (((cat2 14 cs1 (cat2 14 cs2 (lk [c7] 0))) 15), .int), (((cat2 14 cs1 (cat2 14 cs2 (lk [c7] 0))) 16), .int), (((cat2 14 cs1 (cat2 14 cs2 (lk [c7] 0))) 17), .int), (((cat2 14 cs1 (cat2 14 cs2 (lk [c7] 0))) 18), .int), (((cat2 14 cs1 (cat2 14 cs2 (lk [c7] 0))) 19), .int), (((cat2 14 cs1 (cat2 14 cs2 (lk [c7] 0))) 20), .boolean), (((cat2 14 cs1 (cat2 14 cs2 (lk [c7] 0))) 21), .int), (((cat2 14 cs1 (cat2 14 cs2 (lk [c7] 0))) 22), .int), (((cat2 14 cs1 (cat2 14 cs2 (lk [c7] 0))) 23), .int), (((cat2 14 cs1 (cat2 14 cs2 (lk [c7] 0))) 24), .int), (((cat2 14 cs1 (cat2 14 cs2 (lk [c7] 0))) 25), .int), (((cat2 14 cs1 (cat2 14 cs2 (lk [c7] 0))) 26), .int), (((cat2 14 cs1 (cat2 14 cs2 (lk [c7] 0))) 27), .int), (((cat2 14 cs1 (cat2 14 cs2 (lk [c7] 0))) 28), .long), (rc1, .int), (rc2, .int)]) [0, 1, 2, 3, 4, 5, 6, 7, 8, 9, 12, 13, 14, 15, 16, 17, 18, 19, 20, 21, 22, 23, 24, 25, 10, 11] rfl
  refine W.widen (k := 100) (n := 10000) (by decide) (by decide) ?_
  refine lv_astore_n (lv' := [(3, .ref q7), (2, .ref (ad2 0)), (1, .ref (ad1 0)), (0, .ref b)]) hx hb d_Law_law_39 rfl hl (by decide) rfl (fun ls hl => ?_)
  refine lv_iconst (v := 2) hx hb d_Law_law_40 (by decide) ?_
  refine lv_istore (lv' := [(4, .int 2), (3, .ref q7), (2, .ref (ad2 0)), (1, .ref (ad1 0)), (0, .ref b)]) hx hb d_Law_law_41 hl (by decide) rfl (fun ls hl => ?_)
  subst hAe
  exact law_loop hlt C0 dC dI tt (cat2 14 ad1 (cat2 14 ad2 (lk [q7] 0))) (cat2 14 cs1 (cat2 14 cs2 (lk [c7] 0))) r1 rc1 r2 rc2 N (if (0 : Int32) < (if (d_cell L xs 0) < (2 : Int32) then (d_cell L xs 0) else (2 : Int32)) then (if (d_cell L xs 0) < (2 : Int32) then (d_cell L xs 0) else (2 : Int32)) else (0 : Int32)) (if (1 : Int32) < (if (d_cell L xs 1) < (65536 : Int32) then (d_cell L xs 1) else (65536 : Int32)) then (if (d_cell L xs 1) < (65536 : Int32) then (d_cell L xs 1) else (65536 : Int32)) else (1 : Int32)) ok.1 ok.2 hK hG 600 100 10000 2 0 0 0 0 0 0 0 (fun _ => 0) 0 0 (fun _ => 0) (fun _ => 0) (fun _ => 0) (fun _ => 0) (fun _ => 0) om.1 om.2 0 0 0 0 0 0 0 0 0 0 0 0 (fun _ => 0) (fun _ => 0) (fun _ => 0) (fun _ => 0) (fun _ => 0) (fun _ => 0) (fun _ => 0) (fun _ => 0) (fun _ => 0) (fun _ => 0) (fun _ => 0) (fun _ => 0) (fun _ => 0) (fun _ => 0) (fun _ _ => 0) (fun _ _ => 0) _ _ ls (by decide) (by decide) (lv_sub hl [4, 3, 2, 1, 0] rfl) hP hD hS hpure
