def d_MR_forgetParts (N : Nat) (partCount : Int32) (hasRun : Int32) : Option (Int32 × Int32) :=
 some ((0 : Int32), (0 : Int32))
abbrev rm_MR_forgetParts : Room := { frames := 0, cells := 0, slots := 0, locals := 0 }
set_option maxHeartbeats 4000000 in
set_option maxRecDepth 100000 in
theorem c_MR_forgetParts (l : Launch) (dC : Nat → ClassId) (dI : Nat → Nat → Nat) (tt : Nat → Nat) (ad : Nat → Nat) (cs : Nat → ClassId) (r1 : Nat → Nat) (rc1 : ClassId) (r2 : Nat → Nat) (rc2 : ClassId) (sz N : Nat) (kind : Int32) (steps : Int32) (byteCount : Int32) (partCount : Int32) (stepsTaken : Int32) (hasRun : Int32) (lackedSteps : Int32) (decodings : Int32) (thrownDecodings : Int32) (bytes : Nat → Int32) (size : Int32) (count : Int32) (data : Nat → Int32) (made : Nat → Int32) (holds : Nat → Int32) (numbers : Nat → Int32) (lengths : Nat → Int32) (values : Nat → Int32) (states : Nat → Int32) (rows : Nat → Nat → Int32) (parts : Nat → Nat → Int32) (out : Int32 × Int32) (h : d_MR_forgetParts N partCount hasRun = some out) :
    Met l y_MR_forgetParts (w_MR_forgetParts) rm_MR_forgetParts (va_Pc [.ref (ad 0)] (PreW (dC, dI) [((cs 1), .int), ((cs 2), .array .int), ((cs 4), .int), ((cs 5), .int), ((cs 7), .int), ((cs 8), .int), ((cs 9), .int), ((cs 10), .array .int), ((cs 12), .int), ((cs 13), .int), (rc1, .int), (rc2, .int)] ((x_MR ad cs r1 r2 kind steps byteCount partCount stepsTaken hasRun lackedSteps decodings thrownDecodings bytes size count data made holds numbers lengths values states) ++ (gw 8 r1 rc1 5 rows ++ gw 16 r2 rc2 6 parts)) sz tt)) (va_Qv (fun (_ : Unit) => True) (fun _ => AftW (dC, dI) [((cs 1), .int), ((cs 2), .array .int), ((cs 4), .int), ((cs 5), .int), ((cs 7), .int), ((cs 8), .int), ((cs 9), .int), ((cs 10), .array .int), ((cs 12), .int), ((cs 13), .int), (rc1, .int), (rc2, .int)] (va_A ((x_MR ad cs r1 r2 kind steps byteCount partCount stepsTaken hasRun lackedSteps decodings thrownDecodings bytes size count data made holds numbers lengths values states) ++ (gw 8 r1 rc1 5 rows ++ gw 16 r2 rc2 6 parts)) sz) ((x_MR ad cs r1 r2 kind steps byteCount out.1 stepsTaken out.2 lackedSteps decodings thrownDecodings bytes size count data made holds numbers lengths values states) ++ (gw 8 r1 rc1 5 rows ++ gw 16 r2 rc2 6 parts))) (va_A ((x_MR ad cs r1 r2 kind steps byteCount partCount stepsTaken hasRun lackedSteps decodings thrownDecodings bytes size count data made holds numbers lengths values states) ++ (gw 8 r1 rc1 5 rows ++ gw 16 r2 rc2 6 parts)) sz)) 0 0 (va_A ((x_MR ad cs r1 r2 kind steps byteCount partCount stepsTaken hasRun lackedSteps decodings thrownDecodings bytes size count data made holds numbers lengths values states) ++ (gw 8 r1 rc1 5 rows ++ gw 16 r2 rc2 6 parts)) sz) := by
  refine Met.ofW (cc := k_MR_forgetParts) (maxL := 1) (ret := none) (by decide) rfl ?_
  intro p e s m args below meth c s₁ B hml hv
  obtain ⟨rfl, hsz, hP, hK, hD0, hG⟩ := hv
  have hx := B.exec
  have hb := B.bytes
  have hr := B.returns
  have hts := atoms_spec (ws := (w_MR_forgetParts)) B.pre
  have hB : ∀ w ∈ BIG, w.before _ s = true := fun w h9 => hts w (List.mem_cons_of_mem _ h9)
  have hown : s.vm.findClass R_MR = some m.cls := findClass_of_methodNamed B.named
  have hlocks := B.notSynchronized
  subst hsz
  have hD := hD0.self (sz := s.heap.size)
  generalize hAe : va_A ((x_MR ad cs r1 r2 kind steps byteCount partCount stepsTaken hasRun lackedSteps decodings thrownDecodings bytes size count data made holds numbers lengths values states) ++ (gw 8 r1 rc1 5 rows ++ gw 16 r2 rc2 6 parts)) s.heap.size = A at hD hG ⊢
  have hA : ∀ q : Nat, s.heap.size ≤ q → A q := fun q h => by rw [← hAe]; exact Or.inr h
  have hS : va_S A s.heap s.heap [] := va_S.rf
  have hl := lv_entry ([.ref (ad 0)]) (n := 1) (Nat.le_of_ble_eq_true rfl)
  rw [lg_entry_eq]
  generalize (lg_sl ([.ref (ad 0)]) ++ List.replicate (1 - (lg_sl ([.ref (ad 0)])).length) Slot.unset).toArray = ls at hl ⊢
  have hl : lv_has ls 1 [(0, .ref (ad 0))] := hl
  unfold d_MR_forgetParts at h
  refine lv_aload_n hx hb d_MR_forgetParts_0 rfl (lv_at hl 0 rfl) ?_
  refine lv_iconst (v := 0) hx hb d_MR_forgetParts_1 (by decide) ?_
  refine va_put (D := (dC, dI)) (ci := 0) (v := .int (0 : Int32)) (ty := .int) (C := R_MR) (T := T_MR) (N := 13) hx hb hB in_MR ty_MR tyok_MR nd_MR hown hK hP hD hS 0 rfl rfl 7 (by decide) (hB _ wd_99) (fun _ h9 => h9) rfl (by decide +kernel) rfl rfl (Nat.le_of_ble_eq_true rfl) d_MR_forgetParts_2 (fun H locs hP hD hS => ?_)
  have hP : va_P (dC, dI) vwCl ((x_MR ad cs r1 r2 kind steps byteCount (0 : Int32) stepsTaken hasRun lackedSteps decodings thrownDecodings bytes size count data made holds numbers lengths values states) ++ (gw 8 r1 rc1 5 rows ++ gw 16 r2 rc2 6 parts)) H := hP
  have hD : va_D A ((x_MR ad cs r1 r2 kind steps byteCount (0 : Int32) stepsTaken hasRun lackedSteps decodings thrownDecodings bytes size count data made holds numbers lengths values states) ++ (gw 8 r1 rc1 5 rows ++ gw 16 r2 rc2 6 parts)) := hD
  refine lv_aload_n hx hb d_MR_forgetParts_5 rfl (lv_at hl 0 rfl) ?_
  refine lv_iconst (v := 0) hx hb d_MR_forgetParts_6 (by decide) ?_
  refine va_put (D := (dC, dI)) (ci := 0) (v := .int (0 : Int32)) (ty := .boolean) (C := R_MR) (T := T_MR) (N := 13) hx hb hB in_MR ty_MR tyok_MR nd_MR hown hK hP hD hS 0 rfl rfl 9 (by decide) (hB _ wd_100) (fun _ h9 => h9) rfl (by decide +kernel) rfl rfl (Nat.le_of_ble_eq_true rfl) d_MR_forgetParts_7 (fun H locs hP hD hS => ?_)
  have hP : va_P (dC, dI) vwCl ((x_MR ad cs r1 r2 kind steps byteCount (0 : Int32) stepsTaken (0 : Int32) lackedSteps decodings thrownDecodings bytes size count data made holds numbers lengths values states) ++ (gw 8 r1 rc1 5 rows ++ gw 16 r2 rc2 6 parts)) H := hP
  have hD : va_D A ((x_MR ad cs r1 r2 kind steps byteCount (0 : Int32) stepsTaken (0 : Int32) lackedSteps decodings thrownDecodings bytes size count data made holds numbers lengths values states) ++ (gw 8 r1 rc1 5 rows ++ gw 16 r2 rc2 6 parts)) := hD
  have h := Option.some.inj h
  subst h
  exact W.vret hx hb hr (fun t ht hW => ⟨⟨(), rfl, trivial, AftW_mk hK hP hD ht hW⟩, hS.F ht⟩) hS.2.2 d_MR_forgetParts_10
def d_MR_requireRun (N : Nat) (hasRun : Int32) : Option (Except String (Unit)) :=
 if hasRun = 0 then some (.error "java/lang/IllegalStateException") else some (.ok ())
abbrev rm_MR_requireRun : Room := { frames := 6, cells := 1, slots := 6, locals := 82 }
set_option maxHeartbeats 4000000 in
set_option maxRecDepth 100000 in
theorem c_MR_requireRun (l : Launch) (hlt : l.stackTraces = false) (dC : Nat → ClassId) (dI : Nat → Nat → Nat) (tt : Nat → Nat) (ad : Nat → Nat) (cs : Nat → ClassId) (r1 : Nat → Nat) (rc1 : ClassId) (r2 : Nat → Nat) (rc2 : ClassId) (sz N : Nat) (kind : Int32) (steps : Int32) (byteCount : Int32) (partCount : Int32) (stepsTaken : Int32) (hasRun : Int32) (lackedSteps : Int32) (decodings : Int32) (thrownDecodings : Int32) (bytes : Nat → Int32) (size : Int32) (count : Int32) (data : Nat → Int32) (made : Nat → Int32) (holds : Nat → Int32) (numbers : Nat → Int32) (lengths : Nat → Int32) (values : Nat → Int32) (states : Nat → Int32) (rows : Nat → Nat → Int32) (parts : Nat → Nat → Int32) (out : Except String (Unit)) (h : d_MR_requireRun N hasRun = some out) :
    vx_Met l y_MR_requireRun (w_MR_requireRun) rm_MR_requireRun (va_Pc [.ref (ad 0)] (PreW (dC, dI) [((cs 1), .int), ((cs 2), .array .int), ((cs 4), .int), ((cs 5), .int), ((cs 7), .int), ((cs 8), .int), ((cs 9), .int), ((cs 10), .array .int), ((cs 12), .int), ((cs 13), .int), (rc1, .int), (rc2, .int)] ((x_MR ad cs r1 r2 kind steps byteCount partCount stepsTaken hasRun lackedSteps decodings thrownDecodings bytes size count data made holds numbers lengths values states) ++ (gw 8 r1 rc1 5 rows ++ gw 16 r2 rc2 6 parts)) sz tt)) (va_Qv (fun (u : Unit) => out = .ok u) (fun u => AftW (dC, dI) [((cs 1), .int), ((cs 2), .array .int), ((cs 4), .int), ((cs 5), .int), ((cs 7), .int), ((cs 8), .int), ((cs 9), .int), ((cs 10), .array .int), ((cs 12), .int), ((cs 13), .int), (rc1, .int), (rc2, .int)] (va_A ((x_MR ad cs r1 r2 kind steps byteCount partCount stepsTaken hasRun lackedSteps decodings thrownDecodings bytes size count data made holds numbers lengths values states) ++ (gw 8 r1 rc1 5 rows ++ gw 16 r2 rc2 6 parts)) sz) ((x_MR ad cs r1 r2 kind steps byteCount partCount stepsTaken hasRun lackedSteps decodings thrownDecodings bytes size count data made holds numbers lengths values states) ++ (gw 8 r1 rc1 5 rows ++ gw 16 r2 rc2 6 parts))) (va_A ((x_MR ad cs r1 r2 kind steps byteCount partCount stepsTaken hasRun lackedSteps decodings thrownDecodings bytes size count data made holds numbers lengths values states) ++ (gw 8 r1 rc1 5 rows ++ gw 16 r2 rc2 6 parts)) sz)) (vx_X (fun (_ : Unit) => True) (fun E _ t => out = .error E ∧ AftW (dC, dI) [((cs 1), .int), ((cs 2), .array .int), ((cs 4), .int), ((cs 5), .int), ((cs 7), .int), ((cs 8), .int), ((cs 9), .int), ((cs 10), .array .int), ((cs 12), .int), ((cs 13), .int), (rc1, .int), (rc2, .int)] (va_A ((x_MR ad cs r1 r2 kind steps byteCount partCount stepsTaken hasRun lackedSteps decodings thrownDecodings bytes size count data made holds numbers lengths values states) ++ (gw 8 r1 rc1 5 rows ++ gw 16 r2 rc2 6 parts)) sz) ((x_MR ad cs r1 r2 kind steps byteCount partCount stepsTaken hasRun lackedSteps decodings thrownDecodings bytes size count data made holds numbers lengths values states) ++ (gw 8 r1 rc1 5 rows ++ gw 16 r2 rc2 6 parts)) t) (va_A ((x_MR ad cs r1 r2 kind steps byteCount partCount stepsTaken hasRun lackedSteps decodings thrownDecodings bytes size count data made holds numbers lengths values states) ++ (gw 8 r1 rc1 5 rows ++ gw 16 r2 rc2 6 parts)) sz)) 1 6 (va_A ((x_MR ad cs r1 r2 kind steps byteCount partCount stepsTaken hasRun lackedSteps decodings thrownDecodings bytes size count data made holds numbers lengths values states) ++ (gw 8 r1 rc1 5 rows ++ gw 16 r2 rc2 6 parts)) sz) := by
  refine vx_ofW (cc := k_MR_requireRun) (maxL := 1) (ret := none) (by decide) rfl ?_
  intro p e s m args below meth c s₁ B hml hnt0 hv
  have hnt : ∀ {pc : Nat}, ∀ x ∈ c.exceptionTable.toList, covers x pc = false := fun x hx9 => (hnt0 x hx9).elim
  obtain ⟨rfl, hsz, hP, hK, hD0, hG⟩ := hv
  have hx := B.exec
  have hb := B.bytes
  have hr := B.returns
  have hts := atoms_spec (ws := (w_MR_requireRun)) B.pre
  have hB : ∀ w ∈ BIG, w.before _ s = true := fun w h9 => hts w (List.mem_cons_of_mem _ h9)
  have hown : s.vm.findClass R_MR = some m.cls := findClass_of_methodNamed B.named
  have hlocks := B.notSynchronized
  subst hsz
  have hD := hD0.self (sz := s.heap.size)
  generalize hAe : va_A ((x_MR ad cs r1 r2 kind steps byteCount partCount stepsTaken hasRun lackedSteps decodings thrownDecodings bytes size count data made holds numbers lengths values states) ++ (gw 8 r1 rc1 5 rows ++ gw 16 r2 rc2 6 parts)) s.heap.size = A at hD hG ⊢
  have hA : ∀ q : Nat, s.heap.size ≤ q → A q := fun q h => by rw [← hAe]; exact Or.inr h
  have hS : va_S A s.heap s.heap [] := va_S.rf
  have hl := lv_entry ([.ref (ad 0)]) (n := 1) (Nat.le_of_ble_eq_true rfl)
  rw [lg_entry_eq]
  generalize (lg_sl ([.ref (ad 0)]) ++ List.replicate (1 - (lg_sl ([.ref (ad 0)])).length) Slot.unset).toArray = ls at hl ⊢
  have hl : lv_has ls 1 [(0, .ref (ad 0))] := hl
  unfold d_MR_requireRun at h
  refine lv_aload_n hx hb d_MR_requireRun_0 rfl (lv_at hl 0 rfl) ?_
  refine va_get (D := (dC, dI)) (ci := 0) (v := .int hasRun) (C := R_MR) (T := T_MR) (N := 13) hx hb hB in_MR hown hK hP 0 rfl rfl 9 (by decide) (hB _ wd_100) (fun _ h9 => h9) rfl d_MR_requireRun_1 ?_
  refine lv_if_ne (tgt := 17) hx hb d_MR_requireRun_4 (by decide) (fun c_1 => ?_) (fun c_1 => ?_)
  · have h := (if_neg c_1).symm.trans h
    refine W.widen (k := 1) (n := 6) (by decide) (by decide) ?_
    have h := Option.some.inj h
    subst h
    refine vx_ret ?_
    exact W.vret hx hb hr (fun t ht hW => ⟨⟨_, rfl, rfl, AftW_mk hK hP hD ht hW⟩, hS.F ht⟩) hS.2.2 d_MR_requireRun_17
  · have h := (if_pos c_1).symm.trans h
    have h := Option.some.inj h
    subst h
    obtain ⟨sa, hsa⟩ := GG_str hG (i := 4) rfl
    exact vx_throwS hx hb hlt (names := xnames) hown (by decide +kernel) (by decide +kernel) (hB _ wd_101) (hB _ wd_102) hsa (xat_3 hB hG) xgood_3 (GG_U hG) (GG_N hG) hS (hl.1.trans hml.symm) d_MR_requireRun_7 d_MR_requireRun_10 d_MR_requireRun_11 d_MR_requireRun_13 d_MR_requireRun_16 hnt (Nat.le_of_ble_eq_true rfl) (Nat.le_of_ble_eq_true rfl) (Nat.le_of_ble_eq_true rfl) (Nat.le_of_ble_eq_true rfl) hlocks (fun t9 hvm9 hz9 hk9 => ⟨(), trivial, ⟨rfl, AftW_th hK hP hD hz9 hk9 hvm9⟩, va_S_th hS hz9 hk9⟩) hS.2.2 (by decide) (by decide)
def d_MR_requirePart (N : Nat) (x1 : Int32) (partCount : Int32) (hasRun : Int32) : Option (Except String (Unit)) :=
 (d_MR_requireRun N hasRun).bind (fun o1 => exB o1 (fun u1 => if x1 < 0 then some (.error "java/lang/IndexOutOfBoundsException") else if x1 < partCount then some (.ok ()) else some (.error "java/lang/IndexOutOfBoundsException")))
abbrev rm_MR_requirePart : Room := { frames := 7, cells := 2, slots := 12, locals := 102 }
set_option maxHeartbeats 4000000 in
set_option maxRecDepth 100000 in
theorem c_MR_requirePart (l : Launch) (hlt : l.stackTraces = false) (dC : Nat → ClassId) (dI : Nat → Nat → Nat) (tt : Nat → Nat) (ad : Nat → Nat) (cs : Nat → ClassId) (r1 : Nat → Nat) (rc1 : ClassId) (r2 : Nat → Nat) (rc2 : ClassId) (sz N : Nat) (x1 : Int32) (kind : Int32) (steps : Int32) (byteCount : Int32) (partCount : Int32) (stepsTaken : Int32) (hasRun : Int32) (lackedSteps : Int32) (decodings : Int32) (thrownDecodings : Int32) (bytes : Nat → Int32) (size : Int32) (count : Int32) (data : Nat → Int32) (made : Nat → Int32) (holds : Nat → Int32) (numbers : Nat → Int32) (lengths : Nat → Int32) (values : Nat → Int32) (states : Nat → Int32) (rows : Nat → Nat → Int32) (parts : Nat → Nat → Int32) (out : Except String (Unit)) (h : d_MR_requirePart N x1 partCount hasRun = some out) :
    vx_Met l y_MR_requirePart (w_MR_requirePart) rm_MR_requirePart (va_Pc [.ref (ad 0), .int x1] (PreW (dC, dI) [((cs 1), .int), ((cs 2), .array .int), ((cs 4), .int), ((cs 5), .int), ((cs 7), .int), ((cs 8), .int), ((cs 9), .int), ((cs 10), .array .int), ((cs 12), .int), ((cs 13), .int), (rc1, .int), (rc2, .int)] ((x_MR ad cs r1 r2 kind steps byteCount partCount stepsTaken hasRun lackedSteps decodings thrownDecodings bytes size count data made holds numbers lengths values states) ++ (gw 8 r1 rc1 5 rows ++ gw 16 r2 rc2 6 parts)) sz tt)) (va_Qv (fun (u : Unit) => out = .ok u) (fun u => AftW (dC, dI) [((cs 1), .int), ((cs 2), .array .int), ((cs 4), .int), ((cs 5), .int), ((cs 7), .int), ((cs 8), .int), ((cs 9), .int), ((cs 10), .array .int), ((cs 12), .int), ((cs 13), .int), (rc1, .int), (rc2, .int)] (va_A ((x_MR ad cs r1 r2 kind steps byteCount partCount stepsTaken hasRun lackedSteps decodings thrownDecodings bytes size count data made holds numbers lengths values states) ++ (gw 8 r1 rc1 5 rows ++ gw 16 r2 rc2 6 parts)) sz) ((x_MR ad cs r1 r2 kind steps byteCount partCount stepsTaken hasRun lackedSteps decodings thrownDecodings bytes size count data made holds numbers lengths values states) ++ (gw 8 r1 rc1 5 rows ++ gw 16 r2 rc2 6 parts))) (va_A ((x_MR ad cs r1 r2 kind steps byteCount partCount stepsTaken hasRun lackedSteps decodings thrownDecodings bytes size count data made holds numbers lengths values states) ++ (gw 8 r1 rc1 5 rows ++ gw 16 r2 rc2 6 parts)) sz)) (vx_X (fun (_ : Unit) => True) (fun E _ t => out = .error E ∧ AftW (dC, dI) [((cs 1), .int), ((cs 2), .array .int), ((cs 4), .int), ((cs 5), .int), ((cs 7), .int), ((cs 8), .int), ((cs 9), .int), ((cs 10), .array .int), ((cs 12), .int), ((cs 13), .int), (rc1, .int), (rc2, .int)] (va_A ((x_MR ad cs r1 r2 kind steps byteCount partCount stepsTaken hasRun lackedSteps decodings thrownDecodings bytes size count data made holds numbers lengths values states) ++ (gw 8 r1 rc1 5 rows ++ gw 16 r2 rc2 6 parts)) sz) ((x_MR ad cs r1 r2 kind steps byteCount partCount stepsTaken hasRun lackedSteps decodings thrownDecodings bytes size count data made holds numbers lengths values states) ++ (gw 8 r1 rc1 5 rows ++ gw 16 r2 rc2 6 parts)) t) (va_A ((x_MR ad cs r1 r2 kind steps byteCount partCount stepsTaken hasRun lackedSteps decodings thrownDecodings bytes size count data made holds numbers lengths values states) ++ (gw 8 r1 rc1 5 rows ++ gw 16 r2 rc2 6 parts)) sz)) 2 12 (va_A ((x_MR ad cs r1 r2 kind steps byteCount partCount stepsTaken hasRun lackedSteps decodings thrownDecodings bytes size count data made holds numbers lengths values states) ++ (gw 8 r1 rc1 5 rows ++ gw 16 r2 rc2 6 parts)) sz) := by
  refine vx_ofW (cc := k_MR_requirePart) (maxL := 2) (ret := none) (by decide) rfl ?_
  intro p e s m args below meth c s₁ B hml hnt0 hv
  have hnt : ∀ {pc : Nat}, ∀ x ∈ c.exceptionTable.toList, covers x pc = false := fun x hx9 => (hnt0 x hx9).elim
  obtain ⟨rfl, hsz, hP, hK, hD0, hG⟩ := hv
  have hx := B.exec
  have hb := B.bytes
  have hr := B.returns
  have hts := atoms_spec (ws := (w_MR_requirePart)) B.pre
  have hB : ∀ w ∈ BIG, w.before _ s = true := fun w h9 => hts w (List.mem_cons_of_mem _ h9)
  have hown : s.vm.findClass R_MR = some m.cls := findClass_of_methodNamed B.named
  have hlocks := B.notSynchronized
  subst hsz
  have hD := hD0.self (sz := s.heap.size)
  generalize hAe : va_A ((x_MR ad cs r1 r2 kind steps byteCount partCount stepsTaken hasRun lackedSteps decodings thrownDecodings bytes size count data made holds numbers lengths values states) ++ (gw 8 r1 rc1 5 rows ++ gw 16 r2 rc2 6 parts)) s.heap.size = A at hD hG ⊢
  have hA : ∀ q : Nat, s.heap.size ≤ q → A q := fun q h => by rw [← hAe]; exact Or.inr h
  have hS : va_S A s.heap s.heap [] := va_S.rf
  have hl := lv_entry ([.ref (ad 0), .int x1]) (n := 2) (Nat.le_of_ble_eq_true rfl)
  rw [lg_entry_eq]
  generalize (lg_sl ([.ref (ad 0), .int x1]) ++ List.replicate (2 - (lg_sl ([.ref (ad 0), .int x1])).length) Slot.unset).toArray = ls at hl ⊢
  have hl : lv_has ls 2 [(0, .ref (ad 0)), (1, .int x1)] := hl
  unfold d_MR_requirePart at h
  refine lv_aload_n hx hb d_MR_requirePart_0 rfl (lv_at hl 0 rfl) ?_
  obtain ⟨o1, ho1, h⟩ := Option.bind_eq_some_iff.mp h
  have hKc := hK.sub (tys' := [((cs 1), .int), ((cs 2), .array .int), ((cs 4), .int), ((cs 5), .int), ((cs 7), .int), ((cs 8), .int), ((cs 9), .int), ((cs 10), .array .int), ((cs 12), .int), ((cs 13), .int), (rc1, .int), (rc2, .int)]) [0, 1, 2, 3, 4, 5, 6, 7, 8, 9, 10, 11] rfl
  have hPc := hP.part (cx := x_MR ad cs r1 r2 kind steps byteCount partCount stepsTaken hasRun lackedSteps decodings thrownDecodings bytes size count data made holds numbers lengths values states) [0, 1, 2, 3, 4, 5, 6, 7, 8, 9, 10, 11, 12, 13] rfl
  have hDc := hD.part (cx := x_MR ad cs r1 r2 kind steps byteCount partCount stepsTaken hasRun lackedSteps decodings thrownDecodings bytes size count data made holds numbers lengths values states) [0, 1, 2, 3, 4, 5, 6, 7, 8, 9, 10, 11, 12, 13] (by decide) rfl
  have hFc := va_freeP (cx := x_MR ad cs r1 r2 kind steps byteCount partCount stepsTaken hasRun lackedSteps decodings thrownDecodings bytes size count data made holds numbers lengths values states) hD hS hA [0, 1, 2, 3, 4, 5, 6, 7, 8, 9, 10, 11, 12, 13] rfl
  refine vx_callv (vx_runV (As := []) (rest := []) ⟨hx, hb, hml, hown, hB⟩ (c_MR_requireRun l hlt dC dI tt ad cs r1 rc1 r2 rc2 s.heap.size N kind steps byteCount partCount stepsTaken hasRun lackedSteps decodings thrownDecodings bytes size count data made holds numbers lengths values states rows parts o1 ho1) (cwV 0 hB (gV wd_107 wd_104 wd_103 wd_105 wd_106) rfl rfl rfl (by decide +kernel) ⟨Nat.le_of_ble_eq_true rfl, Nat.le_of_ble_eq_true rfl⟩) ⟨PreW_blind, va_recv hKc hPc (ci := 0) (q0 := 0) rfl rfl, PreW_mk hKc hPc hDc hG hS hFc⟩ rfl rfl hl.1 rfl (lv_room (Nat.le_of_ble_eq_true rfl)) d_MR_requirePart_1 ⟨Nat.le_of_ble_eq_true rfl, Nat.le_of_ble_eq_true rfl⟩) hS (fun q _ h => hFc q h) hFc (fun q _ h => hFc q h) (fun E ce q9 u_1 t H1 locs ht hvm hw hB hz1 hk1 hS hce hcv hcl => ?_) (fun u1 t H1 locs ht hvm hw hB hz1 hk1 hS => ?_)
  · obtain ⟨heE, hB⟩ := hB
    subst heE
    obtain ⟨hP1, hK1, hD1⟩ := hB
    rw [ht] at hP1
    obtain ⟨hP, hD⟩ := va_joinP (wr := pick (x_MR ad cs r1 r2 kind steps byteCount partCount stepsTaken hasRun lackedSteps decodings thrownDecodings bytes size count data made holds numbers lengths values states) []) hP hD [0, 1, 2, 3, 4, 5, 6, 7, 8, 9, 10, 11, 12, 13] [] rfl rfl (by decide) (by decide) hk1 hFc hP1 hD1
    generalize H1 = H at hP hS hce ⊢
    have hP : va_P (dC, dI) vwCl ((x_MR ad cs r1 r2 kind steps byteCount partCount stepsTaken hasRun lackedSteps decodings thrownDecodings bytes size count data made holds numbers lengths values states) ++ (gw 8 r1 rc1 5 rows ++ gw 16 r2 rc2 6 parts)) H := hP.part (cx := x_MR ad cs r1 r2 kind steps byteCount partCount stepsTaken hasRun lackedSteps decodings thrownDecodings bytes size count data made holds numbers lengths values states) [0, 1, 2, 3, 4, 5, 6, 7, 8, 9, 10, 11, 12, 13] rfl
    have hD : va_D A ((x_MR ad cs r1 r2 kind steps byteCount partCount stepsTaken hasRun lackedSteps decodings thrownDecodings bytes size count data made holds numbers lengths values states) ++ (gw 8 r1 rc1 5 rows ++ gw 16 r2 rc2 6 parts)) := hD.part (cx := x_MR ad cs r1 r2 kind steps byteCount partCount stepsTaken hasRun lackedSteps decodings thrownDecodings bytes size count data made holds numbers lengths values states) [0, 1, 2, 3, 4, 5, 6, 7, 8, 9, 10, 11, 12, 13] (by decide) rfl
    have h := exB_er h
    subst h
    refine vx_widen (k := 2) (n := 12) (by decide) (by decide) ?_
    exact vx_out (E := E) hnt hlocks hce hcv hcl (fun t9 ht9 hvm9 => ⟨(), trivial, ⟨rfl, AftW_mv hK hP hD ht9 hvm9⟩, hS.F ht9⟩) hS.2.2 (by decide) (by decide)
  subst hw
  have h := exB_ok h
  obtain ⟨hP1, hK1, hD1⟩ := hB
  rw [ht] at hP1
  obtain ⟨hP, hD⟩ := va_joinP (wr := pick (x_MR ad cs r1 r2 kind steps byteCount partCount stepsTaken hasRun lackedSteps decodings thrownDecodings bytes size count data made holds numbers lengths values states) []) hP hD [0, 1, 2, 3, 4, 5, 6, 7, 8, 9, 10, 11, 12, 13] [] rfl rfl (by decide) (by decide) hk1 hFc hP1 hD1
  generalize H1 = H at hP hS ⊢
  have hP : va_P (dC, dI) vwCl ((x_MR ad cs r1 r2 kind steps byteCount partCount stepsTaken hasRun lackedSteps decodings thrownDecodings bytes size count data made holds numbers lengths values states) ++ (gw 8 r1 rc1 5 rows ++ gw 16 r2 rc2 6 parts)) H := hP.part (cx := x_MR ad cs r1 r2 kind steps byteCount partCount stepsTaken hasRun lackedSteps decodings thrownDecodings bytes size count data made holds numbers lengths values states) [0, 1, 2, 3, 4, 5, 6, 7, 8, 9, 10, 11, 12, 13] rfl
  have hD : va_D A ((x_MR ad cs r1 r2 kind steps byteCount partCount stepsTaken hasRun lackedSteps decodings thrownDecodings bytes size count data made holds numbers lengths values states) ++ (gw 8 r1 rc1 5 rows ++ gw 16 r2 rc2 6 parts)) := hD.part (cx := x_MR ad cs r1 r2 kind steps byteCount partCount stepsTaken hasRun lackedSteps decodings thrownDecodings bytes size count data made holds numbers lengths values states) [0, 1, 2, 3, 4, 5, 6, 7, 8, 9, 10, 11, 12, 13] (by decide) rfl
  refine W.widen (k := 1) (n := 6) (by decide) (by decide) ?_
  refine lv_iload_n hx hb d_MR_requirePart_4 rfl (lv_at hl 1 rfl) ?_
  refine lv_if_lt (tgt := 16) hx hb d_MR_requirePart_5 (by decide) (fun c_2 => ?_) (fun c_2 => ?_)
  · have h := (if_pos c_2).symm.trans h
    have h := Option.some.inj h
    subst h
    obtain ⟨sa, hsa⟩ := GG_str hG (i := 5) rfl
    exact vx_throwS hx hb hlt (names := xnames) hown (by decide +kernel) (by decide +kernel) (hB _ wd_108) (hB _ wd_109) hsa (xat_2 hB hG) xgood_2 (GG_U hG) (GG_N hG) hS (hl.1.trans hml.symm) d_MR_requirePart_16 d_MR_requirePart_19 d_MR_requirePart_20 d_MR_requirePart_22 d_MR_requirePart_25 hnt (Nat.le_of_ble_eq_true rfl) (Nat.le_of_ble_eq_true rfl) (Nat.le_of_ble_eq_true rfl) (Nat.le_of_ble_eq_true rfl) hlocks (fun t9 hvm9 hz9 hk9 => ⟨(), trivial, ⟨rfl, AftW_th hK hP hD hz9 hk9 hvm9⟩, va_S_th hS hz9 hk9⟩) hS.2.2 (by decide) (by decide)
  · have h := (if_neg c_2).symm.trans h
    refine lv_iload_n hx hb d_MR_requirePart_8 rfl (lv_at hl 1 rfl) ?_
    refine lv_aload_n hx hb d_MR_requirePart_9 rfl (lv_at hl 0 rfl) ?_
    refine va_get (D := (dC, dI)) (ci := 0) (v := .int partCount) (C := R_MR) (T := T_MR) (N := 13) hx hb hB in_MR hown hK hP 0 rfl rfl 7 (by decide) (hB _ wd_99) (fun _ h9 => h9) rfl d_MR_requirePart_10 ?_
    refine lv_icmp_lt (tgt := 26) hx hb d_MR_requirePart_13 (by decide) (fun c_3 => ?_) (fun c_3 => ?_)
    · have h := (if_pos c_3).symm.trans h
      refine W.widen (k := 2) (n := 12) (by decide) (by decide) ?_
      have h := Option.some.inj h
      subst h
      refine vx_ret ?_
      exact W.vret hx hb hr (fun t ht hW => ⟨⟨_, rfl, rfl, AftW_mk hK hP hD ht hW⟩, hS.F ht⟩) hS.2.2 d_MR_requirePart_26
    · have h := (if_neg c_3).symm.trans h
      have h := Option.some.inj h
      subst h
      obtain ⟨sa, hsa⟩ := GG_str hG (i := 5) rfl
      exact vx_throwS hx hb hlt (names := xnames) hown (by decide +kernel) (by decide +kernel) (hB _ wd_108) (hB _ wd_109) hsa (xat_2 hB hG) xgood_2 (GG_U hG) (GG_N hG) hS (hl.1.trans hml.symm) d_MR_requirePart_16 d_MR_requirePart_19 d_MR_requirePart_20 d_MR_requirePart_22 d_MR_requirePart_25 hnt (Nat.le_of_ble_eq_true rfl) (Nat.le_of_ble_eq_true rfl) (Nat.le_of_ble_eq_true rfl) (Nat.le_of_ble_eq_true rfl) hlocks (fun t9 hvm9 hz9 hk9 => ⟨(), trivial, ⟨rfl, AftW_th hK hP hD hz9 hk9 hvm9⟩, va_S_th hS hz9 hk9⟩) hS.2.2 (by decide) (by decide)
def d_MR_requireSample (N : Nat) (x0 : Int32) : Option (Except String (Unit)) :=
 if x0 < 0 then some (.error "java/lang/IndexOutOfBoundsException") else if x0 < (256 : Int32) then some (.ok ()) else some (.error "java/lang/IndexOutOfBoundsException")
abbrev rm_MR_requireSample : Room := { frames := 6, cells := 1, slots := 6, locals := 82 }
set_option maxHeartbeats 4000000 in
set_option maxRecDepth 100000 in
theorem c_MR_requireSample (l : Launch) (hlt : l.stackTraces = false) (dC : Nat → ClassId) (dI : Nat → Nat → Nat) (tt : Nat → Nat) (sz N : Nat) (x0 : Int32) (out : Except String (Unit)) (h : d_MR_requireSample N x0 = some out) :
    vx_Met l y_MR_requireSample (w_MR_requireSample) rm_MR_requireSample (va_Pc [.int x0] (PreW (dC, dI) [] (([] : va_W)) sz tt)) (va_Qv (fun (u : Unit) => out = .ok u) (fun u => AftW (dC, dI) [] (va_A (([] : va_W)) sz) (([] : va_W))) (va_A (([] : va_W)) sz)) (vx_X (fun (_ : Unit) => True) (fun E _ t => out = .error E ∧ AftW (dC, dI) [] (va_A (([] : va_W)) sz) (([] : va_W)) t) (va_A (([] : va_W)) sz)) 1 6 (va_A (([] : va_W)) sz) := by
  refine vx_ofW (cc := k_MR_requireSample) (maxL := 1) (ret := none) (by decide) rfl ?_
  intro p e s m args below meth c s₁ B hml hnt0 hv
  have hnt : ∀ {pc : Nat}, ∀ x ∈ c.exceptionTable.toList, covers x pc = false := fun x hx9 => (hnt0 x hx9).elim
  obtain ⟨rfl, hsz, hP, hK, hD0, hG⟩ := hv
  have hx := B.exec
  have hb := B.bytes
  have hr := B.returns
  have hts := atoms_spec (ws := (w_MR_requireSample)) B.pre
  have hB : ∀ w ∈ BIG, w.before _ s = true := fun w h9 => hts w (List.mem_cons_of_mem _ h9)
  have hown : s.vm.findClass R_MR = some m.cls := findClass_of_methodNamed B.named
  have hlocks := B.notSynchronized
  subst hsz
  have hD := hD0.self (sz := s.heap.size)
  generalize hAe : va_A (([] : va_W)) s.heap.size = A at hD hG ⊢
  have hA : ∀ q : Nat, s.heap.size ≤ q → A q := fun q h => by rw [← hAe]; exact Or.inr h
  have hS : va_S A s.heap s.heap [] := va_S.rf
  have hl := lv_entry ([.int x0]) (n := 1) (Nat.le_of_ble_eq_true rfl)
  rw [lg_entry_eq]
  generalize (lg_sl ([.int x0]) ++ List.replicate (1 - (lg_sl ([.int x0])).length) Slot.unset).toArray = ls at hl ⊢
  have hl : lv_has ls 1 [(0, .int x0)] := hl
  unfold d_MR_requireSample at h
  refine lv_iload_n hx hb d_MR_requireSample_0 rfl (lv_at hl 0 rfl) ?_
  refine lv_if_lt (tgt := 11) hx hb d_MR_requireSample_1 (by decide) (fun c_1 => ?_) (fun c_1 => ?_)
  · have h := (if_pos c_1).symm.trans h
    have h := Option.some.inj h
    subst h
    obtain ⟨sa, hsa⟩ := GG_str hG (i := 6) rfl
    exact vx_throwS hx hb hlt (names := xnames) hown (by decide +kernel) (by decide +kernel) (hB _ wd_108) (hB _ wd_109) hsa (xat_2 hB hG) xgood_2 (GG_U hG) (GG_N hG) hS (hl.1.trans hml.symm) d_MR_requireSample_11 d_MR_requireSample_14 d_MR_requireSample_15 d_MR_requireSample_17 d_MR_requireSample_20 hnt (Nat.le_of_ble_eq_true rfl) (Nat.le_of_ble_eq_true rfl) (Nat.le_of_ble_eq_true rfl) (Nat.le_of_ble_eq_true rfl) hlocks (fun t9 hvm9 hz9 hk9 => ⟨(), trivial, ⟨rfl, AftW_th hK hP hD hz9 hk9 hvm9⟩, va_S_th hS hz9 hk9⟩) hS.2.2 (by decide) (by decide)
  · have h := (if_neg c_1).symm.trans h
    refine lv_iload_n hx hb d_MR_requireSample_4 rfl (lv_at hl 0 rfl) ?_
    refine lv_sipush (v := 256) hx hb d_MR_requireSample_5 (by decide) ?_
    refine lv_icmp_lt (tgt := 21) hx hb d_MR_requireSample_8 (by decide) (fun c_2 => ?_) (fun c_2 => ?_)
    · have h := (if_pos c_2).symm.trans h
      refine W.widen (k := 1) (n := 6) (by decide) (by decide) ?_
      have h := Option.some.inj h
      subst h
      refine vx_ret ?_
      exact W.vret hx hb hr (fun t ht hW => ⟨⟨_, rfl, rfl, AftW_mk hK hP hD ht hW⟩, hS.F ht⟩) hS.2.2 d_MR_requireSample_21
    · have h := (if_neg c_2).symm.trans h
      have h := Option.some.inj h
      subst h
      obtain ⟨sa, hsa⟩ := GG_str hG (i := 6) rfl
      exact vx_throwS hx hb hlt (names := xnames) hown (by decide +kernel) (by decide +kernel) (hB _ wd_108) (hB _ wd_109) hsa (xat_2 hB hG) xgood_2 (GG_U hG) (GG_N hG) hS (hl.1.trans hml.symm) d_MR_requireSample_11 d_MR_requireSample_14 d_MR_requireSample_15 d_MR_requireSample_17 d_MR_requireSample_20 hnt (Nat.le_of_ble_eq_true rfl) (Nat.le_of_ble_eq_true rfl) (Nat.le_of_ble_eq_true rfl) (Nat.le_of_ble_eq_true rfl) hlocks (fun t9 hvm9 hz9 hk9 => ⟨(), trivial, ⟨rfl, AftW_th hK hP hD hz9 hk9 hvm9⟩, va_S_th hS hz9 hk9⟩) hS.2.2 (by decide) (by decide)
def d_MR_markStandsAt (N : Nat) (x1 : Int32) (kind : Int32) (byteCount : Int32) (bytes : Nat → Int32) : Option (Int32) :=
 if byteCount ≤ (x1 + (1 : Int32)) then some (0 : Int32) else gI x1 1200 (gI kind 3 (if (bytes x1.toNatClampNeg) = (tb0 kind.toNatClampNeg) then gI (x1 + (1 : Int32)) 1200 (if (bytes (x1 + (1 : Int32)).toNatClampNeg) = (tb1 kind.toNatClampNeg) then some (1 : Int32) else some (0 : Int32)) else some (0 : Int32)))
abbrev rm_MR_markStandsAt : Room := { frames := 0, cells := 0, slots := 0, locals := 0 }
set_option maxHeartbeats 4000000 in
set_option maxRecDepth 100000 in
theorem c_MR_markStandsAt (l : Launch) (dC : Nat → ClassId) (dI : Nat → Nat → Nat) (tt : Nat → Nat) (ad : Nat → Nat) (cs : Nat → ClassId) (r1 : Nat → Nat) (rc1 : ClassId) (r2 : Nat → Nat) (rc2 : ClassId) (sz N : Nat) (x1 : Int32) (kind : Int32) (steps : Int32) (byteCount : Int32) (partCount : Int32) (stepsTaken : Int32) (hasRun : Int32) (lackedSteps : Int32) (decodings : Int32) (thrownDecodings : Int32) (bytes : Nat → Int32) (size : Int32) (count : Int32) (data : Nat → Int32) (made : Nat → Int32) (holds : Nat → Int32) (numbers : Nat → Int32) (lengths : Nat → Int32) (values : Nat → Int32) (states : Nat → Int32) (rows : Nat → Nat → Int32) (parts : Nat → Nat → Int32) (out : Int32) (h : d_MR_markStandsAt N x1 kind byteCount bytes = some out) :
    Met l y_MR_markStandsAt (w_MR_markStandsAt) rm_MR_markStandsAt (va_Pc [.ref (ad 0), .int x1] (PreW (dC, dI) [((cs 1), .int), ((cs 2), .array .int), ((cs 4), .int), ((cs 5), .int), ((cs 7), .int), ((cs 8), .int), ((cs 9), .int), ((cs 10), .array .int), ((cs 12), .int), ((cs 13), .int), (rc1, .int), (rc2, .int)] ((x_MR ad cs r1 r2 kind steps byteCount partCount stepsTaken hasRun lackedSteps decodings thrownDecodings bytes size count data made holds numbers lengths values states) ++ (gw 8 r1 rc1 5 rows ++ gw 16 r2 rc2 6 parts)) sz tt)) (va_Qi (fun (r : Int32) (_ : Unit) => r = out) (fun _ => AftW (dC, dI) [((cs 1), .int), ((cs 2), .array .int), ((cs 4), .int), ((cs 5), .int), ((cs 7), .int), ((cs 8), .int), ((cs 9), .int), ((cs 10), .array .int), ((cs 12), .int), ((cs 13), .int), (rc1, .int), (rc2, .int)] (va_A ((x_MR ad cs r1 r2 kind steps byteCount partCount stepsTaken hasRun lackedSteps decodings thrownDecodings bytes size count data made holds numbers lengths values states) ++ (gw 8 r1 rc1 5 rows ++ gw 16 r2 rc2 6 parts)) sz) ((x_MR ad cs r1 r2 kind steps byteCount partCount stepsTaken hasRun lackedSteps decodings thrownDecodings bytes size count data made holds numbers lengths values states) ++ (gw 8 r1 rc1 5 rows ++ gw 16 r2 rc2 6 parts))) (va_A ((x_MR ad cs r1 r2 kind steps byteCount partCount stepsTaken hasRun lackedSteps decodings thrownDecodings bytes size count data made holds numbers lengths values states) ++ (gw 8 r1 rc1 5 rows ++ gw 16 r2 rc2 6 parts)) sz)) 0 0 (va_A ((x_MR ad cs r1 r2 kind steps byteCount partCount stepsTaken hasRun lackedSteps decodings thrownDecodings bytes size count data made holds numbers lengths values states) ++ (gw 8 r1 rc1 5 rows ++ gw 16 r2 rc2 6 parts)) sz) := by
  refine Met.ofW (cc := k_MR_markStandsAt) (maxL := 2) (ret := (some .boolean)) (by decide) rfl ?_
  intro p e s m args below meth c s₁ B hml hv
  obtain ⟨rfl, hsz, hP, hK, hD0, hG⟩ := hv
  have hx := B.exec
  have hb := B.bytes
  have hr := B.returns
  have hts := atoms_spec (ws := (w_MR_markStandsAt)) B.pre
  have hB : ∀ w ∈ BIG, w.before _ s = true := fun w h9 => hts w (List.mem_cons_of_mem _ h9)
  have hown : s.vm.findClass R_MR = some m.cls := findClass_of_methodNamed B.named
  have hlocks := B.notSynchronized
  subst hsz
  have hD := hD0.self (sz := s.heap.size)
  generalize hAe : va_A ((x_MR ad cs r1 r2 kind steps byteCount partCount stepsTaken hasRun lackedSteps decodings thrownDecodings bytes size count data made holds numbers lengths values states) ++ (gw 8 r1 rc1 5 rows ++ gw 16 r2 rc2 6 parts)) s.heap.size = A at hD hG ⊢
  have hA : ∀ q : Nat, s.heap.size ≤ q → A q := fun q h => by rw [← hAe]; exact Or.inr h
  have hS : va_S A s.heap s.heap [] := va_S.rf
  have hl := lv_entry ([.ref (ad 0), .int x1]) (n := 2) (Nat.le_of_ble_eq_true rfl)
  rw [lg_entry_eq]
  generalize (lg_sl ([.ref (ad 0), .int x1]) ++ List.replicate (2 - (lg_sl ([.ref (ad 0), .int x1])).length) Slot.unset).toArray = ls at hl ⊢
  have hl : lv_has ls 2 [(0, .ref (ad 0)), (1, .int x1)] := hl
  unfold d_MR_markStandsAt at h
  refine lv_iload_n hx hb d_MR_markStandsAt_0 rfl (lv_at hl 1 rfl) ?_
  refine lv_iconst (v := 1) hx hb d_MR_markStandsAt_1 (by decide) ?_
  refine lv_iadd hx hb d_MR_markStandsAt_2 ?_
  refine lv_aload_n hx hb d_MR_markStandsAt_3 rfl (lv_at hl 0 rfl) ?_
  refine va_get (D := (dC, dI)) (ci := 0) (v := .int byteCount) (C := R_MR) (T := T_MR) (N := 13) hx hb hB in_MR hown hK hP 0 rfl rfl 6 (by decide) (hB _ wd_110) (fun _ h9 => h9) rfl d_MR_markStandsAt_4 ?_
  refine lv_icmp_ge (tgt := 50) hx hb d_MR_markStandsAt_7 (by decide) (fun c_1 => ?_) (fun c_1 => ?_)
  · have h := (if_pos c_1).symm.trans h
    refine lv_iconst (v := 0) hx hb d_MR_markStandsAt_50 (by decide) ?_
    have h := Option.some.inj h
    subst h
    exact W.zret hx hb hr rfl (fun t ht hW => ⟨⟨_, (), rfl, rfl, AftW_mk hK hP hD ht hW⟩, hS.F ht⟩) hS.2.2 d_MR_markStandsAt_51
  · have h := (if_neg c_1).symm.trans h
    refine lv_aload_n hx hb d_MR_markStandsAt_10 rfl (lv_at hl 0 rfl) ?_
    refine va_get (D := (dC, dI)) (ci := 0) (v := .ref (ad 1)) (C := R_MR) (T := T_MR) (N := 13) hx hb hB in_MR hown hK hP 0 rfl rfl 2 (by decide) (hB _ wd_111) (fun _ h9 => h9) rfl d_MR_markStandsAt_11 ?_
    refine lv_iload_n hx hb d_MR_markStandsAt_14 rfl (lv_at hl 1 rfl) ?_
    obtain ⟨b_2, h⟩ := gI_some h
    refine va_iald hx hb hK hP 1 0 rfl rfl b_2 d_MR_markStandsAt_15 ?_
    refine va_gets hx hb (GG_Z0 hG) hS hown (hB _ wd_112) (fun _ h9 => h9) d_MR_markStandsAt_16 ?_
    refine lv_aload_n hx hb d_MR_markStandsAt_19 rfl (lv_at hl 0 rfl) ?_
    refine va_get (D := (dC, dI)) (ci := 0) (v := .int kind) (C := R_MR) (T := T_MR) (N := 13) hx hb hB in_MR hown hK hP 0 rfl rfl 0 (by decide) (hB _ wd_113) (fun _ h9 => h9) rfl d_MR_markStandsAt_20 ?_
    obtain ⟨b_3, h⟩ := gI_some h
    refine va_ti hx hb (GG_T0 hG) hS b_3 (v := .int (tb0 kind.toNatClampNeg)) rfl d_MR_markStandsAt_23 ?_
    refine lv_icmp_ne (tgt := 50) hx hb d_MR_markStandsAt_24 (by decide) (fun c_4 => ?_) (fun c_4 => ?_)
    · have h := (if_neg c_4).symm.trans h
      refine lv_iconst (v := 0) hx hb d_MR_markStandsAt_50 (by decide) ?_
      have h := Option.some.inj h
      subst h
      exact W.zret hx hb hr rfl (fun t ht hW => ⟨⟨_, (), rfl, rfl, AftW_mk hK hP hD ht hW⟩, hS.F ht⟩) hS.2.2 d_MR_markStandsAt_51
    · have h := (if_pos c_4).symm.trans h
      refine lv_aload_n hx hb d_MR_markStandsAt_27 rfl (lv_at hl 0 rfl) ?_
      refine va_get (D := (dC, dI)) (ci := 0) (v := .ref (ad 1)) (C := R_MR) (T := T_MR) (N := 13) hx hb hB in_MR hown hK hP 0 rfl rfl 2 (by decide) (hB _ wd_111) (fun _ h9 => h9) rfl d_MR_markStandsAt_28 ?_
      refine lv_iload_n hx hb d_MR_markStandsAt_31 rfl (lv_at hl 1 rfl) ?_
      refine lv_iconst (v := 1) hx hb d_MR_markStandsAt_32 (by decide) ?_
      refine lv_iadd hx hb d_MR_markStandsAt_33 ?_
      obtain ⟨b_5, h⟩ := gI_some h
      refine va_iald hx hb hK hP 1 0 rfl rfl b_5 d_MR_markStandsAt_34 ?_
      refine va_gets hx hb (GG_Z1 hG) hS hown (hB _ wd_114) (fun _ h9 => h9) d_MR_markStandsAt_35 ?_
      refine lv_aload_n hx hb d_MR_markStandsAt_38 rfl (lv_at hl 0 rfl) ?_
      refine va_get (D := (dC, dI)) (ci := 0) (v := .int kind) (C := R_MR) (T := T_MR) (N := 13) hx hb hB in_MR hown hK hP 0 rfl rfl 0 (by decide) (hB _ wd_113) (fun _ h9 => h9) rfl d_MR_markStandsAt_39 ?_
      refine va_ti hx hb (GG_T1 hG) hS b_3 (v := .int (tb1 kind.toNatClampNeg)) rfl d_MR_markStandsAt_42 ?_
      refine lv_icmp_ne (tgt := 50) hx hb d_MR_markStandsAt_43 (by decide) (fun c_6 => ?_) (fun c_6 => ?_)
      · have h := (if_neg c_6).symm.trans h
        refine lv_iconst (v := 0) hx hb d_MR_markStandsAt_50 (by decide) ?_
        have h := Option.some.inj h
        subst h
        exact W.zret hx hb hr rfl (fun t ht hW => ⟨⟨_, (), rfl, rfl, AftW_mk hK hP hD ht hW⟩, hS.F ht⟩) hS.2.2 d_MR_markStandsAt_51
      · have h := (if_pos c_6).symm.trans h
        refine lv_iconst (v := 1) hx hb d_MR_markStandsAt_46 (by decide) ?_
        refine lv_goto (tgt := 51) hx hb d_MR_markStandsAt_47 (by decide) ?_
        have h := Option.some.inj h
        subst h
        exact W.zret hx hb hr rfl (fun t ht hW => ⟨⟨_, (), rfl, rfl, AftW_mk hK hP hD ht hW⟩, hS.F ht⟩) hS.2.2 d_MR_markStandsAt_51
def d_MR_headIsRight (N : Nat) (x1 : Int32) (bytes : Nat → Int32) : Option (Int32) :=
 gI (x1 + (2 : Int32)) 1200 (gI (x1 + (3 : Int32)) 1200 (gI (x1 + (4 : Int32)) 1200 (if (15 : Int32) < (bytes (x1 + (2 : Int32)).toNatClampNeg) then some (0 : Int32) else if (4 : Int32) < (bytes (x1 + (3 : Int32)).toNatClampNeg) then some (0 : Int32) else if (64 : Int32) < (bytes (x1 + (4 : Int32)).toNatClampNeg) then some (0 : Int32) else gI (x1 + (5 : Int32)) 1200 (if (bytes (x1 + (5 : Int32)).toNatClampNeg) = ((((((7 : Int32) * (bytes (x1 + (2 : Int32)).toNatClampNeg)) + ((31 : Int32) * (bytes (x1 + (3 : Int32)).toNatClampNeg))) + (bytes (x1 + (4 : Int32)).toNatClampNeg)) + (165 : Int32)) - (((((7 : Int32) * (bytes (x1 + (2 : Int32)).toNatClampNeg)) + ((31 : Int32) * (bytes (x1 + (3 : Int32)).toNatClampNeg))) + (bytes (x1 + (4 : Int32)).toNatClampNeg)) + (165 : Int32)) / (256 : Int32) * (256 : Int32)) then some (1 : Int32) else some (0 : Int32)))))
abbrev rm_MR_headIsRight : Room := { frames := 0, cells := 0, slots := 0, locals := 0 }
set_option maxHeartbeats 4000000 in
set_option maxRecDepth 100000 in
theorem c_MR_headIsRight (l : Launch) (dC : Nat → ClassId) (dI : Nat → Nat → Nat) (tt : Nat → Nat) (ad : Nat → Nat) (cs : Nat → ClassId) (r1 : Nat → Nat) (rc1 : ClassId) (r2 : Nat → Nat) (rc2 : ClassId) (sz N : Nat) (x1 : Int32) (kind : Int32) (steps : Int32) (byteCount : Int32) (partCount : Int32) (stepsTaken : Int32) (hasRun : Int32) (lackedSteps : Int32) (decodings : Int32) (thrownDecodings : Int32) (bytes : Nat → Int32) (size : Int32) (count : Int32) (data : Nat → Int32) (made : Nat → Int32) (holds : Nat → Int32) (numbers : Nat → Int32) (lengths : Nat → Int32) (values : Nat → Int32) (states : Nat → Int32) (rows : Nat → Nat → Int32) (parts : Nat → Nat → Int32) (out : Int32) (h : d_MR_headIsRight N x1 bytes = some out) :
    Met l y_MR_headIsRight (w_MR_headIsRight) rm_MR_headIsRight (va_Pc [.ref (ad 0), .int x1] (PreW (dC, dI) [((cs 1), .int), ((cs 2), .array .int), ((cs 4), .int), ((cs 5), .int), ((cs 7), .int), ((cs 8), .int), ((cs 9), .int), ((cs 10), .array .int), ((cs 12), .int), ((cs 13), .int), (rc1, .int), (rc2, .int)] ((x_MR ad cs r1 r2 kind steps byteCount partCount stepsTaken hasRun lackedSteps decodings thrownDecodings bytes size count data made holds numbers lengths values states) ++ (gw 8 r1 rc1 5 rows ++ gw 16 r2 rc2 6 parts)) sz tt)) (va_Qi (fun (r : Int32) (_ : Unit) => r = out) (fun _ => AftW (dC, dI) [((cs 1), .int), ((cs 2), .array .int), ((cs 4), .int), ((cs 5), .int), ((cs 7), .int), ((cs 8), .int), ((cs 9), .int), ((cs 10), .array .int), ((cs 12), .int), ((cs 13), .int), (rc1, .int), (rc2, .int)] (va_A ((x_MR ad cs r1 r2 kind steps byteCount partCount stepsTaken hasRun lackedSteps decodings thrownDecodings bytes size count data made holds numbers lengths values states) ++ (gw 8 r1 rc1 5 rows ++ gw 16 r2 rc2 6 parts)) sz) ((x_MR ad cs r1 r2 kind steps byteCount partCount stepsTaken hasRun lackedSteps decodings thrownDecodings bytes size count data made holds numbers lengths values states) ++ (gw 8 r1 rc1 5 rows ++ gw 16 r2 rc2 6 parts))) (va_A ((x_MR ad cs r1 r2 kind steps byteCount partCount stepsTaken hasRun lackedSteps decodings thrownDecodings bytes size count data made holds numbers lengths values states) ++ (gw 8 r1 rc1 5 rows ++ gw 16 r2 rc2 6 parts)) sz)) 0 0 (va_A ((x_MR ad cs r1 r2 kind steps byteCount partCount stepsTaken hasRun lackedSteps decodings thrownDecodings bytes size count data made holds numbers lengths values states) ++ (gw 8 r1 rc1 5 rows ++ gw 16 r2 rc2 6 parts)) sz) := by
  refine Met.ofW (cc := k_MR_headIsRight) (maxL := 6) (ret := (some .boolean)) (by decide) rfl ?_
  intro p e s m args below meth c s₁ B hml hv
  obtain ⟨rfl, hsz, hP, hK, hD0, hG⟩ := hv
  have hx := B.exec
  have hb := B.bytes
  have hr := B.returns
  have hts := atoms_spec (ws := (w_MR_headIsRight)) B.pre
  have hB : ∀ w ∈ BIG, w.before _ s = true := fun w h9 => hts w (List.mem_cons_of_mem _ h9)
  have hown : s.vm.findClass R_MR = some m.cls := findClass_of_methodNamed B.named
  have hlocks := B.notSynchronized
  subst hsz
  have hD := hD0.self (sz := s.heap.size)
  generalize hAe : va_A ((x_MR ad cs r1 r2 kind steps byteCount partCount stepsTaken hasRun lackedSteps decodings thrownDecodings bytes size count data made holds numbers lengths values states) ++ (gw 8 r1 rc1 5 rows ++ gw 16 r2 rc2 6 parts)) s.heap.size = A at hD hG ⊢
  have hA : ∀ q : Nat, s.heap.size ≤ q → A q := fun q h => by rw [← hAe]; exact Or.inr h
  have hS : va_S A s.heap s.heap [] := va_S.rf
  have hl := lv_entry ([.ref (ad 0), .int x1]) (n := 6) (Nat.le_of_ble_eq_true rfl)
  rw [lg_entry_eq]
  generalize (lg_sl ([.ref (ad 0), .int x1]) ++ List.replicate (6 - (lg_sl ([.ref (ad 0), .int x1])).length) Slot.unset).toArray = ls at hl ⊢
  have hl : lv_has ls 6 [(0, .ref (ad 0)), (1, .int x1)] := hl
  unfold d_MR_headIsRight at h
  refine lv_aload_n hx hb d_MR_headIsRight_0 rfl (lv_at hl 0 rfl) ?_
  refine va_get (D := (dC, dI)) (ci := 0) (v := .ref (ad 1)) (C := R_MR) (T := T_MR) (N := 13) hx hb hB in_MR hown hK hP 0 rfl rfl 2 (by decide) (hB _ wd_111) (fun _ h9 => h9) rfl d_MR_headIsRight_1 ?_
  refine lv_iload_n hx hb d_MR_headIsRight_4 rfl (lv_at hl 1 rfl) ?_
  refine lv_iconst (v := 2) hx hb d_MR_headIsRight_5 (by decide) ?_
  refine lv_iadd hx hb d_MR_headIsRight_6 ?_
  obtain ⟨b_1, h⟩ := gI_some h
  refine va_iald hx hb hK hP 1 0 rfl rfl b_1 d_MR_headIsRight_7 ?_
  refine lv_istore_n (lv' := [(2, .int (bytes (x1 + (2 : Int32)).toNatClampNeg)), (0, .ref (ad 0)), (1, .int x1)]) hx hb d_MR_headIsRight_8 rfl hl (by decide) rfl (fun ls hl => ?_)
  refine lv_aload_n hx hb d_MR_headIsRight_9 rfl (lv_at hl 1 rfl) ?_
  refine va_get (D := (dC, dI)) (ci := 0) (v := .ref (ad 1)) (C := R_MR) (T := T_MR) (N := 13) hx hb hB in_MR hown hK hP 0 rfl rfl 2 (by decide) (hB _ wd_111) (fun _ h9 => h9) rfl d_MR_headIsRight_10 ?_
  refine lv_iload_n hx hb d_MR_headIsRight_13 rfl (lv_at hl 2 rfl) ?_
  refine lv_iconst (v := 3) hx hb d_MR_headIsRight_14 (by decide) ?_
  refine lv_iadd hx hb d_MR_headIsRight_15 ?_
  obtain ⟨b_2, h⟩ := gI_some h
  refine va_iald hx hb hK hP 1 0 rfl rfl b_2 d_MR_headIsRight_16 ?_
  refine lv_istore_n (lv' := [(3, .int (bytes (x1 + (3 : Int32)).toNatClampNeg)), (2, .int (bytes (x1 + (2 : Int32)).toNatClampNeg)), (0, .ref (ad 0)), (1, .int x1)]) hx hb d_MR_headIsRight_17 rfl hl (by decide) rfl (fun ls hl => ?_)
  refine lv_aload_n hx hb d_MR_headIsRight_18 rfl (lv_at hl 2 rfl) ?_
  refine va_get (D := (dC, dI)) (ci := 0) (v := .ref (ad 1)) (C := R_MR) (T := T_MR) (N := 13) hx hb hB in_MR hown hK hP 0 rfl rfl 2 (by decide) (hB _ wd_111) (fun _ h9 => h9) rfl d_MR_headIsRight_19 ?_
  refine lv_iload_n hx hb d_MR_headIsRight_22 rfl (lv_at hl 3 rfl) ?_
  refine lv_iconst (v := 4) hx hb d_MR_headIsRight_23 (by decide) ?_
  refine lv_iadd hx hb d_MR_headIsRight_24 ?_
  obtain ⟨b_3, h⟩ := gI_some h
  refine va_iald hx hb hK hP 1 0 rfl rfl b_3 d_MR_headIsRight_25 ?_
  refine lv_istore (lv' := [(4, .int (bytes (x1 + (4 : Int32)).toNatClampNeg)), (3, .int (bytes (x1 + (3 : Int32)).toNatClampNeg)), (2, .int (bytes (x1 + (2 : Int32)).toNatClampNeg)), (0, .ref (ad 0)), (1, .int x1)]) hx hb d_MR_headIsRight_26 hl (by decide) rfl (fun ls hl => ?_)
  refine lv_bipush (v := 7) hx hb d_MR_headIsRight_28 (by decide) ?_
  refine lv_iload_n hx hb d_MR_headIsRight_30 rfl (lv_at hl 2 rfl) ?_
  refine lv_imul hx hb d_MR_headIsRight_31 ?_
  refine lv_bipush (v := 31) hx hb d_MR_headIsRight_32 (by decide) ?_
  refine lv_iload_n hx hb d_MR_headIsRight_34 rfl (lv_at hl 1 rfl) ?_
  refine lv_imul hx hb d_MR_headIsRight_35 ?_
  refine lv_iadd hx hb d_MR_headIsRight_36 ?_
  refine lv_iload hx hb d_MR_headIsRight_37 (lv_at hl 0 rfl) ?_
  refine lv_iadd hx hb d_MR_headIsRight_39 ?_
  refine lv_sipush (v := 165) hx hb d_MR_headIsRight_40 (by decide) ?_
  refine lv_iadd hx hb d_MR_headIsRight_43 ?_
  refine lv_sipush (v := 256) hx hb d_MR_headIsRight_44 (by decide) ?_
  refine lv_irem hx hb d_MR_headIsRight_47 (by decide) ?_
  refine lv_istore (lv' := [(5, .int ((((((7 : Int32) * (bytes (x1 + (2 : Int32)).toNatClampNeg)) + ((31 : Int32) * (bytes (x1 + (3 : Int32)).toNatClampNeg))) + (bytes (x1 + (4 : Int32)).toNatClampNeg)) + (165 : Int32)) - (((((7 : Int32) * (bytes (x1 + (2 : Int32)).toNatClampNeg)) + ((31 : Int32) * (bytes (x1 + (3 : Int32)).toNatClampNeg))) + (bytes (x1 + (4 : Int32)).toNatClampNeg)) + (165 : Int32)) / (256 : Int32) * (256 : Int32))), (4, .int (bytes (x1 + (4 : Int32)).toNatClampNeg)), (3, .int (bytes (x1 + (3 : Int32)).toNatClampNeg)), (2, .int (bytes (x1 + (2 : Int32)).toNatClampNeg)), (0, .ref (ad 0)), (1, .int x1)]) hx hb d_MR_headIsRight_48 hl (by decide) rfl (fun ls hl => ?_)
  refine lv_iload_n hx hb d_MR_headIsRight_50 rfl (lv_at hl 3 rfl) ?_
  refine lv_bipush (v := 15) hx hb d_MR_headIsRight_51 (by decide) ?_
  refine lv_icmp_gt (tgt := 85) hx hb d_MR_headIsRight_53 (by decide) (fun c_4 => ?_) (fun c_4 => ?_)
  · have h := (if_pos c_4).symm.trans h
    refine lv_iconst (v := 0) hx hb d_MR_headIsRight_85 (by decide) ?_
    have h := Option.some.inj h
    subst h
    exact W.zret hx hb hr rfl (fun t ht hW => ⟨⟨_, (), rfl, rfl, AftW_mk hK hP hD ht hW⟩, hS.F ht⟩) hS.2.2 d_MR_headIsRight_86
  · have h := (if_neg c_4).symm.trans h
    refine lv_iload_n hx hb d_MR_headIsRight_56 rfl (lv_at hl 2 rfl) ?_
    refine lv_iconst (v := 4) hx hb d_MR_headIsRight_57 (by decide) ?_
    refine lv_icmp_gt (tgt := 85) hx hb d_MR_headIsRight_58 (by decide) (fun c_5 => ?_) (fun c_5 => ?_)
    · have h := (if_pos c_5).symm.trans h
      refine lv_iconst (v := 0) hx hb d_MR_headIsRight_85 (by decide) ?_
      have h := Option.some.inj h
      subst h
      exact W.zret hx hb hr rfl (fun t ht hW => ⟨⟨_, (), rfl, rfl, AftW_mk hK hP hD ht hW⟩, hS.F ht⟩) hS.2.2 d_MR_headIsRight_86
    · have h := (if_neg c_5).symm.trans h
      refine lv_iload hx hb d_MR_headIsRight_61 (lv_at hl 1 rfl) ?_
      refine lv_bipush (v := 64) hx hb d_MR_headIsRight_63 (by decide) ?_
      refine lv_icmp_gt (tgt := 85) hx hb d_MR_headIsRight_65 (by decide) (fun c_6 => ?_) (fun c_6 => ?_)
      · have h := (if_pos c_6).symm.trans h
        refine lv_iconst (v := 0) hx hb d_MR_headIsRight_85 (by decide) ?_
        have h := Option.some.inj h
        subst h
        exact W.zret hx hb hr rfl (fun t ht hW => ⟨⟨_, (), rfl, rfl, AftW_mk hK hP hD ht hW⟩, hS.F ht⟩) hS.2.2 d_MR_headIsRight_86
      · have h := (if_neg c_6).symm.trans h
        refine lv_aload_n hx hb d_MR_headIsRight_68 rfl (lv_at hl 4 rfl) ?_
        refine va_get (D := (dC, dI)) (ci := 0) (v := .ref (ad 1)) (C := R_MR) (T := T_MR) (N := 13) hx hb hB in_MR hown hK hP 0 rfl rfl 2 (by decide) (hB _ wd_111) (fun _ h9 => h9) rfl d_MR_headIsRight_69 ?_
        refine lv_iload_n hx hb d_MR_headIsRight_72 rfl (lv_at hl 5 rfl) ?_
        refine lv_iconst (v := 5) hx hb d_MR_headIsRight_73 (by decide) ?_
        refine lv_iadd hx hb d_MR_headIsRight_74 ?_
        obtain ⟨b_7, h⟩ := gI_some h
        refine va_iald hx hb hK hP 1 0 rfl rfl b_7 d_MR_headIsRight_75 ?_
        refine lv_iload hx hb d_MR_headIsRight_76 (lv_at hl 0 rfl) ?_
        refine lv_icmp_ne (tgt := 85) hx hb d_MR_headIsRight_78 (by decide) (fun c_8 => ?_) (fun c_8 => ?_)
        · have h := (if_neg c_8).symm.trans h
          refine lv_iconst (v := 0) hx hb d_MR_headIsRight_85 (by decide) ?_
          have h := Option.some.inj h
          subst h
          exact W.zret hx hb hr rfl (fun t ht hW => ⟨⟨_, (), rfl, rfl, AftW_mk hK hP hD ht hW⟩, hS.F ht⟩) hS.2.2 d_MR_headIsRight_86
        · have h := (if_pos c_8).symm.trans h
          refine lv_iconst (v := 1) hx hb d_MR_headIsRight_81 (by decide) ?_
          refine lv_goto (tgt := 86) hx hb d_MR_headIsRight_82 (by decide) ?_
          have h := Option.some.inj h
          subst h
          exact W.zret hx hb hr rfl (fun t ht hW => ⟨⟨_, (), rfl, rfl, AftW_mk hK hP hD ht hW⟩, hS.F ht⟩) hS.2.2 d_MR_headIsRight_86
def d_MR_dataAreThere (N : Nat) (x1 : Int32) (byteCount : Int32) (bytes : Nat → Int32) : Option (Int32) :=
 gI (x1 + (4 : Int32)) 1200 (if byteCount < ((x1 + (6 : Int32)) + (bytes (x1 + (4 : Int32)).toNatClampNeg)) then some (0 : Int32) else some (1 : Int32))
abbrev rm_MR_dataAreThere : Room := { frames := 0, cells := 0, slots := 0, locals := 0 }
set_option maxHeartbeats 4000000 in
set_option maxRecDepth 100000 in
theorem c_MR_dataAreThere (l : Launch) (dC : Nat → ClassId) (dI : Nat → Nat → Nat) (tt : Nat → Nat) (ad : Nat → Nat) (cs : Nat → ClassId) (r1 : Nat → Nat) (rc1 : ClassId) (r2 : Nat → Nat) (rc2 : ClassId) (sz N : Nat) (x1 : Int32) (kind : Int32) (steps : Int32) (byteCount : Int32) (partCount : Int32) (stepsTaken : Int32) (hasRun : Int32) (lackedSteps : Int32) (decodings : Int32) (thrownDecodings : Int32) (bytes : Nat → Int32) (size : Int32) (count : Int32) (data : Nat → Int32) (made : Nat → Int32) (holds : Nat → Int32) (numbers : Nat → Int32) (lengths : Nat → Int32) (values : Nat → Int32) (states : Nat → Int32) (rows : Nat → Nat → Int32) (parts : Nat → Nat → Int32) (out : Int32) (h : d_MR_dataAreThere N x1 byteCount bytes = some out) :
    Met l y_MR_dataAreThere (w_MR_dataAreThere) rm_MR_dataAreThere (va_Pc [.ref (ad 0), .int x1] (PreW (dC, dI) [((cs 1), .int), ((cs 2), .array .int), ((cs 4), .int), ((cs 5), .int), ((cs 7), .int), ((cs 8), .int), ((cs 9), .int), ((cs 10), .array .int), ((cs 12), .int), ((cs 13), .int), (rc1, .int), (rc2, .int)] ((x_MR ad cs r1 r2 kind steps byteCount partCount stepsTaken hasRun lackedSteps decodings thrownDecodings bytes size count data made holds numbers lengths values states) ++ (gw 8 r1 rc1 5 rows ++ gw 16 r2 rc2 6 parts)) sz tt)) (va_Qi (fun (r : Int32) (_ : Unit) => r = out) (fun _ => AftW (dC, dI) [((cs 1), .int), ((cs 2), .array .int), ((cs 4), .int), ((cs 5), .int), ((cs 7), .int), ((cs 8), .int), ((cs 9), .int), ((cs 10), .array .int), ((cs 12), .int), ((cs 13), .int), (rc1, .int), (rc2, .int)] (va_A ((x_MR ad cs r1 r2 kind steps byteCount partCount stepsTaken hasRun lackedSteps decodings thrownDecodings bytes size count data made holds numbers lengths values states) ++ (gw 8 r1 rc1 5 rows ++ gw 16 r2 rc2 6 parts)) sz) ((x_MR ad cs r1 r2 kind steps byteCount partCount stepsTaken hasRun lackedSteps decodings thrownDecodings bytes size count data made holds numbers lengths values states) ++ (gw 8 r1 rc1 5 rows ++ gw 16 r2 rc2 6 parts))) (va_A ((x_MR ad cs r1 r2 kind steps byteCount partCount stepsTaken hasRun lackedSteps decodings thrownDecodings bytes size count data made holds numbers lengths values states) ++ (gw 8 r1 rc1 5 rows ++ gw 16 r2 rc2 6 parts)) sz)) 0 0 (va_A ((x_MR ad cs r1 r2 kind steps byteCount partCount stepsTaken hasRun lackedSteps decodings thrownDecodings bytes size count data made holds numbers lengths values states) ++ (gw 8 r1 rc1 5 rows ++ gw 16 r2 rc2 6 parts)) sz) := by
  refine Met.ofW (cc := k_MR_dataAreThere) (maxL := 2) (ret := (some .boolean)) (by decide) rfl ?_
  intro p e s m args below meth c s₁ B hml hv
  obtain ⟨rfl, hsz, hP, hK, hD0, hG⟩ := hv
  have hx := B.exec
  have hb := B.bytes
  have hr := B.returns
  have hts := atoms_spec (ws := (w_MR_dataAreThere)) B.pre
  have hB : ∀ w ∈ BIG, w.before _ s = true := fun w h9 => hts w (List.mem_cons_of_mem _ h9)
  have hown : s.vm.findClass R_MR = some m.cls := findClass_of_methodNamed B.named
  have hlocks := B.notSynchronized
  subst hsz
  have hD := hD0.self (sz := s.heap.size)
  generalize hAe : va_A ((x_MR ad cs r1 r2 kind steps byteCount partCount stepsTaken hasRun lackedSteps decodings thrownDecodings bytes size count data made holds numbers lengths values states) ++ (gw 8 r1 rc1 5 rows ++ gw 16 r2 rc2 6 parts)) s.heap.size = A at hD hG ⊢
  have hA : ∀ q : Nat, s.heap.size ≤ q → A q := fun q h => by rw [← hAe]; exact Or.inr h
  have hS : va_S A s.heap s.heap [] := va_S.rf
  have hl := lv_entry ([.ref (ad 0), .int x1]) (n := 2) (Nat.le_of_ble_eq_true rfl)
  rw [lg_entry_eq]
  generalize (lg_sl ([.ref (ad 0), .int x1]) ++ List.replicate (2 - (lg_sl ([.ref (ad 0), .int x1])).length) Slot.unset).toArray = ls at hl ⊢
  have hl : lv_has ls 2 [(0, .ref (ad 0)), (1, .int x1)] := hl
  unfold d_MR_dataAreThere at h
  refine lv_iload_n hx hb d_MR_dataAreThere_0 rfl (lv_at hl 1 rfl) ?_
  refine lv_bipush (v := 6) hx hb d_MR_dataAreThere_1 (by decide) ?_
  refine lv_iadd hx hb d_MR_dataAreThere_3 ?_
  refine lv_aload_n hx hb d_MR_dataAreThere_4 rfl (lv_at hl 0 rfl) ?_
  refine va_get (D := (dC, dI)) (ci := 0) (v := .ref (ad 1)) (C := R_MR) (T := T_MR) (N := 13) hx hb hB in_MR hown hK hP 0 rfl rfl 2 (by decide) (hB _ wd_111) (fun _ h9 => h9) rfl d_MR_dataAreThere_5 ?_
  refine lv_iload_n hx hb d_MR_dataAreThere_8 rfl (lv_at hl 1 rfl) ?_
  refine lv_iconst (v := 4) hx hb d_MR_dataAreThere_9 (by decide) ?_
  refine lv_iadd hx hb d_MR_dataAreThere_10 ?_
  obtain ⟨b_1, h⟩ := gI_some h
  refine va_iald hx hb hK hP 1 0 rfl rfl b_1 d_MR_dataAreThere_11 ?_
  refine lv_iadd hx hb d_MR_dataAreThere_12 ?_
  refine lv_aload_n hx hb d_MR_dataAreThere_13 rfl (lv_at hl 0 rfl) ?_
  refine va_get (D := (dC, dI)) (ci := 0) (v := .int byteCount) (C := R_MR) (T := T_MR) (N := 13) hx hb hB in_MR hown hK hP 0 rfl rfl 6 (by decide) (hB _ wd_110) (fun _ h9 => h9) rfl d_MR_dataAreThere_14 ?_
  refine lv_icmp_gt (tgt := 24) hx hb d_MR_dataAreThere_17 (by decide) (fun c_2 => ?_) (fun c_2 => ?_)
  · have h := (if_pos c_2).symm.trans h
    refine lv_iconst (v := 0) hx hb d_MR_dataAreThere_24 (by decide) ?_
    have h := Option.some.inj h
    subst h
    exact W.zret hx hb hr rfl (fun t ht hW => ⟨⟨_, (), rfl, rfl, AftW_mk hK hP hD ht hW⟩, hS.F ht⟩) hS.2.2 d_MR_dataAreThere_25
  · have h := (if_neg c_2).symm.trans h
    refine lv_iconst (v := 1) hx hb d_MR_dataAreThere_20 (by decide) ?_
    refine lv_goto (tgt := 25) hx hb d_MR_dataAreThere_21 (by decide) ?_
    have h := Option.some.inj h
    subst h
    exact W.zret hx hb hr rfl (fun t ht hW => ⟨⟨_, (), rfl, rfl, AftW_mk hK hP hD ht hW⟩, hS.F ht⟩) hS.2.2 d_MR_dataAreThere_25
def d_MR_keepPart (N : Nat) (x1 : Int32) (x2 : Int32) (x3 : Int32) (x4 : Int32) (x5 : Int32) (partCount : Int32) (parts : Nat → Nat → Int32) : Option (Int32 × Int32 × (Nat → Nat → Int32)) :=
 gI partCount 16 (some ((x1 + (6 : Int32)) + x4, partCount + (1 : Int32), upd2 (upd2 (upd2 (upd2 (upd2 (upd2 parts partCount.toNatClampNeg (0 : Int32).toNatClampNeg x1) partCount.toNatClampNeg (1 : Int32).toNatClampNeg x2) partCount.toNatClampNeg (2 : Int32).toNatClampNeg x3) partCount.toNatClampNeg (3 : Int32).toNatClampNeg x4) partCount.toNatClampNeg (4 : Int32).toNatClampNeg x5) partCount.toNatClampNeg (5 : Int32).toNatClampNeg (-1 : Int32)))
abbrev rm_MR_keepPart : Room := { frames := 0, cells := 0, slots := 0, locals := 0 }
set_option maxHeartbeats 4000000 in
set_option maxRecDepth 100000 in
theorem c_MR_keepPart (l : Launch) (dC : Nat → ClassId) (dI : Nat → Nat → Nat) (tt : Nat → Nat) (ad : Nat → Nat) (cs : Nat → ClassId) (r1 : Nat → Nat) (rc1 : ClassId) (r2 : Nat → Nat) (rc2 : ClassId) (sz N : Nat) (x1 : Int32) (x2 : Int32) (x3 : Int32) (x4 : Int32) (x5 : Int32) (kind : Int32) (steps : Int32) (byteCount : Int32) (partCount : Int32) (stepsTaken : Int32) (hasRun : Int32) (lackedSteps : Int32) (decodings : Int32) (thrownDecodings : Int32) (bytes : Nat → Int32) (size : Int32) (count : Int32) (data : Nat → Int32) (made : Nat → Int32) (holds : Nat → Int32) (numbers : Nat → Int32) (lengths : Nat → Int32) (values : Nat → Int32) (states : Nat → Int32) (rows : Nat → Nat → Int32) (parts : Nat → Nat → Int32) (out : Int32 × Int32 × (Nat → Nat → Int32)) (h : d_MR_keepPart N x1 x2 x3 x4 x5 partCount parts = some out) :
    Met l y_MR_keepPart (w_MR_keepPart) rm_MR_keepPart (va_Pc [.ref (ad 0), .int x1, .int x2, .int x3, .int x4, .int x5] (PreW (dC, dI) [((cs 1), .int), ((cs 2), .array .int), ((cs 4), .int), ((cs 5), .int), ((cs 7), .int), ((cs 8), .int), ((cs 9), .int), ((cs 10), .array .int), ((cs 12), .int), ((cs 13), .int), (rc1, .int), (rc2, .int)] ((x_MR ad cs r1 r2 kind steps byteCount partCount stepsTaken hasRun lackedSteps decodings thrownDecodings bytes size count data made holds numbers lengths values states) ++ (gw 8 r1 rc1 5 rows ++ gw 16 r2 rc2 6 parts)) sz tt)) (va_Qi (fun (r : Int32) (_ : Unit) => r = out.1) (fun _ => AftW (dC, dI) [((cs 1), .int), ((cs 2), .array .int), ((cs 4), .int), ((cs 5), .int), ((cs 7), .int), ((cs 8), .int), ((cs 9), .int), ((cs 10), .array .int), ((cs 12), .int), ((cs 13), .int), (rc1, .int), (rc2, .int)] (va_A ((x_MR ad cs r1 r2 kind steps byteCount partCount stepsTaken hasRun lackedSteps decodings thrownDecodings bytes size count data made holds numbers lengths values states) ++ (gw 8 r1 rc1 5 rows ++ gw 16 r2 rc2 6 parts)) sz) ((x_MR ad cs r1 r2 kind steps byteCount out.2.1 stepsTaken hasRun lackedSteps decodings thrownDecodings bytes size count data made holds numbers lengths values states) ++ (gw 8 r1 rc1 5 rows ++ gw 16 r2 rc2 6 out.2.2))) (va_A ((x_MR ad cs r1 r2 kind steps byteCount partCount stepsTaken hasRun lackedSteps decodings thrownDecodings bytes size count data made holds numbers lengths values states) ++ (gw 8 r1 rc1 5 rows ++ gw 16 r2 rc2 6 parts)) sz)) 0 0 (va_A ((x_MR ad cs r1 r2 kind steps byteCount partCount stepsTaken hasRun lackedSteps decodings thrownDecodings bytes size count data made holds numbers lengths values states) ++ (gw 8 r1 rc1 5 rows ++ gw 16 r2 rc2 6 parts)) sz) := by
  refine Met.ofW (cc := k_MR_keepPart) (maxL := 7) (ret := (some .int)) (by decide) rfl ?_
  intro p e s m args below meth c s₁ B hml hv
  obtain ⟨rfl, hsz, hP, hK, hD0, hG⟩ := hv
  have hx := B.exec
  have hb := B.bytes
  have hr := B.returns
  have hts := atoms_spec (ws := (w_MR_keepPart)) B.pre
  have hB : ∀ w ∈ BIG, w.before _ s = true := fun w h9 => hts w (List.mem_cons_of_mem _ h9)
  have hown : s.vm.findClass R_MR = some m.cls := findClass_of_methodNamed B.named
  have hlocks := B.notSynchronized
  subst hsz
  have hD := hD0.self (sz := s.heap.size)
  generalize hAe : va_A ((x_MR ad cs r1 r2 kind steps byteCount partCount stepsTaken hasRun lackedSteps decodings thrownDecodings bytes size count data made holds numbers lengths values states) ++ (gw 8 r1 rc1 5 rows ++ gw 16 r2 rc2 6 parts)) s.heap.size = A at hD hG ⊢
  have hA : ∀ q : Nat, s.heap.size ≤ q → A q := fun q h => by rw [← hAe]; exact Or.inr h
  have hS : va_S A s.heap s.heap [] := va_S.rf
  have hl := lv_entry ([.ref (ad 0), .int x1, .int x2, .int x3, .int x4, .int x5]) (n := 7) (Nat.le_of_ble_eq_true rfl)
  rw [lg_entry_eq]
  generalize (lg_sl ([.ref (ad 0), .int x1, .int x2, .int x3, .int x4, .int x5]) ++ List.replicate (7 - (lg_sl ([.ref (ad 0), .int x1, .int x2, .int x3, .int x4, .int x5])).length) Slot.unset).toArray = ls at hl ⊢
  have hl : lv_has ls 7 [(0, .ref (ad 0)), (1, .int x1), (2, .int x2), (3, .int x3), (4, .int x4), (5, .int x5)] := hl
  unfold d_MR_keepPart at h
  refine lv_aload_n hx hb d_MR_keepPart_0 rfl (lv_at hl 0 rfl) ?_
  refine va_get (D := (dC, dI)) (ci := 0) (v := .ref (ad 2)) (C := R_MR) (T := T_MR) (N := 13) hx hb hB in_MR hown hK hP 0 rfl rfl 3 (by decide) (hB _ wd_115) (fun _ h9 => h9) rfl d_MR_keepPart_1 ?_
  refine lv_aload_n hx hb d_MR_keepPart_4 rfl (lv_at hl 0 rfl) ?_
  refine va_get (D := (dC, dI)) (ci := 0) (v := .int partCount) (C := R_MR) (T := T_MR) (N := 13) hx hb hB in_MR hown hK hP 0 rfl rfl 7 (by decide) (hB _ wd_99) (fun _ h9 => h9) rfl d_MR_keepPart_5 ?_
  obtain ⟨b_1, h⟩ := gI_some h
  refine gr_aald hx hb hK hP 2 1 rfl rfl b_1 d_MR_keepPart_8 ?_
  refine lv_astore (lv' := [(6, .ref (r2 partCount.toNatClampNeg)), (0, .ref (ad 0)), (1, .int x1), (2, .int x2), (3, .int x3), (4, .int x4), (5, .int x5)]) hx hb d_MR_keepPart_9 hl (by decide) rfl (fun ls hl => ?_)
  refine lv_aload hx hb d_MR_keepPart_11 (lv_at hl 0 rfl) ?_
  refine lv_iconst (v := 0) hx hb d_MR_keepPart_13 (by decide) ?_
  refine lv_iload_n hx hb d_MR_keepPart_14 rfl (lv_at hl 2 rfl) ?_
  refine gr_ast2 hx hb hK hP hD hS 11 rfl (in_lt b_1) (show ¬ ((0 : Int32) < 0 ∨ 6 ≤ (0 : Int32).toNatClampNeg) from by decide) d_MR_keepPart_15 (fun H locs hP hD hS => ?_)
  have hP : va_P (dC, dI) vwCl ((x_MR ad cs r1 r2 kind steps byteCount partCount stepsTaken hasRun lackedSteps decodings thrownDecodings bytes size count data made holds numbers lengths values states) ++ (gw 8 r1 rc1 5 rows ++ gw 16 r2 rc2 6 (upd2 parts partCount.toNatClampNeg (0 : Int32).toNatClampNeg x1))) H := hP
  have hD : va_D A ((x_MR ad cs r1 r2 kind steps byteCount partCount stepsTaken hasRun lackedSteps decodings thrownDecodings bytes size count data made holds numbers lengths values states) ++ (gw 8 r1 rc1 5 rows ++ gw 16 r2 rc2 6 (upd2 parts partCount.toNatClampNeg (0 : Int32).toNatClampNeg x1))) := hD
  refine lv_aload hx hb d_MR_keepPart_16 (lv_at hl 0 rfl) ?_
  refine lv_iconst (v := 1) hx hb d_MR_keepPart_18 (by decide) ?_
  refine lv_iload_n hx hb d_MR_keepPart_19 rfl (lv_at hl 3 rfl) ?_
  refine gr_ast2 hx hb hK hP hD hS 11 rfl (in_lt b_1) (show ¬ ((1 : Int32) < 0 ∨ 6 ≤ (1 : Int32).toNatClampNeg) from by decide) d_MR_keepPart_20 (fun H locs hP hD hS => ?_)
  have hP : va_P (dC, dI) vwCl ((x_MR ad cs r1 r2 kind steps byteCount partCount stepsTaken hasRun lackedSteps decodings thrownDecodings bytes size count data made holds numbers lengths values states) ++ (gw 8 r1 rc1 5 rows ++ gw 16 r2 rc2 6 (upd2 (upd2 parts partCount.toNatClampNeg (0 : Int32).toNatClampNeg x1) partCount.toNatClampNeg (1 : Int32).toNatClampNeg x2))) H := hP
  have hD : va_D A ((x_MR ad cs r1 r2 kind steps byteCount partCount stepsTaken hasRun lackedSteps decodings thrownDecodings bytes size count data made holds numbers lengths values states) ++ (gw 8 r1 rc1 5 rows ++ gw 16 r2 rc2 6 (upd2 (upd2 parts partCount.toNatClampNeg (0 : Int32).toNatClampNeg x1) partCount.toNatClampNeg (1 : Int32).toNatClampNeg x2))) := hD
  refine lv_aload hx hb d_MR_keepPart_21 (lv_at hl 0 rfl) ?_
  refine lv_iconst (v := 2) hx hb d_MR_keepPart_23 (by decide) ?_
  refine lv_iload_n hx hb d_MR_keepPart_24 rfl (lv_at hl 4 rfl) ?_
  refine gr_ast2 hx hb hK hP hD hS 11 rfl (in_lt b_1) (show ¬ ((2 : Int32) < 0 ∨ 6 ≤ (2 : Int32).toNatClampNeg) from by decide) d_MR_keepPart_25 (fun H locs hP hD hS => ?_)
  have hP : va_P (dC, dI) vwCl ((x_MR ad cs r1 r2 kind steps byteCount partCount stepsTaken hasRun lackedSteps decodings thrownDecodings bytes size count data made holds numbers lengths values states) ++ (gw 8 r1 rc1 5 rows ++ gw 16 r2 rc2 6 (upd2 (upd2 (upd2 parts partCount.toNatClampNeg (0 : Int32).toNatClampNeg x1) partCount.toNatClampNeg (1 : Int32).toNatClampNeg x2) partCount.toNatClampNeg (2 : Int32).toNatClampNeg x3))) H := hP
  have hD : va_D A ((x_MR ad cs r1 r2 kind steps byteCount partCount stepsTaken hasRun lackedSteps decodings thrownDecodings bytes size count data made holds numbers lengths values states) ++ (gw 8 r1 rc1 5 rows ++ gw 16 r2 rc2 6 (upd2 (upd2 (upd2 parts partCount.toNatClampNeg (0 : Int32).toNatClampNeg x1) partCount.toNatClampNeg (1 : Int32).toNatClampNeg x2) partCount.toNatClampNeg (2 : Int32).toNatClampNeg x3))) := hD
  refine lv_aload hx hb d_MR_keepPart_26 (lv_at hl 0 rfl) ?_
  refine lv_iconst (v := 3) hx hb d_MR_keepPart_28 (by decide) ?_
  refine lv_iload hx hb d_MR_keepPart_29 (lv_at hl 5 rfl) ?_
  refine gr_ast2 hx hb hK hP hD hS 11 rfl (in_lt b_1) (show ¬ ((3 : Int32) < 0 ∨ 6 ≤ (3 : Int32).toNatClampNeg) from by decide) d_MR_keepPart_31 (fun H locs hP hD hS => ?_)
  have hP : va_P (dC, dI) vwCl ((x_MR ad cs r1 r2 kind steps byteCount partCount stepsTaken hasRun lackedSteps decodings thrownDecodings bytes size count data made holds numbers lengths values states) ++ (gw 8 r1 rc1 5 rows ++ gw 16 r2 rc2 6 (upd2 (upd2 (upd2 (upd2 parts partCount.toNatClampNeg (0 : Int32).toNatClampNeg x1) partCount.toNatClampNeg (1 : Int32).toNatClampNeg x2) partCount.toNatClampNeg (2 : Int32).toNatClampNeg x3) partCount.toNatClampNeg (3 : Int32).toNatClampNeg x4))) H := hP
  have hD : va_D A ((x_MR ad cs r1 r2 kind steps byteCount partCount stepsTaken hasRun lackedSteps decodings thrownDecodings bytes size count data made holds numbers lengths values states) ++ (gw 8 r1 rc1 5 rows ++ gw 16 r2 rc2 6 (upd2 (upd2 (upd2 (upd2 parts partCount.toNatClampNeg (0 : Int32).toNatClampNeg x1) partCount.toNatClampNeg (1 : Int32).toNatClampNeg x2) partCount.toNatClampNeg (2 : Int32).toNatClampNeg x3) partCount.toNatClampNeg (3 : Int32).toNatClampNeg x4))) := hD
  refine lv_aload hx hb d_MR_keepPart_32 (lv_at hl 0 rfl) ?_
  refine lv_iconst (v := 4) hx hb d_MR_keepPart_34 (by decide) ?_
  refine lv_iload hx hb d_MR_keepPart_35 (lv_at hl 6 rfl) ?_
  refine gr_ast2 hx hb hK hP hD hS 11 rfl (in_lt b_1) (show ¬ ((4 : Int32) < 0 ∨ 6 ≤ (4 : Int32).toNatClampNeg) from by decide) d_MR_keepPart_37 (fun H locs hP hD hS => ?_)
  have hP : va_P (dC, dI) vwCl ((x_MR ad cs r1 r2 kind steps byteCount partCount stepsTaken hasRun lackedSteps decodings thrownDecodings bytes size count data made holds numbers lengths values states) ++ (gw 8 r1 rc1 5 rows ++ gw 16 r2 rc2 6 (upd2 (upd2 (upd2 (upd2 (upd2 parts partCount.toNatClampNeg (0 : Int32).toNatClampNeg x1) partCount.toNatClampNeg (1 : Int32).toNatClampNeg x2) partCount.toNatClampNeg (2 : Int32).toNatClampNeg x3) partCount.toNatClampNeg (3 : Int32).toNatClampNeg x4) partCount.toNatClampNeg (4 : Int32).toNatClampNeg x5))) H := hP
  have hD : va_D A ((x_MR ad cs r1 r2 kind steps byteCount partCount stepsTaken hasRun lackedSteps decodings thrownDecodings bytes size count data made holds numbers lengths values states) ++ (gw 8 r1 rc1 5 rows ++ gw 16 r2 rc2 6 (upd2 (upd2 (upd2 (upd2 (upd2 parts partCount.toNatClampNeg (0 : Int32).toNatClampNeg x1) partCount.toNatClampNeg (1 : Int32).toNatClampNeg x2) partCount.toNatClampNeg (2 : Int32).toNatClampNeg x3) partCount.toNatClampNeg (3 : Int32).toNatClampNeg x4) partCount.toNatClampNeg (4 : Int32).toNatClampNeg x5))) := hD
  refine lv_aload hx hb d_MR_keepPart_38 (lv_at hl 0 rfl) ?_
  refine lv_iconst (v := 5) hx hb d_MR_keepPart_40 (by decide) ?_
  refine lv_iconst (v := (-1)) hx hb d_MR_keepPart_41 (by decide) ?_
  refine gr_ast2 hx hb hK hP hD hS 11 rfl (in_lt b_1) (show ¬ ((5 : Int32) < 0 ∨ 6 ≤ (5 : Int32).toNatClampNeg) from by decide) d_MR_keepPart_42 (fun H locs hP hD hS => ?_)
  have hP : va_P (dC, dI) vwCl ((x_MR ad cs r1 r2 kind steps byteCount partCount stepsTaken hasRun lackedSteps decodings thrownDecodings bytes size count data made holds numbers lengths values states) ++ (gw 8 r1 rc1 5 rows ++ gw 16 r2 rc2 6 (upd2 (upd2 (upd2 (upd2 (upd2 (upd2 parts partCount.toNatClampNeg (0 : Int32).toNatClampNeg x1) partCount.toNatClampNeg (1 : Int32).toNatClampNeg x2) partCount.toNatClampNeg (2 : Int32).toNatClampNeg x3) partCount.toNatClampNeg (3 : Int32).toNatClampNeg x4) partCount.toNatClampNeg (4 : Int32).toNatClampNeg x5) partCount.toNatClampNeg (5 : Int32).toNatClampNeg (-1 : Int32)))) H := hP
  have hD : va_D A ((x_MR ad cs r1 r2 kind steps byteCount partCount stepsTaken hasRun lackedSteps decodings thrownDecodings bytes size count data made holds numbers lengths values states) ++ (gw 8 r1 rc1 5 rows ++ gw 16 r2 rc2 6 (upd2 (upd2 (upd2 (upd2 (upd2 (upd2 parts partCount.toNatClampNeg (0 : Int32).toNatClampNeg x1) partCount.toNatClampNeg (1 : Int32).toNatClampNeg x2) partCount.toNatClampNeg (2 : Int32).toNatClampNeg x3) partCount.toNatClampNeg (3 : Int32).toNatClampNeg x4) partCount.toNatClampNeg (4 : Int32).toNatClampNeg x5) partCount.toNatClampNeg (5 : Int32).toNatClampNeg (-1 : Int32)))) := hD
  refine lv_aload_n hx hb d_MR_keepPart_43 rfl (lv_at hl 1 rfl) ?_
  refine lv_dup hx hb d_MR_keepPart_44 rfl ?_
  refine va_get (D := (dC, dI)) (ci := 0) (v := .int partCount) (C := R_MR) (T := T_MR) (N := 13) hx hb hB in_MR hown hK hP 0 rfl rfl 7 (by decide) (hB _ wd_99) (fun _ h9 => h9) rfl d_MR_keepPart_45 ?_
  refine lv_iconst (v := 1) hx hb d_MR_keepPart_48 (by decide) ?_
  refine lv_iadd hx hb d_MR_keepPart_49 ?_
  refine va_put (D := (dC, dI)) (ci := 0) (v := .int (partCount + (1 : Int32))) (ty := .int) (C := R_MR) (T := T_MR) (N := 13) hx hb hB in_MR ty_MR tyok_MR nd_MR hown hK hP hD hS 0 rfl rfl 7 (by decide) (hB _ wd_99) (fun _ h9 => h9) rfl (by decide +kernel) rfl rfl (Nat.le_of_ble_eq_true rfl) d_MR_keepPart_50 (fun H locs hP hD hS => ?_)
  have hP : va_P (dC, dI) vwCl ((x_MR ad cs r1 r2 kind steps byteCount (partCount + (1 : Int32)) stepsTaken hasRun lackedSteps decodings thrownDecodings bytes size count data made holds numbers lengths values states) ++ (gw 8 r1 rc1 5 rows ++ gw 16 r2 rc2 6 (upd2 (upd2 (upd2 (upd2 (upd2 (upd2 parts partCount.toNatClampNeg (0 : Int32).toNatClampNeg x1) partCount.toNatClampNeg (1 : Int32).toNatClampNeg x2) partCount.toNatClampNeg (2 : Int32).toNatClampNeg x3) partCount.toNatClampNeg (3 : Int32).toNatClampNeg x4) partCount.toNatClampNeg (4 : Int32).toNatClampNeg x5) partCount.toNatClampNeg (5 : Int32).toNatClampNeg (-1 : Int32)))) H := hP
  have hD : va_D A ((x_MR ad cs r1 r2 kind steps byteCount (partCount + (1 : Int32)) stepsTaken hasRun lackedSteps decodings thrownDecodings bytes size count data made holds numbers lengths values states) ++ (gw 8 r1 rc1 5 rows ++ gw 16 r2 rc2 6 (upd2 (upd2 (upd2 (upd2 (upd2 (upd2 parts partCount.toNatClampNeg (0 : Int32).toNatClampNeg x1) partCount.toNatClampNeg (1 : Int32).toNatClampNeg x2) partCount.toNatClampNeg (2 : Int32).toNatClampNeg x3) partCount.toNatClampNeg (3 : Int32).toNatClampNeg x4) partCount.toNatClampNeg (4 : Int32).toNatClampNeg x5) partCount.toNatClampNeg (5 : Int32).toNatClampNeg (-1 : Int32)))) := hD
  refine lv_iload_n hx hb d_MR_keepPart_53 rfl (lv_at hl 2 rfl) ?_
  refine lv_bipush (v := 6) hx hb d_MR_keepPart_54 (by decide) ?_
  refine lv_iadd hx hb d_MR_keepPart_56 ?_
  refine lv_iload hx hb d_MR_keepPart_57 (lv_at hl 5 rfl) ?_
  refine lv_iadd hx hb d_MR_keepPart_59 ?_
  have h := Option.some.inj h
  subst h
  exact W.iret hx hb hr (fun t ht hW => ⟨⟨_, (), rfl, rfl, AftW_mk hK hP hD ht hW⟩, hS.F ht⟩) hS.2.2 d_MR_keepPart_60
def d_MR_guessSize_L2 (N : Nat) (y2_1 : Int32) (kind : Int32) (steps : Int32) (byteCount : Int32) (bytes : Nat → Int32) : Nat → Int32 → Int32 → Option (Int32 × Int32)
  | 0, _, _ => none
  | n + 1, y2_2, stepsTaken_2 => if (64 : Int32) ≤ y2_2 then some (y2_2, stepsTaken_2) else if steps ≤ stepsTaken_2 then some (y2_2, stepsTaken_2) else if byteCount ≤ (y2_1 + y2_2) then some (y2_2, stepsTaken_2) else (d_MR_markStandsAt N (y2_1 + y2_2) kind byteCount bytes).bind (fun o3004 => if o3004 = 0 then d_MR_guessSize_L2 N y2_1 kind steps byteCount bytes n (y2_2 + 1) (stepsTaken_2 + (1 : Int32)) else some (y2_2, stepsTaken_2))
def d_MR_guessSize (N : Nat) (x1 : Int32) (kind : Int32) (steps : Int32) (byteCount : Int32) (stepsTaken : Int32) (bytes : Nat → Int32) : Option (Int32 × Int32) :=
 (d_MR_guessSize_L2 N x1 kind steps byteCount bytes N (0 : Int32) stepsTaken).bind (fun s2 => some (s2.1, s2.2))
abbrev rm_MR_guessSize : Room := { frames := 1, cells := 0, slots := 0, locals := 21 }
set_option maxHeartbeats 4000000 in
set_option maxRecDepth 100000 in
theorem c_MR_guessSize (l : Launch) (dC : Nat → ClassId) (dI : Nat → Nat → Nat) (tt : Nat → Nat) (ad : Nat → Nat) (cs : Nat → ClassId) (r1 : Nat → Nat) (rc1 : ClassId) (r2 : Nat → Nat) (rc2 : ClassId) (sz N : Nat) (x1 : Int32) (kind : Int32) (steps : Int32) (byteCount : Int32) (partCount : Int32) (stepsTaken : Int32) (hasRun : Int32) (lackedSteps : Int32) (decodings : Int32) (thrownDecodings : Int32) (bytes : Nat → Int32) (size : Int32) (count : Int32) (data : Nat → Int32) (made : Nat → Int32) (holds : Nat → Int32) (numbers : Nat → Int32) (lengths : Nat → Int32) (values : Nat → Int32) (states : Nat → Int32) (rows : Nat → Nat → Int32) (parts : Nat → Nat → Int32) (out : Int32 × Int32) (h : d_MR_guessSize N x1 kind steps byteCount stepsTaken bytes = some out) :
    Met l y_MR_guessSize (w_MR_guessSize) rm_MR_guessSize (va_Pc [.ref (ad 0), .int x1] (PreW (dC, dI) [((cs 1), .int), ((cs 2), .array .int), ((cs 4), .int), ((cs 5), .int), ((cs 7), .int), ((cs 8), .int), ((cs 9), .int), ((cs 10), .array .int), ((cs 12), .int), ((cs 13), .int), (rc1, .int), (rc2, .int)] ((x_MR ad cs r1 r2 kind steps byteCount partCount stepsTaken hasRun lackedSteps decodings thrownDecodings bytes size count data made holds numbers lengths values states) ++ (gw 8 r1 rc1 5 rows ++ gw 16 r2 rc2 6 parts)) sz tt)) (va_Qi (fun (r : Int32) (_ : Unit) => r = out.1) (fun _ => AftW (dC, dI) [((cs 1), .int), ((cs 2), .array .int), ((cs 4), .int), ((cs 5), .int), ((cs 7), .int), ((cs 8), .int), ((cs 9), .int), ((cs 10), .array .int), ((cs 12), .int), ((cs 13), .int), (rc1, .int), (rc2, .int)] (va_A ((x_MR ad cs r1 r2 kind steps byteCount partCount stepsTaken hasRun lackedSteps decodings thrownDecodings bytes size count data made holds numbers lengths values states) ++ (gw 8 r1 rc1 5 rows ++ gw 16 r2 rc2 6 parts)) sz) ((x_MR ad cs r1 r2 kind steps byteCount partCount out.2 hasRun lackedSteps decodings thrownDecodings bytes size count data made holds numbers lengths values states) ++ (gw 8 r1 rc1 5 rows ++ gw 16 r2 rc2 6 parts))) (va_A ((x_MR ad cs r1 r2 kind steps byteCount partCount stepsTaken hasRun lackedSteps decodings thrownDecodings bytes size count data made holds numbers lengths values states) ++ (gw 8 r1 rc1 5 rows ++ gw 16 r2 rc2 6 parts)) sz)) 0 0 (va_A ((x_MR ad cs r1 r2 kind steps byteCount partCount stepsTaken hasRun lackedSteps decodings thrownDecodings bytes size count data made holds numbers lengths values states) ++ (gw 8 r1 rc1 5 rows ++ gw 16 r2 rc2 6 parts)) sz) := by
  refine Met.ofW (cc := k_MR_guessSize) (maxL := 3) (ret := (some .int)) (by decide) rfl ?_
  intro p e s m args below meth c s₁ B hml hv
  obtain ⟨rfl, hsz, hP, hK, hD0, hG⟩ := hv
  have hx := B.exec
  have hb := B.bytes
  have hr := B.returns
  have hts := atoms_spec (ws := (w_MR_guessSize)) B.pre
  have hB : ∀ w ∈ BIG, w.before _ s = true := fun w h9 => hts w (List.mem_cons_of_mem _ h9)
  have hown : s.vm.findClass R_MR = some m.cls := findClass_of_methodNamed B.named
  have hlocks := B.notSynchronized
  subst hsz
  have hD := hD0.self (sz := s.heap.size)
  generalize hAe : va_A ((x_MR ad cs r1 r2 kind steps byteCount partCount stepsTaken hasRun lackedSteps decodings thrownDecodings bytes size count data made holds numbers lengths values states) ++ (gw 8 r1 rc1 5 rows ++ gw 16 r2 rc2 6 parts)) s.heap.size = A at hD hG ⊢
  have hA : ∀ q : Nat, s.heap.size ≤ q → A q := fun q h => by rw [← hAe]; exact Or.inr h
  have hS : va_S A s.heap s.heap [] := va_S.rf
  have hl := lv_entry ([.ref (ad 0), .int x1]) (n := 3) (Nat.le_of_ble_eq_true rfl)
  rw [lg_entry_eq]
  generalize (lg_sl ([.ref (ad 0), .int x1]) ++ List.replicate (3 - (lg_sl ([.ref (ad 0), .int x1])).length) Slot.unset).toArray = ls at hl ⊢
  have hl : lv_has ls 3 [(0, .ref (ad 0)), (1, .int x1)] := hl
  unfold d_MR_guessSize at h
  refine lv_iconst (v := 0) hx hb d_MR_guessSize_0 (by decide) ?_
  refine lv_istore_n (lv' := [(2, .int (0 : Int32)), (0, .ref (ad 0)), (1, .int x1)]) hx hb d_MR_guessSize_1 rfl hl (by decide) rfl (fun ls hl => ?_)
  obtain ⟨s2, hs2, h⟩ := Option.bind_eq_some_iff.mp h
  have X2 : ∀ (H : Heap) (locs : List Loc) (ls : Array Slot), lv_has ls 3 [(2, .int s2.1)] → va_P (dC, dI) vwCl ((x_MR ad cs r1 r2 kind steps byteCount partCount s2.2 hasRun lackedSteps decodings thrownDecodings bytes size count data made holds numbers lengths values states) ++ (gw 8 r1 rc1 5 rows ++ gw 16 r2 rc2 6 parts)) H → va_D A ((x_MR ad cs r1 r2 kind steps byteCount partCount s2.2 hasRun lackedSteps decodings thrownDecodings bytes size count data made holds numbers lengths values states) ++ (gw 8 r1 rc1 5 rows ++ gw 16 r2 rc2 6 parts)) → va_S A s.heap H locs → W p l e (headSpec (w_MR_guessSize) rm_MR_guessSize).room s m ([.ref (ad 0), .int x1] : List Value).toArray below meth c H locs 0 0 (MQ below (va_Qi (fun (r : Int32) (_ : Unit) => r = out.1) (fun _ => AftW (dC, dI) [((cs 1), .int), ((cs 2), .array .int), ((cs 4), .int), ((cs 5), .int), ((cs 7), .int), ((cs 8), .int), ((cs 9), .int), ((cs 10), .array .int), ((cs 12), .int), ((cs 13), .int), (rc1, .int), (rc2, .int)] A ((x_MR ad cs r1 r2 kind steps byteCount partCount out.2 hasRun lackedSteps decodings thrownDecodings bytes size count data made holds numbers lengths values states) ++ (gw 8 r1 rc1 5 rows ++ gw 16 r2 rc2 6 parts))) A) ([.ref (ad 0), .int x1] : List Value).toArray s 0 0 A) (F0 m 55 ls []) := by
    intro H locs ls hl hP hD hS
    refine lv_iload_n hx hb d_MR_guessSize_55 rfl (lv_at hl 0 rfl) ?_
    have h := Option.some.inj h
    subst h
    exact W.iret hx hb hr (fun t ht hW => ⟨⟨_, (), rfl, rfl, AftW_mk hK hP hD ht hW⟩, hS.F ht⟩) hS.2.2 d_MR_guessSize_56
  have L2 : ∀ (n : Nat) (y2_2 : Int32) (stepsTaken_2 : Int32) (H : Heap) (locs : List Loc) (ls : Array Slot), lv_has ls 3 [(0, .ref (ad 0)), (1, .int x1), (2, .int y2_2)] → va_P (dC, dI) vwCl ((x_MR ad cs r1 r2 kind steps byteCount partCount stepsTaken_2 hasRun lackedSteps decodings thrownDecodings bytes size count data made holds numbers lengths values states) ++ (gw 8 r1 rc1 5 rows ++ gw 16 r2 rc2 6 parts)) H → va_D A ((x_MR ad cs r1 r2 kind steps byteCount partCount stepsTaken_2 hasRun lackedSteps decodings thrownDecodings bytes size count data made holds numbers lengths values states) ++ (gw 8 r1 rc1 5 rows ++ gw 16 r2 rc2 6 parts)) → va_S A s.heap H locs → d_MR_guessSize_L2 N x1 kind steps byteCount bytes n y2_2 stepsTaken_2 = some s2 → W p l e (headSpec (w_MR_guessSize) rm_MR_guessSize).room s m ([.ref (ad 0), .int x1] : List Value).toArray below meth c H locs 0 0 (MQ below (va_Qi (fun (r : Int32) (_ : Unit) => r = out.1) (fun _ => AftW (dC, dI) [((cs 1), .int), ((cs 2), .array .int), ((cs 4), .int), ((cs 5), .int), ((cs 7), .int), ((cs 8), .int), ((cs 9), .int), ((cs 10), .array .int), ((cs 12), .int), ((cs 13), .int), (rc1, .int), (rc2, .int)] A ((x_MR ad cs r1 r2 kind steps byteCount partCount out.2 hasRun lackedSteps decodings thrownDecodings bytes size count data made holds numbers lengths values states) ++ (gw 8 r1 rc1 5 rows ++ gw 16 r2 rc2 6 parts))) A) ([.ref (ad 0), .int x1] : List Value).toArray s 0 0 A) (F0 m 2 ls []) := by
    intro n
    induction n with
    | zero =>
      intro y2_2 stepsTaken_2 H locs ls hl hP hD hS h
      rw [d_MR_guessSize_L2] at h
      cases h
    | succ n ih =>
      intro y2_2 stepsTaken_2 H locs ls hl hP hD hS h
      rw [d_MR_guessSize_L2] at h
      refine lv_iload_n hx hb d_MR_guessSize_2 rfl (lv_at hl 2 rfl) ?_
      refine lv_bipush (v := 64) hx hb d_MR_guessSize_3 (by decide) ?_
      refine lv_icmp_ge (tgt := 55) hx hb d_MR_guessSize_5 (by decide) (fun c_1 => ?_) (fun c_1 => ?_)
      · have h := (if_pos c_1).symm.trans h
        have h := Option.some.inj h
        subst h
        exact X2 H locs ls (lv_sub hl [2] rfl) hP hD hS
      · have h := (if_neg c_1).symm.trans h
        refine lv_aload_n hx hb d_MR_guessSize_8 rfl (lv_at hl 0 rfl) ?_
        refine va_get (D := (dC, dI)) (ci := 0) (v := .int stepsTaken_2) (C := R_MR) (T := T_MR) (N := 13) hx hb hB in_MR hown hK hP 0 rfl rfl 8 (by decide) (hB _ wd_116) (fun _ h9 => h9) rfl d_MR_guessSize_9 ?_
        refine lv_aload_n hx hb d_MR_guessSize_12 rfl (lv_at hl 0 rfl) ?_
        refine va_get (D := (dC, dI)) (ci := 0) (v := .int steps) (C := R_MR) (T := T_MR) (N := 13) hx hb hB in_MR hown hK hP 0 rfl rfl 1 (by decide) (hB _ wd_117) (fun _ h9 => h9) rfl d_MR_guessSize_13 ?_
        refine lv_icmp_ge (tgt := 55) hx hb d_MR_guessSize_16 (by decide) (fun c_2 => ?_) (fun c_2 => ?_)
        · have h := (if_pos c_2).symm.trans h
          have h := Option.some.inj h
          subst h
          exact X2 H locs ls (lv_sub hl [2] rfl) hP hD hS
        · have h := (if_neg c_2).symm.trans h
          refine lv_iload_n hx hb d_MR_guessSize_19 rfl (lv_at hl 1 rfl) ?_
          refine lv_iload_n hx hb d_MR_guessSize_20 rfl (lv_at hl 2 rfl) ?_
          refine lv_iadd hx hb d_MR_guessSize_21 ?_
          refine lv_aload_n hx hb d_MR_guessSize_22 rfl (lv_at hl 0 rfl) ?_
          refine va_get (D := (dC, dI)) (ci := 0) (v := .int byteCount) (C := R_MR) (T := T_MR) (N := 13) hx hb hB in_MR hown hK hP 0 rfl rfl 6 (by decide) (hB _ wd_110) (fun _ h9 => h9) rfl d_MR_guessSize_23 ?_
          refine lv_icmp_ge (tgt := 55) hx hb d_MR_guessSize_26 (by decide) (fun c_3 => ?_) (fun c_3 => ?_)
          · have h := (if_pos c_3).symm.trans h
            have h := Option.some.inj h
            subst h
            exact X2 H locs ls (lv_sub hl [2] rfl) hP hD hS
          · have h := (if_neg c_3).symm.trans h
            refine lv_aload_n hx hb d_MR_guessSize_29 rfl (lv_at hl 0 rfl) ?_
            refine lv_iload_n hx hb d_MR_guessSize_30 rfl (lv_at hl 1 rfl) ?_
            refine lv_iload_n hx hb d_MR_guessSize_31 rfl (lv_at hl 2 rfl) ?_
            refine lv_iadd hx hb d_MR_guessSize_32 ?_
            obtain ⟨o4, ho4, h⟩ := Option.bind_eq_some_iff.mp h
            have hKc := hK.sub (tys' := [((cs 1), .int), ((cs 2), .array .int), ((cs 4), .int), ((cs 5), .int), ((cs 7), .int), ((cs 8), .int), ((cs 9), .int), ((cs 10), .array .int), ((cs 12), .int), ((cs 13), .int), (rc1, .int), (rc2, .int)]) [0, 1, 2, 3, 4, 5, 6, 7, 8, 9, 10, 11] rfl
            have hPc := hP.part (cx := x_MR ad cs r1 r2 kind steps byteCount partCount stepsTaken_2 hasRun lackedSteps decodings thrownDecodings bytes size count data made holds numbers lengths values states) [0, 1, 2, 3, 4, 5, 6, 7, 8, 9, 10, 11, 12, 13] rfl
            have hDc := hD.part (cx := x_MR ad cs r1 r2 kind steps byteCount partCount stepsTaken_2 hasRun lackedSteps decodings thrownDecodings bytes size count data made holds numbers lengths values states) [0, 1, 2, 3, 4, 5, 6, 7, 8, 9, 10, 11, 12, 13] (by decide) rfl
            have hFc := va_freeP (cx := x_MR ad cs r1 r2 kind steps byteCount partCount stepsTaken_2 hasRun lackedSteps decodings thrownDecodings bytes size count data made holds numbers lengths values states) hD hS hA [0, 1, 2, 3, 4, 5, 6, 7, 8, 9, 10, 11, 12, 13] rfl
            refine va_calli (va_runV (As := [.int (x1 + y2_2)]) (rest := []) ⟨hx, hb, hml, hown, hB⟩ (c_MR_markStandsAt l dC dI tt ad cs r1 rc1 r2 rc2 H.size N (x1 + y2_2) kind steps byteCount partCount stepsTaken_2 hasRun lackedSteps decodings thrownDecodings bytes size count data made holds numbers lengths values states rows parts o4 ho4) (cwV 1 hB (gV wd_121 wd_119 wd_118 wd_105 wd_120) rfl rfl rfl (by decide +kernel) ⟨Nat.le_of_ble_eq_true rfl, Nat.le_of_ble_eq_true rfl⟩) ⟨PreW_blind, va_recv hKc hPc (ci := 0) (q0 := 0) rfl rfl, PreW_mk hKc hPc hDc hG hS hFc⟩ rfl rfl hl.1 rfl (lv_room (Nat.le_of_ble_eq_true rfl)) d_MR_guessSize_33 ⟨Nat.le_of_ble_eq_true rfl, Nat.le_of_ble_eq_true rfl⟩) hS (fun q _ h => hFc q h) hFc (fun r_4 u_4 t H1 locs ht hvm hw hB hz1 hk1 hS => ?_)
            have hw := hw.symm
            subst hw
            obtain ⟨hP1, hK1, hD1⟩ := hB
            rw [ht] at hP1
            obtain ⟨hP, hD⟩ := va_joinP (wr := pick (x_MR ad cs r1 r2 kind steps byteCount partCount stepsTaken_2 hasRun lackedSteps decodings thrownDecodings bytes size count data made holds numbers lengths values states) []) hP hD [0, 1, 2, 3, 4, 5, 6, 7, 8, 9, 10, 11, 12, 13] [] rfl rfl (by decide) (by decide) hk1 hFc hP1 hD1
            generalize H1 = H at hP hS ⊢
            have hP : va_P (dC, dI) vwCl ((x_MR ad cs r1 r2 kind steps byteCount partCount stepsTaken_2 hasRun lackedSteps decodings thrownDecodings bytes size count data made holds numbers lengths values states) ++ (gw 8 r1 rc1 5 rows ++ gw 16 r2 rc2 6 parts)) H := hP.part (cx := x_MR ad cs r1 r2 kind steps byteCount partCount stepsTaken_2 hasRun lackedSteps decodings thrownDecodings bytes size count data made holds numbers lengths values states) [0, 1, 2, 3, 4, 5, 6, 7, 8, 9, 10, 11, 12, 13] rfl
            have hD : va_D A ((x_MR ad cs r1 r2 kind steps byteCount partCount stepsTaken_2 hasRun lackedSteps decodings thrownDecodings bytes size count data made holds numbers lengths values states) ++ (gw 8 r1 rc1 5 rows ++ gw 16 r2 rc2 6 parts)) := hD.part (cx := x_MR ad cs r1 r2 kind steps byteCount partCount stepsTaken_2 hasRun lackedSteps decodings thrownDecodings bytes size count data made holds numbers lengths values states) [0, 1, 2, 3, 4, 5, 6, 7, 8, 9, 10, 11, 12, 13] (by decide) rfl
            refine lv_if_ne (tgt := 55) hx hb d_MR_guessSize_36 (by decide) (fun c_5 => ?_) (fun c_5 => ?_)
            · have h := (if_neg c_5).symm.trans h
              have h := Option.some.inj h
              subst h
              exact X2 H locs ls (lv_sub hl [2] rfl) hP hD hS
            · have h := (if_pos c_5).symm.trans h
              refine lv_iinc (v := y2_2 + 1) (lv' := [(2, .int (y2_2 + 1)), (0, .ref (ad 0)), (1, .int x1)]) hx hb d_MR_guessSize_39 hl (k := 2) rfl rfl (by decide) rfl (fun ls hl => ?_)
              refine lv_aload_n hx hb d_MR_guessSize_42 rfl (lv_at hl 1 rfl) ?_
              refine lv_dup hx hb d_MR_guessSize_43 rfl ?_
              refine va_get (D := (dC, dI)) (ci := 0) (v := .int stepsTaken_2) (C := R_MR) (T := T_MR) (N := 13) hx hb hB in_MR hown hK hP 0 rfl rfl 8 (by decide) (hB _ wd_116) (fun _ h9 => h9) rfl d_MR_guessSize_44 ?_
              refine lv_iconst (v := 1) hx hb d_MR_guessSize_47 (by decide) ?_
              refine lv_iadd hx hb d_MR_guessSize_48 ?_
              refine va_put (D := (dC, dI)) (ci := 0) (v := .int (stepsTaken_2 + (1 : Int32))) (ty := .int) (C := R_MR) (T := T_MR) (N := 13) hx hb hB in_MR ty_MR tyok_MR nd_MR hown hK hP hD hS 0 rfl rfl 8 (by decide) (hB _ wd_116) (fun _ h9 => h9) rfl (by decide +kernel) rfl rfl (Nat.le_of_ble_eq_true rfl) d_MR_guessSize_49 (fun H locs hP hD hS => ?_)
              have hP : va_P (dC, dI) vwCl ((x_MR ad cs r1 r2 kind steps byteCount partCount (stepsTaken_2 + (1 : Int32)) hasRun lackedSteps decodings thrownDecodings bytes size count data made holds numbers lengths values states) ++ (gw 8 r1 rc1 5 rows ++ gw 16 r2 rc2 6 parts)) H := hP
              have hD : va_D A ((x_MR ad cs r1 r2 kind steps byteCount partCount (stepsTaken_2 + (1 : Int32)) hasRun lackedSteps decodings thrownDecodings bytes size count data made holds numbers lengths values states) ++ (gw 8 r1 rc1 5 rows ++ gw 16 r2 rc2 6 parts)) := hD
              refine lv_goto (tgt := 2) hx hb d_MR_guessSize_52 (by decide) ?_
              exact ih (y2_2 + 1) (stepsTaken_2 + (1 : Int32)) H locs ls (lv_sub hl [1, 2, 0] rfl) hP hD hS h
  exact L2 N (0 : Int32) stepsTaken _ _ ls (lv_sub hl [1, 2, 0] rfl) hP hD hS hs2
def d_MR_guessPart (N : Nat) (x1 : Int32) (kind : Int32) (steps : Int32) (byteCount : Int32) (partCount : Int32) (stepsTaken : Int32) (bytes : Nat → Int32) (parts : Nat → Nat → Int32) : Option (Int32 × Int32 × Int32 × (Nat → Nat → Int32)) :=
 gI (partCount - (1 : Int32)) 16 ((d_MR_guessSize N (x1 + (6 : Int32)) kind steps byteCount stepsTaken bytes).bind (fun o2 => (d_MR_keepPart N x1 (((parts ((partCount - (1 : Int32)).toNatClampNeg) (1 : Int32).toNatClampNeg) + (1 : Int32)) - ((parts ((partCount - (1 : Int32)).toNatClampNeg) (1 : Int32).toNatClampNeg) + (1 : Int32)) / (16 : Int32) * (16 : Int32)) (parts ((partCount - (1 : Int32)).toNatClampNeg) (2 : Int32).toNatClampNeg) o2.1 (1 : Int32) partCount parts).bind (fun o3 => some (o3.1, o3.2.1, o2.2, o3.2.2))))
abbrev rm_MR_guessPart : Room := { frames := 2, cells := 0, slots := 0, locals := 43 }
set_option maxHeartbeats 4000000 in
set_option maxRecDepth 100000 in
theorem c_MR_guessPart (l : Launch) (dC : Nat → ClassId) (dI : Nat → Nat → Nat) (tt : Nat → Nat) (ad : Nat → Nat) (cs : Nat → ClassId) (r1 : Nat → Nat) (rc1 : ClassId) (r2 : Nat → Nat) (rc2 : ClassId) (sz N : Nat) (x1 : Int32) (kind : Int32) (steps : Int32) (byteCount : Int32) (partCount : Int32) (stepsTaken : Int32) (hasRun : Int32) (lackedSteps : Int32) (decodings : Int32) (thrownDecodings : Int32) (bytes : Nat → Int32) (size : Int32) (count : Int32) (data : Nat → Int32) (made : Nat → Int32) (holds : Nat → Int32) (numbers : Nat → Int32) (lengths : Nat → Int32) (values : Nat → Int32) (states : Nat → Int32) (rows : Nat → Nat → Int32) (parts : Nat → Nat → Int32) (out : Int32 × Int32 × Int32 × (Nat → Nat → Int32)) (h : d_MR_guessPart N x1 kind steps byteCount partCount stepsTaken bytes parts = some out) :
    Met l y_MR_guessPart (w_MR_guessPart) rm_MR_guessPart (va_Pc [.ref (ad 0), .int x1] (PreW (dC, dI) [((cs 1), .int), ((cs 2), .array .int), ((cs 4), .int), ((cs 5), .int), ((cs 7), .int), ((cs 8), .int), ((cs 9), .int), ((cs 10), .array .int), ((cs 12), .int), ((cs 13), .int), (rc1, .int), (rc2, .int)] ((x_MR ad cs r1 r2 kind steps byteCount partCount stepsTaken hasRun lackedSteps decodings thrownDecodings bytes size count data made holds numbers lengths values states) ++ (gw 8 r1 rc1 5 rows ++ gw 16 r2 rc2 6 parts)) sz tt)) (va_Qi (fun (r : Int32) (_ : Unit) => r = out.1) (fun _ => AftW (dC, dI) [((cs 1), .int), ((cs 2), .array .int), ((cs 4), .int), ((cs 5), .int), ((cs 7), .int), ((cs 8), .int), ((cs 9), .int), ((cs 10), .array .int), ((cs 12), .int), ((cs 13), .int), (rc1, .int), (rc2, .int)] (va_A ((x_MR ad cs r1 r2 kind steps byteCount partCount stepsTaken hasRun lackedSteps decodings thrownDecodings bytes size count data made holds numbers lengths values states) ++ (gw 8 r1 rc1 5 rows ++ gw 16 r2 rc2 6 parts)) sz) ((x_MR ad cs r1 r2 kind steps byteCount out.2.1 out.2.2.1 hasRun lackedSteps decodings thrownDecodings bytes size count data made holds numbers lengths values states) ++ (gw 8 r1 rc1 5 rows ++ gw 16 r2 rc2 6 out.2.2.2))) (va_A ((x_MR ad cs r1 r2 kind steps byteCount partCount stepsTaken hasRun lackedSteps decodings thrownDecodings bytes size count data made holds numbers lengths values states) ++ (gw 8 r1 rc1 5 rows ++ gw 16 r2 rc2 6 parts)) sz)) 0 0 (va_A ((x_MR ad cs r1 r2 kind steps byteCount partCount stepsTaken hasRun lackedSteps decodings thrownDecodings bytes size count data made holds numbers lengths values states) ++ (gw 8 r1 rc1 5 rows ++ gw 16 r2 rc2 6 parts)) sz) := by
  refine Met.ofW (cc := k_MR_guessPart) (maxL := 4) (ret := (some .int)) (by decide) rfl ?_
  intro p e s m args below meth c s₁ B hml hv
  obtain ⟨rfl, hsz, hP, hK, hD0, hG⟩ := hv
  have hx := B.exec
  have hb := B.bytes
  have hr := B.returns
  have hts := atoms_spec (ws := (w_MR_guessPart)) B.pre
  have hB : ∀ w ∈ BIG, w.before _ s = true := fun w h9 => hts w (List.mem_cons_of_mem _ h9)
  have hown : s.vm.findClass R_MR = some m.cls := findClass_of_methodNamed B.named
  have hlocks := B.notSynchronized
  subst hsz
  have hD := hD0.self (sz := s.heap.size)
  generalize hAe : va_A ((x_MR ad cs r1 r2 kind steps byteCount partCount stepsTaken hasRun lackedSteps decodings thrownDecodings bytes size count data made holds numbers lengths values states) ++ (gw 8 r1 rc1 5 rows ++ gw 16 r2 rc2 6 parts)) s.heap.size = A at hD hG ⊢
  have hA : ∀ q : Nat, s.heap.size ≤ q → A q := fun q h => by rw [← hAe]; exact Or.inr h
  have hS : va_S A s.heap s.heap [] := va_S.rf
  have hl := lv_entry ([.ref (ad 0), .int x1]) (n := 4) (Nat.le_of_ble_eq_true rfl)
  rw [lg_entry_eq]
  generalize (lg_sl ([.ref (ad 0), .int x1]) ++ List.replicate (4 - (lg_sl ([.ref (ad 0), .int x1])).length) Slot.unset).toArray = ls at hl ⊢
  have hl : lv_has ls 4 [(0, .ref (ad 0)), (1, .int x1)] := hl
  unfold d_MR_guessPart at h
  refine lv_aload_n hx hb d_MR_guessPart_0 rfl (lv_at hl 0 rfl) ?_
  refine va_get (D := (dC, dI)) (ci := 0) (v := .ref (ad 2)) (C := R_MR) (T := T_MR) (N := 13) hx hb hB in_MR hown hK hP 0 rfl rfl 3 (by decide) (hB _ wd_115) (fun _ h9 => h9) rfl d_MR_guessPart_1 ?_
  refine lv_aload_n hx hb d_MR_guessPart_4 rfl (lv_at hl 0 rfl) ?_
  refine va_get (D := (dC, dI)) (ci := 0) (v := .int partCount) (C := R_MR) (T := T_MR) (N := 13) hx hb hB in_MR hown hK hP 0 rfl rfl 7 (by decide) (hB _ wd_99) (fun _ h9 => h9) rfl d_MR_guessPart_5 ?_
  refine lv_iconst (v := 1) hx hb d_MR_guessPart_8 (by decide) ?_
  refine lv_isub hx hb d_MR_guessPart_9 ?_
  obtain ⟨b_1, h⟩ := gI_some h
  refine gr_aald hx hb hK hP 2 1 rfl rfl b_1 d_MR_guessPart_10 ?_
  refine lv_astore_n (lv' := [(2, .ref (r2 ((partCount - (1 : Int32)).toNatClampNeg))), (0, .ref (ad 0)), (1, .int x1)]) hx hb d_MR_guessPart_11 rfl hl (by decide) rfl (fun ls hl => ?_)
  refine lv_aload_n hx hb d_MR_guessPart_12 rfl (lv_at hl 0 rfl) ?_
  refine lv_iconst (v := 1) hx hb d_MR_guessPart_13 (by decide) ?_
  refine gr_ald2 hx hb hK hP 11 rfl (in_lt b_1) (show ¬ ((1 : Int32) < 0 ∨ 6 ≤ (1 : Int32).toNatClampNeg) from by decide) d_MR_guessPart_14 ?_
  refine lv_iconst (v := 1) hx hb d_MR_guessPart_15 (by decide) ?_
  refine lv_iadd hx hb d_MR_guessPart_16 ?_
  refine lv_bipush (v := 16) hx hb d_MR_guessPart_17 (by decide) ?_
  refine lv_irem hx hb d_MR_guessPart_19 (by decide) ?_
  refine lv_istore_n (lv' := [(3, .int (((parts ((partCount - (1 : Int32)).toNatClampNeg) (1 : Int32).toNatClampNeg) + (1 : Int32)) - ((parts ((partCount - (1 : Int32)).toNatClampNeg) (1 : Int32).toNatClampNeg) + (1 : Int32)) / (16 : Int32) * (16 : Int32))), (2, .ref (r2 ((partCount - (1 : Int32)).toNatClampNeg))), (0, .ref (ad 0)), (1, .int x1)]) hx hb d_MR_guessPart_20 rfl hl (by decide) rfl (fun ls hl => ?_)
  refine lv_aload_n hx hb d_MR_guessPart_21 rfl (lv_at hl 2 rfl) ?_
  refine lv_iload_n hx hb d_MR_guessPart_22 rfl (lv_at hl 3 rfl) ?_
  refine lv_iload_n hx hb d_MR_guessPart_23 rfl (lv_at hl 0 rfl) ?_
  refine lv_aload_n hx hb d_MR_guessPart_24 rfl (lv_at hl 1 rfl) ?_
  refine lv_iconst (v := 2) hx hb d_MR_guessPart_25 (by decide) ?_
  refine gr_ald2 hx hb hK hP 11 rfl (in_lt b_1) (show ¬ ((2 : Int32) < 0 ∨ 6 ≤ (2 : Int32).toNatClampNeg) from by decide) d_MR_guessPart_26 ?_
  refine lv_aload_n hx hb d_MR_guessPart_27 rfl (lv_at hl 2 rfl) ?_
  refine lv_iload_n hx hb d_MR_guessPart_28 rfl (lv_at hl 3 rfl) ?_
  refine lv_bipush (v := 6) hx hb d_MR_guessPart_29 (by decide) ?_
  refine lv_iadd hx hb d_MR_guessPart_31 ?_
  obtain ⟨o2, ho2, h⟩ := Option.bind_eq_some_iff.mp h
  have hKc := hK.sub (tys' := [((cs 1), .int), ((cs 2), .array .int), ((cs 4), .int), ((cs 5), .int), ((cs 7), .int), ((cs 8), .int), ((cs 9), .int), ((cs 10), .array .int), ((cs 12), .int), ((cs 13), .int), (rc1, .int), (rc2, .int)]) [0, 1, 2, 3, 4, 5, 6, 7, 8, 9, 10, 11] rfl
  have hPc := hP.part (cx := x_MR ad cs r1 r2 kind steps byteCount partCount stepsTaken hasRun lackedSteps decodings thrownDecodings bytes size count data made holds numbers lengths values states) [0, 1, 2, 3, 4, 5, 6, 7, 8, 9, 10, 11, 12, 13] rfl
  have hDc := hD.part (cx := x_MR ad cs r1 r2 kind steps byteCount partCount stepsTaken hasRun lackedSteps decodings thrownDecodings bytes size count data made holds numbers lengths values states) [0, 1, 2, 3, 4, 5, 6, 7, 8, 9, 10, 11, 12, 13] (by decide) rfl
  have hFc := va_freeP (cx := x_MR ad cs r1 r2 kind steps byteCount partCount stepsTaken hasRun lackedSteps decodings thrownDecodings bytes size count data made holds numbers lengths values states) hD hS hA [0, 1, 2, 3, 4, 5, 6, 7, 8, 9, 10, 11, 12, 13] rfl
  refine va_calli (va_runV (As := [.int (x1 + (6 : Int32))]) (rest := [.int (parts ((partCount - (1 : Int32)).toNatClampNeg) (2 : Int32).toNatClampNeg), .int (((parts ((partCount - (1 : Int32)).toNatClampNeg) (1 : Int32).toNatClampNeg) + (1 : Int32)) - ((parts ((partCount - (1 : Int32)).toNatClampNeg) (1 : Int32).toNatClampNeg) + (1 : Int32)) / (16 : Int32) * (16 : Int32)), .int x1, .ref (ad 0)]) ⟨hx, hb, hml, hown, hB⟩ (c_MR_guessSize l dC dI tt ad cs r1 rc1 r2 rc2 s.heap.size N (x1 + (6 : Int32)) kind steps byteCount partCount stepsTaken hasRun lackedSteps decodings thrownDecodings bytes size count data made holds numbers lengths values states rows parts o2 ho2) (cwV 1 hB (gV wd_125 wd_123 wd_122 wd_105 wd_124) rfl rfl rfl (by decide +kernel) ⟨Nat.le_of_ble_eq_true rfl, Nat.le_of_ble_eq_true rfl⟩) ⟨PreW_blind, va_recv hKc hPc (ci := 0) (q0 := 0) rfl rfl, PreW_mk hKc hPc hDc hG hS hFc⟩ rfl rfl hl.1 rfl (lv_room (Nat.le_of_ble_eq_true rfl)) d_MR_guessPart_32 ⟨Nat.le_of_ble_eq_true rfl, Nat.le_of_ble_eq_true rfl⟩) hS (fun q _ h => hFc q h) hFc (fun r_2 u_2 t H1 locs ht hvm hw hB hz1 hk1 hS => ?_)
  have hw := hw.symm
  subst hw
  obtain ⟨hP1, hK1, hD1⟩ := hB
  rw [ht] at hP1
  obtain ⟨hP, hD⟩ := va_joinP (wr := pick (x_MR ad cs r1 r2 kind steps byteCount partCount stepsTaken hasRun lackedSteps decodings thrownDecodings bytes size count data made holds numbers lengths values states) []) hP hD [0, 1, 2, 3, 4, 5, 6, 7, 8, 9, 10, 11, 12, 13] [] rfl rfl (by decide) (by decide) hk1 hFc hP1 hD1
  generalize H1 = H at hP hS ⊢
  have hP : va_P (dC, dI) vwCl ((x_MR ad cs r1 r2 kind steps byteCount partCount o2.2 hasRun lackedSteps decodings thrownDecodings bytes size count data made holds numbers lengths values states) ++ (gw 8 r1 rc1 5 rows ++ gw 16 r2 rc2 6 parts)) H := hP.part (cx := x_MR ad cs r1 r2 kind steps byteCount partCount o2.2 hasRun lackedSteps decodings thrownDecodings bytes size count data made holds numbers lengths values states) [0, 1, 2, 3, 4, 5, 6, 7, 8, 9, 10, 11, 12, 13] rfl
  have hD : va_D A ((x_MR ad cs r1 r2 kind steps byteCount partCount o2.2 hasRun lackedSteps decodings thrownDecodings bytes size count data made holds numbers lengths values states) ++ (gw 8 r1 rc1 5 rows ++ gw 16 r2 rc2 6 parts)) := hD.part (cx := x_MR ad cs r1 r2 kind steps byteCount partCount o2.2 hasRun lackedSteps decodings thrownDecodings bytes size count data made holds numbers lengths values states) [0, 1, 2, 3, 4, 5, 6, 7, 8, 9, 10, 11, 12, 13] (by decide) rfl
  refine lv_iconst (v := 1) hx hb d_MR_guessPart_35 (by decide) ?_
  obtain ⟨o3, ho3, h⟩ := Option.bind_eq_some_iff.mp h
  have hKc := hK.sub (tys' := [((cs 1), .int), ((cs 2), .array .int), ((cs 4), .int), ((cs 5), .int), ((cs 7), .int), ((cs 8), .int), ((cs 9), .int), ((cs 10), .array .int), ((cs 12), .int), ((cs 13), .int), (rc1, .int), (rc2, .int)]) [0, 1, 2, 3, 4, 5, 6, 7, 8, 9, 10, 11] rfl
  have hPc := hP.part (cx := x_MR ad cs r1 r2 kind steps byteCount partCount o2.2 hasRun lackedSteps decodings thrownDecodings bytes size count data made holds numbers lengths values states) [0, 1, 2, 3, 4, 5, 6, 7, 8, 9, 10, 11, 12, 13] rfl
  have hDc := hD.part (cx := x_MR ad cs r1 r2 kind steps byteCount partCount o2.2 hasRun lackedSteps decodings thrownDecodings bytes size count data made holds numbers lengths values states) [0, 1, 2, 3, 4, 5, 6, 7, 8, 9, 10, 11, 12, 13] (by decide) rfl
  have hFc := va_freeP (cx := x_MR ad cs r1 r2 kind steps byteCount partCount o2.2 hasRun lackedSteps decodings thrownDecodings bytes size count data made holds numbers lengths values states) hD hS hA [0, 1, 2, 3, 4, 5, 6, 7, 8, 9, 10, 11, 12, 13] rfl
  refine va_calli (va_runV (As := [.int x1, .int (((parts ((partCount - (1 : Int32)).toNatClampNeg) (1 : Int32).toNatClampNeg) + (1 : Int32)) - ((parts ((partCount - (1 : Int32)).toNatClampNeg) (1 : Int32).toNatClampNeg) + (1 : Int32)) / (16 : Int32) * (16 : Int32)), .int (parts ((partCount - (1 : Int32)).toNatClampNeg) (2 : Int32).toNatClampNeg), .int o2.1, .int (1 : Int32)]) (rest := []) ⟨hx, hb, hml, hown, hB⟩ (c_MR_keepPart l dC dI tt ad cs r1 rc1 r2 rc2 H.size N x1 (((parts ((partCount - (1 : Int32)).toNatClampNeg) (1 : Int32).toNatClampNeg) + (1 : Int32)) - ((parts ((partCount - (1 : Int32)).toNatClampNeg) (1 : Int32).toNatClampNeg) + (1 : Int32)) / (16 : Int32) * (16 : Int32)) (parts ((partCount - (1 : Int32)).toNatClampNeg) (2 : Int32).toNatClampNeg) o2.1 (1 : Int32) kind steps byteCount partCount o2.2 hasRun lackedSteps decodings thrownDecodings bytes size count data made holds numbers lengths values states rows parts o3 ho3) (cwV 5 hB (gV wd_129 wd_127 wd_126 wd_105 wd_128) rfl rfl rfl (by decide +kernel) ⟨Nat.le_of_ble_eq_true rfl, Nat.le_of_ble_eq_true rfl⟩) ⟨PreW_blind, va_recv hKc hPc (ci := 0) (q0 := 0) rfl rfl, PreW_mk hKc hPc hDc hG hS hFc⟩ rfl rfl hl.1 rfl (lv_room (Nat.le_of_ble_eq_true rfl)) d_MR_guessPart_36 ⟨Nat.le_of_ble_eq_true rfl, Nat.le_of_ble_eq_true rfl⟩) hS (fun q _ h => hFc q h) hFc (fun r_3 u_3 t H1 locs ht hvm hw hB hz1 hk1 hS => ?_)
  have hw := hw.symm
  subst hw
  obtain ⟨hP1, hK1, hD1⟩ := hB
  rw [ht] at hP1
  obtain ⟨hP, hD⟩ := va_joinP (wr := pick (x_MR ad cs r1 r2 kind steps byteCount partCount o2.2 hasRun lackedSteps decodings thrownDecodings bytes size count data made holds numbers lengths values states) []) hP hD [0, 1, 2, 3, 4, 5, 6, 7, 8, 9, 10, 11, 12, 13] [] rfl rfl (by decide) (by decide) hk1 hFc hP1 hD1
  generalize H1 = H at hP hS ⊢
  have hP : va_P (dC, dI) vwCl ((x_MR ad cs r1 r2 kind steps byteCount o3.2.1 o2.2 hasRun lackedSteps decodings thrownDecodings bytes size count data made holds numbers lengths values states) ++ (gw 8 r1 rc1 5 rows ++ gw 16 r2 rc2 6 o3.2.2)) H := hP.part (cx := x_MR ad cs r1 r2 kind steps byteCount o3.2.1 o2.2 hasRun lackedSteps decodings thrownDecodings bytes size count data made holds numbers lengths values states) [0, 1, 2, 3, 4, 5, 6, 7, 8, 9, 10, 11, 12, 13] rfl
  have hD : va_D A ((x_MR ad cs r1 r2 kind steps byteCount o3.2.1 o2.2 hasRun lackedSteps decodings thrownDecodings bytes size count data made holds numbers lengths values states) ++ (gw 8 r1 rc1 5 rows ++ gw 16 r2 rc2 6 o3.2.2)) := hD.part (cx := x_MR ad cs r1 r2 kind steps byteCount o3.2.1 o2.2 hasRun lackedSteps decodings thrownDecodings bytes size count data made holds numbers lengths values states) [0, 1, 2, 3, 4, 5, 6, 7, 8, 9, 10, 11, 12, 13] (by decide) rfl
  have h := Option.some.inj h
  subst h
  exact W.iret hx hb hr (fun t ht hW => ⟨⟨_, (), rfl, rfl, AftW_mk hK hP hD ht hW⟩, hS.F ht⟩) hS.2.2 d_MR_guessPart_39
def d_MR_lookAt (N : Nat) (x1 : Int32) (kind : Int32) (steps : Int32) (byteCount : Int32) (partCount : Int32) (stepsTaken : Int32) (bytes : Nat → Int32) (parts : Nat → Nat → Int32) : Option (Int32 × Int32 × Int32 × (Nat → Nat → Int32)) :=
 (d_MR_markStandsAt N x1 kind byteCount bytes).bind (fun o1 => if o1 = 0 then some (x1 + (1 : Int32), partCount, stepsTaken, parts) else if (x1 + (6 : Int32)) ≤ byteCount then (d_MR_headIsRight N x1 bytes).bind (fun o4 => if o4 = 0 then if partCount ≤ 0 then some (x1 + (1 : Int32), partCount, stepsTaken, parts) else (d_MR_guessPart N x1 kind steps byteCount partCount stepsTaken bytes parts).bind (fun o7 => some (o7.1, o7.2.1, o7.2.2.1, o7.2.2.2)) else (d_MR_dataAreThere N x1 byteCount bytes).bind (fun o8 => if o8 = 0 then if partCount ≤ 0 then some (x1 + (1 : Int32), partCount, stepsTaken, parts) else (d_MR_guessPart N x1 kind steps byteCount partCount stepsTaken bytes parts).bind (fun o11 => some (o11.1, o11.2.1, o11.2.2.1, o11.2.2.2)) else gI (x1 + (2 : Int32)) 1200 (gI (x1 + (3 : Int32)) 1200 (gI (x1 + (4 : Int32)) 1200 ((d_MR_keepPart N x1 (bytes (x1 + (2 : Int32)).toNatClampNeg) (bytes (x1 + (3 : Int32)).toNatClampNeg) (bytes (x1 + (4 : Int32)).toNatClampNeg) (0 : Int32) partCount parts).bind (fun o15 => some (o15.1, o15.2.1, stepsTaken, o15.2.2))))))) else some (x1 + (1 : Int32), partCount, stepsTaken, parts))
abbrev rm_MR_lookAt : Room := { frames := 3, cells := 0, slots := 0, locals := 66 }
set_option maxHeartbeats 4000000 in
set_option maxRecDepth 100000 in
theorem c_MR_lookAt (l : Launch) (dC : Nat → ClassId) (dI : Nat → Nat → Nat) (tt : Nat → Nat) (ad : Nat → Nat) (cs : Nat → ClassId) (r1 : Nat → Nat) (rc1 : ClassId) (r2 : Nat → Nat) (rc2 : ClassId) (sz N : Nat) (x1 : Int32) (kind : Int32) (steps : Int32) (byteCount : Int32) (partCount : Int32) (stepsTaken : Int32) (hasRun : Int32) (lackedSteps : Int32) (decodings : Int32) (thrownDecodings : Int32) (bytes : Nat → Int32) (size : Int32) (count : Int32) (data : Nat → Int32) (made : Nat → Int32) (holds : Nat → Int32) (numbers : Nat → Int32) (lengths : Nat → Int32) (values : Nat → Int32) (states : Nat → Int32) (rows : Nat → Nat → Int32) (parts : Nat → Nat → Int32) (out : Int32 × Int32 × Int32 × (Nat → Nat → Int32)) (h : d_MR_lookAt N x1 kind steps byteCount partCount stepsTaken bytes parts = some out) :
    Met l y_MR_lookAt (w_MR_lookAt) rm_MR_lookAt (va_Pc [.ref (ad 0), .int x1] (PreW (dC, dI) [((cs 1), .int), ((cs 2), .array .int), ((cs 4), .int), ((cs 5), .int), ((cs 7), .int), ((cs 8), .int), ((cs 9), .int), ((cs 10), .array .int), ((cs 12), .int), ((cs 13), .int), (rc1, .int), (rc2, .int)] ((x_MR ad cs r1 r2 kind steps byteCount partCount stepsTaken hasRun lackedSteps decodings thrownDecodings bytes size count data made holds numbers lengths values states) ++ (gw 8 r1 rc1 5 rows ++ gw 16 r2 rc2 6 parts)) sz tt)) (va_Qi (fun (r : Int32) (_ : Unit) => r = out.1) (fun _ => AftW (dC, dI) [((cs 1), .int), ((cs 2), .array .int), ((cs 4), .int), ((cs 5), .int), ((cs 7), .int), ((cs 8), .int), ((cs 9), .int), ((cs 10), .array .int), ((cs 12), .int), ((cs 13), .int), (rc1, .int), (rc2, .int)] (va_A ((x_MR ad cs r1 r2 kind steps byteCount partCount stepsTaken hasRun lackedSteps decodings thrownDecodings bytes size count data made holds numbers lengths values states) ++ (gw 8 r1 rc1 5 rows ++ gw 16 r2 rc2 6 parts)) sz) ((x_MR ad cs r1 r2 kind steps byteCount out.2.1 out.2.2.1 hasRun lackedSteps decodings thrownDecodings bytes size count data made holds numbers lengths values states) ++ (gw 8 r1 rc1 5 rows ++ gw 16 r2 rc2 6 out.2.2.2))) (va_A ((x_MR ad cs r1 r2 kind steps byteCount partCount stepsTaken hasRun lackedSteps decodings thrownDecodings bytes size count data made holds numbers lengths values states) ++ (gw 8 r1 rc1 5 rows ++ gw 16 r2 rc2 6 parts)) sz)) 0 0 (va_A ((x_MR ad cs r1 r2 kind steps byteCount partCount stepsTaken hasRun lackedSteps decodings thrownDecodings bytes size count data made holds numbers lengths values states) ++ (gw 8 r1 rc1 5 rows ++ gw 16 r2 rc2 6 parts)) sz) := by
  refine Met.ofW (cc := k_MR_lookAt) (maxL := 2) (ret := (some .int)) (by decide) rfl ?_
  intro p e s m args below meth c s₁ B hml hv
  obtain ⟨rfl, hsz, hP, hK, hD0, hG⟩ := hv
  have hx := B.exec
  have hb := B.bytes
  have hr := B.returns
  have hts := atoms_spec (ws := (w_MR_lookAt)) B.pre
  have hB : ∀ w ∈ BIG, w.before _ s = true := fun w h9 => hts w (List.mem_cons_of_mem _ h9)
  have hown : s.vm.findClass R_MR = some m.cls := findClass_of_methodNamed B.named
  have hlocks := B.notSynchronized
  subst hsz
  have hD := hD0.self (sz := s.heap.size)
  generalize hAe : va_A ((x_MR ad cs r1 r2 kind steps byteCount partCount stepsTaken hasRun lackedSteps decodings thrownDecodings bytes size count data made holds numbers lengths values states) ++ (gw 8 r1 rc1 5 rows ++ gw 16 r2 rc2 6 parts)) s.heap.size = A at hD hG ⊢
  have hA : ∀ q : Nat, s.heap.size ≤ q → A q := fun q h => by rw [← hAe]; exact Or.inr h
  have hS : va_S A s.heap s.heap [] := va_S.rf
  have hl := lv_entry ([.ref (ad 0), .int x1]) (n := 2) (Nat.le_of_ble_eq_true rfl)
  rw [lg_entry_eq]
  generalize (lg_sl ([.ref (ad 0), .int x1]) ++ List.replicate (2 - (lg_sl ([.ref (ad 0), .int x1])).length) Slot.unset).toArray = ls at hl ⊢
  have hl : lv_has ls 2 [(0, .ref (ad 0)), (1, .int x1)] := hl
  unfold d_MR_lookAt at h
  refine lv_aload_n hx hb d_MR_lookAt_0 rfl (lv_at hl 0 rfl) ?_
  refine lv_iload_n hx hb d_MR_lookAt_1 rfl (lv_at hl 1 rfl) ?_
  obtain ⟨o1, ho1, h⟩ := Option.bind_eq_some_iff.mp h
  have hKc := hK.sub (tys' := [((cs 1), .int), ((cs 2), .array .int), ((cs 4), .int), ((cs 5), .int), ((cs 7), .int), ((cs 8), .int), ((cs 9), .int), ((cs 10), .array .int), ((cs 12), .int), ((cs 13), .int), (rc1, .int), (rc2, .int)]) [0, 1, 2, 3, 4, 5, 6, 7, 8, 9, 10, 11] rfl
  have hPc := hP.part (cx := x_MR ad cs r1 r2 kind steps byteCount partCount stepsTaken hasRun lackedSteps decodings thrownDecodings bytes size count data made holds numbers lengths values states) [0, 1, 2, 3, 4, 5, 6, 7, 8, 9, 10, 11, 12, 13] rfl
  have hDc := hD.part (cx := x_MR ad cs r1 r2 kind steps byteCount partCount stepsTaken hasRun lackedSteps decodings thrownDecodings bytes size count data made holds numbers lengths values states) [0, 1, 2, 3, 4, 5, 6, 7, 8, 9, 10, 11, 12, 13] (by decide) rfl
  have hFc := va_freeP (cx := x_MR ad cs r1 r2 kind steps byteCount partCount stepsTaken hasRun lackedSteps decodings thrownDecodings bytes size count data made holds numbers lengths values states) hD hS hA [0, 1, 2, 3, 4, 5, 6, 7, 8, 9, 10, 11, 12, 13] rfl
  refine va_calli (va_runV (As := [.int x1]) (rest := []) ⟨hx, hb, hml, hown, hB⟩ (c_MR_markStandsAt l dC dI tt ad cs r1 rc1 r2 rc2 s.heap.size N x1 kind steps byteCount partCount stepsTaken hasRun lackedSteps decodings thrownDecodings bytes size count data made holds numbers lengths values states rows parts o1 ho1) (cwV 1 hB (gV wd_121 wd_119 wd_118 wd_105 wd_120) rfl rfl rfl (by decide +kernel) ⟨Nat.le_of_ble_eq_true rfl, Nat.le_of_ble_eq_true rfl⟩) ⟨PreW_blind, va_recv hKc hPc (ci := 0) (q0 := 0) rfl rfl, PreW_mk hKc hPc hDc hG hS hFc⟩ rfl rfl hl.1 rfl (lv_room (Nat.le_of_ble_eq_true rfl)) d_MR_lookAt_2 ⟨Nat.le_of_ble_eq_true rfl, Nat.le_of_ble_eq_true rfl⟩) hS (fun q _ h => hFc q h) hFc (fun r_1 u_1 t H1 locs ht hvm hw hB hz1 hk1 hS => ?_)
  have hw := hw.symm
  subst hw
  obtain ⟨hP1, hK1, hD1⟩ := hB
  rw [ht] at hP1
  obtain ⟨hP, hD⟩ := va_joinP (wr := pick (x_MR ad cs r1 r2 kind steps byteCount partCount stepsTaken hasRun lackedSteps decodings thrownDecodings bytes size count data made holds numbers lengths values states) []) hP hD [0, 1, 2, 3, 4, 5, 6, 7, 8, 9, 10, 11, 12, 13] [] rfl rfl (by decide) (by decide) hk1 hFc hP1 hD1
  generalize H1 = H at hP hS ⊢
  have hP : va_P (dC, dI) vwCl ((x_MR ad cs r1 r2 kind steps byteCount partCount stepsTaken hasRun lackedSteps decodings thrownDecodings bytes size count data made holds numbers lengths values states) ++ (gw 8 r1 rc1 5 rows ++ gw 16 r2 rc2 6 parts)) H := hP.part (cx := x_MR ad cs r1 r2 kind steps byteCount partCount stepsTaken hasRun lackedSteps decodings thrownDecodings bytes size count data made holds numbers lengths values states) [0, 1, 2, 3, 4, 5, 6, 7, 8, 9, 10, 11, 12, 13] rfl
  have hD : va_D A ((x_MR ad cs r1 r2 kind steps byteCount partCount stepsTaken hasRun lackedSteps decodings thrownDecodings bytes size count data made holds numbers lengths values states) ++ (gw 8 r1 rc1 5 rows ++ gw 16 r2 rc2 6 parts)) := hD.part (cx := x_MR ad cs r1 r2 kind steps byteCount partCount stepsTaken hasRun lackedSteps decodings thrownDecodings bytes size count data made holds numbers lengths values states) [0, 1, 2, 3, 4, 5, 6, 7, 8, 9, 10, 11, 12, 13] (by decide) rfl
  refine lv_if_eq (tgt := 19) hx hb d_MR_lookAt_5 (by decide) (fun c_2 => ?_) (fun c_2 => ?_)
  · have h := (if_pos c_2).symm.trans h
    refine lv_iload_n hx hb d_MR_lookAt_19 rfl (lv_at hl 1 rfl) ?_
    refine lv_iconst (v := 1) hx hb d_MR_lookAt_20 (by decide) ?_
    refine lv_iadd hx hb d_MR_lookAt_21 ?_
    have h := Option.some.inj h
    subst h
    exact W.iret hx hb hr (fun t ht hW => ⟨⟨_, (), rfl, rfl, AftW_mk hK hP hD ht hW⟩, hS.F ht⟩) hS.2.2 d_MR_lookAt_22
  · have h := (if_neg c_2).symm.trans h
    refine lv_iload_n hx hb d_MR_lookAt_8 rfl (lv_at hl 1 rfl) ?_
    refine lv_bipush (v := 6) hx hb d_MR_lookAt_9 (by decide) ?_
    refine lv_iadd hx hb d_MR_lookAt_11 ?_
    refine lv_aload_n hx hb d_MR_lookAt_12 rfl (lv_at hl 0 rfl) ?_
    refine va_get (D := (dC, dI)) (ci := 0) (v := .int byteCount) (C := R_MR) (T := T_MR) (N := 13) hx hb hB in_MR hown hK hP 0 rfl rfl 6 (by decide) (hB _ wd_110) (fun _ h9 => h9) rfl d_MR_lookAt_13 ?_
    refine lv_icmp_le (tgt := 23) hx hb d_MR_lookAt_16 (by decide) (fun c_3 => ?_) (fun c_3 => ?_)
    · have h := (if_pos c_3).symm.trans h
      refine lv_aload_n hx hb d_MR_lookAt_23 rfl (lv_at hl 0 rfl) ?_
      refine lv_iload_n hx hb d_MR_lookAt_24 rfl (lv_at hl 1 rfl) ?_
      obtain ⟨o4, ho4, h⟩ := Option.bind_eq_some_iff.mp h
      have hKc := hK.sub (tys' := [((cs 1), .int), ((cs 2), .array .int), ((cs 4), .int), ((cs 5), .int), ((cs 7), .int), ((cs 8), .int), ((cs 9), .int), ((cs 10), .array .int), ((cs 12), .int), ((cs 13), .int), (rc1, .int), (rc2, .int)]) [0, 1, 2, 3, 4, 5, 6, 7, 8, 9, 10, 11] rfl
      have hPc := hP.part (cx := x_MR ad cs r1 r2 kind steps byteCount partCount stepsTaken hasRun lackedSteps decodings thrownDecodings bytes size count data made holds numbers lengths values states) [0, 1, 2, 3, 4, 5, 6, 7, 8, 9, 10, 11, 12, 13] rfl
      have hDc := hD.part (cx := x_MR ad cs r1 r2 kind steps byteCount partCount stepsTaken hasRun lackedSteps decodings thrownDecodings bytes size count data made holds numbers lengths values states) [0, 1, 2, 3, 4, 5, 6, 7, 8, 9, 10, 11, 12, 13] (by decide) rfl
      have hFc := va_freeP (cx := x_MR ad cs r1 r2 kind steps byteCount partCount stepsTaken hasRun lackedSteps decodings thrownDecodings bytes size count data made holds numbers lengths values states) hD hS hA [0, 1, 2, 3, 4, 5, 6, 7, 8, 9, 10, 11, 12, 13] rfl
      refine va_calli (va_runV (As := [.int x1]) (rest := []) ⟨hx, hb, hml, hown, hB⟩ (c_MR_headIsRight l dC dI tt ad cs r1 rc1 r2 rc2 H.size N x1 kind steps byteCount partCount stepsTaken hasRun lackedSteps decodings thrownDecodings bytes size count data made holds numbers lengths values states rows parts o4 ho4) (cwV 1 hB (gV wd_133 wd_131 wd_130 wd_105 wd_132) rfl rfl rfl (by decide +kernel) ⟨Nat.le_of_ble_eq_true rfl, Nat.le_of_ble_eq_true rfl⟩) ⟨PreW_blind, va_recv hKc hPc (ci := 0) (q0 := 0) rfl rfl, PreW_mk hKc hPc hDc hG hS hFc⟩ rfl rfl hl.1 rfl (lv_room (Nat.le_of_ble_eq_true rfl)) d_MR_lookAt_25 ⟨Nat.le_of_ble_eq_true rfl, Nat.le_of_ble_eq_true rfl⟩) hS (fun q _ h => hFc q h) hFc (fun r_4 u_4 t H1 locs ht hvm hw hB hz1 hk1 hS => ?_)
      have hw := hw.symm
      subst hw
      obtain ⟨hP1, hK1, hD1⟩ := hB
      rw [ht] at hP1
      obtain ⟨hP, hD⟩ := va_joinP (wr := pick (x_MR ad cs r1 r2 kind steps byteCount partCount stepsTaken hasRun lackedSteps decodings thrownDecodings bytes size count data made holds numbers lengths values states) []) hP hD [0, 1, 2, 3, 4, 5, 6, 7, 8, 9, 10, 11, 12, 13] [] rfl rfl (by decide) (by decide) hk1 hFc hP1 hD1
      generalize H1 = H at hP hS ⊢
      have hP : va_P (dC, dI) vwCl ((x_MR ad cs r1 r2 kind steps byteCount partCount stepsTaken hasRun lackedSteps decodings thrownDecodings bytes size count data made holds numbers lengths values states) ++ (gw 8 r1 rc1 5 rows ++ gw 16 r2 rc2 6 parts)) H := hP.part (cx := x_MR ad cs r1 r2 kind steps byteCount partCount stepsTaken hasRun lackedSteps decodings thrownDecodings bytes size count data made holds numbers lengths values states) [0, 1, 2, 3, 4, 5, 6, 7, 8, 9, 10, 11, 12, 13] rfl
      have hD : va_D A ((x_MR ad cs r1 r2 kind steps byteCount partCount stepsTaken hasRun lackedSteps decodings thrownDecodings bytes size count data made holds numbers lengths values states) ++ (gw 8 r1 rc1 5 rows ++ gw 16 r2 rc2 6 parts)) := hD.part (cx := x_MR ad cs r1 r2 kind steps byteCount partCount stepsTaken hasRun lackedSteps decodings thrownDecodings bytes size count data made holds numbers lengths values states) [0, 1, 2, 3, 4, 5, 6, 7, 8, 9, 10, 11, 12, 13] (by decide) rfl
      refine lv_if_eq (tgt := 70) hx hb d_MR_lookAt_28 (by decide) (fun c_5 => ?_) (fun c_5 => ?_)
      · have h := (if_pos c_5).symm.trans h
        refine lv_aload_n hx hb d_MR_lookAt_70 rfl (lv_at hl 0 rfl) ?_
        refine va_get (D := (dC, dI)) (ci := 0) (v := .int partCount) (C := R_MR) (T := T_MR) (N := 13) hx hb hB in_MR hown hK hP 0 rfl rfl 7 (by decide) (hB _ wd_99) (fun _ h9 => h9) rfl d_MR_lookAt_71 ?_
        refine lv_if_le (tgt := 85) hx hb d_MR_lookAt_74 (by decide) (fun c_6 => ?_) (fun c_6 => ?_)
        · have h := (if_pos c_6).symm.trans h
          refine lv_iload_n hx hb d_MR_lookAt_85 rfl (lv_at hl 1 rfl) ?_
          refine lv_iconst (v := 1) hx hb d_MR_lookAt_86 (by decide) ?_
          refine lv_iadd hx hb d_MR_lookAt_87 ?_
          have h := Option.some.inj h
          subst h
          exact W.iret hx hb hr (fun t ht hW => ⟨⟨_, (), rfl, rfl, AftW_mk hK hP hD ht hW⟩, hS.F ht⟩) hS.2.2 d_MR_lookAt_88
        · have h := (if_neg c_6).symm.trans h
          refine lv_aload_n hx hb d_MR_lookAt_77 rfl (lv_at hl 0 rfl) ?_
          refine lv_iload_n hx hb d_MR_lookAt_78 rfl (lv_at hl 1 rfl) ?_
          obtain ⟨o7, ho7, h⟩ := Option.bind_eq_some_iff.mp h
          have hKc := hK.sub (tys' := [((cs 1), .int), ((cs 2), .array .int), ((cs 4), .int), ((cs 5), .int), ((cs 7), .int), ((cs 8), .int), ((cs 9), .int), ((cs 10), .array .int), ((cs 12), .int), ((cs 13), .int), (rc1, .int), (rc2, .int)]) [0, 1, 2, 3, 4, 5, 6, 7, 8, 9, 10, 11] rfl
          have hPc := hP.part (cx := x_MR ad cs r1 r2 kind steps byteCount partCount stepsTaken hasRun lackedSteps decodings thrownDecodings bytes size count data made holds numbers lengths values states) [0, 1, 2, 3, 4, 5, 6, 7, 8, 9, 10, 11, 12, 13] rfl
          have hDc := hD.part (cx := x_MR ad cs r1 r2 kind steps byteCount partCount stepsTaken hasRun lackedSteps decodings thrownDecodings bytes size count data made holds numbers lengths values states) [0, 1, 2, 3, 4, 5, 6, 7, 8, 9, 10, 11, 12, 13] (by decide) rfl
          have hFc := va_freeP (cx := x_MR ad cs r1 r2 kind steps byteCount partCount stepsTaken hasRun lackedSteps decodings thrownDecodings bytes size count data made holds numbers lengths values states) hD hS hA [0, 1, 2, 3, 4, 5, 6, 7, 8, 9, 10, 11, 12, 13] rfl
          refine va_calli (va_runV (As := [.int x1]) (rest := []) ⟨hx, hb, hml, hown, hB⟩ (c_MR_guessPart l dC dI tt ad cs r1 rc1 r2 rc2 H.size N x1 kind steps byteCount partCount stepsTaken hasRun lackedSteps decodings thrownDecodings bytes size count data made holds numbers lengths values states rows parts o7 ho7) (cwV 1 hB (gV wd_137 wd_135 wd_134 wd_105 wd_136) rfl rfl rfl (by decide +kernel) ⟨Nat.le_of_ble_eq_true rfl, Nat.le_of_ble_eq_true rfl⟩) ⟨PreW_blind, va_recv hKc hPc (ci := 0) (q0 := 0) rfl rfl, PreW_mk hKc hPc hDc hG hS hFc⟩ rfl rfl hl.1 rfl (lv_room (Nat.le_of_ble_eq_true rfl)) d_MR_lookAt_79 ⟨Nat.le_of_ble_eq_true rfl, Nat.le_of_ble_eq_true rfl⟩) hS (fun q _ h => hFc q h) hFc (fun r_7 u_7 t H1 locs ht hvm hw hB hz1 hk1 hS => ?_)
          have hw := hw.symm
          subst hw
          obtain ⟨hP1, hK1, hD1⟩ := hB
          rw [ht] at hP1
          obtain ⟨hP, hD⟩ := va_joinP (wr := pick (x_MR ad cs r1 r2 kind steps byteCount partCount stepsTaken hasRun lackedSteps decodings thrownDecodings bytes size count data made holds numbers lengths values states) []) hP hD [0, 1, 2, 3, 4, 5, 6, 7, 8, 9, 10, 11, 12, 13] [] rfl rfl (by decide) (by decide) hk1 hFc hP1 hD1
          generalize H1 = H at hP hS ⊢
          have hP : va_P (dC, dI) vwCl ((x_MR ad cs r1 r2 kind steps byteCount o7.2.1 o7.2.2.1 hasRun lackedSteps decodings thrownDecodings bytes size count data made holds numbers lengths values states) ++ (gw 8 r1 rc1 5 rows ++ gw 16 r2 rc2 6 o7.2.2.2)) H := hP.part (cx := x_MR ad cs r1 r2 kind steps byteCount o7.2.1 o7.2.2.1 hasRun lackedSteps decodings thrownDecodings bytes size count data made holds numbers lengths values states) [0, 1, 2, 3, 4, 5, 6, 7, 8, 9, 10, 11, 12, 13] rfl
          have hD : va_D A ((x_MR ad cs r1 r2 kind steps byteCount o7.2.1 o7.2.2.1 hasRun lackedSteps decodings thrownDecodings bytes size count data made holds numbers lengths values states) ++ (gw 8 r1 rc1 5 rows ++ gw 16 r2 rc2 6 o7.2.2.2)) := hD.part (cx := x_MR ad cs r1 r2 kind steps byteCount o7.2.1 o7.2.2.1 hasRun lackedSteps decodings thrownDecodings bytes size count data made holds numbers lengths values states) [0, 1, 2, 3, 4, 5, 6, 7, 8, 9, 10, 11, 12, 13] (by decide) rfl
          refine lv_goto (tgt := 88) hx hb d_MR_lookAt_82 (by decide) ?_
          have h := Option.some.inj h
          subst h
          exact W.iret hx hb hr (fun t ht hW => ⟨⟨_, (), rfl, rfl, AftW_mk hK hP hD ht hW⟩, hS.F ht⟩) hS.2.2 d_MR_lookAt_88
      · have h := (if_neg c_5).symm.trans h
        refine lv_aload_n hx hb d_MR_lookAt_31 rfl (lv_at hl 0 rfl) ?_
        refine lv_iload_n hx hb d_MR_lookAt_32 rfl (lv_at hl 1 rfl) ?_
        obtain ⟨o8, ho8, h⟩ := Option.bind_eq_some_iff.mp h
        have hKc := hK.sub (tys' := [((cs 1), .int), ((cs 2), .array .int), ((cs 4), .int), ((cs 5), .int), ((cs 7), .int), ((cs 8), .int), ((cs 9), .int), ((cs 10), .array .int), ((cs 12), .int), ((cs 13), .int), (rc1, .int), (rc2, .int)]) [0, 1, 2, 3, 4, 5, 6, 7, 8, 9, 10, 11] rfl
        have hPc := hP.part (cx := x_MR ad cs r1 r2 kind steps byteCount partCount stepsTaken hasRun lackedSteps decodings thrownDecodings bytes size count data made holds numbers lengths values states) [0, 1, 2, 3, 4, 5, 6, 7, 8, 9, 10, 11, 12, 13] rfl
        have hDc := hD.part (cx := x_MR ad cs r1 r2 kind steps byteCount partCount stepsTaken hasRun lackedSteps decodings thrownDecodings bytes size count data made holds numbers lengths values states) [0, 1, 2, 3, 4, 5, 6, 7, 8, 9, 10, 11, 12, 13] (by decide) rfl
        have hFc := va_freeP (cx := x_MR ad cs r1 r2 kind steps byteCount partCount stepsTaken hasRun lackedSteps decodings thrownDecodings bytes size count data made holds numbers lengths values states) hD hS hA [0, 1, 2, 3, 4, 5, 6, 7, 8, 9, 10, 11, 12, 13] rfl
        refine va_calli (va_runV (As := [.int x1]) (rest := []) ⟨hx, hb, hml, hown, hB⟩ (c_MR_dataAreThere l dC dI tt ad cs r1 rc1 r2 rc2 H.size N x1 kind steps byteCount partCount stepsTaken hasRun lackedSteps decodings thrownDecodings bytes size count data made holds numbers lengths values states rows parts o8 ho8) (cwV 1 hB (gV wd_141 wd_139 wd_138 wd_105 wd_140) rfl rfl rfl (by decide +kernel) ⟨Nat.le_of_ble_eq_true rfl, Nat.le_of_ble_eq_true rfl⟩) ⟨PreW_blind, va_recv hKc hPc (ci := 0) (q0 := 0) rfl rfl, PreW_mk hKc hPc hDc hG hS hFc⟩ rfl rfl hl.1 rfl (lv_room (Nat.le_of_ble_eq_true rfl)) d_MR_lookAt_33 ⟨Nat.le_of_ble_eq_true rfl, Nat.le_of_ble_eq_true rfl⟩) hS (fun q _ h => hFc q h) hFc (fun r_8 u_8 t H1 locs ht hvm hw hB hz1 hk1 hS => ?_)
        have hw := hw.symm
        subst hw
        obtain ⟨hP1, hK1, hD1⟩ := hB
        rw [ht] at hP1
        obtain ⟨hP, hD⟩ := va_joinP (wr := pick (x_MR ad cs r1 r2 kind steps byteCount partCount stepsTaken hasRun lackedSteps decodings thrownDecodings bytes size count data made holds numbers lengths values states) []) hP hD [0, 1, 2, 3, 4, 5, 6, 7, 8, 9, 10, 11, 12, 13] [] rfl rfl (by decide) (by decide) hk1 hFc hP1 hD1
        generalize H1 = H at hP hS ⊢
        have hP : va_P (dC, dI) vwCl ((x_MR ad cs r1 r2 kind steps byteCount partCount stepsTaken hasRun lackedSteps decodings thrownDecodings bytes size count data made holds numbers lengths values states) ++ (gw 8 r1 rc1 5 rows ++ gw 16 r2 rc2 6 parts)) H := hP.part (cx := x_MR ad cs r1 r2 kind steps byteCount partCount stepsTaken hasRun lackedSteps decodings thrownDecodings bytes size count data made holds numbers lengths values states) [0, 1, 2, 3, 4, 5, 6, 7, 8, 9, 10, 11, 12, 13] rfl
        have hD : va_D A ((x_MR ad cs r1 r2 kind steps byteCount partCount stepsTaken hasRun lackedSteps decodings thrownDecodings bytes size count data made holds numbers lengths values states) ++ (gw 8 r1 rc1 5 rows ++ gw 16 r2 rc2 6 parts)) := hD.part (cx := x_MR ad cs r1 r2 kind steps byteCount partCount stepsTaken hasRun lackedSteps decodings thrownDecodings bytes size count data made holds numbers lengths values states) [0, 1, 2, 3, 4, 5, 6, 7, 8, 9, 10, 11, 12, 13] (by decide) rfl
        refine lv_if_eq (tgt := 70) hx hb d_MR_lookAt_36 (by decide) (fun c_9 => ?_) (fun c_9 => ?_)
        · have h := (if_pos c_9).symm.trans h
          refine lv_aload_n hx hb d_MR_lookAt_70 rfl (lv_at hl 0 rfl) ?_
          refine va_get (D := (dC, dI)) (ci := 0) (v := .int partCount) (C := R_MR) (T := T_MR) (N := 13) hx hb hB in_MR hown hK hP 0 rfl rfl 7 (by decide) (hB _ wd_99) (fun _ h9 => h9) rfl d_MR_lookAt_71 ?_
          refine lv_if_le (tgt := 85) hx hb d_MR_lookAt_74 (by decide) (fun c_10 => ?_) (fun c_10 => ?_)
          · have h := (if_pos c_10).symm.trans h
            refine lv_iload_n hx hb d_MR_lookAt_85 rfl (lv_at hl 1 rfl) ?_
            refine lv_iconst (v := 1) hx hb d_MR_lookAt_86 (by decide) ?_
            refine lv_iadd hx hb d_MR_lookAt_87 ?_
            have h := Option.some.inj h
            subst h
            exact W.iret hx hb hr (fun t ht hW => ⟨⟨_, (), rfl, rfl, AftW_mk hK hP hD ht hW⟩, hS.F ht⟩) hS.2.2 d_MR_lookAt_88
          · have h := (if_neg c_10).symm.trans h
            refine lv_aload_n hx hb d_MR_lookAt_77 rfl (lv_at hl 0 rfl) ?_
            refine lv_iload_n hx hb d_MR_lookAt_78 rfl (lv_at hl 1 rfl) ?_
            obtain ⟨o11, ho11, h⟩ := Option.bind_eq_some_iff.mp h
            have hKc := hK.sub (tys' := [((cs 1), .int), ((cs 2), .array .int), ((cs 4), .int), ((cs 5), .int), ((cs 7), .int), ((cs 8), .int), ((cs 9), .int), ((cs 10), .array .int), ((cs 12), .int), ((cs 13), .int), (rc1, .int), (rc2, .int)]) [0, 1, 2, 3, 4, 5, 6, 7, 8, 9, 10, 11] rfl
            have hPc := hP.part (cx := x_MR ad cs r1 r2 kind steps byteCount partCount stepsTaken hasRun lackedSteps decodings thrownDecodings bytes size count data made holds numbers lengths values states) [0, 1, 2, 3, 4, 5, 6, 7, 8, 9, 10, 11, 12, 13] rfl
            have hDc := hD.part (cx := x_MR ad cs r1 r2 kind steps byteCount partCount stepsTaken hasRun lackedSteps decodings thrownDecodings bytes size count data made holds numbers lengths values states) [0, 1, 2, 3, 4, 5, 6, 7, 8, 9, 10, 11, 12, 13] (by decide) rfl
            have hFc := va_freeP (cx := x_MR ad cs r1 r2 kind steps byteCount partCount stepsTaken hasRun lackedSteps decodings thrownDecodings bytes size count data made holds numbers lengths values states) hD hS hA [0, 1, 2, 3, 4, 5, 6, 7, 8, 9, 10, 11, 12, 13] rfl
            refine va_calli (va_runV (As := [.int x1]) (rest := []) ⟨hx, hb, hml, hown, hB⟩ (c_MR_guessPart l dC dI tt ad cs r1 rc1 r2 rc2 H.size N x1 kind steps byteCount partCount stepsTaken hasRun lackedSteps decodings thrownDecodings bytes size count data made holds numbers lengths values states rows parts o11 ho11) (cwV 1 hB (gV wd_137 wd_135 wd_134 wd_105 wd_136) rfl rfl rfl (by decide +kernel) ⟨Nat.le_of_ble_eq_true rfl, Nat.le_of_ble_eq_true rfl⟩) ⟨PreW_blind, va_recv hKc hPc (ci := 0) (q0 := 0) rfl rfl, PreW_mk hKc hPc hDc hG hS hFc⟩ rfl rfl hl.1 rfl (lv_room (Nat.le_of_ble_eq_true rfl)) d_MR_lookAt_79 ⟨Nat.le_of_ble_eq_true rfl, Nat.le_of_ble_eq_true rfl⟩) hS (fun q _ h => hFc q h) hFc (fun r_11 u_11 t H1 locs ht hvm hw hB hz1 hk1 hS => ?_)
            have hw := hw.symm
            subst hw
            obtain ⟨hP1, hK1, hD1⟩ := hB
            rw [ht] at hP1
            obtain ⟨hP, hD⟩ := va_joinP (wr := pick (x_MR ad cs r1 r2 kind steps byteCount partCount stepsTaken hasRun lackedSteps decodings thrownDecodings bytes size count data made holds numbers lengths values states) []) hP hD [0, 1, 2, 3, 4, 5, 6, 7, 8, 9, 10, 11, 12, 13] [] rfl rfl (by decide) (by decide) hk1 hFc hP1 hD1
            generalize H1 = H at hP hS ⊢
            have hP : va_P (dC, dI) vwCl ((x_MR ad cs r1 r2 kind steps byteCount o11.2.1 o11.2.2.1 hasRun lackedSteps decodings thrownDecodings bytes size count data made holds numbers lengths values states) ++ (gw 8 r1 rc1 5 rows ++ gw 16 r2 rc2 6 o11.2.2.2)) H := hP.part (cx := x_MR ad cs r1 r2 kind steps byteCount o11.2.1 o11.2.2.1 hasRun lackedSteps decodings thrownDecodings bytes size count data made holds numbers lengths values states) [0, 1, 2, 3, 4, 5, 6, 7, 8, 9, 10, 11, 12, 13] rfl
            have hD : va_D A ((x_MR ad cs r1 r2 kind steps byteCount o11.2.1 o11.2.2.1 hasRun lackedSteps decodings thrownDecodings bytes size count data made holds numbers lengths values states) ++ (gw 8 r1 rc1 5 rows ++ gw 16 r2 rc2 6 o11.2.2.2)) := hD.part (cx := x_MR ad cs r1 r2 kind steps byteCount o11.2.1 o11.2.2.1 hasRun lackedSteps decodings thrownDecodings bytes size count data made holds numbers lengths values states) [0, 1, 2, 3, 4, 5, 6, 7, 8, 9, 10, 11, 12, 13] (by decide) rfl
            refine lv_goto (tgt := 88) hx hb d_MR_lookAt_82 (by decide) ?_
            have h := Option.some.inj h
            subst h
            exact W.iret hx hb hr (fun t ht hW => ⟨⟨_, (), rfl, rfl, AftW_mk hK hP hD ht hW⟩, hS.F ht⟩) hS.2.2 d_MR_lookAt_88
        · have h := (if_neg c_9).symm.trans h
          refine lv_aload_n hx hb d_MR_lookAt_39 rfl (lv_at hl 0 rfl) ?_
          refine lv_iload_n hx hb d_MR_lookAt_40 rfl (lv_at hl 1 rfl) ?_
          refine lv_aload_n hx hb d_MR_lookAt_41 rfl (lv_at hl 0 rfl) ?_
          refine va_get (D := (dC, dI)) (ci := 0) (v := .ref (ad 1)) (C := R_MR) (T := T_MR) (N := 13) hx hb hB in_MR hown hK hP 0 rfl rfl 2 (by decide) (hB _ wd_111) (fun _ h9 => h9) rfl d_MR_lookAt_42 ?_
          refine lv_iload_n hx hb d_MR_lookAt_45 rfl (lv_at hl 1 rfl) ?_
          refine lv_iconst (v := 2) hx hb d_MR_lookAt_46 (by decide) ?_
          refine lv_iadd hx hb d_MR_lookAt_47 ?_
          obtain ⟨b_12, h⟩ := gI_some h
          refine va_iald hx hb hK hP 1 0 rfl rfl b_12 d_MR_lookAt_48 ?_
          refine lv_aload_n hx hb d_MR_lookAt_49 rfl (lv_at hl 0 rfl) ?_
          refine va_get (D := (dC, dI)) (ci := 0) (v := .ref (ad 1)) (C := R_MR) (T := T_MR) (N := 13) hx hb hB in_MR hown hK hP 0 rfl rfl 2 (by decide) (hB _ wd_111) (fun _ h9 => h9) rfl d_MR_lookAt_50 ?_
          refine lv_iload_n hx hb d_MR_lookAt_53 rfl (lv_at hl 1 rfl) ?_
          refine lv_iconst (v := 3) hx hb d_MR_lookAt_54 (by decide) ?_
          refine lv_iadd hx hb d_MR_lookAt_55 ?_
          obtain ⟨b_13, h⟩ := gI_some h
          refine va_iald hx hb hK hP 1 0 rfl rfl b_13 d_MR_lookAt_56 ?_
          refine lv_aload_n hx hb d_MR_lookAt_57 rfl (lv_at hl 0 rfl) ?_
          refine va_get (D := (dC, dI)) (ci := 0) (v := .ref (ad 1)) (C := R_MR) (T := T_MR) (N := 13) hx hb hB in_MR hown hK hP 0 rfl rfl 2 (by decide) (hB _ wd_111) (fun _ h9 => h9) rfl d_MR_lookAt_58 ?_
          refine lv_iload_n hx hb d_MR_lookAt_61 rfl (lv_at hl 1 rfl) ?_
          refine lv_iconst (v := 4) hx hb d_MR_lookAt_62 (by decide) ?_
          refine lv_iadd hx hb d_MR_lookAt_63 ?_
          obtain ⟨b_14, h⟩ := gI_some h
          refine va_iald hx hb hK hP 1 0 rfl rfl b_14 d_MR_lookAt_64 ?_
          refine lv_iconst (v := 0) hx hb d_MR_lookAt_65 (by decide) ?_
          obtain ⟨o15, ho15, h⟩ := Option.bind_eq_some_iff.mp h
          have hKc := hK.sub (tys' := [((cs 1), .int), ((cs 2), .array .int), ((cs 4), .int), ((cs 5), .int), ((cs 7), .int), ((cs 8), .int), ((cs 9), .int), ((cs 10), .array .int), ((cs 12), .int), ((cs 13), .int), (rc1, .int), (rc2, .int)]) [0, 1, 2, 3, 4, 5, 6, 7, 8, 9, 10, 11] rfl
          have hPc := hP.part (cx := x_MR ad cs r1 r2 kind steps byteCount partCount stepsTaken hasRun lackedSteps decodings thrownDecodings bytes size count data made holds numbers lengths values states) [0, 1, 2, 3, 4, 5, 6, 7, 8, 9, 10, 11, 12, 13] rfl
          have hDc := hD.part (cx := x_MR ad cs r1 r2 kind steps byteCount partCount stepsTaken hasRun lackedSteps decodings thrownDecodings bytes size count data made holds numbers lengths values states) [0, 1, 2, 3, 4, 5, 6, 7, 8, 9, 10, 11, 12, 13] (by decide) rfl
          have hFc := va_freeP (cx := x_MR ad cs r1 r2 kind steps byteCount partCount stepsTaken hasRun lackedSteps decodings thrownDecodings bytes size count data made holds numbers lengths values states) hD hS hA [0, 1, 2, 3, 4, 5, 6, 7, 8, 9, 10, 11, 12, 13] rfl
          refine va_calli (va_runV (As := [.int x1, .int (bytes (x1 + (2 : Int32)).toNatClampNeg), .int (bytes (x1 + (3 : Int32)).toNatClampNeg), .int (bytes (x1 + (4 : Int32)).toNatClampNeg), .int (0 : Int32)]) (rest := []) ⟨hx, hb, hml, hown, hB⟩ (c_MR_keepPart l dC dI tt ad cs r1 rc1 r2 rc2 H.size N x1 (bytes (x1 + (2 : Int32)).toNatClampNeg) (bytes (x1 + (3 : Int32)).toNatClampNeg) (bytes (x1 + (4 : Int32)).toNatClampNeg) (0 : Int32) kind steps byteCount partCount stepsTaken hasRun lackedSteps decodings thrownDecodings bytes size count data made holds numbers lengths values states rows parts o15 ho15) (cwV 5 hB (gV wd_129 wd_127 wd_126 wd_105 wd_128) rfl rfl rfl (by decide +kernel) ⟨Nat.le_of_ble_eq_true rfl, Nat.le_of_ble_eq_true rfl⟩) ⟨PreW_blind, va_recv hKc hPc (ci := 0) (q0 := 0) rfl rfl, PreW_mk hKc hPc hDc hG hS hFc⟩ rfl rfl hl.1 rfl (lv_room (Nat.le_of_ble_eq_true rfl)) d_MR_lookAt_66 ⟨Nat.le_of_ble_eq_true rfl, Nat.le_of_ble_eq_true rfl⟩) hS (fun q _ h => hFc q h) hFc (fun r_15 u_15 t H1 locs ht hvm hw hB hz1 hk1 hS => ?_)
          have hw := hw.symm
          subst hw
          obtain ⟨hP1, hK1, hD1⟩ := hB
          rw [ht] at hP1
          obtain ⟨hP, hD⟩ := va_joinP (wr := pick (x_MR ad cs r1 r2 kind steps byteCount partCount stepsTaken hasRun lackedSteps decodings thrownDecodings bytes size count data made holds numbers lengths values states) []) hP hD [0, 1, 2, 3, 4, 5, 6, 7, 8, 9, 10, 11, 12, 13] [] rfl rfl (by decide) (by decide) hk1 hFc hP1 hD1
          generalize H1 = H at hP hS ⊢
          have hP : va_P (dC, dI) vwCl ((x_MR ad cs r1 r2 kind steps byteCount o15.2.1 stepsTaken hasRun lackedSteps decodings thrownDecodings bytes size count data made holds numbers lengths values states) ++ (gw 8 r1 rc1 5 rows ++ gw 16 r2 rc2 6 o15.2.2)) H := hP.part (cx := x_MR ad cs r1 r2 kind steps byteCount o15.2.1 stepsTaken hasRun lackedSteps decodings thrownDecodings bytes size count data made holds numbers lengths values states) [0, 1, 2, 3, 4, 5, 6, 7, 8, 9, 10, 11, 12, 13] rfl
          have hD : va_D A ((x_MR ad cs r1 r2 kind steps byteCount o15.2.1 stepsTaken hasRun lackedSteps decodings thrownDecodings bytes size count data made holds numbers lengths values states) ++ (gw 8 r1 rc1 5 rows ++ gw 16 r2 rc2 6 o15.2.2)) := hD.part (cx := x_MR ad cs r1 r2 kind steps byteCount o15.2.1 stepsTaken hasRun lackedSteps decodings thrownDecodings bytes size count data made holds numbers lengths values states) [0, 1, 2, 3, 4, 5, 6, 7, 8, 9, 10, 11, 12, 13] (by decide) rfl
          have h := Option.some.inj h
          subst h
          exact W.iret hx hb hr (fun t ht hW => ⟨⟨_, (), rfl, rfl, AftW_mk hK hP hD ht hW⟩, hS.F ht⟩) hS.2.2 d_MR_lookAt_69
    · have h := (if_neg c_3).symm.trans h
      refine lv_iload_n hx hb d_MR_lookAt_19 rfl (lv_at hl 1 rfl) ?_
      refine lv_iconst (v := 1) hx hb d_MR_lookAt_20 (by decide) ?_
      refine lv_iadd hx hb d_MR_lookAt_21 ?_
      have h := Option.some.inj h
      subst h
      exact W.iret hx hb hr (fun t ht hW => ⟨⟨_, (), rfl, rfl, AftW_mk hK hP hD ht hW⟩, hS.F ht⟩) hS.2.2 d_MR_lookAt_22
def d_MR_run_L18 (N : Nat) (kind : Int32) (steps : Int32) (byteCount : Int32) (bytes : Nat → Int32) : Nat → Int32 → Int32 → Int32 → Int32 → Int32 → (Nat → Int32) → (Nat → Int32) → (Nat → Nat → Int32) → Option (Int32 × Int32 × Int32 × Int32 × Int32 × (Nat → Int32) × (Nat → Int32) × (Nat → Nat → Int32))
  | 0, _, _, _, _, _, _, _, _ => none
  | n + 1, y18_1, partCount_18, stepsTaken_18, hasRun_18, lackedSteps_18, values_18, states_18, parts_18 => if steps ≤ stepsTaken_18 then some (y18_1, partCount_18, stepsTaken_18, hasRun_18, lackedSteps_18, values_18, states_18, parts_18) else if byteCount ≤ y18_1 then some (y18_1, partCount_18, stepsTaken_18, hasRun_18, lackedSteps_18, values_18, states_18, parts_18) else if (16 : Int32) ≤ partCount_18 then some (y18_1, partCount_18, stepsTaken_18, hasRun_18, lackedSteps_18, values_18, states_18, parts_18) else (d_MR_lookAt N y18_1 kind steps byteCount partCount_18 (stepsTaken_18 + (1 : Int32)) bytes parts_18).bind (fun o19004 => d_MR_run_L18 N kind steps byteCount bytes n o19004.1 o19004.2.1 o19004.2.2.1 hasRun_18 lackedSteps_18 values_18 states_18 o19004.2.2.2)
def d_MR_run (N : Nat) (kind : Int32) (steps : Int32) (byteCount : Int32) (partCount : Int32) (stepsTaken : Int32) (hasRun : Int32) (lackedSteps : Int32) (bytes : Nat → Int32) (values : Nat → Int32) (states : Nat → Int32) (parts : Nat → Nat → Int32) : Option (Int32 × Int32 × Int32 × Int32 × Int32 × (Nat → Int32) × (Nat → Int32) × (Nat → Nat → Int32)) :=
 (d_MR_forgetParts N partCount hasRun).bind (fun o1 => (d_Map_forgetAll N values states).bind (fun o2 => (d_MR_run_L18 N kind steps byteCount bytes N (0 : Int32) o1.1 (0 : Int32) o1.2 lackedSteps o2.1 o2.2 parts).bind (fun s18 => if byteCount ≤ s18.1 then some (s18.2.1, s18.2.1, s18.2.2.1, (1 : Int32), (0 : Int32), s18.2.2.2.2.2.1, s18.2.2.2.2.2.2.1, s18.2.2.2.2.2.2.2) else if (16 : Int32) ≤ s18.2.1 then some (s18.2.1, s18.2.1, s18.2.2.1, (1 : Int32), (0 : Int32), s18.2.2.2.2.2.1, s18.2.2.2.2.2.2.1, s18.2.2.2.2.2.2.2) else some (s18.2.1, s18.2.1, s18.2.2.1, (1 : Int32), (1 : Int32), s18.2.2.2.2.2.1, s18.2.2.2.2.2.2.1, s18.2.2.2.2.2.2.2))))
abbrev rm_MR_run : Room := { frames := 4, cells := 0, slots := 0, locals := 87 }
set_option maxHeartbeats 4000000 in
set_option maxRecDepth 100000 in
theorem c_MR_run (l : Launch) (dC : Nat → ClassId) (dI : Nat → Nat → Nat) (tt : Nat → Nat) (ad : Nat → Nat) (cs : Nat → ClassId) (r1 : Nat → Nat) (rc1 : ClassId) (r2 : Nat → Nat) (rc2 : ClassId) (sz N : Nat) (kind : Int32) (steps : Int32) (byteCount : Int32) (partCount : Int32) (stepsTaken : Int32) (hasRun : Int32) (lackedSteps : Int32) (decodings : Int32) (thrownDecodings : Int32) (bytes : Nat → Int32) (size : Int32) (count : Int32) (data : Nat → Int32) (made : Nat → Int32) (holds : Nat → Int32) (numbers : Nat → Int32) (lengths : Nat → Int32) (values : Nat → Int32) (states : Nat → Int32) (rows : Nat → Nat → Int32) (parts : Nat → Nat → Int32) (out : Int32 × Int32 × Int32 × Int32 × Int32 × (Nat → Int32) × (Nat → Int32) × (Nat → Nat → Int32)) (h : d_MR_run N kind steps byteCount partCount stepsTaken hasRun lackedSteps bytes values states parts = some out) :
    Met l y_MR_run (w_MR_run) rm_MR_run (va_Pc [.ref (ad 0)] (PreW (dC, dI) [((cs 1), .int), ((cs 2), .array .int), ((cs 4), .int), ((cs 5), .int), ((cs 7), .int), ((cs 8), .int), ((cs 9), .int), ((cs 10), .array .int), ((cs 12), .int), ((cs 13), .int), (rc1, .int), (rc2, .int)] ((x_MR ad cs r1 r2 kind steps byteCount partCount stepsTaken hasRun lackedSteps decodings thrownDecodings bytes size count data made holds numbers lengths values states) ++ (gw 8 r1 rc1 5 rows ++ gw 16 r2 rc2 6 parts)) sz tt)) (va_Qi (fun (r : Int32) (_ : Unit) => r = out.1) (fun _ => AftW (dC, dI) [((cs 1), .int), ((cs 2), .array .int), ((cs 4), .int), ((cs 5), .int), ((cs 7), .int), ((cs 8), .int), ((cs 9), .int), ((cs 10), .array .int), ((cs 12), .int), ((cs 13), .int), (rc1, .int), (rc2, .int)] (va_A ((x_MR ad cs r1 r2 kind steps byteCount partCount stepsTaken hasRun lackedSteps decodings thrownDecodings bytes size count data made holds numbers lengths values states) ++ (gw 8 r1 rc1 5 rows ++ gw 16 r2 rc2 6 parts)) sz) ((x_MR ad cs r1 r2 kind steps byteCount out.2.1 out.2.2.1 out.2.2.2.1 out.2.2.2.2.1 decodings thrownDecodings bytes size count data made holds numbers lengths out.2.2.2.2.2.1 out.2.2.2.2.2.2.1) ++ (gw 8 r1 rc1 5 rows ++ gw 16 r2 rc2 6 out.2.2.2.2.2.2.2))) (va_A ((x_MR ad cs r1 r2 kind steps byteCount partCount stepsTaken hasRun lackedSteps decodings thrownDecodings bytes size count data made holds numbers lengths values states) ++ (gw 8 r1 rc1 5 rows ++ gw 16 r2 rc2 6 parts)) sz)) 0 0 (va_A ((x_MR ad cs r1 r2 kind steps byteCount partCount stepsTaken hasRun lackedSteps decodings thrownDecodings bytes size count data made holds numbers lengths values states) ++ (gw 8 r1 rc1 5 rows ++ gw 16 r2 rc2 6 parts)) sz) := by
  refine Met.ofW (cc := k_MR_run) (maxL := 2) (ret := (some .int)) (by decide) rfl ?_
  intro p e s m args below meth c s₁ B hml hv
  obtain ⟨rfl, hsz, hP, hK, hD0, hG⟩ := hv
  have hx := B.exec
  have hb := B.bytes
  have hr := B.returns
  have hts := atoms_spec (ws := (w_MR_run)) B.pre
  have hB : ∀ w ∈ BIG, w.before _ s = true := fun w h9 => hts w (List.mem_cons_of_mem _ h9)
  have hown : s.vm.findClass R_MR = some m.cls := findClass_of_methodNamed B.named
  have hlocks := B.notSynchronized
  subst hsz
  have hD := hD0.self (sz := s.heap.size)
  generalize hAe : va_A ((x_MR ad cs r1 r2 kind steps byteCount partCount stepsTaken hasRun lackedSteps decodings thrownDecodings bytes size count data made holds numbers lengths values states) ++ (gw 8 r1 rc1 5 rows ++ gw 16 r2 rc2 6 parts)) s.heap.size = A at hD hG ⊢
  have hA : ∀ q : Nat, s.heap.size ≤ q → A q := fun q h => by rw [← hAe]; exact Or.inr h
  have hS : va_S A s.heap s.heap [] := va_S.rf
  have hl := lv_entry ([.ref (ad 0)]) (n := 2) (Nat.le_of_ble_eq_true rfl)
  rw [lg_entry_eq]
  generalize (lg_sl ([.ref (ad 0)]) ++ List.replicate (2 - (lg_sl ([.ref (ad 0)])).length) Slot.unset).toArray = ls at hl ⊢
  have hl : lv_has ls 2 [(0, .ref (ad 0))] := hl
  unfold d_MR_run at h
  refine lv_aload_n hx hb d_MR_run_0 rfl (lv_at hl 0 rfl) ?_
  obtain ⟨o1, ho1, h⟩ := Option.bind_eq_some_iff.mp h
  have hKc := hK.sub (tys' := [((cs 1), .int), ((cs 2), .array .int), ((cs 4), .int), ((cs 5), .int), ((cs 7), .int), ((cs 8), .int), ((cs 9), .int), ((cs 10), .array .int), ((cs 12), .int), ((cs 13), .int), (rc1, .int), (rc2, .int)]) [0, 1, 2, 3, 4, 5, 6, 7, 8, 9, 10, 11] rfl
  have hPc := hP.part (cx := x_MR ad cs r1 r2 kind steps byteCount partCount stepsTaken hasRun lackedSteps decodings thrownDecodings bytes size count data made holds numbers lengths values states) [0, 1, 2, 3, 4, 5, 6, 7, 8, 9, 10, 11, 12, 13] rfl
  have hDc := hD.part (cx := x_MR ad cs r1 r2 kind steps byteCount partCount stepsTaken hasRun lackedSteps decodings thrownDecodings bytes size count data made holds numbers lengths values states) [0, 1, 2, 3, 4, 5, 6, 7, 8, 9, 10, 11, 12, 13] (by decide) rfl
  have hFc := va_freeP (cx := x_MR ad cs r1 r2 kind steps byteCount partCount stepsTaken hasRun lackedSteps decodings thrownDecodings bytes size count data made holds numbers lengths values states) hD hS hA [0, 1, 2, 3, 4, 5, 6, 7, 8, 9, 10, 11, 12, 13] rfl
  refine va_callv (va_runV (As := []) (rest := []) ⟨hx, hb, hml, hown, hB⟩ (c_MR_forgetParts l dC dI tt ad cs r1 rc1 r2 rc2 s.heap.size N kind steps byteCount partCount stepsTaken hasRun lackedSteps decodings thrownDecodings bytes size count data made holds numbers lengths values states rows parts o1 ho1) (cwV 0 hB (gV wd_145 wd_143 wd_142 wd_105 wd_144) rfl rfl rfl (by decide +kernel) ⟨Nat.le_of_ble_eq_true rfl, Nat.le_of_ble_eq_true rfl⟩) ⟨PreW_blind, va_recv hKc hPc (ci := 0) (q0 := 0) rfl rfl, PreW_mk hKc hPc hDc hG hS hFc⟩ rfl rfl hl.1 rfl (lv_room (Nat.le_of_ble_eq_true rfl)) d_MR_run_1 ⟨Nat.le_of_ble_eq_true rfl, Nat.le_of_ble_eq_true rfl⟩) hS (fun q _ h => hFc q h) hFc (fun u_1 t H1 locs ht hvm hw hB hz1 hk1 hS => ?_)
  obtain ⟨hP1, hK1, hD1⟩ := hB
  rw [ht] at hP1
  obtain ⟨hP, hD⟩ := va_joinP (wr := pick (x_MR ad cs r1 r2 kind steps byteCount partCount stepsTaken hasRun lackedSteps decodings thrownDecodings bytes size count data made holds numbers lengths values states) []) hP hD [0, 1, 2, 3, 4, 5, 6, 7, 8, 9, 10, 11, 12, 13] [] rfl rfl (by decide) (by decide) hk1 hFc hP1 hD1
  generalize H1 = H at hP hS ⊢
  have hP : va_P (dC, dI) vwCl ((x_MR ad cs r1 r2 kind steps byteCount o1.1 stepsTaken o1.2 lackedSteps decodings thrownDecodings bytes size count data made holds numbers lengths values states) ++ (gw 8 r1 rc1 5 rows ++ gw 16 r2 rc2 6 parts)) H := hP.part (cx := x_MR ad cs r1 r2 kind steps byteCount o1.1 stepsTaken o1.2 lackedSteps decodings thrownDecodings bytes size count data made holds numbers lengths values states) [0, 1, 2, 3, 4, 5, 6, 7, 8, 9, 10, 11, 12, 13] rfl
  have hD : va_D A ((x_MR ad cs r1 r2 kind steps byteCount o1.1 stepsTaken o1.2 lackedSteps decodings thrownDecodings bytes size count data made holds numbers lengths values states) ++ (gw 8 r1 rc1 5 rows ++ gw 16 r2 rc2 6 parts)) := hD.part (cx := x_MR ad cs r1 r2 kind steps byteCount o1.1 stepsTaken o1.2 lackedSteps decodings thrownDecodings bytes size count data made holds numbers lengths values states) [0, 1, 2, 3, 4, 5, 6, 7, 8, 9, 10, 11, 12, 13] (by decide) rfl
  refine lv_aload_n hx hb d_MR_run_4 rfl (lv_at hl 0 rfl) ?_
  refine va_get (D := (dC, dI)) (ci := 0) (v := .ref (ad 11)) (C := R_MR) (T := T_MR) (N := 13) hx hb hB in_MR hown hK hP 0 rfl rfl 5 (by decide) (hB _ wd_146) (fun _ h9 => h9) rfl d_MR_run_5 ?_
  obtain ⟨o2, ho2, h⟩ := Option.bind_eq_some_iff.mp h
  have hKc := hK.sub (tys' := [((cs 12), .int), ((cs 13), .int)]) [8, 9] rfl
  have hPc := pl_P (cx := x_Map (sh 11 ad) (sh 11 cs) values states) hP [11, 12, 13] rfl
  have hDc := pl_D (cx := x_Map (sh 11 ad) (sh 11 cs) values states) hD [11, 12, 13] (by decide) rfl
  have hFc := pl_F (cx := x_Map (sh 11 ad) (sh 11 cs) values states) hD hS hA [11, 12, 13] rfl
  refine va_callv (va_runVN (As := []) (rest := []) ⟨hx, hb, hml, hown, hB⟩ (c_Map_forgetAll l dC dI tt (sh 11 ad) (sh 11 cs) H.size N values states o2 ho2) (⟨va_cnB 0 hB (gW wd_149) rfl rfl rfl (hG.1 _ (nw_at (i := 10) rfl)) (hB _ wd_4) (by decide +kernel) ⟨Nat.le_of_ble_eq_true rfl, Nat.le_of_ble_eq_true rfl⟩, hB _ wd_148, hB _ wd_147⟩) ⟨PreW_blind, va_recv hKc hPc (ci := 3) (q0 := 0) rfl rfl, PreW_mk hKc hPc hDc hG hS hFc⟩ rfl rfl hl.1 rfl (lv_room (Nat.le_of_ble_eq_true rfl)) d_MR_run_8 ⟨Nat.le_of_ble_eq_true rfl, Nat.le_of_ble_eq_true rfl⟩) hS (fun q _ h => hFc q h) hFc (fun u_2 t H1 locs ht hvm hw hB hz1 hk1 hS => ?_)
  obtain ⟨hP1, hK1, hD1⟩ := hB
  rw [ht] at hP1
  obtain ⟨hP, hD⟩ := va_joinQ (wr := pick (x_MR ad cs r1 r2 kind steps byteCount o1.1 stepsTaken o1.2 lackedSteps decodings thrownDecodings bytes size count data made holds numbers lengths values states) [0, 1, 2, 3, 4, 5, 6, 7, 8, 9, 10]) hP hD [11, 12, 13] [0, 1, 2, 3, 4, 5, 6, 7, 8, 9, 10] rfl rfl (by decide) (by decide) hk1 hFc hP1 hD1
  generalize H1 = H at hP hS ⊢
  have hP : va_P (dC, dI) vwCl ((x_MR ad cs r1 r2 kind steps byteCount o1.1 stepsTaken o1.2 lackedSteps decodings thrownDecodings bytes size count data made holds numbers lengths o2.1 o2.2) ++ (gw 8 r1 rc1 5 rows ++ gw 16 r2 rc2 6 parts)) H := hP.part (cx := x_MR ad cs r1 r2 kind steps byteCount o1.1 stepsTaken o1.2 lackedSteps decodings thrownDecodings bytes size count data made holds numbers lengths o2.1 o2.2) [0, 1, 2, 3, 4, 5, 6, 7, 8, 9, 10, 11, 12, 13] rfl
  have hD : va_D A ((x_MR ad cs r1 r2 kind steps byteCount o1.1 stepsTaken o1.2 lackedSteps decodings thrownDecodings bytes size count data made holds numbers lengths o2.1 o2.2) ++ (gw 8 r1 rc1 5 rows ++ gw 16 r2 rc2 6 parts)) := hD.part (cx := x_MR ad cs r1 r2 kind steps byteCount o1.1 stepsTaken o1.2 lackedSteps decodings thrownDecodings bytes size count data made holds numbers lengths o2.1 o2.2) [0, 1, 2, 3, 4, 5, 6, 7, 8, 9, 10, 11, 12, 13] (by decide) rfl
  refine lv_aload_n hx hb d_MR_run_11 rfl (lv_at hl 0 rfl) ?_
  refine lv_iconst (v := 0) hx hb d_MR_run_12 (by decide) ?_
  refine va_put (D := (dC, dI)) (ci := 0) (v := .int (0 : Int32)) (ty := .int) (C := R_MR) (T := T_MR) (N := 13) hx hb hB in_MR ty_MR tyok_MR nd_MR hown hK hP hD hS 0 rfl rfl 8 (by decide) (hB _ wd_116) (fun _ h9 => h9) rfl (by decide +kernel) rfl rfl (Nat.le_of_ble_eq_true rfl) d_MR_run_13 (fun H locs hP hD hS => ?_)
  have hP : va_P (dC, dI) vwCl ((x_MR ad cs r1 r2 kind steps byteCount o1.1 (0 : Int32) o1.2 lackedSteps decodings thrownDecodings bytes size count data made holds numbers lengths o2.1 o2.2) ++ (gw 8 r1 rc1 5 rows ++ gw 16 r2 rc2 6 parts)) H := hP
  have hD : va_D A ((x_MR ad cs r1 r2 kind steps byteCount o1.1 (0 : Int32) o1.2 lackedSteps decodings thrownDecodings bytes size count data made holds numbers lengths o2.1 o2.2) ++ (gw 8 r1 rc1 5 rows ++ gw 16 r2 rc2 6 parts)) := hD
  refine lv_iconst (v := 0) hx hb d_MR_run_16 (by decide) ?_
  refine lv_istore_n (lv' := [(1, .int (0 : Int32)), (0, .ref (ad 0))]) hx hb d_MR_run_17 rfl hl (by decide) rfl (fun ls hl => ?_)
  obtain ⟨s18, hs18, h⟩ := Option.bind_eq_some_iff.mp h
  have X18 : ∀ (H : Heap) (locs : List Loc) (ls : Array Slot), lv_has ls 2 [(0, .ref (ad 0)), (1, .int s18.1)] → va_P (dC, dI) vwCl ((x_MR ad cs r1 r2 kind steps byteCount s18.2.1 s18.2.2.1 s18.2.2.2.1 s18.2.2.2.2.1 decodings thrownDecodings bytes size count data made holds numbers lengths s18.2.2.2.2.2.1 s18.2.2.2.2.2.2.1) ++ (gw 8 r1 rc1 5 rows ++ gw 16 r2 rc2 6 s18.2.2.2.2.2.2.2)) H → va_D A ((x_MR ad cs r1 r2 kind steps byteCount s18.2.1 s18.2.2.1 s18.2.2.2.1 s18.2.2.2.2.1 decodings thrownDecodings bytes size count data made holds numbers lengths s18.2.2.2.2.2.1 s18.2.2.2.2.2.2.1) ++ (gw 8 r1 rc1 5 rows ++ gw 16 r2 rc2 6 s18.2.2.2.2.2.2.2)) → va_S A s.heap H locs → W p l e (headSpec (w_MR_run) rm_MR_run).room s m ([.ref (ad 0)] : List Value).toArray below meth c H locs 0 0 (MQ below (va_Qi (fun (r : Int32) (_ : Unit) => r = out.1) (fun _ => AftW (dC, dI) [((cs 1), .int), ((cs 2), .array .int), ((cs 4), .int), ((cs 5), .int), ((cs 7), .int), ((cs 8), .int), ((cs 9), .int), ((cs 10), .array .int), ((cs 12), .int), ((cs 13), .int), (rc1, .int), (rc2, .int)] A ((x_MR ad cs r1 r2 kind steps byteCount out.2.1 out.2.2.1 out.2.2.2.1 out.2.2.2.2.1 decodings thrownDecodings bytes size count data made holds numbers lengths out.2.2.2.2.2.1 out.2.2.2.2.2.2.1) ++ (gw 8 r1 rc1 5 rows ++ gw 16 r2 rc2 6 out.2.2.2.2.2.2.2))) A) ([.ref (ad 0)] : List Value).toArray s 0 0 A) (F0 m 65 ls []) := by
    intro H locs ls hl hP hD hS
    refine lv_aload_n hx hb d_MR_run_65 rfl (lv_at hl 0 rfl) ?_
    refine lv_iload_n hx hb d_MR_run_66 rfl (lv_at hl 1 rfl) ?_
    refine lv_aload_n hx hb d_MR_run_67 rfl (lv_at hl 0 rfl) ?_
    refine va_get (D := (dC, dI)) (ci := 0) (v := .int byteCount) (C := R_MR) (T := T_MR) (N := 13) hx hb hB in_MR hown hK hP 0 rfl rfl 6 (by decide) (hB _ wd_110) (fun _ h9 => h9) rfl d_MR_run_68 ?_
    refine lv_icmp_ge (tgt := 87) hx hb d_MR_run_71 (by decide) (fun c_3 => ?_) (fun c_3 => ?_)
    · have h := (if_pos c_3).symm.trans h
      refine lv_iconst (v := 0) hx hb d_MR_run_87 (by decide) ?_
      refine va_put (D := (dC, dI)) (ci := 0) (v := .int (0 : Int32)) (ty := .boolean) (C := R_MR) (T := T_MR) (N := 13) hx hb hB in_MR ty_MR tyok_MR nd_MR hown hK hP hD hS 0 rfl rfl 10 (by decide) (hB _ wd_150) (fun _ h9 => h9) rfl (by decide +kernel) rfl rfl (Nat.le_of_ble_eq_true rfl) d_MR_run_88 (fun H locs hP hD hS => ?_)
      have hP : va_P (dC, dI) vwCl ((x_MR ad cs r1 r2 kind steps byteCount s18.2.1 s18.2.2.1 s18.2.2.2.1 (0 : Int32) decodings thrownDecodings bytes size count data made holds numbers lengths s18.2.2.2.2.2.1 s18.2.2.2.2.2.2.1) ++ (gw 8 r1 rc1 5 rows ++ gw 16 r2 rc2 6 s18.2.2.2.2.2.2.2)) H := hP
      have hD : va_D A ((x_MR ad cs r1 r2 kind steps byteCount s18.2.1 s18.2.2.1 s18.2.2.2.1 (0 : Int32) decodings thrownDecodings bytes size count data made holds numbers lengths s18.2.2.2.2.2.1 s18.2.2.2.2.2.2.1) ++ (gw 8 r1 rc1 5 rows ++ gw 16 r2 rc2 6 s18.2.2.2.2.2.2.2)) := hD
      refine lv_aload_n hx hb d_MR_run_91 rfl (lv_at hl 0 rfl) ?_
      refine lv_iconst (v := 1) hx hb d_MR_run_92 (by decide) ?_
      refine va_put (D := (dC, dI)) (ci := 0) (v := .int (1 : Int32)) (ty := .boolean) (C := R_MR) (T := T_MR) (N := 13) hx hb hB in_MR ty_MR tyok_MR nd_MR hown hK hP hD hS 0 rfl rfl 9 (by decide) (hB _ wd_100) (fun _ h9 => h9) rfl (by decide +kernel) rfl rfl (Nat.le_of_ble_eq_true rfl) d_MR_run_93 (fun H locs hP hD hS => ?_)
      have hP : va_P (dC, dI) vwCl ((x_MR ad cs r1 r2 kind steps byteCount s18.2.1 s18.2.2.1 (1 : Int32) (0 : Int32) decodings thrownDecodings bytes size count data made holds numbers lengths s18.2.2.2.2.2.1 s18.2.2.2.2.2.2.1) ++ (gw 8 r1 rc1 5 rows ++ gw 16 r2 rc2 6 s18.2.2.2.2.2.2.2)) H := hP
      have hD : va_D A ((x_MR ad cs r1 r2 kind steps byteCount s18.2.1 s18.2.2.1 (1 : Int32) (0 : Int32) decodings thrownDecodings bytes size count data made holds numbers lengths s18.2.2.2.2.2.1 s18.2.2.2.2.2.2.1) ++ (gw 8 r1 rc1 5 rows ++ gw 16 r2 rc2 6 s18.2.2.2.2.2.2.2)) := hD
      refine lv_aload_n hx hb d_MR_run_96 rfl (lv_at hl 0 rfl) ?_
      refine va_get (D := (dC, dI)) (ci := 0) (v := .int s18.2.1) (C := R_MR) (T := T_MR) (N := 13) hx hb hB in_MR hown hK hP 0 rfl rfl 7 (by decide) (hB _ wd_99) (fun _ h9 => h9) rfl d_MR_run_97 ?_
      have h := Option.some.inj h
      subst h
      exact W.iret hx hb hr (fun t ht hW => ⟨⟨_, (), rfl, rfl, AftW_mk hK hP hD ht hW⟩, hS.F ht⟩) hS.2.2 d_MR_run_100
    · have h := (if_neg c_3).symm.trans h
      refine lv_aload_n hx hb d_MR_run_74 rfl (lv_at hl 0 rfl) ?_
      refine va_get (D := (dC, dI)) (ci := 0) (v := .int s18.2.1) (C := R_MR) (T := T_MR) (N := 13) hx hb hB in_MR hown hK hP 0 rfl rfl 7 (by decide) (hB _ wd_99) (fun _ h9 => h9) rfl d_MR_run_75 ?_
      refine lv_bipush (v := 16) hx hb d_MR_run_78 (by decide) ?_
      refine lv_icmp_ge (tgt := 87) hx hb d_MR_run_80 (by decide) (fun c_4 => ?_) (fun c_4 => ?_)
      · have h := (if_pos c_4).symm.trans h
        refine lv_iconst (v := 0) hx hb d_MR_run_87 (by decide) ?_
        refine va_put (D := (dC, dI)) (ci := 0) (v := .int (0 : Int32)) (ty := .boolean) (C := R_MR) (T := T_MR) (N := 13) hx hb hB in_MR ty_MR tyok_MR nd_MR hown hK hP hD hS 0 rfl rfl 10 (by decide) (hB _ wd_150) (fun _ h9 => h9) rfl (by decide +kernel) rfl rfl (Nat.le_of_ble_eq_true rfl) d_MR_run_88 (fun H locs hP hD hS => ?_)
        have hP : va_P (dC, dI) vwCl ((x_MR ad cs r1 r2 kind steps byteCount s18.2.1 s18.2.2.1 s18.2.2.2.1 (0 : Int32) decodings thrownDecodings bytes size count data made holds numbers lengths s18.2.2.2.2.2.1 s18.2.2.2.2.2.2.1) ++ (gw 8 r1 rc1 5 rows ++ gw 16 r2 rc2 6 s18.2.2.2.2.2.2.2)) H := hP
        have hD : va_D A ((x_MR ad cs r1 r2 kind steps byteCount s18.2.1 s18.2.2.1 s18.2.2.2.1 (0 : Int32) decodings thrownDecodings bytes size count data made holds numbers lengths s18.2.2.2.2.2.1 s18.2.2.2.2.2.2.1) ++ (gw 8 r1 rc1 5 rows ++ gw 16 r2 rc2 6 s18.2.2.2.2.2.2.2)) := hD
        refine lv_aload_n hx hb d_MR_run_91 rfl (lv_at hl 0 rfl) ?_
        refine lv_iconst (v := 1) hx hb d_MR_run_92 (by decide) ?_
        refine va_put (D := (dC, dI)) (ci := 0) (v := .int (1 : Int32)) (ty := .boolean) (C := R_MR) (T := T_MR) (N := 13) hx hb hB in_MR ty_MR tyok_MR nd_MR hown hK hP hD hS 0 rfl rfl 9 (by decide) (hB _ wd_100) (fun _ h9 => h9) rfl (by decide +kernel) rfl rfl (Nat.le_of_ble_eq_true rfl) d_MR_run_93 (fun H locs hP hD hS => ?_)
        have hP : va_P (dC, dI) vwCl ((x_MR ad cs r1 r2 kind steps byteCount s18.2.1 s18.2.2.1 (1 : Int32) (0 : Int32) decodings thrownDecodings bytes size count data made holds numbers lengths s18.2.2.2.2.2.1 s18.2.2.2.2.2.2.1) ++ (gw 8 r1 rc1 5 rows ++ gw 16 r2 rc2 6 s18.2.2.2.2.2.2.2)) H := hP
        have hD : va_D A ((x_MR ad cs r1 r2 kind steps byteCount s18.2.1 s18.2.2.1 (1 : Int32) (0 : Int32) decodings thrownDecodings bytes size count data made holds numbers lengths s18.2.2.2.2.2.1 s18.2.2.2.2.2.2.1) ++ (gw 8 r1 rc1 5 rows ++ gw 16 r2 rc2 6 s18.2.2.2.2.2.2.2)) := hD
        refine lv_aload_n hx hb d_MR_run_96 rfl (lv_at hl 0 rfl) ?_
        refine va_get (D := (dC, dI)) (ci := 0) (v := .int s18.2.1) (C := R_MR) (T := T_MR) (N := 13) hx hb hB in_MR hown hK hP 0 rfl rfl 7 (by decide) (hB _ wd_99) (fun _ h9 => h9) rfl d_MR_run_97 ?_
        have h := Option.some.inj h
        subst h
        exact W.iret hx hb hr (fun t ht hW => ⟨⟨_, (), rfl, rfl, AftW_mk hK hP hD ht hW⟩, hS.F ht⟩) hS.2.2 d_MR_run_100
      · have h := (if_neg c_4).symm.trans h
        refine lv_iconst (v := 1) hx hb d_MR_run_83 (by decide) ?_
        refine lv_goto (tgt := 88) hx hb d_MR_run_84 (by decide) ?_
        refine va_put (D := (dC, dI)) (ci := 0) (v := .int (1 : Int32)) (ty := .boolean) (C := R_MR) (T := T_MR) (N := 13) hx hb hB in_MR ty_MR tyok_MR nd_MR hown hK hP hD hS 0 rfl rfl 10 (by decide) (hB _ wd_150) (fun _ h9 => h9) rfl (by decide +kernel) rfl rfl (Nat.le_of_ble_eq_true rfl) d_MR_run_88 (fun H locs hP hD hS => ?_)
        have hP : va_P (dC, dI) vwCl ((x_MR ad cs r1 r2 kind steps byteCount s18.2.1 s18.2.2.1 s18.2.2.2.1 (1 : Int32) decodings thrownDecodings bytes size count data made holds numbers lengths s18.2.2.2.2.2.1 s18.2.2.2.2.2.2.1) ++ (gw 8 r1 rc1 5 rows ++ gw 16 r2 rc2 6 s18.2.2.2.2.2.2.2)) H := hP
        have hD : va_D A ((x_MR ad cs r1 r2 kind steps byteCount s18.2.1 s18.2.2.1 s18.2.2.2.1 (1 : Int32) decodings thrownDecodings bytes size count data made holds numbers lengths s18.2.2.2.2.2.1 s18.2.2.2.2.2.2.1) ++ (gw 8 r1 rc1 5 rows ++ gw 16 r2 rc2 6 s18.2.2.2.2.2.2.2)) := hD
        refine lv_aload_n hx hb d_MR_run_91 rfl (lv_at hl 0 rfl) ?_
        refine lv_iconst (v := 1) hx hb d_MR_run_92 (by decide) ?_
        refine va_put (D := (dC, dI)) (ci := 0) (v := .int (1 : Int32)) (ty := .boolean) (C := R_MR) (T := T_MR) (N := 13) hx hb hB in_MR ty_MR tyok_MR nd_MR hown hK hP hD hS 0 rfl rfl 9 (by decide) (hB _ wd_100) (fun _ h9 => h9) rfl (by decide +kernel) rfl rfl (Nat.le_of_ble_eq_true rfl) d_MR_run_93 (fun H locs hP hD hS => ?_)
        have hP : va_P (dC, dI) vwCl ((x_MR ad cs r1 r2 kind steps byteCount s18.2.1 s18.2.2.1 (1 : Int32) (1 : Int32) decodings thrownDecodings bytes size count data made holds numbers lengths s18.2.2.2.2.2.1 s18.2.2.2.2.2.2.1) ++ (gw 8 r1 rc1 5 rows ++ gw 16 r2 rc2 6 s18.2.2.2.2.2.2.2)) H := hP
        have hD : va_D A ((x_MR ad cs r1 r2 kind steps byteCount s18.2.1 s18.2.2.1 (1 : Int32) (1 : Int32) decodings thrownDecodings bytes size count data made holds numbers lengths s18.2.2.2.2.2.1 s18.2.2.2.2.2.2.1) ++ (gw 8 r1 rc1 5 rows ++ gw 16 r2 rc2 6 s18.2.2.2.2.2.2.2)) := hD
        refine lv_aload_n hx hb d_MR_run_96 rfl (lv_at hl 0 rfl) ?_
        refine va_get (D := (dC, dI)) (ci := 0) (v := .int s18.2.1) (C := R_MR) (T := T_MR) (N := 13) hx hb hB in_MR hown hK hP 0 rfl rfl 7 (by decide) (hB _ wd_99) (fun _ h9 => h9) rfl d_MR_run_97 ?_
        have h := Option.some.inj h
        subst h
        exact W.iret hx hb hr (fun t ht hW => ⟨⟨_, (), rfl, rfl, AftW_mk hK hP hD ht hW⟩, hS.F ht⟩) hS.2.2 d_MR_run_100
  have L18 : ∀ (n : Nat) (y18_1 : Int32) (partCount_18 : Int32) (stepsTaken_18 : Int32) (hasRun_18 : Int32) (lackedSteps_18 : Int32) (values_18 : Nat → Int32) (states_18 : Nat → Int32) (parts_18 : Nat → Nat → Int32) (H : Heap) (locs : List Loc) (ls : Array Slot), lv_has ls 2 [(0, .ref (ad 0)), (1, .int y18_1)] → va_P (dC, dI) vwCl ((x_MR ad cs r1 r2 kind steps byteCount partCount_18 stepsTaken_18 hasRun_18 lackedSteps_18 decodings thrownDecodings bytes size count data made holds numbers lengths values_18 states_18) ++ (gw 8 r1 rc1 5 rows ++ gw 16 r2 rc2 6 parts_18)) H → va_D A ((x_MR ad cs r1 r2 kind steps byteCount partCount_18 stepsTaken_18 hasRun_18 lackedSteps_18 decodings thrownDecodings bytes size count data made holds numbers lengths values_18 states_18) ++ (gw 8 r1 rc1 5 rows ++ gw 16 r2 rc2 6 parts_18)) → va_S A s.heap H locs → d_MR_run_L18 N kind steps byteCount bytes n y18_1 partCount_18 stepsTaken_18 hasRun_18 lackedSteps_18 values_18 states_18 parts_18 = some s18 → W p l e (headSpec (w_MR_run) rm_MR_run).room s m ([.ref (ad 0)] : List Value).toArray below meth c H locs 0 0 (MQ below (va_Qi (fun (r : Int32) (_ : Unit) => r = out.1) (fun _ => AftW (dC, dI) [((cs 1), .int), ((cs 2), .array .int), ((cs 4), .int), ((cs 5), .int), ((cs 7), .int), ((cs 8), .int), ((cs 9), .int), ((cs 10), .array .int), ((cs 12), .int), ((cs 13), .int), (rc1, .int), (rc2, .int)] A ((x_MR ad cs r1 r2 kind steps byteCount out.2.1 out.2.2.1 out.2.2.2.1 out.2.2.2.2.1 decodings thrownDecodings bytes size count data made holds numbers lengths out.2.2.2.2.2.1 out.2.2.2.2.2.2.1) ++ (gw 8 r1 rc1 5 rows ++ gw 16 r2 rc2 6 out.2.2.2.2.2.2.2))) A) ([.ref (ad 0)] : List Value).toArray s 0 0 A) (F0 m 18 ls []) := by
    intro n
    induction n with
    | zero =>
      intro y18_1 partCount_18 stepsTaken_18 hasRun_18 lackedSteps_18 values_18 states_18 parts_18 H locs ls hl hP hD hS h
      rw [d_MR_run_L18] at h
      cases h
    | succ n ih =>
      intro y18_1 partCount_18 stepsTaken_18 hasRun_18 lackedSteps_18 values_18 states_18 parts_18 H locs ls hl hP hD hS h
      rw [d_MR_run_L18] at h
      refine lv_aload_n hx hb d_MR_run_18 rfl (lv_at hl 0 rfl) ?_
      refine va_get (D := (dC, dI)) (ci := 0) (v := .int stepsTaken_18) (C := R_MR) (T := T_MR) (N := 13) hx hb hB in_MR hown hK hP 0 rfl rfl 8 (by decide) (hB _ wd_116) (fun _ h9 => h9) rfl d_MR_run_19 ?_
      refine lv_aload_n hx hb d_MR_run_22 rfl (lv_at hl 0 rfl) ?_
      refine va_get (D := (dC, dI)) (ci := 0) (v := .int steps) (C := R_MR) (T := T_MR) (N := 13) hx hb hB in_MR hown hK hP 0 rfl rfl 1 (by decide) (hB _ wd_117) (fun _ h9 => h9) rfl d_MR_run_23 ?_
      refine lv_icmp_ge (tgt := 65) hx hb d_MR_run_26 (by decide) (fun c_5 => ?_) (fun c_5 => ?_)
      · have h := (if_pos c_5).symm.trans h
        have h := Option.some.inj h
        subst h
        exact X18 H locs ls (lv_sub hl [0, 1] rfl) hP hD hS
      · have h := (if_neg c_5).symm.trans h
        refine lv_iload_n hx hb d_MR_run_29 rfl (lv_at hl 1 rfl) ?_
        refine lv_aload_n hx hb d_MR_run_30 rfl (lv_at hl 0 rfl) ?_
        refine va_get (D := (dC, dI)) (ci := 0) (v := .int byteCount) (C := R_MR) (T := T_MR) (N := 13) hx hb hB in_MR hown hK hP 0 rfl rfl 6 (by decide) (hB _ wd_110) (fun _ h9 => h9) rfl d_MR_run_31 ?_
        refine lv_icmp_ge (tgt := 65) hx hb d_MR_run_34 (by decide) (fun c_6 => ?_) (fun c_6 => ?_)
        · have h := (if_pos c_6).symm.trans h
          have h := Option.some.inj h
          subst h
          exact X18 H locs ls (lv_sub hl [0, 1] rfl) hP hD hS
        · have h := (if_neg c_6).symm.trans h
          refine lv_aload_n hx hb d_MR_run_37 rfl (lv_at hl 0 rfl) ?_
          refine va_get (D := (dC, dI)) (ci := 0) (v := .int partCount_18) (C := R_MR) (T := T_MR) (N := 13) hx hb hB in_MR hown hK hP 0 rfl rfl 7 (by decide) (hB _ wd_99) (fun _ h9 => h9) rfl d_MR_run_38 ?_
          refine lv_bipush (v := 16) hx hb d_MR_run_41 (by decide) ?_
          refine lv_icmp_ge (tgt := 65) hx hb d_MR_run_43 (by decide) (fun c_7 => ?_) (fun c_7 => ?_)
          · have h := (if_pos c_7).symm.trans h
            have h := Option.some.inj h
            subst h
            exact X18 H locs ls (lv_sub hl [0, 1] rfl) hP hD hS
          · have h := (if_neg c_7).symm.trans h
            refine lv_aload_n hx hb d_MR_run_46 rfl (lv_at hl 0 rfl) ?_
            refine lv_dup hx hb d_MR_run_47 rfl ?_
            refine va_get (D := (dC, dI)) (ci := 0) (v := .int stepsTaken_18) (C := R_MR) (T := T_MR) (N := 13) hx hb hB in_MR hown hK hP 0 rfl rfl 8 (by decide) (hB _ wd_116) (fun _ h9 => h9) rfl d_MR_run_48 ?_
            refine lv_iconst (v := 1) hx hb d_MR_run_51 (by decide) ?_
            refine lv_iadd hx hb d_MR_run_52 ?_
            refine va_put (D := (dC, dI)) (ci := 0) (v := .int (stepsTaken_18 + (1 : Int32))) (ty := .int) (C := R_MR) (T := T_MR) (N := 13) hx hb hB in_MR ty_MR tyok_MR nd_MR hown hK hP hD hS 0 rfl rfl 8 (by decide) (hB _ wd_116) (fun _ h9 => h9) rfl (by decide +kernel) rfl rfl (Nat.le_of_ble_eq_true rfl) d_MR_run_53 (fun H locs hP hD hS => ?_)
            have hP : va_P (dC, dI) vwCl ((x_MR ad cs r1 r2 kind steps byteCount partCount_18 (stepsTaken_18 + (1 : Int32)) hasRun_18 lackedSteps_18 decodings thrownDecodings bytes size count data made holds numbers lengths values_18 states_18) ++ (gw 8 r1 rc1 5 rows ++ gw 16 r2 rc2 6 parts_18)) H := hP
            have hD : va_D A ((x_MR ad cs r1 r2 kind steps byteCount partCount_18 (stepsTaken_18 + (1 : Int32)) hasRun_18 lackedSteps_18 decodings thrownDecodings bytes size count data made holds numbers lengths values_18 states_18) ++ (gw 8 r1 rc1 5 rows ++ gw 16 r2 rc2 6 parts_18)) := hD
            refine lv_aload_n hx hb d_MR_run_56 rfl (lv_at hl 0 rfl) ?_
            refine lv_iload_n hx hb d_MR_run_57 rfl (lv_at hl 1 rfl) ?_
            obtain ⟨o8, ho8, h⟩ := Option.bind_eq_some_iff.mp h
            have hKc := hK.sub (tys' := [((cs 1), .int), ((cs 2), .array .int), ((cs 4), .int), ((cs 5), .int), ((cs 7), .int), ((cs 8), .int), ((cs 9), .int), ((cs 10), .array .int), ((cs 12), .int), ((cs 13), .int), (rc1, .int), (rc2, .int)]) [0, 1, 2, 3, 4, 5, 6, 7, 8, 9, 10, 11] rfl
            have hPc := hP.part (cx := x_MR ad cs r1 r2 kind steps byteCount partCount_18 (stepsTaken_18 + (1 : Int32)) hasRun_18 lackedSteps_18 decodings thrownDecodings bytes size count data made holds numbers lengths values_18 states_18) [0, 1, 2, 3, 4, 5, 6, 7, 8, 9, 10, 11, 12, 13] rfl
            have hDc := hD.part (cx := x_MR ad cs r1 r2 kind steps byteCount partCount_18 (stepsTaken_18 + (1 : Int32)) hasRun_18 lackedSteps_18 decodings thrownDecodings bytes size count data made holds numbers lengths values_18 states_18) [0, 1, 2, 3, 4, 5, 6, 7, 8, 9, 10, 11, 12, 13] (by decide) rfl
            have hFc := va_freeP (cx := x_MR ad cs r1 r2 kind steps byteCount partCount_18 (stepsTaken_18 + (1 : Int32)) hasRun_18 lackedSteps_18 decodings thrownDecodings bytes size count data made holds numbers lengths values_18 states_18) hD hS hA [0, 1, 2, 3, 4, 5, 6, 7, 8, 9, 10, 11, 12, 13] rfl
            refine va_calli (va_runV (As := [.int y18_1]) (rest := []) ⟨hx, hb, hml, hown, hB⟩ (c_MR_lookAt l dC dI tt ad cs r1 rc1 r2 rc2 H.size N y18_1 kind steps byteCount partCount_18 (stepsTaken_18 + (1 : Int32)) hasRun_18 lackedSteps_18 decodings thrownDecodings bytes size count data made holds numbers lengths values_18 states_18 rows parts_18 o8 ho8) (cwV 1 hB (gV wd_154 wd_152 wd_151 wd_105 wd_153) rfl rfl rfl (by decide +kernel) ⟨Nat.le_of_ble_eq_true rfl, Nat.le_of_ble_eq_true rfl⟩) ⟨PreW_blind, va_recv hKc hPc (ci := 0) (q0 := 0) rfl rfl, PreW_mk hKc hPc hDc hG hS hFc⟩ rfl rfl hl.1 rfl (lv_room (Nat.le_of_ble_eq_true rfl)) d_MR_run_58 ⟨Nat.le_of_ble_eq_true rfl, Nat.le_of_ble_eq_true rfl⟩) hS (fun q _ h => hFc q h) hFc (fun r_8 u_8 t H1 locs ht hvm hw hB hz1 hk1 hS => ?_)
            have hw := hw.symm
            subst hw
            obtain ⟨hP1, hK1, hD1⟩ := hB
            rw [ht] at hP1
            obtain ⟨hP, hD⟩ := va_joinP (wr := pick (x_MR ad cs r1 r2 kind steps byteCount partCount_18 (stepsTaken_18 + (1 : Int32)) hasRun_18 lackedSteps_18 decodings thrownDecodings bytes size count data made holds numbers lengths values_18 states_18) []) hP hD [0, 1, 2, 3, 4, 5, 6, 7, 8, 9, 10, 11, 12, 13] [] rfl rfl (by decide) (by decide) hk1 hFc hP1 hD1
            generalize H1 = H at hP hS ⊢
            have hP : va_P (dC, dI) vwCl ((x_MR ad cs r1 r2 kind steps byteCount o8.2.1 o8.2.2.1 hasRun_18 lackedSteps_18 decodings thrownDecodings bytes size count data made holds numbers lengths values_18 states_18) ++ (gw 8 r1 rc1 5 rows ++ gw 16 r2 rc2 6 o8.2.2.2)) H := hP.part (cx := x_MR ad cs r1 r2 kind steps byteCount o8.2.1 o8.2.2.1 hasRun_18 lackedSteps_18 decodings thrownDecodings bytes size count data made holds numbers lengths values_18 states_18) [0, 1, 2, 3, 4, 5, 6, 7, 8, 9, 10, 11, 12, 13] rfl
            have hD : va_D A ((x_MR ad cs r1 r2 kind steps byteCount o8.2.1 o8.2.2.1 hasRun_18 lackedSteps_18 decodings thrownDecodings bytes size count data made holds numbers lengths values_18 states_18) ++ (gw 8 r1 rc1 5 rows ++ gw 16 r2 rc2 6 o8.2.2.2)) := hD.part (cx := x_MR ad cs r1 r2 kind steps byteCount o8.2.1 o8.2.2.1 hasRun_18 lackedSteps_18 decodings thrownDecodings bytes size count data made holds numbers lengths values_18 states_18) [0, 1, 2, 3, 4, 5, 6, 7, 8, 9, 10, 11, 12, 13] (by decide) rfl
            refine lv_istore_n (lv' := [(1, .int o8.1), (0, .ref (ad 0))]) hx hb d_MR_run_61 rfl hl (by decide) rfl (fun ls hl => ?_)
            refine lv_goto (tgt := 18) hx hb d_MR_run_62 (by decide) ?_
            exact ih o8.1 o8.2.1 o8.2.2.1 hasRun_18 lackedSteps_18 values_18 states_18 o8.2.2.2 H locs ls (lv_sub hl [1, 0] rfl) hP hD hS h
  exact L18 N (0 : Int32) o1.1 (0 : Int32) o1.2 lackedSteps o2.1 o2.2 parts _ _ ls (lv_sub hl [1, 0] rfl) hP hD hS hs18
def d_MR_decodePart (N : Nat) (kr : Nat) (decodings : Int32) (thrownDecodings : Int32) (bytes : Nat → Int32) (size : Int32) (count : Int32) (data : Nat → Int32) (made : Nat → Int32) (holds : Nat → Int32) (numbers : Nat → Int32) (lengths : Nat → Int32) (values : Nat → Int32) (states : Nat → Int32) (rows : Nat → Nat → Int32) (parts : Nat → Nat → Int32) : Option (Int32 × Int32 × Int32 × Int32 × Int32 × (Nat → Int32) × (Nat → Int32) × (Nat → Int32) × (Nat → Int32) × (Nat → Int32) × (Nat → Int32) × (Nat → Int32) × (Nat → Nat → Int32) × (Nat → Nat → Int32)) :=
 (d_Dec_load N ((parts kr (0 : Int32).toNatClampNeg) + (6 : Int32)) (parts kr (3 : Int32).toNatClampNeg) size count data bytes).bind (fun o1 => (d_Dec_makeSamples N (parts kr (2 : Int32).toNatClampNeg) o1.1 o1.2.1 o1.2.2 made holds numbers lengths rows).bind (fun o2 => if o2.1 = 0 then if ((upd2 parts kr (5 : Int32).toNatClampNeg o2.1) kr (4 : Int32).toNatClampNeg) = (1 : Int32) then (d_Map_tellRow N ((upd2 parts kr (5 : Int32).toNatClampNeg o2.1) kr (1 : Int32).toNatClampNeg) (1 : Int32) values states o2.2.2.1).bind (fun o6 => some (o2.1, decodings + (1 : Int32), thrownDecodings, o1.1, o2.2.1, o1.2.2, o2.2.2.1, o2.2.2.2.1, o2.2.2.2.2.1, o2.2.2.2.2.2.1, o6.1, o6.2, o2.2.2.2.2.2.2, upd2 parts kr (5 : Int32).toNatClampNeg o2.1)) else (d_Map_tellRow N ((upd2 parts kr (5 : Int32).toNatClampNeg o2.1) kr (1 : Int32).toNatClampNeg) (0 : Int32) values states o2.2.2.1).bind (fun o5 => some (o2.1, decodings + (1 : Int32), thrownDecodings, o1.1, o2.2.1, o1.2.2, o2.2.2.1, o2.2.2.2.1, o2.2.2.2.2.1, o2.2.2.2.2.2.1, o5.1, o5.2, o2.2.2.2.2.2.2, upd2 parts kr (5 : Int32).toNatClampNeg o2.1)) else some (o2.1, decodings + (1 : Int32), thrownDecodings + (1 : Int32), o1.1, o2.2.1, o1.2.2, o2.2.2.1, o2.2.2.2.1, o2.2.2.2.2.1, o2.2.2.2.2.2.1, values, states, o2.2.2.2.2.2.2, upd2 parts kr (5 : Int32).toNatClampNeg o2.1)))
abbrev rm_MR_decodePart : Room := { frames := 5, cells := 0, slots := 0, locals := 114 }
set_option maxHeartbeats 4000000 in
set_option maxRecDepth 100000 in
theorem c_MR_decodePart (l : Launch) (dC : Nat → ClassId) (dI : Nat → Nat → Nat) (tt : Nat → Nat) (ad : Nat → Nat) (cs : Nat → ClassId) (r1 : Nat → Nat) (rc1 : ClassId) (r2 : Nat → Nat) (rc2 : ClassId) (sz N : Nat) (kr : Nat) (hkr : kr < 16) (kind : Int32) (steps : Int32) (byteCount : Int32) (partCount : Int32) (stepsTaken : Int32) (hasRun : Int32) (lackedSteps : Int32) (decodings : Int32) (thrownDecodings : Int32) (bytes : Nat → Int32) (size : Int32) (count : Int32) (data : Nat → Int32) (made : Nat → Int32) (holds : Nat → Int32) (numbers : Nat → Int32) (lengths : Nat → Int32) (values : Nat → Int32) (states : Nat → Int32) (rows : Nat → Nat → Int32) (parts : Nat → Nat → Int32) (out : Int32 × Int32 × Int32 × Int32 × Int32 × (Nat → Int32) × (Nat → Int32) × (Nat → Int32) × (Nat → Int32) × (Nat → Int32) × (Nat → Int32) × (Nat → Int32) × (Nat → Nat → Int32) × (Nat → Nat → Int32)) (h : d_MR_decodePart N kr decodings thrownDecodings bytes size count data made holds numbers lengths values states rows parts = some out) :
    Met l y_MR_decodePart (w_MR_decodePart) rm_MR_decodePart (va_Pc [.ref (ad 0), .ref (r2 kr)] (PreW (dC, dI) [((cs 1), .int), ((cs 2), .array .int), ((cs 4), .int), ((cs 5), .int), ((cs 7), .int), ((cs 8), .int), ((cs 9), .int), ((cs 10), .array .int), ((cs 12), .int), ((cs 13), .int), (rc1, .int), (rc2, .int)] ((x_MR ad cs r1 r2 kind steps byteCount partCount stepsTaken hasRun lackedSteps decodings thrownDecodings bytes size count data made holds numbers lengths values states) ++ (gw 8 r1 rc1 5 rows ++ gw 16 r2 rc2 6 parts)) sz tt)) (va_Qi (fun (r : Int32) (_ : Unit) => r = out.1) (fun _ => AftW (dC, dI) [((cs 1), .int), ((cs 2), .array .int), ((cs 4), .int), ((cs 5), .int), ((cs 7), .int), ((cs 8), .int), ((cs 9), .int), ((cs 10), .array .int), ((cs 12), .int), ((cs 13), .int), (rc1, .int), (rc2, .int)] (va_A ((x_MR ad cs r1 r2 kind steps byteCount partCount stepsTaken hasRun lackedSteps decodings thrownDecodings bytes size count data made holds numbers lengths values states) ++ (gw 8 r1 rc1 5 rows ++ gw 16 r2 rc2 6 parts)) sz) ((x_MR ad cs r1 r2 kind steps byteCount partCount stepsTaken hasRun lackedSteps out.2.1 out.2.2.1 bytes out.2.2.2.1 out.2.2.2.2.1 out.2.2.2.2.2.1 out.2.2.2.2.2.2.1 out.2.2.2.2.2.2.2.1 out.2.2.2.2.2.2.2.2.1 out.2.2.2.2.2.2.2.2.2.1 out.2.2.2.2.2.2.2.2.2.2.1 out.2.2.2.2.2.2.2.2.2.2.2.1) ++ (gw 8 r1 rc1 5 out.2.2.2.2.2.2.2.2.2.2.2.2.1 ++ gw 16 r2 rc2 6 out.2.2.2.2.2.2.2.2.2.2.2.2.2))) (va_A ((x_MR ad cs r1 r2 kind steps byteCount partCount stepsTaken hasRun lackedSteps decodings thrownDecodings bytes size count data made holds numbers lengths values states) ++ (gw 8 r1 rc1 5 rows ++ gw 16 r2 rc2 6 parts)) sz)) 0 0 (va_A ((x_MR ad cs r1 r2 kind steps byteCount partCount stepsTaken hasRun lackedSteps decodings thrownDecodings bytes size count data made holds numbers lengths values states) ++ (gw 8 r1 rc1 5 rows ++ gw 16 r2 rc2 6 parts)) sz) := by
  refine Met.ofW (cc := k_MR_decodePart) (maxL := 3) (ret := (some .int)) (by decide) rfl ?_
  intro p e s m args below meth c s₁ B hml hv
  obtain ⟨rfl, hsz, hP, hK, hD0, hG⟩ := hv
  have hx := B.exec
  have hb := B.bytes
  have hr := B.returns
  have hts := atoms_spec (ws := (w_MR_decodePart)) B.pre
  have hB : ∀ w ∈ BIG, w.before _ s = true := fun w h9 => hts w (List.mem_cons_of_mem _ h9)
  have hown : s.vm.findClass R_MR = some m.cls := findClass_of_methodNamed B.named
  have hlocks := B.notSynchronized
  subst hsz
  have hD := hD0.self (sz := s.heap.size)
  generalize hAe : va_A ((x_MR ad cs r1 r2 kind steps byteCount partCount stepsTaken hasRun lackedSteps decodings thrownDecodings bytes size count data made holds numbers lengths values states) ++ (gw 8 r1 rc1 5 rows ++ gw 16 r2 rc2 6 parts)) s.heap.size = A at hD hG ⊢
  have hA : ∀ q : Nat, s.heap.size ≤ q → A q := fun q h => by rw [← hAe]; exact Or.inr h
  have hS : va_S A s.heap s.heap [] := va_S.rf
  have hl := lv_entry ([.ref (ad 0), .ref (r2 kr)]) (n := 3) (Nat.le_of_ble_eq_true rfl)
  rw [lg_entry_eq]
  generalize (lg_sl ([.ref (ad 0), .ref (r2 kr)]) ++ List.replicate (3 - (lg_sl ([.ref (ad 0), .ref (r2 kr)])).length) Slot.unset).toArray = ls at hl ⊢
  have hl : lv_has ls 3 [(0, .ref (ad 0)), (1, .ref (r2 kr))] := hl
  unfold d_MR_decodePart at h
  refine lv_aload_n hx hb d_MR_decodePart_0 rfl (lv_at hl 0 rfl) ?_
  refine va_get (D := (dC, dI)) (ci := 0) (v := .ref (ad 3)) (C := R_MR) (T := T_MR) (N := 13) hx hb hB in_MR hown hK hP 0 rfl rfl 4 (by decide) (hB _ wd_155) (fun _ h9 => h9) rfl d_MR_decodePart_1 ?_
  refine lv_aload_n hx hb d_MR_decodePart_4 rfl (lv_at hl 0 rfl) ?_
  refine va_get (D := (dC, dI)) (ci := 0) (v := .ref (ad 1)) (C := R_MR) (T := T_MR) (N := 13) hx hb hB in_MR hown hK hP 0 rfl rfl 2 (by decide) (hB _ wd_111) (fun _ h9 => h9) rfl d_MR_decodePart_5 ?_
  refine lv_aload_n hx hb d_MR_decodePart_8 rfl (lv_at hl 1 rfl) ?_
  refine lv_iconst (v := 0) hx hb d_MR_decodePart_9 (by decide) ?_
  refine gr_ald2 hx hb hK hP 11 rfl hkr (show ¬ ((0 : Int32) < 0 ∨ 6 ≤ (0 : Int32).toNatClampNeg) from by decide) d_MR_decodePart_10 ?_
  refine lv_bipush (v := 6) hx hb d_MR_decodePart_11 (by decide) ?_
  refine lv_iadd hx hb d_MR_decodePart_13 ?_
  refine lv_aload_n hx hb d_MR_decodePart_14 rfl (lv_at hl 1 rfl) ?_
  refine lv_iconst (v := 3) hx hb d_MR_decodePart_15 (by decide) ?_
  refine gr_ald2 hx hb hK hP 11 rfl hkr (show ¬ ((3 : Int32) < 0 ∨ 6 ≤ (3 : Int32).toNatClampNeg) from by decide) d_MR_decodePart_16 ?_
  obtain ⟨o1, ho1, h⟩ := Option.bind_eq_some_iff.mp h
  have hKc := hK.sub (tys' := [((cs 4), .int), ((cs 5), .int), ((cs 7), .int), ((cs 8), .int), ((cs 9), .int), ((cs 10), .array .int), ((cs 1), .int), (rc1, .int)]) [2, 3, 4, 5, 6, 7, 0, 10] rfl
  have hPc := hP.part (cx := (x_Dec (sh 3 ad) (sh 3 cs) r1 size count data made holds numbers lengths) ++ [((ad 1), .inl ((cs 1), 1200, .inl bytes))]) [3, 4, 5, 6, 7, 8, 9, 10, 1] rfl
  have hDc := hD.part (cx := (x_Dec (sh 3 ad) (sh 3 cs) r1 size count data made holds numbers lengths) ++ [((ad 1), .inl ((cs 1), 1200, .inl bytes))]) [3, 4, 5, 6, 7, 8, 9, 10, 1] (by decide) rfl
  have hFc := va_freeP (cx := (x_Dec (sh 3 ad) (sh 3 cs) r1 size count data made holds numbers lengths) ++ [((ad 1), .inl ((cs 1), 1200, .inl bytes))]) hD hS hA [3, 4, 5, 6, 7, 8, 9, 10, 1] rfl
  refine va_callv (va_runVN (As := [.ref (ad 1), .int ((parts kr (0 : Int32).toNatClampNeg) + (6 : Int32)), .int (parts kr (3 : Int32).toNatClampNeg)]) (rest := []) ⟨hx, hb, hml, hown, hB⟩ (c_Dec_load l dC dI tt (sh 3 ad) (sh 3 cs) (ad 1) (cs 1) r1 rc1 (gw 16 r2 rc2 6 parts) s.heap.size N ((parts kr (0 : Int32).toNatClampNeg) + (6 : Int32)) (parts kr (3 : Int32).toNatClampNeg) size count data made holds numbers lengths rows bytes o1 ho1) (⟨va_cnB 3 hB (gW wd_158) rfl rfl rfl (hG.1 _ (nw_at (i := 22) rfl)) (hB _ wd_44) (by decide +kernel) ⟨Nat.le_of_ble_eq_true rfl, Nat.le_of_ble_eq_true rfl⟩, hB _ wd_157, hB _ wd_156⟩) ⟨PreW_blind, va_recv hKc hPc (ci := 1) (q0 := 0) rfl rfl, PreW_mk hKc hPc hDc hG hS hFc⟩ rfl rfl hl.1 rfl (lv_room (Nat.le_of_ble_eq_true rfl)) d_MR_decodePart_17 ⟨Nat.le_of_ble_eq_true rfl, Nat.le_of_ble_eq_true rfl⟩) hS (fun q _ h => hFc q h) hFc (fun u_1 t H1 locs ht hvm hw hB hz1 hk1 hS => ?_)
  obtain ⟨hP1, hK1, hD1⟩ := hB
  rw [ht] at hP1
  obtain ⟨hP, hD⟩ := va_joinP (wr := pick (x_MR ad cs r1 r2 kind steps byteCount partCount stepsTaken hasRun lackedSteps decodings thrownDecodings bytes size count data made holds numbers lengths values states) [0, 2, 11, 12, 13]) hP hD [3, 4, 5, 6, 7, 8, 9, 10, 1] [0, 2, 11, 12, 13] rfl rfl (by decide) (by decide) hk1 hFc hP1 hD1
  generalize H1 = H at hP hS ⊢
  have hP : va_P (dC, dI) vwCl ((x_MR ad cs r1 r2 kind steps byteCount partCount stepsTaken hasRun lackedSteps decodings thrownDecodings bytes o1.1 o1.2.1 o1.2.2 made holds numbers lengths values states) ++ (gw 8 r1 rc1 5 rows ++ gw 16 r2 rc2 6 parts)) H := hP.part (cx := x_MR ad cs r1 r2 kind steps byteCount partCount stepsTaken hasRun lackedSteps decodings thrownDecodings bytes o1.1 o1.2.1 o1.2.2 made holds numbers lengths values states) [0, 13, 1, 5, 6, 7, 8, 9, 10, 11, 12, 2, 3, 4] rfl
  have hD : va_D A ((x_MR ad cs r1 r2 kind steps byteCount partCount stepsTaken hasRun lackedSteps decodings thrownDecodings bytes o1.1 o1.2.1 o1.2.2 made holds numbers lengths values states) ++ (gw 8 r1 rc1 5 rows ++ gw 16 r2 rc2 6 parts)) := hD.part (cx := x_MR ad cs r1 r2 kind steps byteCount partCount stepsTaken hasRun lackedSteps decodings thrownDecodings bytes o1.1 o1.2.1 o1.2.2 made holds numbers lengths values states) [0, 13, 1, 5, 6, 7, 8, 9, 10, 11, 12, 2, 3, 4] (by decide) rfl
  refine lv_aload_n hx hb d_MR_decodePart_20 rfl (lv_at hl 0 rfl) ?_
  refine va_get (D := (dC, dI)) (ci := 0) (v := .ref (ad 3)) (C := R_MR) (T := T_MR) (N := 13) hx hb hB in_MR hown hK hP 0 rfl rfl 4 (by decide) (hB _ wd_155) (fun _ h9 => h9) rfl d_MR_decodePart_21 ?_
  refine lv_aload_n hx hb d_MR_decodePart_24 rfl (lv_at hl 1 rfl) ?_
  refine lv_iconst (v := 2) hx hb d_MR_decodePart_25 (by decide) ?_
  refine gr_ald2 hx hb hK hP 11 rfl hkr (show ¬ ((2 : Int32) < 0 ∨ 6 ≤ (2 : Int32).toNatClampNeg) from by decide) d_MR_decodePart_26 ?_
  obtain ⟨o2, ho2, h⟩ := Option.bind_eq_some_iff.mp h
  have hKc := hK.sub (tys' := [((cs 4), .int), ((cs 5), .int), ((cs 7), .int), ((cs 8), .int), ((cs 9), .int), ((cs 10), .array .int), (rc1, .int)]) [2, 3, 4, 5, 6, 7, 10] rfl
  have hPc := hP.part (cx := x_Dec (sh 3 ad) (sh 3 cs) r1 o1.1 o1.2.1 o1.2.2 made holds numbers lengths) [3, 4, 5, 6, 7, 8, 9, 10] rfl
  have hDc := hD.part (cx := x_Dec (sh 3 ad) (sh 3 cs) r1 o1.1 o1.2.1 o1.2.2 made holds numbers lengths) [3, 4, 5, 6, 7, 8, 9, 10] (by decide) rfl
  have hFc := va_freeP (cx := x_Dec (sh 3 ad) (sh 3 cs) r1 o1.1 o1.2.1 o1.2.2 made holds numbers lengths) hD hS hA [3, 4, 5, 6, 7, 8, 9, 10] rfl
  refine va_calli (va_runVN (As := [.int (parts kr (2 : Int32).toNatClampNeg)]) (rest := []) ⟨hx, hb, hml, hown, hB⟩ (c_Dec_makeSamples l dC dI tt (sh 3 ad) (sh 3 cs) r1 rc1 (gw 16 r2 rc2 6 parts) H.size N (parts kr (2 : Int32).toNatClampNeg) o1.1 o1.2.1 o1.2.2 made holds numbers lengths rows o2 ho2) (⟨va_cnB 1 hB (gW wd_161) rfl rfl rfl (hG.1 _ (nw_at (i := 23) rfl)) (hB _ wd_44) (by decide +kernel) ⟨Nat.le_of_ble_eq_true rfl, Nat.le_of_ble_eq_true rfl⟩, hB _ wd_160, hB _ wd_159⟩) ⟨PreW_blind, va_recv hKc hPc (ci := 1) (q0 := 0) rfl rfl, PreW_mk hKc hPc hDc hG hS hFc⟩ rfl rfl hl.1 rfl (lv_room (Nat.le_of_ble_eq_true rfl)) d_MR_decodePart_27 ⟨Nat.le_of_ble_eq_true rfl, Nat.le_of_ble_eq_true rfl⟩) hS (fun q _ h => hFc q h) hFc (fun r_2 u_2 t H1 locs ht hvm hw hB hz1 hk1 hS => ?_)
  have hw := hw.symm
  subst hw
  obtain ⟨hP1, hK1, hD1⟩ := hB
  rw [ht] at hP1
  obtain ⟨hP, hD⟩ := va_joinP (wr := pick (x_MR ad cs r1 r2 kind steps byteCount partCount stepsTaken hasRun lackedSteps decodings thrownDecodings bytes o1.1 o1.2.1 o1.2.2 made holds numbers lengths values states) [0, 1, 2, 11, 12, 13]) hP hD [3, 4, 5, 6, 7, 8, 9, 10] [0, 1, 2, 11, 12, 13] rfl rfl (by decide) (by decide) hk1 hFc hP1 hD1
  generalize H1 = H at hP hS ⊢
  have hP : va_P (dC, dI) vwCl ((x_MR ad cs r1 r2 kind steps byteCount partCount stepsTaken hasRun lackedSteps decodings thrownDecodings bytes o1.1 o2.2.1 o1.2.2 o2.2.2.1 o2.2.2.2.1 o2.2.2.2.2.1 o2.2.2.2.2.2.1 values states) ++ (gw 8 r1 rc1 5 o2.2.2.2.2.2.2 ++ gw 16 r2 rc2 6 parts)) H := hP.part (cx := x_MR ad cs r1 r2 kind steps byteCount partCount stepsTaken hasRun lackedSteps decodings thrownDecodings bytes o1.1 o2.2.1 o1.2.2 o2.2.2.1 o2.2.2.2.1 o2.2.2.2.2.1 o2.2.2.2.2.2.1 values states) [0, 1, 2, 6, 7, 8, 9, 10, 11, 12, 13, 3, 4, 5] rfl
  have hD : va_D A ((x_MR ad cs r1 r2 kind steps byteCount partCount stepsTaken hasRun lackedSteps decodings thrownDecodings bytes o1.1 o2.2.1 o1.2.2 o2.2.2.1 o2.2.2.2.1 o2.2.2.2.2.1 o2.2.2.2.2.2.1 values states) ++ (gw 8 r1 rc1 5 o2.2.2.2.2.2.2 ++ gw 16 r2 rc2 6 parts)) := hD.part (cx := x_MR ad cs r1 r2 kind steps byteCount partCount stepsTaken hasRun lackedSteps decodings thrownDecodings bytes o1.1 o2.2.1 o1.2.2 o2.2.2.1 o2.2.2.2.1 o2.2.2.2.2.1 o2.2.2.2.2.2.1 values states) [0, 1, 2, 6, 7, 8, 9, 10, 11, 12, 13, 3, 4, 5] (by decide) rfl
  refine lv_istore_n (lv' := [(2, .int o2.1), (0, .ref (ad 0)), (1, .ref (r2 kr))]) hx hb d_MR_decodePart_30 rfl hl (by decide) rfl (fun ls hl => ?_)
  refine lv_aload_n hx hb d_MR_decodePart_31 rfl (lv_at hl 2 rfl) ?_
  refine lv_iconst (v := 5) hx hb d_MR_decodePart_32 (by decide) ?_
  refine lv_iload_n hx hb d_MR_decodePart_33 rfl (lv_at hl 0 rfl) ?_
  refine gr_ast2 hx hb hK hP hD hS 11 rfl hkr (show ¬ ((5 : Int32) < 0 ∨ 6 ≤ (5 : Int32).toNatClampNeg) from by decide) d_MR_decodePart_34 (fun H locs hP hD hS => ?_)
  have hP : va_P (dC, dI) vwCl ((x_MR ad cs r1 r2 kind steps byteCount partCount stepsTaken hasRun lackedSteps decodings thrownDecodings bytes o1.1 o2.2.1 o1.2.2 o2.2.2.1 o2.2.2.2.1 o2.2.2.2.2.1 o2.2.2.2.2.2.1 values states) ++ (gw 8 r1 rc1 5 o2.2.2.2.2.2.2 ++ gw 16 r2 rc2 6 (upd2 parts kr (5 : Int32).toNatClampNeg o2.1))) H := hP
  have hD : va_D A ((x_MR ad cs r1 r2 kind steps byteCount partCount stepsTaken hasRun lackedSteps decodings thrownDecodings bytes o1.1 o2.2.1 o1.2.2 o2.2.2.1 o2.2.2.2.1 o2.2.2.2.2.1 o2.2.2.2.2.2.1 values states) ++ (gw 8 r1 rc1 5 o2.2.2.2.2.2.2 ++ gw 16 r2 rc2 6 (upd2 parts kr (5 : Int32).toNatClampNeg o2.1))) := hD
  refine lv_aload_n hx hb d_MR_decodePart_35 rfl (lv_at hl 1 rfl) ?_
  refine lv_dup hx hb d_MR_decodePart_36 rfl ?_
  refine va_get (D := (dC, dI)) (ci := 0) (v := .int decodings) (C := R_MR) (T := T_MR) (N := 13) hx hb hB in_MR hown hK hP 0 rfl rfl 11 (by decide) (hB _ wd_162) (fun _ h9 => h9) rfl d_MR_decodePart_37 ?_
  refine lv_iconst (v := 1) hx hb d_MR_decodePart_40 (by decide) ?_
  refine lv_iadd hx hb d_MR_decodePart_41 ?_
  refine va_put (D := (dC, dI)) (ci := 0) (v := .int (decodings + (1 : Int32))) (ty := .int) (C := R_MR) (T := T_MR) (N := 13) hx hb hB in_MR ty_MR tyok_MR nd_MR hown hK hP hD hS 0 rfl rfl 11 (by decide) (hB _ wd_162) (fun _ h9 => h9) rfl (by decide +kernel) rfl rfl (Nat.le_of_ble_eq_true rfl) d_MR_decodePart_42 (fun H locs hP hD hS => ?_)
  have hP : va_P (dC, dI) vwCl ((x_MR ad cs r1 r2 kind steps byteCount partCount stepsTaken hasRun lackedSteps (decodings + (1 : Int32)) thrownDecodings bytes o1.1 o2.2.1 o1.2.2 o2.2.2.1 o2.2.2.2.1 o2.2.2.2.2.1 o2.2.2.2.2.2.1 values states) ++ (gw 8 r1 rc1 5 o2.2.2.2.2.2.2 ++ gw 16 r2 rc2 6 (upd2 parts kr (5 : Int32).toNatClampNeg o2.1))) H := hP
  have hD : va_D A ((x_MR ad cs r1 r2 kind steps byteCount partCount stepsTaken hasRun lackedSteps (decodings + (1 : Int32)) thrownDecodings bytes o1.1 o2.2.1 o1.2.2 o2.2.2.1 o2.2.2.2.1 o2.2.2.2.2.1 o2.2.2.2.2.2.1 values states) ++ (gw 8 r1 rc1 5 o2.2.2.2.2.2.2 ++ gw 16 r2 rc2 6 (upd2 parts kr (5 : Int32).toNatClampNeg o2.1))) := hD
  refine lv_iload_n hx hb d_MR_decodePart_45 rfl (lv_at hl 0 rfl) ?_
  refine lv_if_eq (tgt := 62) hx hb d_MR_decodePart_46 (by decide) (fun c_3 => ?_) (fun c_3 => ?_)
  · have h := (if_pos c_3).symm.trans h
    refine lv_aload_n hx hb d_MR_decodePart_62 rfl (lv_at hl 1 rfl) ?_
    refine va_get (D := (dC, dI)) (ci := 0) (v := .ref (ad 11)) (C := R_MR) (T := T_MR) (N := 13) hx hb hB in_MR hown hK hP 0 rfl rfl 5 (by decide) (hB _ wd_146) (fun _ h9 => h9) rfl d_MR_decodePart_63 ?_
    refine lv_aload_n hx hb d_MR_decodePart_66 rfl (lv_at hl 2 rfl) ?_
    refine lv_iconst (v := 1) hx hb d_MR_decodePart_67 (by decide) ?_
    refine gr_ald2 hx hb hK hP 11 rfl hkr (show ¬ ((1 : Int32) < 0 ∨ 6 ≤ (1 : Int32).toNatClampNeg) from by decide) d_MR_decodePart_68 ?_
    refine lv_aload_n hx hb d_MR_decodePart_69 rfl (lv_at hl 1 rfl) ?_
    refine va_get (D := (dC, dI)) (ci := 0) (v := .ref (ad 3)) (C := R_MR) (T := T_MR) (N := 13) hx hb hB in_MR hown hK hP 0 rfl rfl 4 (by decide) (hB _ wd_155) (fun _ h9 => h9) rfl d_MR_decodePart_70 ?_
    refine va_getN (D := (dC, dI)) (ci := 1) (v := .ref (ad 5)) (C := R_Dec) (T := T_Dec) (N := 5) hx hb hB in_Dec hown hK hP 3 rfl rfl 1 (by decide) ((va_Nw.use rfl (hG.1 _ (nw_at (i := 6) rfl)))) (fun _ h9 => h9) rfl d_MR_decodePart_73 ?_
    refine lv_aload_n hx hb d_MR_decodePart_76 rfl (lv_at hl 2 rfl) ?_
    refine lv_iconst (v := 4) hx hb d_MR_decodePart_77 (by decide) ?_
    refine gr_ald2 hx hb hK hP 11 rfl hkr (show ¬ ((4 : Int32) < 0 ∨ 6 ≤ (4 : Int32).toNatClampNeg) from by decide) d_MR_decodePart_78 ?_
    refine lv_iconst (v := 1) hx hb d_MR_decodePart_79 (by decide) ?_
    refine lv_icmp_ne (tgt := 87) hx hb d_MR_decodePart_80 (by decide) (fun c_4 => ?_) (fun c_4 => ?_)
    · have h := (if_neg c_4).symm.trans h
      refine lv_iconst (v := 0) hx hb d_MR_decodePart_87 (by decide) ?_
      obtain ⟨o5, ho5, h⟩ := Option.bind_eq_some_iff.mp h
      have hKc := hK.sub (tys' := [((cs 12), .int), ((cs 13), .int), ((cs 5), .int)]) [8, 9, 3] rfl
      have hPc := pl_P (cx := (x_Map (sh 11 ad) (sh 11 cs) values states) ++ [((ad 5), .inl ((cs 5), 16, .inl o2.2.2.1))]) hP [11, 12, 13, 5] rfl
      have hDc := pl_D (cx := (x_Map (sh 11 ad) (sh 11 cs) values states) ++ [((ad 5), .inl ((cs 5), 16, .inl o2.2.2.1))]) hD [11, 12, 13, 5] (by decide) rfl
      have hFc := pl_F (cx := (x_Map (sh 11 ad) (sh 11 cs) values states) ++ [((ad 5), .inl ((cs 5), 16, .inl o2.2.2.1))]) hD hS hA [11, 12, 13, 5] rfl
      refine va_callv (va_runVN (As := [.int ((upd2 parts kr (5 : Int32).toNatClampNeg o2.1) kr (1 : Int32).toNatClampNeg), .ref (ad 5), .int (0 : Int32)]) (rest := []) ⟨hx, hb, hml, hown, hB⟩ (c_Map_tellRow l dC dI tt (sh 11 ad) (sh 11 cs) (ad 5) (cs 5) H.size N ((upd2 parts kr (5 : Int32).toNatClampNeg o2.1) kr (1 : Int32).toNatClampNeg) (0 : Int32) values states o2.2.2.1 o5 ho5) (⟨va_cnB 3 hB (gW wd_165) rfl rfl rfl (hG.1 _ (nw_at (i := 29) rfl)) (hB _ wd_4) (by decide +kernel) ⟨Nat.le_of_ble_eq_true rfl, Nat.le_of_ble_eq_true rfl⟩, hB _ wd_164, hB _ wd_163⟩) ⟨PreW_blind, va_recv hKc hPc (ci := 3) (q0 := 0) rfl rfl, PreW_mk hKc hPc hDc hG hS hFc⟩ rfl rfl hl.1 rfl (lv_room (Nat.le_of_ble_eq_true rfl)) d_MR_decodePart_88 ⟨Nat.le_of_ble_eq_true rfl, Nat.le_of_ble_eq_true rfl⟩) hS (fun q _ h => hFc q h) hFc (fun u_5 t H1 locs ht hvm hw hB hz1 hk1 hS => ?_)
      obtain ⟨hP1, hK1, hD1⟩ := hB
      rw [ht] at hP1
      obtain ⟨hP, hD⟩ := va_joinQ (wr := pick (x_MR ad cs r1 r2 kind steps byteCount partCount stepsTaken hasRun lackedSteps (decodings + (1 : Int32)) thrownDecodings bytes o1.1 o2.2.1 o1.2.2 o2.2.2.1 o2.2.2.2.1 o2.2.2.2.2.1 o2.2.2.2.2.2.1 values states) [0, 1, 2, 3, 4, 6, 7, 8, 9, 10]) hP hD [11, 12, 13, 5] [0, 1, 2, 3, 4, 6, 7, 8, 9, 10] rfl rfl (by decide) (by decide) hk1 hFc hP1 hD1
      generalize H1 = H at hP hS ⊢
      have hP : va_P (dC, dI) vwCl ((x_MR ad cs r1 r2 kind steps byteCount partCount stepsTaken hasRun lackedSteps (decodings + (1 : Int32)) thrownDecodings bytes o1.1 o2.2.1 o1.2.2 o2.2.2.1 o2.2.2.2.1 o2.2.2.2.2.1 o2.2.2.2.2.2.1 o5.1 o5.2) ++ (gw 8 r1 rc1 5 o2.2.2.2.2.2.2 ++ gw 16 r2 rc2 6 (upd2 parts kr (5 : Int32).toNatClampNeg o2.1))) H := hP.part (cx := x_MR ad cs r1 r2 kind steps byteCount partCount stepsTaken hasRun lackedSteps (decodings + (1 : Int32)) thrownDecodings bytes o1.1 o2.2.1 o1.2.2 o2.2.2.1 o2.2.2.2.1 o2.2.2.2.2.1 o2.2.2.2.2.2.1 o5.1 o5.2) [0, 1, 2, 3, 4, 13, 5, 6, 7, 8, 9, 10, 11, 12] rfl
      have hD : va_D A ((x_MR ad cs r1 r2 kind steps byteCount partCount stepsTaken hasRun lackedSteps (decodings + (1 : Int32)) thrownDecodings bytes o1.1 o2.2.1 o1.2.2 o2.2.2.1 o2.2.2.2.1 o2.2.2.2.2.1 o2.2.2.2.2.2.1 o5.1 o5.2) ++ (gw 8 r1 rc1 5 o2.2.2.2.2.2.2 ++ gw 16 r2 rc2 6 (upd2 parts kr (5 : Int32).toNatClampNeg o2.1))) := hD.part (cx := x_MR ad cs r1 r2 kind steps byteCount partCount stepsTaken hasRun lackedSteps (decodings + (1 : Int32)) thrownDecodings bytes o1.1 o2.2.1 o1.2.2 o2.2.2.1 o2.2.2.2.1 o2.2.2.2.2.1 o2.2.2.2.2.2.1 o5.1 o5.2) [0, 1, 2, 3, 4, 13, 5, 6, 7, 8, 9, 10, 11, 12] (by decide) rfl
      refine lv_iload_n hx hb d_MR_decodePart_91 rfl (lv_at hl 0 rfl) ?_
      have h := Option.some.inj h
      subst h
      exact W.iret hx hb hr (fun t ht hW => ⟨⟨_, (), rfl, rfl, AftW_mk hK hP hD ht hW⟩, hS.F ht⟩) hS.2.2 d_MR_decodePart_92
    · have h := (if_pos c_4).symm.trans h
      refine lv_iconst (v := 1) hx hb d_MR_decodePart_83 (by decide) ?_
      refine lv_goto (tgt := 88) hx hb d_MR_decodePart_84 (by decide) ?_
      obtain ⟨o6, ho6, h⟩ := Option.bind_eq_some_iff.mp h
      have hKc := hK.sub (tys' := [((cs 12), .int), ((cs 13), .int), ((cs 5), .int)]) [8, 9, 3] rfl
      have hPc := pl_P (cx := (x_Map (sh 11 ad) (sh 11 cs) values states) ++ [((ad 5), .inl ((cs 5), 16, .inl o2.2.2.1))]) hP [11, 12, 13, 5] rfl
      have hDc := pl_D (cx := (x_Map (sh 11 ad) (sh 11 cs) values states) ++ [((ad 5), .inl ((cs 5), 16, .inl o2.2.2.1))]) hD [11, 12, 13, 5] (by decide) rfl
      have hFc := pl_F (cx := (x_Map (sh 11 ad) (sh 11 cs) values states) ++ [((ad 5), .inl ((cs 5), 16, .inl o2.2.2.1))]) hD hS hA [11, 12, 13, 5] rfl
      refine va_callv (va_runVN (As := [.int ((upd2 parts kr (5 : Int32).toNatClampNeg o2.1) kr (1 : Int32).toNatClampNeg), .ref (ad 5), .int (1 : Int32)]) (rest := []) ⟨hx, hb, hml, hown, hB⟩ (c_Map_tellRow l dC dI tt (sh 11 ad) (sh 11 cs) (ad 5) (cs 5) H.size N ((upd2 parts kr (5 : Int32).toNatClampNeg o2.1) kr (1 : Int32).toNatClampNeg) (1 : Int32) values states o2.2.2.1 o6 ho6) (⟨va_cnB 3 hB (gW wd_165) rfl rfl rfl (hG.1 _ (nw_at (i := 29) rfl)) (hB _ wd_4) (by decide +kernel) ⟨Nat.le_of_ble_eq_true rfl, Nat.le_of_ble_eq_true rfl⟩, hB _ wd_164, hB _ wd_163⟩) ⟨PreW_blind, va_recv hKc hPc (ci := 3) (q0 := 0) rfl rfl, PreW_mk hKc hPc hDc hG hS hFc⟩ rfl rfl hl.1 rfl (lv_room (Nat.le_of_ble_eq_true rfl)) d_MR_decodePart_88 ⟨Nat.le_of_ble_eq_true rfl, Nat.le_of_ble_eq_true rfl⟩) hS (fun q _ h => hFc q h) hFc (fun u_6 t H1 locs ht hvm hw hB hz1 hk1 hS => ?_)
      obtain ⟨hP1, hK1, hD1⟩ := hB
      rw [ht] at hP1
      obtain ⟨hP, hD⟩ := va_joinQ (wr := pick (x_MR ad cs r1 r2 kind steps byteCount partCount stepsTaken hasRun lackedSteps (decodings + (1 : Int32)) thrownDecodings bytes o1.1 o2.2.1 o1.2.2 o2.2.2.1 o2.2.2.2.1 o2.2.2.2.2.1 o2.2.2.2.2.2.1 values states) [0, 1, 2, 3, 4, 6, 7, 8, 9, 10]) hP hD [11, 12, 13, 5] [0, 1, 2, 3, 4, 6, 7, 8, 9, 10] rfl rfl (by decide) (by decide) hk1 hFc hP1 hD1
      generalize H1 = H at hP hS ⊢
      have hP : va_P (dC, dI) vwCl ((x_MR ad cs r1 r2 kind steps byteCount partCount stepsTaken hasRun lackedSteps (decodings + (1 : Int32)) thrownDecodings bytes o1.1 o2.2.1 o1.2.2 o2.2.2.1 o2.2.2.2.1 o2.2.2.2.2.1 o2.2.2.2.2.2.1 o6.1 o6.2) ++ (gw 8 r1 rc1 5 o2.2.2.2.2.2.2 ++ gw 16 r2 rc2 6 (upd2 parts kr (5 : Int32).toNatClampNeg o2.1))) H := hP.part (cx := x_MR ad cs r1 r2 kind steps byteCount partCount stepsTaken hasRun lackedSteps (decodings + (1 : Int32)) thrownDecodings bytes o1.1 o2.2.1 o1.2.2 o2.2.2.1 o2.2.2.2.1 o2.2.2.2.2.1 o2.2.2.2.2.2.1 o6.1 o6.2) [0, 1, 2, 3, 4, 13, 5, 6, 7, 8, 9, 10, 11, 12] rfl
      have hD : va_D A ((x_MR ad cs r1 r2 kind steps byteCount partCount stepsTaken hasRun lackedSteps (decodings + (1 : Int32)) thrownDecodings bytes o1.1 o2.2.1 o1.2.2 o2.2.2.1 o2.2.2.2.1 o2.2.2.2.2.1 o2.2.2.2.2.2.1 o6.1 o6.2) ++ (gw 8 r1 rc1 5 o2.2.2.2.2.2.2 ++ gw 16 r2 rc2 6 (upd2 parts kr (5 : Int32).toNatClampNeg o2.1))) := hD.part (cx := x_MR ad cs r1 r2 kind steps byteCount partCount stepsTaken hasRun lackedSteps (decodings + (1 : Int32)) thrownDecodings bytes o1.1 o2.2.1 o1.2.2 o2.2.2.1 o2.2.2.2.1 o2.2.2.2.2.1 o2.2.2.2.2.2.1 o6.1 o6.2) [0, 1, 2, 3, 4, 13, 5, 6, 7, 8, 9, 10, 11, 12] (by decide) rfl
      refine lv_iload_n hx hb d_MR_decodePart_91 rfl (lv_at hl 0 rfl) ?_
      have h := Option.some.inj h
      subst h
      exact W.iret hx hb hr (fun t ht hW => ⟨⟨_, (), rfl, rfl, AftW_mk hK hP hD ht hW⟩, hS.F ht⟩) hS.2.2 d_MR_decodePart_92
  · have h := (if_neg c_3).symm.trans h
    refine lv_aload_n hx hb d_MR_decodePart_49 rfl (lv_at hl 1 rfl) ?_
    refine lv_dup hx hb d_MR_decodePart_50 rfl ?_
    refine va_get (D := (dC, dI)) (ci := 0) (v := .int thrownDecodings) (C := R_MR) (T := T_MR) (N := 13) hx hb hB in_MR hown hK hP 0 rfl rfl 12 (by decide) (hB _ wd_166) (fun _ h9 => h9) rfl d_MR_decodePart_51 ?_
    refine lv_iconst (v := 1) hx hb d_MR_decodePart_54 (by decide) ?_
    refine lv_iadd hx hb d_MR_decodePart_55 ?_
    refine va_put (D := (dC, dI)) (ci := 0) (v := .int (thrownDecodings + (1 : Int32))) (ty := .int) (C := R_MR) (T := T_MR) (N := 13) hx hb hB in_MR ty_MR tyok_MR nd_MR hown hK hP hD hS 0 rfl rfl 12 (by decide) (hB _ wd_166) (fun _ h9 => h9) rfl (by decide +kernel) rfl rfl (Nat.le_of_ble_eq_true rfl) d_MR_decodePart_56 (fun H locs hP hD hS => ?_)
    have hP : va_P (dC, dI) vwCl ((x_MR ad cs r1 r2 kind steps byteCount partCount stepsTaken hasRun lackedSteps (decodings + (1 : Int32)) (thrownDecodings + (1 : Int32)) bytes o1.1 o2.2.1 o1.2.2 o2.2.2.1 o2.2.2.2.1 o2.2.2.2.2.1 o2.2.2.2.2.2.1 values states) ++ (gw 8 r1 rc1 5 o2.2.2.2.2.2.2 ++ gw 16 r2 rc2 6 (upd2 parts kr (5 : Int32).toNatClampNeg o2.1))) H := hP
    have hD : va_D A ((x_MR ad cs r1 r2 kind steps byteCount partCount stepsTaken hasRun lackedSteps (decodings + (1 : Int32)) (thrownDecodings + (1 : Int32)) bytes o1.1 o2.2.1 o1.2.2 o2.2.2.1 o2.2.2.2.1 o2.2.2.2.2.1 o2.2.2.2.2.2.1 values states) ++ (gw 8 r1 rc1 5 o2.2.2.2.2.2.2 ++ gw 16 r2 rc2 6 (upd2 parts kr (5 : Int32).toNatClampNeg o2.1))) := hD
    refine lv_goto (tgt := 91) hx hb d_MR_decodePart_59 (by decide) ?_
    refine lv_iload_n hx hb d_MR_decodePart_91 rfl (lv_at hl 0 rfl) ?_
    have h := Option.some.inj h
    subst h
    exact W.iret hx hb hr (fun t ht hW => ⟨⟨_, (), rfl, rfl, AftW_mk hK hP hD ht hW⟩, hS.F ht⟩) hS.2.2 d_MR_decodePart_92
def d_MR_decode (N : Nat) (x1 : Int32) (partCount : Int32) (hasRun : Int32) (decodings : Int32) (thrownDecodings : Int32) (bytes : Nat → Int32) (size : Int32) (count : Int32) (data : Nat → Int32) (made : Nat → Int32) (holds : Nat → Int32) (numbers : Nat → Int32) (lengths : Nat → Int32) (values : Nat → Int32) (states : Nat → Int32) (rows : Nat → Nat → Int32) (parts : Nat → Nat → Int32) : Option (Except String (Int32 × Int32 × Int32 × Int32 × Int32 × (Nat → Int32) × (Nat → Int32) × (Nat → Int32) × (Nat → Int32) × (Nat → Int32) × (Nat → Int32) × (Nat → Int32) × (Nat → Nat → Int32) × (Nat → Nat → Int32))) :=
 (d_MR_requirePart N x1 partCount hasRun).bind (fun o1 => exB o1 (fun u1 => gI x1 16 ((d_MR_decodePart N x1.toNatClampNeg decodings thrownDecodings bytes size count data made holds numbers lengths values states rows parts).bind (fun o3 => some (.ok (o3.1, o3.2.1, o3.2.2.1, o3.2.2.2.1, o3.2.2.2.2.1, o3.2.2.2.2.2.1, o3.2.2.2.2.2.2.1, o3.2.2.2.2.2.2.2.1, o3.2.2.2.2.2.2.2.2.1, o3.2.2.2.2.2.2.2.2.2.1, o3.2.2.2.2.2.2.2.2.2.2.1, o3.2.2.2.2.2.2.2.2.2.2.2.1, o3.2.2.2.2.2.2.2.2.2.2.2.2.1, o3.2.2.2.2.2.2.2.2.2.2.2.2.2))))))
abbrev rm_MR_decode : Room := { frames := 8, cells := 2, slots := 12, locals := 136 }
set_option maxHeartbeats 4000000 in
set_option maxRecDepth 100000 in
theorem c_MR_decode (l : Launch) (hlt : l.stackTraces = false) (dC : Nat → ClassId) (dI : Nat → Nat → Nat) (tt : Nat → Nat) (ad : Nat → Nat) (cs : Nat → ClassId) (r1 : Nat → Nat) (rc1 : ClassId) (r2 : Nat → Nat) (rc2 : ClassId) (sz N : Nat) (x1 : Int32) (kind : Int32) (steps : Int32) (byteCount : Int32) (partCount : Int32) (stepsTaken : Int32) (hasRun : Int32) (lackedSteps : Int32) (decodings : Int32) (thrownDecodings : Int32) (bytes : Nat → Int32) (size : Int32) (count : Int32) (data : Nat → Int32) (made : Nat → Int32) (holds : Nat → Int32) (numbers : Nat → Int32) (lengths : Nat → Int32) (values : Nat → Int32) (states : Nat → Int32) (rows : Nat → Nat → Int32) (parts : Nat → Nat → Int32) (out : Except String (Int32 × Int32 × Int32 × Int32 × Int32 × (Nat → Int32) × (Nat → Int32) × (Nat → Int32) × (Nat → Int32) × (Nat → Int32) × (Nat → Int32) × (Nat → Int32) × (Nat → Nat → Int32) × (Nat → Nat → Int32))) (h : d_MR_decode N x1 partCount hasRun decodings thrownDecodings bytes size count data made holds numbers lengths values states rows parts = some out) :
    vx_Met l y_MR_decode (w_MR_decode) rm_MR_decode (va_Pc [.ref (ad 0), .int x1] (PreW (dC, dI) [((cs 1), .int), ((cs 2), .array .int), ((cs 4), .int), ((cs 5), .int), ((cs 7), .int), ((cs 8), .int), ((cs 9), .int), ((cs 10), .array .int), ((cs 12), .int), ((cs 13), .int), (rc1, .int), (rc2, .int)] ((x_MR ad cs r1 r2 kind steps byteCount partCount stepsTaken hasRun lackedSteps decodings thrownDecodings bytes size count data made holds numbers lengths values states) ++ (gw 8 r1 rc1 5 rows ++ gw 16 r2 rc2 6 parts)) sz tt)) (va_Qi (fun (r : Int32) (u : Int32 × Int32 × Int32 × Int32 × Int32 × (Nat → Int32) × (Nat → Int32) × (Nat → Int32) × (Nat → Int32) × (Nat → Int32) × (Nat → Int32) × (Nat → Int32) × (Nat → Nat → Int32) × (Nat → Nat → Int32)) => out = .ok u ∧ r = u.1) (fun u => AftW (dC, dI) [((cs 1), .int), ((cs 2), .array .int), ((cs 4), .int), ((cs 5), .int), ((cs 7), .int), ((cs 8), .int), ((cs 9), .int), ((cs 10), .array .int), ((cs 12), .int), ((cs 13), .int), (rc1, .int), (rc2, .int)] (va_A ((x_MR ad cs r1 r2 kind steps byteCount partCount stepsTaken hasRun lackedSteps decodings thrownDecodings bytes size count data made holds numbers lengths values states) ++ (gw 8 r1 rc1 5 rows ++ gw 16 r2 rc2 6 parts)) sz) ((x_MR ad cs r1 r2 kind steps byteCount partCount stepsTaken hasRun lackedSteps u.2.1 u.2.2.1 bytes u.2.2.2.1 u.2.2.2.2.1 u.2.2.2.2.2.1 u.2.2.2.2.2.2.1 u.2.2.2.2.2.2.2.1 u.2.2.2.2.2.2.2.2.1 u.2.2.2.2.2.2.2.2.2.1 u.2.2.2.2.2.2.2.2.2.2.1 u.2.2.2.2.2.2.2.2.2.2.2.1) ++ (gw 8 r1 rc1 5 u.2.2.2.2.2.2.2.2.2.2.2.2.1 ++ gw 16 r2 rc2 6 u.2.2.2.2.2.2.2.2.2.2.2.2.2))) (va_A ((x_MR ad cs r1 r2 kind steps byteCount partCount stepsTaken hasRun lackedSteps decodings thrownDecodings bytes size count data made holds numbers lengths values states) ++ (gw 8 r1 rc1 5 rows ++ gw 16 r2 rc2 6 parts)) sz)) (vx_X (fun (_ : Unit) => True) (fun E _ t => out = .error E ∧ AftW (dC, dI) [((cs 1), .int), ((cs 2), .array .int), ((cs 4), .int), ((cs 5), .int), ((cs 7), .int), ((cs 8), .int), ((cs 9), .int), ((cs 10), .array .int), ((cs 12), .int), ((cs 13), .int), (rc1, .int), (rc2, .int)] (va_A ((x_MR ad cs r1 r2 kind steps byteCount partCount stepsTaken hasRun lackedSteps decodings thrownDecodings bytes size count data made holds numbers lengths values states) ++ (gw 8 r1 rc1 5 rows ++ gw 16 r2 rc2 6 parts)) sz) ((x_MR ad cs r1 r2 kind steps byteCount partCount stepsTaken hasRun lackedSteps decodings thrownDecodings bytes size count data made holds numbers lengths values states) ++ (gw 8 r1 rc1 5 rows ++ gw 16 r2 rc2 6 parts)) t) (va_A ((x_MR ad cs r1 r2 kind steps byteCount partCount stepsTaken hasRun lackedSteps decodings thrownDecodings bytes size count data made holds numbers lengths values states) ++ (gw 8 r1 rc1 5 rows ++ gw 16 r2 rc2 6 parts)) sz)) 2 12 (va_A ((x_MR ad cs r1 r2 kind steps byteCount partCount stepsTaken hasRun lackedSteps decodings thrownDecodings bytes size count data made holds numbers lengths values states) ++ (gw 8 r1 rc1 5 rows ++ gw 16 r2 rc2 6 parts)) sz) := by
  refine vx_ofW (cc := k_MR_decode) (maxL := 2) (ret := (some .int)) (by decide) rfl ?_
  intro p e s m args below meth c s₁ B hml hnt0 hv
  have hnt : ∀ {pc : Nat}, ∀ x ∈ c.exceptionTable.toList, covers x pc = false := fun x hx9 => (hnt0 x hx9).elim
  obtain ⟨rfl, hsz, hP, hK, hD0, hG⟩ := hv
  have hx := B.exec
  have hb := B.bytes
  have hr := B.returns
  have hts := atoms_spec (ws := (w_MR_decode)) B.pre
  have hB : ∀ w ∈ BIG, w.before _ s = true := fun w h9 => hts w (List.mem_cons_of_mem _ h9)
  have hown : s.vm.findClass R_MR = some m.cls := findClass_of_methodNamed B.named
  have hlocks := B.notSynchronized
  subst hsz
  have hD := hD0.self (sz := s.heap.size)
  generalize hAe : va_A ((x_MR ad cs r1 r2 kind steps byteCount partCount stepsTaken hasRun lackedSteps decodings thrownDecodings bytes size count data made holds numbers lengths values states) ++ (gw 8 r1 rc1 5 rows ++ gw 16 r2 rc2 6 parts)) s.heap.size = A at hD hG ⊢
  have hA : ∀ q : Nat, s.heap.size ≤ q → A q := fun q h => by rw [← hAe]; exact Or.inr h
  have hS : va_S A s.heap s.heap [] := va_S.rf
  have hl := lv_entry ([.ref (ad 0), .int x1]) (n := 2) (Nat.le_of_ble_eq_true rfl)
  rw [lg_entry_eq]
  generalize (lg_sl ([.ref (ad 0), .int x1]) ++ List.replicate (2 - (lg_sl ([.ref (ad 0), .int x1])).length) Slot.unset).toArray = ls at hl ⊢
  have hl : lv_has ls 2 [(0, .ref (ad 0)), (1, .int x1)] := hl
  unfold d_MR_decode at h
  refine lv_aload_n hx hb d_MR_decode_0 rfl (lv_at hl 0 rfl) ?_
  refine lv_iload_n hx hb d_MR_decode_1 rfl (lv_at hl 1 rfl) ?_
  obtain ⟨o1, ho1, h⟩ := Option.bind_eq_some_iff.mp h
  have hKc := hK.sub (tys' := [((cs 1), .int), ((cs 2), .array .int), ((cs 4), .int), ((cs 5), .int), ((cs 7), .int), ((cs 8), .int), ((cs 9), .int), ((cs 10), .array .int), ((cs 12), .int), ((cs 13), .int), (rc1, .int), (rc2, .int)]) [0, 1, 2, 3, 4, 5, 6, 7, 8, 9, 10, 11] rfl
  have hPc := hP.part (cx := x_MR ad cs r1 r2 kind steps byteCount partCount stepsTaken hasRun lackedSteps decodings thrownDecodings bytes size count data made holds numbers lengths values states) [0, 1, 2, 3, 4, 5, 6, 7, 8, 9, 10, 11, 12, 13] rfl
  have hDc := hD.part (cx := x_MR ad cs r1 r2 kind steps byteCount partCount stepsTaken hasRun lackedSteps decodings thrownDecodings bytes size count data made holds numbers lengths values states) [0, 1, 2, 3, 4, 5, 6, 7, 8, 9, 10, 11, 12, 13] (by decide) rfl
  have hFc := va_freeP (cx := x_MR ad cs r1 r2 kind steps byteCount partCount stepsTaken hasRun lackedSteps decodings thrownDecodings bytes size count data made holds numbers lengths values states) hD hS hA [0, 1, 2, 3, 4, 5, 6, 7, 8, 9, 10, 11, 12, 13] rfl
  refine vx_callv (vx_runV (As := [.int x1]) (rest := []) ⟨hx, hb, hml, hown, hB⟩ (c_MR_requirePart l hlt dC dI tt ad cs r1 rc1 r2 rc2 s.heap.size N x1 kind steps byteCount partCount stepsTaken hasRun lackedSteps decodings thrownDecodings bytes size count data made holds numbers lengths values states rows parts o1 ho1) (cwV 1 hB (gV wd_170 wd_168 wd_167 wd_105 wd_169) rfl rfl rfl (by decide +kernel) ⟨Nat.le_of_ble_eq_true rfl, Nat.le_of_ble_eq_true rfl⟩) ⟨PreW_blind, va_recv hKc hPc (ci := 0) (q0 := 0) rfl rfl, PreW_mk hKc hPc hDc hG hS hFc⟩ rfl rfl hl.1 rfl (lv_room (Nat.le_of_ble_eq_true rfl)) d_MR_decode_2 ⟨Nat.le_of_ble_eq_true rfl, Nat.le_of_ble_eq_true rfl⟩) hS (fun q _ h => hFc q h) hFc (fun q _ h => hFc q h) (fun E ce q9 u_1 t H1 locs ht hvm hw hB hz1 hk1 hS hce hcv hcl => ?_) (fun u1 t H1 locs ht hvm hw hB hz1 hk1 hS => ?_)
  · obtain ⟨heE, hB⟩ := hB
    subst heE
    obtain ⟨hP1, hK1, hD1⟩ := hB
    rw [ht] at hP1
    obtain ⟨hP, hD⟩ := va_joinP (wr := pick (x_MR ad cs r1 r2 kind steps byteCount partCount stepsTaken hasRun lackedSteps decodings thrownDecodings bytes size count data made holds numbers lengths values states) []) hP hD [0, 1, 2, 3, 4, 5, 6, 7, 8, 9, 10, 11, 12, 13] [] rfl rfl (by decide) (by decide) hk1 hFc hP1 hD1
    generalize H1 = H at hP hS hce ⊢
    have hP : va_P (dC, dI) vwCl ((x_MR ad cs r1 r2 kind steps byteCount partCount stepsTaken hasRun lackedSteps decodings thrownDecodings bytes size count data made holds numbers lengths values states) ++ (gw 8 r1 rc1 5 rows ++ gw 16 r2 rc2 6 parts)) H := hP.part (cx := x_MR ad cs r1 r2 kind steps byteCount partCount stepsTaken hasRun lackedSteps decodings thrownDecodings bytes size count data made holds numbers lengths values states) [0, 1, 2, 3, 4, 5, 6, 7, 8, 9, 10, 11, 12, 13] rfl
    have hD : va_D A ((x_MR ad cs r1 r2 kind steps byteCount partCount stepsTaken hasRun lackedSteps decodings thrownDecodings bytes size count data made holds numbers lengths values states) ++ (gw 8 r1 rc1 5 rows ++ gw 16 r2 rc2 6 parts)) := hD.part (cx := x_MR ad cs r1 r2 kind steps byteCount partCount stepsTaken hasRun lackedSteps decodings thrownDecodings bytes size count data made holds numbers lengths values states) [0, 1, 2, 3, 4, 5, 6, 7, 8, 9, 10, 11, 12, 13] (by decide) rfl
    have h := exB_er h
    subst h
    refine vx_widen (k := 2) (n := 12) (by decide) (by decide) ?_
    exact vx_out (E := E) hnt hlocks hce hcv hcl (fun t9 ht9 hvm9 => ⟨(), trivial, ⟨rfl, AftW_mv hK hP hD ht9 hvm9⟩, hS.F ht9⟩) hS.2.2 (by decide) (by decide)
  subst hw
  have h := exB_ok h
  obtain ⟨hP1, hK1, hD1⟩ := hB
  rw [ht] at hP1
  obtain ⟨hP, hD⟩ := va_joinP (wr := pick (x_MR ad cs r1 r2 kind steps byteCount partCount stepsTaken hasRun lackedSteps decodings thrownDecodings bytes size count data made holds numbers lengths values states) []) hP hD [0, 1, 2, 3, 4, 5, 6, 7, 8, 9, 10, 11, 12, 13] [] rfl rfl (by decide) (by decide) hk1 hFc hP1 hD1
  generalize H1 = H at hP hS ⊢
  have hP : va_P (dC, dI) vwCl ((x_MR ad cs r1 r2 kind steps byteCount partCount stepsTaken hasRun lackedSteps decodings thrownDecodings bytes size count data made holds numbers lengths values states) ++ (gw 8 r1 rc1 5 rows ++ gw 16 r2 rc2 6 parts)) H := hP.part (cx := x_MR ad cs r1 r2 kind steps byteCount partCount stepsTaken hasRun lackedSteps decodings thrownDecodings bytes size count data made holds numbers lengths values states) [0, 1, 2, 3, 4, 5, 6, 7, 8, 9, 10, 11, 12, 13] rfl
  have hD : va_D A ((x_MR ad cs r1 r2 kind steps byteCount partCount stepsTaken hasRun lackedSteps decodings thrownDecodings bytes size count data made holds numbers lengths values states) ++ (gw 8 r1 rc1 5 rows ++ gw 16 r2 rc2 6 parts)) := hD.part (cx := x_MR ad cs r1 r2 kind steps byteCount partCount stepsTaken hasRun lackedSteps decodings thrownDecodings bytes size count data made holds numbers lengths values states) [0, 1, 2, 3, 4, 5, 6, 7, 8, 9, 10, 11, 12, 13] (by decide) rfl
  refine W.widen (k := 2) (n := 12) (by decide) (by decide) ?_
  refine lv_aload_n hx hb d_MR_decode_5 rfl (lv_at hl 0 rfl) ?_
  refine lv_aload_n hx hb d_MR_decode_6 rfl (lv_at hl 0 rfl) ?_
  refine va_get (D := (dC, dI)) (ci := 0) (v := .ref (ad 2)) (C := R_MR) (T := T_MR) (N := 13) hx hb hB in_MR hown hK hP 0 rfl rfl 3 (by decide) (hB _ wd_115) (fun _ h9 => h9) rfl d_MR_decode_7 ?_
  refine lv_iload_n hx hb d_MR_decode_10 rfl (lv_at hl 1 rfl) ?_
  obtain ⟨b_2, h⟩ := gI_some h
  refine gr_aald hx hb hK hP 2 1 rfl rfl b_2 d_MR_decode_11 ?_
  obtain ⟨o3, ho3, h⟩ := Option.bind_eq_some_iff.mp h
  have hKc := hK.sub (tys' := [((cs 1), .int), ((cs 2), .array .int), ((cs 4), .int), ((cs 5), .int), ((cs 7), .int), ((cs 8), .int), ((cs 9), .int), ((cs 10), .array .int), ((cs 12), .int), ((cs 13), .int), (rc1, .int), (rc2, .int)]) [0, 1, 2, 3, 4, 5, 6, 7, 8, 9, 10, 11] rfl
  have hPc := hP.part (cx := x_MR ad cs r1 r2 kind steps byteCount partCount stepsTaken hasRun lackedSteps decodings thrownDecodings bytes size count data made holds numbers lengths values states) [0, 1, 2, 3, 4, 5, 6, 7, 8, 9, 10, 11, 12, 13] rfl
  have hDc := hD.part (cx := x_MR ad cs r1 r2 kind steps byteCount partCount stepsTaken hasRun lackedSteps decodings thrownDecodings bytes size count data made holds numbers lengths values states) [0, 1, 2, 3, 4, 5, 6, 7, 8, 9, 10, 11, 12, 13] (by decide) rfl
  have hFc := va_freeP (cx := x_MR ad cs r1 r2 kind steps byteCount partCount stepsTaken hasRun lackedSteps decodings thrownDecodings bytes size count data made holds numbers lengths values states) hD hS hA [0, 1, 2, 3, 4, 5, 6, 7, 8, 9, 10, 11, 12, 13] rfl
  refine va_calli (va_runV (As := [.ref (r2 x1.toNatClampNeg)]) (rest := []) ⟨hx, hb, hml, hown, hB⟩ (c_MR_decodePart l dC dI tt ad cs r1 rc1 r2 rc2 H.size N x1.toNatClampNeg (in_lt b_2) kind steps byteCount partCount stepsTaken hasRun lackedSteps decodings thrownDecodings bytes size count data made holds numbers lengths values states rows parts o3 ho3) (cwV 1 hB (gV wd_174 wd_172 wd_171 wd_105 wd_173) rfl rfl rfl (by decide +kernel) ⟨Nat.le_of_ble_eq_true rfl, Nat.le_of_ble_eq_true rfl⟩) ⟨PreW_blind, va_recv hKc hPc (ci := 0) (q0 := 0) rfl rfl, PreW_mk hKc hPc hDc hG hS hFc⟩ rfl rfl hl.1 rfl (lv_room (Nat.le_of_ble_eq_true rfl)) d_MR_decode_12 ⟨Nat.le_of_ble_eq_true rfl, Nat.le_of_ble_eq_true rfl⟩) hS (fun q _ h => hFc q h) hFc (fun r_3 u_3 t H1 locs ht hvm hw hB hz1 hk1 hS => ?_)
  have hw := hw.symm
  subst hw
  obtain ⟨hP1, hK1, hD1⟩ := hB
  rw [ht] at hP1
  obtain ⟨hP, hD⟩ := va_joinP (wr := pick (x_MR ad cs r1 r2 kind steps byteCount partCount stepsTaken hasRun lackedSteps decodings thrownDecodings bytes size count data made holds numbers lengths values states) []) hP hD [0, 1, 2, 3, 4, 5, 6, 7, 8, 9, 10, 11, 12, 13] [] rfl rfl (by decide) (by decide) hk1 hFc hP1 hD1
  generalize H1 = H at hP hS ⊢
  have hP : va_P (dC, dI) vwCl ((x_MR ad cs r1 r2 kind steps byteCount partCount stepsTaken hasRun lackedSteps o3.2.1 o3.2.2.1 bytes o3.2.2.2.1 o3.2.2.2.2.1 o3.2.2.2.2.2.1 o3.2.2.2.2.2.2.1 o3.2.2.2.2.2.2.2.1 o3.2.2.2.2.2.2.2.2.1 o3.2.2.2.2.2.2.2.2.2.1 o3.2.2.2.2.2.2.2.2.2.2.1 o3.2.2.2.2.2.2.2.2.2.2.2.1) ++ (gw 8 r1 rc1 5 o3.2.2.2.2.2.2.2.2.2.2.2.2.1 ++ gw 16 r2 rc2 6 o3.2.2.2.2.2.2.2.2.2.2.2.2.2)) H := hP.part (cx := x_MR ad cs r1 r2 kind steps byteCount partCount stepsTaken hasRun lackedSteps o3.2.1 o3.2.2.1 bytes o3.2.2.2.1 o3.2.2.2.2.1 o3.2.2.2.2.2.1 o3.2.2.2.2.2.2.1 o3.2.2.2.2.2.2.2.1 o3.2.2.2.2.2.2.2.2.1 o3.2.2.2.2.2.2.2.2.2.1 o3.2.2.2.2.2.2.2.2.2.2.1 o3.2.2.2.2.2.2.2.2.2.2.2.1) [0, 1, 2, 3, 4, 5, 6, 7, 8, 9, 10, 11, 12, 13] rfl
  have hD : va_D A ((x_MR ad cs r1 r2 kind steps byteCount partCount stepsTaken hasRun lackedSteps o3.2.1 o3.2.2.1 bytes o3.2.2.2.1 o3.2.2.2.2.1 o3.2.2.2.2.2.1 o3.2.2.2.2.2.2.1 o3.2.2.2.2.2.2.2.1 o3.2.2.2.2.2.2.2.2.1 o3.2.2.2.2.2.2.2.2.2.1 o3.2.2.2.2.2.2.2.2.2.2.1 o3.2.2.2.2.2.2.2.2.2.2.2.1) ++ (gw 8 r1 rc1 5 o3.2.2.2.2.2.2.2.2.2.2.2.2.1 ++ gw 16 r2 rc2 6 o3.2.2.2.2.2.2.2.2.2.2.2.2.2)) := hD.part (cx := x_MR ad cs r1 r2 kind steps byteCount partCount stepsTaken hasRun lackedSteps o3.2.1 o3.2.2.1 bytes o3.2.2.2.1 o3.2.2.2.2.1 o3.2.2.2.2.2.1 o3.2.2.2.2.2.2.1 o3.2.2.2.2.2.2.2.1 o3.2.2.2.2.2.2.2.2.1 o3.2.2.2.2.2.2.2.2.2.1 o3.2.2.2.2.2.2.2.2.2.2.1 o3.2.2.2.2.2.2.2.2.2.2.2.1) [0, 1, 2, 3, 4, 5, 6, 7, 8, 9, 10, 11, 12, 13] (by decide) rfl
  have h := Option.some.inj h
  subst h
  refine vx_ret ?_
  exact W.iret hx hb hr (fun t ht hW => ⟨⟨_, _, rfl, ⟨rfl, rfl⟩, AftW_mk hK hP hD ht hW⟩, hS.F ht⟩) hS.2.2 d_MR_decode_15
def d_MR_decodeAll_L8 (N : Nat) (partCount : Int32) (hasRun : Int32) (bytes : Nat → Int32) : Nat → Int32 → Int32 → Int32 → Int32 → Int32 → Int32 → (Nat → Int32) → (Nat → Int32) → (Nat → Int32) → (Nat → Int32) → (Nat → Int32) → (Nat → Int32) → (Nat → Int32) → (Nat → Nat → Int32) → (Nat → Nat → Int32) → Option (Int32 × Int32 × Int32 × Int32 × Int32 × (Nat → Int32) × (Nat → Int32) × (Nat → Int32) × (Nat → Int32) × (Nat → Int32) × (Nat → Int32) × (Nat → Int32) × (Nat → Nat → Int32) × (Nat → Nat → Int32))
  | 0, _, _, _, _, _, _, _, _, _, _, _, _, _, _, _ => none
  | n + 1, y8_1, y8_2, decodings_8, thrownDecodings_8, size_8, count_8, data_8, made_8, holds_8, numbers_8, lengths_8, values_8, states_8, rows_8, parts_8 => if partCount ≤ y8_2 then some (y8_1, decodings_8, thrownDecodings_8, size_8, count_8, data_8, made_8, holds_8, numbers_8, lengths_8, values_8, states_8, rows_8, parts_8) else gI y8_2 16 ((d_MR_decodePart N y8_2.toNatClampNeg decodings_8 thrownDecodings_8 bytes size_8 count_8 data_8 made_8 holds_8 numbers_8 lengths_8 values_8 states_8 rows_8 parts_8).bind (fun o9003 => if o9003.1 = 0 then d_MR_decodeAll_L8 N partCount hasRun bytes n y8_1 (y8_2 + 1) o9003.2.1 o9003.2.2.1 o9003.2.2.2.1 o9003.2.2.2.2.1 o9003.2.2.2.2.2.1 o9003.2.2.2.2.2.2.1 o9003.2.2.2.2.2.2.2.1 o9003.2.2.2.2.2.2.2.2.1 o9003.2.2.2.2.2.2.2.2.2.1 o9003.2.2.2.2.2.2.2.2.2.2.1 o9003.2.2.2.2.2.2.2.2.2.2.2.1 o9003.2.2.2.2.2.2.2.2.2.2.2.2.1 o9003.2.2.2.2.2.2.2.2.2.2.2.2.2 else d_MR_decodeAll_L8 N partCount hasRun bytes n (y8_1 + 1) (y8_2 + 1) o9003.2.1 o9003.2.2.1 o9003.2.2.2.1 o9003.2.2.2.2.1 o9003.2.2.2.2.2.1 o9003.2.2.2.2.2.2.1 o9003.2.2.2.2.2.2.2.1 o9003.2.2.2.2.2.2.2.2.1 o9003.2.2.2.2.2.2.2.2.2.1 o9003.2.2.2.2.2.2.2.2.2.2.1 o9003.2.2.2.2.2.2.2.2.2.2.2.1 o9003.2.2.2.2.2.2.2.2.2.2.2.2.1 o9003.2.2.2.2.2.2.2.2.2.2.2.2.2))
def d_MR_decodeAll (N : Nat) (partCount : Int32) (hasRun : Int32) (decodings : Int32) (thrownDecodings : Int32) (bytes : Nat → Int32) (size : Int32) (count : Int32) (data : Nat → Int32) (made : Nat → Int32) (holds : Nat → Int32) (numbers : Nat → Int32) (lengths : Nat → Int32) (values : Nat → Int32) (states : Nat → Int32) (rows : Nat → Nat → Int32) (parts : Nat → Nat → Int32) : Option (Except String (Int32 × Int32 × Int32 × Int32 × Int32 × (Nat → Int32) × (Nat → Int32) × (Nat → Int32) × (Nat → Int32) × (Nat → Int32) × (Nat → Int32) × (Nat → Int32) × (Nat → Nat → Int32) × (Nat → Nat → Int32))) :=
 (d_MR_requireRun N hasRun).bind (fun o1 => exB o1 (fun u1 => (d_MR_decodeAll_L8 N partCount hasRun bytes N (0 : Int32) (0 : Int32) decodings thrownDecodings size count data made holds numbers lengths values states rows parts).bind (fun s8 => some (.ok (s8.1, s8.2.1, s8.2.2.1, s8.2.2.2.1, s8.2.2.2.2.1, s8.2.2.2.2.2.1, s8.2.2.2.2.2.2.1, s8.2.2.2.2.2.2.2.1, s8.2.2.2.2.2.2.2.2.1, s8.2.2.2.2.2.2.2.2.2.1, s8.2.2.2.2.2.2.2.2.2.2.1, s8.2.2.2.2.2.2.2.2.2.2.2.1, s8.2.2.2.2.2.2.2.2.2.2.2.2.1, s8.2.2.2.2.2.2.2.2.2.2.2.2.2)))))
abbrev rm_MR_decodeAll : Room := { frames := 7, cells := 1, slots := 6, locals := 136 }
set_option maxHeartbeats 4000000 in
set_option maxRecDepth 100000 in
theorem c_MR_decodeAll (l : Launch) (hlt : l.stackTraces = false) (dC : Nat → ClassId) (dI : Nat → Nat → Nat) (tt : Nat → Nat) (ad : Nat → Nat) (cs : Nat → ClassId) (r1 : Nat → Nat) (rc1 : ClassId) (r2 : Nat → Nat) (rc2 : ClassId) (sz N : Nat) (kind : Int32) (steps : Int32) (byteCount : Int32) (partCount : Int32) (stepsTaken : Int32) (hasRun : Int32) (lackedSteps : Int32) (decodings : Int32) (thrownDecodings : Int32) (bytes : Nat → Int32) (size : Int32) (count : Int32) (data : Nat → Int32) (made : Nat → Int32) (holds : Nat → Int32) (numbers : Nat → Int32) (lengths : Nat → Int32) (values : Nat → Int32) (states : Nat → Int32) (rows : Nat → Nat → Int32) (parts : Nat → Nat → Int32) (out : Except String (Int32 × Int32 × Int32 × Int32 × Int32 × (Nat → Int32) × (Nat → Int32) × (Nat → Int32) × (Nat → Int32) × (Nat → Int32) × (Nat → Int32) × (Nat → Int32) × (Nat → Nat → Int32) × (Nat → Nat → Int32))) (h : d_MR_decodeAll N partCount hasRun decodings thrownDecodings bytes size count data made holds numbers lengths values states rows parts = some out) :
    vx_Met l y_MR_decodeAll (w_MR_decodeAll) rm_MR_decodeAll (va_Pc [.ref (ad 0)] (PreW (dC, dI) [((cs 1), .int), ((cs 2), .array .int), ((cs 4), .int), ((cs 5), .int), ((cs 7), .int), ((cs 8), .int), ((cs 9), .int), ((cs 10), .array .int), ((cs 12), .int), ((cs 13), .int), (rc1, .int), (rc2, .int)] ((x_MR ad cs r1 r2 kind steps byteCount partCount stepsTaken hasRun lackedSteps decodings thrownDecodings bytes size count data made holds numbers lengths values states) ++ (gw 8 r1 rc1 5 rows ++ gw 16 r2 rc2 6 parts)) sz tt)) (va_Qi (fun (r : Int32) (u : Int32 × Int32 × Int32 × Int32 × Int32 × (Nat → Int32) × (Nat → Int32) × (Nat → Int32) × (Nat → Int32) × (Nat → Int32) × (Nat → Int32) × (Nat → Int32) × (Nat → Nat → Int32) × (Nat → Nat → Int32)) => out = .ok u ∧ r = u.1) (fun u => AftW (dC, dI) [((cs 1), .int), ((cs 2), .array .int), ((cs 4), .int), ((cs 5), .int), ((cs 7), .int), ((cs 8), .int), ((cs 9), .int), ((cs 10), .array .int), ((cs 12), .int), ((cs 13), .int), (rc1, .int), (rc2, .int)] (va_A ((x_MR ad cs r1 r2 kind steps byteCount partCount stepsTaken hasRun lackedSteps decodings thrownDecodings bytes size count data made holds numbers lengths values states) ++ (gw 8 r1 rc1 5 rows ++ gw 16 r2 rc2 6 parts)) sz) ((x_MR ad cs r1 r2 kind steps byteCount partCount stepsTaken hasRun lackedSteps u.2.1 u.2.2.1 bytes u.2.2.2.1 u.2.2.2.2.1 u.2.2.2.2.2.1 u.2.2.2.2.2.2.1 u.2.2.2.2.2.2.2.1 u.2.2.2.2.2.2.2.2.1 u.2.2.2.2.2.2.2.2.2.1 u.2.2.2.2.2.2.2.2.2.2.1 u.2.2.2.2.2.2.2.2.2.2.2.1) ++ (gw 8 r1 rc1 5 u.2.2.2.2.2.2.2.2.2.2.2.2.1 ++ gw 16 r2 rc2 6 u.2.2.2.2.2.2.2.2.2.2.2.2.2))) (va_A ((x_MR ad cs r1 r2 kind steps byteCount partCount stepsTaken hasRun lackedSteps decodings thrownDecodings bytes size count data made holds numbers lengths values states) ++ (gw 8 r1 rc1 5 rows ++ gw 16 r2 rc2 6 parts)) sz)) (vx_X (fun (_ : Unit) => True) (fun E _ t => out = .error E ∧ AftW (dC, dI) [((cs 1), .int), ((cs 2), .array .int), ((cs 4), .int), ((cs 5), .int), ((cs 7), .int), ((cs 8), .int), ((cs 9), .int), ((cs 10), .array .int), ((cs 12), .int), ((cs 13), .int), (rc1, .int), (rc2, .int)] (va_A ((x_MR ad cs r1 r2 kind steps byteCount partCount stepsTaken hasRun lackedSteps decodings thrownDecodings bytes size count data made holds numbers lengths values states) ++ (gw 8 r1 rc1 5 rows ++ gw 16 r2 rc2 6 parts)) sz) ((x_MR ad cs r1 r2 kind steps byteCount partCount stepsTaken hasRun lackedSteps decodings thrownDecodings bytes size count data made holds numbers lengths values states) ++ (gw 8 r1 rc1 5 rows ++ gw 16 r2 rc2 6 parts)) t) (va_A ((x_MR ad cs r1 r2 kind steps byteCount partCount stepsTaken hasRun lackedSteps decodings thrownDecodings bytes size count data made holds numbers lengths values states) ++ (gw 8 r1 rc1 5 rows ++ gw 16 r2 rc2 6 parts)) sz)) 1 6 (va_A ((x_MR ad cs r1 r2 kind steps byteCount partCount stepsTaken hasRun lackedSteps decodings thrownDecodings bytes size count data made holds numbers lengths values states) ++ (gw 8 r1 rc1 5 rows ++ gw 16 r2 rc2 6 parts)) sz) := by
  refine vx_ofW (cc := k_MR_decodeAll) (maxL := 3) (ret := (some .int)) (by decide) rfl ?_
  intro p e s m args below meth c s₁ B hml hnt0 hv
  have hnt : ∀ {pc : Nat}, ∀ x ∈ c.exceptionTable.toList, covers x pc = false := fun x hx9 => (hnt0 x hx9).elim
  obtain ⟨rfl, hsz, hP, hK, hD0, hG⟩ := hv
  have hx := B.exec
  have hb := B.bytes
  have hr := B.returns
  have hts := atoms_spec (ws := (w_MR_decodeAll)) B.pre
  have hB : ∀ w ∈ BIG, w.before _ s = true := fun w h9 => hts w (List.mem_cons_of_mem _ h9)
  have hown : s.vm.findClass R_MR = some m.cls := findClass_of_methodNamed B.named
  have hlocks := B.notSynchronized
  subst hsz
  have hD := hD0.self (sz := s.heap.size)
  generalize hAe : va_A ((x_MR ad cs r1 r2 kind steps byteCount partCount stepsTaken hasRun lackedSteps decodings thrownDecodings bytes size count data made holds numbers lengths values states) ++ (gw 8 r1 rc1 5 rows ++ gw 16 r2 rc2 6 parts)) s.heap.size = A at hD hG ⊢
  have hA : ∀ q : Nat, s.heap.size ≤ q → A q := fun q h => by rw [← hAe]; exact Or.inr h
  have hS : va_S A s.heap s.heap [] := va_S.rf
  have hl := lv_entry ([.ref (ad 0)]) (n := 3) (Nat.le_of_ble_eq_true rfl)
  rw [lg_entry_eq]
  generalize (lg_sl ([.ref (ad 0)]) ++ List.replicate (3 - (lg_sl ([.ref (ad 0)])).length) Slot.unset).toArray = ls at hl ⊢
  have hl : lv_has ls 3 [(0, .ref (ad 0))] := hl
  unfold d_MR_decodeAll at h
  refine lv_aload_n hx hb d_MR_decodeAll_0 rfl (lv_at hl 0 rfl) ?_
  obtain ⟨o1, ho1, h⟩ := Option.bind_eq_some_iff.mp h
  have hKc := hK.sub (tys' := [((cs 1), .int), ((cs 2), .array .int), ((cs 4), .int), ((cs 5), .int), ((cs 7), .int), ((cs 8), .int), ((cs 9), .int), ((cs 10), .array .int), ((cs 12), .int), ((cs 13), .int), (rc1, .int), (rc2, .int)]) [0, 1, 2, 3, 4, 5, 6, 7, 8, 9, 10, 11] rfl
  have hPc := hP.part (cx := x_MR ad cs r1 r2 kind steps byteCount partCount stepsTaken hasRun lackedSteps decodings thrownDecodings bytes size count data made holds numbers lengths values states) [0, 1, 2, 3, 4, 5, 6, 7, 8, 9, 10, 11, 12, 13] rfl
  have hDc := hD.part (cx := x_MR ad cs r1 r2 kind steps byteCount partCount stepsTaken hasRun lackedSteps decodings thrownDecodings bytes size count data made holds numbers lengths values states) [0, 1, 2, 3, 4, 5, 6, 7, 8, 9, 10, 11, 12, 13] (by decide) rfl
  have hFc := va_freeP (cx := x_MR ad cs r1 r2 kind steps byteCount partCount stepsTaken hasRun lackedSteps decodings thrownDecodings bytes size count data made holds numbers lengths values states) hD hS hA [0, 1, 2, 3, 4, 5, 6, 7, 8, 9, 10, 11, 12, 13] rfl
  refine vx_callv (vx_runV (As := []) (rest := []) ⟨hx, hb, hml, hown, hB⟩ (c_MR_requireRun l hlt dC dI tt ad cs r1 rc1 r2 rc2 s.heap.size N kind steps byteCount partCount stepsTaken hasRun lackedSteps decodings thrownDecodings bytes size count data made holds numbers lengths values states rows parts o1 ho1) (cwV 0 hB (gV wd_107 wd_104 wd_103 wd_105 wd_106) rfl rfl rfl (by decide +kernel) ⟨Nat.le_of_ble_eq_true rfl, Nat.le_of_ble_eq_true rfl⟩) ⟨PreW_blind, va_recv hKc hPc (ci := 0) (q0 := 0) rfl rfl, PreW_mk hKc hPc hDc hG hS hFc⟩ rfl rfl hl.1 rfl (lv_room (Nat.le_of_ble_eq_true rfl)) d_MR_decodeAll_1 ⟨Nat.le_of_ble_eq_true rfl, Nat.le_of_ble_eq_true rfl⟩) hS (fun q _ h => hFc q h) hFc (fun q _ h => hFc q h) (fun E ce q9 u_1 t H1 locs ht hvm hw hB hz1 hk1 hS hce hcv hcl => ?_) (fun u1 t H1 locs ht hvm hw hB hz1 hk1 hS => ?_)
  · obtain ⟨heE, hB⟩ := hB
    subst heE
    obtain ⟨hP1, hK1, hD1⟩ := hB
    rw [ht] at hP1
    obtain ⟨hP, hD⟩ := va_joinP (wr := pick (x_MR ad cs r1 r2 kind steps byteCount partCount stepsTaken hasRun lackedSteps decodings thrownDecodings bytes size count data made holds numbers lengths values states) []) hP hD [0, 1, 2, 3, 4, 5, 6, 7, 8, 9, 10, 11, 12, 13] [] rfl rfl (by decide) (by decide) hk1 hFc hP1 hD1
    generalize H1 = H at hP hS hce ⊢
    have hP : va_P (dC, dI) vwCl ((x_MR ad cs r1 r2 kind steps byteCount partCount stepsTaken hasRun lackedSteps decodings thrownDecodings bytes size count data made holds numbers lengths values states) ++ (gw 8 r1 rc1 5 rows ++ gw 16 r2 rc2 6 parts)) H := hP.part (cx := x_MR ad cs r1 r2 kind steps byteCount partCount stepsTaken hasRun lackedSteps decodings thrownDecodings bytes size count data made holds numbers lengths values states) [0, 1, 2, 3, 4, 5, 6, 7, 8, 9, 10, 11, 12, 13] rfl
    have hD : va_D A ((x_MR ad cs r1 r2 kind steps byteCount partCount stepsTaken hasRun lackedSteps decodings thrownDecodings bytes size count data made holds numbers lengths values states) ++ (gw 8 r1 rc1 5 rows ++ gw 16 r2 rc2 6 parts)) := hD.part (cx := x_MR ad cs r1 r2 kind steps byteCount partCount stepsTaken hasRun lackedSteps decodings thrownDecodings bytes size count data made holds numbers lengths values states) [0, 1, 2, 3, 4, 5, 6, 7, 8, 9, 10, 11, 12, 13] (by decide) rfl
    have h := exB_er h
    subst h
    refine vx_widen (k := 1) (n := 6) (by decide) (by decide) ?_
    exact vx_out (E := E) hnt hlocks hce hcv hcl (fun t9 ht9 hvm9 => ⟨(), trivial, ⟨rfl, AftW_mv hK hP hD ht9 hvm9⟩, hS.F ht9⟩) hS.2.2 (by decide) (by decide)
  subst hw
  have h := exB_ok h
  obtain ⟨hP1, hK1, hD1⟩ := hB
  rw [ht] at hP1
  obtain ⟨hP, hD⟩ := va_joinP (wr := pick (x_MR ad cs r1 r2 kind steps byteCount partCount stepsTaken hasRun lackedSteps decodings thrownDecodings bytes size count data made holds numbers lengths values states) []) hP hD [0, 1, 2, 3, 4, 5, 6, 7, 8, 9, 10, 11, 12, 13] [] rfl rfl (by decide) (by decide) hk1 hFc hP1 hD1
  generalize H1 = H at hP hS ⊢
  have hP : va_P (dC, dI) vwCl ((x_MR ad cs r1 r2 kind steps byteCount partCount stepsTaken hasRun lackedSteps decodings thrownDecodings bytes size count data made holds numbers lengths values states) ++ (gw 8 r1 rc1 5 rows ++ gw 16 r2 rc2 6 parts)) H := hP.part (cx := x_MR ad cs r1 r2 kind steps byteCount partCount stepsTaken hasRun lackedSteps decodings thrownDecodings bytes size count data made holds numbers lengths values states) [0, 1, 2, 3, 4, 5, 6, 7, 8, 9, 10, 11, 12, 13] rfl
  have hD : va_D A ((x_MR ad cs r1 r2 kind steps byteCount partCount stepsTaken hasRun lackedSteps decodings thrownDecodings bytes size count data made holds numbers lengths values states) ++ (gw 8 r1 rc1 5 rows ++ gw 16 r2 rc2 6 parts)) := hD.part (cx := x_MR ad cs r1 r2 kind steps byteCount partCount stepsTaken hasRun lackedSteps decodings thrownDecodings bytes size count data made holds numbers lengths values states) [0, 1, 2, 3, 4, 5, 6, 7, 8, 9, 10, 11, 12, 13] (by decide) rfl
  refine W.widen (k := 1) (n := 6) (by decide) (by decide) ?_
  refine lv_iconst (v := 0) hx hb d_MR_decodeAll_4 (by decide) ?_
  refine lv_istore_n (lv' := [(1, .int (0 : Int32)), (0, .ref (ad 0))]) hx hb d_MR_decodeAll_5 rfl hl (by decide) rfl (fun ls hl => ?_)
  refine lv_iconst (v := 0) hx hb d_MR_decodeAll_6 (by decide) ?_
  refine lv_istore_n (lv' := [(2, .int (0 : Int32)), (1, .int (0 : Int32)), (0, .ref (ad 0))]) hx hb d_MR_decodeAll_7 rfl hl (by decide) rfl (fun ls hl => ?_)
  obtain ⟨s8, hs8, h⟩ := Option.bind_eq_some_iff.mp h
  have X8 : ∀ (H : Heap) (locs : List Loc) (ls : Array Slot), lv_has ls 3 [(1, .int s8.1)] → va_P (dC, dI) vwCl ((x_MR ad cs r1 r2 kind steps byteCount partCount stepsTaken hasRun lackedSteps s8.2.1 s8.2.2.1 bytes s8.2.2.2.1 s8.2.2.2.2.1 s8.2.2.2.2.2.1 s8.2.2.2.2.2.2.1 s8.2.2.2.2.2.2.2.1 s8.2.2.2.2.2.2.2.2.1 s8.2.2.2.2.2.2.2.2.2.1 s8.2.2.2.2.2.2.2.2.2.2.1 s8.2.2.2.2.2.2.2.2.2.2.2.1) ++ (gw 8 r1 rc1 5 s8.2.2.2.2.2.2.2.2.2.2.2.2.1 ++ gw 16 r2 rc2 6 s8.2.2.2.2.2.2.2.2.2.2.2.2.2)) H → va_D A ((x_MR ad cs r1 r2 kind steps byteCount partCount stepsTaken hasRun lackedSteps s8.2.1 s8.2.2.1 bytes s8.2.2.2.1 s8.2.2.2.2.1 s8.2.2.2.2.2.1 s8.2.2.2.2.2.2.1 s8.2.2.2.2.2.2.2.1 s8.2.2.2.2.2.2.2.2.1 s8.2.2.2.2.2.2.2.2.2.1 s8.2.2.2.2.2.2.2.2.2.2.1 s8.2.2.2.2.2.2.2.2.2.2.2.1) ++ (gw 8 r1 rc1 5 s8.2.2.2.2.2.2.2.2.2.2.2.2.1 ++ gw 16 r2 rc2 6 s8.2.2.2.2.2.2.2.2.2.2.2.2.2)) → va_S A s.heap H locs → W p l e (headSpec (w_MR_decodeAll) rm_MR_decodeAll).room s m ([.ref (ad 0)] : List Value).toArray below meth c H locs 1 6 (vx_MQ below (va_Qi (fun (r : Int32) (u : Int32 × Int32 × Int32 × Int32 × Int32 × (Nat → Int32) × (Nat → Int32) × (Nat → Int32) × (Nat → Int32) × (Nat → Int32) × (Nat → Int32) × (Nat → Int32) × (Nat → Nat → Int32) × (Nat → Nat → Int32)) => out = .ok u ∧ r = u.1) (fun u => AftW (dC, dI) [((cs 1), .int), ((cs 2), .array .int), ((cs 4), .int), ((cs 5), .int), ((cs 7), .int), ((cs 8), .int), ((cs 9), .int), ((cs 10), .array .int), ((cs 12), .int), ((cs 13), .int), (rc1, .int), (rc2, .int)] A ((x_MR ad cs r1 r2 kind steps byteCount partCount stepsTaken hasRun lackedSteps u.2.1 u.2.2.1 bytes u.2.2.2.1 u.2.2.2.2.1 u.2.2.2.2.2.1 u.2.2.2.2.2.2.1 u.2.2.2.2.2.2.2.1 u.2.2.2.2.2.2.2.2.1 u.2.2.2.2.2.2.2.2.2.1 u.2.2.2.2.2.2.2.2.2.2.1 u.2.2.2.2.2.2.2.2.2.2.2.1) ++ (gw 8 r1 rc1 5 u.2.2.2.2.2.2.2.2.2.2.2.2.1 ++ gw 16 r2 rc2 6 u.2.2.2.2.2.2.2.2.2.2.2.2.2))) A) (vx_X (fun (_ : Unit) => True) (fun E _ t => out = .error E ∧ AftW (dC, dI) [((cs 1), .int), ((cs 2), .array .int), ((cs 4), .int), ((cs 5), .int), ((cs 7), .int), ((cs 8), .int), ((cs 9), .int), ((cs 10), .array .int), ((cs 12), .int), ((cs 13), .int), (rc1, .int), (rc2, .int)] A ((x_MR ad cs r1 r2 kind steps byteCount partCount stepsTaken hasRun lackedSteps decodings thrownDecodings bytes size count data made holds numbers lengths values states) ++ (gw 8 r1 rc1 5 rows ++ gw 16 r2 rc2 6 parts)) t) A) ([.ref (ad 0)] : List Value).toArray s 1 6 A) (F0 m 38 ls []) := by
    intro H locs ls hl hP hD hS
    refine lv_iload_n hx hb d_MR_decodeAll_38 rfl (lv_at hl 0 rfl) ?_
    have h := Option.some.inj h
    subst h
    refine vx_ret ?_
    exact W.iret hx hb hr (fun t ht hW => ⟨⟨_, _, rfl, ⟨rfl, rfl⟩, AftW_mk hK hP hD ht hW⟩, hS.F ht⟩) hS.2.2 d_MR_decodeAll_39
  have L8 : ∀ (n : Nat) (y8_1 : Int32) (y8_2 : Int32) (decodings_8 : Int32) (thrownDecodings_8 : Int32) (size_8 : Int32) (count_8 : Int32) (data_8 : Nat → Int32) (made_8 : Nat → Int32) (holds_8 : Nat → Int32) (numbers_8 : Nat → Int32) (lengths_8 : Nat → Int32) (values_8 : Nat → Int32) (states_8 : Nat → Int32) (rows_8 : Nat → Nat → Int32) (parts_8 : Nat → Nat → Int32) (H : Heap) (locs : List Loc) (ls : Array Slot), lv_has ls 3 [(0, .ref (ad 0)), (1, .int y8_1), (2, .int y8_2)] → va_P (dC, dI) vwCl ((x_MR ad cs r1 r2 kind steps byteCount partCount stepsTaken hasRun lackedSteps decodings_8 thrownDecodings_8 bytes size_8 count_8 data_8 made_8 holds_8 numbers_8 lengths_8 values_8 states_8) ++ (gw 8 r1 rc1 5 rows_8 ++ gw 16 r2 rc2 6 parts_8)) H → va_D A ((x_MR ad cs r1 r2 kind steps byteCount partCount stepsTaken hasRun lackedSteps decodings_8 thrownDecodings_8 bytes size_8 count_8 data_8 made_8 holds_8 numbers_8 lengths_8 values_8 states_8) ++ (gw 8 r1 rc1 5 rows_8 ++ gw 16 r2 rc2 6 parts_8)) → va_S A s.heap H locs → d_MR_decodeAll_L8 N partCount hasRun bytes n y8_1 y8_2 decodings_8 thrownDecodings_8 size_8 count_8 data_8 made_8 holds_8 numbers_8 lengths_8 values_8 states_8 rows_8 parts_8 = some s8 → W p l e (headSpec (w_MR_decodeAll) rm_MR_decodeAll).room s m ([.ref (ad 0)] : List Value).toArray below meth c H locs 1 6 (vx_MQ below (va_Qi (fun (r : Int32) (u : Int32 × Int32 × Int32 × Int32 × Int32 × (Nat → Int32) × (Nat → Int32) × (Nat → Int32) × (Nat → Int32) × (Nat → Int32) × (Nat → Int32) × (Nat → Int32) × (Nat → Nat → Int32) × (Nat → Nat → Int32)) => out = .ok u ∧ r = u.1) (fun u => AftW (dC, dI) [((cs 1), .int), ((cs 2), .array .int), ((cs 4), .int), ((cs 5), .int), ((cs 7), .int), ((cs 8), .int), ((cs 9), .int), ((cs 10), .array .int), ((cs 12), .int), ((cs 13), .int), (rc1, .int), (rc2, .int)] A ((x_MR ad cs r1 r2 kind steps byteCount partCount stepsTaken hasRun lackedSteps u.2.1 u.2.2.1 bytes u.2.2.2.1 u.2.2.2.2.1 u.2.2.2.2.2.1 u.2.2.2.2.2.2.1 u.2.2.2.2.2.2.2.1 u.2.2.2.2.2.2.2.2.1 u.2.2.2.2.2.2.2.2.2.1 u.2.2.2.2.2.2.2.2.2.2.1 u.2.2.2.2.2.2.2.2.2.2.2.1) ++ (gw 8 r1 rc1 5 u.2.2.2.2.2.2.2.2.2.2.2.2.1 ++ gw 16 r2 rc2 6 u.2.2.2.2.2.2.2.2.2.2.2.2.2))) A) (vx_X (fun (_ : Unit) => True) (fun E _ t => out = .error E ∧ AftW (dC, dI) [((cs 1), .int), ((cs 2), .array .int), ((cs 4), .int), ((cs 5), .int), ((cs 7), .int), ((cs 8), .int), ((cs 9), .int), ((cs 10), .array .int), ((cs 12), .int), ((cs 13), .int), (rc1, .int), (rc2, .int)] A ((x_MR ad cs r1 r2 kind steps byteCount partCount stepsTaken hasRun lackedSteps decodings thrownDecodings bytes size count data made holds numbers lengths values states) ++ (gw 8 r1 rc1 5 rows ++ gw 16 r2 rc2 6 parts)) t) A) ([.ref (ad 0)] : List Value).toArray s 1 6 A) (F0 m 8 ls []) := by
    intro n
    induction n with
    | zero =>
      intro y8_1 y8_2 decodings_8 thrownDecodings_8 size_8 count_8 data_8 made_8 holds_8 numbers_8 lengths_8 values_8 states_8 rows_8 parts_8 H locs ls hl hP hD hS h
      rw [d_MR_decodeAll_L8] at h
      cases h
    | succ n ih =>
      intro y8_1 y8_2 decodings_8 thrownDecodings_8 size_8 count_8 data_8 made_8 holds_8 numbers_8 lengths_8 values_8 states_8 rows_8 parts_8 H locs ls hl hP hD hS h
      rw [d_MR_decodeAll_L8] at h
      refine lv_iload_n hx hb d_MR_decodeAll_8 rfl (lv_at hl 2 rfl) ?_
      refine lv_aload_n hx hb d_MR_decodeAll_9 rfl (lv_at hl 0 rfl) ?_
      refine va_get (D := (dC, dI)) (ci := 0) (v := .int partCount) (C := R_MR) (T := T_MR) (N := 13) hx hb hB in_MR hown hK hP 0 rfl rfl 7 (by decide) (hB _ wd_99) (fun _ h9 => h9) rfl d_MR_decodeAll_10 ?_
      refine lv_icmp_ge (tgt := 38) hx hb d_MR_decodeAll_13 (by decide) (fun c_2 => ?_) (fun c_2 => ?_)
      · have h := (if_pos c_2).symm.trans h
        have h := Option.some.inj h
        subst h
        exact X8 H locs ls (lv_sub hl [1] rfl) hP hD hS
      · have h := (if_neg c_2).symm.trans h
        refine lv_aload_n hx hb d_MR_decodeAll_16 rfl (lv_at hl 0 rfl) ?_
        refine lv_aload_n hx hb d_MR_decodeAll_17 rfl (lv_at hl 0 rfl) ?_
        refine va_get (D := (dC, dI)) (ci := 0) (v := .ref (ad 2)) (C := R_MR) (T := T_MR) (N := 13) hx hb hB in_MR hown hK hP 0 rfl rfl 3 (by decide) (hB _ wd_115) (fun _ h9 => h9) rfl d_MR_decodeAll_18 ?_
        refine lv_iload_n hx hb d_MR_decodeAll_21 rfl (lv_at hl 2 rfl) ?_
        obtain ⟨b_3, h⟩ := gI_some h
        refine gr_aald hx hb hK hP 2 1 rfl rfl b_3 d_MR_decodeAll_22 ?_
        obtain ⟨o4, ho4, h⟩ := Option.bind_eq_some_iff.mp h
        have hKc := hK.sub (tys' := [((cs 1), .int), ((cs 2), .array .int), ((cs 4), .int), ((cs 5), .int), ((cs 7), .int), ((cs 8), .int), ((cs 9), .int), ((cs 10), .array .int), ((cs 12), .int), ((cs 13), .int), (rc1, .int), (rc2, .int)]) [0, 1, 2, 3, 4, 5, 6, 7, 8, 9, 10, 11] rfl
        have hPc := hP.part (cx := x_MR ad cs r1 r2 kind steps byteCount partCount stepsTaken hasRun lackedSteps decodings_8 thrownDecodings_8 bytes size_8 count_8 data_8 made_8 holds_8 numbers_8 lengths_8 values_8 states_8) [0, 1, 2, 3, 4, 5, 6, 7, 8, 9, 10, 11, 12, 13] rfl
        have hDc := hD.part (cx := x_MR ad cs r1 r2 kind steps byteCount partCount stepsTaken hasRun lackedSteps decodings_8 thrownDecodings_8 bytes size_8 count_8 data_8 made_8 holds_8 numbers_8 lengths_8 values_8 states_8) [0, 1, 2, 3, 4, 5, 6, 7, 8, 9, 10, 11, 12, 13] (by decide) rfl
        have hFc := va_freeP (cx := x_MR ad cs r1 r2 kind steps byteCount partCount stepsTaken hasRun lackedSteps decodings_8 thrownDecodings_8 bytes size_8 count_8 data_8 made_8 holds_8 numbers_8 lengths_8 values_8 states_8) hD hS hA [0, 1, 2, 3, 4, 5, 6, 7, 8, 9, 10, 11, 12, 13] rfl
        refine va_calli (va_runV (As := [.ref (r2 y8_2.toNatClampNeg)]) (rest := []) ⟨hx, hb, hml, hown, hB⟩ (c_MR_decodePart l dC dI tt ad cs r1 rc1 r2 rc2 H.size N y8_2.toNatClampNeg (in_lt b_3) kind steps byteCount partCount stepsTaken hasRun lackedSteps decodings_8 thrownDecodings_8 bytes size_8 count_8 data_8 made_8 holds_8 numbers_8 lengths_8 values_8 states_8 rows_8 parts_8 o4 ho4) (cwV 1 hB (gV wd_174 wd_172 wd_171 wd_105 wd_173) rfl rfl rfl (by decide +kernel) ⟨Nat.le_of_ble_eq_true rfl, Nat.le_of_ble_eq_true rfl⟩) ⟨PreW_blind, va_recv hKc hPc (ci := 0) (q0 := 0) rfl rfl, PreW_mk hKc hPc hDc hG hS hFc⟩ rfl rfl hl.1 rfl (lv_room (Nat.le_of_ble_eq_true rfl)) d_MR_decodeAll_23 ⟨Nat.le_of_ble_eq_true rfl, Nat.le_of_ble_eq_true rfl⟩) hS (fun q _ h => hFc q h) hFc (fun r_4 u_4 t H1 locs ht hvm hw hB hz1 hk1 hS => ?_)
        have hw := hw.symm
        subst hw
        obtain ⟨hP1, hK1, hD1⟩ := hB
        rw [ht] at hP1
        obtain ⟨hP, hD⟩ := va_joinP (wr := pick (x_MR ad cs r1 r2 kind steps byteCount partCount stepsTaken hasRun lackedSteps decodings_8 thrownDecodings_8 bytes size_8 count_8 data_8 made_8 holds_8 numbers_8 lengths_8 values_8 states_8) []) hP hD [0, 1, 2, 3, 4, 5, 6, 7, 8, 9, 10, 11, 12, 13] [] rfl rfl (by decide) (by decide) hk1 hFc hP1 hD1
        generalize H1 = H at hP hS ⊢
        have hP : va_P (dC, dI) vwCl ((x_MR ad cs r1 r2 kind steps byteCount partCount stepsTaken hasRun lackedSteps o4.2.1 o4.2.2.1 bytes o4.2.2.2.1 o4.2.2.2.2.1 o4.2.2.2.2.2.1 o4.2.2.2.2.2.2.1 o4.2.2.2.2.2.2.2.1 o4.2.2.2.2.2.2.2.2.1 o4.2.2.2.2.2.2.2.2.2.1 o4.2.2.2.2.2.2.2.2.2.2.1 o4.2.2.2.2.2.2.2.2.2.2.2.1) ++ (gw 8 r1 rc1 5 o4.2.2.2.2.2.2.2.2.2.2.2.2.1 ++ gw 16 r2 rc2 6 o4.2.2.2.2.2.2.2.2.2.2.2.2.2)) H := hP.part (cx := x_MR ad cs r1 r2 kind steps byteCount partCount stepsTaken hasRun lackedSteps o4.2.1 o4.2.2.1 bytes o4.2.2.2.1 o4.2.2.2.2.1 o4.2.2.2.2.2.1 o4.2.2.2.2.2.2.1 o4.2.2.2.2.2.2.2.1 o4.2.2.2.2.2.2.2.2.1 o4.2.2.2.2.2.2.2.2.2.1 o4.2.2.2.2.2.2.2.2.2.2.1 o4.2.2.2.2.2.2.2.2.2.2.2.1) [0, 1, 2, 3, 4, 5, 6, 7, 8, 9, 10, 11, 12, 13] rfl
        have hD : va_D A ((x_MR ad cs r1 r2 kind steps byteCount partCount stepsTaken hasRun lackedSteps o4.2.1 o4.2.2.1 bytes o4.2.2.2.1 o4.2.2.2.2.1 o4.2.2.2.2.2.1 o4.2.2.2.2.2.2.1 o4.2.2.2.2.2.2.2.1 o4.2.2.2.2.2.2.2.2.1 o4.2.2.2.2.2.2.2.2.2.1 o4.2.2.2.2.2.2.2.2.2.2.1 o4.2.2.2.2.2.2.2.2.2.2.2.1) ++ (gw 8 r1 rc1 5 o4.2.2.2.2.2.2.2.2.2.2.2.2.1 ++ gw 16 r2 rc2 6 o4.2.2.2.2.2.2.2.2.2.2.2.2.2)) := hD.part (cx := x_MR ad cs r1 r2 kind steps byteCount partCount stepsTaken hasRun lackedSteps o4.2.1 o4.2.2.1 bytes o4.2.2.2.1 o4.2.2.2.2.1 o4.2.2.2.2.2.1 o4.2.2.2.2.2.2.1 o4.2.2.2.2.2.2.2.1 o4.2.2.2.2.2.2.2.2.1 o4.2.2.2.2.2.2.2.2.2.1 o4.2.2.2.2.2.2.2.2.2.2.1 o4.2.2.2.2.2.2.2.2.2.2.2.1) [0, 1, 2, 3, 4, 5, 6, 7, 8, 9, 10, 11, 12, 13] (by decide) rfl
        refine lv_if_eq (tgt := 32) hx hb d_MR_decodeAll_26 (by decide) (fun c_5 => ?_) (fun c_5 => ?_)
        · have h := (if_pos c_5).symm.trans h
          refine lv_iinc (v := y8_2 + 1) (lv' := [(2, .int (y8_2 + 1)), (0, .ref (ad 0)), (1, .int y8_1)]) hx hb d_MR_decodeAll_32 hl (k := 2) rfl rfl (by decide) rfl (fun ls hl => ?_)
          refine lv_goto (tgt := 8) hx hb d_MR_decodeAll_35 (by decide) ?_
          exact ih y8_1 (y8_2 + 1) o4.2.1 o4.2.2.1 o4.2.2.2.1 o4.2.2.2.2.1 o4.2.2.2.2.2.1 o4.2.2.2.2.2.2.1 o4.2.2.2.2.2.2.2.1 o4.2.2.2.2.2.2.2.2.1 o4.2.2.2.2.2.2.2.2.2.1 o4.2.2.2.2.2.2.2.2.2.2.1 o4.2.2.2.2.2.2.2.2.2.2.2.1 o4.2.2.2.2.2.2.2.2.2.2.2.2.1 o4.2.2.2.2.2.2.2.2.2.2.2.2.2 H locs ls (lv_sub hl [1, 2, 0] rfl) hP hD hS h
        · have h := (if_neg c_5).symm.trans h
          refine lv_iinc (v := y8_1 + 1) (lv' := [(1, .int (y8_1 + 1)), (0, .ref (ad 0)), (2, .int y8_2)]) hx hb d_MR_decodeAll_29 hl (k := 1) rfl rfl (by decide) rfl (fun ls hl => ?_)
          refine lv_iinc (v := y8_2 + 1) (lv' := [(2, .int (y8_2 + 1)), (1, .int (y8_1 + 1)), (0, .ref (ad 0))]) hx hb d_MR_decodeAll_32 hl (k := 2) rfl rfl (by decide) rfl (fun ls hl => ?_)
          refine lv_goto (tgt := 8) hx hb d_MR_decodeAll_35 (by decide) ?_
          exact ih (y8_1 + 1) (y8_2 + 1) o4.2.1 o4.2.2.1 o4.2.2.2.1 o4.2.2.2.2.1 o4.2.2.2.2.2.1 o4.2.2.2.2.2.2.1 o4.2.2.2.2.2.2.2.1 o4.2.2.2.2.2.2.2.2.1 o4.2.2.2.2.2.2.2.2.2.1 o4.2.2.2.2.2.2.2.2.2.2.1 o4.2.2.2.2.2.2.2.2.2.2.2.1 o4.2.2.2.2.2.2.2.2.2.2.2.2.1 o4.2.2.2.2.2.2.2.2.2.2.2.2.2 H locs ls (lv_sub hl [2, 1, 0] rfl) hP hD hS h
  exact L8 N (0 : Int32) (0 : Int32) decodings thrownDecodings size count data made holds numbers lengths values states rows parts _ _ ls (lv_sub hl [2, 1, 0] rfl) hP hD hS hs8
def d_MR_part (N : Nat) (x1 : Int32) (x2 : Int32) (partCount : Int32) (hasRun : Int32) (parts : Nat → Nat → Int32) : Option (Except String (Int32)) :=
 (d_MR_requirePart N x1 partCount hasRun).bind (fun o1 => exB o1 (fun u1 => if x2 < 0 then some (.ok (-1 : Int32)) else if (6 : Int32) ≤ x2 then some (.ok (-1 : Int32)) else gI x1 16 (gI x2 6 (some (.ok (parts x1.toNatClampNeg x2.toNatClampNeg))))))
abbrev rm_MR_part : Room := { frames := 8, cells := 2, slots := 12, locals := 123 }
set_option maxHeartbeats 4000000 in
set_option maxRecDepth 100000 in
theorem c_MR_part (l : Launch) (hlt : l.stackTraces = false) (dC : Nat → ClassId) (dI : Nat → Nat → Nat) (tt : Nat → Nat) (ad : Nat → Nat) (cs : Nat → ClassId) (r1 : Nat → Nat) (rc1 : ClassId) (r2 : Nat → Nat) (rc2 : ClassId) (sz N : Nat) (x1 : Int32) (x2 : Int32) (kind : Int32) (steps : Int32) (byteCount : Int32) (partCount : Int32) (stepsTaken : Int32) (hasRun : Int32) (lackedSteps : Int32) (decodings : Int32) (thrownDecodings : Int32) (bytes : Nat → Int32) (size : Int32) (count : Int32) (data : Nat → Int32) (made : Nat → Int32) (holds : Nat → Int32) (numbers : Nat → Int32) (lengths : Nat → Int32) (values : Nat → Int32) (states : Nat → Int32) (rows : Nat → Nat → Int32) (parts : Nat → Nat → Int32) (out : Except String (Int32)) (h : d_MR_part N x1 x2 partCount hasRun parts = some out) :
    vx_Met l y_MR_part (w_MR_part) rm_MR_part (va_Pc [.ref (ad 0), .int x1, .int x2] (PreW (dC, dI) [((cs 1), .int), ((cs 2), .array .int), ((cs 4), .int), ((cs 5), .int), ((cs 7), .int), ((cs 8), .int), ((cs 9), .int), ((cs 10), .array .int), ((cs 12), .int), ((cs 13), .int), (rc1, .int), (rc2, .int)] ((x_MR ad cs r1 r2 kind steps byteCount partCount stepsTaken hasRun lackedSteps decodings thrownDecodings bytes size count data made holds numbers lengths values states) ++ (gw 8 r1 rc1 5 rows ++ gw 16 r2 rc2 6 parts)) sz tt)) (va_Qi (fun (r : Int32) (u : Int32) => out = .ok u ∧ r = u) (fun u => AftW (dC, dI) [((cs 1), .int), ((cs 2), .array .int), ((cs 4), .int), ((cs 5), .int), ((cs 7), .int), ((cs 8), .int), ((cs 9), .int), ((cs 10), .array .int), ((cs 12), .int), ((cs 13), .int), (rc1, .int), (rc2, .int)] (va_A ((x_MR ad cs r1 r2 kind steps byteCount partCount stepsTaken hasRun lackedSteps decodings thrownDecodings bytes size count data made holds numbers lengths values states) ++ (gw 8 r1 rc1 5 rows ++ gw 16 r2 rc2 6 parts)) sz) ((x_MR ad cs r1 r2 kind steps byteCount partCount stepsTaken hasRun lackedSteps decodings thrownDecodings bytes size count data made holds numbers lengths values states) ++ (gw 8 r1 rc1 5 rows ++ gw 16 r2 rc2 6 parts))) (va_A ((x_MR ad cs r1 r2 kind steps byteCount partCount stepsTaken hasRun lackedSteps decodings thrownDecodings bytes size count data made holds numbers lengths values states) ++ (gw 8 r1 rc1 5 rows ++ gw 16 r2 rc2 6 parts)) sz)) (vx_X (fun (_ : Unit) => True) (fun E _ t => out = .error E ∧ AftW (dC, dI) [((cs 1), .int), ((cs 2), .array .int), ((cs 4), .int), ((cs 5), .int), ((cs 7), .int), ((cs 8), .int), ((cs 9), .int), ((cs 10), .array .int), ((cs 12), .int), ((cs 13), .int), (rc1, .int), (rc2, .int)] (va_A ((x_MR ad cs r1 r2 kind steps byteCount partCount stepsTaken hasRun lackedSteps decodings thrownDecodings bytes size count data made holds numbers lengths values states) ++ (gw 8 r1 rc1 5 rows ++ gw 16 r2 rc2 6 parts)) sz) ((x_MR ad cs r1 r2 kind steps byteCount partCount stepsTaken hasRun lackedSteps decodings thrownDecodings bytes size count data made holds numbers lengths values states) ++ (gw 8 r1 rc1 5 rows ++ gw 16 r2 rc2 6 parts)) t) (va_A ((x_MR ad cs r1 r2 kind steps byteCount partCount stepsTaken hasRun lackedSteps decodings thrownDecodings bytes size count data made holds numbers lengths values states) ++ (gw 8 r1 rc1 5 rows ++ gw 16 r2 rc2 6 parts)) sz)) 2 12 (va_A ((x_MR ad cs r1 r2 kind steps byteCount partCount stepsTaken hasRun lackedSteps decodings thrownDecodings bytes size count data made holds numbers lengths values states) ++ (gw 8 r1 rc1 5 rows ++ gw 16 r2 rc2 6 parts)) sz) := by
  refine vx_ofW (cc := k_MR_part) (maxL := 3) (ret := (some .int)) (by decide) rfl ?_
  intro p e s m args below meth c s₁ B hml hnt0 hv
  have hnt : ∀ {pc : Nat}, ∀ x ∈ c.exceptionTable.toList, covers x pc = false := fun x hx9 => (hnt0 x hx9).elim
  obtain ⟨rfl, hsz, hP, hK, hD0, hG⟩ := hv
  have hx := B.exec
  have hb := B.bytes
  have hr := B.returns
  have hts := atoms_spec (ws := (w_MR_part)) B.pre
  have hB : ∀ w ∈ BIG, w.before _ s = true := fun w h9 => hts w (List.mem_cons_of_mem _ h9)
  have hown : s.vm.findClass R_MR = some m.cls := findClass_of_methodNamed B.named
  have hlocks := B.notSynchronized
  subst hsz
  have hD := hD0.self (sz := s.heap.size)
  generalize hAe : va_A ((x_MR ad cs r1 r2 kind steps byteCount partCount stepsTaken hasRun lackedSteps decodings thrownDecodings bytes size count data made holds numbers lengths values states) ++ (gw 8 r1 rc1 5 rows ++ gw 16 r2 rc2 6 parts)) s.heap.size = A at hD hG ⊢
  have hA : ∀ q : Nat, s.heap.size ≤ q → A q := fun q h => by rw [← hAe]; exact Or.inr h
  have hS : va_S A s.heap s.heap [] := va_S.rf
  have hl := lv_entry ([.ref (ad 0), .int x1, .int x2]) (n := 3) (Nat.le_of_ble_eq_true rfl)
  rw [lg_entry_eq]
  generalize (lg_sl ([.ref (ad 0), .int x1, .int x2]) ++ List.replicate (3 - (lg_sl ([.ref (ad 0), .int x1, .int x2])).length) Slot.unset).toArray = ls at hl ⊢
  have hl : lv_has ls 3 [(0, .ref (ad 0)), (1, .int x1), (2, .int x2)] := hl
  unfold d_MR_part at h
  refine lv_aload_n hx hb d_MR_part_0 rfl (lv_at hl 0 rfl) ?_
  refine lv_iload_n hx hb d_MR_part_1 rfl (lv_at hl 1 rfl) ?_
  obtain ⟨o1, ho1, h⟩ := Option.bind_eq_some_iff.mp h
  have hKc := hK.sub (tys' := [((cs 1), .int), ((cs 2), .array .int), ((cs 4), .int), ((cs 5), .int), ((cs 7), .int), ((cs 8), .int), ((cs 9), .int), ((cs 10), .array .int), ((cs 12), .int), ((cs 13), .int), (rc1, .int), (rc2, .int)]) [0, 1, 2, 3, 4, 5, 6, 7, 8, 9, 10, 11] rfl
  have hPc := hP.part (cx := x_MR ad cs r1 r2 kind steps byteCount partCount stepsTaken hasRun lackedSteps decodings thrownDecodings bytes size count data made holds numbers lengths values states) [0, 1, 2, 3, 4, 5, 6, 7, 8, 9, 10, 11, 12, 13] rfl
  have hDc := hD.part (cx := x_MR ad cs r1 r2 kind steps byteCount partCount stepsTaken hasRun lackedSteps decodings thrownDecodings bytes size count data made holds numbers lengths values states) [0, 1, 2, 3, 4, 5, 6, 7, 8, 9, 10, 11, 12, 13] (by decide) rfl
  have hFc := va_freeP (cx := x_MR ad cs r1 r2 kind steps byteCount partCount stepsTaken hasRun lackedSteps decodings thrownDecodings bytes size count data made holds numbers lengths values states) hD hS hA [0, 1, 2, 3, 4, 5, 6, 7, 8, 9, 10, 11, 12, 13] rfl
  refine vx_callv (vx_runV (As := [.int x1]) (rest := []) ⟨hx, hb, hml, hown, hB⟩ (c_MR_requirePart l hlt dC dI tt ad cs r1 rc1 r2 rc2 s.heap.size N x1 kind steps byteCount partCount stepsTaken hasRun lackedSteps decodings thrownDecodings bytes size count data made holds numbers lengths values states rows parts o1 ho1) (cwV 1 hB (gV wd_170 wd_168 wd_167 wd_105 wd_169) rfl rfl rfl (by decide +kernel) ⟨Nat.le_of_ble_eq_true rfl, Nat.le_of_ble_eq_true rfl⟩) ⟨PreW_blind, va_recv hKc hPc (ci := 0) (q0 := 0) rfl rfl, PreW_mk hKc hPc hDc hG hS hFc⟩ rfl rfl hl.1 rfl (lv_room (Nat.le_of_ble_eq_true rfl)) d_MR_part_2 ⟨Nat.le_of_ble_eq_true rfl, Nat.le_of_ble_eq_true rfl⟩) hS (fun q _ h => hFc q h) hFc (fun q _ h => hFc q h) (fun E ce q9 u_1 t H1 locs ht hvm hw hB hz1 hk1 hS hce hcv hcl => ?_) (fun u1 t H1 locs ht hvm hw hB hz1 hk1 hS => ?_)
  · obtain ⟨heE, hB⟩ := hB
    subst heE
    obtain ⟨hP1, hK1, hD1⟩ := hB
    rw [ht] at hP1
    obtain ⟨hP, hD⟩ := va_joinP (wr := pick (x_MR ad cs r1 r2 kind steps byteCount partCount stepsTaken hasRun lackedSteps decodings thrownDecodings bytes size count data made holds numbers lengths values states) []) hP hD [0, 1, 2, 3, 4, 5, 6, 7, 8, 9, 10, 11, 12, 13] [] rfl rfl (by decide) (by decide) hk1 hFc hP1 hD1
    generalize H1 = H at hP hS hce ⊢
    have hP : va_P (dC, dI) vwCl ((x_MR ad cs r1 r2 kind steps byteCount partCount stepsTaken hasRun lackedSteps decodings thrownDecodings bytes size count data made holds numbers lengths values states) ++ (gw 8 r1 rc1 5 rows ++ gw 16 r2 rc2 6 parts)) H := hP.part (cx := x_MR ad cs r1 r2 kind steps byteCount partCount stepsTaken hasRun lackedSteps decodings thrownDecodings bytes size count data made holds numbers lengths values states) [0, 1, 2, 3, 4, 5, 6, 7, 8, 9, 10, 11, 12, 13] rfl
    have hD : va_D A ((x_MR ad cs r1 r2 kind steps byteCount partCount stepsTaken hasRun lackedSteps decodings thrownDecodings bytes size count data made holds numbers lengths values states) ++ (gw 8 r1 rc1 5 rows ++ gw 16 r2 rc2 6 parts)) := hD.part (cx := x_MR ad cs r1 r2 kind steps byteCount partCount stepsTaken hasRun lackedSteps decodings thrownDecodings bytes size count data made holds numbers lengths values states) [0, 1, 2, 3, 4, 5, 6, 7, 8, 9, 10, 11, 12, 13] (by decide) rfl
    have h := exB_er h
    subst h
    refine vx_widen (k := 2) (n := 12) (by decide) (by decide) ?_
    exact vx_out (E := E) hnt hlocks hce hcv hcl (fun t9 ht9 hvm9 => ⟨(), trivial, ⟨rfl, AftW_mv hK hP hD ht9 hvm9⟩, hS.F ht9⟩) hS.2.2 (by decide) (by decide)
  subst hw
  have h := exB_ok h
  obtain ⟨hP1, hK1, hD1⟩ := hB
  rw [ht] at hP1
  obtain ⟨hP, hD⟩ := va_joinP (wr := pick (x_MR ad cs r1 r2 kind steps byteCount partCount stepsTaken hasRun lackedSteps decodings thrownDecodings bytes size count data made holds numbers lengths values states) []) hP hD [0, 1, 2, 3, 4, 5, 6, 7, 8, 9, 10, 11, 12, 13] [] rfl rfl (by decide) (by decide) hk1 hFc hP1 hD1
  generalize H1 = H at hP hS ⊢
  have hP : va_P (dC, dI) vwCl ((x_MR ad cs r1 r2 kind steps byteCount partCount stepsTaken hasRun lackedSteps decodings thrownDecodings bytes size count data made holds numbers lengths values states) ++ (gw 8 r1 rc1 5 rows ++ gw 16 r2 rc2 6 parts)) H := hP.part (cx := x_MR ad cs r1 r2 kind steps byteCount partCount stepsTaken hasRun lackedSteps decodings thrownDecodings bytes size count data made holds numbers lengths values states) [0, 1, 2, 3, 4, 5, 6, 7, 8, 9, 10, 11, 12, 13] rfl
  have hD : va_D A ((x_MR ad cs r1 r2 kind steps byteCount partCount stepsTaken hasRun lackedSteps decodings thrownDecodings bytes size count data made holds numbers lengths values states) ++ (gw 8 r1 rc1 5 rows ++ gw 16 r2 rc2 6 parts)) := hD.part (cx := x_MR ad cs r1 r2 kind steps byteCount partCount stepsTaken hasRun lackedSteps decodings thrownDecodings bytes size count data made holds numbers lengths values states) [0, 1, 2, 3, 4, 5, 6, 7, 8, 9, 10, 11, 12, 13] (by decide) rfl
  refine W.widen (k := 2) (n := 12) (by decide) (by decide) ?_
  refine lv_iload_n hx hb d_MR_part_5 rfl (lv_at hl 2 rfl) ?_
  refine lv_if_lt (tgt := 26) hx hb d_MR_part_6 (by decide) (fun c_2 => ?_) (fun c_2 => ?_)
  · have h := (if_pos c_2).symm.trans h
    refine lv_iconst (v := (-1)) hx hb d_MR_part_26 (by decide) ?_
    have h := Option.some.inj h
    subst h
    refine vx_ret ?_
    exact W.iret hx hb hr (fun t ht hW => ⟨⟨_, _, rfl, ⟨rfl, rfl⟩, AftW_mk hK hP hD ht hW⟩, hS.F ht⟩) hS.2.2 d_MR_part_27
  · have h := (if_neg c_2).symm.trans h
    refine lv_iload_n hx hb d_MR_part_9 rfl (lv_at hl 2 rfl) ?_
    refine lv_bipush (v := 6) hx hb d_MR_part_10 (by decide) ?_
    refine lv_icmp_ge (tgt := 26) hx hb d_MR_part_12 (by decide) (fun c_3 => ?_) (fun c_3 => ?_)
    · have h := (if_pos c_3).symm.trans h
      refine lv_iconst (v := (-1)) hx hb d_MR_part_26 (by decide) ?_
      have h := Option.some.inj h
      subst h
      refine vx_ret ?_
      exact W.iret hx hb hr (fun t ht hW => ⟨⟨_, _, rfl, ⟨rfl, rfl⟩, AftW_mk hK hP hD ht hW⟩, hS.F ht⟩) hS.2.2 d_MR_part_27
    · have h := (if_neg c_3).symm.trans h
      refine lv_aload_n hx hb d_MR_part_15 rfl (lv_at hl 0 rfl) ?_
      refine va_get (D := (dC, dI)) (ci := 0) (v := .ref (ad 2)) (C := R_MR) (T := T_MR) (N := 13) hx hb hB in_MR hown hK hP 0 rfl rfl 3 (by decide) (hB _ wd_115) (fun _ h9 => h9) rfl d_MR_part_16 ?_
      refine lv_iload_n hx hb d_MR_part_19 rfl (lv_at hl 1 rfl) ?_
      obtain ⟨b_4, h⟩ := gI_some h
      refine gr_aald hx hb hK hP 2 1 rfl rfl b_4 d_MR_part_20 ?_
      refine lv_iload_n hx hb d_MR_part_21 rfl (lv_at hl 2 rfl) ?_
      obtain ⟨b_5, h⟩ := gI_some h
      refine gr_ald2 hx hb hK hP 11 rfl (in_lt b_4) b_5 d_MR_part_22 ?_
      refine lv_goto (tgt := 27) hx hb d_MR_part_23 (by decide) ?_
      have h := Option.some.inj h
      subst h
      refine vx_ret ?_
      exact W.iret hx hb hr (fun t ht hW => ⟨⟨_, _, rfl, ⟨rfl, rfl⟩, AftW_mk hK hP hD ht hW⟩, hS.F ht⟩) hS.2.2 d_MR_part_27
def d_MR_at (N : Nat) (x1 : Int32) (values : Nat → Int32) : Option (Except String (Int32)) :=
 (d_MR_requireSample N x1).bind (fun o1 => exB o1 (fun u1 => gI x1 256 (some (.ok (values x1.toNatClampNeg)))))
abbrev rm_MR_at : Room := { frames := 7, cells := 1, slots := 6, locals := 102 }
set_option maxHeartbeats 4000000 in
set_option maxRecDepth 100000 in
theorem c_MR_at (l : Launch) (hlt : l.stackTraces = false) (dC : Nat → ClassId) (dI : Nat → Nat → Nat) (tt : Nat → Nat) (ad : Nat → Nat) (cs : Nat → ClassId) (r1 : Nat → Nat) (rc1 : ClassId) (r2 : Nat → Nat) (rc2 : ClassId) (sz N : Nat) (x1 : Int32) (kind : Int32) (steps : Int32) (byteCount : Int32) (partCount : Int32) (stepsTaken : Int32) (hasRun : Int32) (lackedSteps : Int32) (decodings : Int32) (thrownDecodings : Int32) (bytes : Nat → Int32) (size : Int32) (count : Int32) (data : Nat → Int32) (made : Nat → Int32) (holds : Nat → Int32) (numbers : Nat → Int32) (lengths : Nat → Int32) (values : Nat → Int32) (states : Nat → Int32) (rows : Nat → Nat → Int32) (parts : Nat → Nat → Int32) (out : Except String (Int32)) (h : d_MR_at N x1 values = some out) :
    vx_Met l y_MR_at (w_MR_at) rm_MR_at (va_Pc [.ref (ad 0), .int x1] (PreW (dC, dI) [((cs 1), .int), ((cs 2), .array .int), ((cs 4), .int), ((cs 5), .int), ((cs 7), .int), ((cs 8), .int), ((cs 9), .int), ((cs 10), .array .int), ((cs 12), .int), ((cs 13), .int), (rc1, .int), (rc2, .int)] ((x_MR ad cs r1 r2 kind steps byteCount partCount stepsTaken hasRun lackedSteps decodings thrownDecodings bytes size count data made holds numbers lengths values states) ++ (gw 8 r1 rc1 5 rows ++ gw 16 r2 rc2 6 parts)) sz tt)) (va_Qi (fun (r : Int32) (u : Int32) => out = .ok u ∧ r = u) (fun u => AftW (dC, dI) [((cs 1), .int), ((cs 2), .array .int), ((cs 4), .int), ((cs 5), .int), ((cs 7), .int), ((cs 8), .int), ((cs 9), .int), ((cs 10), .array .int), ((cs 12), .int), ((cs 13), .int), (rc1, .int), (rc2, .int)] (va_A ((x_MR ad cs r1 r2 kind steps byteCount partCount stepsTaken hasRun lackedSteps decodings thrownDecodings bytes size count data made holds numbers lengths values states) ++ (gw 8 r1 rc1 5 rows ++ gw 16 r2 rc2 6 parts)) sz) ((x_MR ad cs r1 r2 kind steps byteCount partCount stepsTaken hasRun lackedSteps decodings thrownDecodings bytes size count data made holds numbers lengths values states) ++ (gw 8 r1 rc1 5 rows ++ gw 16 r2 rc2 6 parts))) (va_A ((x_MR ad cs r1 r2 kind steps byteCount partCount stepsTaken hasRun lackedSteps decodings thrownDecodings bytes size count data made holds numbers lengths values states) ++ (gw 8 r1 rc1 5 rows ++ gw 16 r2 rc2 6 parts)) sz)) (vx_X (fun (_ : Unit) => True) (fun E _ t => out = .error E ∧ AftW (dC, dI) [((cs 1), .int), ((cs 2), .array .int), ((cs 4), .int), ((cs 5), .int), ((cs 7), .int), ((cs 8), .int), ((cs 9), .int), ((cs 10), .array .int), ((cs 12), .int), ((cs 13), .int), (rc1, .int), (rc2, .int)] (va_A ((x_MR ad cs r1 r2 kind steps byteCount partCount stepsTaken hasRun lackedSteps decodings thrownDecodings bytes size count data made holds numbers lengths values states) ++ (gw 8 r1 rc1 5 rows ++ gw 16 r2 rc2 6 parts)) sz) ((x_MR ad cs r1 r2 kind steps byteCount partCount stepsTaken hasRun lackedSteps decodings thrownDecodings bytes size count data made holds numbers lengths values states) ++ (gw 8 r1 rc1 5 rows ++ gw 16 r2 rc2 6 parts)) t) (va_A ((x_MR ad cs r1 r2 kind steps byteCount partCount stepsTaken hasRun lackedSteps decodings thrownDecodings bytes size count data made holds numbers lengths values states) ++ (gw 8 r1 rc1 5 rows ++ gw 16 r2 rc2 6 parts)) sz)) 1 6 (va_A ((x_MR ad cs r1 r2 kind steps byteCount partCount stepsTaken hasRun lackedSteps decodings thrownDecodings bytes size count data made holds numbers lengths values states) ++ (gw 8 r1 rc1 5 rows ++ gw 16 r2 rc2 6 parts)) sz) := by
  refine vx_ofW (cc := k_MR_at) (maxL := 2) (ret := (some .int)) (by decide) rfl ?_
  intro p e s m args below meth c s₁ B hml hnt0 hv
  have hnt : ∀ {pc : Nat}, ∀ x ∈ c.exceptionTable.toList, covers x pc = false := fun x hx9 => (hnt0 x hx9).elim
  obtain ⟨rfl, hsz, hP, hK, hD0, hG⟩ := hv
  have hx := B.exec
  have hb := B.bytes
  have hr := B.returns
  have hts := atoms_spec (ws := (w_MR_at)) B.pre
  have hB : ∀ w ∈ BIG, w.before _ s = true := fun w h9 => hts w (List.mem_cons_of_mem _ h9)
  have hown : s.vm.findClass R_MR = some m.cls := findClass_of_methodNamed B.named
  have hlocks := B.notSynchronized
  subst hsz
  have hD := hD0.self (sz := s.heap.size)
  generalize hAe : va_A ((x_MR ad cs r1 r2 kind steps byteCount partCount stepsTaken hasRun lackedSteps decodings thrownDecodings bytes size count data made holds numbers lengths values states) ++ (gw 8 r1 rc1 5 rows ++ gw 16 r2 rc2 6 parts)) s.heap.size = A at hD hG ⊢
  have hA : ∀ q : Nat, s.heap.size ≤ q → A q := fun q h => by rw [← hAe]; exact Or.inr h
  have hS : va_S A s.heap s.heap [] := va_S.rf
  have hl := lv_entry ([.ref (ad 0), .int x1]) (n := 2) (Nat.le_of_ble_eq_true rfl)
  rw [lg_entry_eq]
  generalize (lg_sl ([.ref (ad 0), .int x1]) ++ List.replicate (2 - (lg_sl ([.ref (ad 0), .int x1])).length) Slot.unset).toArray = ls at hl ⊢
  have hl : lv_has ls 2 [(0, .ref (ad 0)), (1, .int x1)] := hl
  unfold d_MR_at at h
  refine lv_iload_n hx hb d_MR_at_0 rfl (lv_at hl 1 rfl) ?_
  obtain ⟨o1, ho1, h⟩ := Option.bind_eq_some_iff.mp h
  have hKc := hK.sub (tys' := []) [] rfl
  have hPc := pl_P (cx := ([] : va_W)) hP [] rfl
  have hDc := pl_D (cx := ([] : va_W)) hD [] (by decide) rfl
  have hFc := pl_F (cx := ([] : va_W)) hD hS hA [] rfl
  refine vx_callv (vx_runS (As := [.int x1]) (rest := []) ⟨hx, hb, hml, hown, hB⟩ (c_MR_requireSample l hlt dC dI tt s.heap.size N x1 o1 ho1) (va_cwS 1 hB (gS wd_177 wd_175 wd_105 wd_176) rfl rfl rfl (by decide +kernel) ⟨Nat.le_of_ble_eq_true rfl, Nat.le_of_ble_eq_true rfl⟩) ⟨PreW_blind, PreW_mk hKc hPc hDc hG hS hFc⟩ rfl rfl hl.1 rfl (lv_room (Nat.le_of_ble_eq_true rfl)) d_MR_at_1 ⟨Nat.le_of_ble_eq_true rfl, Nat.le_of_ble_eq_true rfl⟩) hS (fun q _ h => hFc q h) hFc (fun q _ h => hFc q h) (fun E ce q9 u_1 t H1 locs ht hvm hw hB hz1 hk1 hS hce hcv hcl => ?_) (fun u1 t H1 locs ht hvm hw hB hz1 hk1 hS => ?_)
  · obtain ⟨heE, hB⟩ := hB
    subst heE
    obtain ⟨hP1, hK1, hD1⟩ := hB
    rw [ht] at hP1
    obtain ⟨hP, hD⟩ := va_joinQ (wr := pick (x_MR ad cs r1 r2 kind steps byteCount partCount stepsTaken hasRun lackedSteps decodings thrownDecodings bytes size count data made holds numbers lengths values states) [0, 1, 2, 3, 4, 5, 6, 7, 8, 9, 10, 11, 12, 13]) hP hD [] [0, 1, 2, 3, 4, 5, 6, 7, 8, 9, 10, 11, 12, 13] rfl rfl (by decide) (by decide) hk1 hFc hP1 hD1
    generalize H1 = H at hP hS hce ⊢
    have hP : va_P (dC, dI) vwCl ((x_MR ad cs r1 r2 kind steps byteCount partCount stepsTaken hasRun lackedSteps decodings thrownDecodings bytes size count data made holds numbers lengths values states) ++ (gw 8 r1 rc1 5 rows ++ gw 16 r2 rc2 6 parts)) H := hP.part (cx := x_MR ad cs r1 r2 kind steps byteCount partCount stepsTaken hasRun lackedSteps decodings thrownDecodings bytes size count data made holds numbers lengths values states) [0, 1, 2, 3, 4, 5, 6, 7, 8, 9, 10, 11, 12, 13] rfl
    have hD : va_D A ((x_MR ad cs r1 r2 kind steps byteCount partCount stepsTaken hasRun lackedSteps decodings thrownDecodings bytes size count data made holds numbers lengths values states) ++ (gw 8 r1 rc1 5 rows ++ gw 16 r2 rc2 6 parts)) := hD.part (cx := x_MR ad cs r1 r2 kind steps byteCount partCount stepsTaken hasRun lackedSteps decodings thrownDecodings bytes size count data made holds numbers lengths values states) [0, 1, 2, 3, 4, 5, 6, 7, 8, 9, 10, 11, 12, 13] (by decide) rfl
    have h := exB_er h
    subst h
    refine vx_widen (k := 1) (n := 6) (by decide) (by decide) ?_
    exact vx_out (E := E) hnt hlocks hce hcv hcl (fun t9 ht9 hvm9 => ⟨(), trivial, ⟨rfl, AftW_mv hK hP hD ht9 hvm9⟩, hS.F ht9⟩) hS.2.2 (by decide) (by decide)
  subst hw
  have h := exB_ok h
  obtain ⟨hP1, hK1, hD1⟩ := hB
  rw [ht] at hP1
  obtain ⟨hP, hD⟩ := va_joinQ (wr := pick (x_MR ad cs r1 r2 kind steps byteCount partCount stepsTaken hasRun lackedSteps decodings thrownDecodings bytes size count data made holds numbers lengths values states) [0, 1, 2, 3, 4, 5, 6, 7, 8, 9, 10, 11, 12, 13]) hP hD [] [0, 1, 2, 3, 4, 5, 6, 7, 8, 9, 10, 11, 12, 13] rfl rfl (by decide) (by decide) hk1 hFc hP1 hD1
  generalize H1 = H at hP hS ⊢
  have hP : va_P (dC, dI) vwCl ((x_MR ad cs r1 r2 kind steps byteCount partCount stepsTaken hasRun lackedSteps decodings thrownDecodings bytes size count data made holds numbers lengths values states) ++ (gw 8 r1 rc1 5 rows ++ gw 16 r2 rc2 6 parts)) H := hP.part (cx := x_MR ad cs r1 r2 kind steps byteCount partCount stepsTaken hasRun lackedSteps decodings thrownDecodings bytes size count data made holds numbers lengths values states) [0, 1, 2, 3, 4, 5, 6, 7, 8, 9, 10, 11, 12, 13] rfl
  have hD : va_D A ((x_MR ad cs r1 r2 kind steps byteCount partCount stepsTaken hasRun lackedSteps decodings thrownDecodings bytes size count data made holds numbers lengths values states) ++ (gw 8 r1 rc1 5 rows ++ gw 16 r2 rc2 6 parts)) := hD.part (cx := x_MR ad cs r1 r2 kind steps byteCount partCount stepsTaken hasRun lackedSteps decodings thrownDecodings bytes size count data made holds numbers lengths values states) [0, 1, 2, 3, 4, 5, 6, 7, 8, 9, 10, 11, 12, 13] (by decide) rfl
  refine W.widen (k := 1) (n := 6) (by decide) (by decide) ?_
  refine lv_aload_n hx hb d_MR_at_4 rfl (lv_at hl 0 rfl) ?_
  refine va_get (D := (dC, dI)) (ci := 0) (v := .ref (ad 11)) (C := R_MR) (T := T_MR) (N := 13) hx hb hB in_MR hown hK hP 0 rfl rfl 5 (by decide) (hB _ wd_146) (fun _ h9 => h9) rfl d_MR_at_5 ?_
  refine va_getN (D := (dC, dI)) (ci := 3) (v := .ref (ad 12)) (C := R_Map) (T := T_Map) (N := 2) hx hb hB in_Map hown hK hP 11 rfl rfl 0 (by decide) ((va_Nw.use rfl (hG.1 _ (nw_at (i := 8) rfl)))) (fun _ h9 => h9) rfl d_MR_at_8 ?_
  refine lv_iload_n hx hb d_MR_at_11 rfl (lv_at hl 1 rfl) ?_
  obtain ⟨b_2, h⟩ := gI_some h
  refine va_iald hx hb hK hP 12 8 rfl rfl b_2 d_MR_at_12 ?_
  have h := Option.some.inj h
  subst h
  refine vx_ret ?_
  exact W.iret hx hb hr (fun t ht hW => ⟨⟨_, _, rfl, ⟨rfl, rfl⟩, AftW_mk hK hP hD ht hW⟩, hS.F ht⟩) hS.2.2 d_MR_at_13
def d_MR_state (N : Nat) (x1 : Int32) (states : Nat → Int32) : Option (Except String (Int32)) :=
 (d_MR_requireSample N x1).bind (fun o1 => exB o1 (fun u1 => gI x1 256 (some (.ok (states x1.toNatClampNeg)))))
abbrev rm_MR_state : Room := { frames := 7, cells := 1, slots := 6, locals := 102 }
set_option maxHeartbeats 4000000 in
set_option maxRecDepth 100000 in
theorem c_MR_state (l : Launch) (hlt : l.stackTraces = false) (dC : Nat → ClassId) (dI : Nat → Nat → Nat) (tt : Nat → Nat) (ad : Nat → Nat) (cs : Nat → ClassId) (r1 : Nat → Nat) (rc1 : ClassId) (r2 : Nat → Nat) (rc2 : ClassId) (sz N : Nat) (x1 : Int32) (kind : Int32) (steps : Int32) (byteCount : Int32) (partCount : Int32) (stepsTaken : Int32) (hasRun : Int32) (lackedSteps : Int32) (decodings : Int32) (thrownDecodings : Int32) (bytes : Nat → Int32) (size : Int32) (count : Int32) (data : Nat → Int32) (made : Nat → Int32) (holds : Nat → Int32) (numbers : Nat → Int32) (lengths : Nat → Int32) (values : Nat → Int32) (states : Nat → Int32) (rows : Nat → Nat → Int32) (parts : Nat → Nat → Int32) (out : Except String (Int32)) (h : d_MR_state N x1 states = some out) :
    vx_Met l y_MR_state (w_MR_state) rm_MR_state (va_Pc [.ref (ad 0), .int x1] (PreW (dC, dI) [((cs 1), .int), ((cs 2), .array .int), ((cs 4), .int), ((cs 5), .int), ((cs 7), .int), ((cs 8), .int), ((cs 9), .int), ((cs 10), .array .int), ((cs 12), .int), ((cs 13), .int), (rc1, .int), (rc2, .int)] ((x_MR ad cs r1 r2 kind steps byteCount partCount stepsTaken hasRun lackedSteps decodings thrownDecodings bytes size count data made holds numbers lengths values states) ++ (gw 8 r1 rc1 5 rows ++ gw 16 r2 rc2 6 parts)) sz tt)) (va_Qi (fun (r : Int32) (u : Int32) => out = .ok u ∧ r = u) (fun u => AftW (dC, dI) [((cs 1), .int), ((cs 2), .array .int), ((cs 4), .int), ((cs 5), .int), ((cs 7), .int), ((cs 8), .int), ((cs 9), .int), ((cs 10), .array .int), ((cs 12), .int), ((cs 13), .int), (rc1, .int), (rc2, .int)] (va_A ((x_MR ad cs r1 r2 kind steps byteCount partCount stepsTaken hasRun lackedSteps decodings thrownDecodings bytes size count data made holds numbers lengths values states) ++ (gw 8 r1 rc1 5 rows ++ gw 16 r2 rc2 6 parts)) sz) ((x_MR ad cs r1 r2 kind steps byteCount partCount stepsTaken hasRun lackedSteps decodings thrownDecodings bytes size count data made holds numbers lengths values states) ++ (gw 8 r1 rc1 5 rows ++ gw 16 r2 rc2 6 parts))) (va_A ((x_MR ad cs r1 r2 kind steps byteCount partCount stepsTaken hasRun lackedSteps decodings thrownDecodings bytes size count data made holds numbers lengths values states) ++ (gw 8 r1 rc1 5 rows ++ gw 16 r2 rc2 6 parts)) sz)) (vx_X (fun (_ : Unit) => True) (fun E _ t => out = .error E ∧ AftW (dC, dI) [((cs 1), .int), ((cs 2), .array .int), ((cs 4), .int), ((cs 5), .int), ((cs 7), .int), ((cs 8), .int), ((cs 9), .int), ((cs 10), .array .int), ((cs 12), .int), ((cs 13), .int), (rc1, .int), (rc2, .int)] (va_A ((x_MR ad cs r1 r2 kind steps byteCount partCount stepsTaken hasRun lackedSteps decodings thrownDecodings bytes size count data made holds numbers lengths values states) ++ (gw 8 r1 rc1 5 rows ++ gw 16 r2 rc2 6 parts)) sz) ((x_MR ad cs r1 r2 kind steps byteCount partCount stepsTaken hasRun lackedSteps decodings thrownDecodings bytes size count data made holds numbers lengths values states) ++ (gw 8 r1 rc1 5 rows ++ gw 16 r2 rc2 6 parts)) t) (va_A ((x_MR ad cs r1 r2 kind steps byteCount partCount stepsTaken hasRun lackedSteps decodings thrownDecodings bytes size count data made holds numbers lengths values states) ++ (gw 8 r1 rc1 5 rows ++ gw 16 r2 rc2 6 parts)) sz)) 1 6 (va_A ((x_MR ad cs r1 r2 kind steps byteCount partCount stepsTaken hasRun lackedSteps decodings thrownDecodings bytes size count data made holds numbers lengths values states) ++ (gw 8 r1 rc1 5 rows ++ gw 16 r2 rc2 6 parts)) sz) := by
  refine vx_ofW (cc := k_MR_state) (maxL := 2) (ret := (some .int)) (by decide) rfl ?_
  intro p e s m args below meth c s₁ B hml hnt0 hv
  have hnt : ∀ {pc : Nat}, ∀ x ∈ c.exceptionTable.toList, covers x pc = false := fun x hx9 => (hnt0 x hx9).elim
  obtain ⟨rfl, hsz, hP, hK, hD0, hG⟩ := hv
  have hx := B.exec
  have hb := B.bytes
  have hr := B.returns
  have hts := atoms_spec (ws := (w_MR_state)) B.pre
  have hB : ∀ w ∈ BIG, w.before _ s = true := fun w h9 => hts w (List.mem_cons_of_mem _ h9)
  have hown : s.vm.findClass R_MR = some m.cls := findClass_of_methodNamed B.named
  have hlocks := B.notSynchronized
  subst hsz
  have hD := hD0.self (sz := s.heap.size)
  generalize hAe : va_A ((x_MR ad cs r1 r2 kind steps byteCount partCount stepsTaken hasRun lackedSteps decodings thrownDecodings bytes size count data made holds numbers lengths values states) ++ (gw 8 r1 rc1 5 rows ++ gw 16 r2 rc2 6 parts)) s.heap.size = A at hD hG ⊢
  have hA : ∀ q : Nat, s.heap.size ≤ q → A q := fun q h => by rw [← hAe]; exact Or.inr h
  have hS : va_S A s.heap s.heap [] := va_S.rf
  have hl := lv_entry ([.ref (ad 0), .int x1]) (n := 2) (Nat.le_of_ble_eq_true rfl)
  rw [lg_entry_eq]
  generalize (lg_sl ([.ref (ad 0), .int x1]) ++ List.replicate (2 - (lg_sl ([.ref (ad 0), .int x1])).length) Slot.unset).toArray = ls at hl ⊢
  have hl : lv_has ls 2 [(0, .ref (ad 0)), (1, .int x1)] := hl
  unfold d_MR_state at h
  refine lv_iload_n hx hb d_MR_state_0 rfl (lv_at hl 1 rfl) ?_
  obtain ⟨o1, ho1, h⟩ := Option.bind_eq_some_iff.mp h
  have hKc := hK.sub (tys' := []) [] rfl
  have hPc := pl_P (cx := ([] : va_W)) hP [] rfl
  have hDc := pl_D (cx := ([] : va_W)) hD [] (by decide) rfl
  have hFc := pl_F (cx := ([] : va_W)) hD hS hA [] rfl
  refine vx_callv (vx_runS (As := [.int x1]) (rest := []) ⟨hx, hb, hml, hown, hB⟩ (c_MR_requireSample l hlt dC dI tt s.heap.size N x1 o1 ho1) (va_cwS 1 hB (gS wd_177 wd_175 wd_105 wd_176) rfl rfl rfl (by decide +kernel) ⟨Nat.le_of_ble_eq_true rfl, Nat.le_of_ble_eq_true rfl⟩) ⟨PreW_blind, PreW_mk hKc hPc hDc hG hS hFc⟩ rfl rfl hl.1 rfl (lv_room (Nat.le_of_ble_eq_true rfl)) d_MR_state_1 ⟨Nat.le_of_ble_eq_true rfl, Nat.le_of_ble_eq_true rfl⟩) hS (fun q _ h => hFc q h) hFc (fun q _ h => hFc q h) (fun E ce q9 u_1 t H1 locs ht hvm hw hB hz1 hk1 hS hce hcv hcl => ?_) (fun u1 t H1 locs ht hvm hw hB hz1 hk1 hS => ?_)
  · obtain ⟨heE, hB⟩ := hB
    subst heE
    obtain ⟨hP1, hK1, hD1⟩ := hB
    rw [ht] at hP1
    obtain ⟨hP, hD⟩ := va_joinQ (wr := pick (x_MR ad cs r1 r2 kind steps byteCount partCount stepsTaken hasRun lackedSteps decodings thrownDecodings bytes size count data made holds numbers lengths values states) [0, 1, 2, 3, 4, 5, 6, 7, 8, 9, 10, 11, 12, 13]) hP hD [] [0, 1, 2, 3, 4, 5, 6, 7, 8, 9, 10, 11, 12, 13] rfl rfl (by decide) (by decide) hk1 hFc hP1 hD1
    generalize H1 = H at hP hS hce ⊢
    have hP : va_P (dC, dI) vwCl ((x_MR ad cs r1 r2 kind steps byteCount partCount stepsTaken hasRun lackedSteps decodings thrownDecodings bytes size count data made holds numbers lengths values states) ++ (gw 8 r1 rc1 5 rows ++ gw 16 r2 rc2 6 parts)) H := hP.part (cx := x_MR ad cs r1 r2 kind steps byteCount partCount stepsTaken hasRun lackedSteps decodings thrownDecodings bytes size count data made holds numbers lengths values states) [0, 1, 2, 3, 4, 5, 6, 7, 8, 9, 10, 11, 12, 13] rfl
    have hD : va_D A ((x_MR ad cs r1 r2 kind steps byteCount partCount stepsTaken hasRun lackedSteps decodings thrownDecodings bytes size count data made holds numbers lengths values states) ++ (gw 8 r1 rc1 5 rows ++ gw 16 r2 rc2 6 parts)) := hD.part (cx := x_MR ad cs r1 r2 kind steps byteCount partCount stepsTaken hasRun lackedSteps decodings thrownDecodings bytes size count data made holds numbers lengths values states) [0, 1, 2, 3, 4, 5, 6, 7, 8, 9, 10, 11, 12, 13] (by decide) rfl
    have h := exB_er h
    subst h
    refine vx_widen (k := 1) (n := 6) (by decide) (by decide) ?_
    exact vx_out (E := E) hnt hlocks hce hcv hcl (fun t9 ht9 hvm9 => ⟨(), trivial, ⟨rfl, AftW_mv hK hP hD ht9 hvm9⟩, hS.F ht9⟩) hS.2.2 (by decide) (by decide)
  subst hw
  have h := exB_ok h
  obtain ⟨hP1, hK1, hD1⟩ := hB
  rw [ht] at hP1
  obtain ⟨hP, hD⟩ := va_joinQ (wr := pick (x_MR ad cs r1 r2 kind steps byteCount partCount stepsTaken hasRun lackedSteps decodings thrownDecodings bytes size count data made holds numbers lengths values states) [0, 1, 2, 3, 4, 5, 6, 7, 8, 9, 10, 11, 12, 13]) hP hD [] [0, 1, 2, 3, 4, 5, 6, 7, 8, 9, 10, 11, 12, 13] rfl rfl (by decide) (by decide) hk1 hFc hP1 hD1
  generalize H1 = H at hP hS ⊢
  have hP : va_P (dC, dI) vwCl ((x_MR ad cs r1 r2 kind steps byteCount partCount stepsTaken hasRun lackedSteps decodings thrownDecodings bytes size count data made holds numbers lengths values states) ++ (gw 8 r1 rc1 5 rows ++ gw 16 r2 rc2 6 parts)) H := hP.part (cx := x_MR ad cs r1 r2 kind steps byteCount partCount stepsTaken hasRun lackedSteps decodings thrownDecodings bytes size count data made holds numbers lengths values states) [0, 1, 2, 3, 4, 5, 6, 7, 8, 9, 10, 11, 12, 13] rfl
  have hD : va_D A ((x_MR ad cs r1 r2 kind steps byteCount partCount stepsTaken hasRun lackedSteps decodings thrownDecodings bytes size count data made holds numbers lengths values states) ++ (gw 8 r1 rc1 5 rows ++ gw 16 r2 rc2 6 parts)) := hD.part (cx := x_MR ad cs r1 r2 kind steps byteCount partCount stepsTaken hasRun lackedSteps decodings thrownDecodings bytes size count data made holds numbers lengths values states) [0, 1, 2, 3, 4, 5, 6, 7, 8, 9, 10, 11, 12, 13] (by decide) rfl
  refine W.widen (k := 1) (n := 6) (by decide) (by decide) ?_
  refine lv_aload_n hx hb d_MR_state_4 rfl (lv_at hl 0 rfl) ?_
  refine va_get (D := (dC, dI)) (ci := 0) (v := .ref (ad 11)) (C := R_MR) (T := T_MR) (N := 13) hx hb hB in_MR hown hK hP 0 rfl rfl 5 (by decide) (hB _ wd_146) (fun _ h9 => h9) rfl d_MR_state_5 ?_
  refine va_getN (D := (dC, dI)) (ci := 3) (v := .ref (ad 13)) (C := R_Map) (T := T_Map) (N := 2) hx hb hB in_Map hown hK hP 11 rfl rfl 1 (by decide) ((va_Nw.use rfl (hG.1 _ (nw_at (i := 9) rfl)))) (fun _ h9 => h9) rfl d_MR_state_8 ?_
  refine lv_iload_n hx hb d_MR_state_11 rfl (lv_at hl 1 rfl) ?_
  obtain ⟨b_2, h⟩ := gI_some h
  refine va_iald hx hb hK hP 13 9 rfl rfl b_2 d_MR_state_12 ?_
  have h := Option.some.inj h
  subst h
  refine vx_ret ?_
  exact W.iret hx hb hr (fun t ht hW => ⟨⟨_, _, rfl, ⟨rfl, rfl⟩, AftW_mk hK hP hD ht hW⟩, hS.F ht⟩) hS.2.2 d_MR_state_13
def d_MR_fill (N : Nat) (x1 : Int32) (values : Nat → Int32) (states : Nat → Int32) : Option (Except String (Int32 × (Nat → Int32) × (Nat → Int32))) :=
 if x1 < 0 then some (.error "java/lang/IllegalArgumentException") else if x1 ≤ (2 : Int32) then (d_Map_fillUntold N x1 values states).bind (fun o3 => some (.ok (o3.1, o3.2.1, o3.2.2))) else some (.error "java/lang/IllegalArgumentException")
abbrev rm_MR_fill : Room := { frames := 6, cells := 1, slots := 6, locals := 82 }
set_option maxHeartbeats 4000000 in
set_option maxRecDepth 100000 in
theorem c_MR_fill (l : Launch) (hlt : l.stackTraces = false) (dC : Nat → ClassId) (dI : Nat → Nat → Nat) (tt : Nat → Nat) (ad : Nat → Nat) (cs : Nat → ClassId) (r1 : Nat → Nat) (rc1 : ClassId) (r2 : Nat → Nat) (rc2 : ClassId) (sz N : Nat) (x1 : Int32) (kind : Int32) (steps : Int32) (byteCount : Int32) (partCount : Int32) (stepsTaken : Int32) (hasRun : Int32) (lackedSteps : Int32) (decodings : Int32) (thrownDecodings : Int32) (bytes : Nat → Int32) (size : Int32) (count : Int32) (data : Nat → Int32) (made : Nat → Int32) (holds : Nat → Int32) (numbers : Nat → Int32) (lengths : Nat → Int32) (values : Nat → Int32) (states : Nat → Int32) (rows : Nat → Nat → Int32) (parts : Nat → Nat → Int32) (out : Except String (Int32 × (Nat → Int32) × (Nat → Int32))) (h : d_MR_fill N x1 values states = some out) :
    vx_Met l y_MR_fill (w_MR_fill) rm_MR_fill (va_Pc [.ref (ad 0), .int x1] (PreW (dC, dI) [((cs 1), .int), ((cs 2), .array .int), ((cs 4), .int), ((cs 5), .int), ((cs 7), .int), ((cs 8), .int), ((cs 9), .int), ((cs 10), .array .int), ((cs 12), .int), ((cs 13), .int), (rc1, .int), (rc2, .int)] ((x_MR ad cs r1 r2 kind steps byteCount partCount stepsTaken hasRun lackedSteps decodings thrownDecodings bytes size count data made holds numbers lengths values states) ++ (gw 8 r1 rc1 5 rows ++ gw 16 r2 rc2 6 parts)) sz tt)) (va_Qi (fun (r : Int32) (u : Int32 × (Nat → Int32) × (Nat → Int32)) => out = .ok u ∧ r = u.1) (fun u => AftW (dC, dI) [((cs 1), .int), ((cs 2), .array .int), ((cs 4), .int), ((cs 5), .int), ((cs 7), .int), ((cs 8), .int), ((cs 9), .int), ((cs 10), .array .int), ((cs 12), .int), ((cs 13), .int), (rc1, .int), (rc2, .int)] (va_A ((x_MR ad cs r1 r2 kind steps byteCount partCount stepsTaken hasRun lackedSteps decodings thrownDecodings bytes size count data made holds numbers lengths values states) ++ (gw 8 r1 rc1 5 rows ++ gw 16 r2 rc2 6 parts)) sz) ((x_MR ad cs r1 r2 kind steps byteCount partCount stepsTaken hasRun lackedSteps decodings thrownDecodings bytes size count data made holds numbers lengths u.2.1 u.2.2) ++ (gw 8 r1 rc1 5 rows ++ gw 16 r2 rc2 6 parts))) (va_A ((x_MR ad cs r1 r2 kind steps byteCount partCount stepsTaken hasRun lackedSteps decodings thrownDecodings bytes size count data made holds numbers lengths values states) ++ (gw 8 r1 rc1 5 rows ++ gw 16 r2 rc2 6 parts)) sz)) (vx_X (fun (_ : Unit) => True) (fun E _ t => out = .error E ∧ AftW (dC, dI) [((cs 1), .int), ((cs 2), .array .int), ((cs 4), .int), ((cs 5), .int), ((cs 7), .int), ((cs 8), .int), ((cs 9), .int), ((cs 10), .array .int), ((cs 12), .int), ((cs 13), .int), (rc1, .int), (rc2, .int)] (va_A ((x_MR ad cs r1 r2 kind steps byteCount partCount stepsTaken hasRun lackedSteps decodings thrownDecodings bytes size count data made holds numbers lengths values states) ++ (gw 8 r1 rc1 5 rows ++ gw 16 r2 rc2 6 parts)) sz) ((x_MR ad cs r1 r2 kind steps byteCount partCount stepsTaken hasRun lackedSteps decodings thrownDecodings bytes size count data made holds numbers lengths values states) ++ (gw 8 r1 rc1 5 rows ++ gw 16 r2 rc2 6 parts)) t) (va_A ((x_MR ad cs r1 r2 kind steps byteCount partCount stepsTaken hasRun lackedSteps decodings thrownDecodings bytes size count data made holds numbers lengths values states) ++ (gw 8 r1 rc1 5 rows ++ gw 16 r2 rc2 6 parts)) sz)) 1 6 (va_A ((x_MR ad cs r1 r2 kind steps byteCount partCount stepsTaken hasRun lackedSteps decodings thrownDecodings bytes size count data made holds numbers lengths values states) ++ (gw 8 r1 rc1 5 rows ++ gw 16 r2 rc2 6 parts)) sz) := by
  refine vx_ofW (cc := k_MR_fill) (maxL := 2) (ret := (some .int)) (by decide) rfl ?_
  intro p e s m args below meth c s₁ B hml hnt0 hv
  have hnt : ∀ {pc : Nat}, ∀ x ∈ c.exceptionTable.toList, covers x pc = false := fun x hx9 => (hnt0 x hx9).elim
  obtain ⟨rfl, hsz, hP, hK, hD0, hG⟩ := hv
  have hx := B.exec
  have hb := B.bytes
  have hr := B.returns
  have hts := atoms_spec (ws := (w_MR_fill)) B.pre
  have hB : ∀ w ∈ BIG, w.before _ s = true := fun w h9 => hts w (List.mem_cons_of_mem _ h9)
  have hown : s.vm.findClass R_MR = some m.cls := findClass_of_methodNamed B.named
  have hlocks := B.notSynchronized
  subst hsz
  have hD := hD0.self (sz := s.heap.size)
  generalize hAe : va_A ((x_MR ad cs r1 r2 kind steps byteCount partCount stepsTaken hasRun lackedSteps decodings thrownDecodings bytes size count data made holds numbers lengths values states) ++ (gw 8 r1 rc1 5 rows ++ gw 16 r2 rc2 6 parts)) s.heap.size = A at hD hG ⊢
  have hA : ∀ q : Nat, s.heap.size ≤ q → A q := fun q h => by rw [← hAe]; exact Or.inr h
  have hS : va_S A s.heap s.heap [] := va_S.rf
  have hl := lv_entry ([.ref (ad 0), .int x1]) (n := 2) (Nat.le_of_ble_eq_true rfl)
  rw [lg_entry_eq]
  generalize (lg_sl ([.ref (ad 0), .int x1]) ++ List.replicate (2 - (lg_sl ([.ref (ad 0), .int x1])).length) Slot.unset).toArray = ls at hl ⊢
  have hl : lv_has ls 2 [(0, .ref (ad 0)), (1, .int x1)] := hl
  unfold d_MR_fill at h
  refine lv_iload_n hx hb d_MR_fill_0 rfl (lv_at hl 1 rfl) ?_
  refine lv_if_lt (tgt := 9) hx hb d_MR_fill_1 (by decide) (fun c_1 => ?_) (fun c_1 => ?_)
  · have h := (if_pos c_1).symm.trans h
    have h := Option.some.inj h
    subst h
    obtain ⟨sa, hsa⟩ := GG_str hG (i := 7) rfl
    exact vx_throwS hx hb hlt (names := xnames) hown (by decide +kernel) (by decide +kernel) (hB _ wd_178) (hB _ wd_179) hsa (xat_0 hB hG) xgood_0 (GG_U hG) (GG_N hG) hS (hl.1.trans hml.symm) d_MR_fill_9 d_MR_fill_12 d_MR_fill_13 d_MR_fill_15 d_MR_fill_18 hnt (Nat.le_of_ble_eq_true rfl) (Nat.le_of_ble_eq_true rfl) (Nat.le_of_ble_eq_true rfl) (Nat.le_of_ble_eq_true rfl) hlocks (fun t9 hvm9 hz9 hk9 => ⟨(), trivial, ⟨rfl, AftW_th hK hP hD hz9 hk9 hvm9⟩, va_S_th hS hz9 hk9⟩) hS.2.2 (by decide) (by decide)
  · have h := (if_neg c_1).symm.trans h
    refine lv_iload_n hx hb d_MR_fill_4 rfl (lv_at hl 1 rfl) ?_
    refine lv_iconst (v := 2) hx hb d_MR_fill_5 (by decide) ?_
    refine lv_icmp_le (tgt := 19) hx hb d_MR_fill_6 (by decide) (fun c_2 => ?_) (fun c_2 => ?_)
    · have h := (if_pos c_2).symm.trans h
      refine lv_aload_n hx hb d_MR_fill_19 rfl (lv_at hl 0 rfl) ?_
      refine va_get (D := (dC, dI)) (ci := 0) (v := .ref (ad 11)) (C := R_MR) (T := T_MR) (N := 13) hx hb hB in_MR hown hK hP 0 rfl rfl 5 (by decide) (hB _ wd_146) (fun _ h9 => h9) rfl d_MR_fill_20 ?_
      refine lv_iload_n hx hb d_MR_fill_23 rfl (lv_at hl 1 rfl) ?_
      obtain ⟨o3, ho3, h⟩ := Option.bind_eq_some_iff.mp h
      have hKc := hK.sub (tys' := [((cs 12), .int), ((cs 13), .int)]) [8, 9] rfl
      have hPc := pl_P (cx := x_Map (sh 11 ad) (sh 11 cs) values states) hP [11, 12, 13] rfl
      have hDc := pl_D (cx := x_Map (sh 11 ad) (sh 11 cs) values states) hD [11, 12, 13] (by decide) rfl
      have hFc := pl_F (cx := x_Map (sh 11 ad) (sh 11 cs) values states) hD hS hA [11, 12, 13] rfl
      refine va_calli (va_runVN (As := [.int x1]) (rest := []) ⟨hx, hb, hml, hown, hB⟩ (c_Map_fillUntold l dC dI tt (sh 11 ad) (sh 11 cs) s.heap.size N x1 values states o3 ho3) (⟨va_cnB 1 hB (gW wd_182) rfl rfl rfl (hG.1 _ (nw_at (i := 30) rfl)) (hB _ wd_4) (by decide +kernel) ⟨Nat.le_of_ble_eq_true rfl, Nat.le_of_ble_eq_true rfl⟩, hB _ wd_181, hB _ wd_180⟩) ⟨PreW_blind, va_recv hKc hPc (ci := 3) (q0 := 0) rfl rfl, PreW_mk hKc hPc hDc hG hS hFc⟩ rfl rfl hl.1 rfl (lv_room (Nat.le_of_ble_eq_true rfl)) d_MR_fill_24 ⟨Nat.le_of_ble_eq_true rfl, Nat.le_of_ble_eq_true rfl⟩) hS (fun q _ h => hFc q h) hFc (fun r_3 u_3 t H1 locs ht hvm hw hB hz1 hk1 hS => ?_)
      have hw := hw.symm
      subst hw
      obtain ⟨hP1, hK1, hD1⟩ := hB
      rw [ht] at hP1
      obtain ⟨hP, hD⟩ := va_joinQ (wr := pick (x_MR ad cs r1 r2 kind steps byteCount partCount stepsTaken hasRun lackedSteps decodings thrownDecodings bytes size count data made holds numbers lengths values states) [0, 1, 2, 3, 4, 5, 6, 7, 8, 9, 10]) hP hD [11, 12, 13] [0, 1, 2, 3, 4, 5, 6, 7, 8, 9, 10] rfl rfl (by decide) (by decide) hk1 hFc hP1 hD1
      generalize H1 = H at hP hS ⊢
      have hP : va_P (dC, dI) vwCl ((x_MR ad cs r1 r2 kind steps byteCount partCount stepsTaken hasRun lackedSteps decodings thrownDecodings bytes size count data made holds numbers lengths o3.2.1 o3.2.2) ++ (gw 8 r1 rc1 5 rows ++ gw 16 r2 rc2 6 parts)) H := hP.part (cx := x_MR ad cs r1 r2 kind steps byteCount partCount stepsTaken hasRun lackedSteps decodings thrownDecodings bytes size count data made holds numbers lengths o3.2.1 o3.2.2) [0, 1, 2, 3, 4, 5, 6, 7, 8, 9, 10, 11, 12, 13] rfl
      have hD : va_D A ((x_MR ad cs r1 r2 kind steps byteCount partCount stepsTaken hasRun lackedSteps decodings thrownDecodings bytes size count data made holds numbers lengths o3.2.1 o3.2.2) ++ (gw 8 r1 rc1 5 rows ++ gw 16 r2 rc2 6 parts)) := hD.part (cx := x_MR ad cs r1 r2 kind steps byteCount partCount stepsTaken hasRun lackedSteps decodings thrownDecodings bytes size count data made holds numbers lengths o3.2.1 o3.2.2) [0, 1, 2, 3, 4, 5, 6, 7, 8, 9, 10, 11, 12, 13] (by decide) rfl
      refine W.widen (k := 1) (n := 6) (by decide) (by decide) ?_
      have h := Option.some.inj h
      subst h
      refine vx_ret ?_
      exact W.iret hx hb hr (fun t ht hW => ⟨⟨_, _, rfl, ⟨rfl, rfl⟩, AftW_mk hK hP hD ht hW⟩, hS.F ht⟩) hS.2.2 d_MR_fill_27
    · have h := (if_neg c_2).symm.trans h
      have h := Option.some.inj h
      subst h
      obtain ⟨sa, hsa⟩ := GG_str hG (i := 7) rfl
      exact vx_throwS hx hb hlt (names := xnames) hown (by decide +kernel) (by decide +kernel) (hB _ wd_178) (hB _ wd_179) hsa (xat_0 hB hG) xgood_0 (GG_U hG) (GG_N hG) hS (hl.1.trans hml.symm) d_MR_fill_9 d_MR_fill_12 d_MR_fill_13 d_MR_fill_15 d_MR_fill_18 hnt (Nat.le_of_ble_eq_true rfl) (Nat.le_of_ble_eq_true rfl) (Nat.le_of_ble_eq_true rfl) (Nat.le_of_ble_eq_true rfl) hlocks (fun t9 hvm9 hz9 hk9 => ⟨(), trivial, ⟨rfl, AftW_th hK hP hD hz9 hk9 hvm9⟩, va_S_th hS hz9 hk9⟩) hS.2.2 (by decide) (by decide)
def d_MR_told (N : Nat) (x1 : Int32) (kind : Int32) (steps : Int32) (byteCount : Int32) (partCount : Int32) (stepsTaken : Int32) (lackedSteps : Int32) (decodings : Int32) (thrownDecodings : Int32) (states : Nat → Int32) : Option (Int32) :=
 if x1 = 0 then some kind else if x1 = 1 then some steps else if x1 = 2 then some byteCount else if x1 = 3 then some partCount else if x1 = 4 then some stepsTaken else if x1 = 5 then if lackedSteps = 0 then some (0 : Int32) else some (1 : Int32) else if x1 = 6 then some decodings else if x1 = 7 then some thrownDecodings else if x1 = 8 then (d_Map_countSure N states).bind (fun o11 => some o11) else some (-1 : Int32)
abbrev rm_MR_told : Room := { frames := 1, cells := 0, slots := 0, locals := 22 }
set_option maxHeartbeats 4000000 in
set_option maxRecDepth 100000 in
theorem c_MR_told (l : Launch) (dC : Nat → ClassId) (dI : Nat → Nat → Nat) (tt : Nat → Nat) (ad : Nat → Nat) (cs : Nat → ClassId) (r1 : Nat → Nat) (rc1 : ClassId) (r2 : Nat → Nat) (rc2 : ClassId) (sz N : Nat) (x1 : Int32) (kind : Int32) (steps : Int32) (byteCount : Int32) (partCount : Int32) (stepsTaken : Int32) (hasRun : Int32) (lackedSteps : Int32) (decodings : Int32) (thrownDecodings : Int32) (bytes : Nat → Int32) (size : Int32) (count : Int32) (data : Nat → Int32) (made : Nat → Int32) (holds : Nat → Int32) (numbers : Nat → Int32) (lengths : Nat → Int32) (values : Nat → Int32) (states : Nat → Int32) (rows : Nat → Nat → Int32) (parts : Nat → Nat → Int32) (out : Int32) (h : d_MR_told N x1 kind steps byteCount partCount stepsTaken lackedSteps decodings thrownDecodings states = some out) :
    Met l y_MR_told (w_MR_told) rm_MR_told (va_Pc [.ref (ad 0), .int x1] (PreW (dC, dI) [((cs 1), .int), ((cs 2), .array .int), ((cs 4), .int), ((cs 5), .int), ((cs 7), .int), ((cs 8), .int), ((cs 9), .int), ((cs 10), .array .int), ((cs 12), .int), ((cs 13), .int), (rc1, .int), (rc2, .int)] ((x_MR ad cs r1 r2 kind steps byteCount partCount stepsTaken hasRun lackedSteps decodings thrownDecodings bytes size count data made holds numbers lengths values states) ++ (gw 8 r1 rc1 5 rows ++ gw 16 r2 rc2 6 parts)) sz tt)) (va_Qi (fun (r : Int32) (_ : Unit) => r = out) (fun _ => AftW (dC, dI) [((cs 1), .int), ((cs 2), .array .int), ((cs 4), .int), ((cs 5), .int), ((cs 7), .int), ((cs 8), .int), ((cs 9), .int), ((cs 10), .array .int), ((cs 12), .int), ((cs 13), .int), (rc1, .int), (rc2, .int)] (va_A ((x_MR ad cs r1 r2 kind steps byteCount partCount stepsTaken hasRun lackedSteps decodings thrownDecodings bytes size count data made holds numbers lengths values states) ++ (gw 8 r1 rc1 5 rows ++ gw 16 r2 rc2 6 parts)) sz) ((x_MR ad cs r1 r2 kind steps byteCount partCount stepsTaken hasRun lackedSteps decodings thrownDecodings bytes size count data made holds numbers lengths values states) ++ (gw 8 r1 rc1 5 rows ++ gw 16 r2 rc2 6 parts))) (va_A ((x_MR ad cs r1 r2 kind steps byteCount partCount stepsTaken hasRun lackedSteps decodings thrownDecodings bytes size count data made holds numbers lengths values states) ++ (gw 8 r1 rc1 5 rows ++ gw 16 r2 rc2 6 parts)) sz)) 0 0 (va_A ((x_MR ad cs r1 r2 kind steps byteCount partCount stepsTaken hasRun lackedSteps decodings thrownDecodings bytes size count data made holds numbers lengths values states) ++ (gw 8 r1 rc1 5 rows ++ gw 16 r2 rc2 6 parts)) sz) := by
  refine Met.ofW (cc := k_MR_told) (maxL := 2) (ret := (some .int)) (by decide) rfl ?_
  intro p e s m args below meth c s₁ B hml hv
  obtain ⟨rfl, hsz, hP, hK, hD0, hG⟩ := hv
  have hx := B.exec
  have hb := B.bytes
  have hr := B.returns
  have hts := atoms_spec (ws := (w_MR_told)) B.pre
  have hB : ∀ w ∈ BIG, w.before _ s = true := fun w h9 => hts w (List.mem_cons_of_mem _ h9)
  have hown : s.vm.findClass R_MR = some m.cls := findClass_of_methodNamed B.named
  have hlocks := B.notSynchronized
  subst hsz
  have hD := hD0.self (sz := s.heap.size)
  generalize hAe : va_A ((x_MR ad cs r1 r2 kind steps byteCount partCount stepsTaken hasRun lackedSteps decodings thrownDecodings bytes size count data made holds numbers lengths values states) ++ (gw 8 r1 rc1 5 rows ++ gw 16 r2 rc2 6 parts)) s.heap.size = A at hD hG ⊢
  have hA : ∀ q : Nat, s.heap.size ≤ q → A q := fun q h => by rw [← hAe]; exact Or.inr h
  have hS : va_S A s.heap s.heap [] := va_S.rf
  have hl := lv_entry ([.ref (ad 0), .int x1]) (n := 2) (Nat.le_of_ble_eq_true rfl)
  rw [lg_entry_eq]
  generalize (lg_sl ([.ref (ad 0), .int x1]) ++ List.replicate (2 - (lg_sl ([.ref (ad 0), .int x1])).length) Slot.unset).toArray = ls at hl ⊢
  have hl : lv_has ls 2 [(0, .ref (ad 0)), (1, .int x1)] := hl
  unfold d_MR_told at h
  refine lv_iload_n hx hb d_MR_told_0 rfl (lv_at hl 1 rfl) ?_
  by_cases c_1 : x1 = 0
  · have h := (if_pos c_1).symm.trans h
    refine lv_tableIn (tgt := 52) hx hb d_MR_told_1 (by rw [c_1]; decide) (by rw [c_1]; decide) (by first | (rw [c_1]; done) | (rw [c_1]; rfl)) (by decide) ?_
    refine lv_aload_n hx hb d_MR_told_52 rfl (lv_at hl 0 rfl) ?_
    refine va_get (D := (dC, dI)) (ci := 0) (v := .int kind) (C := R_MR) (T := T_MR) (N := 13) hx hb hB in_MR hown hK hP 0 rfl rfl 0 (by decide) (hB _ wd_113) (fun _ h9 => h9) rfl d_MR_told_53 ?_
    have h := Option.some.inj h
    subst h
    exact W.iret hx hb hr (fun t ht hW => ⟨⟨_, (), rfl, rfl, AftW_mk hK hP hD ht hW⟩, hS.F ht⟩) hS.2.2 d_MR_told_56
  have h := (if_neg c_1).symm.trans h
  by_cases c_2 : x1 = 1
  · have h := (if_pos c_2).symm.trans h
    refine lv_tableIn (tgt := 57) hx hb d_MR_told_1 (by rw [c_2]; decide) (by rw [c_2]; decide) (by first | (rw [c_2]; done) | (rw [c_2]; rfl)) (by decide) ?_
    refine lv_aload_n hx hb d_MR_told_57 rfl (lv_at hl 0 rfl) ?_
    refine va_get (D := (dC, dI)) (ci := 0) (v := .int steps) (C := R_MR) (T := T_MR) (N := 13) hx hb hB in_MR hown hK hP 0 rfl rfl 1 (by decide) (hB _ wd_117) (fun _ h9 => h9) rfl d_MR_told_58 ?_
    have h := Option.some.inj h
    subst h
    exact W.iret hx hb hr (fun t ht hW => ⟨⟨_, (), rfl, rfl, AftW_mk hK hP hD ht hW⟩, hS.F ht⟩) hS.2.2 d_MR_told_61
  have h := (if_neg c_2).symm.trans h
  by_cases c_3 : x1 = 2
  · have h := (if_pos c_3).symm.trans h
    refine lv_tableIn (tgt := 62) hx hb d_MR_told_1 (by rw [c_3]; decide) (by rw [c_3]; decide) (by first | (rw [c_3]; done) | (rw [c_3]; rfl)) (by decide) ?_
    refine lv_aload_n hx hb d_MR_told_62 rfl (lv_at hl 0 rfl) ?_
    refine va_get (D := (dC, dI)) (ci := 0) (v := .int byteCount) (C := R_MR) (T := T_MR) (N := 13) hx hb hB in_MR hown hK hP 0 rfl rfl 6 (by decide) (hB _ wd_110) (fun _ h9 => h9) rfl d_MR_told_63 ?_
    have h := Option.some.inj h
    subst h
    exact W.iret hx hb hr (fun t ht hW => ⟨⟨_, (), rfl, rfl, AftW_mk hK hP hD ht hW⟩, hS.F ht⟩) hS.2.2 d_MR_told_66
  have h := (if_neg c_3).symm.trans h
  by_cases c_4 : x1 = 3
  · have h := (if_pos c_4).symm.trans h
    refine lv_tableIn (tgt := 67) hx hb d_MR_told_1 (by rw [c_4]; decide) (by rw [c_4]; decide) (by first | (rw [c_4]; done) | (rw [c_4]; rfl)) (by decide) ?_
    refine lv_aload_n hx hb d_MR_told_67 rfl (lv_at hl 0 rfl) ?_
    refine va_get (D := (dC, dI)) (ci := 0) (v := .int partCount) (C := R_MR) (T := T_MR) (N := 13) hx hb hB in_MR hown hK hP 0 rfl rfl 7 (by decide) (hB _ wd_99) (fun _ h9 => h9) rfl d_MR_told_68 ?_
    have h := Option.some.inj h
    subst h
    exact W.iret hx hb hr (fun t ht hW => ⟨⟨_, (), rfl, rfl, AftW_mk hK hP hD ht hW⟩, hS.F ht⟩) hS.2.2 d_MR_told_71
  have h := (if_neg c_4).symm.trans h
  by_cases c_5 : x1 = 4
  · have h := (if_pos c_5).symm.trans h
    refine lv_tableIn (tgt := 72) hx hb d_MR_told_1 (by rw [c_5]; decide) (by rw [c_5]; decide) (by first | (rw [c_5]; done) | (rw [c_5]; rfl)) (by decide) ?_
    refine lv_aload_n hx hb d_MR_told_72 rfl (lv_at hl 0 rfl) ?_
    refine va_get (D := (dC, dI)) (ci := 0) (v := .int stepsTaken) (C := R_MR) (T := T_MR) (N := 13) hx hb hB in_MR hown hK hP 0 rfl rfl 8 (by decide) (hB _ wd_116) (fun _ h9 => h9) rfl d_MR_told_73 ?_
    have h := Option.some.inj h
    subst h
    exact W.iret hx hb hr (fun t ht hW => ⟨⟨_, (), rfl, rfl, AftW_mk hK hP hD ht hW⟩, hS.F ht⟩) hS.2.2 d_MR_told_76
  have h := (if_neg c_5).symm.trans h
  by_cases c_6 : x1 = 5
  · have h := (if_pos c_6).symm.trans h
    refine lv_tableIn (tgt := 77) hx hb d_MR_told_1 (by rw [c_6]; decide) (by rw [c_6]; decide) (by first | (rw [c_6]; done) | (rw [c_6]; rfl)) (by decide) ?_
    refine lv_aload_n hx hb d_MR_told_77 rfl (lv_at hl 0 rfl) ?_
    refine va_get (D := (dC, dI)) (ci := 0) (v := .int lackedSteps) (C := R_MR) (T := T_MR) (N := 13) hx hb hB in_MR hown hK hP 0 rfl rfl 10 (by decide) (hB _ wd_150) (fun _ h9 => h9) rfl d_MR_told_78 ?_
    refine lv_if_eq (tgt := 88) hx hb d_MR_told_81 (by decide) (fun c_7 => ?_) (fun c_7 => ?_)
    · have h := (if_pos c_7).symm.trans h
      refine lv_iconst (v := 0) hx hb d_MR_told_88 (by decide) ?_
      have h := Option.some.inj h
      subst h
      exact W.iret hx hb hr (fun t ht hW => ⟨⟨_, (), rfl, rfl, AftW_mk hK hP hD ht hW⟩, hS.F ht⟩) hS.2.2 d_MR_told_89
    · have h := (if_neg c_7).symm.trans h
      refine lv_iconst (v := 1) hx hb d_MR_told_84 (by decide) ?_
      refine lv_goto (tgt := 89) hx hb d_MR_told_85 (by decide) ?_
      have h := Option.some.inj h
      subst h
      exact W.iret hx hb hr (fun t ht hW => ⟨⟨_, (), rfl, rfl, AftW_mk hK hP hD ht hW⟩, hS.F ht⟩) hS.2.2 d_MR_told_89
  have h := (if_neg c_6).symm.trans h
  by_cases c_8 : x1 = 6
  · have h := (if_pos c_8).symm.trans h
    refine lv_tableIn (tgt := 90) hx hb d_MR_told_1 (by rw [c_8]; decide) (by rw [c_8]; decide) (by first | (rw [c_8]; done) | (rw [c_8]; rfl)) (by decide) ?_
    refine lv_aload_n hx hb d_MR_told_90 rfl (lv_at hl 0 rfl) ?_
    refine va_get (D := (dC, dI)) (ci := 0) (v := .int decodings) (C := R_MR) (T := T_MR) (N := 13) hx hb hB in_MR hown hK hP 0 rfl rfl 11 (by decide) (hB _ wd_162) (fun _ h9 => h9) rfl d_MR_told_91 ?_
    have h := Option.some.inj h
    subst h
    exact W.iret hx hb hr (fun t ht hW => ⟨⟨_, (), rfl, rfl, AftW_mk hK hP hD ht hW⟩, hS.F ht⟩) hS.2.2 d_MR_told_94
  have h := (if_neg c_8).symm.trans h
  by_cases c_9 : x1 = 7
  · have h := (if_pos c_9).symm.trans h
    refine lv_tableIn (tgt := 95) hx hb d_MR_told_1 (by rw [c_9]; decide) (by rw [c_9]; decide) (by first | (rw [c_9]; done) | (rw [c_9]; rfl)) (by decide) ?_
    refine lv_aload_n hx hb d_MR_told_95 rfl (lv_at hl 0 rfl) ?_
    refine va_get (D := (dC, dI)) (ci := 0) (v := .int thrownDecodings) (C := R_MR) (T := T_MR) (N := 13) hx hb hB in_MR hown hK hP 0 rfl rfl 12 (by decide) (hB _ wd_166) (fun _ h9 => h9) rfl d_MR_told_96 ?_
    have h := Option.some.inj h
    subst h
    exact W.iret hx hb hr (fun t ht hW => ⟨⟨_, (), rfl, rfl, AftW_mk hK hP hD ht hW⟩, hS.F ht⟩) hS.2.2 d_MR_told_99
  have h := (if_neg c_9).symm.trans h
  by_cases c_10 : x1 = 8
  · have h := (if_pos c_10).symm.trans h
    refine lv_tableIn (tgt := 100) hx hb d_MR_told_1 (by rw [c_10]; decide) (by rw [c_10]; decide) (by first | (rw [c_10]; done) | (rw [c_10]; rfl)) (by decide) ?_
    refine lv_aload_n hx hb d_MR_told_100 rfl (lv_at hl 0 rfl) ?_
    refine va_get (D := (dC, dI)) (ci := 0) (v := .ref (ad 11)) (C := R_MR) (T := T_MR) (N := 13) hx hb hB in_MR hown hK hP 0 rfl rfl 5 (by decide) (hB _ wd_146) (fun _ h9 => h9) rfl d_MR_told_101 ?_
    obtain ⟨o11, ho11, h⟩ := Option.bind_eq_some_iff.mp h
    have hKc := hK.sub (tys' := [((cs 12), .int), ((cs 13), .int)]) [8, 9] rfl
    have hPc := pl_P (cx := x_Map (sh 11 ad) (sh 11 cs) values states) hP [11, 12, 13] rfl
    have hDc := pl_D (cx := x_Map (sh 11 ad) (sh 11 cs) values states) hD [11, 12, 13] (by decide) rfl
    have hFc := pl_F (cx := x_Map (sh 11 ad) (sh 11 cs) values states) hD hS hA [11, 12, 13] rfl
    refine va_calli (va_runVN (As := []) (rest := []) ⟨hx, hb, hml, hown, hB⟩ (c_Map_countSure l dC dI tt (sh 11 ad) (sh 11 cs) s.heap.size N values states o11 ho11) (⟨va_cnB 0 hB (gW wd_185) rfl rfl rfl (hG.1 _ (nw_at (i := 11) rfl)) (hB _ wd_4) (by decide +kernel) ⟨Nat.le_of_ble_eq_true rfl, Nat.le_of_ble_eq_true rfl⟩, hB _ wd_184, hB _ wd_183⟩) ⟨PreW_blind, va_recv hKc hPc (ci := 3) (q0 := 0) rfl rfl, PreW_mk hKc hPc hDc hG hS hFc⟩ rfl rfl hl.1 rfl (lv_room (Nat.le_of_ble_eq_true rfl)) d_MR_told_104 ⟨Nat.le_of_ble_eq_true rfl, Nat.le_of_ble_eq_true rfl⟩) hS (fun q _ h => hFc q h) hFc (fun r_11 u_11 t H1 locs ht hvm hw hB hz1 hk1 hS => ?_)
    have hw := hw.symm
    subst hw
    obtain ⟨hP1, hK1, hD1⟩ := hB
    rw [ht] at hP1
    obtain ⟨hP, hD⟩ := va_joinQ (wr := pick (x_MR ad cs r1 r2 kind steps byteCount partCount stepsTaken hasRun lackedSteps decodings thrownDecodings bytes size count data made holds numbers lengths values states) [0, 1, 2, 3, 4, 5, 6, 7, 8, 9, 10]) hP hD [11, 12, 13] [0, 1, 2, 3, 4, 5, 6, 7, 8, 9, 10] rfl rfl (by decide) (by decide) hk1 hFc hP1 hD1
    generalize H1 = H at hP hS ⊢
    have hP : va_P (dC, dI) vwCl ((x_MR ad cs r1 r2 kind steps byteCount partCount stepsTaken hasRun lackedSteps decodings thrownDecodings bytes size count data made holds numbers lengths values states) ++ (gw 8 r1 rc1 5 rows ++ gw 16 r2 rc2 6 parts)) H := hP.part (cx := x_MR ad cs r1 r2 kind steps byteCount partCount stepsTaken hasRun lackedSteps decodings thrownDecodings bytes size count data made holds numbers lengths values states) [0, 1, 2, 3, 4, 5, 6, 7, 8, 9, 10, 11, 12, 13] rfl
    have hD : va_D A ((x_MR ad cs r1 r2 kind steps byteCount partCount stepsTaken hasRun lackedSteps decodings thrownDecodings bytes size count data made holds numbers lengths values states) ++ (gw 8 r1 rc1 5 rows ++ gw 16 r2 rc2 6 parts)) := hD.part (cx := x_MR ad cs r1 r2 kind steps byteCount partCount stepsTaken hasRun lackedSteps decodings thrownDecodings bytes size count data made holds numbers lengths values states) [0, 1, 2, 3, 4, 5, 6, 7, 8, 9, 10, 11, 12, 13] (by decide) rfl
    have h := Option.some.inj h
    subst h
    exact W.iret hx hb hr (fun t ht hW => ⟨⟨_, (), rfl, rfl, AftW_mk hK hP hD ht hW⟩, hS.F ht⟩) hS.2.2 d_MR_told_107
  have h := (if_neg c_10).symm.trans h
  refine lv_tableOut (tgt := 108) hx hb d_MR_told_1 (by have e0 := lv_neT (a := 0) c_1 (by decide); have e1 := lv_neT (a := 1) c_2 (by decide); have e2 := lv_neT (a := 2) c_3 (by decide); have e3 := lv_neT (a := 3) c_4 (by decide); have e4 := lv_neT (a := 4) c_5 (by decide); have e5 := lv_neT (a := 5) c_6 (by decide); have e6 := lv_neT (a := 6) c_8 (by decide); have e7 := lv_neT (a := 7) c_9 (by decide); have e8 := lv_neT (a := 8) c_10 (by decide); omega) (by decide) ?_
  refine lv_iconst (v := (-1)) hx hb d_MR_told_108 (by decide) ?_
  have h := Option.some.inj h
  subst h
  exact W.iret hx hb hr (fun t ht hW => ⟨⟨_, (), rfl, rfl, AftW_mk hK hP hD ht hW⟩, hS.F ht⟩) hS.2.2 d_MR_told_109
def d_MR_clear (N : Nat) (byteCount : Int32) (partCount : Int32) (stepsTaken : Int32) (hasRun : Int32) (lackedSteps : Int32) (values : Nat → Int32) (states : Nat → Int32) : Option (Int32 × Int32 × Int32 × Int32 × Int32 × (Nat → Int32) × (Nat → Int32)) :=
 (d_MR_forgetParts N partCount hasRun).bind (fun o1 => (d_Map_forgetAll N values states).bind (fun o2 => some ((0 : Int32), o1.1, (0 : Int32), o1.2, (0 : Int32), o2.1, o2.2)))
abbrev rm_MR_clear : Room := { frames := 1, cells := 0, slots := 0, locals := 21 }
set_option maxHeartbeats 4000000 in
set_option maxRecDepth 100000 in
theorem c_MR_clear (l : Launch) (dC : Nat → ClassId) (dI : Nat → Nat → Nat) (tt : Nat → Nat) (ad : Nat → Nat) (cs : Nat → ClassId) (r1 : Nat → Nat) (rc1 : ClassId) (r2 : Nat → Nat) (rc2 : ClassId) (sz N : Nat) (kind : Int32) (steps : Int32) (byteCount : Int32) (partCount : Int32) (stepsTaken : Int32) (hasRun : Int32) (lackedSteps : Int32) (decodings : Int32) (thrownDecodings : Int32) (bytes : Nat → Int32) (size : Int32) (count : Int32) (data : Nat → Int32) (made : Nat → Int32) (holds : Nat → Int32) (numbers : Nat → Int32) (lengths : Nat → Int32) (values : Nat → Int32) (states : Nat → Int32) (rows : Nat → Nat → Int32) (parts : Nat → Nat → Int32) (out : Int32 × Int32 × Int32 × Int32 × Int32 × (Nat → Int32) × (Nat → Int32)) (h : d_MR_clear N byteCount partCount stepsTaken hasRun lackedSteps values states = some out) :
    Met l y_MR_clear (w_MR_clear) rm_MR_clear (va_Pc [.ref (ad 0)] (PreW (dC, dI) [((cs 1), .int), ((cs 2), .array .int), ((cs 4), .int), ((cs 5), .int), ((cs 7), .int), ((cs 8), .int), ((cs 9), .int), ((cs 10), .array .int), ((cs 12), .int), ((cs 13), .int), (rc1, .int), (rc2, .int)] ((x_MR ad cs r1 r2 kind steps byteCount partCount stepsTaken hasRun lackedSteps decodings thrownDecodings bytes size count data made holds numbers lengths values states) ++ (gw 8 r1 rc1 5 rows ++ gw 16 r2 rc2 6 parts)) sz tt)) (va_Qv (fun (_ : Unit) => True) (fun _ => AftW (dC, dI) [((cs 1), .int), ((cs 2), .array .int), ((cs 4), .int), ((cs 5), .int), ((cs 7), .int), ((cs 8), .int), ((cs 9), .int), ((cs 10), .array .int), ((cs 12), .int), ((cs 13), .int), (rc1, .int), (rc2, .int)] (va_A ((x_MR ad cs r1 r2 kind steps byteCount partCount stepsTaken hasRun lackedSteps decodings thrownDecodings bytes size count data made holds numbers lengths values states) ++ (gw 8 r1 rc1 5 rows ++ gw 16 r2 rc2 6 parts)) sz) ((x_MR ad cs r1 r2 kind steps out.1 out.2.1 out.2.2.1 out.2.2.2.1 out.2.2.2.2.1 decodings thrownDecodings bytes size count data made holds numbers lengths out.2.2.2.2.2.1 out.2.2.2.2.2.2) ++ (gw 8 r1 rc1 5 rows ++ gw 16 r2 rc2 6 parts))) (va_A ((x_MR ad cs r1 r2 kind steps byteCount partCount stepsTaken hasRun lackedSteps decodings thrownDecodings bytes size count data made holds numbers lengths values states) ++ (gw 8 r1 rc1 5 rows ++ gw 16 r2 rc2 6 parts)) sz)) 0 0 (va_A ((x_MR ad cs r1 r2 kind steps byteCount partCount stepsTaken hasRun lackedSteps decodings thrownDecodings bytes size count data made holds numbers lengths values states) ++ (gw 8 r1 rc1 5 rows ++ gw 16 r2 rc2 6 parts)) sz) := by
  refine Met.ofW (cc := k_MR_clear) (maxL := 1) (ret := none) (by decide) rfl ?_
  intro p e s m args below meth c s₁ B hml hv
  obtain ⟨rfl, hsz, hP, hK, hD0, hG⟩ := hv
  have hx := B.exec
  have hb := B.bytes
  have hr := B.returns
  have hts := atoms_spec (ws := (w_MR_clear)) B.pre
  have hB : ∀ w ∈ BIG, w.before _ s = true := fun w h9 => hts w (List.mem_cons_of_mem _ h9)
  have hown : s.vm.findClass R_MR = some m.cls := findClass_of_methodNamed B.named
  have hlocks := B.notSynchronized
  subst hsz
  have hD := hD0.self (sz := s.heap.size)
  generalize hAe : va_A ((x_MR ad cs r1 r2 kind steps byteCount partCount stepsTaken hasRun lackedSteps decodings thrownDecodings bytes size count data made holds numbers lengths values states) ++ (gw 8 r1 rc1 5 rows ++ gw 16 r2 rc2 6 parts)) s.heap.size = A at hD hG ⊢
  have hA : ∀ q : Nat, s.heap.size ≤ q → A q := fun q h => by rw [← hAe]; exact Or.inr h
  have hS : va_S A s.heap s.heap [] := va_S.rf
  have hl := lv_entry ([.ref (ad 0)]) (n := 1) (Nat.le_of_ble_eq_true rfl)
  rw [lg_entry_eq]
  generalize (lg_sl ([.ref (ad 0)]) ++ List.replicate (1 - (lg_sl ([.ref (ad 0)])).length) Slot.unset).toArray = ls at hl ⊢
  have hl : lv_has ls 1 [(0, .ref (ad 0))] := hl
  unfold d_MR_clear at h
  refine lv_aload_n hx hb d_MR_clear_0 rfl (lv_at hl 0 rfl) ?_
  refine lv_iconst (v := 0) hx hb d_MR_clear_1 (by decide) ?_
  refine va_put (D := (dC, dI)) (ci := 0) (v := .int (0 : Int32)) (ty := .int) (C := R_MR) (T := T_MR) (N := 13) hx hb hB in_MR ty_MR tyok_MR nd_MR hown hK hP hD hS 0 rfl rfl 6 (by decide) (hB _ wd_110) (fun _ h9 => h9) rfl (by decide +kernel) rfl rfl (Nat.le_of_ble_eq_true rfl) d_MR_clear_2 (fun H locs hP hD hS => ?_)
  have hP : va_P (dC, dI) vwCl ((x_MR ad cs r1 r2 kind steps (0 : Int32) partCount stepsTaken hasRun lackedSteps decodings thrownDecodings bytes size count data made holds numbers lengths values states) ++ (gw 8 r1 rc1 5 rows ++ gw 16 r2 rc2 6 parts)) H := hP
  have hD : va_D A ((x_MR ad cs r1 r2 kind steps (0 : Int32) partCount stepsTaken hasRun lackedSteps decodings thrownDecodings bytes size count data made holds numbers lengths values states) ++ (gw 8 r1 rc1 5 rows ++ gw 16 r2 rc2 6 parts)) := hD
  refine lv_aload_n hx hb d_MR_clear_5 rfl (lv_at hl 0 rfl) ?_
  obtain ⟨o1, ho1, h⟩ := Option.bind_eq_some_iff.mp h
  have hKc := hK.sub (tys' := [((cs 1), .int), ((cs 2), .array .int), ((cs 4), .int), ((cs 5), .int), ((cs 7), .int), ((cs 8), .int), ((cs 9), .int), ((cs 10), .array .int), ((cs 12), .int), ((cs 13), .int), (rc1, .int), (rc2, .int)]) [0, 1, 2, 3, 4, 5, 6, 7, 8, 9, 10, 11] rfl
  have hPc := hP.part (cx := x_MR ad cs r1 r2 kind steps (0 : Int32) partCount stepsTaken hasRun lackedSteps decodings thrownDecodings bytes size count data made holds numbers lengths values states) [0, 1, 2, 3, 4, 5, 6, 7, 8, 9, 10, 11, 12, 13] rfl
  have hDc := hD.part (cx := x_MR ad cs r1 r2 kind steps (0 : Int32) partCount stepsTaken hasRun lackedSteps decodings thrownDecodings bytes size count data made holds numbers lengths values states) [0, 1, 2, 3, 4, 5, 6, 7, 8, 9, 10, 11, 12, 13] (by decide) rfl
  have hFc := va_freeP (cx := x_MR ad cs r1 r2 kind steps (0 : Int32) partCount stepsTaken hasRun lackedSteps decodings thrownDecodings bytes size count data made holds numbers lengths values states) hD hS hA [0, 1, 2, 3, 4, 5, 6, 7, 8, 9, 10, 11, 12, 13] rfl
  refine va_callv (va_runV (As := []) (rest := []) ⟨hx, hb, hml, hown, hB⟩ (c_MR_forgetParts l dC dI tt ad cs r1 rc1 r2 rc2 H.size N kind steps (0 : Int32) partCount stepsTaken hasRun lackedSteps decodings thrownDecodings bytes size count data made holds numbers lengths values states rows parts o1 ho1) (cwV 0 hB (gV wd_145 wd_143 wd_142 wd_105 wd_144) rfl rfl rfl (by decide +kernel) ⟨Nat.le_of_ble_eq_true rfl, Nat.le_of_ble_eq_true rfl⟩) ⟨PreW_blind, va_recv hKc hPc (ci := 0) (q0 := 0) rfl rfl, PreW_mk hKc hPc hDc hG hS hFc⟩ rfl rfl hl.1 rfl (lv_room (Nat.le_of_ble_eq_true rfl)) d_MR_clear_6 ⟨Nat.le_of_ble_eq_true rfl, Nat.le_of_ble_eq_true rfl⟩) hS (fun q _ h => hFc q h) hFc (fun u_1 t H1 locs ht hvm hw hB hz1 hk1 hS => ?_)
  obtain ⟨hP1, hK1, hD1⟩ := hB
  rw [ht] at hP1
  obtain ⟨hP, hD⟩ := va_joinP (wr := pick (x_MR ad cs r1 r2 kind steps (0 : Int32) partCount stepsTaken hasRun lackedSteps decodings thrownDecodings bytes size count data made holds numbers lengths values states) []) hP hD [0, 1, 2, 3, 4, 5, 6, 7, 8, 9, 10, 11, 12, 13] [] rfl rfl (by decide) (by decide) hk1 hFc hP1 hD1
  generalize H1 = H at hP hS ⊢
  have hP : va_P (dC, dI) vwCl ((x_MR ad cs r1 r2 kind steps (0 : Int32) o1.1 stepsTaken o1.2 lackedSteps decodings thrownDecodings bytes size count data made holds numbers lengths values states) ++ (gw 8 r1 rc1 5 rows ++ gw 16 r2 rc2 6 parts)) H := hP.part (cx := x_MR ad cs r1 r2 kind steps (0 : Int32) o1.1 stepsTaken o1.2 lackedSteps decodings thrownDecodings bytes size count data made holds numbers lengths values states) [0, 1, 2, 3, 4, 5, 6, 7, 8, 9, 10, 11, 12, 13] rfl
  have hD : va_D A ((x_MR ad cs r1 r2 kind steps (0 : Int32) o1.1 stepsTaken o1.2 lackedSteps decodings thrownDecodings bytes size count data made holds numbers lengths values states) ++ (gw 8 r1 rc1 5 rows ++ gw 16 r2 rc2 6 parts)) := hD.part (cx := x_MR ad cs r1 r2 kind steps (0 : Int32) o1.1 stepsTaken o1.2 lackedSteps decodings thrownDecodings bytes size count data made holds numbers lengths values states) [0, 1, 2, 3, 4, 5, 6, 7, 8, 9, 10, 11, 12, 13] (by decide) rfl
  refine lv_aload_n hx hb d_MR_clear_9 rfl (lv_at hl 0 rfl) ?_
  refine lv_iconst (v := 0) hx hb d_MR_clear_10 (by decide) ?_
  refine va_put (D := (dC, dI)) (ci := 0) (v := .int (0 : Int32)) (ty := .int) (C := R_MR) (T := T_MR) (N := 13) hx hb hB in_MR ty_MR tyok_MR nd_MR hown hK hP hD hS 0 rfl rfl 8 (by decide) (hB _ wd_116) (fun _ h9 => h9) rfl (by decide +kernel) rfl rfl (Nat.le_of_ble_eq_true rfl) d_MR_clear_11 (fun H locs hP hD hS => ?_)
  have hP : va_P (dC, dI) vwCl ((x_MR ad cs r1 r2 kind steps (0 : Int32) o1.1 (0 : Int32) o1.2 lackedSteps decodings thrownDecodings bytes size count data made holds numbers lengths values states) ++ (gw 8 r1 rc1 5 rows ++ gw 16 r2 rc2 6 parts)) H := hP
  have hD : va_D A ((x_MR ad cs r1 r2 kind steps (0 : Int32) o1.1 (0 : Int32) o1.2 lackedSteps decodings thrownDecodings bytes size count data made holds numbers lengths values states) ++ (gw 8 r1 rc1 5 rows ++ gw 16 r2 rc2 6 parts)) := hD
  refine lv_aload_n hx hb d_MR_clear_14 rfl (lv_at hl 0 rfl) ?_
  refine lv_iconst (v := 0) hx hb d_MR_clear_15 (by decide) ?_
  refine va_put (D := (dC, dI)) (ci := 0) (v := .int (0 : Int32)) (ty := .boolean) (C := R_MR) (T := T_MR) (N := 13) hx hb hB in_MR ty_MR tyok_MR nd_MR hown hK hP hD hS 0 rfl rfl 10 (by decide) (hB _ wd_150) (fun _ h9 => h9) rfl (by decide +kernel) rfl rfl (Nat.le_of_ble_eq_true rfl) d_MR_clear_16 (fun H locs hP hD hS => ?_)
  have hP : va_P (dC, dI) vwCl ((x_MR ad cs r1 r2 kind steps (0 : Int32) o1.1 (0 : Int32) o1.2 (0 : Int32) decodings thrownDecodings bytes size count data made holds numbers lengths values states) ++ (gw 8 r1 rc1 5 rows ++ gw 16 r2 rc2 6 parts)) H := hP
  have hD : va_D A ((x_MR ad cs r1 r2 kind steps (0 : Int32) o1.1 (0 : Int32) o1.2 (0 : Int32) decodings thrownDecodings bytes size count data made holds numbers lengths values states) ++ (gw 8 r1 rc1 5 rows ++ gw 16 r2 rc2 6 parts)) := hD
  refine lv_aload_n hx hb d_MR_clear_19 rfl (lv_at hl 0 rfl) ?_
  refine va_get (D := (dC, dI)) (ci := 0) (v := .ref (ad 11)) (C := R_MR) (T := T_MR) (N := 13) hx hb hB in_MR hown hK hP 0 rfl rfl 5 (by decide) (hB _ wd_146) (fun _ h9 => h9) rfl d_MR_clear_20 ?_
  obtain ⟨o2, ho2, h⟩ := Option.bind_eq_some_iff.mp h
  have hKc := hK.sub (tys' := [((cs 12), .int), ((cs 13), .int)]) [8, 9] rfl
  have hPc := pl_P (cx := x_Map (sh 11 ad) (sh 11 cs) values states) hP [11, 12, 13] rfl
  have hDc := pl_D (cx := x_Map (sh 11 ad) (sh 11 cs) values states) hD [11, 12, 13] (by decide) rfl
  have hFc := pl_F (cx := x_Map (sh 11 ad) (sh 11 cs) values states) hD hS hA [11, 12, 13] rfl
  refine va_callv (va_runVN (As := []) (rest := []) ⟨hx, hb, hml, hown, hB⟩ (c_Map_forgetAll l dC dI tt (sh 11 ad) (sh 11 cs) H.size N values states o2 ho2) (⟨va_cnB 0 hB (gW wd_149) rfl rfl rfl (hG.1 _ (nw_at (i := 10) rfl)) (hB _ wd_4) (by decide +kernel) ⟨Nat.le_of_ble_eq_true rfl, Nat.le_of_ble_eq_true rfl⟩, hB _ wd_148, hB _ wd_147⟩) ⟨PreW_blind, va_recv hKc hPc (ci := 3) (q0 := 0) rfl rfl, PreW_mk hKc hPc hDc hG hS hFc⟩ rfl rfl hl.1 rfl (lv_room (Nat.le_of_ble_eq_true rfl)) d_MR_clear_23 ⟨Nat.le_of_ble_eq_true rfl, Nat.le_of_ble_eq_true rfl⟩) hS (fun q _ h => hFc q h) hFc (fun u_2 t H1 locs ht hvm hw hB hz1 hk1 hS => ?_)
  obtain ⟨hP1, hK1, hD1⟩ := hB
  rw [ht] at hP1
  obtain ⟨hP, hD⟩ := va_joinQ (wr := pick (x_MR ad cs r1 r2 kind steps (0 : Int32) o1.1 (0 : Int32) o1.2 (0 : Int32) decodings thrownDecodings bytes size count data made holds numbers lengths values states) [0, 1, 2, 3, 4, 5, 6, 7, 8, 9, 10]) hP hD [11, 12, 13] [0, 1, 2, 3, 4, 5, 6, 7, 8, 9, 10] rfl rfl (by decide) (by decide) hk1 hFc hP1 hD1
  generalize H1 = H at hP hS ⊢
  have hP : va_P (dC, dI) vwCl ((x_MR ad cs r1 r2 kind steps (0 : Int32) o1.1 (0 : Int32) o1.2 (0 : Int32) decodings thrownDecodings bytes size count data made holds numbers lengths o2.1 o2.2) ++ (gw 8 r1 rc1 5 rows ++ gw 16 r2 rc2 6 parts)) H := hP.part (cx := x_MR ad cs r1 r2 kind steps (0 : Int32) o1.1 (0 : Int32) o1.2 (0 : Int32) decodings thrownDecodings bytes size count data made holds numbers lengths o2.1 o2.2) [0, 1, 2, 3, 4, 5, 6, 7, 8, 9, 10, 11, 12, 13] rfl
  have hD : va_D A ((x_MR ad cs r1 r2 kind steps (0 : Int32) o1.1 (0 : Int32) o1.2 (0 : Int32) decodings thrownDecodings bytes size count data made holds numbers lengths o2.1 o2.2) ++ (gw 8 r1 rc1 5 rows ++ gw 16 r2 rc2 6 parts)) := hD.part (cx := x_MR ad cs r1 r2 kind steps (0 : Int32) o1.1 (0 : Int32) o1.2 (0 : Int32) decodings thrownDecodings bytes size count data made holds numbers lengths o2.1 o2.2) [0, 1, 2, 3, 4, 5, 6, 7, 8, 9, 10, 11, 12, 13] (by decide) rfl
  have h := Option.some.inj h
  subst h
  exact W.vret hx hb hr (fun t ht hW => ⟨⟨(), rfl, trivial, AftW_mk hK hP hD ht hW⟩, hS.F ht⟩) hS.2.2 d_MR_clear_26
def d_MR_feed_L46 (N : Nat) (y46_1 : Int64) (y46_3 : Int32) : Nat → Int32 → Int32 → Int32 → Int32 → (Nat → Int32) → Option (Int32 × Int32 × Int32 × (Nat → Int32))
  | 0, _, _, _, _, _ => none
  | n + 1, y46_4, byteCount_46, partCount_46, hasRun_46, bytes_46 => if y46_3 ≤ y46_4 then some (byteCount_46, partCount_46, hasRun_46, bytes_46) else gI (byteCount_46 + y46_4) 1200 (d_MR_feed_L46 N y46_1 y46_3 n (y46_4 + 1) byteCount_46 partCount_46 hasRun_46 (upd bytes_46 (byteCount_46 + y46_4).toNatClampNeg (((y46_1 >>> (((8 : Int32) * y46_4).toInt64 &&& 63)).toInt32) &&& (255 : Int32))))
def d_MR_feed (N : Nat) (x1 : Int64) (x3 : Int32) (byteCount : Int32) (partCount : Int32) (hasRun : Int32) (bytes : Nat → Int32) : Option (Except String (Int32 × Int32 × Int32 × Int32 × (Nat → Int32))) :=
 if x3 < (1 : Int32) then some (.error "java/lang/IllegalArgumentException") else if x3 ≤ (8 : Int32) then if x3 ≤ ((1200 : Int32) - byteCount) then (d_MR_feed_L46 N x1 x3 N (0 : Int32) byteCount partCount hasRun bytes).bind (fun s46 => (d_MR_forgetParts N s46.2.1 s46.2.2.1).bind (fun o4 => some (.ok (s46.1 + x3, s46.1 + x3, o4.1, o4.2, s46.2.2.2)))) else some (.error "java/lang/UnsupportedOperationException") else some (.error "java/lang/IllegalArgumentException")
abbrev rm_MR_feed : Room := { frames := 6, cells := 1, slots := 6, locals := 82 }
set_option maxHeartbeats 4000000 in
set_option maxRecDepth 100000 in
theorem c_MR_feed (l : Launch) (hlt : l.stackTraces = false) (dC : Nat → ClassId) (dI : Nat → Nat → Nat) (tt : Nat → Nat) (ad : Nat → Nat) (cs : Nat → ClassId) (r1 : Nat → Nat) (rc1 : ClassId) (r2 : Nat → Nat) (rc2 : ClassId) (sz N : Nat) (x1 : Int64) (x3 : Int32) (kind : Int32) (steps : Int32) (byteCount : Int32) (partCount : Int32) (stepsTaken : Int32) (hasRun : Int32) (lackedSteps : Int32) (decodings : Int32) (thrownDecodings : Int32) (bytes : Nat → Int32) (size : Int32) (count : Int32) (data : Nat → Int32) (made : Nat → Int32) (holds : Nat → Int32) (numbers : Nat → Int32) (lengths : Nat → Int32) (values : Nat → Int32) (states : Nat → Int32) (rows : Nat → Nat → Int32) (parts : Nat → Nat → Int32) (out : Except String (Int32 × Int32 × Int32 × Int32 × (Nat → Int32))) (h : d_MR_feed N x1 x3 byteCount partCount hasRun bytes = some out) :
    vx_Met l y_MR_feed (w_MR_feed) rm_MR_feed (va_Pc [.ref (ad 0), .long x1, .int x3] (PreW (dC, dI) [((cs 1), .int), ((cs 2), .array .int), ((cs 4), .int), ((cs 5), .int), ((cs 7), .int), ((cs 8), .int), ((cs 9), .int), ((cs 10), .array .int), ((cs 12), .int), ((cs 13), .int), (rc1, .int), (rc2, .int)] ((x_MR ad cs r1 r2 kind steps byteCount partCount stepsTaken hasRun lackedSteps decodings thrownDecodings bytes size count data made holds numbers lengths values states) ++ (gw 8 r1 rc1 5 rows ++ gw 16 r2 rc2 6 parts)) sz tt)) (va_Qi (fun (r : Int32) (u : Int32 × Int32 × Int32 × Int32 × (Nat → Int32)) => out = .ok u ∧ r = u.1) (fun u => AftW (dC, dI) [((cs 1), .int), ((cs 2), .array .int), ((cs 4), .int), ((cs 5), .int), ((cs 7), .int), ((cs 8), .int), ((cs 9), .int), ((cs 10), .array .int), ((cs 12), .int), ((cs 13), .int), (rc1, .int), (rc2, .int)] (va_A ((x_MR ad cs r1 r2 kind steps byteCount partCount stepsTaken hasRun lackedSteps decodings thrownDecodings bytes size count data made holds numbers lengths values states) ++ (gw 8 r1 rc1 5 rows ++ gw 16 r2 rc2 6 parts)) sz) ((x_MR ad cs r1 r2 kind steps u.2.1 u.2.2.1 stepsTaken u.2.2.2.1 lackedSteps decodings thrownDecodings u.2.2.2.2 size count data made holds numbers lengths values states) ++ (gw 8 r1 rc1 5 rows ++ gw 16 r2 rc2 6 parts))) (va_A ((x_MR ad cs r1 r2 kind steps byteCount partCount stepsTaken hasRun lackedSteps decodings thrownDecodings bytes size count data made holds numbers lengths values states) ++ (gw 8 r1 rc1 5 rows ++ gw 16 r2 rc2 6 parts)) sz)) (vx_X (fun (_ : Unit) => True) (fun E _ t => out = .error E ∧ AftW (dC, dI) [((cs 1), .int), ((cs 2), .array .int), ((cs 4), .int), ((cs 5), .int), ((cs 7), .int), ((cs 8), .int), ((cs 9), .int), ((cs 10), .array .int), ((cs 12), .int), ((cs 13), .int), (rc1, .int), (rc2, .int)] (va_A ((x_MR ad cs r1 r2 kind steps byteCount partCount stepsTaken hasRun lackedSteps decodings thrownDecodings bytes size count data made holds numbers lengths values states) ++ (gw 8 r1 rc1 5 rows ++ gw 16 r2 rc2 6 parts)) sz) ((x_MR ad cs r1 r2 kind steps byteCount partCount stepsTaken hasRun lackedSteps decodings thrownDecodings bytes size count data made holds numbers lengths values states) ++ (gw 8 r1 rc1 5 rows ++ gw 16 r2 rc2 6 parts)) t) (va_A ((x_MR ad cs r1 r2 kind steps byteCount partCount stepsTaken hasRun lackedSteps decodings thrownDecodings bytes size count data made holds numbers lengths values states) ++ (gw 8 r1 rc1 5 rows ++ gw 16 r2 rc2 6 parts)) sz)) 1 6 (va_A ((x_MR ad cs r1 r2 kind steps byteCount partCount stepsTaken hasRun lackedSteps decodings thrownDecodings bytes size count data made holds numbers lengths values states) ++ (gw 8 r1 rc1 5 rows ++ gw 16 r2 rc2 6 parts)) sz) := by
  refine vx_ofW (cc := k_MR_feed) (maxL := 5) (ret := (some .int)) (by decide) rfl ?_
  intro p e s m args below meth c s₁ B hml hnt0 hv
  have hnt : ∀ {pc : Nat}, ∀ x ∈ c.exceptionTable.toList, covers x pc = false := fun x hx9 => (hnt0 x hx9).elim
  obtain ⟨rfl, hsz, hP, hK, hD0, hG⟩ := hv
  have hx := B.exec
  have hb := B.bytes
  have hr := B.returns
  have hts := atoms_spec (ws := (w_MR_feed)) B.pre
  have hB : ∀ w ∈ BIG, w.before _ s = true := fun w h9 => hts w (List.mem_cons_of_mem _ h9)
  have hown : s.vm.findClass R_MR = some m.cls := findClass_of_methodNamed B.named
  have hlocks := B.notSynchronized
  subst hsz
  have hD := hD0.self (sz := s.heap.size)
  generalize hAe : va_A ((x_MR ad cs r1 r2 kind steps byteCount partCount stepsTaken hasRun lackedSteps decodings thrownDecodings bytes size count data made holds numbers lengths values states) ++ (gw 8 r1 rc1 5 rows ++ gw 16 r2 rc2 6 parts)) s.heap.size = A at hD hG ⊢
  have hA : ∀ q : Nat, s.heap.size ≤ q → A q := fun q h => by rw [← hAe]; exact Or.inr h
  have hS : va_S A s.heap s.heap [] := va_S.rf
  have hl := lv_entry ([.ref (ad 0), .long x1, .int x3]) (n := 5) (Nat.le_of_ble_eq_true rfl)
  rw [lg_entry_eq]
  generalize (lg_sl ([.ref (ad 0), .long x1, .int x3]) ++ List.replicate (5 - (lg_sl ([.ref (ad 0), .long x1, .int x3])).length) Slot.unset).toArray = ls at hl ⊢
  have hl : lv_has ls 5 [(0, .ref (ad 0)), (1, .long x1), (3, .int x3)] := hl
  unfold d_MR_feed at h
  refine lv_iload_n hx hb d_MR_feed_0 rfl (lv_at hl 2 rfl) ?_
  refine lv_iconst (v := 1) hx hb d_MR_feed_1 (by decide) ?_
  refine lv_icmp_lt (tgt := 11) hx hb d_MR_feed_2 (by decide) (fun c_1 => ?_) (fun c_1 => ?_)
  · have h := (if_pos c_1).symm.trans h
    have h := Option.some.inj h
    subst h
    obtain ⟨sa, hsa⟩ := GG_str hG (i := 0) rfl
    exact vx_throwS hx hb hlt (names := xnames) hown (by decide +kernel) (by decide +kernel) (hB _ wd_178) (hB _ wd_179) hsa (xat_0 hB hG) xgood_0 (GG_U hG) (GG_N hG) hS (hl.1.trans hml.symm) d_MR_feed_11 d_MR_feed_14 d_MR_feed_15 d_MR_feed_17 d_MR_feed_20 hnt (Nat.le_of_ble_eq_true rfl) (Nat.le_of_ble_eq_true rfl) (Nat.le_of_ble_eq_true rfl) (Nat.le_of_ble_eq_true rfl) hlocks (fun t9 hvm9 hz9 hk9 => ⟨(), trivial, ⟨rfl, AftW_th hK hP hD hz9 hk9 hvm9⟩, va_S_th hS hz9 hk9⟩) hS.2.2 (by decide) (by decide)
  · have h := (if_neg c_1).symm.trans h
    refine lv_iload_n hx hb d_MR_feed_5 rfl (lv_at hl 2 rfl) ?_
    refine lv_bipush (v := 8) hx hb d_MR_feed_6 (by decide) ?_
    refine lv_icmp_le (tgt := 21) hx hb d_MR_feed_8 (by decide) (fun c_2 => ?_) (fun c_2 => ?_)
    · have h := (if_pos c_2).symm.trans h
      refine lv_iload_n hx hb d_MR_feed_21 rfl (lv_at hl 2 rfl) ?_
      refine lv_sipush (v := 1200) hx hb d_MR_feed_22 (by decide) ?_
      refine lv_aload_n hx hb d_MR_feed_25 rfl (lv_at hl 0 rfl) ?_
      refine va_get (D := (dC, dI)) (ci := 0) (v := .int byteCount) (C := R_MR) (T := T_MR) (N := 13) hx hb hB in_MR hown hK hP 0 rfl rfl 6 (by decide) (hB _ wd_110) (fun _ h9 => h9) rfl d_MR_feed_26 ?_
      refine lv_isub hx hb d_MR_feed_29 ?_
      refine lv_icmp_le (tgt := 43) hx hb d_MR_feed_30 (by decide) (fun c_3 => ?_) (fun c_3 => ?_)
      · have h := (if_pos c_3).symm.trans h
        refine lv_iconst (v := 0) hx hb d_MR_feed_43 (by decide) ?_
        refine lv_istore (lv' := [(4, .int (0 : Int32)), (0, .ref (ad 0)), (1, .long x1), (3, .int x3)]) hx hb d_MR_feed_44 hl (by decide) rfl (fun ls hl => ?_)
        obtain ⟨s46, hs46, h⟩ := Option.bind_eq_some_iff.mp h
        have X46 : ∀ (H : Heap) (locs : List Loc) (ls : Array Slot), lv_has ls 5 [(0, .ref (ad 0)), (3, .int x3)] → va_P (dC, dI) vwCl ((x_MR ad cs r1 r2 kind steps s46.1 s46.2.1 stepsTaken s46.2.2.1 lackedSteps decodings thrownDecodings s46.2.2.2 size count data made holds numbers lengths values states) ++ (gw 8 r1 rc1 5 rows ++ gw 16 r2 rc2 6 parts)) H → va_D A ((x_MR ad cs r1 r2 kind steps s46.1 s46.2.1 stepsTaken s46.2.2.1 lackedSteps decodings thrownDecodings s46.2.2.2 size count data made holds numbers lengths values states) ++ (gw 8 r1 rc1 5 rows ++ gw 16 r2 rc2 6 parts)) → va_S A s.heap H locs → W p l e (headSpec (w_MR_feed) rm_MR_feed).room s m ([.ref (ad 0), .long x1, .int x3] : List Value).toArray below meth c H locs 0 0 (vx_MQ below (va_Qi (fun (r : Int32) (u : Int32 × Int32 × Int32 × Int32 × (Nat → Int32)) => out = .ok u ∧ r = u.1) (fun u => AftW (dC, dI) [((cs 1), .int), ((cs 2), .array .int), ((cs 4), .int), ((cs 5), .int), ((cs 7), .int), ((cs 8), .int), ((cs 9), .int), ((cs 10), .array .int), ((cs 12), .int), ((cs 13), .int), (rc1, .int), (rc2, .int)] A ((x_MR ad cs r1 r2 kind steps u.2.1 u.2.2.1 stepsTaken u.2.2.2.1 lackedSteps decodings thrownDecodings u.2.2.2.2 size count data made holds numbers lengths values states) ++ (gw 8 r1 rc1 5 rows ++ gw 16 r2 rc2 6 parts))) A) (vx_X (fun (_ : Unit) => True) (fun E _ t => out = .error E ∧ AftW (dC, dI) [((cs 1), .int), ((cs 2), .array .int), ((cs 4), .int), ((cs 5), .int), ((cs 7), .int), ((cs 8), .int), ((cs 9), .int), ((cs 10), .array .int), ((cs 12), .int), ((cs 13), .int), (rc1, .int), (rc2, .int)] A ((x_MR ad cs r1 r2 kind steps byteCount partCount stepsTaken hasRun lackedSteps decodings thrownDecodings bytes size count data made holds numbers lengths values states) ++ (gw 8 r1 rc1 5 rows ++ gw 16 r2 rc2 6 parts)) t) A) ([.ref (ad 0), .long x1, .int x3] : List Value).toArray s 1 6 A) (F0 m 82 ls []) := by
          intro H locs ls hl hP hD hS
          refine lv_aload_n hx hb d_MR_feed_82 rfl (lv_at hl 0 rfl) ?_
          refine lv_dup hx hb d_MR_feed_83 rfl ?_
          refine va_get (D := (dC, dI)) (ci := 0) (v := .int s46.1) (C := R_MR) (T := T_MR) (N := 13) hx hb hB in_MR hown hK hP 0 rfl rfl 6 (by decide) (hB _ wd_110) (fun _ h9 => h9) rfl d_MR_feed_84 ?_
          refine lv_iload_n hx hb d_MR_feed_87 rfl (lv_at hl 1 rfl) ?_
          refine lv_iadd hx hb d_MR_feed_88 ?_
          refine va_put (D := (dC, dI)) (ci := 0) (v := .int (s46.1 + x3)) (ty := .int) (C := R_MR) (T := T_MR) (N := 13) hx hb hB in_MR ty_MR tyok_MR nd_MR hown hK hP hD hS 0 rfl rfl 6 (by decide) (hB _ wd_110) (fun _ h9 => h9) rfl (by decide +kernel) rfl rfl (Nat.le_of_ble_eq_true rfl) d_MR_feed_89 (fun H locs hP hD hS => ?_)
          have hP : va_P (dC, dI) vwCl ((x_MR ad cs r1 r2 kind steps (s46.1 + x3) s46.2.1 stepsTaken s46.2.2.1 lackedSteps decodings thrownDecodings s46.2.2.2 size count data made holds numbers lengths values states) ++ (gw 8 r1 rc1 5 rows ++ gw 16 r2 rc2 6 parts)) H := hP
          have hD : va_D A ((x_MR ad cs r1 r2 kind steps (s46.1 + x3) s46.2.1 stepsTaken s46.2.2.1 lackedSteps decodings thrownDecodings s46.2.2.2 size count data made holds numbers lengths values states) ++ (gw 8 r1 rc1 5 rows ++ gw 16 r2 rc2 6 parts)) := hD
          refine lv_aload_n hx hb d_MR_feed_92 rfl (lv_at hl 0 rfl) ?_
          obtain ⟨o4, ho4, h⟩ := Option.bind_eq_some_iff.mp h
          have hKc := hK.sub (tys' := [((cs 1), .int), ((cs 2), .array .int), ((cs 4), .int), ((cs 5), .int), ((cs 7), .int), ((cs 8), .int), ((cs 9), .int), ((cs 10), .array .int), ((cs 12), .int), ((cs 13), .int), (rc1, .int), (rc2, .int)]) [0, 1, 2, 3, 4, 5, 6, 7, 8, 9, 10, 11] rfl
          have hPc := hP.part (cx := x_MR ad cs r1 r2 kind steps (s46.1 + x3) s46.2.1 stepsTaken s46.2.2.1 lackedSteps decodings thrownDecodings s46.2.2.2 size count data made holds numbers lengths values states) [0, 1, 2, 3, 4, 5, 6, 7, 8, 9, 10, 11, 12, 13] rfl
          have hDc := hD.part (cx := x_MR ad cs r1 r2 kind steps (s46.1 + x3) s46.2.1 stepsTaken s46.2.2.1 lackedSteps decodings thrownDecodings s46.2.2.2 size count data made holds numbers lengths values states) [0, 1, 2, 3, 4, 5, 6, 7, 8, 9, 10, 11, 12, 13] (by decide) rfl
          have hFc := va_freeP (cx := x_MR ad cs r1 r2 kind steps (s46.1 + x3) s46.2.1 stepsTaken s46.2.2.1 lackedSteps decodings thrownDecodings s46.2.2.2 size count data made holds numbers lengths values states) hD hS hA [0, 1, 2, 3, 4, 5, 6, 7, 8, 9, 10, 11, 12, 13] rfl
          refine va_callv (va_runV (As := []) (rest := []) ⟨hx, hb, hml, hown, hB⟩ (c_MR_forgetParts l dC dI tt ad cs r1 rc1 r2 rc2 H.size N kind steps (s46.1 + x3) s46.2.1 stepsTaken s46.2.2.1 lackedSteps decodings thrownDecodings s46.2.2.2 size count data made holds numbers lengths values states rows parts o4 ho4) (cwV 0 hB (gV wd_145 wd_143 wd_142 wd_105 wd_144) rfl rfl rfl (by decide +kernel) ⟨Nat.le_of_ble_eq_true rfl, Nat.le_of_ble_eq_true rfl⟩) ⟨PreW_blind, va_recv hKc hPc (ci := 0) (q0 := 0) rfl rfl, PreW_mk hKc hPc hDc hG hS hFc⟩ rfl rfl hl.1 rfl (lv_room (Nat.le_of_ble_eq_true rfl)) d_MR_feed_93 ⟨Nat.le_of_ble_eq_true rfl, Nat.le_of_ble_eq_true rfl⟩) hS (fun q _ h => hFc q h) hFc (fun u_4 t H1 locs ht hvm hw hB hz1 hk1 hS => ?_)
          obtain ⟨hP1, hK1, hD1⟩ := hB
          rw [ht] at hP1
          obtain ⟨hP, hD⟩ := va_joinP (wr := pick (x_MR ad cs r1 r2 kind steps (s46.1 + x3) s46.2.1 stepsTaken s46.2.2.1 lackedSteps decodings thrownDecodings s46.2.2.2 size count data made holds numbers lengths values states) []) hP hD [0, 1, 2, 3, 4, 5, 6, 7, 8, 9, 10, 11, 12, 13] [] rfl rfl (by decide) (by decide) hk1 hFc hP1 hD1
          generalize H1 = H at hP hS ⊢
          have hP : va_P (dC, dI) vwCl ((x_MR ad cs r1 r2 kind steps (s46.1 + x3) o4.1 stepsTaken o4.2 lackedSteps decodings thrownDecodings s46.2.2.2 size count data made holds numbers lengths values states) ++ (gw 8 r1 rc1 5 rows ++ gw 16 r2 rc2 6 parts)) H := hP.part (cx := x_MR ad cs r1 r2 kind steps (s46.1 + x3) o4.1 stepsTaken o4.2 lackedSteps decodings thrownDecodings s46.2.2.2 size count data made holds numbers lengths values states) [0, 1, 2, 3, 4, 5, 6, 7, 8, 9, 10, 11, 12, 13] rfl
          have hD : va_D A ((x_MR ad cs r1 r2 kind steps (s46.1 + x3) o4.1 stepsTaken o4.2 lackedSteps decodings thrownDecodings s46.2.2.2 size count data made holds numbers lengths values states) ++ (gw 8 r1 rc1 5 rows ++ gw 16 r2 rc2 6 parts)) := hD.part (cx := x_MR ad cs r1 r2 kind steps (s46.1 + x3) o4.1 stepsTaken o4.2 lackedSteps decodings thrownDecodings s46.2.2.2 size count data made holds numbers lengths values states) [0, 1, 2, 3, 4, 5, 6, 7, 8, 9, 10, 11, 12, 13] (by decide) rfl
          refine lv_aload_n hx hb d_MR_feed_96 rfl (lv_at hl 0 rfl) ?_
          refine va_get (D := (dC, dI)) (ci := 0) (v := .int (s46.1 + x3)) (C := R_MR) (T := T_MR) (N := 13) hx hb hB in_MR hown hK hP 0 rfl rfl 6 (by decide) (hB _ wd_110) (fun _ h9 => h9) rfl d_MR_feed_97 ?_
          refine W.widen (k := 1) (n := 6) (by decide) (by decide) ?_
          have h := Option.some.inj h
          subst h
          refine vx_ret ?_
          exact W.iret hx hb hr (fun t ht hW => ⟨⟨_, _, rfl, ⟨rfl, rfl⟩, AftW_mk hK hP hD ht hW⟩, hS.F ht⟩) hS.2.2 d_MR_feed_100
        have L46 : ∀ (n : Nat) (y46_4 : Int32) (byteCount_46 : Int32) (partCount_46 : Int32) (hasRun_46 : Int32) (bytes_46 : Nat → Int32) (H : Heap) (locs : List Loc) (ls : Array Slot), lv_has ls 5 [(0, .ref (ad 0)), (1, .long x1), (3, .int x3), (4, .int y46_4)] → va_P (dC, dI) vwCl ((x_MR ad cs r1 r2 kind steps byteCount_46 partCount_46 stepsTaken hasRun_46 lackedSteps decodings thrownDecodings bytes_46 size count data made holds numbers lengths values states) ++ (gw 8 r1 rc1 5 rows ++ gw 16 r2 rc2 6 parts)) H → va_D A ((x_MR ad cs r1 r2 kind steps byteCount_46 partCount_46 stepsTaken hasRun_46 lackedSteps decodings thrownDecodings bytes_46 size count data made holds numbers lengths values states) ++ (gw 8 r1 rc1 5 rows ++ gw 16 r2 rc2 6 parts)) → va_S A s.heap H locs → d_MR_feed_L46 N x1 x3 n y46_4 byteCount_46 partCount_46 hasRun_46 bytes_46 = some s46 → W p l e (headSpec (w_MR_feed) rm_MR_feed).room s m ([.ref (ad 0), .long x1, .int x3] : List Value).toArray below meth c H locs 0 0 (vx_MQ below (va_Qi (fun (r : Int32) (u : Int32 × Int32 × Int32 × Int32 × (Nat → Int32)) => out = .ok u ∧ r = u.1) (fun u => AftW (dC, dI) [((cs 1), .int), ((cs 2), .array .int), ((cs 4), .int), ((cs 5), .int), ((cs 7), .int), ((cs 8), .int), ((cs 9), .int), ((cs 10), .array .int), ((cs 12), .int), ((cs 13), .int), (rc1, .int), (rc2, .int)] A ((x_MR ad cs r1 r2 kind steps u.2.1 u.2.2.1 stepsTaken u.2.2.2.1 lackedSteps decodings thrownDecodings u.2.2.2.2 size count data made holds numbers lengths values states) ++ (gw 8 r1 rc1 5 rows ++ gw 16 r2 rc2 6 parts))) A) (vx_X (fun (_ : Unit) => True) (fun E _ t => out = .error E ∧ AftW (dC, dI) [((cs 1), .int), ((cs 2), .array .int), ((cs 4), .int), ((cs 5), .int), ((cs 7), .int), ((cs 8), .int), ((cs 9), .int), ((cs 10), .array .int), ((cs 12), .int), ((cs 13), .int), (rc1, .int), (rc2, .int)] A ((x_MR ad cs r1 r2 kind steps byteCount partCount stepsTaken hasRun lackedSteps decodings thrownDecodings bytes size count data made holds numbers lengths values states) ++ (gw 8 r1 rc1 5 rows ++ gw 16 r2 rc2 6 parts)) t) A) ([.ref (ad 0), .long x1, .int x3] : List Value).toArray s 1 6 A) (F0 m 46 ls []) := by
          intro n
          induction n with
          | zero =>
            intro y46_4 byteCount_46 partCount_46 hasRun_46 bytes_46 H locs ls hl hP hD hS h
            rw [d_MR_feed_L46] at h
            cases h
          | succ n ih =>
            intro y46_4 byteCount_46 partCount_46 hasRun_46 bytes_46 H locs ls hl hP hD hS h
            rw [d_MR_feed_L46] at h
            refine lv_iload hx hb d_MR_feed_46 (lv_at hl 3 rfl) ?_
            refine lv_iload_n hx hb d_MR_feed_48 rfl (lv_at hl 2 rfl) ?_
            refine lv_icmp_ge (tgt := 82) hx hb d_MR_feed_49 (by decide) (fun c_5 => ?_) (fun c_5 => ?_)
            · have h := (if_pos c_5).symm.trans h
              have h := Option.some.inj h
              subst h
              exact X46 H locs ls (lv_sub hl [0, 2] rfl) hP hD hS
            · have h := (if_neg c_5).symm.trans h
              refine lv_aload_n hx hb d_MR_feed_52 rfl (lv_at hl 0 rfl) ?_
              refine va_get (D := (dC, dI)) (ci := 0) (v := .ref (ad 1)) (C := R_MR) (T := T_MR) (N := 13) hx hb hB in_MR hown hK hP 0 rfl rfl 2 (by decide) (hB _ wd_111) (fun _ h9 => h9) rfl d_MR_feed_53 ?_
              refine lv_aload_n hx hb d_MR_feed_56 rfl (lv_at hl 0 rfl) ?_
              refine va_get (D := (dC, dI)) (ci := 0) (v := .int byteCount_46) (C := R_MR) (T := T_MR) (N := 13) hx hb hB in_MR hown hK hP 0 rfl rfl 6 (by decide) (hB _ wd_110) (fun _ h9 => h9) rfl d_MR_feed_57 ?_
              refine lv_iload hx hb d_MR_feed_60 (lv_at hl 3 rfl) ?_
              refine lv_iadd hx hb d_MR_feed_62 ?_
              refine lv_lload_n hx hb d_MR_feed_63 rfl (lv_at hl 1 rfl) ?_
              refine lv_bipush (v := 8) hx hb d_MR_feed_64 (by decide) ?_
              refine lv_iload hx hb d_MR_feed_66 (lv_at hl 3 rfl) ?_
              refine lv_imul hx hb d_MR_feed_68 ?_
              refine lv_lshr hx hb d_MR_feed_69 rfl ?_
              refine lv_l2i hx hb d_MR_feed_70 rfl ?_
              refine lv_sipush (v := 255) hx hb d_MR_feed_71 (by decide) ?_
              refine lv_iand hx hb d_MR_feed_74 ?_
              obtain ⟨b_6, h⟩ := gI_some h
              refine va_iast hx hb hK hP hD hS 1 0 rfl rfl b_6 d_MR_feed_75 (fun H locs hP hD hS => ?_)
              have hP : va_P (dC, dI) vwCl ((x_MR ad cs r1 r2 kind steps byteCount_46 partCount_46 stepsTaken hasRun_46 lackedSteps decodings thrownDecodings (upd bytes_46 (byteCount_46 + y46_4).toNatClampNeg (((x1 >>> (((8 : Int32) * y46_4).toInt64 &&& 63)).toInt32) &&& (255 : Int32))) size count data made holds numbers lengths values states) ++ (gw 8 r1 rc1 5 rows ++ gw 16 r2 rc2 6 parts)) H := hP
              have hD : va_D A ((x_MR ad cs r1 r2 kind steps byteCount_46 partCount_46 stepsTaken hasRun_46 lackedSteps decodings thrownDecodings (upd bytes_46 (byteCount_46 + y46_4).toNatClampNeg (((x1 >>> (((8 : Int32) * y46_4).toInt64 &&& 63)).toInt32) &&& (255 : Int32))) size count data made holds numbers lengths values states) ++ (gw 8 r1 rc1 5 rows ++ gw 16 r2 rc2 6 parts)) := hD
              refine lv_iinc (v := y46_4 + 1) (lv' := [(4, .int (y46_4 + 1)), (0, .ref (ad 0)), (1, .long x1), (3, .int x3)]) hx hb d_MR_feed_76 hl (k := 3) rfl rfl (by decide) rfl (fun ls hl => ?_)
              refine lv_goto (tgt := 46) hx hb d_MR_feed_79 (by decide) ?_
              exact ih (y46_4 + 1) byteCount_46 partCount_46 hasRun_46 (upd bytes_46 (byteCount_46 + y46_4).toNatClampNeg (((x1 >>> (((8 : Int32) * y46_4).toInt64 &&& 63)).toInt32) &&& (255 : Int32))) H locs ls (lv_sub hl [1, 2, 3, 0] rfl) hP hD hS h
        exact L46 N (0 : Int32) byteCount partCount hasRun bytes _ _ ls (lv_sub hl [1, 2, 3, 0] rfl) hP hD hS hs46
      · have h := (if_neg c_3).symm.trans h
        have h := Option.some.inj h
        subst h
        obtain ⟨sa, hsa⟩ := GG_str hG (i := 1) rfl
        exact vx_throwS hx hb hlt (names := xnames) hown (by decide +kernel) (by decide +kernel) (hB _ wd_186) (hB _ wd_187) hsa (xat_1 hB hG) xgood_1 (GG_U hG) (GG_N hG) hS (hl.1.trans hml.symm) d_MR_feed_33 d_MR_feed_36 d_MR_feed_37 d_MR_feed_39 d_MR_feed_42 hnt (Nat.le_of_ble_eq_true rfl) (Nat.le_of_ble_eq_true rfl) (Nat.le_of_ble_eq_true rfl) (Nat.le_of_ble_eq_true rfl) hlocks (fun t9 hvm9 hz9 hk9 => ⟨(), trivial, ⟨rfl, AftW_th hK hP hD hz9 hk9 hvm9⟩, va_S_th hS hz9 hk9⟩) hS.2.2 (by decide) (by decide)
    · have h := (if_neg c_2).symm.trans h
      have h := Option.some.inj h
      subst h
      obtain ⟨sa, hsa⟩ := GG_str hG (i := 0) rfl
      exact vx_throwS hx hb hlt (names := xnames) hown (by decide +kernel) (by decide +kernel) (hB _ wd_178) (hB _ wd_179) hsa (xat_0 hB hG) xgood_0 (GG_U hG) (GG_N hG) hS (hl.1.trans hml.symm) d_MR_feed_11 d_MR_feed_14 d_MR_feed_15 d_MR_feed_17 d_MR_feed_20 hnt (Nat.le_of_ble_eq_true rfl) (Nat.le_of_ble_eq_true rfl) (Nat.le_of_ble_eq_true rfl) (Nat.le_of_ble_eq_true rfl) hlocks (fun t9 hvm9 hz9 hk9 => ⟨(), trivial, ⟨rfl, AftW_th hK hP hD hz9 hk9 hvm9⟩, va_S_th hS hz9 hk9⟩) hS.2.2 (by decide) (by decide)
def d_MR_alter (N : Nat) (x1 : Int32) (x2 : Int32) (byteCount : Int32) (partCount : Int32) (hasRun : Int32) (bytes : Nat → Int32) : Option (Except String (Int32 × Int32 × Int32 × (Nat → Int32))) :=
 if x1 < 0 then some (.error "java/lang/IndexOutOfBoundsException") else if x1 < byteCount then if x2 < 0 then some (.error "java/lang/IllegalArgumentException") else if x2 ≤ (255 : Int32) then gI x1 1200 ((d_MR_forgetParts N partCount hasRun).bind (fun o6 => some (.ok (bytes x1.toNatClampNeg, o6.1, o6.2, upd bytes x1.toNatClampNeg x2)))) else some (.error "java/lang/IllegalArgumentException") else some (.error "java/lang/IndexOutOfBoundsException")
abbrev rm_MR_alter : Room := { frames := 6, cells := 1, slots := 6, locals := 82 }
set_option maxHeartbeats 4000000 in
set_option maxRecDepth 100000 in
theorem c_MR_alter (l : Launch) (hlt : l.stackTraces = false) (dC : Nat → ClassId) (dI : Nat → Nat → Nat) (tt : Nat → Nat) (ad : Nat → Nat) (cs : Nat → ClassId) (r1 : Nat → Nat) (rc1 : ClassId) (r2 : Nat → Nat) (rc2 : ClassId) (sz N : Nat) (x1 : Int32) (x2 : Int32) (kind : Int32) (steps : Int32) (byteCount : Int32) (partCount : Int32) (stepsTaken : Int32) (hasRun : Int32) (lackedSteps : Int32) (decodings : Int32) (thrownDecodings : Int32) (bytes : Nat → Int32) (size : Int32) (count : Int32) (data : Nat → Int32) (made : Nat → Int32) (holds : Nat → Int32) (numbers : Nat → Int32) (lengths : Nat → Int32) (values : Nat → Int32) (states : Nat → Int32) (rows : Nat → Nat → Int32) (parts : Nat → Nat → Int32) (out : Except String (Int32 × Int32 × Int32 × (Nat → Int32))) (h : d_MR_alter N x1 x2 byteCount partCount hasRun bytes = some out) :
    vx_Met l y_MR_alter (w_MR_alter) rm_MR_alter (va_Pc [.ref (ad 0), .int x1, .int x2] (PreW (dC, dI) [((cs 1), .int), ((cs 2), .array .int), ((cs 4), .int), ((cs 5), .int), ((cs 7), .int), ((cs 8), .int), ((cs 9), .int), ((cs 10), .array .int), ((cs 12), .int), ((cs 13), .int), (rc1, .int), (rc2, .int)] ((x_MR ad cs r1 r2 kind steps byteCount partCount stepsTaken hasRun lackedSteps decodings thrownDecodings bytes size count data made holds numbers lengths values states) ++ (gw 8 r1 rc1 5 rows ++ gw 16 r2 rc2 6 parts)) sz tt)) (va_Qi (fun (r : Int32) (u : Int32 × Int32 × Int32 × (Nat → Int32)) => out = .ok u ∧ r = u.1) (fun u => AftW (dC, dI) [((cs 1), .int), ((cs 2), .array .int), ((cs 4), .int), ((cs 5), .int), ((cs 7), .int), ((cs 8), .int), ((cs 9), .int), ((cs 10), .array .int), ((cs 12), .int), ((cs 13), .int), (rc1, .int), (rc2, .int)] (va_A ((x_MR ad cs r1 r2 kind steps byteCount partCount stepsTaken hasRun lackedSteps decodings thrownDecodings bytes size count data made holds numbers lengths values states) ++ (gw 8 r1 rc1 5 rows ++ gw 16 r2 rc2 6 parts)) sz) ((x_MR ad cs r1 r2 kind steps byteCount u.2.1 stepsTaken u.2.2.1 lackedSteps decodings thrownDecodings u.2.2.2 size count data made holds numbers lengths values states) ++ (gw 8 r1 rc1 5 rows ++ gw 16 r2 rc2 6 parts))) (va_A ((x_MR ad cs r1 r2 kind steps byteCount partCount stepsTaken hasRun lackedSteps decodings thrownDecodings bytes size count data made holds numbers lengths values states) ++ (gw 8 r1 rc1 5 rows ++ gw 16 r2 rc2 6 parts)) sz)) (vx_X (fun (_ : Unit) => True) (fun E _ t => out = .error E ∧ AftW (dC, dI) [((cs 1), .int), ((cs 2), .array .int), ((cs 4), .int), ((cs 5), .int), ((cs 7), .int), ((cs 8), .int), ((cs 9), .int), ((cs 10), .array .int), ((cs 12), .int), ((cs 13), .int), (rc1, .int), (rc2, .int)] (va_A ((x_MR ad cs r1 r2 kind steps byteCount partCount stepsTaken hasRun lackedSteps decodings thrownDecodings bytes size count data made holds numbers lengths values states) ++ (gw 8 r1 rc1 5 rows ++ gw 16 r2 rc2 6 parts)) sz) ((x_MR ad cs r1 r2 kind steps byteCount partCount stepsTaken hasRun lackedSteps decodings thrownDecodings bytes size count data made holds numbers lengths values states) ++ (gw 8 r1 rc1 5 rows ++ gw 16 r2 rc2 6 parts)) t) (va_A ((x_MR ad cs r1 r2 kind steps byteCount partCount stepsTaken hasRun lackedSteps decodings thrownDecodings bytes size count data made holds numbers lengths values states) ++ (gw 8 r1 rc1 5 rows ++ gw 16 r2 rc2 6 parts)) sz)) 1 6 (va_A ((x_MR ad cs r1 r2 kind steps byteCount partCount stepsTaken hasRun lackedSteps decodings thrownDecodings bytes size count data made holds numbers lengths values states) ++ (gw 8 r1 rc1 5 rows ++ gw 16 r2 rc2 6 parts)) sz) := by
  refine vx_ofW (cc := k_MR_alter) (maxL := 4) (ret := (some .int)) (by decide) rfl ?_
  intro p e s m args below meth c s₁ B hml hnt0 hv
  have hnt : ∀ {pc : Nat}, ∀ x ∈ c.exceptionTable.toList, covers x pc = false := fun x hx9 => (hnt0 x hx9).elim
  obtain ⟨rfl, hsz, hP, hK, hD0, hG⟩ := hv
  have hx := B.exec
  have hb := B.bytes
  have hr := B.returns
  have hts := atoms_spec (ws := (w_MR_alter)) B.pre
  have hB : ∀ w ∈ BIG, w.before _ s = true := fun w h9 => hts w (List.mem_cons_of_mem _ h9)
  have hown : s.vm.findClass R_MR = some m.cls := findClass_of_methodNamed B.named
  have hlocks := B.notSynchronized
  subst hsz
  have hD := hD0.self (sz := s.heap.size)
  generalize hAe : va_A ((x_MR ad cs r1 r2 kind steps byteCount partCount stepsTaken hasRun lackedSteps decodings thrownDecodings bytes size count data made holds numbers lengths values states) ++ (gw 8 r1 rc1 5 rows ++ gw 16 r2 rc2 6 parts)) s.heap.size = A at hD hG ⊢
  have hA : ∀ q : Nat, s.heap.size ≤ q → A q := fun q h => by rw [← hAe]; exact Or.inr h
  have hS : va_S A s.heap s.heap [] := va_S.rf
  have hl := lv_entry ([.ref (ad 0), .int x1, .int x2]) (n := 4) (Nat.le_of_ble_eq_true rfl)
  rw [lg_entry_eq]
  generalize (lg_sl ([.ref (ad 0), .int x1, .int x2]) ++ List.replicate (4 - (lg_sl ([.ref (ad 0), .int x1, .int x2])).length) Slot.unset).toArray = ls at hl ⊢
  have hl : lv_has ls 4 [(0, .ref (ad 0)), (1, .int x1), (2, .int x2)] := hl
  unfold d_MR_alter at h
  refine lv_iload_n hx hb d_MR_alter_0 rfl (lv_at hl 1 rfl) ?_
  refine lv_if_lt (tgt := 12) hx hb d_MR_alter_1 (by decide) (fun c_1 => ?_) (fun c_1 => ?_)
  · have h := (if_pos c_1).symm.trans h
    have h := Option.some.inj h
    subst h
    obtain ⟨sa, hsa⟩ := GG_str hG (i := 2) rfl
    exact vx_throwS hx hb hlt (names := xnames) hown (by decide +kernel) (by decide +kernel) (hB _ wd_108) (hB _ wd_109) hsa (xat_2 hB hG) xgood_2 (GG_U hG) (GG_N hG) hS (hl.1.trans hml.symm) d_MR_alter_12 d_MR_alter_15 d_MR_alter_16 d_MR_alter_18 d_MR_alter_21 hnt (Nat.le_of_ble_eq_true rfl) (Nat.le_of_ble_eq_true rfl) (Nat.le_of_ble_eq_true rfl) (Nat.le_of_ble_eq_true rfl) hlocks (fun t9 hvm9 hz9 hk9 => ⟨(), trivial, ⟨rfl, AftW_th hK hP hD hz9 hk9 hvm9⟩, va_S_th hS hz9 hk9⟩) hS.2.2 (by decide) (by decide)
  · have h := (if_neg c_1).symm.trans h
    refine lv_iload_n hx hb d_MR_alter_4 rfl (lv_at hl 1 rfl) ?_
    refine lv_aload_n hx hb d_MR_alter_5 rfl (lv_at hl 0 rfl) ?_
    refine va_get (D := (dC, dI)) (ci := 0) (v := .int byteCount) (C := R_MR) (T := T_MR) (N := 13) hx hb hB in_MR hown hK hP 0 rfl rfl 6 (by decide) (hB _ wd_110) (fun _ h9 => h9) rfl d_MR_alter_6 ?_
    refine lv_icmp_lt (tgt := 22) hx hb d_MR_alter_9 (by decide) (fun c_2 => ?_) (fun c_2 => ?_)
    · have h := (if_pos c_2).symm.trans h
      refine lv_iload_n hx hb d_MR_alter_22 rfl (lv_at hl 2 rfl) ?_
      refine lv_if_lt (tgt := 33) hx hb d_MR_alter_23 (by decide) (fun c_3 => ?_) (fun c_3 => ?_)
      · have h := (if_pos c_3).symm.trans h
        have h := Option.some.inj h
        subst h
        obtain ⟨sa, hsa⟩ := GG_str hG (i := 3) rfl
        exact vx_throwS hx hb hlt (names := xnames) hown (by decide +kernel) (by decide +kernel) (hB _ wd_178) (hB _ wd_179) hsa (xat_0 hB hG) xgood_0 (GG_U hG) (GG_N hG) hS (hl.1.trans hml.symm) d_MR_alter_33 d_MR_alter_36 d_MR_alter_37 d_MR_alter_39 d_MR_alter_42 hnt (Nat.le_of_ble_eq_true rfl) (Nat.le_of_ble_eq_true rfl) (Nat.le_of_ble_eq_true rfl) (Nat.le_of_ble_eq_true rfl) hlocks (fun t9 hvm9 hz9 hk9 => ⟨(), trivial, ⟨rfl, AftW_th hK hP hD hz9 hk9 hvm9⟩, va_S_th hS hz9 hk9⟩) hS.2.2 (by decide) (by decide)
      · have h := (if_neg c_3).symm.trans h
        refine lv_iload_n hx hb d_MR_alter_26 rfl (lv_at hl 2 rfl) ?_
        refine lv_sipush (v := 255) hx hb d_MR_alter_27 (by decide) ?_
        refine lv_icmp_le (tgt := 43) hx hb d_MR_alter_30 (by decide) (fun c_4 => ?_) (fun c_4 => ?_)
        · have h := (if_pos c_4).symm.trans h
          refine lv_aload_n hx hb d_MR_alter_43 rfl (lv_at hl 0 rfl) ?_
          refine va_get (D := (dC, dI)) (ci := 0) (v := .ref (ad 1)) (C := R_MR) (T := T_MR) (N := 13) hx hb hB in_MR hown hK hP 0 rfl rfl 2 (by decide) (hB _ wd_111) (fun _ h9 => h9) rfl d_MR_alter_44 ?_
          refine lv_iload_n hx hb d_MR_alter_47 rfl (lv_at hl 1 rfl) ?_
          obtain ⟨b_5, h⟩ := gI_some h
          refine va_iald hx hb hK hP 1 0 rfl rfl b_5 d_MR_alter_48 ?_
          refine lv_istore_n (lv' := [(3, .int (bytes x1.toNatClampNeg)), (0, .ref (ad 0)), (1, .int x1), (2, .int x2)]) hx hb d_MR_alter_49 rfl hl (by decide) rfl (fun ls hl => ?_)
          refine lv_aload_n hx hb d_MR_alter_50 rfl (lv_at hl 1 rfl) ?_
          refine va_get (D := (dC, dI)) (ci := 0) (v := .ref (ad 1)) (C := R_MR) (T := T_MR) (N := 13) hx hb hB in_MR hown hK hP 0 rfl rfl 2 (by decide) (hB _ wd_111) (fun _ h9 => h9) rfl d_MR_alter_51 ?_
          refine lv_iload_n hx hb d_MR_alter_54 rfl (lv_at hl 2 rfl) ?_
          refine lv_iload_n hx hb d_MR_alter_55 rfl (lv_at hl 3 rfl) ?_
          refine va_iast hx hb hK hP hD hS 1 0 rfl rfl b_5 d_MR_alter_56 (fun H locs hP hD hS => ?_)
          have hP : va_P (dC, dI) vwCl ((x_MR ad cs r1 r2 kind steps byteCount partCount stepsTaken hasRun lackedSteps decodings thrownDecodings (upd bytes x1.toNatClampNeg x2) size count data made holds numbers lengths values states) ++ (gw 8 r1 rc1 5 rows ++ gw 16 r2 rc2 6 parts)) H := hP
          have hD : va_D A ((x_MR ad cs r1 r2 kind steps byteCount partCount stepsTaken hasRun lackedSteps decodings thrownDecodings (upd bytes x1.toNatClampNeg x2) size count data made holds numbers lengths values states) ++ (gw 8 r1 rc1 5 rows ++ gw 16 r2 rc2 6 parts)) := hD
          refine lv_aload_n hx hb d_MR_alter_57 rfl (lv_at hl 1 rfl) ?_
          obtain ⟨o6, ho6, h⟩ := Option.bind_eq_some_iff.mp h
          have hKc := hK.sub (tys' := [((cs 1), .int), ((cs 2), .array .int), ((cs 4), .int), ((cs 5), .int), ((cs 7), .int), ((cs 8), .int), ((cs 9), .int), ((cs 10), .array .int), ((cs 12), .int), ((cs 13), .int), (rc1, .int), (rc2, .int)]) [0, 1, 2, 3, 4, 5, 6, 7, 8, 9, 10, 11] rfl
          have hPc := hP.part (cx := x_MR ad cs r1 r2 kind steps byteCount partCount stepsTaken hasRun lackedSteps decodings thrownDecodings (upd bytes x1.toNatClampNeg x2) size count data made holds numbers lengths values states) [0, 1, 2, 3, 4, 5, 6, 7, 8, 9, 10, 11, 12, 13] rfl
          have hDc := hD.part (cx := x_MR ad cs r1 r2 kind steps byteCount partCount stepsTaken hasRun lackedSteps decodings thrownDecodings (upd bytes x1.toNatClampNeg x2) size count data made holds numbers lengths values states) [0, 1, 2, 3, 4, 5, 6, 7, 8, 9, 10, 11, 12, 13] (by decide) rfl
          have hFc := va_freeP (cx := x_MR ad cs r1 r2 kind steps byteCount partCount stepsTaken hasRun lackedSteps decodings thrownDecodings (upd bytes x1.toNatClampNeg x2) size count data made holds numbers lengths values states) hD hS hA [0, 1, 2, 3, 4, 5, 6, 7, 8, 9, 10, 11, 12, 13] rfl
          refine va_callv (va_runV (As := []) (rest := []) ⟨hx, hb, hml, hown, hB⟩ (c_MR_forgetParts l dC dI tt ad cs r1 rc1 r2 rc2 H.size N kind steps byteCount partCount stepsTaken hasRun lackedSteps decodings thrownDecodings (upd bytes x1.toNatClampNeg x2) size count data made holds numbers lengths values states rows parts o6 ho6) (cwV 0 hB (gV wd_145 wd_143 wd_142 wd_105 wd_144) rfl rfl rfl (by decide +kernel) ⟨Nat.le_of_ble_eq_true rfl, Nat.le_of_ble_eq_true rfl⟩) ⟨PreW_blind, va_recv hKc hPc (ci := 0) (q0 := 0) rfl rfl, PreW_mk hKc hPc hDc hG hS hFc⟩ rfl rfl hl.1 rfl (lv_room (Nat.le_of_ble_eq_true rfl)) d_MR_alter_58 ⟨Nat.le_of_ble_eq_true rfl, Nat.le_of_ble_eq_true rfl⟩) hS (fun q _ h => hFc q h) hFc (fun u_6 t H1 locs ht hvm hw hB hz1 hk1 hS => ?_)
          obtain ⟨hP1, hK1, hD1⟩ := hB
          rw [ht] at hP1
          obtain ⟨hP, hD⟩ := va_joinP (wr := pick (x_MR ad cs r1 r2 kind steps byteCount partCount stepsTaken hasRun lackedSteps decodings thrownDecodings (upd bytes x1.toNatClampNeg x2) size count data made holds numbers lengths values states) []) hP hD [0, 1, 2, 3, 4, 5, 6, 7, 8, 9, 10, 11, 12, 13] [] rfl rfl (by decide) (by decide) hk1 hFc hP1 hD1
          generalize H1 = H at hP hS ⊢
          have hP : va_P (dC, dI) vwCl ((x_MR ad cs r1 r2 kind steps byteCount o6.1 stepsTaken o6.2 lackedSteps decodings thrownDecodings (upd bytes x1.toNatClampNeg x2) size count data made holds numbers lengths values states) ++ (gw 8 r1 rc1 5 rows ++ gw 16 r2 rc2 6 parts)) H := hP.part (cx := x_MR ad cs r1 r2 kind steps byteCount o6.1 stepsTaken o6.2 lackedSteps decodings thrownDecodings (upd bytes x1.toNatClampNeg x2) size count data made holds numbers lengths values states) [0, 1, 2, 3, 4, 5, 6, 7, 8, 9, 10, 11, 12, 13] rfl
          have hD : va_D A ((x_MR ad cs r1 r2 kind steps byteCount o6.1 stepsTaken o6.2 lackedSteps decodings thrownDecodings (upd bytes x1.toNatClampNeg x2) size count data made holds numbers lengths values states) ++ (gw 8 r1 rc1 5 rows ++ gw 16 r2 rc2 6 parts)) := hD.part (cx := x_MR ad cs r1 r2 kind steps byteCount o6.1 stepsTaken o6.2 lackedSteps decodings thrownDecodings (upd bytes x1.toNatClampNeg x2) size count data made holds numbers lengths values states) [0, 1, 2, 3, 4, 5, 6, 7, 8, 9, 10, 11, 12, 13] (by decide) rfl
          refine lv_iload_n hx hb d_MR_alter_61 rfl (lv_at hl 0 rfl) ?_
          refine W.widen (k := 1) (n := 6) (by decide) (by decide) ?_
          have h := Option.some.inj h
          subst h
          refine vx_ret ?_
          exact W.iret hx hb hr (fun t ht hW => ⟨⟨_, _, rfl, ⟨rfl, rfl⟩, AftW_mk hK hP hD ht hW⟩, hS.F ht⟩) hS.2.2 d_MR_alter_62
        · have h := (if_neg c_4).symm.trans h
          have h := Option.some.inj h
          subst h
          obtain ⟨sa, hsa⟩ := GG_str hG (i := 3) rfl
          exact vx_throwS hx hb hlt (names := xnames) hown (by decide +kernel) (by decide +kernel) (hB _ wd_178) (hB _ wd_179) hsa (xat_0 hB hG) xgood_0 (GG_U hG) (GG_N hG) hS (hl.1.trans hml.symm) d_MR_alter_33 d_MR_alter_36 d_MR_alter_37 d_MR_alter_39 d_MR_alter_42 hnt (Nat.le_of_ble_eq_true rfl) (Nat.le_of_ble_eq_true rfl) (Nat.le_of_ble_eq_true rfl) (Nat.le_of_ble_eq_true rfl) hlocks (fun t9 hvm9 hz9 hk9 => ⟨(), trivial, ⟨rfl, AftW_th hK hP hD hz9 hk9 hvm9⟩, va_S_th hS hz9 hk9⟩) hS.2.2 (by decide) (by decide)
    · have h := (if_neg c_2).symm.trans h
      have h := Option.some.inj h
      subst h
      obtain ⟨sa, hsa⟩ := GG_str hG (i := 2) rfl
      exact vx_throwS hx hb hlt (names := xnames) hown (by decide +kernel) (by decide +kernel) (hB _ wd_108) (hB _ wd_109) hsa (xat_2 hB hG) xgood_2 (GG_U hG) (GG_N hG) hS (hl.1.trans hml.symm) d_MR_alter_12 d_MR_alter_15 d_MR_alter_16 d_MR_alter_18 d_MR_alter_21 hnt (Nat.le_of_ble_eq_true rfl) (Nat.le_of_ble_eq_true rfl) (Nat.le_of_ble_eq_true rfl) (Nat.le_of_ble_eq_true rfl) hlocks (fun t9 hvm9 hz9 hk9 => ⟨(), trivial, ⟨rfl, AftW_th hK hP hD hz9 hk9 hvm9⟩, va_S_th hS hz9 hk9⟩) hS.2.2 (by decide) (by decide)
