def d_Boxes_emptyAll_L2 (N : Nat) : Nat → Int32 → (Nat → Int32) → Option ((Nat → Int32))
  | 0, _, _ => none
  | n + 1, y2_1, holds_2 => if (8 : Int32) ≤ y2_1 then some holds_2 else gI y2_1 8 (d_Boxes_emptyAll_L2 N n (y2_1 + 1) (upd holds_2 y2_1.toNatClampNeg (0 : Int32)))
def d_Boxes_emptyAll (N : Nat) (holds : Nat → Int32) : Option ((Nat → Int32)) :=
 (d_Boxes_emptyAll_L2 N N (0 : Int32) holds).bind (fun s2 => some s2)
abbrev rm_Boxes_emptyAll : Room := { frames := 0, cells := 0, slots := 0, locals := 0 }
set_option maxHeartbeats 4000000 in
set_option maxRecDepth 100000 in
theorem c_Boxes_emptyAll (l : Launch) (dC : Nat → ClassId) (dI : Nat → Nat → Nat) (tt : Nat → Nat) (ad : Nat → Nat) (cs : Nat → ClassId) (r1 : Nat → Nat) (rc1 : ClassId) (pr : va_W) (sz N : Nat) (holds : Nat → Int32) (numbers : Nat → Int32) (lengths : Nat → Int32) (rows : Nat → Nat → Int32) (out : (Nat → Int32)) (h : d_Boxes_emptyAll N holds = some out) :
    Met l y_Boxes_emptyAll (w_Boxes_emptyAll) rm_Boxes_emptyAll (va_Pc [.ref (ad 0)] (PreW (dC, dI) [((cs 1), .int), ((cs 2), .int), ((cs 3), .int), ((cs 4), .array .int), (rc1, .int)] ((x_Boxes ad cs r1 holds numbers lengths) ++ (gw 8 r1 rc1 5 rows ++ pr)) sz tt)) (va_Qv (fun (_ : Unit) => True) (fun _ => AftW (dC, dI) [((cs 1), .int), ((cs 2), .int), ((cs 3), .int), ((cs 4), .array .int), (rc1, .int)] (va_A ((x_Boxes ad cs r1 holds numbers lengths) ++ (gw 8 r1 rc1 5 rows ++ pr)) sz) ((x_Boxes ad cs r1 out numbers lengths) ++ (gw 8 r1 rc1 5 rows ++ pr))) (va_A ((x_Boxes ad cs r1 holds numbers lengths) ++ (gw 8 r1 rc1 5 rows ++ pr)) sz)) 0 0 (va_A ((x_Boxes ad cs r1 holds numbers lengths) ++ (gw 8 r1 rc1 5 rows ++ pr)) sz) := by
  refine Met.ofW (cc := k_Boxes_emptyAll) (maxL := 2) (ret := none) (by decide) rfl ?_
  intro p e s m args below meth c s₁ B hml hv
  obtain ⟨rfl, hsz, hP, hK, hD0, hG⟩ := hv
  have hx := B.exec
  have hb := B.bytes
  have hr := B.returns
  have hts := atoms_spec (ws := (w_Boxes_emptyAll)) B.pre
  have hB : ∀ w ∈ BIG, w.before _ s = true := fun w h9 => hts w (List.mem_cons_of_mem _ h9)
  have hown : s.vm.findClass R_Boxes = some m.cls := findClass_of_methodNamed B.named
  have hlocks := B.notSynchronized
  subst hsz
  have hD := hD0.self (sz := s.heap.size)
  generalize hAe : va_A ((x_Boxes ad cs r1 holds numbers lengths) ++ (gw 8 r1 rc1 5 rows ++ pr)) s.heap.size = A at hD hG ⊢
  have hA : ∀ q : Nat, s.heap.size ≤ q → A q := fun q h => by rw [← hAe]; exact Or.inr h
  have hS : va_S A s.heap s.heap [] := va_S.rf
  have hl := lv_entry ([.ref (ad 0)]) (n := 2) (Nat.le_of_ble_eq_true rfl)
  rw [lg_entry_eq]
  generalize (lg_sl ([.ref (ad 0)]) ++ List.replicate (2 - (lg_sl ([.ref (ad 0)])).length) Slot.unset).toArray = ls at hl ⊢
  have hl : lv_has ls 2 [(0, .ref (ad 0))] := hl
  unfold d_Boxes_emptyAll at h
  refine lv_iconst (v := 0) hx hb d_Boxes_emptyAll_0 (by decide) ?_
  refine lv_istore_n (lv' := [(1, .int (0 : Int32)), (0, .ref (ad 0))]) hx hb d_Boxes_emptyAll_1 rfl hl (by decide) rfl (fun ls hl => ?_)
  obtain ⟨s2, hs2, h⟩ := Option.bind_eq_some_iff.mp h
  have X2 : ∀ (H : Heap) (locs : List Loc) (ls : Array Slot), lv_has ls 2 [] → va_P (dC, dI) vwCl ((x_Boxes ad cs r1 s2 numbers lengths) ++ (gw 8 r1 rc1 5 rows ++ pr)) H → va_D A ((x_Boxes ad cs r1 s2 numbers lengths) ++ (gw 8 r1 rc1 5 rows ++ pr)) → va_S A s.heap H locs → W p l e (headSpec (w_Boxes_emptyAll) rm_Boxes_emptyAll).room s m ([.ref (ad 0)] : List Value).toArray below meth c H locs 0 0 (MQ below (va_Qv (fun (_ : Unit) => True) (fun _ => AftW (dC, dI) [((cs 1), .int), ((cs 2), .int), ((cs 3), .int), ((cs 4), .array .int), (rc1, .int)] A ((x_Boxes ad cs r1 out numbers lengths) ++ (gw 8 r1 rc1 5 rows ++ pr))) A) ([.ref (ad 0)] : List Value).toArray s 0 0 A) (F0 m 21 ls []) := by
    intro H locs ls hl hP hD hS
    have h := Option.some.inj h
    subst h
    exact W.vret hx hb hr (fun t ht hW => ⟨⟨(), rfl, trivial, AftW_mk hK hP hD ht hW⟩, hS.F ht⟩) hS.2.2 d_Boxes_emptyAll_21
  have L2 : ∀ (n : Nat) (y2_1 : Int32) (holds_2 : Nat → Int32) (H : Heap) (locs : List Loc) (ls : Array Slot), lv_has ls 2 [(0, .ref (ad 0)), (1, .int y2_1)] → va_P (dC, dI) vwCl ((x_Boxes ad cs r1 holds_2 numbers lengths) ++ (gw 8 r1 rc1 5 rows ++ pr)) H → va_D A ((x_Boxes ad cs r1 holds_2 numbers lengths) ++ (gw 8 r1 rc1 5 rows ++ pr)) → va_S A s.heap H locs → d_Boxes_emptyAll_L2 N n y2_1 holds_2 = some s2 → W p l e (headSpec (w_Boxes_emptyAll) rm_Boxes_emptyAll).room s m ([.ref (ad 0)] : List Value).toArray below meth c H locs 0 0 (MQ below (va_Qv (fun (_ : Unit) => True) (fun _ => AftW (dC, dI) [((cs 1), .int), ((cs 2), .int), ((cs 3), .int), ((cs 4), .array .int), (rc1, .int)] A ((x_Boxes ad cs r1 out numbers lengths) ++ (gw 8 r1 rc1 5 rows ++ pr))) A) ([.ref (ad 0)] : List Value).toArray s 0 0 A) (F0 m 2 ls []) := by
    intro n
    induction n with
    | zero =>
      intro y2_1 holds_2 H locs ls hl hP hD hS h
      rw [d_Boxes_emptyAll_L2] at h
      cases h
    | succ n ih =>
      intro y2_1 holds_2 H locs ls hl hP hD hS h
      rw [d_Boxes_emptyAll_L2] at h
      refine lv_iload_n hx hb d_Boxes_emptyAll_2 rfl (lv_at hl 1 rfl) ?_
      refine lv_bipush (v := 8) hx hb d_Boxes_emptyAll_3 (by decide) ?_
      refine lv_icmp_ge (tgt := 21) hx hb d_Boxes_emptyAll_5 (by decide) (fun c_1 => ?_) (fun c_1 => ?_)
      · have h := (if_pos c_1).symm.trans h
        have h := Option.some.inj h
        subst h
        exact X2 H locs ls (lv_sub hl [] rfl) hP hD hS
      · have h := (if_neg c_1).symm.trans h
        refine lv_aload_n hx hb d_Boxes_emptyAll_8 rfl (lv_at hl 0 rfl) ?_
        refine va_get (D := (dC, dI)) (ci := 2) (v := .ref (ad 1)) (C := R_Boxes) (T := T_Boxes) (N := 4) hx hb hB in_Boxes hown hK hP 0 rfl rfl 0 (by decide) (hB _ wd_18) (fun _ h9 => h9) rfl d_Boxes_emptyAll_9 ?_
        refine lv_iload_n hx hb d_Boxes_emptyAll_12 rfl (lv_at hl 1 rfl) ?_
        refine lv_iconst (v := 0) hx hb d_Boxes_emptyAll_13 (by decide) ?_
        obtain ⟨b_2, h⟩ := gI_some h
        refine va_iast hx hb hK hP hD hS 1 0 rfl rfl b_2 d_Boxes_emptyAll_14 (fun H locs hP hD hS => ?_)
        have hP : va_P (dC, dI) vwCl ((x_Boxes ad cs r1 (upd holds_2 y2_1.toNatClampNeg (0 : Int32)) numbers lengths) ++ (gw 8 r1 rc1 5 rows ++ pr)) H := hP
        have hD : va_D A ((x_Boxes ad cs r1 (upd holds_2 y2_1.toNatClampNeg (0 : Int32)) numbers lengths) ++ (gw 8 r1 rc1 5 rows ++ pr)) := hD
        refine lv_iinc (v := y2_1 + 1) (lv' := [(1, .int (y2_1 + 1)), (0, .ref (ad 0))]) hx hb d_Boxes_emptyAll_15 hl (k := 1) rfl rfl (by decide) rfl (fun ls hl => ?_)
        refine lv_goto (tgt := 2) hx hb d_Boxes_emptyAll_18 (by decide) ?_
        exact ih (y2_1 + 1) (upd holds_2 y2_1.toNatClampNeg (0 : Int32)) H locs ls (lv_sub hl [1, 0] rfl) hP hD hS h
  exact L2 N (0 : Int32) holds _ _ ls (lv_sub hl [1, 0] rfl) hP hD hS hs2
def d_Boxes_putNumber (N : Nat) (x1 : Int32) (x2 : Int32) (holds : Nat → Int32) (numbers : Nat → Int32) : Option ((Nat → Int32) × (Nat → Int32)) :=
 gI x1 8 (some (upd holds x1.toNatClampNeg (1 : Int32), upd numbers x1.toNatClampNeg x2))
abbrev rm_Boxes_putNumber : Room := { frames := 0, cells := 0, slots := 0, locals := 0 }
set_option maxHeartbeats 4000000 in
set_option maxRecDepth 100000 in
theorem c_Boxes_putNumber (l : Launch) (dC : Nat → ClassId) (dI : Nat → Nat → Nat) (tt : Nat → Nat) (ad : Nat → Nat) (cs : Nat → ClassId) (r1 : Nat → Nat) (rc1 : ClassId) (pr : va_W) (sz N : Nat) (x1 : Int32) (x2 : Int32) (holds : Nat → Int32) (numbers : Nat → Int32) (lengths : Nat → Int32) (rows : Nat → Nat → Int32) (out : (Nat → Int32) × (Nat → Int32)) (h : d_Boxes_putNumber N x1 x2 holds numbers = some out) :
    Met l y_Boxes_putNumber (w_Boxes_putNumber) rm_Boxes_putNumber (va_Pc [.ref (ad 0), .int x1, .int x2] (PreW (dC, dI) [((cs 1), .int), ((cs 2), .int), ((cs 3), .int), ((cs 4), .array .int), (rc1, .int)] ((x_Boxes ad cs r1 holds numbers lengths) ++ (gw 8 r1 rc1 5 rows ++ pr)) sz tt)) (va_Qv (fun (_ : Unit) => True) (fun _ => AftW (dC, dI) [((cs 1), .int), ((cs 2), .int), ((cs 3), .int), ((cs 4), .array .int), (rc1, .int)] (va_A ((x_Boxes ad cs r1 holds numbers lengths) ++ (gw 8 r1 rc1 5 rows ++ pr)) sz) ((x_Boxes ad cs r1 out.1 out.2 lengths) ++ (gw 8 r1 rc1 5 rows ++ pr))) (va_A ((x_Boxes ad cs r1 holds numbers lengths) ++ (gw 8 r1 rc1 5 rows ++ pr)) sz)) 0 0 (va_A ((x_Boxes ad cs r1 holds numbers lengths) ++ (gw 8 r1 rc1 5 rows ++ pr)) sz) := by
  refine Met.ofW (cc := k_Boxes_putNumber) (maxL := 3) (ret := none) (by decide) rfl ?_
  intro p e s m args below meth c s₁ B hml hv
  obtain ⟨rfl, hsz, hP, hK, hD0, hG⟩ := hv
  have hx := B.exec
  have hb := B.bytes
  have hr := B.returns
  have hts := atoms_spec (ws := (w_Boxes_putNumber)) B.pre
  have hB : ∀ w ∈ BIG, w.before _ s = true := fun w h9 => hts w (List.mem_cons_of_mem _ h9)
  have hown : s.vm.findClass R_Boxes = some m.cls := findClass_of_methodNamed B.named
  have hlocks := B.notSynchronized
  subst hsz
  have hD := hD0.self (sz := s.heap.size)
  generalize hAe : va_A ((x_Boxes ad cs r1 holds numbers lengths) ++ (gw 8 r1 rc1 5 rows ++ pr)) s.heap.size = A at hD hG ⊢
  have hA : ∀ q : Nat, s.heap.size ≤ q → A q := fun q h => by rw [← hAe]; exact Or.inr h
  have hS : va_S A s.heap s.heap [] := va_S.rf
  have hl := lv_entry ([.ref (ad 0), .int x1, .int x2]) (n := 3) (Nat.le_of_ble_eq_true rfl)
  rw [lg_entry_eq]
  generalize (lg_sl ([.ref (ad 0), .int x1, .int x2]) ++ List.replicate (3 - (lg_sl ([.ref (ad 0), .int x1, .int x2])).length) Slot.unset).toArray = ls at hl ⊢
  have hl : lv_has ls 3 [(0, .ref (ad 0)), (1, .int x1), (2, .int x2)] := hl
  unfold d_Boxes_putNumber at h
  refine lv_aload_n hx hb d_Boxes_putNumber_0 rfl (lv_at hl 0 rfl) ?_
  refine va_get (D := (dC, dI)) (ci := 2) (v := .ref (ad 1)) (C := R_Boxes) (T := T_Boxes) (N := 4) hx hb hB in_Boxes hown hK hP 0 rfl rfl 0 (by decide) (hB _ wd_18) (fun _ h9 => h9) rfl d_Boxes_putNumber_1 ?_
  refine lv_iload_n hx hb d_Boxes_putNumber_4 rfl (lv_at hl 1 rfl) ?_
  refine lv_iconst (v := 1) hx hb d_Boxes_putNumber_5 (by decide) ?_
  obtain ⟨b_1, h⟩ := gI_some h
  refine va_iast hx hb hK hP hD hS 1 0 rfl rfl b_1 d_Boxes_putNumber_6 (fun H locs hP hD hS => ?_)
  have hP : va_P (dC, dI) vwCl ((x_Boxes ad cs r1 (upd holds x1.toNatClampNeg (1 : Int32)) numbers lengths) ++ (gw 8 r1 rc1 5 rows ++ pr)) H := hP
  have hD : va_D A ((x_Boxes ad cs r1 (upd holds x1.toNatClampNeg (1 : Int32)) numbers lengths) ++ (gw 8 r1 rc1 5 rows ++ pr)) := hD
  refine lv_aload_n hx hb d_Boxes_putNumber_7 rfl (lv_at hl 0 rfl) ?_
  refine va_get (D := (dC, dI)) (ci := 2) (v := .ref (ad 2)) (C := R_Boxes) (T := T_Boxes) (N := 4) hx hb hB in_Boxes hown hK hP 0 rfl rfl 1 (by decide) (hB _ wd_19) (fun _ h9 => h9) rfl d_Boxes_putNumber_8 ?_
  refine lv_iload_n hx hb d_Boxes_putNumber_11 rfl (lv_at hl 1 rfl) ?_
  refine lv_iload_n hx hb d_Boxes_putNumber_12 rfl (lv_at hl 2 rfl) ?_
  refine va_iast hx hb hK hP hD hS 2 1 rfl rfl b_1 d_Boxes_putNumber_13 (fun H locs hP hD hS => ?_)
  have hP : va_P (dC, dI) vwCl ((x_Boxes ad cs r1 (upd holds x1.toNatClampNeg (1 : Int32)) (upd numbers x1.toNatClampNeg x2) lengths) ++ (gw 8 r1 rc1 5 rows ++ pr)) H := hP
  have hD : va_D A ((x_Boxes ad cs r1 (upd holds x1.toNatClampNeg (1 : Int32)) (upd numbers x1.toNatClampNeg x2) lengths) ++ (gw 8 r1 rc1 5 rows ++ pr)) := hD
  have h := Option.some.inj h
  subst h
  exact W.vret hx hb hr (fun t ht hW => ⟨⟨(), rfl, trivial, AftW_mk hK hP hD ht hW⟩, hS.F ht⟩) hS.2.2 d_Boxes_putNumber_14
def d_Boxes_putRow_L16 (N : Nat) (y16_1 : Int32) : Nat → Int32 → (Nat → Int32) → (Nat → Int32) → (Nat → Nat → Int32) → Option ((Nat → Int32) × (Nat → Int32) × (Nat → Nat → Int32))
  | 0, _, _, _, _ => none
  | n + 1, y16_3, holds_16, lengths_16, rows_16 => if (5 : Int32) ≤ y16_3 then some (holds_16, lengths_16, rows_16) else gI y16_1 8 (gI y16_3 5 (d_Boxes_putRow_L16 N y16_1 n (y16_3 + 1) holds_16 lengths_16 (upd2 rows_16 y16_1.toNatClampNeg y16_3.toNatClampNeg (0 : Int32))))
def d_Boxes_putRow (N : Nat) (x1 : Int32) (x2 : Int32) (holds : Nat → Int32) (lengths : Nat → Int32) (rows : Nat → Nat → Int32) : Option ((Nat → Int32) × (Nat → Int32) × (Nat → Nat → Int32)) :=
 gI x1 8 ((d_Boxes_putRow_L16 N x1 N (0 : Int32) (upd holds x1.toNatClampNeg (2 : Int32)) (upd lengths x1.toNatClampNeg x2) rows).bind (fun s16 => some (s16.1, s16.2.1, s16.2.2)))
abbrev rm_Boxes_putRow : Room := { frames := 0, cells := 0, slots := 0, locals := 0 }
set_option maxHeartbeats 4000000 in
set_option maxRecDepth 100000 in
theorem c_Boxes_putRow (l : Launch) (dC : Nat → ClassId) (dI : Nat → Nat → Nat) (tt : Nat → Nat) (ad : Nat → Nat) (cs : Nat → ClassId) (r1 : Nat → Nat) (rc1 : ClassId) (pr : va_W) (sz N : Nat) (x1 : Int32) (x2 : Int32) (holds : Nat → Int32) (numbers : Nat → Int32) (lengths : Nat → Int32) (rows : Nat → Nat → Int32) (out : (Nat → Int32) × (Nat → Int32) × (Nat → Nat → Int32)) (h : d_Boxes_putRow N x1 x2 holds lengths rows = some out) :
    Met l y_Boxes_putRow (w_Boxes_putRow) rm_Boxes_putRow (va_Pc [.ref (ad 0), .int x1, .int x2] (PreW (dC, dI) [((cs 1), .int), ((cs 2), .int), ((cs 3), .int), ((cs 4), .array .int), (rc1, .int)] ((x_Boxes ad cs r1 holds numbers lengths) ++ (gw 8 r1 rc1 5 rows ++ pr)) sz tt)) (va_Qv (fun (_ : Unit) => True) (fun _ => AftW (dC, dI) [((cs 1), .int), ((cs 2), .int), ((cs 3), .int), ((cs 4), .array .int), (rc1, .int)] (va_A ((x_Boxes ad cs r1 holds numbers lengths) ++ (gw 8 r1 rc1 5 rows ++ pr)) sz) ((x_Boxes ad cs r1 out.1 numbers out.2.1) ++ (gw 8 r1 rc1 5 out.2.2 ++ pr))) (va_A ((x_Boxes ad cs r1 holds numbers lengths) ++ (gw 8 r1 rc1 5 rows ++ pr)) sz)) 0 0 (va_A ((x_Boxes ad cs r1 holds numbers lengths) ++ (gw 8 r1 rc1 5 rows ++ pr)) sz) := by
  refine Met.ofW (cc := k_Boxes_putRow) (maxL := 4) (ret := none) (by decide) rfl ?_
  intro p e s m args below meth c s₁ B hml hv
  obtain ⟨rfl, hsz, hP, hK, hD0, hG⟩ := hv
  have hx := B.exec
  have hb := B.bytes
  have hr := B.returns
  have hts := atoms_spec (ws := (w_Boxes_putRow)) B.pre
  have hB : ∀ w ∈ BIG, w.before _ s = true := fun w h9 => hts w (List.mem_cons_of_mem _ h9)
  have hown : s.vm.findClass R_Boxes = some m.cls := findClass_of_methodNamed B.named
  have hlocks := B.notSynchronized
  subst hsz
  have hD := hD0.self (sz := s.heap.size)
  generalize hAe : va_A ((x_Boxes ad cs r1 holds numbers lengths) ++ (gw 8 r1 rc1 5 rows ++ pr)) s.heap.size = A at hD hG ⊢
  have hA : ∀ q : Nat, s.heap.size ≤ q → A q := fun q h => by rw [← hAe]; exact Or.inr h
  have hS : va_S A s.heap s.heap [] := va_S.rf
  have hl := lv_entry ([.ref (ad 0), .int x1, .int x2]) (n := 4) (Nat.le_of_ble_eq_true rfl)
  rw [lg_entry_eq]
  generalize (lg_sl ([.ref (ad 0), .int x1, .int x2]) ++ List.replicate (4 - (lg_sl ([.ref (ad 0), .int x1, .int x2])).length) Slot.unset).toArray = ls at hl ⊢
  have hl : lv_has ls 4 [(0, .ref (ad 0)), (1, .int x1), (2, .int x2)] := hl
  unfold d_Boxes_putRow at h
  refine lv_aload_n hx hb d_Boxes_putRow_0 rfl (lv_at hl 0 rfl) ?_
  refine va_get (D := (dC, dI)) (ci := 2) (v := .ref (ad 1)) (C := R_Boxes) (T := T_Boxes) (N := 4) hx hb hB in_Boxes hown hK hP 0 rfl rfl 0 (by decide) (hB _ wd_18) (fun _ h9 => h9) rfl d_Boxes_putRow_1 ?_
  refine lv_iload_n hx hb d_Boxes_putRow_4 rfl (lv_at hl 1 rfl) ?_
  refine lv_iconst (v := 2) hx hb d_Boxes_putRow_5 (by decide) ?_
  obtain ⟨b_1, h⟩ := gI_some h
  refine va_iast hx hb hK hP hD hS 1 0 rfl rfl b_1 d_Boxes_putRow_6 (fun H locs hP hD hS => ?_)
  have hP : va_P (dC, dI) vwCl ((x_Boxes ad cs r1 (upd holds x1.toNatClampNeg (2 : Int32)) numbers lengths) ++ (gw 8 r1 rc1 5 rows ++ pr)) H := hP
  have hD : va_D A ((x_Boxes ad cs r1 (upd holds x1.toNatClampNeg (2 : Int32)) numbers lengths) ++ (gw 8 r1 rc1 5 rows ++ pr)) := hD
  refine lv_aload_n hx hb d_Boxes_putRow_7 rfl (lv_at hl 0 rfl) ?_
  refine va_get (D := (dC, dI)) (ci := 2) (v := .ref (ad 3)) (C := R_Boxes) (T := T_Boxes) (N := 4) hx hb hB in_Boxes hown hK hP 0 rfl rfl 2 (by decide) (hB _ wd_20) (fun _ h9 => h9) rfl d_Boxes_putRow_8 ?_
  refine lv_iload_n hx hb d_Boxes_putRow_11 rfl (lv_at hl 1 rfl) ?_
  refine lv_iload_n hx hb d_Boxes_putRow_12 rfl (lv_at hl 2 rfl) ?_
  refine va_iast hx hb hK hP hD hS 3 2 rfl rfl b_1 d_Boxes_putRow_13 (fun H locs hP hD hS => ?_)
  have hP : va_P (dC, dI) vwCl ((x_Boxes ad cs r1 (upd holds x1.toNatClampNeg (2 : Int32)) numbers (upd lengths x1.toNatClampNeg x2)) ++ (gw 8 r1 rc1 5 rows ++ pr)) H := hP
  have hD : va_D A ((x_Boxes ad cs r1 (upd holds x1.toNatClampNeg (2 : Int32)) numbers (upd lengths x1.toNatClampNeg x2)) ++ (gw 8 r1 rc1 5 rows ++ pr)) := hD
  refine lv_iconst (v := 0) hx hb d_Boxes_putRow_14 (by decide) ?_
  refine lv_istore_n (lv' := [(3, .int (0 : Int32)), (0, .ref (ad 0)), (1, .int x1), (2, .int x2)]) hx hb d_Boxes_putRow_15 rfl hl (by decide) rfl (fun ls hl => ?_)
  obtain ⟨s16, hs16, h⟩ := Option.bind_eq_some_iff.mp h
  have X16 : ∀ (H : Heap) (locs : List Loc) (ls : Array Slot), lv_has ls 4 [] → va_P (dC, dI) vwCl ((x_Boxes ad cs r1 s16.1 numbers s16.2.1) ++ (gw 8 r1 rc1 5 s16.2.2 ++ pr)) H → va_D A ((x_Boxes ad cs r1 s16.1 numbers s16.2.1) ++ (gw 8 r1 rc1 5 s16.2.2 ++ pr)) → va_S A s.heap H locs → W p l e (headSpec (w_Boxes_putRow) rm_Boxes_putRow).room s m ([.ref (ad 0), .int x1, .int x2] : List Value).toArray below meth c H locs 0 0 (MQ below (va_Qv (fun (_ : Unit) => True) (fun _ => AftW (dC, dI) [((cs 1), .int), ((cs 2), .int), ((cs 3), .int), ((cs 4), .array .int), (rc1, .int)] A ((x_Boxes ad cs r1 out.1 numbers out.2.1) ++ (gw 8 r1 rc1 5 out.2.2 ++ pr))) A) ([.ref (ad 0), .int x1, .int x2] : List Value).toArray s 0 0 A) (F0 m 36 ls []) := by
    intro H locs ls hl hP hD hS
    have h := Option.some.inj h
    subst h
    exact W.vret hx hb hr (fun t ht hW => ⟨⟨(), rfl, trivial, AftW_mk hK hP hD ht hW⟩, hS.F ht⟩) hS.2.2 d_Boxes_putRow_36
  have L16 : ∀ (n : Nat) (y16_3 : Int32) (holds_16 : Nat → Int32) (lengths_16 : Nat → Int32) (rows_16 : Nat → Nat → Int32) (H : Heap) (locs : List Loc) (ls : Array Slot), lv_has ls 4 [(0, .ref (ad 0)), (1, .int x1), (3, .int y16_3)] → va_P (dC, dI) vwCl ((x_Boxes ad cs r1 holds_16 numbers lengths_16) ++ (gw 8 r1 rc1 5 rows_16 ++ pr)) H → va_D A ((x_Boxes ad cs r1 holds_16 numbers lengths_16) ++ (gw 8 r1 rc1 5 rows_16 ++ pr)) → va_S A s.heap H locs → d_Boxes_putRow_L16 N x1 n y16_3 holds_16 lengths_16 rows_16 = some s16 → W p l e (headSpec (w_Boxes_putRow) rm_Boxes_putRow).room s m ([.ref (ad 0), .int x1, .int x2] : List Value).toArray below meth c H locs 0 0 (MQ below (va_Qv (fun (_ : Unit) => True) (fun _ => AftW (dC, dI) [((cs 1), .int), ((cs 2), .int), ((cs 3), .int), ((cs 4), .array .int), (rc1, .int)] A ((x_Boxes ad cs r1 out.1 numbers out.2.1) ++ (gw 8 r1 rc1 5 out.2.2 ++ pr))) A) ([.ref (ad 0), .int x1, .int x2] : List Value).toArray s 0 0 A) (F0 m 16 ls []) := by
    intro n
    induction n with
    | zero =>
      intro y16_3 holds_16 lengths_16 rows_16 H locs ls hl hP hD hS h
      rw [d_Boxes_putRow_L16] at h
      cases h
    | succ n ih =>
      intro y16_3 holds_16 lengths_16 rows_16 H locs ls hl hP hD hS h
      rw [d_Boxes_putRow_L16] at h
      refine lv_iload_n hx hb d_Boxes_putRow_16 rfl (lv_at hl 2 rfl) ?_
      refine lv_iconst (v := 5) hx hb d_Boxes_putRow_17 (by decide) ?_
      refine lv_icmp_ge (tgt := 36) hx hb d_Boxes_putRow_18 (by decide) (fun c_2 => ?_) (fun c_2 => ?_)
      · have h := (if_pos c_2).symm.trans h
        have h := Option.some.inj h
        subst h
        exact X16 H locs ls (lv_sub hl [] rfl) hP hD hS
      · have h := (if_neg c_2).symm.trans h
        refine lv_aload_n hx hb d_Boxes_putRow_21 rfl (lv_at hl 0 rfl) ?_
        refine va_get (D := (dC, dI)) (ci := 2) (v := .ref (ad 4)) (C := R_Boxes) (T := T_Boxes) (N := 4) hx hb hB in_Boxes hown hK hP 0 rfl rfl 3 (by decide) (hB _ wd_21) (fun _ h9 => h9) rfl d_Boxes_putRow_22 ?_
        refine lv_iload_n hx hb d_Boxes_putRow_25 rfl (lv_at hl 1 rfl) ?_
        obtain ⟨b_3, h⟩ := gI_some h
        refine gr_aald hx hb hK hP 4 3 rfl rfl b_3 d_Boxes_putRow_26 ?_
        refine lv_iload_n hx hb d_Boxes_putRow_27 rfl (lv_at hl 2 rfl) ?_
        refine lv_iconst (v := 0) hx hb d_Boxes_putRow_28 (by decide) ?_
        obtain ⟨b_4, h⟩ := gI_some h
        refine gr_ast1 hx hb hK hP hD hS 4 rfl (in_lt b_3) b_4 d_Boxes_putRow_29 (fun H locs hP hD hS => ?_)
        have hP : va_P (dC, dI) vwCl ((x_Boxes ad cs r1 holds_16 numbers lengths_16) ++ (gw 8 r1 rc1 5 (upd2 rows_16 x1.toNatClampNeg y16_3.toNatClampNeg (0 : Int32)) ++ pr)) H := hP
        have hD : va_D A ((x_Boxes ad cs r1 holds_16 numbers lengths_16) ++ (gw 8 r1 rc1 5 (upd2 rows_16 x1.toNatClampNeg y16_3.toNatClampNeg (0 : Int32)) ++ pr)) := hD
        refine lv_iinc (v := y16_3 + 1) (lv' := [(3, .int (y16_3 + 1)), (0, .ref (ad 0)), (1, .int x1)]) hx hb d_Boxes_putRow_30 hl (k := 2) rfl rfl (by decide) rfl (fun ls hl => ?_)
        refine lv_goto (tgt := 16) hx hb d_Boxes_putRow_33 (by decide) ?_
        exact ih (y16_3 + 1) holds_16 lengths_16 (upd2 rows_16 x1.toNatClampNeg y16_3.toNatClampNeg (0 : Int32)) H locs ls (lv_sub hl [1, 2, 0] rfl) hP hD hS h
  exact L16 N (0 : Int32) (upd holds x1.toNatClampNeg (2 : Int32)) (upd lengths x1.toNatClampNeg x2) rows _ _ ls (lv_sub hl [1, 2, 0] rfl) hP hD hS hs16
def d_Boxes_rowLength (N : Nat) (x0 : Int32) : Option (Int32) :=
 some ((x0 - x0 / (8 : Int32) * (8 : Int32)) - (2 : Int32))
abbrev rm_Boxes_rowLength : Room := { frames := 0, cells := 0, slots := 0, locals := 0 }
set_option maxHeartbeats 4000000 in
set_option maxRecDepth 100000 in
theorem c_Boxes_rowLength (l : Launch) (dC : Nat → ClassId) (dI : Nat → Nat → Nat) (tt : Nat → Nat) (sz N : Nat) (x0 : Int32) (out : Int32) (h : d_Boxes_rowLength N x0 = some out) :
    Met l y_Boxes_rowLength (w_Boxes_rowLength) rm_Boxes_rowLength (va_Pc [.int x0] (PreW (dC, dI) [] (([] : va_W)) sz tt)) (va_Qi (fun (r : Int32) (_ : Unit) => r = out) (fun _ => AftW (dC, dI) [] (va_A (([] : va_W)) sz) (([] : va_W))) (va_A (([] : va_W)) sz)) 0 0 (va_A (([] : va_W)) sz) := by
  refine Met.ofW (cc := k_Boxes_rowLength) (maxL := 1) (ret := (some .int)) (by decide) rfl ?_
  intro p e s m args below meth c s₁ B hml hv
  obtain ⟨rfl, hsz, hP, hK, hD0, hG⟩ := hv
  have hx := B.exec
  have hb := B.bytes
  have hr := B.returns
  have hts := atoms_spec (ws := (w_Boxes_rowLength)) B.pre
  have hB : ∀ w ∈ BIG, w.before _ s = true := fun w h9 => hts w (List.mem_cons_of_mem _ h9)
  have hown : s.vm.findClass R_Boxes = some m.cls := findClass_of_methodNamed B.named
  have hlocks := B.notSynchronized
  subst hsz
  have hD := hD0.self (sz := s.heap.size)
  generalize hAe : va_A (([] : va_W)) s.heap.size = A at hD hG ⊢
  have hA : ∀ q : Nat, s.heap.size ≤ q → A q := fun q h => by rw [← hAe]; exact Or.inr h
  have hS : va_S A s.heap s.heap [] := va_S.rf
  have hl := lv_entry ([.int x0]) (n := 1) (Nat.le_of_ble_eq_true rfl)
  rw [lg_entry_eq]
  generalize (lg_sl ([.int x0]) ++ List.replicate (1 - (lg_sl ([.int x0])).length) Slot.unset).toArray = ls at hl ⊢
  have hl : lv_has ls 1 [(0, .int x0)] := hl
  unfold d_Boxes_rowLength at h
  refine lv_iload_n hx hb d_Boxes_rowLength_0 rfl (lv_at hl 0 rfl) ?_
  refine lv_bipush (v := 8) hx hb d_Boxes_rowLength_1 (by decide) ?_
  refine lv_irem hx hb d_Boxes_rowLength_3 (by decide) ?_
  refine lv_iconst (v := 2) hx hb d_Boxes_rowLength_4 (by decide) ?_
  refine lv_isub hx hb d_Boxes_rowLength_5 ?_
  have h := Option.some.inj h
  subst h
  exact W.iret hx hb hr (fun t ht hW => ⟨⟨_, (), rfl, rfl, AftW_mk hK hP hD ht hW⟩, hS.F ht⟩) hS.2.2 d_Boxes_rowLength_6
def d_Boxes_thrownUnless (N : Nat) (x1 : Int32) (x2 : Int32) (holds : Nat → Int32) : Option (Int32) :=
 gI x1 8 (if (holds x1.toNatClampNeg) = 0 then some (3 : Int32) else if (holds x1.toNatClampNeg) = x2 then some (0 : Int32) else some (4 : Int32))
abbrev rm_Boxes_thrownUnless : Room := { frames := 0, cells := 0, slots := 0, locals := 0 }
set_option maxHeartbeats 4000000 in
set_option maxRecDepth 100000 in
theorem c_Boxes_thrownUnless (l : Launch) (dC : Nat → ClassId) (dI : Nat → Nat → Nat) (tt : Nat → Nat) (ad : Nat → Nat) (cs : Nat → ClassId) (r1 : Nat → Nat) (rc1 : ClassId) (pr : va_W) (sz N : Nat) (x1 : Int32) (x2 : Int32) (holds : Nat → Int32) (numbers : Nat → Int32) (lengths : Nat → Int32) (rows : Nat → Nat → Int32) (out : Int32) (h : d_Boxes_thrownUnless N x1 x2 holds = some out) :
    Met l y_Boxes_thrownUnless (w_Boxes_thrownUnless) rm_Boxes_thrownUnless (va_Pc [.ref (ad 0), .int x1, .int x2] (PreW (dC, dI) [((cs 1), .int), ((cs 2), .int), ((cs 3), .int), ((cs 4), .array .int), (rc1, .int)] ((x_Boxes ad cs r1 holds numbers lengths) ++ (gw 8 r1 rc1 5 rows ++ pr)) sz tt)) (va_Qi (fun (r : Int32) (_ : Unit) => r = out) (fun _ => AftW (dC, dI) [((cs 1), .int), ((cs 2), .int), ((cs 3), .int), ((cs 4), .array .int), (rc1, .int)] (va_A ((x_Boxes ad cs r1 holds numbers lengths) ++ (gw 8 r1 rc1 5 rows ++ pr)) sz) ((x_Boxes ad cs r1 holds numbers lengths) ++ (gw 8 r1 rc1 5 rows ++ pr))) (va_A ((x_Boxes ad cs r1 holds numbers lengths) ++ (gw 8 r1 rc1 5 rows ++ pr)) sz)) 0 0 (va_A ((x_Boxes ad cs r1 holds numbers lengths) ++ (gw 8 r1 rc1 5 rows ++ pr)) sz) := by
  refine Met.ofW (cc := k_Boxes_thrownUnless) (maxL := 3) (ret := (some .int)) (by decide) rfl ?_
  intro p e s m args below meth c s₁ B hml hv
  obtain ⟨rfl, hsz, hP, hK, hD0, hG⟩ := hv
  have hx := B.exec
  have hb := B.bytes
  have hr := B.returns
  have hts := atoms_spec (ws := (w_Boxes_thrownUnless)) B.pre
  have hB : ∀ w ∈ BIG, w.before _ s = true := fun w h9 => hts w (List.mem_cons_of_mem _ h9)
  have hown : s.vm.findClass R_Boxes = some m.cls := findClass_of_methodNamed B.named
  have hlocks := B.notSynchronized
  subst hsz
  have hD := hD0.self (sz := s.heap.size)
  generalize hAe : va_A ((x_Boxes ad cs r1 holds numbers lengths) ++ (gw 8 r1 rc1 5 rows ++ pr)) s.heap.size = A at hD hG ⊢
  have hA : ∀ q : Nat, s.heap.size ≤ q → A q := fun q h => by rw [← hAe]; exact Or.inr h
  have hS : va_S A s.heap s.heap [] := va_S.rf
  have hl := lv_entry ([.ref (ad 0), .int x1, .int x2]) (n := 3) (Nat.le_of_ble_eq_true rfl)
  rw [lg_entry_eq]
  generalize (lg_sl ([.ref (ad 0), .int x1, .int x2]) ++ List.replicate (3 - (lg_sl ([.ref (ad 0), .int x1, .int x2])).length) Slot.unset).toArray = ls at hl ⊢
  have hl : lv_has ls 3 [(0, .ref (ad 0)), (1, .int x1), (2, .int x2)] := hl
  unfold d_Boxes_thrownUnless at h
  refine lv_aload_n hx hb d_Boxes_thrownUnless_0 rfl (lv_at hl 0 rfl) ?_
  refine va_get (D := (dC, dI)) (ci := 2) (v := .ref (ad 1)) (C := R_Boxes) (T := T_Boxes) (N := 4) hx hb hB in_Boxes hown hK hP 0 rfl rfl 0 (by decide) (hB _ wd_18) (fun _ h9 => h9) rfl d_Boxes_thrownUnless_1 ?_
  refine lv_iload_n hx hb d_Boxes_thrownUnless_4 rfl (lv_at hl 1 rfl) ?_
  obtain ⟨b_1, h⟩ := gI_some h
  refine va_iald hx hb hK hP 1 0 rfl rfl b_1 d_Boxes_thrownUnless_5 ?_
  refine lv_if_ne (tgt := 11) hx hb d_Boxes_thrownUnless_6 (by decide) (fun c_2 => ?_) (fun c_2 => ?_)
  · have h := (if_neg c_2).symm.trans h
    refine lv_aload_n hx hb d_Boxes_thrownUnless_11 rfl (lv_at hl 0 rfl) ?_
    refine va_get (D := (dC, dI)) (ci := 2) (v := .ref (ad 1)) (C := R_Boxes) (T := T_Boxes) (N := 4) hx hb hB in_Boxes hown hK hP 0 rfl rfl 0 (by decide) (hB _ wd_18) (fun _ h9 => h9) rfl d_Boxes_thrownUnless_12 ?_
    refine lv_iload_n hx hb d_Boxes_thrownUnless_15 rfl (lv_at hl 1 rfl) ?_
    refine va_iald hx hb hK hP 1 0 rfl rfl b_1 d_Boxes_thrownUnless_16 ?_
    refine lv_iload_n hx hb d_Boxes_thrownUnless_17 rfl (lv_at hl 2 rfl) ?_
    refine lv_icmp_ne (tgt := 25) hx hb d_Boxes_thrownUnless_18 (by decide) (fun c_3 => ?_) (fun c_3 => ?_)
    · have h := (if_neg c_3).symm.trans h
      refine lv_iconst (v := 4) hx hb d_Boxes_thrownUnless_25 (by decide) ?_
      have h := Option.some.inj h
      subst h
      exact W.iret hx hb hr (fun t ht hW => ⟨⟨_, (), rfl, rfl, AftW_mk hK hP hD ht hW⟩, hS.F ht⟩) hS.2.2 d_Boxes_thrownUnless_26
    · have h := (if_pos c_3).symm.trans h
      refine lv_iconst (v := 0) hx hb d_Boxes_thrownUnless_21 (by decide) ?_
      refine lv_goto (tgt := 26) hx hb d_Boxes_thrownUnless_22 (by decide) ?_
      have h := Option.some.inj h
      subst h
      exact W.iret hx hb hr (fun t ht hW => ⟨⟨_, (), rfl, rfl, AftW_mk hK hP hD ht hW⟩, hS.F ht⟩) hS.2.2 d_Boxes_thrownUnless_26
  · have h := (if_pos c_2).symm.trans h
    refine lv_iconst (v := 3) hx hb d_Boxes_thrownUnless_9 (by decide) ?_
    have h := Option.some.inj h
    subst h
    exact W.iret hx hb hr (fun t ht hW => ⟨⟨_, (), rfl, rfl, AftW_mk hK hP hD ht hW⟩, hS.F ht⟩) hS.2.2 d_Boxes_thrownUnless_10
def d_Boxes_thrownUnlessInRow (N : Nat) (x1 : Int32) (x2 : Int32) (holds : Nat → Int32) (lengths : Nat → Int32) : Option (Int32) :=
 (d_Boxes_thrownUnless N x1 (2 : Int32) holds).bind (fun o1 => if o1 = 0 then gI x1 8 (if (lengths x1.toNatClampNeg) ≤ x2 then some (1 : Int32) else some (0 : Int32)) else some o1)
abbrev rm_Boxes_thrownUnlessInRow : Room := { frames := 1, cells := 0, slots := 0, locals := 22 }
set_option maxHeartbeats 4000000 in
set_option maxRecDepth 100000 in
theorem c_Boxes_thrownUnlessInRow (l : Launch) (dC : Nat → ClassId) (dI : Nat → Nat → Nat) (tt : Nat → Nat) (ad : Nat → Nat) (cs : Nat → ClassId) (r1 : Nat → Nat) (rc1 : ClassId) (pr : va_W) (sz N : Nat) (x1 : Int32) (x2 : Int32) (holds : Nat → Int32) (numbers : Nat → Int32) (lengths : Nat → Int32) (rows : Nat → Nat → Int32) (out : Int32) (h : d_Boxes_thrownUnlessInRow N x1 x2 holds lengths = some out) :
    Met l y_Boxes_thrownUnlessInRow (w_Boxes_thrownUnlessInRow) rm_Boxes_thrownUnlessInRow (va_Pc [.ref (ad 0), .int x1, .int x2] (PreW (dC, dI) [((cs 1), .int), ((cs 2), .int), ((cs 3), .int), ((cs 4), .array .int), (rc1, .int)] ((x_Boxes ad cs r1 holds numbers lengths) ++ (gw 8 r1 rc1 5 rows ++ pr)) sz tt)) (va_Qi (fun (r : Int32) (_ : Unit) => r = out) (fun _ => AftW (dC, dI) [((cs 1), .int), ((cs 2), .int), ((cs 3), .int), ((cs 4), .array .int), (rc1, .int)] (va_A ((x_Boxes ad cs r1 holds numbers lengths) ++ (gw 8 r1 rc1 5 rows ++ pr)) sz) ((x_Boxes ad cs r1 holds numbers lengths) ++ (gw 8 r1 rc1 5 rows ++ pr))) (va_A ((x_Boxes ad cs r1 holds numbers lengths) ++ (gw 8 r1 rc1 5 rows ++ pr)) sz)) 0 0 (va_A ((x_Boxes ad cs r1 holds numbers lengths) ++ (gw 8 r1 rc1 5 rows ++ pr)) sz) := by
  refine Met.ofW (cc := k_Boxes_thrownUnlessInRow) (maxL := 4) (ret := (some .int)) (by decide) rfl ?_
  intro p e s m args below meth c s₁ B hml hv
  obtain ⟨rfl, hsz, hP, hK, hD0, hG⟩ := hv
  have hx := B.exec
  have hb := B.bytes
  have hr := B.returns
  have hts := atoms_spec (ws := (w_Boxes_thrownUnlessInRow)) B.pre
  have hB : ∀ w ∈ BIG, w.before _ s = true := fun w h9 => hts w (List.mem_cons_of_mem _ h9)
  have hown : s.vm.findClass R_Boxes = some m.cls := findClass_of_methodNamed B.named
  have hlocks := B.notSynchronized
  subst hsz
  have hD := hD0.self (sz := s.heap.size)
  generalize hAe : va_A ((x_Boxes ad cs r1 holds numbers lengths) ++ (gw 8 r1 rc1 5 rows ++ pr)) s.heap.size = A at hD hG ⊢
  have hA : ∀ q : Nat, s.heap.size ≤ q → A q := fun q h => by rw [← hAe]; exact Or.inr h
  have hS : va_S A s.heap s.heap [] := va_S.rf
  have hl := lv_entry ([.ref (ad 0), .int x1, .int x2]) (n := 4) (Nat.le_of_ble_eq_true rfl)
  rw [lg_entry_eq]
  generalize (lg_sl ([.ref (ad 0), .int x1, .int x2]) ++ List.replicate (4 - (lg_sl ([.ref (ad 0), .int x1, .int x2])).length) Slot.unset).toArray = ls at hl ⊢
  have hl : lv_has ls 4 [(0, .ref (ad 0)), (1, .int x1), (2, .int x2)] := hl
  unfold d_Boxes_thrownUnlessInRow at h
  refine lv_aload_n hx hb d_Boxes_thrownUnlessInRow_0 rfl (lv_at hl 0 rfl) ?_
  refine lv_iload_n hx hb d_Boxes_thrownUnlessInRow_1 rfl (lv_at hl 1 rfl) ?_
  refine lv_iconst (v := 2) hx hb d_Boxes_thrownUnlessInRow_2 (by decide) ?_
  obtain ⟨o1, ho1, h⟩ := Option.bind_eq_some_iff.mp h
  have hKc := hK.sub (tys' := [((cs 1), .int), ((cs 2), .int), ((cs 3), .int), ((cs 4), .array .int), (rc1, .int)]) [0, 1, 2, 3, 4] rfl
  have hPc := hP.part (cx := x_Boxes ad cs r1 holds numbers lengths) [0, 1, 2, 3, 4] rfl
  have hDc := hD.part (cx := x_Boxes ad cs r1 holds numbers lengths) [0, 1, 2, 3, 4] (by decide) rfl
  have hFc := va_freeP (cx := x_Boxes ad cs r1 holds numbers lengths) hD hS hA [0, 1, 2, 3, 4] rfl
  refine va_calli (va_runV (As := [.int x1, .int (2 : Int32)]) (rest := []) ⟨hx, hb, hml, hown, hB⟩ (c_Boxes_thrownUnless l dC dI tt ad cs r1 rc1 pr s.heap.size N x1 (2 : Int32) holds numbers lengths rows o1 ho1) (cwV 2 hB (gV wd_26 wd_23 wd_22 wd_24 wd_25) rfl rfl rfl (by decide +kernel) ⟨Nat.le_of_ble_eq_true rfl, Nat.le_of_ble_eq_true rfl⟩) ⟨PreW_blind, va_recv hKc hPc (ci := 2) (q0 := 0) rfl rfl, PreW_mk hKc hPc hDc hG hS hFc⟩ rfl rfl hl.1 rfl (lv_room (Nat.le_of_ble_eq_true rfl)) d_Boxes_thrownUnlessInRow_3 ⟨Nat.le_of_ble_eq_true rfl, Nat.le_of_ble_eq_true rfl⟩) hS (fun q _ h => hFc q h) hFc (fun r_1 u_1 t H1 locs ht hvm hw hB hz1 hk1 hS => ?_)
  have hw := hw.symm
  subst hw
  obtain ⟨hP1, hK1, hD1⟩ := hB
  rw [ht] at hP1
  obtain ⟨hP, hD⟩ := va_joinP (wr := pick (x_Boxes ad cs r1 holds numbers lengths) []) hP hD [0, 1, 2, 3, 4] [] rfl rfl (by decide) (by decide) hk1 hFc hP1 hD1
  generalize H1 = H at hP hS ⊢
  have hP : va_P (dC, dI) vwCl ((x_Boxes ad cs r1 holds numbers lengths) ++ (gw 8 r1 rc1 5 rows ++ pr)) H := hP.part (cx := x_Boxes ad cs r1 holds numbers lengths) [0, 1, 2, 3, 4] rfl
  have hD : va_D A ((x_Boxes ad cs r1 holds numbers lengths) ++ (gw 8 r1 rc1 5 rows ++ pr)) := hD.part (cx := x_Boxes ad cs r1 holds numbers lengths) [0, 1, 2, 3, 4] (by decide) rfl
  refine lv_istore_n (lv' := [(3, .int o1), (0, .ref (ad 0)), (1, .int x1), (2, .int x2)]) hx hb d_Boxes_thrownUnlessInRow_6 rfl hl (by decide) rfl (fun ls hl => ?_)
  refine lv_iload_n hx hb d_Boxes_thrownUnlessInRow_7 rfl (lv_at hl 0 rfl) ?_
  refine lv_if_eq (tgt := 13) hx hb d_Boxes_thrownUnlessInRow_8 (by decide) (fun c_2 => ?_) (fun c_2 => ?_)
  · have h := (if_pos c_2).symm.trans h
    refine lv_iload_n hx hb d_Boxes_thrownUnlessInRow_13 rfl (lv_at hl 3 rfl) ?_
    refine lv_aload_n hx hb d_Boxes_thrownUnlessInRow_14 rfl (lv_at hl 1 rfl) ?_
    refine va_get (D := (dC, dI)) (ci := 2) (v := .ref (ad 3)) (C := R_Boxes) (T := T_Boxes) (N := 4) hx hb hB in_Boxes hown hK hP 0 rfl rfl 2 (by decide) (hB _ wd_20) (fun _ h9 => h9) rfl d_Boxes_thrownUnlessInRow_15 ?_
    refine lv_iload_n hx hb d_Boxes_thrownUnlessInRow_18 rfl (lv_at hl 2 rfl) ?_
    obtain ⟨b_3, h⟩ := gI_some h
    refine va_iald hx hb hK hP 3 2 rfl rfl b_3 d_Boxes_thrownUnlessInRow_19 ?_
    refine lv_icmp_ge (tgt := 27) hx hb d_Boxes_thrownUnlessInRow_20 (by decide) (fun c_4 => ?_) (fun c_4 => ?_)
    · have h := (if_pos c_4).symm.trans h
      refine lv_iconst (v := 1) hx hb d_Boxes_thrownUnlessInRow_27 (by decide) ?_
      have h := Option.some.inj h
      subst h
      exact W.iret hx hb hr (fun t ht hW => ⟨⟨_, (), rfl, rfl, AftW_mk hK hP hD ht hW⟩, hS.F ht⟩) hS.2.2 d_Boxes_thrownUnlessInRow_28
    · have h := (if_neg c_4).symm.trans h
      refine lv_iconst (v := 0) hx hb d_Boxes_thrownUnlessInRow_23 (by decide) ?_
      refine lv_goto (tgt := 28) hx hb d_Boxes_thrownUnlessInRow_24 (by decide) ?_
      have h := Option.some.inj h
      subst h
      exact W.iret hx hb hr (fun t ht hW => ⟨⟨_, (), rfl, rfl, AftW_mk hK hP hD ht hW⟩, hS.F ht⟩) hS.2.2 d_Boxes_thrownUnlessInRow_28
  · have h := (if_neg c_2).symm.trans h
    refine lv_iload_n hx hb d_Boxes_thrownUnlessInRow_11 rfl (lv_at hl 0 rfl) ?_
    have h := Option.some.inj h
    subst h
    exact W.iret hx hb hr (fun t ht hW => ⟨⟨_, (), rfl, rfl, AftW_mk hK hP hD ht hW⟩, hS.F ht⟩) hS.2.2 d_Boxes_thrownUnlessInRow_12
def d_Boxes_thrownBy (N : Nat) (x1 : Int32) (x2 : Int32) (x3 : Int32) (holds : Nat → Int32) (lengths : Nat → Int32) : Option (Int32) :=
 if x1 = 1 then (d_Boxes_rowLength N x3).bind (fun o2 => if 0 ≤ o2 then some (0 : Int32) else some (5 : Int32)) else if x1 = 2 then (d_Boxes_thrownUnless N x2 (1 : Int32) holds).bind (fun o5 => some o5) else if x1 = 3 then (d_Boxes_thrownUnless N x2 (2 : Int32) holds).bind (fun o7 => some o7) else if x1 = 4 then (d_Boxes_thrownUnlessInRow N x2 x3 holds lengths).bind (fun o9 => some o9) else if x1 = 5 then (d_Boxes_thrownUnlessInRow N x2 x3 holds lengths).bind (fun o11 => some o11) else if x1 = 6 then some (0 : Int32) else if x1 = 7 then some (6 : Int32) else some (0 : Int32)
abbrev rm_Boxes_thrownBy : Room := { frames := 2, cells := 0, slots := 0, locals := 45 }
set_option maxHeartbeats 4000000 in
set_option maxRecDepth 100000 in
theorem c_Boxes_thrownBy (l : Launch) (dC : Nat → ClassId) (dI : Nat → Nat → Nat) (tt : Nat → Nat) (ad : Nat → Nat) (cs : Nat → ClassId) (r1 : Nat → Nat) (rc1 : ClassId) (pr : va_W) (sz N : Nat) (x1 : Int32) (x2 : Int32) (x3 : Int32) (holds : Nat → Int32) (numbers : Nat → Int32) (lengths : Nat → Int32) (rows : Nat → Nat → Int32) (out : Int32) (h : d_Boxes_thrownBy N x1 x2 x3 holds lengths = some out) :
    Met l y_Boxes_thrownBy (w_Boxes_thrownBy) rm_Boxes_thrownBy (va_Pc [.ref (ad 0), .int x1, .int x2, .int x3] (PreW (dC, dI) [((cs 1), .int), ((cs 2), .int), ((cs 3), .int), ((cs 4), .array .int), (rc1, .int)] ((x_Boxes ad cs r1 holds numbers lengths) ++ (gw 8 r1 rc1 5 rows ++ pr)) sz tt)) (va_Qi (fun (r : Int32) (_ : Unit) => r = out) (fun _ => AftW (dC, dI) [((cs 1), .int), ((cs 2), .int), ((cs 3), .int), ((cs 4), .array .int), (rc1, .int)] (va_A ((x_Boxes ad cs r1 holds numbers lengths) ++ (gw 8 r1 rc1 5 rows ++ pr)) sz) ((x_Boxes ad cs r1 holds numbers lengths) ++ (gw 8 r1 rc1 5 rows ++ pr))) (va_A ((x_Boxes ad cs r1 holds numbers lengths) ++ (gw 8 r1 rc1 5 rows ++ pr)) sz)) 0 0 (va_A ((x_Boxes ad cs r1 holds numbers lengths) ++ (gw 8 r1 rc1 5 rows ++ pr)) sz) := by
  refine Met.ofW (cc := k_Boxes_thrownBy) (maxL := 4) (ret := (some .int)) (by decide) rfl ?_
  intro p e s m args below meth c s₁ B hml hv
  obtain ⟨rfl, hsz, hP, hK, hD0, hG⟩ := hv
  have hx := B.exec
  have hb := B.bytes
  have hr := B.returns
  have hts := atoms_spec (ws := (w_Boxes_thrownBy)) B.pre
  have hB : ∀ w ∈ BIG, w.before _ s = true := fun w h9 => hts w (List.mem_cons_of_mem _ h9)
  have hown : s.vm.findClass R_Boxes = some m.cls := findClass_of_methodNamed B.named
  have hlocks := B.notSynchronized
  subst hsz
  have hD := hD0.self (sz := s.heap.size)
  generalize hAe : va_A ((x_Boxes ad cs r1 holds numbers lengths) ++ (gw 8 r1 rc1 5 rows ++ pr)) s.heap.size = A at hD hG ⊢
  have hA : ∀ q : Nat, s.heap.size ≤ q → A q := fun q h => by rw [← hAe]; exact Or.inr h
  have hS : va_S A s.heap s.heap [] := va_S.rf
  have hl := lv_entry ([.ref (ad 0), .int x1, .int x2, .int x3]) (n := 4) (Nat.le_of_ble_eq_true rfl)
  rw [lg_entry_eq]
  generalize (lg_sl ([.ref (ad 0), .int x1, .int x2, .int x3]) ++ List.replicate (4 - (lg_sl ([.ref (ad 0), .int x1, .int x2, .int x3])).length) Slot.unset).toArray = ls at hl ⊢
  have hl : lv_has ls 4 [(0, .ref (ad 0)), (1, .int x1), (2, .int x2), (3, .int x3)] := hl
  unfold d_Boxes_thrownBy at h
  refine lv_iload_n hx hb d_Boxes_thrownBy_0 rfl (lv_at hl 1 rfl) ?_
  by_cases c_1 : x1 = 1
  · have h := (if_pos c_1).symm.trans h
    refine lv_tableIn (tgt := 44) hx hb d_Boxes_thrownBy_1 (by rw [c_1]; decide) (by rw [c_1]; decide) (by first | (rw [c_1]; done) | (rw [c_1]; rfl)) (by decide) ?_
    refine lv_iload_n hx hb d_Boxes_thrownBy_44 rfl (lv_at hl 3 rfl) ?_
    obtain ⟨o2, ho2, h⟩ := Option.bind_eq_some_iff.mp h
    have hKc := hK.sub (tys' := []) [] rfl
    have hPc := pl_P (cx := ([] : va_W)) hP [] rfl
    have hDc := pl_D (cx := ([] : va_W)) hD [] (by decide) rfl
    have hFc := pl_F (cx := ([] : va_W)) hD hS hA [] rfl
    refine va_calli (va_runS (As := [.int x3]) (rest := []) ⟨hx, hb, hml, hown, hB⟩ (c_Boxes_rowLength l dC dI tt s.heap.size N x3 o2 ho2) (va_cwS 1 hB (gS wd_29 wd_27 wd_24 wd_28) rfl rfl rfl (by decide +kernel) ⟨Nat.le_of_ble_eq_true rfl, Nat.le_of_ble_eq_true rfl⟩) ⟨PreW_blind, PreW_mk hKc hPc hDc hG hS hFc⟩ rfl rfl hl.1 rfl (lv_room (Nat.le_of_ble_eq_true rfl)) d_Boxes_thrownBy_45 ⟨Nat.le_of_ble_eq_true rfl, Nat.le_of_ble_eq_true rfl⟩) hS (fun q _ h => hFc q h) hFc (fun r_2 u_2 t H1 locs ht hvm hw hB hz1 hk1 hS => ?_)
    have hw := hw.symm
    subst hw
    obtain ⟨hP1, hK1, hD1⟩ := hB
    rw [ht] at hP1
    obtain ⟨hP, hD⟩ := va_joinQ (wr := pick (x_Boxes ad cs r1 holds numbers lengths) [0, 1, 2, 3, 4]) hP hD [] [0, 1, 2, 3, 4] rfl rfl (by decide) (by decide) hk1 hFc hP1 hD1
    generalize H1 = H at hP hS ⊢
    have hP : va_P (dC, dI) vwCl ((x_Boxes ad cs r1 holds numbers lengths) ++ (gw 8 r1 rc1 5 rows ++ pr)) H := hP.part (cx := x_Boxes ad cs r1 holds numbers lengths) [0, 1, 2, 3, 4] rfl
    have hD : va_D A ((x_Boxes ad cs r1 holds numbers lengths) ++ (gw 8 r1 rc1 5 rows ++ pr)) := hD.part (cx := x_Boxes ad cs r1 holds numbers lengths) [0, 1, 2, 3, 4] (by decide) rfl
    refine lv_if_ge (tgt := 55) hx hb d_Boxes_thrownBy_48 (by decide) (fun c_3 => ?_) (fun c_3 => ?_)
    · have h := (if_pos c_3).symm.trans h
      refine lv_iconst (v := 0) hx hb d_Boxes_thrownBy_55 (by decide) ?_
      have h := Option.some.inj h
      subst h
      exact W.iret hx hb hr (fun t ht hW => ⟨⟨_, (), rfl, rfl, AftW_mk hK hP hD ht hW⟩, hS.F ht⟩) hS.2.2 d_Boxes_thrownBy_56
    · have h := (if_neg c_3).symm.trans h
      refine lv_iconst (v := 5) hx hb d_Boxes_thrownBy_51 (by decide) ?_
      refine lv_goto (tgt := 56) hx hb d_Boxes_thrownBy_52 (by decide) ?_
      have h := Option.some.inj h
      subst h
      exact W.iret hx hb hr (fun t ht hW => ⟨⟨_, (), rfl, rfl, AftW_mk hK hP hD ht hW⟩, hS.F ht⟩) hS.2.2 d_Boxes_thrownBy_56
  have h := (if_neg c_1).symm.trans h
  by_cases c_4 : x1 = 2
  · have h := (if_pos c_4).symm.trans h
    refine lv_tableIn (tgt := 57) hx hb d_Boxes_thrownBy_1 (by rw [c_4]; decide) (by rw [c_4]; decide) (by first | (rw [c_4]; done) | (rw [c_4]; rfl)) (by decide) ?_
    refine lv_aload_n hx hb d_Boxes_thrownBy_57 rfl (lv_at hl 0 rfl) ?_
    refine lv_iload_n hx hb d_Boxes_thrownBy_58 rfl (lv_at hl 2 rfl) ?_
    refine lv_iconst (v := 1) hx hb d_Boxes_thrownBy_59 (by decide) ?_
    obtain ⟨o5, ho5, h⟩ := Option.bind_eq_some_iff.mp h
    have hKc := hK.sub (tys' := [((cs 1), .int), ((cs 2), .int), ((cs 3), .int), ((cs 4), .array .int), (rc1, .int)]) [0, 1, 2, 3, 4] rfl
    have hPc := hP.part (cx := x_Boxes ad cs r1 holds numbers lengths) [0, 1, 2, 3, 4] rfl
    have hDc := hD.part (cx := x_Boxes ad cs r1 holds numbers lengths) [0, 1, 2, 3, 4] (by decide) rfl
    have hFc := va_freeP (cx := x_Boxes ad cs r1 holds numbers lengths) hD hS hA [0, 1, 2, 3, 4] rfl
    refine va_calli (va_runV (As := [.int x2, .int (1 : Int32)]) (rest := []) ⟨hx, hb, hml, hown, hB⟩ (c_Boxes_thrownUnless l dC dI tt ad cs r1 rc1 pr s.heap.size N x2 (1 : Int32) holds numbers lengths rows o5 ho5) (cwV 2 hB (gV wd_26 wd_23 wd_22 wd_24 wd_25) rfl rfl rfl (by decide +kernel) ⟨Nat.le_of_ble_eq_true rfl, Nat.le_of_ble_eq_true rfl⟩) ⟨PreW_blind, va_recv hKc hPc (ci := 2) (q0 := 0) rfl rfl, PreW_mk hKc hPc hDc hG hS hFc⟩ rfl rfl hl.1 rfl (lv_room (Nat.le_of_ble_eq_true rfl)) d_Boxes_thrownBy_60 ⟨Nat.le_of_ble_eq_true rfl, Nat.le_of_ble_eq_true rfl⟩) hS (fun q _ h => hFc q h) hFc (fun r_5 u_5 t H1 locs ht hvm hw hB hz1 hk1 hS => ?_)
    have hw := hw.symm
    subst hw
    obtain ⟨hP1, hK1, hD1⟩ := hB
    rw [ht] at hP1
    obtain ⟨hP, hD⟩ := va_joinP (wr := pick (x_Boxes ad cs r1 holds numbers lengths) []) hP hD [0, 1, 2, 3, 4] [] rfl rfl (by decide) (by decide) hk1 hFc hP1 hD1
    generalize H1 = H at hP hS ⊢
    have hP : va_P (dC, dI) vwCl ((x_Boxes ad cs r1 holds numbers lengths) ++ (gw 8 r1 rc1 5 rows ++ pr)) H := hP.part (cx := x_Boxes ad cs r1 holds numbers lengths) [0, 1, 2, 3, 4] rfl
    have hD : va_D A ((x_Boxes ad cs r1 holds numbers lengths) ++ (gw 8 r1 rc1 5 rows ++ pr)) := hD.part (cx := x_Boxes ad cs r1 holds numbers lengths) [0, 1, 2, 3, 4] (by decide) rfl
    have h := Option.some.inj h
    subst h
    exact W.iret hx hb hr (fun t ht hW => ⟨⟨_, (), rfl, rfl, AftW_mk hK hP hD ht hW⟩, hS.F ht⟩) hS.2.2 d_Boxes_thrownBy_63
  have h := (if_neg c_4).symm.trans h
  by_cases c_6 : x1 = 3
  · have h := (if_pos c_6).symm.trans h
    refine lv_tableIn (tgt := 64) hx hb d_Boxes_thrownBy_1 (by rw [c_6]; decide) (by rw [c_6]; decide) (by first | (rw [c_6]; done) | (rw [c_6]; rfl)) (by decide) ?_
    refine lv_aload_n hx hb d_Boxes_thrownBy_64 rfl (lv_at hl 0 rfl) ?_
    refine lv_iload_n hx hb d_Boxes_thrownBy_65 rfl (lv_at hl 2 rfl) ?_
    refine lv_iconst (v := 2) hx hb d_Boxes_thrownBy_66 (by decide) ?_
    obtain ⟨o7, ho7, h⟩ := Option.bind_eq_some_iff.mp h
    have hKc := hK.sub (tys' := [((cs 1), .int), ((cs 2), .int), ((cs 3), .int), ((cs 4), .array .int), (rc1, .int)]) [0, 1, 2, 3, 4] rfl
    have hPc := hP.part (cx := x_Boxes ad cs r1 holds numbers lengths) [0, 1, 2, 3, 4] rfl
    have hDc := hD.part (cx := x_Boxes ad cs r1 holds numbers lengths) [0, 1, 2, 3, 4] (by decide) rfl
    have hFc := va_freeP (cx := x_Boxes ad cs r1 holds numbers lengths) hD hS hA [0, 1, 2, 3, 4] rfl
    refine va_calli (va_runV (As := [.int x2, .int (2 : Int32)]) (rest := []) ⟨hx, hb, hml, hown, hB⟩ (c_Boxes_thrownUnless l dC dI tt ad cs r1 rc1 pr s.heap.size N x2 (2 : Int32) holds numbers lengths rows o7 ho7) (cwV 2 hB (gV wd_26 wd_23 wd_22 wd_24 wd_25) rfl rfl rfl (by decide +kernel) ⟨Nat.le_of_ble_eq_true rfl, Nat.le_of_ble_eq_true rfl⟩) ⟨PreW_blind, va_recv hKc hPc (ci := 2) (q0 := 0) rfl rfl, PreW_mk hKc hPc hDc hG hS hFc⟩ rfl rfl hl.1 rfl (lv_room (Nat.le_of_ble_eq_true rfl)) d_Boxes_thrownBy_67 ⟨Nat.le_of_ble_eq_true rfl, Nat.le_of_ble_eq_true rfl⟩) hS (fun q _ h => hFc q h) hFc (fun r_7 u_7 t H1 locs ht hvm hw hB hz1 hk1 hS => ?_)
    have hw := hw.symm
    subst hw
    obtain ⟨hP1, hK1, hD1⟩ := hB
    rw [ht] at hP1
    obtain ⟨hP, hD⟩ := va_joinP (wr := pick (x_Boxes ad cs r1 holds numbers lengths) []) hP hD [0, 1, 2, 3, 4] [] rfl rfl (by decide) (by decide) hk1 hFc hP1 hD1
    generalize H1 = H at hP hS ⊢
    have hP : va_P (dC, dI) vwCl ((x_Boxes ad cs r1 holds numbers lengths) ++ (gw 8 r1 rc1 5 rows ++ pr)) H := hP.part (cx := x_Boxes ad cs r1 holds numbers lengths) [0, 1, 2, 3, 4] rfl
    have hD : va_D A ((x_Boxes ad cs r1 holds numbers lengths) ++ (gw 8 r1 rc1 5 rows ++ pr)) := hD.part (cx := x_Boxes ad cs r1 holds numbers lengths) [0, 1, 2, 3, 4] (by decide) rfl
    have h := Option.some.inj h
    subst h
    exact W.iret hx hb hr (fun t ht hW => ⟨⟨_, (), rfl, rfl, AftW_mk hK hP hD ht hW⟩, hS.F ht⟩) hS.2.2 d_Boxes_thrownBy_70
  have h := (if_neg c_6).symm.trans h
  by_cases c_8 : x1 = 4
  · have h := (if_pos c_8).symm.trans h
    refine lv_tableIn (tgt := 71) hx hb d_Boxes_thrownBy_1 (by rw [c_8]; decide) (by rw [c_8]; decide) (by first | (rw [c_8]; done) | (rw [c_8]; rfl)) (by decide) ?_
    refine lv_aload_n hx hb d_Boxes_thrownBy_71 rfl (lv_at hl 0 rfl) ?_
    refine lv_iload_n hx hb d_Boxes_thrownBy_72 rfl (lv_at hl 2 rfl) ?_
    refine lv_iload_n hx hb d_Boxes_thrownBy_73 rfl (lv_at hl 3 rfl) ?_
    obtain ⟨o9, ho9, h⟩ := Option.bind_eq_some_iff.mp h
    have hKc := hK.sub (tys' := [((cs 1), .int), ((cs 2), .int), ((cs 3), .int), ((cs 4), .array .int), (rc1, .int)]) [0, 1, 2, 3, 4] rfl
    have hPc := hP.part (cx := x_Boxes ad cs r1 holds numbers lengths) [0, 1, 2, 3, 4] rfl
    have hDc := hD.part (cx := x_Boxes ad cs r1 holds numbers lengths) [0, 1, 2, 3, 4] (by decide) rfl
    have hFc := va_freeP (cx := x_Boxes ad cs r1 holds numbers lengths) hD hS hA [0, 1, 2, 3, 4] rfl
    refine va_calli (va_runV (As := [.int x2, .int x3]) (rest := []) ⟨hx, hb, hml, hown, hB⟩ (c_Boxes_thrownUnlessInRow l dC dI tt ad cs r1 rc1 pr s.heap.size N x2 x3 holds numbers lengths rows o9 ho9) (cwV 2 hB (gV wd_33 wd_31 wd_30 wd_24 wd_32) rfl rfl rfl (by decide +kernel) ⟨Nat.le_of_ble_eq_true rfl, Nat.le_of_ble_eq_true rfl⟩) ⟨PreW_blind, va_recv hKc hPc (ci := 2) (q0 := 0) rfl rfl, PreW_mk hKc hPc hDc hG hS hFc⟩ rfl rfl hl.1 rfl (lv_room (Nat.le_of_ble_eq_true rfl)) d_Boxes_thrownBy_74 ⟨Nat.le_of_ble_eq_true rfl, Nat.le_of_ble_eq_true rfl⟩) hS (fun q _ h => hFc q h) hFc (fun r_9 u_9 t H1 locs ht hvm hw hB hz1 hk1 hS => ?_)
    have hw := hw.symm
    subst hw
    obtain ⟨hP1, hK1, hD1⟩ := hB
    rw [ht] at hP1
    obtain ⟨hP, hD⟩ := va_joinP (wr := pick (x_Boxes ad cs r1 holds numbers lengths) []) hP hD [0, 1, 2, 3, 4] [] rfl rfl (by decide) (by decide) hk1 hFc hP1 hD1
    generalize H1 = H at hP hS ⊢
    have hP : va_P (dC, dI) vwCl ((x_Boxes ad cs r1 holds numbers lengths) ++ (gw 8 r1 rc1 5 rows ++ pr)) H := hP.part (cx := x_Boxes ad cs r1 holds numbers lengths) [0, 1, 2, 3, 4] rfl
    have hD : va_D A ((x_Boxes ad cs r1 holds numbers lengths) ++ (gw 8 r1 rc1 5 rows ++ pr)) := hD.part (cx := x_Boxes ad cs r1 holds numbers lengths) [0, 1, 2, 3, 4] (by decide) rfl
    have h := Option.some.inj h
    subst h
    exact W.iret hx hb hr (fun t ht hW => ⟨⟨_, (), rfl, rfl, AftW_mk hK hP hD ht hW⟩, hS.F ht⟩) hS.2.2 d_Boxes_thrownBy_77
  have h := (if_neg c_8).symm.trans h
  by_cases c_10 : x1 = 5
  · have h := (if_pos c_10).symm.trans h
    refine lv_tableIn (tgt := 71) hx hb d_Boxes_thrownBy_1 (by rw [c_10]; decide) (by rw [c_10]; decide) (by first | (rw [c_10]; done) | (rw [c_10]; rfl)) (by decide) ?_
    refine lv_aload_n hx hb d_Boxes_thrownBy_71 rfl (lv_at hl 0 rfl) ?_
    refine lv_iload_n hx hb d_Boxes_thrownBy_72 rfl (lv_at hl 2 rfl) ?_
    refine lv_iload_n hx hb d_Boxes_thrownBy_73 rfl (lv_at hl 3 rfl) ?_
    obtain ⟨o11, ho11, h⟩ := Option.bind_eq_some_iff.mp h
    have hKc := hK.sub (tys' := [((cs 1), .int), ((cs 2), .int), ((cs 3), .int), ((cs 4), .array .int), (rc1, .int)]) [0, 1, 2, 3, 4] rfl
    have hPc := hP.part (cx := x_Boxes ad cs r1 holds numbers lengths) [0, 1, 2, 3, 4] rfl
    have hDc := hD.part (cx := x_Boxes ad cs r1 holds numbers lengths) [0, 1, 2, 3, 4] (by decide) rfl
    have hFc := va_freeP (cx := x_Boxes ad cs r1 holds numbers lengths) hD hS hA [0, 1, 2, 3, 4] rfl
    refine va_calli (va_runV (As := [.int x2, .int x3]) (rest := []) ⟨hx, hb, hml, hown, hB⟩ (c_Boxes_thrownUnlessInRow l dC dI tt ad cs r1 rc1 pr s.heap.size N x2 x3 holds numbers lengths rows o11 ho11) (cwV 2 hB (gV wd_33 wd_31 wd_30 wd_24 wd_32) rfl rfl rfl (by decide +kernel) ⟨Nat.le_of_ble_eq_true rfl, Nat.le_of_ble_eq_true rfl⟩) ⟨PreW_blind, va_recv hKc hPc (ci := 2) (q0 := 0) rfl rfl, PreW_mk hKc hPc hDc hG hS hFc⟩ rfl rfl hl.1 rfl (lv_room (Nat.le_of_ble_eq_true rfl)) d_Boxes_thrownBy_74 ⟨Nat.le_of_ble_eq_true rfl, Nat.le_of_ble_eq_true rfl⟩) hS (fun q _ h => hFc q h) hFc (fun r_11 u_11 t H1 locs ht hvm hw hB hz1 hk1 hS => ?_)
    have hw := hw.symm
    subst hw
    obtain ⟨hP1, hK1, hD1⟩ := hB
    rw [ht] at hP1
    obtain ⟨hP, hD⟩ := va_joinP (wr := pick (x_Boxes ad cs r1 holds numbers lengths) []) hP hD [0, 1, 2, 3, 4] [] rfl rfl (by decide) (by decide) hk1 hFc hP1 hD1
    generalize H1 = H at hP hS ⊢
    have hP : va_P (dC, dI) vwCl ((x_Boxes ad cs r1 holds numbers lengths) ++ (gw 8 r1 rc1 5 rows ++ pr)) H := hP.part (cx := x_Boxes ad cs r1 holds numbers lengths) [0, 1, 2, 3, 4] rfl
    have hD : va_D A ((x_Boxes ad cs r1 holds numbers lengths) ++ (gw 8 r1 rc1 5 rows ++ pr)) := hD.part (cx := x_Boxes ad cs r1 holds numbers lengths) [0, 1, 2, 3, 4] (by decide) rfl
    have h := Option.some.inj h
    subst h
    exact W.iret hx hb hr (fun t ht hW => ⟨⟨_, (), rfl, rfl, AftW_mk hK hP hD ht hW⟩, hS.F ht⟩) hS.2.2 d_Boxes_thrownBy_77
  have h := (if_neg c_10).symm.trans h
  by_cases c_12 : x1 = 6
  · have h := (if_pos c_12).symm.trans h
    refine lv_tableIn (tgt := 81) hx hb d_Boxes_thrownBy_1 (by rw [c_12]; decide) (by rw [c_12]; decide) (by first | (rw [c_12]; done) | (rw [c_12]; rfl)) (by decide) ?_
    refine lv_iconst (v := 0) hx hb d_Boxes_thrownBy_81 (by decide) ?_
    have h := Option.some.inj h
    subst h
    exact W.iret hx hb hr (fun t ht hW => ⟨⟨_, (), rfl, rfl, AftW_mk hK hP hD ht hW⟩, hS.F ht⟩) hS.2.2 d_Boxes_thrownBy_82
  have h := (if_neg c_12).symm.trans h
  by_cases c_13 : x1 = 7
  · have h := (if_pos c_13).symm.trans h
    refine lv_tableIn (tgt := 78) hx hb d_Boxes_thrownBy_1 (by rw [c_13]; decide) (by rw [c_13]; decide) (by first | (rw [c_13]; done) | (rw [c_13]; rfl)) (by decide) ?_
    refine lv_bipush (v := 6) hx hb d_Boxes_thrownBy_78 (by decide) ?_
    have h := Option.some.inj h
    subst h
    exact W.iret hx hb hr (fun t ht hW => ⟨⟨_, (), rfl, rfl, AftW_mk hK hP hD ht hW⟩, hS.F ht⟩) hS.2.2 d_Boxes_thrownBy_80
  have h := (if_neg c_13).symm.trans h
  refine lv_tableOut (tgt := 81) hx hb d_Boxes_thrownBy_1 (by have e0 := lv_neT (a := 1) c_1 (by decide); have e1 := lv_neT (a := 2) c_4 (by decide); have e2 := lv_neT (a := 3) c_6 (by decide); have e3 := lv_neT (a := 4) c_8 (by decide); have e4 := lv_neT (a := 5) c_10 (by decide); have e5 := lv_neT (a := 6) c_12 (by decide); have e6 := lv_neT (a := 7) c_13 (by decide); omega) (by decide) ?_
  refine lv_iconst (v := 0) hx hb d_Boxes_thrownBy_81 (by decide) ?_
  have h := Option.some.inj h
  subst h
  exact W.iret hx hb hr (fun t ht hW => ⟨⟨_, (), rfl, rfl, AftW_mk hK hP hD ht hW⟩, hS.F ht⟩) hS.2.2 d_Boxes_thrownBy_82
