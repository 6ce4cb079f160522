def d_Dec_load (N : Nat) (x2 : Int32) (x3 : Int32) (size : Int32) (count : Int32) (data : Nat → Int32) (src : Nat → Int32) : Option (Int32 × Int32 × (Nat → Int32)) :=
 gC x2 (0 : Int32) x3 1200 64 (some (x3, (0 : Int32), va_cpy src data x2.toNatClampNeg (0 : Int32).toNatClampNeg x3.toNatClampNeg))
abbrev rm_Dec_load : Room := { frames := 1, cells := 0, slots := 0, locals := 40 }
set_option maxHeartbeats 4000000 in
set_option maxRecDepth 100000 in
theorem c_Dec_load (l : Launch) (dC : Nat → ClassId) (dI : Nat → Nat → Nat) (tt : Nat → Nat) (ad : Nat → Nat) (cs : Nat → ClassId) (e1 : Nat) (ce1 : ClassId) (r1 : Nat → Nat) (rc1 : ClassId) (pr : va_W) (sz N : Nat) (x2 : Int32) (x3 : Int32) (size : Int32) (count : Int32) (data : Nat → Int32) (made : Nat → Int32) (holds : Nat → Int32) (numbers : Nat → Int32) (lengths : Nat → Int32) (rows : Nat → Nat → Int32) (src : Nat → Int32) (out : Int32 × Int32 × (Nat → Int32)) (h : d_Dec_load N x2 x3 size count data src = some out) :
    Met l y_Dec_load (w_Dec_load) rm_Dec_load (va_Pc [.ref (ad 0), .ref e1, .int x2, .int x3] (PreW (dC, dI) [((cs 1), .int), ((cs 2), .int), ((cs 4), .int), ((cs 5), .int), ((cs 6), .int), ((cs 7), .array .int), (ce1, .int), (rc1, .int)] (((x_Dec ad cs r1 size count data made holds numbers lengths) ++ [(e1, .inl (ce1, 1200, .inl src))]) ++ (gw 8 r1 rc1 5 rows ++ pr)) sz tt)) (va_Qv (fun (_ : Unit) => True) (fun _ => AftW (dC, dI) [((cs 1), .int), ((cs 2), .int), ((cs 4), .int), ((cs 5), .int), ((cs 6), .int), ((cs 7), .array .int), (ce1, .int), (rc1, .int)] (va_A (((x_Dec ad cs r1 size count data made holds numbers lengths) ++ [(e1, .inl (ce1, 1200, .inl src))]) ++ (gw 8 r1 rc1 5 rows ++ pr)) sz) (((x_Dec ad cs r1 out.1 out.2.1 out.2.2 made holds numbers lengths) ++ [(e1, .inl (ce1, 1200, .inl src))]) ++ (gw 8 r1 rc1 5 rows ++ pr))) (va_A (((x_Dec ad cs r1 size count data made holds numbers lengths) ++ [(e1, .inl (ce1, 1200, .inl src))]) ++ (gw 8 r1 rc1 5 rows ++ pr)) sz)) 0 0 (va_A (((x_Dec ad cs r1 size count data made holds numbers lengths) ++ [(e1, .inl (ce1, 1200, .inl src))]) ++ (gw 8 r1 rc1 5 rows ++ pr)) sz) := by
  refine Met.ofW (cc := k_Dec_load) (maxL := 4) (ret := none) (by decide) rfl ?_
  intro p e s m args below meth c s₁ B hml hv
  obtain ⟨rfl, hsz, hP, hK, hD0, hG⟩ := hv
  have hx := B.exec
  have hb := B.bytes
  have hr := B.returns
  have hts := atoms_spec (ws := (w_Dec_load)) B.pre
  have hB : ∀ w ∈ BIG, w.before _ s = true := fun w h9 => hts w (List.mem_cons_of_mem _ h9)
  have hown : s.vm.findClass R_Dec = some m.cls := findClass_of_methodNamed B.named
  have hlocks := B.notSynchronized
  subst hsz
  have hD := hD0.self (sz := s.heap.size)
  generalize hAe : va_A (((x_Dec ad cs r1 size count data made holds numbers lengths) ++ [(e1, .inl (ce1, 1200, .inl src))]) ++ (gw 8 r1 rc1 5 rows ++ pr)) s.heap.size = A at hD hG ⊢
  have hA : ∀ q : Nat, s.heap.size ≤ q → A q := fun q h => by rw [← hAe]; exact Or.inr h
  have hS : va_S A s.heap s.heap [] := va_S.rf
  have hl := lv_entry ([.ref (ad 0), .ref e1, .int x2, .int x3]) (n := 4) (Nat.le_of_ble_eq_true rfl)
  rw [lg_entry_eq]
  generalize (lg_sl ([.ref (ad 0), .ref e1, .int x2, .int x3]) ++ List.replicate (4 - (lg_sl ([.ref (ad 0), .ref e1, .int x2, .int x3])).length) Slot.unset).toArray = ls at hl ⊢
  have hl : lv_has ls 4 [(0, .ref (ad 0)), (1, .ref e1), (2, .int x2), (3, .int x3)] := hl
  unfold d_Dec_load at h
  refine lv_aload_n hx hb d_Dec_load_0 rfl (lv_at hl 0 rfl) ?_
  refine lv_iload_n hx hb d_Dec_load_1 rfl (lv_at hl 3 rfl) ?_
  refine va_put (D := (dC, dI)) (ci := 1) (v := .int x3) (ty := .int) (C := R_Dec) (T := T_Dec) (N := 5) hx hb hB in_Dec ty_Dec tyok_Dec nd_Dec hown hK hP hD hS 0 rfl rfl 3 (by decide) (hB _ wd_34) (fun _ h9 => h9) rfl (by decide +kernel) rfl rfl (Nat.le_of_ble_eq_true rfl) d_Dec_load_2 (fun H locs hP hD hS => ?_)
  have hP : va_P (dC, dI) vwCl (((x_Dec ad cs r1 x3 count data made holds numbers lengths) ++ [(e1, .inl (ce1, 1200, .inl src))]) ++ (gw 8 r1 rc1 5 rows ++ pr)) H := hP
  have hD : va_D A (((x_Dec ad cs r1 x3 count data made holds numbers lengths) ++ [(e1, .inl (ce1, 1200, .inl src))]) ++ (gw 8 r1 rc1 5 rows ++ pr)) := hD
  refine lv_aload_n hx hb d_Dec_load_5 rfl (lv_at hl 0 rfl) ?_
  refine lv_iconst (v := 0) hx hb d_Dec_load_6 (by decide) ?_
  refine va_put (D := (dC, dI)) (ci := 1) (v := .int (0 : Int32)) (ty := .int) (C := R_Dec) (T := T_Dec) (N := 5) hx hb hB in_Dec ty_Dec tyok_Dec nd_Dec hown hK hP hD hS 0 rfl rfl 4 (by decide) (hB _ wd_35) (fun _ h9 => h9) rfl (by decide +kernel) rfl rfl (Nat.le_of_ble_eq_true rfl) d_Dec_load_7 (fun H locs hP hD hS => ?_)
  have hP : va_P (dC, dI) vwCl (((x_Dec ad cs r1 x3 (0 : Int32) data made holds numbers lengths) ++ [(e1, .inl (ce1, 1200, .inl src))]) ++ (gw 8 r1 rc1 5 rows ++ pr)) H := hP
  have hD : va_D A (((x_Dec ad cs r1 x3 (0 : Int32) data made holds numbers lengths) ++ [(e1, .inl (ce1, 1200, .inl src))]) ++ (gw 8 r1 rc1 5 rows ++ pr)) := hD
  refine lv_aload_n hx hb d_Dec_load_10 rfl (lv_at hl 1 rfl) ?_
  refine lv_iload_n hx hb d_Dec_load_11 rfl (lv_at hl 2 rfl) ?_
  refine lv_aload_n hx hb d_Dec_load_12 rfl (lv_at hl 0 rfl) ?_
  refine va_get (D := (dC, dI)) (ci := 1) (v := .ref (ad 1)) (C := R_Dec) (T := T_Dec) (N := 5) hx hb hB in_Dec hown hK hP 0 rfl rfl 0 (by decide) (hB _ wd_36) (fun _ h9 => h9) rfl d_Dec_load_13 ?_
  refine lv_iconst (v := 0) hx hb d_Dec_load_16 (by decide) ?_
  refine lv_iload_n hx hb d_Dec_load_17 rfl (lv_at hl 3 rfl) ?_
  obtain ⟨⟨y1_1, y2_1, y3_1, y4_1, y5_1⟩, h⟩ := gC_some h
  refine va_copyi hx hb (hml.trans hl.1.symm) hown (hB _ wd_37) (hB _ wd_38) (hB _ wd_39) (hB _ wd_40) hK hP hD hS 8 1 6 0 rfl rfl rfl rfl rfl y1_1 y2_1 y3_1 y4_1 y5_1 (fun _ _ => rfl) (Nat.le_of_ble_eq_true rfl) (Nat.le_of_ble_eq_true rfl) d_Dec_load_18 (fun H locs hP hD hS => ?_)
  have hP : va_P (dC, dI) vwCl (((x_Dec ad cs r1 x3 (0 : Int32) (va_cpy src data x2.toNatClampNeg (0 : Int32).toNatClampNeg x3.toNatClampNeg) made holds numbers lengths) ++ [(e1, .inl (ce1, 1200, .inl src))]) ++ (gw 8 r1 rc1 5 rows ++ pr)) H := hP
  have hD : va_D A (((x_Dec ad cs r1 x3 (0 : Int32) (va_cpy src data x2.toNatClampNeg (0 : Int32).toNatClampNeg x3.toNatClampNeg) made holds numbers lengths) ++ [(e1, .inl (ce1, 1200, .inl src))]) ++ (gw 8 r1 rc1 5 rows ++ pr)) := hD
  have h := Option.some.inj h
  subst h
  exact W.vret hx hb hr (fun t ht hW => ⟨⟨(), rfl, trivial, AftW_mk hK hP hD ht hW⟩, hS.F ht⟩) hS.2.2 d_Dec_load_21
def d_Dec_isFull (N : Nat) (count : Int32) : Option (Int32) :=
 if count < (16 : Int32) then some (0 : Int32) else some (1 : Int32)
abbrev rm_Dec_isFull : Room := { frames := 0, cells := 0, slots := 0, locals := 0 }
set_option maxHeartbeats 4000000 in
set_option maxRecDepth 100000 in
theorem c_Dec_isFull (l : Launch) (dC : Nat → ClassId) (dI : Nat → Nat → Nat) (tt : Nat → Nat) (ad : Nat → Nat) (cs : Nat → ClassId) (r1 : Nat → Nat) (rc1 : ClassId) (pr : va_W) (sz N : Nat) (size : Int32) (count : Int32) (data : Nat → Int32) (made : Nat → Int32) (holds : Nat → Int32) (numbers : Nat → Int32) (lengths : Nat → Int32) (rows : Nat → Nat → Int32) (out : Int32) (h : d_Dec_isFull N count = some out) :
    Met l y_Dec_isFull (w_Dec_isFull) rm_Dec_isFull (va_Pc [.ref (ad 0)] (PreW (dC, dI) [((cs 1), .int), ((cs 2), .int), ((cs 4), .int), ((cs 5), .int), ((cs 6), .int), ((cs 7), .array .int), (rc1, .int)] ((x_Dec ad cs r1 size count data made holds numbers lengths) ++ (gw 8 r1 rc1 5 rows ++ pr)) sz tt)) (va_Qi (fun (r : Int32) (_ : Unit) => r = out) (fun _ => AftW (dC, dI) [((cs 1), .int), ((cs 2), .int), ((cs 4), .int), ((cs 5), .int), ((cs 6), .int), ((cs 7), .array .int), (rc1, .int)] (va_A ((x_Dec ad cs r1 size count data made holds numbers lengths) ++ (gw 8 r1 rc1 5 rows ++ pr)) sz) ((x_Dec ad cs r1 size count data made holds numbers lengths) ++ (gw 8 r1 rc1 5 rows ++ pr))) (va_A ((x_Dec ad cs r1 size count data made holds numbers lengths) ++ (gw 8 r1 rc1 5 rows ++ pr)) sz)) 0 0 (va_A ((x_Dec ad cs r1 size count data made holds numbers lengths) ++ (gw 8 r1 rc1 5 rows ++ pr)) sz) := by
  refine Met.ofW (cc := k_Dec_isFull) (maxL := 1) (ret := (some .boolean)) (by decide) rfl ?_
  intro p e s m args below meth c s₁ B hml hv
  obtain ⟨rfl, hsz, hP, hK, hD0, hG⟩ := hv
  have hx := B.exec
  have hb := B.bytes
  have hr := B.returns
  have hts := atoms_spec (ws := (w_Dec_isFull)) B.pre
  have hB : ∀ w ∈ BIG, w.before _ s = true := fun w h9 => hts w (List.mem_cons_of_mem _ h9)
  have hown : s.vm.findClass R_Dec = some m.cls := findClass_of_methodNamed B.named
  have hlocks := B.notSynchronized
  subst hsz
  have hD := hD0.self (sz := s.heap.size)
  generalize hAe : va_A ((x_Dec ad cs r1 size count data made holds numbers lengths) ++ (gw 8 r1 rc1 5 rows ++ pr)) s.heap.size = A at hD hG ⊢
  have hA : ∀ q : Nat, s.heap.size ≤ q → A q := fun q h => by rw [← hAe]; exact Or.inr h
  have hS : va_S A s.heap s.heap [] := va_S.rf
  have hl := lv_entry ([.ref (ad 0)]) (n := 1) (Nat.le_of_ble_eq_true rfl)
  rw [lg_entry_eq]
  generalize (lg_sl ([.ref (ad 0)]) ++ List.replicate (1 - (lg_sl ([.ref (ad 0)])).length) Slot.unset).toArray = ls at hl ⊢
  have hl : lv_has ls 1 [(0, .ref (ad 0))] := hl
  unfold d_Dec_isFull at h
  refine lv_aload_n hx hb d_Dec_isFull_0 rfl (lv_at hl 0 rfl) ?_
  refine va_get (D := (dC, dI)) (ci := 1) (v := .int count) (C := R_Dec) (T := T_Dec) (N := 5) hx hb hB in_Dec hown hK hP 0 rfl rfl 4 (by decide) (hB _ wd_35) (fun _ h9 => h9) rfl d_Dec_isFull_1 ?_
  refine lv_aload_n hx hb d_Dec_isFull_4 rfl (lv_at hl 0 rfl) ?_
  refine va_get (D := (dC, dI)) (ci := 1) (v := .ref (ad 2)) (C := R_Dec) (T := T_Dec) (N := 5) hx hb hB in_Dec hown hK hP 0 rfl rfl 1 (by decide) (hB _ wd_41) (fun _ h9 => h9) rfl d_Dec_isFull_5 ?_
  refine va_alen hx hb hK hP 2 1 rfl rfl (v := 16) rfl d_Dec_isFull_8 ?_
  refine lv_icmp_lt (tgt := 16) hx hb d_Dec_isFull_9 (by decide) (fun c_1 => ?_) (fun c_1 => ?_)
  · have h := (if_pos c_1).symm.trans h
    refine lv_iconst (v := 0) hx hb d_Dec_isFull_16 (by decide) ?_
    have h := Option.some.inj h
    subst h
    exact W.zret hx hb hr rfl (fun t ht hW => ⟨⟨_, (), rfl, rfl, AftW_mk hK hP hD ht hW⟩, hS.F ht⟩) hS.2.2 d_Dec_isFull_17
  · have h := (if_neg c_1).symm.trans h
    refine lv_iconst (v := 1) hx hb d_Dec_isFull_12 (by decide) ?_
    refine lv_goto (tgt := 17) hx hb d_Dec_isFull_13 (by decide) ?_
    have h := Option.some.inj h
    subst h
    exact W.zret hx hb hr rfl (fun t ht hW => ⟨⟨_, (), rfl, rfl, AftW_mk hK hP hD ht hW⟩, hS.F ht⟩) hS.2.2 d_Dec_isFull_17
def d_Dec_add (N : Nat) (x1 : Int32) (count : Int32) (made : Nat → Int32) : Option (Int32 × (Nat → Int32)) :=
 gI count 16 (some (count + (1 : Int32), upd made count.toNatClampNeg x1))
abbrev rm_Dec_add : Room := { frames := 0, cells := 0, slots := 0, locals := 0 }
set_option maxHeartbeats 4000000 in
set_option maxRecDepth 100000 in
theorem c_Dec_add (l : Launch) (dC : Nat → ClassId) (dI : Nat → Nat → Nat) (tt : Nat → Nat) (ad : Nat → Nat) (cs : Nat → ClassId) (r1 : Nat → Nat) (rc1 : ClassId) (pr : va_W) (sz N : Nat) (x1 : Int32) (size : Int32) (count : Int32) (data : Nat → Int32) (made : Nat → Int32) (holds : Nat → Int32) (numbers : Nat → Int32) (lengths : Nat → Int32) (rows : Nat → Nat → Int32) (out : Int32 × (Nat → Int32)) (h : d_Dec_add N x1 count made = some out) :
    Met l y_Dec_add (w_Dec_add) rm_Dec_add (va_Pc [.ref (ad 0), .int x1] (PreW (dC, dI) [((cs 1), .int), ((cs 2), .int), ((cs 4), .int), ((cs 5), .int), ((cs 6), .int), ((cs 7), .array .int), (rc1, .int)] ((x_Dec ad cs r1 size count data made holds numbers lengths) ++ (gw 8 r1 rc1 5 rows ++ pr)) sz tt)) (va_Qv (fun (_ : Unit) => True) (fun _ => AftW (dC, dI) [((cs 1), .int), ((cs 2), .int), ((cs 4), .int), ((cs 5), .int), ((cs 6), .int), ((cs 7), .array .int), (rc1, .int)] (va_A ((x_Dec ad cs r1 size count data made holds numbers lengths) ++ (gw 8 r1 rc1 5 rows ++ pr)) sz) ((x_Dec ad cs r1 size out.1 data out.2 holds numbers lengths) ++ (gw 8 r1 rc1 5 rows ++ pr))) (va_A ((x_Dec ad cs r1 size count data made holds numbers lengths) ++ (gw 8 r1 rc1 5 rows ++ pr)) sz)) 0 0 (va_A ((x_Dec ad cs r1 size count data made holds numbers lengths) ++ (gw 8 r1 rc1 5 rows ++ pr)) sz) := by
  refine Met.ofW (cc := k_Dec_add) (maxL := 2) (ret := none) (by decide) rfl ?_
  intro p e s m args below meth c s₁ B hml hv
  obtain ⟨rfl, hsz, hP, hK, hD0, hG⟩ := hv
  have hx := B.exec
  have hb := B.bytes
  have hr := B.returns
  have hts := atoms_spec (ws := (w_Dec_add)) B.pre
  have hB : ∀ w ∈ BIG, w.before _ s = true := fun w h9 => hts w (List.mem_cons_of_mem _ h9)
  have hown : s.vm.findClass R_Dec = some m.cls := findClass_of_methodNamed B.named
  have hlocks := B.notSynchronized
  subst hsz
  have hD := hD0.self (sz := s.heap.size)
  generalize hAe : va_A ((x_Dec ad cs r1 size count data made holds numbers lengths) ++ (gw 8 r1 rc1 5 rows ++ pr)) s.heap.size = A at hD hG ⊢
  have hA : ∀ q : Nat, s.heap.size ≤ q → A q := fun q h => by rw [← hAe]; exact Or.inr h
  have hS : va_S A s.heap s.heap [] := va_S.rf
  have hl := lv_entry ([.ref (ad 0), .int x1]) (n := 2) (Nat.le_of_ble_eq_true rfl)
  rw [lg_entry_eq]
  generalize (lg_sl ([.ref (ad 0), .int x1]) ++ List.replicate (2 - (lg_sl ([.ref (ad 0), .int x1])).length) Slot.unset).toArray = ls at hl ⊢
  have hl : lv_has ls 2 [(0, .ref (ad 0)), (1, .int x1)] := hl
  unfold d_Dec_add at h
  refine lv_aload_n hx hb d_Dec_add_0 rfl (lv_at hl 0 rfl) ?_
  refine va_get (D := (dC, dI)) (ci := 1) (v := .ref (ad 2)) (C := R_Dec) (T := T_Dec) (N := 5) hx hb hB in_Dec hown hK hP 0 rfl rfl 1 (by decide) (hB _ wd_41) (fun _ h9 => h9) rfl d_Dec_add_1 ?_
  refine lv_aload_n hx hb d_Dec_add_4 rfl (lv_at hl 0 rfl) ?_
  refine va_get (D := (dC, dI)) (ci := 1) (v := .int count) (C := R_Dec) (T := T_Dec) (N := 5) hx hb hB in_Dec hown hK hP 0 rfl rfl 4 (by decide) (hB _ wd_35) (fun _ h9 => h9) rfl d_Dec_add_5 ?_
  refine lv_iload_n hx hb d_Dec_add_8 rfl (lv_at hl 1 rfl) ?_
  obtain ⟨b_1, h⟩ := gI_some h
  refine va_iast hx hb hK hP hD hS 2 1 rfl rfl b_1 d_Dec_add_9 (fun H locs hP hD hS => ?_)
  have hP : va_P (dC, dI) vwCl ((x_Dec ad cs r1 size count data (upd made count.toNatClampNeg x1) holds numbers lengths) ++ (gw 8 r1 rc1 5 rows ++ pr)) H := hP
  have hD : va_D A ((x_Dec ad cs r1 size count data (upd made count.toNatClampNeg x1) holds numbers lengths) ++ (gw 8 r1 rc1 5 rows ++ pr)) := hD
  refine lv_aload_n hx hb d_Dec_add_10 rfl (lv_at hl 0 rfl) ?_
  refine lv_dup hx hb d_Dec_add_11 rfl ?_
  refine va_get (D := (dC, dI)) (ci := 1) (v := .int count) (C := R_Dec) (T := T_Dec) (N := 5) hx hb hB in_Dec hown hK hP 0 rfl rfl 4 (by decide) (hB _ wd_35) (fun _ h9 => h9) rfl d_Dec_add_12 ?_
  refine lv_iconst (v := 1) hx hb d_Dec_add_15 (by decide) ?_
  refine lv_iadd hx hb d_Dec_add_16 ?_
  refine va_put (D := (dC, dI)) (ci := 1) (v := .int (count + (1 : Int32))) (ty := .int) (C := R_Dec) (T := T_Dec) (N := 5) hx hb hB in_Dec ty_Dec tyok_Dec nd_Dec hown hK hP hD hS 0 rfl rfl 4 (by decide) (hB _ wd_35) (fun _ h9 => h9) rfl (by decide +kernel) rfl rfl (Nat.le_of_ble_eq_true rfl) d_Dec_add_17 (fun H locs hP hD hS => ?_)
  have hP : va_P (dC, dI) vwCl ((x_Dec ad cs r1 size (count + (1 : Int32)) data (upd made count.toNatClampNeg x1) holds numbers lengths) ++ (gw 8 r1 rc1 5 rows ++ pr)) H := hP
  have hD : va_D A ((x_Dec ad cs r1 size (count + (1 : Int32)) data (upd made count.toNatClampNeg x1) holds numbers lengths) ++ (gw 8 r1 rc1 5 rows ++ pr)) := hD
  have h := Option.some.inj h
  subst h
  exact W.vret hx hb hr (fun t ht hW => ⟨⟨(), rfl, trivial, AftW_mk hK hP hD ht hW⟩, hS.F ht⟩) hS.2.2 d_Dec_add_20
def d_Dec_sampleBefore (N : Nat) (count : Int32) (made : Nat → Int32) : Option (Int32) :=
 if count ≤ 0 then some (0 : Int32) else gI (count - (1 : Int32)) 16 (some (made (count - (1 : Int32)).toNatClampNeg))
abbrev rm_Dec_sampleBefore : Room := { frames := 0, cells := 0, slots := 0, locals := 0 }
set_option maxHeartbeats 4000000 in
set_option maxRecDepth 100000 in
theorem c_Dec_sampleBefore (l : Launch) (dC : Nat → ClassId) (dI : Nat → Nat → Nat) (tt : Nat → Nat) (ad : Nat → Nat) (cs : Nat → ClassId) (r1 : Nat → Nat) (rc1 : ClassId) (pr : va_W) (sz N : Nat) (size : Int32) (count : Int32) (data : Nat → Int32) (made : Nat → Int32) (holds : Nat → Int32) (numbers : Nat → Int32) (lengths : Nat → Int32) (rows : Nat → Nat → Int32) (out : Int32) (h : d_Dec_sampleBefore N count made = some out) :
    Met l y_Dec_sampleBefore (w_Dec_sampleBefore) rm_Dec_sampleBefore (va_Pc [.ref (ad 0)] (PreW (dC, dI) [((cs 1), .int), ((cs 2), .int), ((cs 4), .int), ((cs 5), .int), ((cs 6), .int), ((cs 7), .array .int), (rc1, .int)] ((x_Dec ad cs r1 size count data made holds numbers lengths) ++ (gw 8 r1 rc1 5 rows ++ pr)) sz tt)) (va_Qi (fun (r : Int32) (_ : Unit) => r = out) (fun _ => AftW (dC, dI) [((cs 1), .int), ((cs 2), .int), ((cs 4), .int), ((cs 5), .int), ((cs 6), .int), ((cs 7), .array .int), (rc1, .int)] (va_A ((x_Dec ad cs r1 size count data made holds numbers lengths) ++ (gw 8 r1 rc1 5 rows ++ pr)) sz) ((x_Dec ad cs r1 size count data made holds numbers lengths) ++ (gw 8 r1 rc1 5 rows ++ pr))) (va_A ((x_Dec ad cs r1 size count data made holds numbers lengths) ++ (gw 8 r1 rc1 5 rows ++ pr)) sz)) 0 0 (va_A ((x_Dec ad cs r1 size count data made holds numbers lengths) ++ (gw 8 r1 rc1 5 rows ++ pr)) sz) := by
  refine Met.ofW (cc := k_Dec_sampleBefore) (maxL := 1) (ret := (some .int)) (by decide) rfl ?_
  intro p e s m args below meth c s₁ B hml hv
  obtain ⟨rfl, hsz, hP, hK, hD0, hG⟩ := hv
  have hx := B.exec
  have hb := B.bytes
  have hr := B.returns
  have hts := atoms_spec (ws := (w_Dec_sampleBefore)) B.pre
  have hB : ∀ w ∈ BIG, w.before _ s = true := fun w h9 => hts w (List.mem_cons_of_mem _ h9)
  have hown : s.vm.findClass R_Dec = some m.cls := findClass_of_methodNamed B.named
  have hlocks := B.notSynchronized
  subst hsz
  have hD := hD0.self (sz := s.heap.size)
  generalize hAe : va_A ((x_Dec ad cs r1 size count data made holds numbers lengths) ++ (gw 8 r1 rc1 5 rows ++ pr)) s.heap.size = A at hD hG ⊢
  have hA : ∀ q : Nat, s.heap.size ≤ q → A q := fun q h => by rw [← hAe]; exact Or.inr h
  have hS : va_S A s.heap s.heap [] := va_S.rf
  have hl := lv_entry ([.ref (ad 0)]) (n := 1) (Nat.le_of_ble_eq_true rfl)
  rw [lg_entry_eq]
  generalize (lg_sl ([.ref (ad 0)]) ++ List.replicate (1 - (lg_sl ([.ref (ad 0)])).length) Slot.unset).toArray = ls at hl ⊢
  have hl : lv_has ls 1 [(0, .ref (ad 0))] := hl
  unfold d_Dec_sampleBefore at h
  refine lv_aload_n hx hb d_Dec_sampleBefore_0 rfl (lv_at hl 0 rfl) ?_
  refine va_get (D := (dC, dI)) (ci := 1) (v := .int count) (C := R_Dec) (T := T_Dec) (N := 5) hx hb hB in_Dec hown hK hP 0 rfl rfl 4 (by decide) (hB _ wd_35) (fun _ h9 => h9) rfl d_Dec_sampleBefore_1 ?_
  refine lv_if_le (tgt := 21) hx hb d_Dec_sampleBefore_4 (by decide) (fun c_1 => ?_) (fun c_1 => ?_)
  · have h := (if_pos c_1).symm.trans h
    refine lv_iconst (v := 0) hx hb d_Dec_sampleBefore_21 (by decide) ?_
    have h := Option.some.inj h
    subst h
    exact W.iret hx hb hr (fun t ht hW => ⟨⟨_, (), rfl, rfl, AftW_mk hK hP hD ht hW⟩, hS.F ht⟩) hS.2.2 d_Dec_sampleBefore_22
  · have h := (if_neg c_1).symm.trans h
    refine lv_aload_n hx hb d_Dec_sampleBefore_7 rfl (lv_at hl 0 rfl) ?_
    refine va_get (D := (dC, dI)) (ci := 1) (v := .ref (ad 2)) (C := R_Dec) (T := T_Dec) (N := 5) hx hb hB in_Dec hown hK hP 0 rfl rfl 1 (by decide) (hB _ wd_41) (fun _ h9 => h9) rfl d_Dec_sampleBefore_8 ?_
    refine lv_aload_n hx hb d_Dec_sampleBefore_11 rfl (lv_at hl 0 rfl) ?_
    refine va_get (D := (dC, dI)) (ci := 1) (v := .int count) (C := R_Dec) (T := T_Dec) (N := 5) hx hb hB in_Dec hown hK hP 0 rfl rfl 4 (by decide) (hB _ wd_35) (fun _ h9 => h9) rfl d_Dec_sampleBefore_12 ?_
    refine lv_iconst (v := 1) hx hb d_Dec_sampleBefore_15 (by decide) ?_
    refine lv_isub hx hb d_Dec_sampleBefore_16 ?_
    obtain ⟨b_2, h⟩ := gI_some h
    refine va_iald hx hb hK hP 2 1 rfl rfl b_2 d_Dec_sampleBefore_17 ?_
    refine lv_goto (tgt := 22) hx hb d_Dec_sampleBefore_18 (by decide) ?_
    have h := Option.some.inj h
    subst h
    exact W.iret hx hb hr (fun t ht hW => ⟨⟨_, (), rfl, rfl, AftW_mk hK hP hD ht hW⟩, hS.F ht⟩) hS.2.2 d_Dec_sampleBefore_22
def d_Dec_atEnd (N : Nat) (count : Int32) : Option (Int32) :=
 (d_Dec_isFull N count).bind (fun o1 => if o1 = 0 then some (1 : Int32) else some (0 : Int32))
abbrev rm_Dec_atEnd : Room := { frames := 1, cells := 0, slots := 0, locals := 20 }
set_option maxHeartbeats 4000000 in
set_option maxRecDepth 100000 in
theorem c_Dec_atEnd (l : Launch) (dC : Nat → ClassId) (dI : Nat → Nat → Nat) (tt : Nat → Nat) (ad : Nat → Nat) (cs : Nat → ClassId) (r1 : Nat → Nat) (rc1 : ClassId) (pr : va_W) (sz N : Nat) (size : Int32) (count : Int32) (data : Nat → Int32) (made : Nat → Int32) (holds : Nat → Int32) (numbers : Nat → Int32) (lengths : Nat → Int32) (rows : Nat → Nat → Int32) (out : Int32) (h : d_Dec_atEnd N count = some out) :
    Met l y_Dec_atEnd (w_Dec_atEnd) rm_Dec_atEnd (va_Pc [.ref (ad 0)] (PreW (dC, dI) [((cs 1), .int), ((cs 2), .int), ((cs 4), .int), ((cs 5), .int), ((cs 6), .int), ((cs 7), .array .int), (rc1, .int)] ((x_Dec ad cs r1 size count data made holds numbers lengths) ++ (gw 8 r1 rc1 5 rows ++ pr)) sz tt)) (va_Qi (fun (r : Int32) (_ : Unit) => r = out) (fun _ => AftW (dC, dI) [((cs 1), .int), ((cs 2), .int), ((cs 4), .int), ((cs 5), .int), ((cs 6), .int), ((cs 7), .array .int), (rc1, .int)] (va_A ((x_Dec ad cs r1 size count data made holds numbers lengths) ++ (gw 8 r1 rc1 5 rows ++ pr)) sz) ((x_Dec ad cs r1 size count data made holds numbers lengths) ++ (gw 8 r1 rc1 5 rows ++ pr))) (va_A ((x_Dec ad cs r1 size count data made holds numbers lengths) ++ (gw 8 r1 rc1 5 rows ++ pr)) sz)) 0 0 (va_A ((x_Dec ad cs r1 size count data made holds numbers lengths) ++ (gw 8 r1 rc1 5 rows ++ pr)) sz) := by
  refine Met.ofW (cc := k_Dec_atEnd) (maxL := 1) (ret := (some .int)) (by decide) rfl ?_
  intro p e s m args below meth c s₁ B hml hv
  obtain ⟨rfl, hsz, hP, hK, hD0, hG⟩ := hv
  have hx := B.exec
  have hb := B.bytes
  have hr := B.returns
  have hts := atoms_spec (ws := (w_Dec_atEnd)) B.pre
  have hB : ∀ w ∈ BIG, w.before _ s = true := fun w h9 => hts w (List.mem_cons_of_mem _ h9)
  have hown : s.vm.findClass R_Dec = some m.cls := findClass_of_methodNamed B.named
  have hlocks := B.notSynchronized
  subst hsz
  have hD := hD0.self (sz := s.heap.size)
  generalize hAe : va_A ((x_Dec ad cs r1 size count data made holds numbers lengths) ++ (gw 8 r1 rc1 5 rows ++ pr)) s.heap.size = A at hD hG ⊢
  have hA : ∀ q : Nat, s.heap.size ≤ q → A q := fun q h => by rw [← hAe]; exact Or.inr h
  have hS : va_S A s.heap s.heap [] := va_S.rf
  have hl := lv_entry ([.ref (ad 0)]) (n := 1) (Nat.le_of_ble_eq_true rfl)
  rw [lg_entry_eq]
  generalize (lg_sl ([.ref (ad 0)]) ++ List.replicate (1 - (lg_sl ([.ref (ad 0)])).length) Slot.unset).toArray = ls at hl ⊢
  have hl : lv_has ls 1 [(0, .ref (ad 0))] := hl
  unfold d_Dec_atEnd at h
  refine lv_aload_n hx hb d_Dec_atEnd_0 rfl (lv_at hl 0 rfl) ?_
  obtain ⟨o1, ho1, h⟩ := Option.bind_eq_some_iff.mp h
  have hKc := hK.sub (tys' := [((cs 1), .int), ((cs 2), .int), ((cs 4), .int), ((cs 5), .int), ((cs 6), .int), ((cs 7), .array .int), (rc1, .int)]) [0, 1, 2, 3, 4, 5, 6] rfl
  have hPc := hP.part (cx := x_Dec ad cs r1 size count data made holds numbers lengths) [0, 1, 2, 3, 4, 5, 6, 7] rfl
  have hDc := hD.part (cx := x_Dec ad cs r1 size count data made holds numbers lengths) [0, 1, 2, 3, 4, 5, 6, 7] (by decide) rfl
  have hFc := va_freeP (cx := x_Dec ad cs r1 size count data made holds numbers lengths) hD hS hA [0, 1, 2, 3, 4, 5, 6, 7] rfl
  refine va_calli (va_runV (As := []) (rest := []) ⟨hx, hb, hml, hown, hB⟩ (c_Dec_isFull l dC dI tt ad cs r1 rc1 pr s.heap.size N size count data made holds numbers lengths rows o1 ho1) (cwV 0 hB (gV wd_46 wd_43 wd_42 wd_44 wd_45) rfl rfl rfl (by decide +kernel) ⟨Nat.le_of_ble_eq_true rfl, Nat.le_of_ble_eq_true rfl⟩) ⟨PreW_blind, va_recv hKc hPc (ci := 1) (q0 := 0) rfl rfl, PreW_mk hKc hPc hDc hG hS hFc⟩ rfl rfl hl.1 rfl (lv_room (Nat.le_of_ble_eq_true rfl)) d_Dec_atEnd_1 ⟨Nat.le_of_ble_eq_true rfl, Nat.le_of_ble_eq_true rfl⟩) hS (fun q _ h => hFc q h) hFc (fun r_1 u_1 t H1 locs ht hvm hw hB hz1 hk1 hS => ?_)
  have hw := hw.symm
  subst hw
  obtain ⟨hP1, hK1, hD1⟩ := hB
  rw [ht] at hP1
  obtain ⟨hP, hD⟩ := va_joinP (wr := pick (x_Dec ad cs r1 size count data made holds numbers lengths) []) hP hD [0, 1, 2, 3, 4, 5, 6, 7] [] rfl rfl (by decide) (by decide) hk1 hFc hP1 hD1
  generalize H1 = H at hP hS ⊢
  have hP : va_P (dC, dI) vwCl ((x_Dec ad cs r1 size count data made holds numbers lengths) ++ (gw 8 r1 rc1 5 rows ++ pr)) H := hP.part (cx := x_Dec ad cs r1 size count data made holds numbers lengths) [0, 1, 2, 3, 4, 5, 6, 7] rfl
  have hD : va_D A ((x_Dec ad cs r1 size count data made holds numbers lengths) ++ (gw 8 r1 rc1 5 rows ++ pr)) := hD.part (cx := x_Dec ad cs r1 size count data made holds numbers lengths) [0, 1, 2, 3, 4, 5, 6, 7] (by decide) rfl
  refine lv_if_eq (tgt := 11) hx hb d_Dec_atEnd_4 (by decide) (fun c_2 => ?_) (fun c_2 => ?_)
  · have h := (if_pos c_2).symm.trans h
    refine lv_iconst (v := 1) hx hb d_Dec_atEnd_11 (by decide) ?_
    have h := Option.some.inj h
    subst h
    exact W.iret hx hb hr (fun t ht hW => ⟨⟨_, (), rfl, rfl, AftW_mk hK hP hD ht hW⟩, hS.F ht⟩) hS.2.2 d_Dec_atEnd_12
  · have h := (if_neg c_2).symm.trans h
    refine lv_iconst (v := 0) hx hb d_Dec_atEnd_7 (by decide) ?_
    refine lv_goto (tgt := 12) hx hb d_Dec_atEnd_8 (by decide) ?_
    have h := Option.some.inj h
    subst h
    exact W.iret hx hb hr (fun t ht hW => ⟨⟨_, (), rfl, rfl, AftW_mk hK hP hD ht hW⟩, hS.F ht⟩) hS.2.2 d_Dec_atEnd_12
def d_Dec_copyBytes_L2 (N : Nat) (size : Int32) (data : Nat → Int32) : Nat → Int32 → Int32 → (Nat → Int32) → Option (Int32 × (Nat → Int32))
  | 0, _, _, _ => none
  | n + 1, y2_1, count_2, made_2 => if size ≤ y2_1 then some (count_2, made_2) else (d_Dec_isFull N count_2).bind (fun o3002 => if o3002 = 0 then gI y2_1 64 ((d_Dec_add N (data y2_1.toNatClampNeg) count_2 made_2).bind (fun o3005 => d_Dec_copyBytes_L2 N size data n (y2_1 + 1) o3005.1 o3005.2)) else some (count_2, made_2))
def d_Dec_copyBytes (N : Nat) (size : Int32) (count : Int32) (data : Nat → Int32) (made : Nat → Int32) : Option (Int32 × Int32 × (Nat → Int32)) :=
 (d_Dec_copyBytes_L2 N size data N (0 : Int32) count made).bind (fun s2 => (d_Dec_atEnd N s2.1).bind (fun o1 => some (o1, s2.1, s2.2)))
abbrev rm_Dec_copyBytes : Room := { frames := 2, cells := 0, slots := 0, locals := 40 }
set_option maxHeartbeats 4000000 in
set_option maxRecDepth 100000 in
theorem c_Dec_copyBytes (l : Launch) (dC : Nat → ClassId) (dI : Nat → Nat → Nat) (tt : Nat → Nat) (ad : Nat → Nat) (cs : Nat → ClassId) (r1 : Nat → Nat) (rc1 : ClassId) (pr : va_W) (sz N : Nat) (size : Int32) (count : Int32) (data : Nat → Int32) (made : Nat → Int32) (holds : Nat → Int32) (numbers : Nat → Int32) (lengths : Nat → Int32) (rows : Nat → Nat → Int32) (out : Int32 × Int32 × (Nat → Int32)) (h : d_Dec_copyBytes N size count data made = some out) :
    Met l y_Dec_copyBytes (w_Dec_copyBytes) rm_Dec_copyBytes (va_Pc [.ref (ad 0)] (PreW (dC, dI) [((cs 1), .int), ((cs 2), .int), ((cs 4), .int), ((cs 5), .int), ((cs 6), .int), ((cs 7), .array .int), (rc1, .int)] ((x_Dec ad cs r1 size count data made holds numbers lengths) ++ (gw 8 r1 rc1 5 rows ++ pr)) sz tt)) (va_Qi (fun (r : Int32) (_ : Unit) => r = out.1) (fun _ => AftW (dC, dI) [((cs 1), .int), ((cs 2), .int), ((cs 4), .int), ((cs 5), .int), ((cs 6), .int), ((cs 7), .array .int), (rc1, .int)] (va_A ((x_Dec ad cs r1 size count data made holds numbers lengths) ++ (gw 8 r1 rc1 5 rows ++ pr)) sz) ((x_Dec ad cs r1 size out.2.1 data out.2.2 holds numbers lengths) ++ (gw 8 r1 rc1 5 rows ++ pr))) (va_A ((x_Dec ad cs r1 size count data made holds numbers lengths) ++ (gw 8 r1 rc1 5 rows ++ pr)) sz)) 0 0 (va_A ((x_Dec ad cs r1 size count data made holds numbers lengths) ++ (gw 8 r1 rc1 5 rows ++ pr)) sz) := by
  refine Met.ofW (cc := k_Dec_copyBytes) (maxL := 2) (ret := (some .int)) (by decide) rfl ?_
  intro p e s m args below meth c s₁ B hml hv
  obtain ⟨rfl, hsz, hP, hK, hD0, hG⟩ := hv
  have hx := B.exec
  have hb := B.bytes
  have hr := B.returns
  have hts := atoms_spec (ws := (w_Dec_copyBytes)) B.pre
  have hB : ∀ w ∈ BIG, w.before _ s = true := fun w h9 => hts w (List.mem_cons_of_mem _ h9)
  have hown : s.vm.findClass R_Dec = some m.cls := findClass_of_methodNamed B.named
  have hlocks := B.notSynchronized
  subst hsz
  have hD := hD0.self (sz := s.heap.size)
  generalize hAe : va_A ((x_Dec ad cs r1 size count data made holds numbers lengths) ++ (gw 8 r1 rc1 5 rows ++ pr)) s.heap.size = A at hD hG ⊢
  have hA : ∀ q : Nat, s.heap.size ≤ q → A q := fun q h => by rw [← hAe]; exact Or.inr h
  have hS : va_S A s.heap s.heap [] := va_S.rf
  have hl := lv_entry ([.ref (ad 0)]) (n := 2) (Nat.le_of_ble_eq_true rfl)
  rw [lg_entry_eq]
  generalize (lg_sl ([.ref (ad 0)]) ++ List.replicate (2 - (lg_sl ([.ref (ad 0)])).length) Slot.unset).toArray = ls at hl ⊢
  have hl : lv_has ls 2 [(0, .ref (ad 0))] := hl
  unfold d_Dec_copyBytes at h
  refine lv_iconst (v := 0) hx hb d_Dec_copyBytes_0 (by decide) ?_
  refine lv_istore_n (lv' := [(1, .int (0 : Int32)), (0, .ref (ad 0))]) hx hb d_Dec_copyBytes_1 rfl hl (by decide) rfl (fun ls hl => ?_)
  obtain ⟨s2, hs2, h⟩ := Option.bind_eq_some_iff.mp h
  have X2 : ∀ (H : Heap) (locs : List Loc) (ls : Array Slot), lv_has ls 2 [(0, .ref (ad 0))] → va_P (dC, dI) vwCl ((x_Dec ad cs r1 size s2.1 data s2.2 holds numbers lengths) ++ (gw 8 r1 rc1 5 rows ++ pr)) H → va_D A ((x_Dec ad cs r1 size s2.1 data s2.2 holds numbers lengths) ++ (gw 8 r1 rc1 5 rows ++ pr)) → va_S A s.heap H locs → W p l e (headSpec (w_Dec_copyBytes) rm_Dec_copyBytes).room s m ([.ref (ad 0)] : List Value).toArray below meth c H locs 0 0 (MQ below (va_Qi (fun (r : Int32) (_ : Unit) => r = out.1) (fun _ => AftW (dC, dI) [((cs 1), .int), ((cs 2), .int), ((cs 4), .int), ((cs 5), .int), ((cs 6), .int), ((cs 7), .array .int), (rc1, .int)] A ((x_Dec ad cs r1 size out.2.1 data out.2.2 holds numbers lengths) ++ (gw 8 r1 rc1 5 rows ++ pr))) A) ([.ref (ad 0)] : List Value).toArray s 0 0 A) (F0 m 33 ls []) := by
    intro H locs ls hl hP hD hS
    refine lv_aload_n hx hb d_Dec_copyBytes_33 rfl (lv_at hl 0 rfl) ?_
    obtain ⟨o1, ho1, h⟩ := Option.bind_eq_some_iff.mp h
    have hKc := hK.sub (tys' := [((cs 1), .int), ((cs 2), .int), ((cs 4), .int), ((cs 5), .int), ((cs 6), .int), ((cs 7), .array .int), (rc1, .int)]) [0, 1, 2, 3, 4, 5, 6] rfl
    have hPc := hP.part (cx := x_Dec ad cs r1 size s2.1 data s2.2 holds numbers lengths) [0, 1, 2, 3, 4, 5, 6, 7] rfl
    have hDc := hD.part (cx := x_Dec ad cs r1 size s2.1 data s2.2 holds numbers lengths) [0, 1, 2, 3, 4, 5, 6, 7] (by decide) rfl
    have hFc := va_freeP (cx := x_Dec ad cs r1 size s2.1 data s2.2 holds numbers lengths) hD hS hA [0, 1, 2, 3, 4, 5, 6, 7] rfl
    refine va_calli (va_runV (As := []) (rest := []) ⟨hx, hb, hml, hown, hB⟩ (c_Dec_atEnd l dC dI tt ad cs r1 rc1 pr H.size N size s2.1 data s2.2 holds numbers lengths rows o1 ho1) (cwV 0 hB (gV wd_50 wd_48 wd_47 wd_44 wd_49) rfl rfl rfl (by decide +kernel) ⟨Nat.le_of_ble_eq_true rfl, Nat.le_of_ble_eq_true rfl⟩) ⟨PreW_blind, va_recv hKc hPc (ci := 1) (q0 := 0) rfl rfl, PreW_mk hKc hPc hDc hG hS hFc⟩ rfl rfl hl.1 rfl (lv_room (Nat.le_of_ble_eq_true rfl)) d_Dec_copyBytes_34 ⟨Nat.le_of_ble_eq_true rfl, Nat.le_of_ble_eq_true rfl⟩) hS (fun q _ h => hFc q h) hFc (fun r_1 u_1 t H1 locs ht hvm hw hB hz1 hk1 hS => ?_)
    have hw := hw.symm
    subst hw
    obtain ⟨hP1, hK1, hD1⟩ := hB
    rw [ht] at hP1
    obtain ⟨hP, hD⟩ := va_joinP (wr := pick (x_Dec ad cs r1 size s2.1 data s2.2 holds numbers lengths) []) hP hD [0, 1, 2, 3, 4, 5, 6, 7] [] rfl rfl (by decide) (by decide) hk1 hFc hP1 hD1
    generalize H1 = H at hP hS ⊢
    have hP : va_P (dC, dI) vwCl ((x_Dec ad cs r1 size s2.1 data s2.2 holds numbers lengths) ++ (gw 8 r1 rc1 5 rows ++ pr)) H := hP.part (cx := x_Dec ad cs r1 size s2.1 data s2.2 holds numbers lengths) [0, 1, 2, 3, 4, 5, 6, 7] rfl
    have hD : va_D A ((x_Dec ad cs r1 size s2.1 data s2.2 holds numbers lengths) ++ (gw 8 r1 rc1 5 rows ++ pr)) := hD.part (cx := x_Dec ad cs r1 size s2.1 data s2.2 holds numbers lengths) [0, 1, 2, 3, 4, 5, 6, 7] (by decide) rfl
    have h := Option.some.inj h
    subst h
    exact W.iret hx hb hr (fun t ht hW => ⟨⟨_, (), rfl, rfl, AftW_mk hK hP hD ht hW⟩, hS.F ht⟩) hS.2.2 d_Dec_copyBytes_37
  have L2 : ∀ (n : Nat) (y2_1 : Int32) (count_2 : Int32) (made_2 : Nat → Int32) (H : Heap) (locs : List Loc) (ls : Array Slot), lv_has ls 2 [(0, .ref (ad 0)), (1, .int y2_1)] → va_P (dC, dI) vwCl ((x_Dec ad cs r1 size count_2 data made_2 holds numbers lengths) ++ (gw 8 r1 rc1 5 rows ++ pr)) H → va_D A ((x_Dec ad cs r1 size count_2 data made_2 holds numbers lengths) ++ (gw 8 r1 rc1 5 rows ++ pr)) → va_S A s.heap H locs → d_Dec_copyBytes_L2 N size data n y2_1 count_2 made_2 = some s2 → W p l e (headSpec (w_Dec_copyBytes) rm_Dec_copyBytes).room s m ([.ref (ad 0)] : List Value).toArray below meth c H locs 0 0 (MQ below (va_Qi (fun (r : Int32) (_ : Unit) => r = out.1) (fun _ => AftW (dC, dI) [((cs 1), .int), ((cs 2), .int), ((cs 4), .int), ((cs 5), .int), ((cs 6), .int), ((cs 7), .array .int), (rc1, .int)] A ((x_Dec ad cs r1 size out.2.1 data out.2.2 holds numbers lengths) ++ (gw 8 r1 rc1 5 rows ++ pr))) A) ([.ref (ad 0)] : List Value).toArray s 0 0 A) (F0 m 2 ls []) := by
    intro n
    induction n with
    | zero =>
      intro y2_1 count_2 made_2 H locs ls hl hP hD hS h
      rw [d_Dec_copyBytes_L2] at h
      cases h
    | succ n ih =>
      intro y2_1 count_2 made_2 H locs ls hl hP hD hS h
      rw [d_Dec_copyBytes_L2] at h
      refine lv_iload_n hx hb d_Dec_copyBytes_2 rfl (lv_at hl 1 rfl) ?_
      refine lv_aload_n hx hb d_Dec_copyBytes_3 rfl (lv_at hl 0 rfl) ?_
      refine va_get (D := (dC, dI)) (ci := 1) (v := .int size) (C := R_Dec) (T := T_Dec) (N := 5) hx hb hB in_Dec hown hK hP 0 rfl rfl 3 (by decide) (hB _ wd_34) (fun _ h9 => h9) rfl d_Dec_copyBytes_4 ?_
      refine lv_icmp_ge (tgt := 33) hx hb d_Dec_copyBytes_7 (by decide) (fun c_2 => ?_) (fun c_2 => ?_)
      · have h := (if_pos c_2).symm.trans h
        have h := Option.some.inj h
        subst h
        exact X2 H locs ls (lv_sub hl [0] rfl) hP hD hS
      · have h := (if_neg c_2).symm.trans h
        refine lv_aload_n hx hb d_Dec_copyBytes_10 rfl (lv_at hl 0 rfl) ?_
        obtain ⟨o3, ho3, h⟩ := Option.bind_eq_some_iff.mp h
        have hKc := hK.sub (tys' := [((cs 1), .int), ((cs 2), .int), ((cs 4), .int), ((cs 5), .int), ((cs 6), .int), ((cs 7), .array .int), (rc1, .int)]) [0, 1, 2, 3, 4, 5, 6] rfl
        have hPc := hP.part (cx := x_Dec ad cs r1 size count_2 data made_2 holds numbers lengths) [0, 1, 2, 3, 4, 5, 6, 7] rfl
        have hDc := hD.part (cx := x_Dec ad cs r1 size count_2 data made_2 holds numbers lengths) [0, 1, 2, 3, 4, 5, 6, 7] (by decide) rfl
        have hFc := va_freeP (cx := x_Dec ad cs r1 size count_2 data made_2 holds numbers lengths) hD hS hA [0, 1, 2, 3, 4, 5, 6, 7] rfl
        refine va_calli (va_runV (As := []) (rest := []) ⟨hx, hb, hml, hown, hB⟩ (c_Dec_isFull l dC dI tt ad cs r1 rc1 pr H.size N size count_2 data made_2 holds numbers lengths rows o3 ho3) (cwV 0 hB (gV wd_46 wd_43 wd_42 wd_44 wd_45) rfl rfl rfl (by decide +kernel) ⟨Nat.le_of_ble_eq_true rfl, Nat.le_of_ble_eq_true rfl⟩) ⟨PreW_blind, va_recv hKc hPc (ci := 1) (q0 := 0) rfl rfl, PreW_mk hKc hPc hDc hG hS hFc⟩ rfl rfl hl.1 rfl (lv_room (Nat.le_of_ble_eq_true rfl)) d_Dec_copyBytes_11 ⟨Nat.le_of_ble_eq_true rfl, Nat.le_of_ble_eq_true rfl⟩) hS (fun q _ h => hFc q h) hFc (fun r_3 u_3 t H1 locs ht hvm hw hB hz1 hk1 hS => ?_)
        have hw := hw.symm
        subst hw
        obtain ⟨hP1, hK1, hD1⟩ := hB
        rw [ht] at hP1
        obtain ⟨hP, hD⟩ := va_joinP (wr := pick (x_Dec ad cs r1 size count_2 data made_2 holds numbers lengths) []) hP hD [0, 1, 2, 3, 4, 5, 6, 7] [] rfl rfl (by decide) (by decide) hk1 hFc hP1 hD1
        generalize H1 = H at hP hS ⊢
        have hP : va_P (dC, dI) vwCl ((x_Dec ad cs r1 size count_2 data made_2 holds numbers lengths) ++ (gw 8 r1 rc1 5 rows ++ pr)) H := hP.part (cx := x_Dec ad cs r1 size count_2 data made_2 holds numbers lengths) [0, 1, 2, 3, 4, 5, 6, 7] rfl
        have hD : va_D A ((x_Dec ad cs r1 size count_2 data made_2 holds numbers lengths) ++ (gw 8 r1 rc1 5 rows ++ pr)) := hD.part (cx := x_Dec ad cs r1 size count_2 data made_2 holds numbers lengths) [0, 1, 2, 3, 4, 5, 6, 7] (by decide) rfl
        refine lv_if_ne (tgt := 33) hx hb d_Dec_copyBytes_14 (by decide) (fun c_4 => ?_) (fun c_4 => ?_)
        · have h := (if_neg c_4).symm.trans h
          have h := Option.some.inj h
          subst h
          exact X2 H locs ls (lv_sub hl [0] rfl) hP hD hS
        · have h := (if_pos c_4).symm.trans h
          refine lv_aload_n hx hb d_Dec_copyBytes_17 rfl (lv_at hl 0 rfl) ?_
          refine lv_aload_n hx hb d_Dec_copyBytes_18 rfl (lv_at hl 0 rfl) ?_
          refine va_get (D := (dC, dI)) (ci := 1) (v := .ref (ad 1)) (C := R_Dec) (T := T_Dec) (N := 5) hx hb hB in_Dec hown hK hP 0 rfl rfl 0 (by decide) (hB _ wd_36) (fun _ h9 => h9) rfl d_Dec_copyBytes_19 ?_
          refine lv_iload_n hx hb d_Dec_copyBytes_22 rfl (lv_at hl 1 rfl) ?_
          obtain ⟨b_5, h⟩ := gI_some h
          refine va_iald hx hb hK hP 1 0 rfl rfl b_5 d_Dec_copyBytes_23 ?_
          obtain ⟨o6, ho6, h⟩ := Option.bind_eq_some_iff.mp h
          have hKc := hK.sub (tys' := [((cs 1), .int), ((cs 2), .int), ((cs 4), .int), ((cs 5), .int), ((cs 6), .int), ((cs 7), .array .int), (rc1, .int)]) [0, 1, 2, 3, 4, 5, 6] rfl
          have hPc := hP.part (cx := x_Dec ad cs r1 size count_2 data made_2 holds numbers lengths) [0, 1, 2, 3, 4, 5, 6, 7] rfl
          have hDc := hD.part (cx := x_Dec ad cs r1 size count_2 data made_2 holds numbers lengths) [0, 1, 2, 3, 4, 5, 6, 7] (by decide) rfl
          have hFc := va_freeP (cx := x_Dec ad cs r1 size count_2 data made_2 holds numbers lengths) hD hS hA [0, 1, 2, 3, 4, 5, 6, 7] rfl
          refine va_callv (va_runV (As := [.int (data y2_1.toNatClampNeg)]) (rest := []) ⟨hx, hb, hml, hown, hB⟩ (c_Dec_add l dC dI tt ad cs r1 rc1 pr H.size N (data y2_1.toNatClampNeg) size count_2 data made_2 holds numbers lengths rows o6 ho6) (cwV 1 hB (gV wd_54 wd_52 wd_51 wd_44 wd_53) rfl rfl rfl (by decide +kernel) ⟨Nat.le_of_ble_eq_true rfl, Nat.le_of_ble_eq_true rfl⟩) ⟨PreW_blind, va_recv hKc hPc (ci := 1) (q0 := 0) rfl rfl, PreW_mk hKc hPc hDc hG hS hFc⟩ rfl rfl hl.1 rfl (lv_room (Nat.le_of_ble_eq_true rfl)) d_Dec_copyBytes_24 ⟨Nat.le_of_ble_eq_true rfl, Nat.le_of_ble_eq_true rfl⟩) hS (fun q _ h => hFc q h) hFc (fun u_6 t H1 locs ht hvm hw hB hz1 hk1 hS => ?_)
          obtain ⟨hP1, hK1, hD1⟩ := hB
          rw [ht] at hP1
          obtain ⟨hP, hD⟩ := va_joinP (wr := pick (x_Dec ad cs r1 size count_2 data made_2 holds numbers lengths) []) hP hD [0, 1, 2, 3, 4, 5, 6, 7] [] rfl rfl (by decide) (by decide) hk1 hFc hP1 hD1
          generalize H1 = H at hP hS ⊢
          have hP : va_P (dC, dI) vwCl ((x_Dec ad cs r1 size o6.1 data o6.2 holds numbers lengths) ++ (gw 8 r1 rc1 5 rows ++ pr)) H := hP.part (cx := x_Dec ad cs r1 size o6.1 data o6.2 holds numbers lengths) [0, 1, 2, 3, 4, 5, 6, 7] rfl
          have hD : va_D A ((x_Dec ad cs r1 size o6.1 data o6.2 holds numbers lengths) ++ (gw 8 r1 rc1 5 rows ++ pr)) := hD.part (cx := x_Dec ad cs r1 size o6.1 data o6.2 holds numbers lengths) [0, 1, 2, 3, 4, 5, 6, 7] (by decide) rfl
          refine lv_iinc (v := y2_1 + 1) (lv' := [(1, .int (y2_1 + 1)), (0, .ref (ad 0))]) hx hb d_Dec_copyBytes_27 hl (k := 1) rfl rfl (by decide) rfl (fun ls hl => ?_)
          refine lv_goto (tgt := 2) hx hb d_Dec_copyBytes_30 (by decide) ?_
          exact ih (y2_1 + 1) o6.1 o6.2 H locs ls (lv_sub hl [1, 0] rfl) hP hD hS h
  exact L2 N (0 : Int32) count made _ _ ls (lv_sub hl [1, 0] rfl) hP hD hS hs2
def d_Dec_repeatValues_L42 (N : Nat) (y42_1 : Int32) (size : Int32) (data : Nat → Int32) : Nat → Int32 → Int32 → (Nat → Int32) → Option (Int32 × (Nat → Int32))
  | 0, _, _, _ => none
  | n + 1, y42_2, count_42, made_42 => gI y42_1 64 (if (data y42_1.toNatClampNeg) ≤ y42_2 then some (count_42, made_42) else gI (y42_1 + (1 : Int32)) 64 ((d_Dec_add N (data (y42_1 + (1 : Int32)).toNatClampNeg) count_42 made_42).bind (fun o43004 => d_Dec_repeatValues_L42 N y42_1 size data n (y42_2 + 1) o43004.1 o43004.2)))
def d_Dec_repeatValues_L2 (N : Nat) (size : Int32) (data : Nat → Int32) : Nat → Int32 → Int32 → (Nat → Int32) → Option (Int32 × Int32 × (Nat → Int32))
  | 0, _, _, _ => none
  | n + 1, y2_1, count_2, made_2 => if size ≤ (y2_1 + (1 : Int32)) then (d_Dec_atEnd N count_2).bind (fun o3002 => some (o3002, count_2, made_2)) else (d_Dec_isFull N count_2).bind (fun o3003 => if o3003 = 0 then gI y2_1 64 (if (data y2_1.toNatClampNeg) ≤ ((16 : Int32) - count_2) then (d_Dec_repeatValues_L42 N y2_1 size data N (0 : Int32) count_2 made_2).bind (fun s42 => d_Dec_repeatValues_L2 N size data n (y2_1 + 2) s42.1 s42.2) else some ((1 : Int32), count_2, made_2)) else (d_Dec_atEnd N count_2).bind (fun o3005 => some (o3005, count_2, made_2)))
def d_Dec_repeatValues (N : Nat) (size : Int32) (count : Int32) (data : Nat → Int32) (made : Nat → Int32) : Option (Int32 × Int32 × (Nat → Int32)) :=
 d_Dec_repeatValues_L2 N size data N (0 : Int32) count made
abbrev rm_Dec_repeatValues : Room := { frames := 2, cells := 0, slots := 0, locals := 40 }
set_option maxHeartbeats 4000000 in
set_option maxRecDepth 100000 in
theorem c_Dec_repeatValues (l : Launch) (dC : Nat → ClassId) (dI : Nat → Nat → Nat) (tt : Nat → Nat) (ad : Nat → Nat) (cs : Nat → ClassId) (r1 : Nat → Nat) (rc1 : ClassId) (pr : va_W) (sz N : Nat) (size : Int32) (count : Int32) (data : Nat → Int32) (made : Nat → Int32) (holds : Nat → Int32) (numbers : Nat → Int32) (lengths : Nat → Int32) (rows : Nat → Nat → Int32) (out : Int32 × Int32 × (Nat → Int32)) (h : d_Dec_repeatValues N size count data made = some out) :
    Met l y_Dec_repeatValues (w_Dec_repeatValues) rm_Dec_repeatValues (va_Pc [.ref (ad 0)] (PreW (dC, dI) [((cs 1), .int), ((cs 2), .int), ((cs 4), .int), ((cs 5), .int), ((cs 6), .int), ((cs 7), .array .int), (rc1, .int)] ((x_Dec ad cs r1 size count data made holds numbers lengths) ++ (gw 8 r1 rc1 5 rows ++ pr)) sz tt)) (va_Qi (fun (r : Int32) (_ : Unit) => r = out.1) (fun _ => AftW (dC, dI) [((cs 1), .int), ((cs 2), .int), ((cs 4), .int), ((cs 5), .int), ((cs 6), .int), ((cs 7), .array .int), (rc1, .int)] (va_A ((x_Dec ad cs r1 size count data made holds numbers lengths) ++ (gw 8 r1 rc1 5 rows ++ pr)) sz) ((x_Dec ad cs r1 size out.2.1 data out.2.2 holds numbers lengths) ++ (gw 8 r1 rc1 5 rows ++ pr))) (va_A ((x_Dec ad cs r1 size count data made holds numbers lengths) ++ (gw 8 r1 rc1 5 rows ++ pr)) sz)) 0 0 (va_A ((x_Dec ad cs r1 size count data made holds numbers lengths) ++ (gw 8 r1 rc1 5 rows ++ pr)) sz) := by
  refine Met.ofW (cc := k_Dec_repeatValues) (maxL := 3) (ret := (some .int)) (by decide) rfl ?_
  intro p e s m args below meth c s₁ B hml hv
  obtain ⟨rfl, hsz, hP, hK, hD0, hG⟩ := hv
  have hx := B.exec
  have hb := B.bytes
  have hr := B.returns
  have hts := atoms_spec (ws := (w_Dec_repeatValues)) B.pre
  have hB : ∀ w ∈ BIG, w.before _ s = true := fun w h9 => hts w (List.mem_cons_of_mem _ h9)
  have hown : s.vm.findClass R_Dec = some m.cls := findClass_of_methodNamed B.named
  have hlocks := B.notSynchronized
  subst hsz
  have hD := hD0.self (sz := s.heap.size)
  generalize hAe : va_A ((x_Dec ad cs r1 size count data made holds numbers lengths) ++ (gw 8 r1 rc1 5 rows ++ pr)) s.heap.size = A at hD hG ⊢
  have hA : ∀ q : Nat, s.heap.size ≤ q → A q := fun q h => by rw [← hAe]; exact Or.inr h
  have hS : va_S A s.heap s.heap [] := va_S.rf
  have hl := lv_entry ([.ref (ad 0)]) (n := 3) (Nat.le_of_ble_eq_true rfl)
  rw [lg_entry_eq]
  generalize (lg_sl ([.ref (ad 0)]) ++ List.replicate (3 - (lg_sl ([.ref (ad 0)])).length) Slot.unset).toArray = ls at hl ⊢
  have hl : lv_has ls 3 [(0, .ref (ad 0))] := hl
  unfold d_Dec_repeatValues at h
  refine lv_iconst (v := 0) hx hb d_Dec_repeatValues_0 (by decide) ?_
  refine lv_istore_n (lv' := [(1, .int (0 : Int32)), (0, .ref (ad 0))]) hx hb d_Dec_repeatValues_1 rfl hl (by decide) rfl (fun ls hl => ?_)
  have L2 : ∀ (n : Nat) (y2_1 : Int32) (count_2 : Int32) (made_2 : Nat → Int32) (H : Heap) (locs : List Loc) (ls : Array Slot), lv_has ls 3 [(0, .ref (ad 0)), (1, .int y2_1)] → va_P (dC, dI) vwCl ((x_Dec ad cs r1 size count_2 data made_2 holds numbers lengths) ++ (gw 8 r1 rc1 5 rows ++ pr)) H → va_D A ((x_Dec ad cs r1 size count_2 data made_2 holds numbers lengths) ++ (gw 8 r1 rc1 5 rows ++ pr)) → va_S A s.heap H locs → d_Dec_repeatValues_L2 N size data n y2_1 count_2 made_2 = some out → W p l e (headSpec (w_Dec_repeatValues) rm_Dec_repeatValues).room s m ([.ref (ad 0)] : List Value).toArray below meth c H locs 0 0 (MQ below (va_Qi (fun (r : Int32) (_ : Unit) => r = out.1) (fun _ => AftW (dC, dI) [((cs 1), .int), ((cs 2), .int), ((cs 4), .int), ((cs 5), .int), ((cs 6), .int), ((cs 7), .array .int), (rc1, .int)] A ((x_Dec ad cs r1 size out.2.1 data out.2.2 holds numbers lengths) ++ (gw 8 r1 rc1 5 rows ++ pr))) A) ([.ref (ad 0)] : List Value).toArray s 0 0 A) (F0 m 2 ls []) := by
    intro n
    induction n with
    | zero =>
      intro y2_1 count_2 made_2 H locs ls hl hP hD hS h
      rw [d_Dec_repeatValues_L2] at h
      cases h
    | succ n ih =>
      intro y2_1 count_2 made_2 H locs ls hl hP hD hS h
      rw [d_Dec_repeatValues_L2] at h
      refine lv_iload_n hx hb d_Dec_repeatValues_2 rfl (lv_at hl 1 rfl) ?_
      refine lv_iconst (v := 1) hx hb d_Dec_repeatValues_3 (by decide) ?_
      refine lv_iadd hx hb d_Dec_repeatValues_4 ?_
      refine lv_aload_n hx hb d_Dec_repeatValues_5 rfl (lv_at hl 0 rfl) ?_
      refine va_get (D := (dC, dI)) (ci := 1) (v := .int size) (C := R_Dec) (T := T_Dec) (N := 5) hx hb hB in_Dec hown hK hP 0 rfl rfl 3 (by decide) (hB _ wd_34) (fun _ h9 => h9) rfl d_Dec_repeatValues_6 ?_
      refine lv_icmp_ge (tgt := 76) hx hb d_Dec_repeatValues_9 (by decide) (fun c_1 => ?_) (fun c_1 => ?_)
      · have h := (if_pos c_1).symm.trans h
        refine lv_aload_n hx hb d_Dec_repeatValues_76 rfl (lv_at hl 0 rfl) ?_
        obtain ⟨o2, ho2, h⟩ := Option.bind_eq_some_iff.mp h
        have hKc := hK.sub (tys' := [((cs 1), .int), ((cs 2), .int), ((cs 4), .int), ((cs 5), .int), ((cs 6), .int), ((cs 7), .array .int), (rc1, .int)]) [0, 1, 2, 3, 4, 5, 6] rfl
        have hPc := hP.part (cx := x_Dec ad cs r1 size count_2 data made_2 holds numbers lengths) [0, 1, 2, 3, 4, 5, 6, 7] rfl
        have hDc := hD.part (cx := x_Dec ad cs r1 size count_2 data made_2 holds numbers lengths) [0, 1, 2, 3, 4, 5, 6, 7] (by decide) rfl
        have hFc := va_freeP (cx := x_Dec ad cs r1 size count_2 data made_2 holds numbers lengths) hD hS hA [0, 1, 2, 3, 4, 5, 6, 7] rfl
        refine va_calli (va_runV (As := []) (rest := []) ⟨hx, hb, hml, hown, hB⟩ (c_Dec_atEnd l dC dI tt ad cs r1 rc1 pr H.size N size count_2 data made_2 holds numbers lengths rows o2 ho2) (cwV 0 hB (gV wd_50 wd_48 wd_47 wd_44 wd_49) rfl rfl rfl (by decide +kernel) ⟨Nat.le_of_ble_eq_true rfl, Nat.le_of_ble_eq_true rfl⟩) ⟨PreW_blind, va_recv hKc hPc (ci := 1) (q0 := 0) rfl rfl, PreW_mk hKc hPc hDc hG hS hFc⟩ rfl rfl hl.1 rfl (lv_room (Nat.le_of_ble_eq_true rfl)) d_Dec_repeatValues_77 ⟨Nat.le_of_ble_eq_true rfl, Nat.le_of_ble_eq_true rfl⟩) hS (fun q _ h => hFc q h) hFc (fun r_2 u_2 t H1 locs ht hvm hw hB hz1 hk1 hS => ?_)
        have hw := hw.symm
        subst hw
        obtain ⟨hP1, hK1, hD1⟩ := hB
        rw [ht] at hP1
        obtain ⟨hP, hD⟩ := va_joinP (wr := pick (x_Dec ad cs r1 size count_2 data made_2 holds numbers lengths) []) hP hD [0, 1, 2, 3, 4, 5, 6, 7] [] rfl rfl (by decide) (by decide) hk1 hFc hP1 hD1
        generalize H1 = H at hP hS ⊢
        have hP : va_P (dC, dI) vwCl ((x_Dec ad cs r1 size count_2 data made_2 holds numbers lengths) ++ (gw 8 r1 rc1 5 rows ++ pr)) H := hP.part (cx := x_Dec ad cs r1 size count_2 data made_2 holds numbers lengths) [0, 1, 2, 3, 4, 5, 6, 7] rfl
        have hD : va_D A ((x_Dec ad cs r1 size count_2 data made_2 holds numbers lengths) ++ (gw 8 r1 rc1 5 rows ++ pr)) := hD.part (cx := x_Dec ad cs r1 size count_2 data made_2 holds numbers lengths) [0, 1, 2, 3, 4, 5, 6, 7] (by decide) rfl
        have h := Option.some.inj h
        subst h
        exact W.iret hx hb hr (fun t ht hW => ⟨⟨_, (), rfl, rfl, AftW_mk hK hP hD ht hW⟩, hS.F ht⟩) hS.2.2 d_Dec_repeatValues_80
      · have h := (if_neg c_1).symm.trans h
        refine lv_aload_n hx hb d_Dec_repeatValues_12 rfl (lv_at hl 0 rfl) ?_
        obtain ⟨o3, ho3, h⟩ := Option.bind_eq_some_iff.mp h
        have hKc := hK.sub (tys' := [((cs 1), .int), ((cs 2), .int), ((cs 4), .int), ((cs 5), .int), ((cs 6), .int), ((cs 7), .array .int), (rc1, .int)]) [0, 1, 2, 3, 4, 5, 6] rfl
        have hPc := hP.part (cx := x_Dec ad cs r1 size count_2 data made_2 holds numbers lengths) [0, 1, 2, 3, 4, 5, 6, 7] rfl
        have hDc := hD.part (cx := x_Dec ad cs r1 size count_2 data made_2 holds numbers lengths) [0, 1, 2, 3, 4, 5, 6, 7] (by decide) rfl
        have hFc := va_freeP (cx := x_Dec ad cs r1 size count_2 data made_2 holds numbers lengths) hD hS hA [0, 1, 2, 3, 4, 5, 6, 7] rfl
        refine va_calli (va_runV (As := []) (rest := []) ⟨hx, hb, hml, hown, hB⟩ (c_Dec_isFull l dC dI tt ad cs r1 rc1 pr H.size N size count_2 data made_2 holds numbers lengths rows o3 ho3) (cwV 0 hB (gV wd_46 wd_43 wd_42 wd_44 wd_45) rfl rfl rfl (by decide +kernel) ⟨Nat.le_of_ble_eq_true rfl, Nat.le_of_ble_eq_true rfl⟩) ⟨PreW_blind, va_recv hKc hPc (ci := 1) (q0 := 0) rfl rfl, PreW_mk hKc hPc hDc hG hS hFc⟩ rfl rfl hl.1 rfl (lv_room (Nat.le_of_ble_eq_true rfl)) d_Dec_repeatValues_13 ⟨Nat.le_of_ble_eq_true rfl, Nat.le_of_ble_eq_true rfl⟩) hS (fun q _ h => hFc q h) hFc (fun r_3 u_3 t H1 locs ht hvm hw hB hz1 hk1 hS => ?_)
        have hw := hw.symm
        subst hw
        obtain ⟨hP1, hK1, hD1⟩ := hB
        rw [ht] at hP1
        obtain ⟨hP, hD⟩ := va_joinP (wr := pick (x_Dec ad cs r1 size count_2 data made_2 holds numbers lengths) []) hP hD [0, 1, 2, 3, 4, 5, 6, 7] [] rfl rfl (by decide) (by decide) hk1 hFc hP1 hD1
        generalize H1 = H at hP hS ⊢
        have hP : va_P (dC, dI) vwCl ((x_Dec ad cs r1 size count_2 data made_2 holds numbers lengths) ++ (gw 8 r1 rc1 5 rows ++ pr)) H := hP.part (cx := x_Dec ad cs r1 size count_2 data made_2 holds numbers lengths) [0, 1, 2, 3, 4, 5, 6, 7] rfl
        have hD : va_D A ((x_Dec ad cs r1 size count_2 data made_2 holds numbers lengths) ++ (gw 8 r1 rc1 5 rows ++ pr)) := hD.part (cx := x_Dec ad cs r1 size count_2 data made_2 holds numbers lengths) [0, 1, 2, 3, 4, 5, 6, 7] (by decide) rfl
        refine lv_if_ne (tgt := 76) hx hb d_Dec_repeatValues_16 (by decide) (fun c_4 => ?_) (fun c_4 => ?_)
        · have h := (if_neg c_4).symm.trans h
          refine lv_aload_n hx hb d_Dec_repeatValues_76 rfl (lv_at hl 0 rfl) ?_
          obtain ⟨o5, ho5, h⟩ := Option.bind_eq_some_iff.mp h
          have hKc := hK.sub (tys' := [((cs 1), .int), ((cs 2), .int), ((cs 4), .int), ((cs 5), .int), ((cs 6), .int), ((cs 7), .array .int), (rc1, .int)]) [0, 1, 2, 3, 4, 5, 6] rfl
          have hPc := hP.part (cx := x_Dec ad cs r1 size count_2 data made_2 holds numbers lengths) [0, 1, 2, 3, 4, 5, 6, 7] rfl
          have hDc := hD.part (cx := x_Dec ad cs r1 size count_2 data made_2 holds numbers lengths) [0, 1, 2, 3, 4, 5, 6, 7] (by decide) rfl
          have hFc := va_freeP (cx := x_Dec ad cs r1 size count_2 data made_2 holds numbers lengths) hD hS hA [0, 1, 2, 3, 4, 5, 6, 7] rfl
          refine va_calli (va_runV (As := []) (rest := []) ⟨hx, hb, hml, hown, hB⟩ (c_Dec_atEnd l dC dI tt ad cs r1 rc1 pr H.size N size count_2 data made_2 holds numbers lengths rows o5 ho5) (cwV 0 hB (gV wd_50 wd_48 wd_47 wd_44 wd_49) rfl rfl rfl (by decide +kernel) ⟨Nat.le_of_ble_eq_true rfl, Nat.le_of_ble_eq_true rfl⟩) ⟨PreW_blind, va_recv hKc hPc (ci := 1) (q0 := 0) rfl rfl, PreW_mk hKc hPc hDc hG hS hFc⟩ rfl rfl hl.1 rfl (lv_room (Nat.le_of_ble_eq_true rfl)) d_Dec_repeatValues_77 ⟨Nat.le_of_ble_eq_true rfl, Nat.le_of_ble_eq_true rfl⟩) hS (fun q _ h => hFc q h) hFc (fun r_5 u_5 t H1 locs ht hvm hw hB hz1 hk1 hS => ?_)
          have hw := hw.symm
          subst hw
          obtain ⟨hP1, hK1, hD1⟩ := hB
          rw [ht] at hP1
          obtain ⟨hP, hD⟩ := va_joinP (wr := pick (x_Dec ad cs r1 size count_2 data made_2 holds numbers lengths) []) hP hD [0, 1, 2, 3, 4, 5, 6, 7] [] rfl rfl (by decide) (by decide) hk1 hFc hP1 hD1
          generalize H1 = H at hP hS ⊢
          have hP : va_P (dC, dI) vwCl ((x_Dec ad cs r1 size count_2 data made_2 holds numbers lengths) ++ (gw 8 r1 rc1 5 rows ++ pr)) H := hP.part (cx := x_Dec ad cs r1 size count_2 data made_2 holds numbers lengths) [0, 1, 2, 3, 4, 5, 6, 7] rfl
          have hD : va_D A ((x_Dec ad cs r1 size count_2 data made_2 holds numbers lengths) ++ (gw 8 r1 rc1 5 rows ++ pr)) := hD.part (cx := x_Dec ad cs r1 size count_2 data made_2 holds numbers lengths) [0, 1, 2, 3, 4, 5, 6, 7] (by decide) rfl
          have h := Option.some.inj h
          subst h
          exact W.iret hx hb hr (fun t ht hW => ⟨⟨_, (), rfl, rfl, AftW_mk hK hP hD ht hW⟩, hS.F ht⟩) hS.2.2 d_Dec_repeatValues_80
        · have h := (if_pos c_4).symm.trans h
          refine lv_aload_n hx hb d_Dec_repeatValues_19 rfl (lv_at hl 0 rfl) ?_
          refine va_get (D := (dC, dI)) (ci := 1) (v := .ref (ad 1)) (C := R_Dec) (T := T_Dec) (N := 5) hx hb hB in_Dec hown hK hP 0 rfl rfl 0 (by decide) (hB _ wd_36) (fun _ h9 => h9) rfl d_Dec_repeatValues_20 ?_
          refine lv_iload_n hx hb d_Dec_repeatValues_23 rfl (lv_at hl 1 rfl) ?_
          obtain ⟨b_6, h⟩ := gI_some h
          refine va_iald hx hb hK hP 1 0 rfl rfl b_6 d_Dec_repeatValues_24 ?_
          refine lv_aload_n hx hb d_Dec_repeatValues_25 rfl (lv_at hl 0 rfl) ?_
          refine va_get (D := (dC, dI)) (ci := 1) (v := .ref (ad 2)) (C := R_Dec) (T := T_Dec) (N := 5) hx hb hB in_Dec hown hK hP 0 rfl rfl 1 (by decide) (hB _ wd_41) (fun _ h9 => h9) rfl d_Dec_repeatValues_26 ?_
          refine va_alen hx hb hK hP 2 1 rfl rfl (v := 16) rfl d_Dec_repeatValues_29 ?_
          refine lv_aload_n hx hb d_Dec_repeatValues_30 rfl (lv_at hl 0 rfl) ?_
          refine va_get (D := (dC, dI)) (ci := 1) (v := .int count_2) (C := R_Dec) (T := T_Dec) (N := 5) hx hb hB in_Dec hown hK hP 0 rfl rfl 4 (by decide) (hB _ wd_35) (fun _ h9 => h9) rfl d_Dec_repeatValues_31 ?_
          refine lv_isub hx hb d_Dec_repeatValues_34 ?_
          refine lv_icmp_le (tgt := 40) hx hb d_Dec_repeatValues_35 (by decide) (fun c_7 => ?_) (fun c_7 => ?_)
          · have h := (if_pos c_7).symm.trans h
            refine lv_iconst (v := 0) hx hb d_Dec_repeatValues_40 (by decide) ?_
            refine lv_istore_n (lv' := [(2, .int (0 : Int32)), (0, .ref (ad 0)), (1, .int y2_1)]) hx hb d_Dec_repeatValues_41 rfl hl (by decide) rfl (fun ls hl => ?_)
            obtain ⟨s42, hs42, h⟩ := Option.bind_eq_some_iff.mp h
            have X42 : ∀ (H : Heap) (locs : List Loc) (ls : Array Slot), lv_has ls 3 [(0, .ref (ad 0)), (1, .int y2_1)] → va_P (dC, dI) vwCl ((x_Dec ad cs r1 size s42.1 data s42.2 holds numbers lengths) ++ (gw 8 r1 rc1 5 rows ++ pr)) H → va_D A ((x_Dec ad cs r1 size s42.1 data s42.2 holds numbers lengths) ++ (gw 8 r1 rc1 5 rows ++ pr)) → va_S A s.heap H locs → W p l e (headSpec (w_Dec_repeatValues) rm_Dec_repeatValues).room s m ([.ref (ad 0)] : List Value).toArray below meth c H locs 0 0 (MQ below (va_Qi (fun (r : Int32) (_ : Unit) => r = out.1) (fun _ => AftW (dC, dI) [((cs 1), .int), ((cs 2), .int), ((cs 4), .int), ((cs 5), .int), ((cs 6), .int), ((cs 7), .array .int), (rc1, .int)] A ((x_Dec ad cs r1 size out.2.1 data out.2.2 holds numbers lengths) ++ (gw 8 r1 rc1 5 rows ++ pr))) A) ([.ref (ad 0)] : List Value).toArray s 0 0 A) (F0 m 70 ls []) := by
              intro H locs ls hl hP hD hS
              refine lv_iinc (v := y2_1 + 2) (lv' := [(1, .int (y2_1 + 2)), (0, .ref (ad 0))]) hx hb d_Dec_repeatValues_70 hl (k := 1) rfl rfl (by decide) rfl (fun ls hl => ?_)
              refine lv_goto (tgt := 2) hx hb d_Dec_repeatValues_73 (by decide) ?_
              exact ih (y2_1 + 2) s42.1 s42.2 H locs ls (lv_sub hl [1, 0] rfl) hP hD hS h
            have L42 : ∀ (n : Nat) (y42_2 : Int32) (count_42 : Int32) (made_42 : Nat → Int32) (H : Heap) (locs : List Loc) (ls : Array Slot), lv_has ls 3 [(0, .ref (ad 0)), (1, .int y2_1), (2, .int y42_2)] → va_P (dC, dI) vwCl ((x_Dec ad cs r1 size count_42 data made_42 holds numbers lengths) ++ (gw 8 r1 rc1 5 rows ++ pr)) H → va_D A ((x_Dec ad cs r1 size count_42 data made_42 holds numbers lengths) ++ (gw 8 r1 rc1 5 rows ++ pr)) → va_S A s.heap H locs → d_Dec_repeatValues_L42 N y2_1 size data n y42_2 count_42 made_42 = some s42 → W p l e (headSpec (w_Dec_repeatValues) rm_Dec_repeatValues).room s m ([.ref (ad 0)] : List Value).toArray below meth c H locs 0 0 (MQ below (va_Qi (fun (r : Int32) (_ : Unit) => r = out.1) (fun _ => AftW (dC, dI) [((cs 1), .int), ((cs 2), .int), ((cs 4), .int), ((cs 5), .int), ((cs 6), .int), ((cs 7), .array .int), (rc1, .int)] A ((x_Dec ad cs r1 size out.2.1 data out.2.2 holds numbers lengths) ++ (gw 8 r1 rc1 5 rows ++ pr))) A) ([.ref (ad 0)] : List Value).toArray s 0 0 A) (F0 m 42 ls []) := by
              intro n
              induction n with
              | zero =>
                intro y42_2 count_42 made_42 H locs ls hl hP hD hS h
                rw [d_Dec_repeatValues_L42] at h
                cases h
              | succ n ih =>
                intro y42_2 count_42 made_42 H locs ls hl hP hD hS h
                rw [d_Dec_repeatValues_L42] at h
                refine lv_iload_n hx hb d_Dec_repeatValues_42 rfl (lv_at hl 2 rfl) ?_
                refine lv_aload_n hx hb d_Dec_repeatValues_43 rfl (lv_at hl 0 rfl) ?_
                refine va_get (D := (dC, dI)) (ci := 1) (v := .ref (ad 1)) (C := R_Dec) (T := T_Dec) (N := 5) hx hb hB in_Dec hown hK hP 0 rfl rfl 0 (by decide) (hB _ wd_36) (fun _ h9 => h9) rfl d_Dec_repeatValues_44 ?_
                refine lv_iload_n hx hb d_Dec_repeatValues_47 rfl (lv_at hl 1 rfl) ?_
                obtain ⟨b_8, h⟩ := gI_some h
                refine va_iald hx hb hK hP 1 0 rfl rfl b_8 d_Dec_repeatValues_48 ?_
                refine lv_icmp_ge (tgt := 70) hx hb d_Dec_repeatValues_49 (by decide) (fun c_9 => ?_) (fun c_9 => ?_)
                · have h := (if_pos c_9).symm.trans h
                  have h := Option.some.inj h
                  subst h
                  exact X42 H locs ls (lv_sub hl [0, 1] rfl) hP hD hS
                · have h := (if_neg c_9).symm.trans h
                  refine lv_aload_n hx hb d_Dec_repeatValues_52 rfl (lv_at hl 0 rfl) ?_
                  refine lv_aload_n hx hb d_Dec_repeatValues_53 rfl (lv_at hl 0 rfl) ?_
                  refine va_get (D := (dC, dI)) (ci := 1) (v := .ref (ad 1)) (C := R_Dec) (T := T_Dec) (N := 5) hx hb hB in_Dec hown hK hP 0 rfl rfl 0 (by decide) (hB _ wd_36) (fun _ h9 => h9) rfl d_Dec_repeatValues_54 ?_
                  refine lv_iload_n hx hb d_Dec_repeatValues_57 rfl (lv_at hl 1 rfl) ?_
                  refine lv_iconst (v := 1) hx hb d_Dec_repeatValues_58 (by decide) ?_
                  refine lv_iadd hx hb d_Dec_repeatValues_59 ?_
                  obtain ⟨b_10, h⟩ := gI_some h
                  refine va_iald hx hb hK hP 1 0 rfl rfl b_10 d_Dec_repeatValues_60 ?_
                  obtain ⟨o11, ho11, h⟩ := Option.bind_eq_some_iff.mp h
                  have hKc := hK.sub (tys' := [((cs 1), .int), ((cs 2), .int), ((cs 4), .int), ((cs 5), .int), ((cs 6), .int), ((cs 7), .array .int), (rc1, .int)]) [0, 1, 2, 3, 4, 5, 6] rfl
                  have hPc := hP.part (cx := x_Dec ad cs r1 size count_42 data made_42 holds numbers lengths) [0, 1, 2, 3, 4, 5, 6, 7] rfl
                  have hDc := hD.part (cx := x_Dec ad cs r1 size count_42 data made_42 holds numbers lengths) [0, 1, 2, 3, 4, 5, 6, 7] (by decide) rfl
                  have hFc := va_freeP (cx := x_Dec ad cs r1 size count_42 data made_42 holds numbers lengths) hD hS hA [0, 1, 2, 3, 4, 5, 6, 7] rfl
                  refine va_callv (va_runV (As := [.int (data (y2_1 + (1 : Int32)).toNatClampNeg)]) (rest := []) ⟨hx, hb, hml, hown, hB⟩ (c_Dec_add l dC dI tt ad cs r1 rc1 pr H.size N (data (y2_1 + (1 : Int32)).toNatClampNeg) size count_42 data made_42 holds numbers lengths rows o11 ho11) (cwV 1 hB (gV wd_54 wd_52 wd_51 wd_44 wd_53) rfl rfl rfl (by decide +kernel) ⟨Nat.le_of_ble_eq_true rfl, Nat.le_of_ble_eq_true rfl⟩) ⟨PreW_blind, va_recv hKc hPc (ci := 1) (q0 := 0) rfl rfl, PreW_mk hKc hPc hDc hG hS hFc⟩ rfl rfl hl.1 rfl (lv_room (Nat.le_of_ble_eq_true rfl)) d_Dec_repeatValues_61 ⟨Nat.le_of_ble_eq_true rfl, Nat.le_of_ble_eq_true rfl⟩) hS (fun q _ h => hFc q h) hFc (fun u_11 t H1 locs ht hvm hw hB hz1 hk1 hS => ?_)
                  obtain ⟨hP1, hK1, hD1⟩ := hB
                  rw [ht] at hP1
                  obtain ⟨hP, hD⟩ := va_joinP (wr := pick (x_Dec ad cs r1 size count_42 data made_42 holds numbers lengths) []) hP hD [0, 1, 2, 3, 4, 5, 6, 7] [] rfl rfl (by decide) (by decide) hk1 hFc hP1 hD1
                  generalize H1 = H at hP hS ⊢
                  have hP : va_P (dC, dI) vwCl ((x_Dec ad cs r1 size o11.1 data o11.2 holds numbers lengths) ++ (gw 8 r1 rc1 5 rows ++ pr)) H := hP.part (cx := x_Dec ad cs r1 size o11.1 data o11.2 holds numbers lengths) [0, 1, 2, 3, 4, 5, 6, 7] rfl
                  have hD : va_D A ((x_Dec ad cs r1 size o11.1 data o11.2 holds numbers lengths) ++ (gw 8 r1 rc1 5 rows ++ pr)) := hD.part (cx := x_Dec ad cs r1 size o11.1 data o11.2 holds numbers lengths) [0, 1, 2, 3, 4, 5, 6, 7] (by decide) rfl
                  refine lv_iinc (v := y42_2 + 1) (lv' := [(2, .int (y42_2 + 1)), (0, .ref (ad 0)), (1, .int y2_1)]) hx hb d_Dec_repeatValues_64 hl (k := 2) rfl rfl (by decide) rfl (fun ls hl => ?_)
                  refine lv_goto (tgt := 42) hx hb d_Dec_repeatValues_67 (by decide) ?_
                  exact ih (y42_2 + 1) o11.1 o11.2 H locs ls (lv_sub hl [1, 2, 0] rfl) hP hD hS h
            exact L42 N (0 : Int32) count_2 made_2 _ _ ls (lv_sub hl [1, 2, 0] rfl) hP hD hS hs42
          · have h := (if_neg c_7).symm.trans h
            refine lv_iconst (v := 1) hx hb d_Dec_repeatValues_38 (by decide) ?_
            have h := Option.some.inj h
            subst h
            exact W.iret hx hb hr (fun t ht hW => ⟨⟨_, (), rfl, rfl, AftW_mk hK hP hD ht hW⟩, hS.F ht⟩) hS.2.2 d_Dec_repeatValues_39
  exact L2 N (0 : Int32) count made _ _ ls (lv_sub hl [1, 0] rfl) hP hD hS h
def d_Dec_divide_L2 (N : Nat) (size : Int32) (data : Nat → Int32) : Nat → Int32 → Int32 → (Nat → Int32) → Option (Int32 × Int32 × (Nat → Int32))
  | 0, _, _, _ => none
  | n + 1, y2_1, count_2, made_2 => if size ≤ (y2_1 + (1 : Int32)) then (d_Dec_atEnd N count_2).bind (fun o3002 => some (o3002, count_2, made_2)) else (d_Dec_isFull N count_2).bind (fun o3003 => if o3003 = 0 then gI (y2_1 + (1 : Int32)) 64 (if (data (y2_1 + (1 : Int32)).toNatClampNeg) = 0 then some ((2 : Int32), count_2, made_2) else gI y2_1 64 (gZ (data (y2_1 + (1 : Int32)).toNatClampNeg) ((d_Dec_add N ((((16 : Int32) * (data y2_1.toNatClampNeg)) / (data (y2_1 + (1 : Int32)).toNatClampNeg)) - (((16 : Int32) * (data y2_1.toNatClampNeg)) / (data (y2_1 + (1 : Int32)).toNatClampNeg)) / (256 : Int32) * (256 : Int32)) count_2 made_2).bind (fun o3010 => d_Dec_divide_L2 N size data n (y2_1 + 2) o3010.1 o3010.2)))) else (d_Dec_atEnd N count_2).bind (fun o3005 => some (o3005, count_2, made_2)))
def d_Dec_divide (N : Nat) (size : Int32) (count : Int32) (data : Nat → Int32) (made : Nat → Int32) : Option (Int32 × Int32 × (Nat → Int32)) :=
 d_Dec_divide_L2 N size data N (0 : Int32) count made
abbrev rm_Dec_divide : Room := { frames := 2, cells := 0, slots := 0, locals := 40 }
set_option maxHeartbeats 4000000 in
set_option maxRecDepth 100000 in
theorem c_Dec_divide (l : Launch) (dC : Nat → ClassId) (dI : Nat → Nat → Nat) (tt : Nat → Nat) (ad : Nat → Nat) (cs : Nat → ClassId) (r1 : Nat → Nat) (rc1 : ClassId) (pr : va_W) (sz N : Nat) (size : Int32) (count : Int32) (data : Nat → Int32) (made : Nat → Int32) (holds : Nat → Int32) (numbers : Nat → Int32) (lengths : Nat → Int32) (rows : Nat → Nat → Int32) (out : Int32 × Int32 × (Nat → Int32)) (h : d_Dec_divide N size count data made = some out) :
    Met l y_Dec_divide (w_Dec_divide) rm_Dec_divide (va_Pc [.ref (ad 0)] (PreW (dC, dI) [((cs 1), .int), ((cs 2), .int), ((cs 4), .int), ((cs 5), .int), ((cs 6), .int), ((cs 7), .array .int), (rc1, .int)] ((x_Dec ad cs r1 size count data made holds numbers lengths) ++ (gw 8 r1 rc1 5 rows ++ pr)) sz tt)) (va_Qi (fun (r : Int32) (_ : Unit) => r = out.1) (fun _ => AftW (dC, dI) [((cs 1), .int), ((cs 2), .int), ((cs 4), .int), ((cs 5), .int), ((cs 6), .int), ((cs 7), .array .int), (rc1, .int)] (va_A ((x_Dec ad cs r1 size count data made holds numbers lengths) ++ (gw 8 r1 rc1 5 rows ++ pr)) sz) ((x_Dec ad cs r1 size out.2.1 data out.2.2 holds numbers lengths) ++ (gw 8 r1 rc1 5 rows ++ pr))) (va_A ((x_Dec ad cs r1 size count data made holds numbers lengths) ++ (gw 8 r1 rc1 5 rows ++ pr)) sz)) 0 0 (va_A ((x_Dec ad cs r1 size count data made holds numbers lengths) ++ (gw 8 r1 rc1 5 rows ++ pr)) sz) := by
  refine Met.ofW (cc := k_Dec_divide) (maxL := 2) (ret := (some .int)) (by decide) rfl ?_
  intro p e s m args below meth c s₁ B hml hv
  obtain ⟨rfl, hsz, hP, hK, hD0, hG⟩ := hv
  have hx := B.exec
  have hb := B.bytes
  have hr := B.returns
  have hts := atoms_spec (ws := (w_Dec_divide)) B.pre
  have hB : ∀ w ∈ BIG, w.before _ s = true := fun w h9 => hts w (List.mem_cons_of_mem _ h9)
  have hown : s.vm.findClass R_Dec = some m.cls := findClass_of_methodNamed B.named
  have hlocks := B.notSynchronized
  subst hsz
  have hD := hD0.self (sz := s.heap.size)
  generalize hAe : va_A ((x_Dec ad cs r1 size count data made holds numbers lengths) ++ (gw 8 r1 rc1 5 rows ++ pr)) s.heap.size = A at hD hG ⊢
  have hA : ∀ q : Nat, s.heap.size ≤ q → A q := fun q h => by rw [← hAe]; exact Or.inr h
  have hS : va_S A s.heap s.heap [] := va_S.rf
  have hl := lv_entry ([.ref (ad 0)]) (n := 2) (Nat.le_of_ble_eq_true rfl)
  rw [lg_entry_eq]
  generalize (lg_sl ([.ref (ad 0)]) ++ List.replicate (2 - (lg_sl ([.ref (ad 0)])).length) Slot.unset).toArray = ls at hl ⊢
  have hl : lv_has ls 2 [(0, .ref (ad 0))] := hl
  unfold d_Dec_divide at h
  refine lv_iconst (v := 0) hx hb d_Dec_divide_0 (by decide) ?_
  refine lv_istore_n (lv' := [(1, .int (0 : Int32)), (0, .ref (ad 0))]) hx hb d_Dec_divide_1 rfl hl (by decide) rfl (fun ls hl => ?_)
  have L2 : ∀ (n : Nat) (y2_1 : Int32) (count_2 : Int32) (made_2 : Nat → Int32) (H : Heap) (locs : List Loc) (ls : Array Slot), lv_has ls 2 [(0, .ref (ad 0)), (1, .int y2_1)] → va_P (dC, dI) vwCl ((x_Dec ad cs r1 size count_2 data made_2 holds numbers lengths) ++ (gw 8 r1 rc1 5 rows ++ pr)) H → va_D A ((x_Dec ad cs r1 size count_2 data made_2 holds numbers lengths) ++ (gw 8 r1 rc1 5 rows ++ pr)) → va_S A s.heap H locs → d_Dec_divide_L2 N size data n y2_1 count_2 made_2 = some out → W p l e (headSpec (w_Dec_divide) rm_Dec_divide).room s m ([.ref (ad 0)] : List Value).toArray below meth c H locs 0 0 (MQ below (va_Qi (fun (r : Int32) (_ : Unit) => r = out.1) (fun _ => AftW (dC, dI) [((cs 1), .int), ((cs 2), .int), ((cs 4), .int), ((cs 5), .int), ((cs 6), .int), ((cs 7), .array .int), (rc1, .int)] A ((x_Dec ad cs r1 size out.2.1 data out.2.2 holds numbers lengths) ++ (gw 8 r1 rc1 5 rows ++ pr))) A) ([.ref (ad 0)] : List Value).toArray s 0 0 A) (F0 m 2 ls []) := by
    intro n
    induction n with
    | zero =>
      intro y2_1 count_2 made_2 H locs ls hl hP hD hS h
      rw [d_Dec_divide_L2] at h
      cases h
    | succ n ih =>
      intro y2_1 count_2 made_2 H locs ls hl hP hD hS h
      rw [d_Dec_divide_L2] at h
      refine lv_iload_n hx hb d_Dec_divide_2 rfl (lv_at hl 1 rfl) ?_
      refine lv_iconst (v := 1) hx hb d_Dec_divide_3 (by decide) ?_
      refine lv_iadd hx hb d_Dec_divide_4 ?_
      refine lv_aload_n hx hb d_Dec_divide_5 rfl (lv_at hl 0 rfl) ?_
      refine va_get (D := (dC, dI)) (ci := 1) (v := .int size) (C := R_Dec) (T := T_Dec) (N := 5) hx hb hB in_Dec hown hK hP 0 rfl rfl 3 (by decide) (hB _ wd_34) (fun _ h9 => h9) rfl d_Dec_divide_6 ?_
      refine lv_icmp_ge (tgt := 64) hx hb d_Dec_divide_9 (by decide) (fun c_1 => ?_) (fun c_1 => ?_)
      · have h := (if_pos c_1).symm.trans h
        refine lv_aload_n hx hb d_Dec_divide_64 rfl (lv_at hl 0 rfl) ?_
        obtain ⟨o2, ho2, h⟩ := Option.bind_eq_some_iff.mp h
        have hKc := hK.sub (tys' := [((cs 1), .int), ((cs 2), .int), ((cs 4), .int), ((cs 5), .int), ((cs 6), .int), ((cs 7), .array .int), (rc1, .int)]) [0, 1, 2, 3, 4, 5, 6] rfl
        have hPc := hP.part (cx := x_Dec ad cs r1 size count_2 data made_2 holds numbers lengths) [0, 1, 2, 3, 4, 5, 6, 7] rfl
        have hDc := hD.part (cx := x_Dec ad cs r1 size count_2 data made_2 holds numbers lengths) [0, 1, 2, 3, 4, 5, 6, 7] (by decide) rfl
        have hFc := va_freeP (cx := x_Dec ad cs r1 size count_2 data made_2 holds numbers lengths) hD hS hA [0, 1, 2, 3, 4, 5, 6, 7] rfl
        refine va_calli (va_runV (As := []) (rest := []) ⟨hx, hb, hml, hown, hB⟩ (c_Dec_atEnd l dC dI tt ad cs r1 rc1 pr H.size N size count_2 data made_2 holds numbers lengths rows o2 ho2) (cwV 0 hB (gV wd_50 wd_48 wd_47 wd_44 wd_49) rfl rfl rfl (by decide +kernel) ⟨Nat.le_of_ble_eq_true rfl, Nat.le_of_ble_eq_true rfl⟩) ⟨PreW_blind, va_recv hKc hPc (ci := 1) (q0 := 0) rfl rfl, PreW_mk hKc hPc hDc hG hS hFc⟩ rfl rfl hl.1 rfl (lv_room (Nat.le_of_ble_eq_true rfl)) d_Dec_divide_65 ⟨Nat.le_of_ble_eq_true rfl, Nat.le_of_ble_eq_true rfl⟩) hS (fun q _ h => hFc q h) hFc (fun r_2 u_2 t H1 locs ht hvm hw hB hz1 hk1 hS => ?_)
        have hw := hw.symm
        subst hw
        obtain ⟨hP1, hK1, hD1⟩ := hB
        rw [ht] at hP1
        obtain ⟨hP, hD⟩ := va_joinP (wr := pick (x_Dec ad cs r1 size count_2 data made_2 holds numbers lengths) []) hP hD [0, 1, 2, 3, 4, 5, 6, 7] [] rfl rfl (by decide) (by decide) hk1 hFc hP1 hD1
        generalize H1 = H at hP hS ⊢
        have hP : va_P (dC, dI) vwCl ((x_Dec ad cs r1 size count_2 data made_2 holds numbers lengths) ++ (gw 8 r1 rc1 5 rows ++ pr)) H := hP.part (cx := x_Dec ad cs r1 size count_2 data made_2 holds numbers lengths) [0, 1, 2, 3, 4, 5, 6, 7] rfl
        have hD : va_D A ((x_Dec ad cs r1 size count_2 data made_2 holds numbers lengths) ++ (gw 8 r1 rc1 5 rows ++ pr)) := hD.part (cx := x_Dec ad cs r1 size count_2 data made_2 holds numbers lengths) [0, 1, 2, 3, 4, 5, 6, 7] (by decide) rfl
        have h := Option.some.inj h
        subst h
        exact W.iret hx hb hr (fun t ht hW => ⟨⟨_, (), rfl, rfl, AftW_mk hK hP hD ht hW⟩, hS.F ht⟩) hS.2.2 d_Dec_divide_68
      · have h := (if_neg c_1).symm.trans h
        refine lv_aload_n hx hb d_Dec_divide_12 rfl (lv_at hl 0 rfl) ?_
        obtain ⟨o3, ho3, h⟩ := Option.bind_eq_some_iff.mp h
        have hKc := hK.sub (tys' := [((cs 1), .int), ((cs 2), .int), ((cs 4), .int), ((cs 5), .int), ((cs 6), .int), ((cs 7), .array .int), (rc1, .int)]) [0, 1, 2, 3, 4, 5, 6] rfl
        have hPc := hP.part (cx := x_Dec ad cs r1 size count_2 data made_2 holds numbers lengths) [0, 1, 2, 3, 4, 5, 6, 7] rfl
        have hDc := hD.part (cx := x_Dec ad cs r1 size count_2 data made_2 holds numbers lengths) [0, 1, 2, 3, 4, 5, 6, 7] (by decide) rfl
        have hFc := va_freeP (cx := x_Dec ad cs r1 size count_2 data made_2 holds numbers lengths) hD hS hA [0, 1, 2, 3, 4, 5, 6, 7] rfl
        refine va_calli (va_runV (As := []) (rest := []) ⟨hx, hb, hml, hown, hB⟩ (c_Dec_isFull l dC dI tt ad cs r1 rc1 pr H.size N size count_2 data made_2 holds numbers lengths rows o3 ho3) (cwV 0 hB (gV wd_46 wd_43 wd_42 wd_44 wd_45) rfl rfl rfl (by decide +kernel) ⟨Nat.le_of_ble_eq_true rfl, Nat.le_of_ble_eq_true rfl⟩) ⟨PreW_blind, va_recv hKc hPc (ci := 1) (q0 := 0) rfl rfl, PreW_mk hKc hPc hDc hG hS hFc⟩ rfl rfl hl.1 rfl (lv_room (Nat.le_of_ble_eq_true rfl)) d_Dec_divide_13 ⟨Nat.le_of_ble_eq_true rfl, Nat.le_of_ble_eq_true rfl⟩) hS (fun q _ h => hFc q h) hFc (fun r_3 u_3 t H1 locs ht hvm hw hB hz1 hk1 hS => ?_)
        have hw := hw.symm
        subst hw
        obtain ⟨hP1, hK1, hD1⟩ := hB
        rw [ht] at hP1
        obtain ⟨hP, hD⟩ := va_joinP (wr := pick (x_Dec ad cs r1 size count_2 data made_2 holds numbers lengths) []) hP hD [0, 1, 2, 3, 4, 5, 6, 7] [] rfl rfl (by decide) (by decide) hk1 hFc hP1 hD1
        generalize H1 = H at hP hS ⊢
        have hP : va_P (dC, dI) vwCl ((x_Dec ad cs r1 size count_2 data made_2 holds numbers lengths) ++ (gw 8 r1 rc1 5 rows ++ pr)) H := hP.part (cx := x_Dec ad cs r1 size count_2 data made_2 holds numbers lengths) [0, 1, 2, 3, 4, 5, 6, 7] rfl
        have hD : va_D A ((x_Dec ad cs r1 size count_2 data made_2 holds numbers lengths) ++ (gw 8 r1 rc1 5 rows ++ pr)) := hD.part (cx := x_Dec ad cs r1 size count_2 data made_2 holds numbers lengths) [0, 1, 2, 3, 4, 5, 6, 7] (by decide) rfl
        refine lv_if_ne (tgt := 64) hx hb d_Dec_divide_16 (by decide) (fun c_4 => ?_) (fun c_4 => ?_)
        · have h := (if_neg c_4).symm.trans h
          refine lv_aload_n hx hb d_Dec_divide_64 rfl (lv_at hl 0 rfl) ?_
          obtain ⟨o5, ho5, h⟩ := Option.bind_eq_some_iff.mp h
          have hKc := hK.sub (tys' := [((cs 1), .int), ((cs 2), .int), ((cs 4), .int), ((cs 5), .int), ((cs 6), .int), ((cs 7), .array .int), (rc1, .int)]) [0, 1, 2, 3, 4, 5, 6] rfl
          have hPc := hP.part (cx := x_Dec ad cs r1 size count_2 data made_2 holds numbers lengths) [0, 1, 2, 3, 4, 5, 6, 7] rfl
          have hDc := hD.part (cx := x_Dec ad cs r1 size count_2 data made_2 holds numbers lengths) [0, 1, 2, 3, 4, 5, 6, 7] (by decide) rfl
          have hFc := va_freeP (cx := x_Dec ad cs r1 size count_2 data made_2 holds numbers lengths) hD hS hA [0, 1, 2, 3, 4, 5, 6, 7] rfl
          refine va_calli (va_runV (As := []) (rest := []) ⟨hx, hb, hml, hown, hB⟩ (c_Dec_atEnd l dC dI tt ad cs r1 rc1 pr H.size N size count_2 data made_2 holds numbers lengths rows o5 ho5) (cwV 0 hB (gV wd_50 wd_48 wd_47 wd_44 wd_49) rfl rfl rfl (by decide +kernel) ⟨Nat.le_of_ble_eq_true rfl, Nat.le_of_ble_eq_true rfl⟩) ⟨PreW_blind, va_recv hKc hPc (ci := 1) (q0 := 0) rfl rfl, PreW_mk hKc hPc hDc hG hS hFc⟩ rfl rfl hl.1 rfl (lv_room (Nat.le_of_ble_eq_true rfl)) d_Dec_divide_65 ⟨Nat.le_of_ble_eq_true rfl, Nat.le_of_ble_eq_true rfl⟩) hS (fun q _ h => hFc q h) hFc (fun r_5 u_5 t H1 locs ht hvm hw hB hz1 hk1 hS => ?_)
          have hw := hw.symm
          subst hw
          obtain ⟨hP1, hK1, hD1⟩ := hB
          rw [ht] at hP1
          obtain ⟨hP, hD⟩ := va_joinP (wr := pick (x_Dec ad cs r1 size count_2 data made_2 holds numbers lengths) []) hP hD [0, 1, 2, 3, 4, 5, 6, 7] [] rfl rfl (by decide) (by decide) hk1 hFc hP1 hD1
          generalize H1 = H at hP hS ⊢
          have hP : va_P (dC, dI) vwCl ((x_Dec ad cs r1 size count_2 data made_2 holds numbers lengths) ++ (gw 8 r1 rc1 5 rows ++ pr)) H := hP.part (cx := x_Dec ad cs r1 size count_2 data made_2 holds numbers lengths) [0, 1, 2, 3, 4, 5, 6, 7] rfl
          have hD : va_D A ((x_Dec ad cs r1 size count_2 data made_2 holds numbers lengths) ++ (gw 8 r1 rc1 5 rows ++ pr)) := hD.part (cx := x_Dec ad cs r1 size count_2 data made_2 holds numbers lengths) [0, 1, 2, 3, 4, 5, 6, 7] (by decide) rfl
          have h := Option.some.inj h
          subst h
          exact W.iret hx hb hr (fun t ht hW => ⟨⟨_, (), rfl, rfl, AftW_mk hK hP hD ht hW⟩, hS.F ht⟩) hS.2.2 d_Dec_divide_68
        · have h := (if_pos c_4).symm.trans h
          refine lv_aload_n hx hb d_Dec_divide_19 rfl (lv_at hl 0 rfl) ?_
          refine va_get (D := (dC, dI)) (ci := 1) (v := .ref (ad 1)) (C := R_Dec) (T := T_Dec) (N := 5) hx hb hB in_Dec hown hK hP 0 rfl rfl 0 (by decide) (hB _ wd_36) (fun _ h9 => h9) rfl d_Dec_divide_20 ?_
          refine lv_iload_n hx hb d_Dec_divide_23 rfl (lv_at hl 1 rfl) ?_
          refine lv_iconst (v := 1) hx hb d_Dec_divide_24 (by decide) ?_
          refine lv_iadd hx hb d_Dec_divide_25 ?_
          obtain ⟨b_6, h⟩ := gI_some h
          refine va_iald hx hb hK hP 1 0 rfl rfl b_6 d_Dec_divide_26 ?_
          refine lv_if_ne (tgt := 32) hx hb d_Dec_divide_27 (by decide) (fun c_7 => ?_) (fun c_7 => ?_)
          · have h := (if_neg c_7).symm.trans h
            refine lv_aload_n hx hb d_Dec_divide_32 rfl (lv_at hl 0 rfl) ?_
            refine lv_bipush (v := 16) hx hb d_Dec_divide_33 (by decide) ?_
            refine lv_aload_n hx hb d_Dec_divide_35 rfl (lv_at hl 0 rfl) ?_
            refine va_get (D := (dC, dI)) (ci := 1) (v := .ref (ad 1)) (C := R_Dec) (T := T_Dec) (N := 5) hx hb hB in_Dec hown hK hP 0 rfl rfl 0 (by decide) (hB _ wd_36) (fun _ h9 => h9) rfl d_Dec_divide_36 ?_
            refine lv_iload_n hx hb d_Dec_divide_39 rfl (lv_at hl 1 rfl) ?_
            obtain ⟨b_8, h⟩ := gI_some h
            refine va_iald hx hb hK hP 1 0 rfl rfl b_8 d_Dec_divide_40 ?_
            refine lv_imul hx hb d_Dec_divide_41 ?_
            refine lv_aload_n hx hb d_Dec_divide_42 rfl (lv_at hl 0 rfl) ?_
            refine va_get (D := (dC, dI)) (ci := 1) (v := .ref (ad 1)) (C := R_Dec) (T := T_Dec) (N := 5) hx hb hB in_Dec hown hK hP 0 rfl rfl 0 (by decide) (hB _ wd_36) (fun _ h9 => h9) rfl d_Dec_divide_43 ?_
            refine lv_iload_n hx hb d_Dec_divide_46 rfl (lv_at hl 1 rfl) ?_
            refine lv_iconst (v := 1) hx hb d_Dec_divide_47 (by decide) ?_
            refine lv_iadd hx hb d_Dec_divide_48 ?_
            refine va_iald hx hb hK hP 1 0 rfl rfl b_6 d_Dec_divide_49 ?_
            obtain ⟨z_9, h⟩ := gZ_some h
            refine lv_idiv hx hb d_Dec_divide_50 z_9 ?_
            refine lv_sipush (v := 256) hx hb d_Dec_divide_51 (by decide) ?_
            refine lv_irem hx hb d_Dec_divide_54 (by decide) ?_
            obtain ⟨o10, ho10, h⟩ := Option.bind_eq_some_iff.mp h
            have hKc := hK.sub (tys' := [((cs 1), .int), ((cs 2), .int), ((cs 4), .int), ((cs 5), .int), ((cs 6), .int), ((cs 7), .array .int), (rc1, .int)]) [0, 1, 2, 3, 4, 5, 6] rfl
            have hPc := hP.part (cx := x_Dec ad cs r1 size count_2 data made_2 holds numbers lengths) [0, 1, 2, 3, 4, 5, 6, 7] rfl
            have hDc := hD.part (cx := x_Dec ad cs r1 size count_2 data made_2 holds numbers lengths) [0, 1, 2, 3, 4, 5, 6, 7] (by decide) rfl
            have hFc := va_freeP (cx := x_Dec ad cs r1 size count_2 data made_2 holds numbers lengths) hD hS hA [0, 1, 2, 3, 4, 5, 6, 7] rfl
            refine va_callv (va_runV (As := [.int ((((16 : Int32) * (data y2_1.toNatClampNeg)) / (data (y2_1 + (1 : Int32)).toNatClampNeg)) - (((16 : Int32) * (data y2_1.toNatClampNeg)) / (data (y2_1 + (1 : Int32)).toNatClampNeg)) / (256 : Int32) * (256 : Int32))]) (rest := []) ⟨hx, hb, hml, hown, hB⟩ (c_Dec_add l dC dI tt ad cs r1 rc1 pr H.size N ((((16 : Int32) * (data y2_1.toNatClampNeg)) / (data (y2_1 + (1 : Int32)).toNatClampNeg)) - (((16 : Int32) * (data y2_1.toNatClampNeg)) / (data (y2_1 + (1 : Int32)).toNatClampNeg)) / (256 : Int32) * (256 : Int32)) size count_2 data made_2 holds numbers lengths rows o10 ho10) (cwV 1 hB (gV wd_54 wd_52 wd_51 wd_44 wd_53) rfl rfl rfl (by decide +kernel) ⟨Nat.le_of_ble_eq_true rfl, Nat.le_of_ble_eq_true rfl⟩) ⟨PreW_blind, va_recv hKc hPc (ci := 1) (q0 := 0) rfl rfl, PreW_mk hKc hPc hDc hG hS hFc⟩ rfl rfl hl.1 rfl (lv_room (Nat.le_of_ble_eq_true rfl)) d_Dec_divide_55 ⟨Nat.le_of_ble_eq_true rfl, Nat.le_of_ble_eq_true rfl⟩) hS (fun q _ h => hFc q h) hFc (fun u_10 t H1 locs ht hvm hw hB hz1 hk1 hS => ?_)
            obtain ⟨hP1, hK1, hD1⟩ := hB
            rw [ht] at hP1
            obtain ⟨hP, hD⟩ := va_joinP (wr := pick (x_Dec ad cs r1 size count_2 data made_2 holds numbers lengths) []) hP hD [0, 1, 2, 3, 4, 5, 6, 7] [] rfl rfl (by decide) (by decide) hk1 hFc hP1 hD1
            generalize H1 = H at hP hS ⊢
            have hP : va_P (dC, dI) vwCl ((x_Dec ad cs r1 size o10.1 data o10.2 holds numbers lengths) ++ (gw 8 r1 rc1 5 rows ++ pr)) H := hP.part (cx := x_Dec ad cs r1 size o10.1 data o10.2 holds numbers lengths) [0, 1, 2, 3, 4, 5, 6, 7] rfl
            have hD : va_D A ((x_Dec ad cs r1 size o10.1 data o10.2 holds numbers lengths) ++ (gw 8 r1 rc1 5 rows ++ pr)) := hD.part (cx := x_Dec ad cs r1 size o10.1 data o10.2 holds numbers lengths) [0, 1, 2, 3, 4, 5, 6, 7] (by decide) rfl
            refine lv_iinc (v := y2_1 + 2) (lv' := [(1, .int (y2_1 + 2)), (0, .ref (ad 0))]) hx hb d_Dec_divide_58 hl (k := 1) rfl rfl (by decide) rfl (fun ls hl => ?_)
            refine lv_goto (tgt := 2) hx hb d_Dec_divide_61 (by decide) ?_
            exact ih (y2_1 + 2) o10.1 o10.2 H locs ls (lv_sub hl [1, 0] rfl) hP hD hS h
          · have h := (if_pos c_7).symm.trans h
            refine lv_iconst (v := 2) hx hb d_Dec_divide_30 (by decide) ?_
            have h := Option.some.inj h
            subst h
            exact W.iret hx hb hr (fun t ht hW => ⟨⟨_, (), rfl, rfl, AftW_mk hK hP hD ht hW⟩, hS.F ht⟩) hS.2.2 d_Dec_divide_31
  exact L2 N (0 : Int32) count made _ _ ls (lv_sub hl [1, 0] rfl) hP hD hS h
def d_Dec_signed (N : Nat) (x0 : Int32) : Option (Int32) :=
 if (128 : Int32) ≤ x0 then some (x0 - (256 : Int32)) else some x0
abbrev rm_Dec_signed : Room := { frames := 0, cells := 0, slots := 0, locals := 0 }
set_option maxHeartbeats 4000000 in
set_option maxRecDepth 100000 in
theorem c_Dec_signed (l : Launch) (dC : Nat → ClassId) (dI : Nat → Nat → Nat) (tt : Nat → Nat) (sz N : Nat) (x0 : Int32) (out : Int32) (h : d_Dec_signed N x0 = some out) :
    Met l y_Dec_signed (w_Dec_signed) rm_Dec_signed (va_Pc [.int x0] (PreW (dC, dI) [] (([] : va_W)) sz tt)) (va_Qi (fun (r : Int32) (_ : Unit) => r = out) (fun _ => AftW (dC, dI) [] (va_A (([] : va_W)) sz) (([] : va_W))) (va_A (([] : va_W)) sz)) 0 0 (va_A (([] : va_W)) sz) := by
  refine Met.ofW (cc := k_Dec_signed) (maxL := 1) (ret := (some .int)) (by decide) rfl ?_
  intro p e s m args below meth c s₁ B hml hv
  obtain ⟨rfl, hsz, hP, hK, hD0, hG⟩ := hv
  have hx := B.exec
  have hb := B.bytes
  have hr := B.returns
  have hts := atoms_spec (ws := (w_Dec_signed)) B.pre
  have hB : ∀ w ∈ BIG, w.before _ s = true := fun w h9 => hts w (List.mem_cons_of_mem _ h9)
  have hown : s.vm.findClass R_Dec = some m.cls := findClass_of_methodNamed B.named
  have hlocks := B.notSynchronized
  subst hsz
  have hD := hD0.self (sz := s.heap.size)
  generalize hAe : va_A (([] : va_W)) s.heap.size = A at hD hG ⊢
  have hA : ∀ q : Nat, s.heap.size ≤ q → A q := fun q h => by rw [← hAe]; exact Or.inr h
  have hS : va_S A s.heap s.heap [] := va_S.rf
  have hl := lv_entry ([.int x0]) (n := 1) (Nat.le_of_ble_eq_true rfl)
  rw [lg_entry_eq]
  generalize (lg_sl ([.int x0]) ++ List.replicate (1 - (lg_sl ([.int x0])).length) Slot.unset).toArray = ls at hl ⊢
  have hl : lv_has ls 1 [(0, .int x0)] := hl
  unfold d_Dec_signed at h
  refine lv_iload_n hx hb d_Dec_signed_0 rfl (lv_at hl 0 rfl) ?_
  refine lv_sipush (v := 128) hx hb d_Dec_signed_1 (by decide) ?_
  refine lv_icmp_ge (tgt := 11) hx hb d_Dec_signed_4 (by decide) (fun c_1 => ?_) (fun c_1 => ?_)
  · have h := (if_pos c_1).symm.trans h
    refine lv_iload_n hx hb d_Dec_signed_11 rfl (lv_at hl 0 rfl) ?_
    refine lv_sipush (v := 256) hx hb d_Dec_signed_12 (by decide) ?_
    refine lv_isub hx hb d_Dec_signed_15 ?_
    have h := Option.some.inj h
    subst h
    exact W.iret hx hb hr (fun t ht hW => ⟨⟨_, (), rfl, rfl, AftW_mk hK hP hD ht hW⟩, hS.F ht⟩) hS.2.2 d_Dec_signed_16
  · have h := (if_neg c_1).symm.trans h
    refine lv_iload_n hx hb d_Dec_signed_7 rfl (lv_at hl 0 rfl) ?_
    refine lv_goto (tgt := 16) hx hb d_Dec_signed_8 (by decide) ?_
    have h := Option.some.inj h
    subst h
    exact W.iret hx hb hr (fun t ht hW => ⟨⟨_, (), rfl, rfl, AftW_mk hK hP hD ht hW⟩, hS.F ht⟩) hS.2.2 d_Dec_signed_16
def d_Dec_addDifferences_L2 (N : Nat) (size : Int32) (data : Nat → Int32) : Nat → Int32 → Int32 → (Nat → Int32) → Option (Int32 × Int32 × (Nat → Int32))
  | 0, _, _, _ => none
  | n + 1, y2_1, count_2, made_2 => if size ≤ y2_1 then (d_Dec_atEnd N count_2).bind (fun o3002 => some (o3002, count_2, made_2)) else (d_Dec_isFull N count_2).bind (fun o3003 => if o3003 = 0 then if y2_1 = 0 then if (data (0 : Int32).toNatClampNeg) < 0 then some ((6 : Int32), count_2, made_2) else if (data (0 : Int32).toNatClampNeg) ≤ (255 : Int32) then (d_Dec_add N (data (0 : Int32).toNatClampNeg) count_2 made_2).bind (fun o3015 => d_Dec_addDifferences_L2 N size data n (y2_1 + 1) o3015.1 o3015.2) else some ((6 : Int32), count_2, made_2) else (d_Dec_sampleBefore N count_2 made_2).bind (fun o3007 => gI y2_1 64 ((d_Dec_signed N (data y2_1.toNatClampNeg)).bind (fun o3009 => if (o3007 + o3009) < 0 then some ((6 : Int32), count_2, made_2) else if (o3007 + o3009) ≤ (255 : Int32) then (d_Dec_add N (o3007 + o3009) count_2 made_2).bind (fun o3012 => d_Dec_addDifferences_L2 N size data n (y2_1 + 1) o3012.1 o3012.2) else some ((6 : Int32), count_2, made_2)))) else (d_Dec_atEnd N count_2).bind (fun o3005 => some (o3005, count_2, made_2)))
def d_Dec_addDifferences (N : Nat) (size : Int32) (count : Int32) (data : Nat → Int32) (made : Nat → Int32) : Option (Int32 × Int32 × (Nat → Int32)) :=
 d_Dec_addDifferences_L2 N size data N (0 : Int32) count made
abbrev rm_Dec_addDifferences : Room := { frames := 2, cells := 0, slots := 0, locals := 40 }
set_option maxHeartbeats 4000000 in
set_option maxRecDepth 100000 in
theorem c_Dec_addDifferences (l : Launch) (dC : Nat → ClassId) (dI : Nat → Nat → Nat) (tt : Nat → Nat) (ad : Nat → Nat) (cs : Nat → ClassId) (r1 : Nat → Nat) (rc1 : ClassId) (pr : va_W) (sz N : Nat) (size : Int32) (count : Int32) (data : Nat → Int32) (made : Nat → Int32) (holds : Nat → Int32) (numbers : Nat → Int32) (lengths : Nat → Int32) (rows : Nat → Nat → Int32) (out : Int32 × Int32 × (Nat → Int32)) (h : d_Dec_addDifferences N size count data made = some out) :
    Met l y_Dec_addDifferences (w_Dec_addDifferences) rm_Dec_addDifferences (va_Pc [.ref (ad 0)] (PreW (dC, dI) [((cs 1), .int), ((cs 2), .int), ((cs 4), .int), ((cs 5), .int), ((cs 6), .int), ((cs 7), .array .int), (rc1, .int)] ((x_Dec ad cs r1 size count data made holds numbers lengths) ++ (gw 8 r1 rc1 5 rows ++ pr)) sz tt)) (va_Qi (fun (r : Int32) (_ : Unit) => r = out.1) (fun _ => AftW (dC, dI) [((cs 1), .int), ((cs 2), .int), ((cs 4), .int), ((cs 5), .int), ((cs 6), .int), ((cs 7), .array .int), (rc1, .int)] (va_A ((x_Dec ad cs r1 size count data made holds numbers lengths) ++ (gw 8 r1 rc1 5 rows ++ pr)) sz) ((x_Dec ad cs r1 size out.2.1 data out.2.2 holds numbers lengths) ++ (gw 8 r1 rc1 5 rows ++ pr))) (va_A ((x_Dec ad cs r1 size count data made holds numbers lengths) ++ (gw 8 r1 rc1 5 rows ++ pr)) sz)) 0 0 (va_A ((x_Dec ad cs r1 size count data made holds numbers lengths) ++ (gw 8 r1 rc1 5 rows ++ pr)) sz) := by
  refine Met.ofW (cc := k_Dec_addDifferences) (maxL := 3) (ret := (some .int)) (by decide) rfl ?_
  intro p e s m args below meth c s₁ B hml hv
  obtain ⟨rfl, hsz, hP, hK, hD0, hG⟩ := hv
  have hx := B.exec
  have hb := B.bytes
  have hr := B.returns
  have hts := atoms_spec (ws := (w_Dec_addDifferences)) B.pre
  have hB : ∀ w ∈ BIG, w.before _ s = true := fun w h9 => hts w (List.mem_cons_of_mem _ h9)
  have hown : s.vm.findClass R_Dec = some m.cls := findClass_of_methodNamed B.named
  have hlocks := B.notSynchronized
  subst hsz
  have hD := hD0.self (sz := s.heap.size)
  generalize hAe : va_A ((x_Dec ad cs r1 size count data made holds numbers lengths) ++ (gw 8 r1 rc1 5 rows ++ pr)) s.heap.size = A at hD hG ⊢
  have hA : ∀ q : Nat, s.heap.size ≤ q → A q := fun q h => by rw [← hAe]; exact Or.inr h
  have hS : va_S A s.heap s.heap [] := va_S.rf
  have hl := lv_entry ([.ref (ad 0)]) (n := 3) (Nat.le_of_ble_eq_true rfl)
  rw [lg_entry_eq]
  generalize (lg_sl ([.ref (ad 0)]) ++ List.replicate (3 - (lg_sl ([.ref (ad 0)])).length) Slot.unset).toArray = ls at hl ⊢
  have hl : lv_has ls 3 [(0, .ref (ad 0))] := hl
  unfold d_Dec_addDifferences at h
  refine lv_iconst (v := 0) hx hb d_Dec_addDifferences_0 (by decide) ?_
  refine lv_istore_n (lv' := [(1, .int (0 : Int32)), (0, .ref (ad 0))]) hx hb d_Dec_addDifferences_1 rfl hl (by decide) rfl (fun ls hl => ?_)
  have L2 : ∀ (n : Nat) (y2_1 : Int32) (count_2 : Int32) (made_2 : Nat → Int32) (H : Heap) (locs : List Loc) (ls : Array Slot), lv_has ls 3 [(0, .ref (ad 0)), (1, .int y2_1)] → va_P (dC, dI) vwCl ((x_Dec ad cs r1 size count_2 data made_2 holds numbers lengths) ++ (gw 8 r1 rc1 5 rows ++ pr)) H → va_D A ((x_Dec ad cs r1 size count_2 data made_2 holds numbers lengths) ++ (gw 8 r1 rc1 5 rows ++ pr)) → va_S A s.heap H locs → d_Dec_addDifferences_L2 N size data n y2_1 count_2 made_2 = some out → W p l e (headSpec (w_Dec_addDifferences) rm_Dec_addDifferences).room s m ([.ref (ad 0)] : List Value).toArray below meth c H locs 0 0 (MQ below (va_Qi (fun (r : Int32) (_ : Unit) => r = out.1) (fun _ => AftW (dC, dI) [((cs 1), .int), ((cs 2), .int), ((cs 4), .int), ((cs 5), .int), ((cs 6), .int), ((cs 7), .array .int), (rc1, .int)] A ((x_Dec ad cs r1 size out.2.1 data out.2.2 holds numbers lengths) ++ (gw 8 r1 rc1 5 rows ++ pr))) A) ([.ref (ad 0)] : List Value).toArray s 0 0 A) (F0 m 2 ls []) := by
    intro n
    induction n with
    | zero =>
      intro y2_1 count_2 made_2 H locs ls hl hP hD hS h
      rw [d_Dec_addDifferences_L2] at h
      cases h
    | succ n ih =>
      intro y2_1 count_2 made_2 H locs ls hl hP hD hS h
      rw [d_Dec_addDifferences_L2] at h
      refine lv_iload_n hx hb d_Dec_addDifferences_2 rfl (lv_at hl 1 rfl) ?_
      refine lv_aload_n hx hb d_Dec_addDifferences_3 rfl (lv_at hl 0 rfl) ?_
      refine va_get (D := (dC, dI)) (ci := 1) (v := .int size) (C := R_Dec) (T := T_Dec) (N := 5) hx hb hB in_Dec hown hK hP 0 rfl rfl 3 (by decide) (hB _ wd_34) (fun _ h9 => h9) rfl d_Dec_addDifferences_4 ?_
      refine lv_icmp_ge (tgt := 70) hx hb d_Dec_addDifferences_7 (by decide) (fun c_1 => ?_) (fun c_1 => ?_)
      · have h := (if_pos c_1).symm.trans h
        refine lv_aload_n hx hb d_Dec_addDifferences_70 rfl (lv_at hl 0 rfl) ?_
        obtain ⟨o2, ho2, h⟩ := Option.bind_eq_some_iff.mp h
        have hKc := hK.sub (tys' := [((cs 1), .int), ((cs 2), .int), ((cs 4), .int), ((cs 5), .int), ((cs 6), .int), ((cs 7), .array .int), (rc1, .int)]) [0, 1, 2, 3, 4, 5, 6] rfl
        have hPc := hP.part (cx := x_Dec ad cs r1 size count_2 data made_2 holds numbers lengths) [0, 1, 2, 3, 4, 5, 6, 7] rfl
        have hDc := hD.part (cx := x_Dec ad cs r1 size count_2 data made_2 holds numbers lengths) [0, 1, 2, 3, 4, 5, 6, 7] (by decide) rfl
        have hFc := va_freeP (cx := x_Dec ad cs r1 size count_2 data made_2 holds numbers lengths) hD hS hA [0, 1, 2, 3, 4, 5, 6, 7] rfl
        refine va_calli (va_runV (As := []) (rest := []) ⟨hx, hb, hml, hown, hB⟩ (c_Dec_atEnd l dC dI tt ad cs r1 rc1 pr H.size N size count_2 data made_2 holds numbers lengths rows o2 ho2) (cwV 0 hB (gV wd_50 wd_48 wd_47 wd_44 wd_49) rfl rfl rfl (by decide +kernel) ⟨Nat.le_of_ble_eq_true rfl, Nat.le_of_ble_eq_true rfl⟩) ⟨PreW_blind, va_recv hKc hPc (ci := 1) (q0 := 0) rfl rfl, PreW_mk hKc hPc hDc hG hS hFc⟩ rfl rfl hl.1 rfl (lv_room (Nat.le_of_ble_eq_true rfl)) d_Dec_addDifferences_71 ⟨Nat.le_of_ble_eq_true rfl, Nat.le_of_ble_eq_true rfl⟩) hS (fun q _ h => hFc q h) hFc (fun r_2 u_2 t H1 locs ht hvm hw hB hz1 hk1 hS => ?_)
        have hw := hw.symm
        subst hw
        obtain ⟨hP1, hK1, hD1⟩ := hB
        rw [ht] at hP1
        obtain ⟨hP, hD⟩ := va_joinP (wr := pick (x_Dec ad cs r1 size count_2 data made_2 holds numbers lengths) []) hP hD [0, 1, 2, 3, 4, 5, 6, 7] [] rfl rfl (by decide) (by decide) hk1 hFc hP1 hD1
        generalize H1 = H at hP hS ⊢
        have hP : va_P (dC, dI) vwCl ((x_Dec ad cs r1 size count_2 data made_2 holds numbers lengths) ++ (gw 8 r1 rc1 5 rows ++ pr)) H := hP.part (cx := x_Dec ad cs r1 size count_2 data made_2 holds numbers lengths) [0, 1, 2, 3, 4, 5, 6, 7] rfl
        have hD : va_D A ((x_Dec ad cs r1 size count_2 data made_2 holds numbers lengths) ++ (gw 8 r1 rc1 5 rows ++ pr)) := hD.part (cx := x_Dec ad cs r1 size count_2 data made_2 holds numbers lengths) [0, 1, 2, 3, 4, 5, 6, 7] (by decide) rfl
        have h := Option.some.inj h
        subst h
        exact W.iret hx hb hr (fun t ht hW => ⟨⟨_, (), rfl, rfl, AftW_mk hK hP hD ht hW⟩, hS.F ht⟩) hS.2.2 d_Dec_addDifferences_74
      · have h := (if_neg c_1).symm.trans h
        refine lv_aload_n hx hb d_Dec_addDifferences_10 rfl (lv_at hl 0 rfl) ?_
        obtain ⟨o3, ho3, h⟩ := Option.bind_eq_some_iff.mp h
        have hKc := hK.sub (tys' := [((cs 1), .int), ((cs 2), .int), ((cs 4), .int), ((cs 5), .int), ((cs 6), .int), ((cs 7), .array .int), (rc1, .int)]) [0, 1, 2, 3, 4, 5, 6] rfl
        have hPc := hP.part (cx := x_Dec ad cs r1 size count_2 data made_2 holds numbers lengths) [0, 1, 2, 3, 4, 5, 6, 7] rfl
        have hDc := hD.part (cx := x_Dec ad cs r1 size count_2 data made_2 holds numbers lengths) [0, 1, 2, 3, 4, 5, 6, 7] (by decide) rfl
        have hFc := va_freeP (cx := x_Dec ad cs r1 size count_2 data made_2 holds numbers lengths) hD hS hA [0, 1, 2, 3, 4, 5, 6, 7] rfl
        refine va_calli (va_runV (As := []) (rest := []) ⟨hx, hb, hml, hown, hB⟩ (c_Dec_isFull l dC dI tt ad cs r1 rc1 pr H.size N size count_2 data made_2 holds numbers lengths rows o3 ho3) (cwV 0 hB (gV wd_46 wd_43 wd_42 wd_44 wd_45) rfl rfl rfl (by decide +kernel) ⟨Nat.le_of_ble_eq_true rfl, Nat.le_of_ble_eq_true rfl⟩) ⟨PreW_blind, va_recv hKc hPc (ci := 1) (q0 := 0) rfl rfl, PreW_mk hKc hPc hDc hG hS hFc⟩ rfl rfl hl.1 rfl (lv_room (Nat.le_of_ble_eq_true rfl)) d_Dec_addDifferences_11 ⟨Nat.le_of_ble_eq_true rfl, Nat.le_of_ble_eq_true rfl⟩) hS (fun q _ h => hFc q h) hFc (fun r_3 u_3 t H1 locs ht hvm hw hB hz1 hk1 hS => ?_)
        have hw := hw.symm
        subst hw
        obtain ⟨hP1, hK1, hD1⟩ := hB
        rw [ht] at hP1
        obtain ⟨hP, hD⟩ := va_joinP (wr := pick (x_Dec ad cs r1 size count_2 data made_2 holds numbers lengths) []) hP hD [0, 1, 2, 3, 4, 5, 6, 7] [] rfl rfl (by decide) (by decide) hk1 hFc hP1 hD1
        generalize H1 = H at hP hS ⊢
        have hP : va_P (dC, dI) vwCl ((x_Dec ad cs r1 size count_2 data made_2 holds numbers lengths) ++ (gw 8 r1 rc1 5 rows ++ pr)) H := hP.part (cx := x_Dec ad cs r1 size count_2 data made_2 holds numbers lengths) [0, 1, 2, 3, 4, 5, 6, 7] rfl
        have hD : va_D A ((x_Dec ad cs r1 size count_2 data made_2 holds numbers lengths) ++ (gw 8 r1 rc1 5 rows ++ pr)) := hD.part (cx := x_Dec ad cs r1 size count_2 data made_2 holds numbers lengths) [0, 1, 2, 3, 4, 5, 6, 7] (by decide) rfl
        refine lv_if_ne (tgt := 70) hx hb d_Dec_addDifferences_14 (by decide) (fun c_4 => ?_) (fun c_4 => ?_)
        · have h := (if_neg c_4).symm.trans h
          refine lv_aload_n hx hb d_Dec_addDifferences_70 rfl (lv_at hl 0 rfl) ?_
          obtain ⟨o5, ho5, h⟩ := Option.bind_eq_some_iff.mp h
          have hKc := hK.sub (tys' := [((cs 1), .int), ((cs 2), .int), ((cs 4), .int), ((cs 5), .int), ((cs 6), .int), ((cs 7), .array .int), (rc1, .int)]) [0, 1, 2, 3, 4, 5, 6] rfl
          have hPc := hP.part (cx := x_Dec ad cs r1 size count_2 data made_2 holds numbers lengths) [0, 1, 2, 3, 4, 5, 6, 7] rfl
          have hDc := hD.part (cx := x_Dec ad cs r1 size count_2 data made_2 holds numbers lengths) [0, 1, 2, 3, 4, 5, 6, 7] (by decide) rfl
          have hFc := va_freeP (cx := x_Dec ad cs r1 size count_2 data made_2 holds numbers lengths) hD hS hA [0, 1, 2, 3, 4, 5, 6, 7] rfl
          refine va_calli (va_runV (As := []) (rest := []) ⟨hx, hb, hml, hown, hB⟩ (c_Dec_atEnd l dC dI tt ad cs r1 rc1 pr H.size N size count_2 data made_2 holds numbers lengths rows o5 ho5) (cwV 0 hB (gV wd_50 wd_48 wd_47 wd_44 wd_49) rfl rfl rfl (by decide +kernel) ⟨Nat.le_of_ble_eq_true rfl, Nat.le_of_ble_eq_true rfl⟩) ⟨PreW_blind, va_recv hKc hPc (ci := 1) (q0 := 0) rfl rfl, PreW_mk hKc hPc hDc hG hS hFc⟩ rfl rfl hl.1 rfl (lv_room (Nat.le_of_ble_eq_true rfl)) d_Dec_addDifferences_71 ⟨Nat.le_of_ble_eq_true rfl, Nat.le_of_ble_eq_true rfl⟩) hS (fun q _ h => hFc q h) hFc (fun r_5 u_5 t H1 locs ht hvm hw hB hz1 hk1 hS => ?_)
          have hw := hw.symm
          subst hw
          obtain ⟨hP1, hK1, hD1⟩ := hB
          rw [ht] at hP1
          obtain ⟨hP, hD⟩ := va_joinP (wr := pick (x_Dec ad cs r1 size count_2 data made_2 holds numbers lengths) []) hP hD [0, 1, 2, 3, 4, 5, 6, 7] [] rfl rfl (by decide) (by decide) hk1 hFc hP1 hD1
          generalize H1 = H at hP hS ⊢
          have hP : va_P (dC, dI) vwCl ((x_Dec ad cs r1 size count_2 data made_2 holds numbers lengths) ++ (gw 8 r1 rc1 5 rows ++ pr)) H := hP.part (cx := x_Dec ad cs r1 size count_2 data made_2 holds numbers lengths) [0, 1, 2, 3, 4, 5, 6, 7] rfl
          have hD : va_D A ((x_Dec ad cs r1 size count_2 data made_2 holds numbers lengths) ++ (gw 8 r1 rc1 5 rows ++ pr)) := hD.part (cx := x_Dec ad cs r1 size count_2 data made_2 holds numbers lengths) [0, 1, 2, 3, 4, 5, 6, 7] (by decide) rfl
          have h := Option.some.inj h
          subst h
          exact W.iret hx hb hr (fun t ht hW => ⟨⟨_, (), rfl, rfl, AftW_mk hK hP hD ht hW⟩, hS.F ht⟩) hS.2.2 d_Dec_addDifferences_74
        · have h := (if_pos c_4).symm.trans h
          refine lv_iload_n hx hb d_Dec_addDifferences_17 rfl (lv_at hl 1 rfl) ?_
          refine lv_if_ne (tgt := 30) hx hb d_Dec_addDifferences_18 (by decide) (fun c_6 => ?_) (fun c_6 => ?_)
          · have h := (if_neg c_6).symm.trans h
            refine lv_aload_n hx hb d_Dec_addDifferences_30 rfl (lv_at hl 0 rfl) ?_
            obtain ⟨o7, ho7, h⟩ := Option.bind_eq_some_iff.mp h
            have hKc := hK.sub (tys' := [((cs 1), .int), ((cs 2), .int), ((cs 4), .int), ((cs 5), .int), ((cs 6), .int), ((cs 7), .array .int), (rc1, .int)]) [0, 1, 2, 3, 4, 5, 6] rfl
            have hPc := hP.part (cx := x_Dec ad cs r1 size count_2 data made_2 holds numbers lengths) [0, 1, 2, 3, 4, 5, 6, 7] rfl
            have hDc := hD.part (cx := x_Dec ad cs r1 size count_2 data made_2 holds numbers lengths) [0, 1, 2, 3, 4, 5, 6, 7] (by decide) rfl
            have hFc := va_freeP (cx := x_Dec ad cs r1 size count_2 data made_2 holds numbers lengths) hD hS hA [0, 1, 2, 3, 4, 5, 6, 7] rfl
            refine va_calli (va_runV (As := []) (rest := []) ⟨hx, hb, hml, hown, hB⟩ (c_Dec_sampleBefore l dC dI tt ad cs r1 rc1 pr H.size N size count_2 data made_2 holds numbers lengths rows o7 ho7) (cwV 0 hB (gV wd_58 wd_56 wd_55 wd_44 wd_57) rfl rfl rfl (by decide +kernel) ⟨Nat.le_of_ble_eq_true rfl, Nat.le_of_ble_eq_true rfl⟩) ⟨PreW_blind, va_recv hKc hPc (ci := 1) (q0 := 0) rfl rfl, PreW_mk hKc hPc hDc hG hS hFc⟩ rfl rfl hl.1 rfl (lv_room (Nat.le_of_ble_eq_true rfl)) d_Dec_addDifferences_31 ⟨Nat.le_of_ble_eq_true rfl, Nat.le_of_ble_eq_true rfl⟩) hS (fun q _ h => hFc q h) hFc (fun r_7 u_7 t H1 locs ht hvm hw hB hz1 hk1 hS => ?_)
            have hw := hw.symm
            subst hw
            obtain ⟨hP1, hK1, hD1⟩ := hB
            rw [ht] at hP1
            obtain ⟨hP, hD⟩ := va_joinP (wr := pick (x_Dec ad cs r1 size count_2 data made_2 holds numbers lengths) []) hP hD [0, 1, 2, 3, 4, 5, 6, 7] [] rfl rfl (by decide) (by decide) hk1 hFc hP1 hD1
            generalize H1 = H at hP hS ⊢
            have hP : va_P (dC, dI) vwCl ((x_Dec ad cs r1 size count_2 data made_2 holds numbers lengths) ++ (gw 8 r1 rc1 5 rows ++ pr)) H := hP.part (cx := x_Dec ad cs r1 size count_2 data made_2 holds numbers lengths) [0, 1, 2, 3, 4, 5, 6, 7] rfl
            have hD : va_D A ((x_Dec ad cs r1 size count_2 data made_2 holds numbers lengths) ++ (gw 8 r1 rc1 5 rows ++ pr)) := hD.part (cx := x_Dec ad cs r1 size count_2 data made_2 holds numbers lengths) [0, 1, 2, 3, 4, 5, 6, 7] (by decide) rfl
            refine lv_aload_n hx hb d_Dec_addDifferences_34 rfl (lv_at hl 0 rfl) ?_
            refine va_get (D := (dC, dI)) (ci := 1) (v := .ref (ad 1)) (C := R_Dec) (T := T_Dec) (N := 5) hx hb hB in_Dec hown hK hP 0 rfl rfl 0 (by decide) (hB _ wd_36) (fun _ h9 => h9) rfl d_Dec_addDifferences_35 ?_
            refine lv_iload_n hx hb d_Dec_addDifferences_38 rfl (lv_at hl 1 rfl) ?_
            obtain ⟨b_8, h⟩ := gI_some h
            refine va_iald hx hb hK hP 1 0 rfl rfl b_8 d_Dec_addDifferences_39 ?_
            obtain ⟨o9, ho9, h⟩ := Option.bind_eq_some_iff.mp h
            have hKc := hK.sub (tys' := []) [] rfl
            have hPc := pl_P (cx := ([] : va_W)) hP [] rfl
            have hDc := pl_D (cx := ([] : va_W)) hD [] (by decide) rfl
            have hFc := pl_F (cx := ([] : va_W)) hD hS hA [] rfl
            refine va_calli (va_runS (As := [.int (data y2_1.toNatClampNeg)]) (rest := [.int o7]) ⟨hx, hb, hml, hown, hB⟩ (c_Dec_signed l dC dI tt H.size N (data y2_1.toNatClampNeg) o9 ho9) (va_cwS 1 hB (gS wd_61 wd_59 wd_44 wd_60) rfl rfl rfl (by decide +kernel) ⟨Nat.le_of_ble_eq_true rfl, Nat.le_of_ble_eq_true rfl⟩) ⟨PreW_blind, PreW_mk hKc hPc hDc hG hS hFc⟩ rfl rfl hl.1 rfl (lv_room (Nat.le_of_ble_eq_true rfl)) d_Dec_addDifferences_40 ⟨Nat.le_of_ble_eq_true rfl, Nat.le_of_ble_eq_true rfl⟩) hS (fun q _ h => hFc q h) hFc (fun r_9 u_9 t H1 locs ht hvm hw hB hz1 hk1 hS => ?_)
            have hw := hw.symm
            subst hw
            obtain ⟨hP1, hK1, hD1⟩ := hB
            rw [ht] at hP1
            obtain ⟨hP, hD⟩ := va_joinQ (wr := pick (x_Dec ad cs r1 size count_2 data made_2 holds numbers lengths) [0, 1, 2, 3, 4, 5, 6, 7]) hP hD [] [0, 1, 2, 3, 4, 5, 6, 7] rfl rfl (by decide) (by decide) hk1 hFc hP1 hD1
            generalize H1 = H at hP hS ⊢
            have hP : va_P (dC, dI) vwCl ((x_Dec ad cs r1 size count_2 data made_2 holds numbers lengths) ++ (gw 8 r1 rc1 5 rows ++ pr)) H := hP.part (cx := x_Dec ad cs r1 size count_2 data made_2 holds numbers lengths) [0, 1, 2, 3, 4, 5, 6, 7] rfl
            have hD : va_D A ((x_Dec ad cs r1 size count_2 data made_2 holds numbers lengths) ++ (gw 8 r1 rc1 5 rows ++ pr)) := hD.part (cx := x_Dec ad cs r1 size count_2 data made_2 holds numbers lengths) [0, 1, 2, 3, 4, 5, 6, 7] (by decide) rfl
            refine lv_iadd hx hb d_Dec_addDifferences_43 ?_
            refine lv_istore_n (lv' := [(2, .int (o7 + o9)), (0, .ref (ad 0)), (1, .int y2_1)]) hx hb d_Dec_addDifferences_44 rfl hl (by decide) rfl (fun ls hl => ?_)
            refine lv_iload_n hx hb d_Dec_addDifferences_45 rfl (lv_at hl 0 rfl) ?_
            refine lv_if_lt (tgt := 56) hx hb d_Dec_addDifferences_46 (by decide) (fun c_10 => ?_) (fun c_10 => ?_)
            · have h := (if_pos c_10).symm.trans h
              refine lv_bipush (v := 6) hx hb d_Dec_addDifferences_56 (by decide) ?_
              have h := Option.some.inj h
              subst h
              exact W.iret hx hb hr (fun t ht hW => ⟨⟨_, (), rfl, rfl, AftW_mk hK hP hD ht hW⟩, hS.F ht⟩) hS.2.2 d_Dec_addDifferences_58
            · have h := (if_neg c_10).symm.trans h
              refine lv_iload_n hx hb d_Dec_addDifferences_49 rfl (lv_at hl 0 rfl) ?_
              refine lv_sipush (v := 255) hx hb d_Dec_addDifferences_50 (by decide) ?_
              refine lv_icmp_le (tgt := 59) hx hb d_Dec_addDifferences_53 (by decide) (fun c_11 => ?_) (fun c_11 => ?_)
              · have h := (if_pos c_11).symm.trans h
                refine lv_aload_n hx hb d_Dec_addDifferences_59 rfl (lv_at hl 1 rfl) ?_
                refine lv_iload_n hx hb d_Dec_addDifferences_60 rfl (lv_at hl 0 rfl) ?_
                obtain ⟨o12, ho12, h⟩ := Option.bind_eq_some_iff.mp h
                have hKc := hK.sub (tys' := [((cs 1), .int), ((cs 2), .int), ((cs 4), .int), ((cs 5), .int), ((cs 6), .int), ((cs 7), .array .int), (rc1, .int)]) [0, 1, 2, 3, 4, 5, 6] rfl
                have hPc := hP.part (cx := x_Dec ad cs r1 size count_2 data made_2 holds numbers lengths) [0, 1, 2, 3, 4, 5, 6, 7] rfl
                have hDc := hD.part (cx := x_Dec ad cs r1 size count_2 data made_2 holds numbers lengths) [0, 1, 2, 3, 4, 5, 6, 7] (by decide) rfl
                have hFc := va_freeP (cx := x_Dec ad cs r1 size count_2 data made_2 holds numbers lengths) hD hS hA [0, 1, 2, 3, 4, 5, 6, 7] rfl
                refine va_callv (va_runV (As := [.int (o7 + o9)]) (rest := []) ⟨hx, hb, hml, hown, hB⟩ (c_Dec_add l dC dI tt ad cs r1 rc1 pr H.size N (o7 + o9) size count_2 data made_2 holds numbers lengths rows o12 ho12) (cwV 1 hB (gV wd_54 wd_52 wd_51 wd_44 wd_53) rfl rfl rfl (by decide +kernel) ⟨Nat.le_of_ble_eq_true rfl, Nat.le_of_ble_eq_true rfl⟩) ⟨PreW_blind, va_recv hKc hPc (ci := 1) (q0 := 0) rfl rfl, PreW_mk hKc hPc hDc hG hS hFc⟩ rfl rfl hl.1 rfl (lv_room (Nat.le_of_ble_eq_true rfl)) d_Dec_addDifferences_61 ⟨Nat.le_of_ble_eq_true rfl, Nat.le_of_ble_eq_true rfl⟩) hS (fun q _ h => hFc q h) hFc (fun u_12 t H1 locs ht hvm hw hB hz1 hk1 hS => ?_)
                obtain ⟨hP1, hK1, hD1⟩ := hB
                rw [ht] at hP1
                obtain ⟨hP, hD⟩ := va_joinP (wr := pick (x_Dec ad cs r1 size count_2 data made_2 holds numbers lengths) []) hP hD [0, 1, 2, 3, 4, 5, 6, 7] [] rfl rfl (by decide) (by decide) hk1 hFc hP1 hD1
                generalize H1 = H at hP hS ⊢
                have hP : va_P (dC, dI) vwCl ((x_Dec ad cs r1 size o12.1 data o12.2 holds numbers lengths) ++ (gw 8 r1 rc1 5 rows ++ pr)) H := hP.part (cx := x_Dec ad cs r1 size o12.1 data o12.2 holds numbers lengths) [0, 1, 2, 3, 4, 5, 6, 7] rfl
                have hD : va_D A ((x_Dec ad cs r1 size o12.1 data o12.2 holds numbers lengths) ++ (gw 8 r1 rc1 5 rows ++ pr)) := hD.part (cx := x_Dec ad cs r1 size o12.1 data o12.2 holds numbers lengths) [0, 1, 2, 3, 4, 5, 6, 7] (by decide) rfl
                refine lv_iinc (v := y2_1 + 1) (lv' := [(1, .int (y2_1 + 1)), (2, .int (o7 + o9)), (0, .ref (ad 0))]) hx hb d_Dec_addDifferences_64 hl (k := 2) rfl rfl (by decide) rfl (fun ls hl => ?_)
                refine lv_goto (tgt := 2) hx hb d_Dec_addDifferences_67 (by decide) ?_
                exact ih (y2_1 + 1) o12.1 o12.2 H locs ls (lv_sub hl [2, 0] rfl) hP hD hS h
              · have h := (if_neg c_11).symm.trans h
                refine lv_bipush (v := 6) hx hb d_Dec_addDifferences_56 (by decide) ?_
                have h := Option.some.inj h
                subst h
                exact W.iret hx hb hr (fun t ht hW => ⟨⟨_, (), rfl, rfl, AftW_mk hK hP hD ht hW⟩, hS.F ht⟩) hS.2.2 d_Dec_addDifferences_58
          · have h := (if_pos c_6).symm.trans h
            refine lv_aload_n hx hb d_Dec_addDifferences_21 rfl (lv_at hl 0 rfl) ?_
            refine va_get (D := (dC, dI)) (ci := 1) (v := .ref (ad 1)) (C := R_Dec) (T := T_Dec) (N := 5) hx hb hB in_Dec hown hK hP 0 rfl rfl 0 (by decide) (hB _ wd_36) (fun _ h9 => h9) rfl d_Dec_addDifferences_22 ?_
            refine lv_iconst (v := 0) hx hb d_Dec_addDifferences_25 (by decide) ?_
            refine va_iald hx hb hK hP 1 0 rfl rfl (show ¬ ((0 : Int32) < 0 ∨ 64 ≤ (0 : Int32).toNatClampNeg) from by decide) d_Dec_addDifferences_26 ?_
            refine lv_goto (tgt := 44) hx hb d_Dec_addDifferences_27 (by decide) ?_
            refine lv_istore_n (lv' := [(2, .int (data (0 : Int32).toNatClampNeg)), (0, .ref (ad 0)), (1, .int y2_1)]) hx hb d_Dec_addDifferences_44 rfl hl (by decide) rfl (fun ls hl => ?_)
            refine lv_iload_n hx hb d_Dec_addDifferences_45 rfl (lv_at hl 0 rfl) ?_
            refine lv_if_lt (tgt := 56) hx hb d_Dec_addDifferences_46 (by decide) (fun c_13 => ?_) (fun c_13 => ?_)
            · have h := (if_pos c_13).symm.trans h
              refine lv_bipush (v := 6) hx hb d_Dec_addDifferences_56 (by decide) ?_
              have h := Option.some.inj h
              subst h
              exact W.iret hx hb hr (fun t ht hW => ⟨⟨_, (), rfl, rfl, AftW_mk hK hP hD ht hW⟩, hS.F ht⟩) hS.2.2 d_Dec_addDifferences_58
            · have h := (if_neg c_13).symm.trans h
              refine lv_iload_n hx hb d_Dec_addDifferences_49 rfl (lv_at hl 0 rfl) ?_
              refine lv_sipush (v := 255) hx hb d_Dec_addDifferences_50 (by decide) ?_
              refine lv_icmp_le (tgt := 59) hx hb d_Dec_addDifferences_53 (by decide) (fun c_14 => ?_) (fun c_14 => ?_)
              · have h := (if_pos c_14).symm.trans h
                refine lv_aload_n hx hb d_Dec_addDifferences_59 rfl (lv_at hl 1 rfl) ?_
                refine lv_iload_n hx hb d_Dec_addDifferences_60 rfl (lv_at hl 0 rfl) ?_
                obtain ⟨o15, ho15, h⟩ := Option.bind_eq_some_iff.mp h
                have hKc := hK.sub (tys' := [((cs 1), .int), ((cs 2), .int), ((cs 4), .int), ((cs 5), .int), ((cs 6), .int), ((cs 7), .array .int), (rc1, .int)]) [0, 1, 2, 3, 4, 5, 6] rfl
                have hPc := hP.part (cx := x_Dec ad cs r1 size count_2 data made_2 holds numbers lengths) [0, 1, 2, 3, 4, 5, 6, 7] rfl
                have hDc := hD.part (cx := x_Dec ad cs r1 size count_2 data made_2 holds numbers lengths) [0, 1, 2, 3, 4, 5, 6, 7] (by decide) rfl
                have hFc := va_freeP (cx := x_Dec ad cs r1 size count_2 data made_2 holds numbers lengths) hD hS hA [0, 1, 2, 3, 4, 5, 6, 7] rfl
                refine va_callv (va_runV (As := [.int (data (0 : Int32).toNatClampNeg)]) (rest := []) ⟨hx, hb, hml, hown, hB⟩ (c_Dec_add l dC dI tt ad cs r1 rc1 pr H.size N (data (0 : Int32).toNatClampNeg) size count_2 data made_2 holds numbers lengths rows o15 ho15) (cwV 1 hB (gV wd_54 wd_52 wd_51 wd_44 wd_53) rfl rfl rfl (by decide +kernel) ⟨Nat.le_of_ble_eq_true rfl, Nat.le_of_ble_eq_true rfl⟩) ⟨PreW_blind, va_recv hKc hPc (ci := 1) (q0 := 0) rfl rfl, PreW_mk hKc hPc hDc hG hS hFc⟩ rfl rfl hl.1 rfl (lv_room (Nat.le_of_ble_eq_true rfl)) d_Dec_addDifferences_61 ⟨Nat.le_of_ble_eq_true rfl, Nat.le_of_ble_eq_true rfl⟩) hS (fun q _ h => hFc q h) hFc (fun u_15 t H1 locs ht hvm hw hB hz1 hk1 hS => ?_)
                obtain ⟨hP1, hK1, hD1⟩ := hB
                rw [ht] at hP1
                obtain ⟨hP, hD⟩ := va_joinP (wr := pick (x_Dec ad cs r1 size count_2 data made_2 holds numbers lengths) []) hP hD [0, 1, 2, 3, 4, 5, 6, 7] [] rfl rfl (by decide) (by decide) hk1 hFc hP1 hD1
                generalize H1 = H at hP hS ⊢
                have hP : va_P (dC, dI) vwCl ((x_Dec ad cs r1 size o15.1 data o15.2 holds numbers lengths) ++ (gw 8 r1 rc1 5 rows ++ pr)) H := hP.part (cx := x_Dec ad cs r1 size o15.1 data o15.2 holds numbers lengths) [0, 1, 2, 3, 4, 5, 6, 7] rfl
                have hD : va_D A ((x_Dec ad cs r1 size o15.1 data o15.2 holds numbers lengths) ++ (gw 8 r1 rc1 5 rows ++ pr)) := hD.part (cx := x_Dec ad cs r1 size o15.1 data o15.2 holds numbers lengths) [0, 1, 2, 3, 4, 5, 6, 7] (by decide) rfl
                refine lv_iinc (v := y2_1 + 1) (lv' := [(1, .int (y2_1 + 1)), (2, .int (data (0 : Int32).toNatClampNeg)), (0, .ref (ad 0))]) hx hb d_Dec_addDifferences_64 hl (k := 2) rfl rfl (by decide) rfl (fun ls hl => ?_)
                refine lv_goto (tgt := 2) hx hb d_Dec_addDifferences_67 (by decide) ?_
                exact ih (y2_1 + 1) o15.1 o15.2 H locs ls (lv_sub hl [2, 0] rfl) hP hD hS h
              · have h := (if_neg c_14).symm.trans h
                refine lv_bipush (v := 6) hx hb d_Dec_addDifferences_56 (by decide) ?_
                have h := Option.some.inj h
                subst h
                exact W.iret hx hb hr (fun t ht hW => ⟨⟨_, (), rfl, rfl, AftW_mk hK hP hD ht hW⟩, hS.F ht⟩) hS.2.2 d_Dec_addDifferences_58
  exact L2 N (0 : Int32) count made _ _ ls (lv_sub hl [1, 0] rfl) hP hD hS h
def d_Dec_doOperation (N : Nat) (x1 : Int32) (x2 : Int32) (x3 : Int32) (count : Int32) (made : Nat → Int32) (holds : Nat → Int32) (numbers : Nat → Int32) (lengths : Nat → Int32) (rows : Nat → Nat → Int32) : Option (Int32 × (Nat → Int32) × (Nat → Int32) × (Nat → Int32) × (Nat → Int32) × (Nat → Nat → Int32)) :=
 if x1 = 0 then (d_Boxes_putNumber N x2 x3 holds numbers).bind (fun o2 => some (count, made, o2.1, o2.2, lengths, rows)) else if x1 = 1 then (d_Boxes_rowLength N x3).bind (fun o4 => (d_Boxes_putRow N x2 o4 holds lengths rows).bind (fun o5 => some (count, made, o5.1, numbers, o5.2.1, o5.2.2))) else if x1 = 2 then gI x2 8 ((d_Dec_add N (numbers x2.toNatClampNeg) count made).bind (fun o8 => some (o8.1, o8.2, holds, numbers, lengths, rows))) else if x1 = 3 then gI x2 8 ((d_Dec_add N (lengths x2.toNatClampNeg) count made).bind (fun o11 => some (o11.1, o11.2, holds, numbers, lengths, rows))) else if x1 = 4 then gI x2 8 ((d_Dec_sampleBefore N count made).bind (fun o14 => gI x3 5 (some (count, made, holds, numbers, lengths, upd2 rows x2.toNatClampNeg x3.toNatClampNeg o14)))) else if x1 = 5 then gI x2 8 (gI x3 5 ((d_Dec_add N (rows x2.toNatClampNeg x3.toNatClampNeg) count made).bind (fun o19 => some (o19.1, o19.2, holds, numbers, lengths, rows)))) else gI x2 8 (some (count, made, upd holds x2.toNatClampNeg (0 : Int32), numbers, lengths, rows))
abbrev rm_Dec_doOperation : Room := { frames := 1, cells := 0, slots := 0, locals := 23 }
set_option maxHeartbeats 4000000 in
set_option maxRecDepth 100000 in
theorem c_Dec_doOperation (l : Launch) (dC : Nat → ClassId) (dI : Nat → Nat → Nat) (tt : Nat → Nat) (ad : Nat → Nat) (cs : Nat → ClassId) (r1 : Nat → Nat) (rc1 : ClassId) (pr : va_W) (sz N : Nat) (x1 : Int32) (x2 : Int32) (x3 : Int32) (size : Int32) (count : Int32) (data : Nat → Int32) (made : Nat → Int32) (holds : Nat → Int32) (numbers : Nat → Int32) (lengths : Nat → Int32) (rows : Nat → Nat → Int32) (out : Int32 × (Nat → Int32) × (Nat → Int32) × (Nat → Int32) × (Nat → Int32) × (Nat → Nat → Int32)) (h : d_Dec_doOperation N x1 x2 x3 count made holds numbers lengths rows = some out) :
    Met l y_Dec_doOperation (w_Dec_doOperation) rm_Dec_doOperation (va_Pc [.ref (ad 0), .int x1, .int x2, .int x3] (PreW (dC, dI) [((cs 1), .int), ((cs 2), .int), ((cs 4), .int), ((cs 5), .int), ((cs 6), .int), ((cs 7), .array .int), (rc1, .int)] ((x_Dec ad cs r1 size count data made holds numbers lengths) ++ (gw 8 r1 rc1 5 rows ++ pr)) sz tt)) (va_Qv (fun (_ : Unit) => True) (fun _ => AftW (dC, dI) [((cs 1), .int), ((cs 2), .int), ((cs 4), .int), ((cs 5), .int), ((cs 6), .int), ((cs 7), .array .int), (rc1, .int)] (va_A ((x_Dec ad cs r1 size count data made holds numbers lengths) ++ (gw 8 r1 rc1 5 rows ++ pr)) sz) ((x_Dec ad cs r1 size out.1 data out.2.1 out.2.2.1 out.2.2.2.1 out.2.2.2.2.1) ++ (gw 8 r1 rc1 5 out.2.2.2.2.2 ++ pr))) (va_A ((x_Dec ad cs r1 size count data made holds numbers lengths) ++ (gw 8 r1 rc1 5 rows ++ pr)) sz)) 0 0 (va_A ((x_Dec ad cs r1 size count data made holds numbers lengths) ++ (gw 8 r1 rc1 5 rows ++ pr)) sz) := by
  refine Met.ofW (cc := k_Dec_doOperation) (maxL := 4) (ret := none) (by decide) rfl ?_
  intro p e s m args below meth c s₁ B hml hv
  obtain ⟨rfl, hsz, hP, hK, hD0, hG⟩ := hv
  have hx := B.exec
  have hb := B.bytes
  have hr := B.returns
  have hts := atoms_spec (ws := (w_Dec_doOperation)) B.pre
  have hB : ∀ w ∈ BIG, w.before _ s = true := fun w h9 => hts w (List.mem_cons_of_mem _ h9)
  have hown : s.vm.findClass R_Dec = some m.cls := findClass_of_methodNamed B.named
  have hlocks := B.notSynchronized
  subst hsz
  have hD := hD0.self (sz := s.heap.size)
  generalize hAe : va_A ((x_Dec ad cs r1 size count data made holds numbers lengths) ++ (gw 8 r1 rc1 5 rows ++ pr)) s.heap.size = A at hD hG ⊢
  have hA : ∀ q : Nat, s.heap.size ≤ q → A q := fun q h => by rw [← hAe]; exact Or.inr h
  have hS : va_S A s.heap s.heap [] := va_S.rf
  have hl := lv_entry ([.ref (ad 0), .int x1, .int x2, .int x3]) (n := 4) (Nat.le_of_ble_eq_true rfl)
  rw [lg_entry_eq]
  generalize (lg_sl ([.ref (ad 0), .int x1, .int x2, .int x3]) ++ List.replicate (4 - (lg_sl ([.ref (ad 0), .int x1, .int x2, .int x3])).length) Slot.unset).toArray = ls at hl ⊢
  have hl : lv_has ls 4 [(0, .ref (ad 0)), (1, .int x1), (2, .int x2), (3, .int x3)] := hl
  unfold d_Dec_doOperation at h
  refine lv_iload_n hx hb d_Dec_doOperation_0 rfl (lv_at hl 1 rfl) ?_
  by_cases c_1 : x1 = 0
  · have h := (if_pos c_1).symm.trans h
    refine lv_tableIn (tgt := 40) hx hb d_Dec_doOperation_1 (by rw [c_1]; decide) (by rw [c_1]; decide) (by first | (rw [c_1]; done) | (rw [c_1]; rfl)) (by decide) ?_
    refine lv_aload_n hx hb d_Dec_doOperation_40 rfl (lv_at hl 0 rfl) ?_
    refine va_get (D := (dC, dI)) (ci := 1) (v := .ref (ad 3)) (C := R_Dec) (T := T_Dec) (N := 5) hx hb hB in_Dec hown hK hP 0 rfl rfl 2 (by decide) (hB _ wd_62) (fun _ h9 => h9) rfl d_Dec_doOperation_41 ?_
    refine lv_iload_n hx hb d_Dec_doOperation_44 rfl (lv_at hl 2 rfl) ?_
    refine lv_iload_n hx hb d_Dec_doOperation_45 rfl (lv_at hl 3 rfl) ?_
    obtain ⟨o2, ho2, h⟩ := Option.bind_eq_some_iff.mp h
    have hKc := hK.sub (tys' := [((cs 4), .int), ((cs 5), .int), ((cs 6), .int), ((cs 7), .array .int), (rc1, .int)]) [2, 3, 4, 5, 6] rfl
    have hPc := hP.part (cx := x_Boxes (sh 3 ad) (sh 3 cs) r1 holds numbers lengths) [3, 4, 5, 6, 7] rfl
    have hDc := hD.part (cx := x_Boxes (sh 3 ad) (sh 3 cs) r1 holds numbers lengths) [3, 4, 5, 6, 7] (by decide) rfl
    have hFc := va_freeP (cx := x_Boxes (sh 3 ad) (sh 3 cs) r1 holds numbers lengths) hD hS hA [3, 4, 5, 6, 7] rfl
    refine va_callv (va_runVN (As := [.int x2, .int x3]) (rest := []) ⟨hx, hb, hml, hown, hB⟩ (c_Boxes_putNumber l dC dI tt (sh 3 ad) (sh 3 cs) r1 rc1 pr s.heap.size N x2 x3 holds numbers lengths rows o2 ho2) (⟨va_cnB 2 hB (gW wd_65) rfl rfl rfl (hG.1 _ (nw_at (i := 26) rfl)) (hB _ wd_24) (by decide +kernel) ⟨Nat.le_of_ble_eq_true rfl, Nat.le_of_ble_eq_true rfl⟩, hB _ wd_64, hB _ wd_63⟩) ⟨PreW_blind, va_recv hKc hPc (ci := 2) (q0 := 0) rfl rfl, PreW_mk hKc hPc hDc hG hS hFc⟩ rfl rfl hl.1 rfl (lv_room (Nat.le_of_ble_eq_true rfl)) d_Dec_doOperation_46 ⟨Nat.le_of_ble_eq_true rfl, Nat.le_of_ble_eq_true rfl⟩) hS (fun q _ h => hFc q h) hFc (fun u_2 t H1 locs ht hvm hw hB hz1 hk1 hS => ?_)
    obtain ⟨hP1, hK1, hD1⟩ := hB
    rw [ht] at hP1
    obtain ⟨hP, hD⟩ := va_joinP (wr := pick (x_Dec ad cs r1 size count data made holds numbers lengths) [0, 1, 2]) hP hD [3, 4, 5, 6, 7] [0, 1, 2] rfl rfl (by decide) (by decide) hk1 hFc hP1 hD1
    generalize H1 = H at hP hS ⊢
    have hP : va_P (dC, dI) vwCl ((x_Dec ad cs r1 size count data made o2.1 o2.2 lengths) ++ (gw 8 r1 rc1 5 rows ++ pr)) H := hP.part (cx := x_Dec ad cs r1 size count data made o2.1 o2.2 lengths) [0, 1, 2, 3, 4, 5, 6, 7] rfl
    have hD : va_D A ((x_Dec ad cs r1 size count data made o2.1 o2.2 lengths) ++ (gw 8 r1 rc1 5 rows ++ pr)) := hD.part (cx := x_Dec ad cs r1 size count data made o2.1 o2.2 lengths) [0, 1, 2, 3, 4, 5, 6, 7] (by decide) rfl
    refine lv_goto (tgt := 145) hx hb d_Dec_doOperation_49 (by decide) ?_
    have h := Option.some.inj h
    subst h
    exact W.vret hx hb hr (fun t ht hW => ⟨⟨(), rfl, trivial, AftW_mk hK hP hD ht hW⟩, hS.F ht⟩) hS.2.2 d_Dec_doOperation_145
  have h := (if_neg c_1).symm.trans h
  by_cases c_3 : x1 = 1
  · have h := (if_pos c_3).symm.trans h
    refine lv_tableIn (tgt := 52) hx hb d_Dec_doOperation_1 (by rw [c_3]; decide) (by rw [c_3]; decide) (by first | (rw [c_3]; done) | (rw [c_3]; rfl)) (by decide) ?_
    refine lv_aload_n hx hb d_Dec_doOperation_52 rfl (lv_at hl 0 rfl) ?_
    refine va_get (D := (dC, dI)) (ci := 1) (v := .ref (ad 3)) (C := R_Dec) (T := T_Dec) (N := 5) hx hb hB in_Dec hown hK hP 0 rfl rfl 2 (by decide) (hB _ wd_62) (fun _ h9 => h9) rfl d_Dec_doOperation_53 ?_
    refine lv_iload_n hx hb d_Dec_doOperation_56 rfl (lv_at hl 2 rfl) ?_
    refine lv_iload_n hx hb d_Dec_doOperation_57 rfl (lv_at hl 3 rfl) ?_
    obtain ⟨o4, ho4, h⟩ := Option.bind_eq_some_iff.mp h
    have hKc := hK.sub (tys' := []) [] rfl
    have hPc := pl_P (cx := ([] : va_W)) hP [] rfl
    have hDc := pl_D (cx := ([] : va_W)) hD [] (by decide) rfl
    have hFc := pl_F (cx := ([] : va_W)) hD hS hA [] rfl
    refine va_calli (va_runSN (As := [.int x3]) (rest := [.int x2, .ref (ad 3)]) ⟨hx, hb, hml, hown, hB⟩ (c_Boxes_rowLength l dC dI tt s.heap.size N x3 o4 ho4) (⟨va_cnB 1 hB (gW wd_28) rfl rfl rfl (hG.1 _ (nw_at (i := 27) rfl)) (hB _ wd_24) (by decide +kernel) ⟨Nat.le_of_ble_eq_true rfl, Nat.le_of_ble_eq_true rfl⟩, hB _ wd_27, trivial⟩) ⟨PreW_blind, PreW_mk hKc hPc hDc hG hS hFc⟩ rfl rfl hl.1 rfl (lv_room (Nat.le_of_ble_eq_true rfl)) d_Dec_doOperation_58 ⟨Nat.le_of_ble_eq_true rfl, Nat.le_of_ble_eq_true rfl⟩) hS (fun q _ h => hFc q h) hFc (fun r_4 u_4 t H1 locs ht hvm hw hB hz1 hk1 hS => ?_)
    have hw := hw.symm
    subst hw
    obtain ⟨hP1, hK1, hD1⟩ := hB
    rw [ht] at hP1
    obtain ⟨hP, hD⟩ := va_joinQ (wr := pick (x_Dec ad cs r1 size count data made holds numbers lengths) [0, 1, 2, 3, 4, 5, 6, 7]) hP hD [] [0, 1, 2, 3, 4, 5, 6, 7] rfl rfl (by decide) (by decide) hk1 hFc hP1 hD1
    generalize H1 = H at hP hS ⊢
    have hP : va_P (dC, dI) vwCl ((x_Dec ad cs r1 size count data made holds numbers lengths) ++ (gw 8 r1 rc1 5 rows ++ pr)) H := hP.part (cx := x_Dec ad cs r1 size count data made holds numbers lengths) [0, 1, 2, 3, 4, 5, 6, 7] rfl
    have hD : va_D A ((x_Dec ad cs r1 size count data made holds numbers lengths) ++ (gw 8 r1 rc1 5 rows ++ pr)) := hD.part (cx := x_Dec ad cs r1 size count data made holds numbers lengths) [0, 1, 2, 3, 4, 5, 6, 7] (by decide) rfl
    obtain ⟨o5, ho5, h⟩ := Option.bind_eq_some_iff.mp h
    have hKc := hK.sub (tys' := [((cs 4), .int), ((cs 5), .int), ((cs 6), .int), ((cs 7), .array .int), (rc1, .int)]) [2, 3, 4, 5, 6] rfl
    have hPc := hP.part (cx := x_Boxes (sh 3 ad) (sh 3 cs) r1 holds numbers lengths) [3, 4, 5, 6, 7] rfl
    have hDc := hD.part (cx := x_Boxes (sh 3 ad) (sh 3 cs) r1 holds numbers lengths) [3, 4, 5, 6, 7] (by decide) rfl
    have hFc := va_freeP (cx := x_Boxes (sh 3 ad) (sh 3 cs) r1 holds numbers lengths) hD hS hA [3, 4, 5, 6, 7] rfl
    refine va_callv (va_runVN (As := [.int x2, .int o4]) (rest := []) ⟨hx, hb, hml, hown, hB⟩ (c_Boxes_putRow l dC dI tt (sh 3 ad) (sh 3 cs) r1 rc1 pr H.size N x2 o4 holds numbers lengths rows o5 ho5) (⟨va_cnB 2 hB (gW wd_68) rfl rfl rfl (hG.1 _ (nw_at (i := 28) rfl)) (hB _ wd_24) (by decide +kernel) ⟨Nat.le_of_ble_eq_true rfl, Nat.le_of_ble_eq_true rfl⟩, hB _ wd_67, hB _ wd_66⟩) ⟨PreW_blind, va_recv hKc hPc (ci := 2) (q0 := 0) rfl rfl, PreW_mk hKc hPc hDc hG hS hFc⟩ rfl rfl hl.1 rfl (lv_room (Nat.le_of_ble_eq_true rfl)) d_Dec_doOperation_61 ⟨Nat.le_of_ble_eq_true rfl, Nat.le_of_ble_eq_true rfl⟩) hS (fun q _ h => hFc q h) hFc (fun u_5 t H1 locs ht hvm hw hB hz1 hk1 hS => ?_)
    obtain ⟨hP1, hK1, hD1⟩ := hB
    rw [ht] at hP1
    obtain ⟨hP, hD⟩ := va_joinP (wr := pick (x_Dec ad cs r1 size count data made holds numbers lengths) [0, 1, 2]) hP hD [3, 4, 5, 6, 7] [0, 1, 2] rfl rfl (by decide) (by decide) hk1 hFc hP1 hD1
    generalize H1 = H at hP hS ⊢
    have hP : va_P (dC, dI) vwCl ((x_Dec ad cs r1 size count data made o5.1 numbers o5.2.1) ++ (gw 8 r1 rc1 5 o5.2.2 ++ pr)) H := hP.part (cx := x_Dec ad cs r1 size count data made o5.1 numbers o5.2.1) [0, 1, 2, 3, 4, 5, 6, 7] rfl
    have hD : va_D A ((x_Dec ad cs r1 size count data made o5.1 numbers o5.2.1) ++ (gw 8 r1 rc1 5 o5.2.2 ++ pr)) := hD.part (cx := x_Dec ad cs r1 size count data made o5.1 numbers o5.2.1) [0, 1, 2, 3, 4, 5, 6, 7] (by decide) rfl
    refine lv_goto (tgt := 145) hx hb d_Dec_doOperation_64 (by decide) ?_
    have h := Option.some.inj h
    subst h
    exact W.vret hx hb hr (fun t ht hW => ⟨⟨(), rfl, trivial, AftW_mk hK hP hD ht hW⟩, hS.F ht⟩) hS.2.2 d_Dec_doOperation_145
  have h := (if_neg c_3).symm.trans h
  by_cases c_6 : x1 = 2
  · have h := (if_pos c_6).symm.trans h
    refine lv_tableIn (tgt := 67) hx hb d_Dec_doOperation_1 (by rw [c_6]; decide) (by rw [c_6]; decide) (by first | (rw [c_6]; done) | (rw [c_6]; rfl)) (by decide) ?_
    refine lv_aload_n hx hb d_Dec_doOperation_67 rfl (lv_at hl 0 rfl) ?_
    refine lv_aload_n hx hb d_Dec_doOperation_68 rfl (lv_at hl 0 rfl) ?_
    refine va_get (D := (dC, dI)) (ci := 1) (v := .ref (ad 3)) (C := R_Dec) (T := T_Dec) (N := 5) hx hb hB in_Dec hown hK hP 0 rfl rfl 2 (by decide) (hB _ wd_62) (fun _ h9 => h9) rfl d_Dec_doOperation_69 ?_
    refine va_getN (D := (dC, dI)) (ci := 2) (v := .ref (ad 5)) (C := R_Boxes) (T := T_Boxes) (N := 4) hx hb hB in_Boxes hown hK hP 3 rfl rfl 1 (by decide) ((va_Nw.use rfl (hG.1 _ (nw_at (i := 3) rfl)))) (fun _ h9 => h9) rfl d_Dec_doOperation_72 ?_
    refine lv_iload_n hx hb d_Dec_doOperation_75 rfl (lv_at hl 2 rfl) ?_
    obtain ⟨b_7, h⟩ := gI_some h
    refine va_iald hx hb hK hP 5 3 rfl rfl b_7 d_Dec_doOperation_76 ?_
    obtain ⟨o8, ho8, h⟩ := Option.bind_eq_some_iff.mp h
    have hKc := hK.sub (tys' := [((cs 1), .int), ((cs 2), .int), ((cs 4), .int), ((cs 5), .int), ((cs 6), .int), ((cs 7), .array .int), (rc1, .int)]) [0, 1, 2, 3, 4, 5, 6] rfl
    have hPc := hP.part (cx := x_Dec ad cs r1 size count data made holds numbers lengths) [0, 1, 2, 3, 4, 5, 6, 7] rfl
    have hDc := hD.part (cx := x_Dec ad cs r1 size count data made holds numbers lengths) [0, 1, 2, 3, 4, 5, 6, 7] (by decide) rfl
    have hFc := va_freeP (cx := x_Dec ad cs r1 size count data made holds numbers lengths) hD hS hA [0, 1, 2, 3, 4, 5, 6, 7] rfl
    refine va_callv (va_runV (As := [.int (numbers x2.toNatClampNeg)]) (rest := []) ⟨hx, hb, hml, hown, hB⟩ (c_Dec_add l dC dI tt ad cs r1 rc1 pr s.heap.size N (numbers x2.toNatClampNeg) size count data made holds numbers lengths rows o8 ho8) (cwV 1 hB (gV wd_54 wd_52 wd_51 wd_44 wd_53) rfl rfl rfl (by decide +kernel) ⟨Nat.le_of_ble_eq_true rfl, Nat.le_of_ble_eq_true rfl⟩) ⟨PreW_blind, va_recv hKc hPc (ci := 1) (q0 := 0) rfl rfl, PreW_mk hKc hPc hDc hG hS hFc⟩ rfl rfl hl.1 rfl (lv_room (Nat.le_of_ble_eq_true rfl)) d_Dec_doOperation_77 ⟨Nat.le_of_ble_eq_true rfl, Nat.le_of_ble_eq_true rfl⟩) hS (fun q _ h => hFc q h) hFc (fun u_8 t H1 locs ht hvm hw hB hz1 hk1 hS => ?_)
    obtain ⟨hP1, hK1, hD1⟩ := hB
    rw [ht] at hP1
    obtain ⟨hP, hD⟩ := va_joinP (wr := pick (x_Dec ad cs r1 size count data made holds numbers lengths) []) hP hD [0, 1, 2, 3, 4, 5, 6, 7] [] rfl rfl (by decide) (by decide) hk1 hFc hP1 hD1
    generalize H1 = H at hP hS ⊢
    have hP : va_P (dC, dI) vwCl ((x_Dec ad cs r1 size o8.1 data o8.2 holds numbers lengths) ++ (gw 8 r1 rc1 5 rows ++ pr)) H := hP.part (cx := x_Dec ad cs r1 size o8.1 data o8.2 holds numbers lengths) [0, 1, 2, 3, 4, 5, 6, 7] rfl
    have hD : va_D A ((x_Dec ad cs r1 size o8.1 data o8.2 holds numbers lengths) ++ (gw 8 r1 rc1 5 rows ++ pr)) := hD.part (cx := x_Dec ad cs r1 size o8.1 data o8.2 holds numbers lengths) [0, 1, 2, 3, 4, 5, 6, 7] (by decide) rfl
    refine lv_goto (tgt := 145) hx hb d_Dec_doOperation_80 (by decide) ?_
    have h := Option.some.inj h
    subst h
    exact W.vret hx hb hr (fun t ht hW => ⟨⟨(), rfl, trivial, AftW_mk hK hP hD ht hW⟩, hS.F ht⟩) hS.2.2 d_Dec_doOperation_145
  have h := (if_neg c_6).symm.trans h
  by_cases c_9 : x1 = 3
  · have h := (if_pos c_9).symm.trans h
    refine lv_tableIn (tgt := 83) hx hb d_Dec_doOperation_1 (by rw [c_9]; decide) (by rw [c_9]; decide) (by first | (rw [c_9]; done) | (rw [c_9]; rfl)) (by decide) ?_
    refine lv_aload_n hx hb d_Dec_doOperation_83 rfl (lv_at hl 0 rfl) ?_
    refine lv_aload_n hx hb d_Dec_doOperation_84 rfl (lv_at hl 0 rfl) ?_
    refine va_get (D := (dC, dI)) (ci := 1) (v := .ref (ad 3)) (C := R_Dec) (T := T_Dec) (N := 5) hx hb hB in_Dec hown hK hP 0 rfl rfl 2 (by decide) (hB _ wd_62) (fun _ h9 => h9) rfl d_Dec_doOperation_85 ?_
    refine va_getN (D := (dC, dI)) (ci := 2) (v := .ref (ad 6)) (C := R_Boxes) (T := T_Boxes) (N := 4) hx hb hB in_Boxes hown hK hP 3 rfl rfl 2 (by decide) ((va_Nw.use rfl (hG.1 _ (nw_at (i := 4) rfl)))) (fun _ h9 => h9) rfl d_Dec_doOperation_88 ?_
    refine lv_iload_n hx hb d_Dec_doOperation_91 rfl (lv_at hl 2 rfl) ?_
    obtain ⟨b_10, h⟩ := gI_some h
    refine va_iald hx hb hK hP 6 4 rfl rfl b_10 d_Dec_doOperation_92 ?_
    obtain ⟨o11, ho11, h⟩ := Option.bind_eq_some_iff.mp h
    have hKc := hK.sub (tys' := [((cs 1), .int), ((cs 2), .int), ((cs 4), .int), ((cs 5), .int), ((cs 6), .int), ((cs 7), .array .int), (rc1, .int)]) [0, 1, 2, 3, 4, 5, 6] rfl
    have hPc := hP.part (cx := x_Dec ad cs r1 size count data made holds numbers lengths) [0, 1, 2, 3, 4, 5, 6, 7] rfl
    have hDc := hD.part (cx := x_Dec ad cs r1 size count data made holds numbers lengths) [0, 1, 2, 3, 4, 5, 6, 7] (by decide) rfl
    have hFc := va_freeP (cx := x_Dec ad cs r1 size count data made holds numbers lengths) hD hS hA [0, 1, 2, 3, 4, 5, 6, 7] rfl
    refine va_callv (va_runV (As := [.int (lengths x2.toNatClampNeg)]) (rest := []) ⟨hx, hb, hml, hown, hB⟩ (c_Dec_add l dC dI tt ad cs r1 rc1 pr s.heap.size N (lengths x2.toNatClampNeg) size count data made holds numbers lengths rows o11 ho11) (cwV 1 hB (gV wd_54 wd_52 wd_51 wd_44 wd_53) rfl rfl rfl (by decide +kernel) ⟨Nat.le_of_ble_eq_true rfl, Nat.le_of_ble_eq_true rfl⟩) ⟨PreW_blind, va_recv hKc hPc (ci := 1) (q0 := 0) rfl rfl, PreW_mk hKc hPc hDc hG hS hFc⟩ rfl rfl hl.1 rfl (lv_room (Nat.le_of_ble_eq_true rfl)) d_Dec_doOperation_93 ⟨Nat.le_of_ble_eq_true rfl, Nat.le_of_ble_eq_true rfl⟩) hS (fun q _ h => hFc q h) hFc (fun u_11 t H1 locs ht hvm hw hB hz1 hk1 hS => ?_)
    obtain ⟨hP1, hK1, hD1⟩ := hB
    rw [ht] at hP1
    obtain ⟨hP, hD⟩ := va_joinP (wr := pick (x_Dec ad cs r1 size count data made holds numbers lengths) []) hP hD [0, 1, 2, 3, 4, 5, 6, 7] [] rfl rfl (by decide) (by decide) hk1 hFc hP1 hD1
    generalize H1 = H at hP hS ⊢
    have hP : va_P (dC, dI) vwCl ((x_Dec ad cs r1 size o11.1 data o11.2 holds numbers lengths) ++ (gw 8 r1 rc1 5 rows ++ pr)) H := hP.part (cx := x_Dec ad cs r1 size o11.1 data o11.2 holds numbers lengths) [0, 1, 2, 3, 4, 5, 6, 7] rfl
    have hD : va_D A ((x_Dec ad cs r1 size o11.1 data o11.2 holds numbers lengths) ++ (gw 8 r1 rc1 5 rows ++ pr)) := hD.part (cx := x_Dec ad cs r1 size o11.1 data o11.2 holds numbers lengths) [0, 1, 2, 3, 4, 5, 6, 7] (by decide) rfl
    refine lv_goto (tgt := 145) hx hb d_Dec_doOperation_96 (by decide) ?_
    have h := Option.some.inj h
    subst h
    exact W.vret hx hb hr (fun t ht hW => ⟨⟨(), rfl, trivial, AftW_mk hK hP hD ht hW⟩, hS.F ht⟩) hS.2.2 d_Dec_doOperation_145
  have h := (if_neg c_9).symm.trans h
  by_cases c_12 : x1 = 4
  · have h := (if_pos c_12).symm.trans h
    refine lv_tableIn (tgt := 99) hx hb d_Dec_doOperation_1 (by rw [c_12]; decide) (by rw [c_12]; decide) (by first | (rw [c_12]; done) | (rw [c_12]; rfl)) (by decide) ?_
    refine lv_aload_n hx hb d_Dec_doOperation_99 rfl (lv_at hl 0 rfl) ?_
    refine va_get (D := (dC, dI)) (ci := 1) (v := .ref (ad 3)) (C := R_Dec) (T := T_Dec) (N := 5) hx hb hB in_Dec hown hK hP 0 rfl rfl 2 (by decide) (hB _ wd_62) (fun _ h9 => h9) rfl d_Dec_doOperation_100 ?_
    refine va_getN (D := (dC, dI)) (ci := 2) (v := .ref (ad 7)) (C := R_Boxes) (T := T_Boxes) (N := 4) hx hb hB in_Boxes hown hK hP 3 rfl rfl 3 (by decide) ((va_Nw.use rfl (hG.1 _ (nw_at (i := 5) rfl)))) (fun _ h9 => h9) rfl d_Dec_doOperation_103 ?_
    refine lv_iload_n hx hb d_Dec_doOperation_106 rfl (lv_at hl 2 rfl) ?_
    obtain ⟨b_13, h⟩ := gI_some h
    refine gr_aald hx hb hK hP 7 5 rfl rfl b_13 d_Dec_doOperation_107 ?_
    refine lv_iload_n hx hb d_Dec_doOperation_108 rfl (lv_at hl 3 rfl) ?_
    refine lv_aload_n hx hb d_Dec_doOperation_109 rfl (lv_at hl 0 rfl) ?_
    obtain ⟨o14, ho14, h⟩ := Option.bind_eq_some_iff.mp h
    have hKc := hK.sub (tys' := [((cs 1), .int), ((cs 2), .int), ((cs 4), .int), ((cs 5), .int), ((cs 6), .int), ((cs 7), .array .int), (rc1, .int)]) [0, 1, 2, 3, 4, 5, 6] rfl
    have hPc := hP.part (cx := x_Dec ad cs r1 size count data made holds numbers lengths) [0, 1, 2, 3, 4, 5, 6, 7] rfl
    have hDc := hD.part (cx := x_Dec ad cs r1 size count data made holds numbers lengths) [0, 1, 2, 3, 4, 5, 6, 7] (by decide) rfl
    have hFc := va_freeP (cx := x_Dec ad cs r1 size count data made holds numbers lengths) hD hS hA [0, 1, 2, 3, 4, 5, 6, 7] rfl
    refine va_calli (va_runV (As := []) (rest := [.int x3, .ref (r1 x2.toNatClampNeg)]) ⟨hx, hb, hml, hown, hB⟩ (c_Dec_sampleBefore l dC dI tt ad cs r1 rc1 pr s.heap.size N size count data made holds numbers lengths rows o14 ho14) (cwV 0 hB (gV wd_58 wd_56 wd_55 wd_44 wd_57) rfl rfl rfl (by decide +kernel) ⟨Nat.le_of_ble_eq_true rfl, Nat.le_of_ble_eq_true rfl⟩) ⟨PreW_blind, va_recv hKc hPc (ci := 1) (q0 := 0) rfl rfl, PreW_mk hKc hPc hDc hG hS hFc⟩ rfl rfl hl.1 rfl (lv_room (Nat.le_of_ble_eq_true rfl)) d_Dec_doOperation_110 ⟨Nat.le_of_ble_eq_true rfl, Nat.le_of_ble_eq_true rfl⟩) hS (fun q _ h => hFc q h) hFc (fun r_14 u_14 t H1 locs ht hvm hw hB hz1 hk1 hS => ?_)
    have hw := hw.symm
    subst hw
    obtain ⟨hP1, hK1, hD1⟩ := hB
    rw [ht] at hP1
    obtain ⟨hP, hD⟩ := va_joinP (wr := pick (x_Dec ad cs r1 size count data made holds numbers lengths) []) hP hD [0, 1, 2, 3, 4, 5, 6, 7] [] rfl rfl (by decide) (by decide) hk1 hFc hP1 hD1
    generalize H1 = H at hP hS ⊢
    have hP : va_P (dC, dI) vwCl ((x_Dec ad cs r1 size count data made holds numbers lengths) ++ (gw 8 r1 rc1 5 rows ++ pr)) H := hP.part (cx := x_Dec ad cs r1 size count data made holds numbers lengths) [0, 1, 2, 3, 4, 5, 6, 7] rfl
    have hD : va_D A ((x_Dec ad cs r1 size count data made holds numbers lengths) ++ (gw 8 r1 rc1 5 rows ++ pr)) := hD.part (cx := x_Dec ad cs r1 size count data made holds numbers lengths) [0, 1, 2, 3, 4, 5, 6, 7] (by decide) rfl
    obtain ⟨b_15, h⟩ := gI_some h
    refine gr_ast1 hx hb hK hP hD hS 6 rfl (in_lt b_13) b_15 d_Dec_doOperation_113 (fun H locs hP hD hS => ?_)
    have hP : va_P (dC, dI) vwCl ((x_Dec ad cs r1 size count data made holds numbers lengths) ++ (gw 8 r1 rc1 5 (upd2 rows x2.toNatClampNeg x3.toNatClampNeg o14) ++ pr)) H := hP
    have hD : va_D A ((x_Dec ad cs r1 size count data made holds numbers lengths) ++ (gw 8 r1 rc1 5 (upd2 rows x2.toNatClampNeg x3.toNatClampNeg o14) ++ pr)) := hD
    refine lv_goto (tgt := 145) hx hb d_Dec_doOperation_114 (by decide) ?_
    have h := Option.some.inj h
    subst h
    exact W.vret hx hb hr (fun t ht hW => ⟨⟨(), rfl, trivial, AftW_mk hK hP hD ht hW⟩, hS.F ht⟩) hS.2.2 d_Dec_doOperation_145
  have h := (if_neg c_12).symm.trans h
  by_cases c_16 : x1 = 5
  · have h := (if_pos c_16).symm.trans h
    refine lv_tableIn (tgt := 117) hx hb d_Dec_doOperation_1 (by rw [c_16]; decide) (by rw [c_16]; decide) (by first | (rw [c_16]; done) | (rw [c_16]; rfl)) (by decide) ?_
    refine lv_aload_n hx hb d_Dec_doOperation_117 rfl (lv_at hl 0 rfl) ?_
    refine lv_aload_n hx hb d_Dec_doOperation_118 rfl (lv_at hl 0 rfl) ?_
    refine va_get (D := (dC, dI)) (ci := 1) (v := .ref (ad 3)) (C := R_Dec) (T := T_Dec) (N := 5) hx hb hB in_Dec hown hK hP 0 rfl rfl 2 (by decide) (hB _ wd_62) (fun _ h9 => h9) rfl d_Dec_doOperation_119 ?_
    refine va_getN (D := (dC, dI)) (ci := 2) (v := .ref (ad 7)) (C := R_Boxes) (T := T_Boxes) (N := 4) hx hb hB in_Boxes hown hK hP 3 rfl rfl 3 (by decide) ((va_Nw.use rfl (hG.1 _ (nw_at (i := 5) rfl)))) (fun _ h9 => h9) rfl d_Dec_doOperation_122 ?_
    refine lv_iload_n hx hb d_Dec_doOperation_125 rfl (lv_at hl 2 rfl) ?_
    obtain ⟨b_17, h⟩ := gI_some h
    refine gr_aald hx hb hK hP 7 5 rfl rfl b_17 d_Dec_doOperation_126 ?_
    refine lv_iload_n hx hb d_Dec_doOperation_127 rfl (lv_at hl 3 rfl) ?_
    obtain ⟨b_18, h⟩ := gI_some h
    refine gr_ald1 hx hb hK hP 6 rfl (in_lt b_17) b_18 d_Dec_doOperation_128 ?_
    obtain ⟨o19, ho19, h⟩ := Option.bind_eq_some_iff.mp h
    have hKc := hK.sub (tys' := [((cs 1), .int), ((cs 2), .int), ((cs 4), .int), ((cs 5), .int), ((cs 6), .int), ((cs 7), .array .int), (rc1, .int)]) [0, 1, 2, 3, 4, 5, 6] rfl
    have hPc := hP.part (cx := x_Dec ad cs r1 size count data made holds numbers lengths) [0, 1, 2, 3, 4, 5, 6, 7] rfl
    have hDc := hD.part (cx := x_Dec ad cs r1 size count data made holds numbers lengths) [0, 1, 2, 3, 4, 5, 6, 7] (by decide) rfl
    have hFc := va_freeP (cx := x_Dec ad cs r1 size count data made holds numbers lengths) hD hS hA [0, 1, 2, 3, 4, 5, 6, 7] rfl
    refine va_callv (va_runV (As := [.int (rows x2.toNatClampNeg x3.toNatClampNeg)]) (rest := []) ⟨hx, hb, hml, hown, hB⟩ (c_Dec_add l dC dI tt ad cs r1 rc1 pr s.heap.size N (rows x2.toNatClampNeg x3.toNatClampNeg) size count data made holds numbers lengths rows o19 ho19) (cwV 1 hB (gV wd_54 wd_52 wd_51 wd_44 wd_53) rfl rfl rfl (by decide +kernel) ⟨Nat.le_of_ble_eq_true rfl, Nat.le_of_ble_eq_true rfl⟩) ⟨PreW_blind, va_recv hKc hPc (ci := 1) (q0 := 0) rfl rfl, PreW_mk hKc hPc hDc hG hS hFc⟩ rfl rfl hl.1 rfl (lv_room (Nat.le_of_ble_eq_true rfl)) d_Dec_doOperation_129 ⟨Nat.le_of_ble_eq_true rfl, Nat.le_of_ble_eq_true rfl⟩) hS (fun q _ h => hFc q h) hFc (fun u_19 t H1 locs ht hvm hw hB hz1 hk1 hS => ?_)
    obtain ⟨hP1, hK1, hD1⟩ := hB
    rw [ht] at hP1
    obtain ⟨hP, hD⟩ := va_joinP (wr := pick (x_Dec ad cs r1 size count data made holds numbers lengths) []) hP hD [0, 1, 2, 3, 4, 5, 6, 7] [] rfl rfl (by decide) (by decide) hk1 hFc hP1 hD1
    generalize H1 = H at hP hS ⊢
    have hP : va_P (dC, dI) vwCl ((x_Dec ad cs r1 size o19.1 data o19.2 holds numbers lengths) ++ (gw 8 r1 rc1 5 rows ++ pr)) H := hP.part (cx := x_Dec ad cs r1 size o19.1 data o19.2 holds numbers lengths) [0, 1, 2, 3, 4, 5, 6, 7] rfl
    have hD : va_D A ((x_Dec ad cs r1 size o19.1 data o19.2 holds numbers lengths) ++ (gw 8 r1 rc1 5 rows ++ pr)) := hD.part (cx := x_Dec ad cs r1 size o19.1 data o19.2 holds numbers lengths) [0, 1, 2, 3, 4, 5, 6, 7] (by decide) rfl
    refine lv_goto (tgt := 145) hx hb d_Dec_doOperation_132 (by decide) ?_
    have h := Option.some.inj h
    subst h
    exact W.vret hx hb hr (fun t ht hW => ⟨⟨(), rfl, trivial, AftW_mk hK hP hD ht hW⟩, hS.F ht⟩) hS.2.2 d_Dec_doOperation_145
  have h := (if_neg c_16).symm.trans h
  refine lv_tableOut (tgt := 135) hx hb d_Dec_doOperation_1 (by have e0 := lv_neT (a := 0) c_1 (by decide); have e1 := lv_neT (a := 1) c_3 (by decide); have e2 := lv_neT (a := 2) c_6 (by decide); have e3 := lv_neT (a := 3) c_9 (by decide); have e4 := lv_neT (a := 4) c_12 (by decide); have e5 := lv_neT (a := 5) c_16 (by decide); omega) (by decide) ?_
  refine lv_aload_n hx hb d_Dec_doOperation_135 rfl (lv_at hl 0 rfl) ?_
  refine va_get (D := (dC, dI)) (ci := 1) (v := .ref (ad 3)) (C := R_Dec) (T := T_Dec) (N := 5) hx hb hB in_Dec hown hK hP 0 rfl rfl 2 (by decide) (hB _ wd_62) (fun _ h9 => h9) rfl d_Dec_doOperation_136 ?_
  refine va_getN (D := (dC, dI)) (ci := 2) (v := .ref (ad 4)) (C := R_Boxes) (T := T_Boxes) (N := 4) hx hb hB in_Boxes hown hK hP 3 rfl rfl 0 (by decide) ((va_Nw.use rfl (hG.1 _ (nw_at (i := 2) rfl)))) (fun _ h9 => h9) rfl d_Dec_doOperation_139 ?_
  refine lv_iload_n hx hb d_Dec_doOperation_142 rfl (lv_at hl 2 rfl) ?_
  refine lv_iconst (v := 0) hx hb d_Dec_doOperation_143 (by decide) ?_
  obtain ⟨b_20, h⟩ := gI_some h
  refine va_iast hx hb hK hP hD hS 4 2 rfl rfl b_20 d_Dec_doOperation_144 (fun H locs hP hD hS => ?_)
  have hP : va_P (dC, dI) vwCl ((x_Dec ad cs r1 size count data made (upd holds x2.toNatClampNeg (0 : Int32)) numbers lengths) ++ (gw 8 r1 rc1 5 rows ++ pr)) H := hP
  have hD : va_D A ((x_Dec ad cs r1 size count data made (upd holds x2.toNatClampNeg (0 : Int32)) numbers lengths) ++ (gw 8 r1 rc1 5 rows ++ pr)) := hD
  have h := Option.some.inj h
  subst h
  exact W.vret hx hb hr (fun t ht hW => ⟨⟨(), rfl, trivial, AftW_mk hK hP hD ht hW⟩, hS.F ht⟩) hS.2.2 d_Dec_doOperation_145
def d_Dec_useBoxes_L9 (N : Nat) (size : Int32) (data : Nat → Int32) : Nat → Int32 → Int32 → (Nat → Int32) → (Nat → Int32) → (Nat → Int32) → (Nat → Int32) → (Nat → Nat → Int32) → Option (Int32 × Int32 × (Nat → Int32) × (Nat → Int32) × (Nat → Int32) × (Nat → Int32) × (Nat → Nat → Int32))
  | 0, _, _, _, _, _, _, _ => none
  | n + 1, y9_1, count_9, made_9, holds_9, numbers_9, lengths_9, rows_9 => if size ≤ (y9_1 + (1 : Int32)) then (d_Dec_atEnd N count_9).bind (fun o10002 => some (o10002, count_9, made_9, holds_9, numbers_9, lengths_9, rows_9)) else (d_Dec_isFull N count_9).bind (fun o10003 => if o10003 = 0 then gI y9_1 64 (gI (y9_1 + (1 : Int32)) 64 ((d_Boxes_thrownBy N ((data y9_1.toNatClampNeg) - (data y9_1.toNatClampNeg) / (8 : Int32) * (8 : Int32)) ((data (y9_1 + (1 : Int32)).toNatClampNeg) - (data (y9_1 + (1 : Int32)).toNatClampNeg) / (8 : Int32) * (8 : Int32)) ((data (y9_1 + (1 : Int32)).toNatClampNeg) / (8 : Int32)) holds_9 lengths_9).bind (fun o10008 => if o10008 = 0 then (d_Dec_doOperation N ((data y9_1.toNatClampNeg) - (data y9_1.toNatClampNeg) / (8 : Int32) * (8 : Int32)) ((data (y9_1 + (1 : Int32)).toNatClampNeg) - (data (y9_1 + (1 : Int32)).toNatClampNeg) / (8 : Int32) * (8 : Int32)) ((data (y9_1 + (1 : Int32)).toNatClampNeg) / (8 : Int32)) count_9 made_9 holds_9 numbers_9 lengths_9 rows_9).bind (fun o10010 => d_Dec_useBoxes_L9 N size data n (y9_1 + 2) o10010.1 o10010.2.1 o10010.2.2.1 o10010.2.2.2.1 o10010.2.2.2.2.1 o10010.2.2.2.2.2) else some (o10008, count_9, made_9, holds_9, numbers_9, lengths_9, rows_9)))) else (d_Dec_atEnd N count_9).bind (fun o10005 => some (o10005, count_9, made_9, holds_9, numbers_9, lengths_9, rows_9)))
def d_Dec_useBoxes (N : Nat) (size : Int32) (count : Int32) (data : Nat → Int32) (made : Nat → Int32) (holds : Nat → Int32) (numbers : Nat → Int32) (lengths : Nat → Int32) (rows : Nat → Nat → Int32) : Option (Int32 × Int32 × (Nat → Int32) × (Nat → Int32) × (Nat → Int32) × (Nat → Int32) × (Nat → Nat → Int32)) :=
 (d_Boxes_emptyAll N holds).bind (fun o1 => d_Dec_useBoxes_L9 N size data N (0 : Int32) count made o1 numbers lengths rows)
abbrev rm_Dec_useBoxes : Room := { frames := 3, cells := 0, slots := 0, locals := 68 }
set_option maxHeartbeats 4000000 in
set_option maxRecDepth 100000 in
theorem c_Dec_useBoxes (l : Launch) (dC : Nat → ClassId) (dI : Nat → Nat → Nat) (tt : Nat → Nat) (ad : Nat → Nat) (cs : Nat → ClassId) (r1 : Nat → Nat) (rc1 : ClassId) (pr : va_W) (sz N : Nat) (size : Int32) (count : Int32) (data : Nat → Int32) (made : Nat → Int32) (holds : Nat → Int32) (numbers : Nat → Int32) (lengths : Nat → Int32) (rows : Nat → Nat → Int32) (out : Int32 × Int32 × (Nat → Int32) × (Nat → Int32) × (Nat → Int32) × (Nat → Int32) × (Nat → Nat → Int32)) (h : d_Dec_useBoxes N size count data made holds numbers lengths rows = some out) :
    Met l y_Dec_useBoxes (w_Dec_useBoxes) rm_Dec_useBoxes (va_Pc [.ref (ad 0)] (PreW (dC, dI) [((cs 1), .int), ((cs 2), .int), ((cs 4), .int), ((cs 5), .int), ((cs 6), .int), ((cs 7), .array .int), (rc1, .int)] ((x_Dec ad cs r1 size count data made holds numbers lengths) ++ (gw 8 r1 rc1 5 rows ++ pr)) sz tt)) (va_Qi (fun (r : Int32) (_ : Unit) => r = out.1) (fun _ => AftW (dC, dI) [((cs 1), .int), ((cs 2), .int), ((cs 4), .int), ((cs 5), .int), ((cs 6), .int), ((cs 7), .array .int), (rc1, .int)] (va_A ((x_Dec ad cs r1 size count data made holds numbers lengths) ++ (gw 8 r1 rc1 5 rows ++ pr)) sz) ((x_Dec ad cs r1 size out.2.1 data out.2.2.1 out.2.2.2.1 out.2.2.2.2.1 out.2.2.2.2.2.1) ++ (gw 8 r1 rc1 5 out.2.2.2.2.2.2 ++ pr))) (va_A ((x_Dec ad cs r1 size count data made holds numbers lengths) ++ (gw 8 r1 rc1 5 rows ++ pr)) sz)) 0 0 (va_A ((x_Dec ad cs r1 size count data made holds numbers lengths) ++ (gw 8 r1 rc1 5 rows ++ pr)) sz) := by
  refine Met.ofW (cc := k_Dec_useBoxes) (maxL := 6) (ret := (some .int)) (by decide) rfl ?_
  intro p e s m args below meth c s₁ B hml hv
  obtain ⟨rfl, hsz, hP, hK, hD0, hG⟩ := hv
  have hx := B.exec
  have hb := B.bytes
  have hr := B.returns
  have hts := atoms_spec (ws := (w_Dec_useBoxes)) B.pre
  have hB : ∀ w ∈ BIG, w.before _ s = true := fun w h9 => hts w (List.mem_cons_of_mem _ h9)
  have hown : s.vm.findClass R_Dec = some m.cls := findClass_of_methodNamed B.named
  have hlocks := B.notSynchronized
  subst hsz
  have hD := hD0.self (sz := s.heap.size)
  generalize hAe : va_A ((x_Dec ad cs r1 size count data made holds numbers lengths) ++ (gw 8 r1 rc1 5 rows ++ pr)) s.heap.size = A at hD hG ⊢
  have hA : ∀ q : Nat, s.heap.size ≤ q → A q := fun q h => by rw [← hAe]; exact Or.inr h
  have hS : va_S A s.heap s.heap [] := va_S.rf
  have hl := lv_entry ([.ref (ad 0)]) (n := 6) (Nat.le_of_ble_eq_true rfl)
  rw [lg_entry_eq]
  generalize (lg_sl ([.ref (ad 0)]) ++ List.replicate (6 - (lg_sl ([.ref (ad 0)])).length) Slot.unset).toArray = ls at hl ⊢
  have hl : lv_has ls 6 [(0, .ref (ad 0))] := hl
  unfold d_Dec_useBoxes at h
  refine lv_aload_n hx hb d_Dec_useBoxes_0 rfl (lv_at hl 0 rfl) ?_
  refine va_get (D := (dC, dI)) (ci := 1) (v := .ref (ad 3)) (C := R_Dec) (T := T_Dec) (N := 5) hx hb hB in_Dec hown hK hP 0 rfl rfl 2 (by decide) (hB _ wd_62) (fun _ h9 => h9) rfl d_Dec_useBoxes_1 ?_
  obtain ⟨o1, ho1, h⟩ := Option.bind_eq_some_iff.mp h
  have hKc := hK.sub (tys' := [((cs 4), .int), ((cs 5), .int), ((cs 6), .int), ((cs 7), .array .int), (rc1, .int)]) [2, 3, 4, 5, 6] rfl
  have hPc := hP.part (cx := x_Boxes (sh 3 ad) (sh 3 cs) r1 holds numbers lengths) [3, 4, 5, 6, 7] rfl
  have hDc := hD.part (cx := x_Boxes (sh 3 ad) (sh 3 cs) r1 holds numbers lengths) [3, 4, 5, 6, 7] (by decide) rfl
  have hFc := va_freeP (cx := x_Boxes (sh 3 ad) (sh 3 cs) r1 holds numbers lengths) hD hS hA [3, 4, 5, 6, 7] rfl
  refine va_callv (va_runVN (As := []) (rest := []) ⟨hx, hb, hml, hown, hB⟩ (c_Boxes_emptyAll l dC dI tt (sh 3 ad) (sh 3 cs) r1 rc1 pr s.heap.size N holds numbers lengths rows o1 ho1) (⟨va_cnB 0 hB (gW wd_71) rfl rfl rfl (hG.1 _ (nw_at (i := 24) rfl)) (hB _ wd_24) (by decide +kernel) ⟨Nat.le_of_ble_eq_true rfl, Nat.le_of_ble_eq_true rfl⟩, hB _ wd_70, hB _ wd_69⟩) ⟨PreW_blind, va_recv hKc hPc (ci := 2) (q0 := 0) rfl rfl, PreW_mk hKc hPc hDc hG hS hFc⟩ rfl rfl hl.1 rfl (lv_room (Nat.le_of_ble_eq_true rfl)) d_Dec_useBoxes_4 ⟨Nat.le_of_ble_eq_true rfl, Nat.le_of_ble_eq_true rfl⟩) hS (fun q _ h => hFc q h) hFc (fun u_1 t H1 locs ht hvm hw hB hz1 hk1 hS => ?_)
  obtain ⟨hP1, hK1, hD1⟩ := hB
  rw [ht] at hP1
  obtain ⟨hP, hD⟩ := va_joinP (wr := pick (x_Dec ad cs r1 size count data made holds numbers lengths) [0, 1, 2]) hP hD [3, 4, 5, 6, 7] [0, 1, 2] rfl rfl (by decide) (by decide) hk1 hFc hP1 hD1
  generalize H1 = H at hP hS ⊢
  have hP : va_P (dC, dI) vwCl ((x_Dec ad cs r1 size count data made o1 numbers lengths) ++ (gw 8 r1 rc1 5 rows ++ pr)) H := hP.part (cx := x_Dec ad cs r1 size count data made o1 numbers lengths) [0, 1, 2, 3, 4, 5, 6, 7] rfl
  have hD : va_D A ((x_Dec ad cs r1 size count data made o1 numbers lengths) ++ (gw 8 r1 rc1 5 rows ++ pr)) := hD.part (cx := x_Dec ad cs r1 size count data made o1 numbers lengths) [0, 1, 2, 3, 4, 5, 6, 7] (by decide) rfl
  refine lv_iconst (v := 0) hx hb d_Dec_useBoxes_7 (by decide) ?_
  refine lv_istore_n (lv' := [(1, .int (0 : Int32)), (0, .ref (ad 0))]) hx hb d_Dec_useBoxes_8 rfl hl (by decide) rfl (fun ls hl => ?_)
  have L9 : ∀ (n : Nat) (y9_1 : Int32) (count_9 : Int32) (made_9 : Nat → Int32) (holds_9 : Nat → Int32) (numbers_9 : Nat → Int32) (lengths_9 : Nat → Int32) (rows_9 : Nat → Nat → Int32) (H : Heap) (locs : List Loc) (ls : Array Slot), lv_has ls 6 [(0, .ref (ad 0)), (1, .int y9_1)] → va_P (dC, dI) vwCl ((x_Dec ad cs r1 size count_9 data made_9 holds_9 numbers_9 lengths_9) ++ (gw 8 r1 rc1 5 rows_9 ++ pr)) H → va_D A ((x_Dec ad cs r1 size count_9 data made_9 holds_9 numbers_9 lengths_9) ++ (gw 8 r1 rc1 5 rows_9 ++ pr)) → va_S A s.heap H locs → d_Dec_useBoxes_L9 N size data n y9_1 count_9 made_9 holds_9 numbers_9 lengths_9 rows_9 = some out → W p l e (headSpec (w_Dec_useBoxes) rm_Dec_useBoxes).room s m ([.ref (ad 0)] : List Value).toArray below meth c H locs 0 0 (MQ below (va_Qi (fun (r : Int32) (_ : Unit) => r = out.1) (fun _ => AftW (dC, dI) [((cs 1), .int), ((cs 2), .int), ((cs 4), .int), ((cs 5), .int), ((cs 6), .int), ((cs 7), .array .int), (rc1, .int)] A ((x_Dec ad cs r1 size out.2.1 data out.2.2.1 out.2.2.2.1 out.2.2.2.2.1 out.2.2.2.2.2.1) ++ (gw 8 r1 rc1 5 out.2.2.2.2.2.2 ++ pr))) A) ([.ref (ad 0)] : List Value).toArray s 0 0 A) (F0 m 9 ls []) := by
    intro n
    induction n with
    | zero =>
      intro y9_1 count_9 made_9 holds_9 numbers_9 lengths_9 rows_9 H locs ls hl hP hD hS h
      rw [d_Dec_useBoxes_L9] at h
      cases h
    | succ n ih =>
      intro y9_1 count_9 made_9 holds_9 numbers_9 lengths_9 rows_9 H locs ls hl hP hD hS h
      rw [d_Dec_useBoxes_L9] at h
      refine lv_iload_n hx hb d_Dec_useBoxes_9 rfl (lv_at hl 1 rfl) ?_
      refine lv_iconst (v := 1) hx hb d_Dec_useBoxes_10 (by decide) ?_
      refine lv_iadd hx hb d_Dec_useBoxes_11 ?_
      refine lv_aload_n hx hb d_Dec_useBoxes_12 rfl (lv_at hl 0 rfl) ?_
      refine va_get (D := (dC, dI)) (ci := 1) (v := .int size) (C := R_Dec) (T := T_Dec) (N := 5) hx hb hB in_Dec hown hK hP 0 rfl rfl 3 (by decide) (hB _ wd_34) (fun _ h9 => h9) rfl d_Dec_useBoxes_13 ?_
      refine lv_icmp_ge (tgt := 96) hx hb d_Dec_useBoxes_16 (by decide) (fun c_2 => ?_) (fun c_2 => ?_)
      · have h := (if_pos c_2).symm.trans h
        refine lv_aload_n hx hb d_Dec_useBoxes_96 rfl (lv_at hl 0 rfl) ?_
        obtain ⟨o3, ho3, h⟩ := Option.bind_eq_some_iff.mp h
        have hKc := hK.sub (tys' := [((cs 1), .int), ((cs 2), .int), ((cs 4), .int), ((cs 5), .int), ((cs 6), .int), ((cs 7), .array .int), (rc1, .int)]) [0, 1, 2, 3, 4, 5, 6] rfl
        have hPc := hP.part (cx := x_Dec ad cs r1 size count_9 data made_9 holds_9 numbers_9 lengths_9) [0, 1, 2, 3, 4, 5, 6, 7] rfl
        have hDc := hD.part (cx := x_Dec ad cs r1 size count_9 data made_9 holds_9 numbers_9 lengths_9) [0, 1, 2, 3, 4, 5, 6, 7] (by decide) rfl
        have hFc := va_freeP (cx := x_Dec ad cs r1 size count_9 data made_9 holds_9 numbers_9 lengths_9) hD hS hA [0, 1, 2, 3, 4, 5, 6, 7] rfl
        refine va_calli (va_runV (As := []) (rest := []) ⟨hx, hb, hml, hown, hB⟩ (c_Dec_atEnd l dC dI tt ad cs r1 rc1 pr H.size N size count_9 data made_9 holds_9 numbers_9 lengths_9 rows_9 o3 ho3) (cwV 0 hB (gV wd_50 wd_48 wd_47 wd_44 wd_49) rfl rfl rfl (by decide +kernel) ⟨Nat.le_of_ble_eq_true rfl, Nat.le_of_ble_eq_true rfl⟩) ⟨PreW_blind, va_recv hKc hPc (ci := 1) (q0 := 0) rfl rfl, PreW_mk hKc hPc hDc hG hS hFc⟩ rfl rfl hl.1 rfl (lv_room (Nat.le_of_ble_eq_true rfl)) d_Dec_useBoxes_97 ⟨Nat.le_of_ble_eq_true rfl, Nat.le_of_ble_eq_true rfl⟩) hS (fun q _ h => hFc q h) hFc (fun r_3 u_3 t H1 locs ht hvm hw hB hz1 hk1 hS => ?_)
        have hw := hw.symm
        subst hw
        obtain ⟨hP1, hK1, hD1⟩ := hB
        rw [ht] at hP1
        obtain ⟨hP, hD⟩ := va_joinP (wr := pick (x_Dec ad cs r1 size count_9 data made_9 holds_9 numbers_9 lengths_9) []) hP hD [0, 1, 2, 3, 4, 5, 6, 7] [] rfl rfl (by decide) (by decide) hk1 hFc hP1 hD1
        generalize H1 = H at hP hS ⊢
        have hP : va_P (dC, dI) vwCl ((x_Dec ad cs r1 size count_9 data made_9 holds_9 numbers_9 lengths_9) ++ (gw 8 r1 rc1 5 rows_9 ++ pr)) H := hP.part (cx := x_Dec ad cs r1 size count_9 data made_9 holds_9 numbers_9 lengths_9) [0, 1, 2, 3, 4, 5, 6, 7] rfl
        have hD : va_D A ((x_Dec ad cs r1 size count_9 data made_9 holds_9 numbers_9 lengths_9) ++ (gw 8 r1 rc1 5 rows_9 ++ pr)) := hD.part (cx := x_Dec ad cs r1 size count_9 data made_9 holds_9 numbers_9 lengths_9) [0, 1, 2, 3, 4, 5, 6, 7] (by decide) rfl
        have h := Option.some.inj h
        subst h
        exact W.iret hx hb hr (fun t ht hW => ⟨⟨_, (), rfl, rfl, AftW_mk hK hP hD ht hW⟩, hS.F ht⟩) hS.2.2 d_Dec_useBoxes_100
      · have h := (if_neg c_2).symm.trans h
        refine lv_aload_n hx hb d_Dec_useBoxes_19 rfl (lv_at hl 0 rfl) ?_
        obtain ⟨o4, ho4, h⟩ := Option.bind_eq_some_iff.mp h
        have hKc := hK.sub (tys' := [((cs 1), .int), ((cs 2), .int), ((cs 4), .int), ((cs 5), .int), ((cs 6), .int), ((cs 7), .array .int), (rc1, .int)]) [0, 1, 2, 3, 4, 5, 6] rfl
        have hPc := hP.part (cx := x_Dec ad cs r1 size count_9 data made_9 holds_9 numbers_9 lengths_9) [0, 1, 2, 3, 4, 5, 6, 7] rfl
        have hDc := hD.part (cx := x_Dec ad cs r1 size count_9 data made_9 holds_9 numbers_9 lengths_9) [0, 1, 2, 3, 4, 5, 6, 7] (by decide) rfl
        have hFc := va_freeP (cx := x_Dec ad cs r1 size count_9 data made_9 holds_9 numbers_9 lengths_9) hD hS hA [0, 1, 2, 3, 4, 5, 6, 7] rfl
        refine va_calli (va_runV (As := []) (rest := []) ⟨hx, hb, hml, hown, hB⟩ (c_Dec_isFull l dC dI tt ad cs r1 rc1 pr H.size N size count_9 data made_9 holds_9 numbers_9 lengths_9 rows_9 o4 ho4) (cwV 0 hB (gV wd_46 wd_43 wd_42 wd_44 wd_45) rfl rfl rfl (by decide +kernel) ⟨Nat.le_of_ble_eq_true rfl, Nat.le_of_ble_eq_true rfl⟩) ⟨PreW_blind, va_recv hKc hPc (ci := 1) (q0 := 0) rfl rfl, PreW_mk hKc hPc hDc hG hS hFc⟩ rfl rfl hl.1 rfl (lv_room (Nat.le_of_ble_eq_true rfl)) d_Dec_useBoxes_20 ⟨Nat.le_of_ble_eq_true rfl, Nat.le_of_ble_eq_true rfl⟩) hS (fun q _ h => hFc q h) hFc (fun r_4 u_4 t H1 locs ht hvm hw hB hz1 hk1 hS => ?_)
        have hw := hw.symm
        subst hw
        obtain ⟨hP1, hK1, hD1⟩ := hB
        rw [ht] at hP1
        obtain ⟨hP, hD⟩ := va_joinP (wr := pick (x_Dec ad cs r1 size count_9 data made_9 holds_9 numbers_9 lengths_9) []) hP hD [0, 1, 2, 3, 4, 5, 6, 7] [] rfl rfl (by decide) (by decide) hk1 hFc hP1 hD1
        generalize H1 = H at hP hS ⊢
        have hP : va_P (dC, dI) vwCl ((x_Dec ad cs r1 size count_9 data made_9 holds_9 numbers_9 lengths_9) ++ (gw 8 r1 rc1 5 rows_9 ++ pr)) H := hP.part (cx := x_Dec ad cs r1 size count_9 data made_9 holds_9 numbers_9 lengths_9) [0, 1, 2, 3, 4, 5, 6, 7] rfl
        have hD : va_D A ((x_Dec ad cs r1 size count_9 data made_9 holds_9 numbers_9 lengths_9) ++ (gw 8 r1 rc1 5 rows_9 ++ pr)) := hD.part (cx := x_Dec ad cs r1 size count_9 data made_9 holds_9 numbers_9 lengths_9) [0, 1, 2, 3, 4, 5, 6, 7] (by decide) rfl
        refine lv_if_ne (tgt := 96) hx hb d_Dec_useBoxes_23 (by decide) (fun c_5 => ?_) (fun c_5 => ?_)
        · have h := (if_neg c_5).symm.trans h
          refine lv_aload_n hx hb d_Dec_useBoxes_96 rfl (lv_at hl 0 rfl) ?_
          obtain ⟨o6, ho6, h⟩ := Option.bind_eq_some_iff.mp h
          have hKc := hK.sub (tys' := [((cs 1), .int), ((cs 2), .int), ((cs 4), .int), ((cs 5), .int), ((cs 6), .int), ((cs 7), .array .int), (rc1, .int)]) [0, 1, 2, 3, 4, 5, 6] rfl
          have hPc := hP.part (cx := x_Dec ad cs r1 size count_9 data made_9 holds_9 numbers_9 lengths_9) [0, 1, 2, 3, 4, 5, 6, 7] rfl
          have hDc := hD.part (cx := x_Dec ad cs r1 size count_9 data made_9 holds_9 numbers_9 lengths_9) [0, 1, 2, 3, 4, 5, 6, 7] (by decide) rfl
          have hFc := va_freeP (cx := x_Dec ad cs r1 size count_9 data made_9 holds_9 numbers_9 lengths_9) hD hS hA [0, 1, 2, 3, 4, 5, 6, 7] rfl
          refine va_calli (va_runV (As := []) (rest := []) ⟨hx, hb, hml, hown, hB⟩ (c_Dec_atEnd l dC dI tt ad cs r1 rc1 pr H.size N size count_9 data made_9 holds_9 numbers_9 lengths_9 rows_9 o6 ho6) (cwV 0 hB (gV wd_50 wd_48 wd_47 wd_44 wd_49) rfl rfl rfl (by decide +kernel) ⟨Nat.le_of_ble_eq_true rfl, Nat.le_of_ble_eq_true rfl⟩) ⟨PreW_blind, va_recv hKc hPc (ci := 1) (q0 := 0) rfl rfl, PreW_mk hKc hPc hDc hG hS hFc⟩ rfl rfl hl.1 rfl (lv_room (Nat.le_of_ble_eq_true rfl)) d_Dec_useBoxes_97 ⟨Nat.le_of_ble_eq_true rfl, Nat.le_of_ble_eq_true rfl⟩) hS (fun q _ h => hFc q h) hFc (fun r_6 u_6 t H1 locs ht hvm hw hB hz1 hk1 hS => ?_)
          have hw := hw.symm
          subst hw
          obtain ⟨hP1, hK1, hD1⟩ := hB
          rw [ht] at hP1
          obtain ⟨hP, hD⟩ := va_joinP (wr := pick (x_Dec ad cs r1 size count_9 data made_9 holds_9 numbers_9 lengths_9) []) hP hD [0, 1, 2, 3, 4, 5, 6, 7] [] rfl rfl (by decide) (by decide) hk1 hFc hP1 hD1
          generalize H1 = H at hP hS ⊢
          have hP : va_P (dC, dI) vwCl ((x_Dec ad cs r1 size count_9 data made_9 holds_9 numbers_9 lengths_9) ++ (gw 8 r1 rc1 5 rows_9 ++ pr)) H := hP.part (cx := x_Dec ad cs r1 size count_9 data made_9 holds_9 numbers_9 lengths_9) [0, 1, 2, 3, 4, 5, 6, 7] rfl
          have hD : va_D A ((x_Dec ad cs r1 size count_9 data made_9 holds_9 numbers_9 lengths_9) ++ (gw 8 r1 rc1 5 rows_9 ++ pr)) := hD.part (cx := x_Dec ad cs r1 size count_9 data made_9 holds_9 numbers_9 lengths_9) [0, 1, 2, 3, 4, 5, 6, 7] (by decide) rfl
          have h := Option.some.inj h
          subst h
          exact W.iret hx hb hr (fun t ht hW => ⟨⟨_, (), rfl, rfl, AftW_mk hK hP hD ht hW⟩, hS.F ht⟩) hS.2.2 d_Dec_useBoxes_100
        · have h := (if_pos c_5).symm.trans h
          refine lv_aload_n hx hb d_Dec_useBoxes_26 rfl (lv_at hl 0 rfl) ?_
          refine va_get (D := (dC, dI)) (ci := 1) (v := .ref (ad 1)) (C := R_Dec) (T := T_Dec) (N := 5) hx hb hB in_Dec hown hK hP 0 rfl rfl 0 (by decide) (hB _ wd_36) (fun _ h9 => h9) rfl d_Dec_useBoxes_27 ?_
          refine lv_iload_n hx hb d_Dec_useBoxes_30 rfl (lv_at hl 1 rfl) ?_
          obtain ⟨b_7, h⟩ := gI_some h
          refine va_iald hx hb hK hP 1 0 rfl rfl b_7 d_Dec_useBoxes_31 ?_
          refine lv_bipush (v := 8) hx hb d_Dec_useBoxes_32 (by decide) ?_
          refine lv_irem hx hb d_Dec_useBoxes_34 (by decide) ?_
          refine lv_istore_n (lv' := [(2, .int ((data y9_1.toNatClampNeg) - (data y9_1.toNatClampNeg) / (8 : Int32) * (8 : Int32))), (0, .ref (ad 0)), (1, .int y9_1)]) hx hb d_Dec_useBoxes_35 rfl hl (by decide) rfl (fun ls hl => ?_)
          refine lv_aload_n hx hb d_Dec_useBoxes_36 rfl (lv_at hl 1 rfl) ?_
          refine va_get (D := (dC, dI)) (ci := 1) (v := .ref (ad 1)) (C := R_Dec) (T := T_Dec) (N := 5) hx hb hB in_Dec hown hK hP 0 rfl rfl 0 (by decide) (hB _ wd_36) (fun _ h9 => h9) rfl d_Dec_useBoxes_37 ?_
          refine lv_iload_n hx hb d_Dec_useBoxes_40 rfl (lv_at hl 2 rfl) ?_
          refine lv_iconst (v := 1) hx hb d_Dec_useBoxes_41 (by decide) ?_
          refine lv_iadd hx hb d_Dec_useBoxes_42 ?_
          obtain ⟨b_8, h⟩ := gI_some h
          refine va_iald hx hb hK hP 1 0 rfl rfl b_8 d_Dec_useBoxes_43 ?_
          refine lv_bipush (v := 8) hx hb d_Dec_useBoxes_44 (by decide) ?_
          refine lv_irem hx hb d_Dec_useBoxes_46 (by decide) ?_
          refine lv_istore_n (lv' := [(3, .int ((data (y9_1 + (1 : Int32)).toNatClampNeg) - (data (y9_1 + (1 : Int32)).toNatClampNeg) / (8 : Int32) * (8 : Int32))), (2, .int ((data y9_1.toNatClampNeg) - (data y9_1.toNatClampNeg) / (8 : Int32) * (8 : Int32))), (0, .ref (ad 0)), (1, .int y9_1)]) hx hb d_Dec_useBoxes_47 rfl hl (by decide) rfl (fun ls hl => ?_)
          refine lv_aload_n hx hb d_Dec_useBoxes_48 rfl (lv_at hl 2 rfl) ?_
          refine va_get (D := (dC, dI)) (ci := 1) (v := .ref (ad 1)) (C := R_Dec) (T := T_Dec) (N := 5) hx hb hB in_Dec hown hK hP 0 rfl rfl 0 (by decide) (hB _ wd_36) (fun _ h9 => h9) rfl d_Dec_useBoxes_49 ?_
          refine lv_iload_n hx hb d_Dec_useBoxes_52 rfl (lv_at hl 3 rfl) ?_
          refine lv_iconst (v := 1) hx hb d_Dec_useBoxes_53 (by decide) ?_
          refine lv_iadd hx hb d_Dec_useBoxes_54 ?_
          refine va_iald hx hb hK hP 1 0 rfl rfl b_8 d_Dec_useBoxes_55 ?_
          refine lv_bipush (v := 8) hx hb d_Dec_useBoxes_56 (by decide) ?_
          refine lv_idiv hx hb d_Dec_useBoxes_58 (by decide) ?_
          refine lv_istore (lv' := [(4, .int ((data (y9_1 + (1 : Int32)).toNatClampNeg) / (8 : Int32))), (3, .int ((data (y9_1 + (1 : Int32)).toNatClampNeg) - (data (y9_1 + (1 : Int32)).toNatClampNeg) / (8 : Int32) * (8 : Int32))), (2, .int ((data y9_1.toNatClampNeg) - (data y9_1.toNatClampNeg) / (8 : Int32) * (8 : Int32))), (0, .ref (ad 0)), (1, .int y9_1)]) hx hb d_Dec_useBoxes_59 hl (by decide) rfl (fun ls hl => ?_)
          refine lv_aload_n hx hb d_Dec_useBoxes_61 rfl (lv_at hl 3 rfl) ?_
          refine va_get (D := (dC, dI)) (ci := 1) (v := .ref (ad 3)) (C := R_Dec) (T := T_Dec) (N := 5) hx hb hB in_Dec hown hK hP 0 rfl rfl 2 (by decide) (hB _ wd_62) (fun _ h9 => h9) rfl d_Dec_useBoxes_62 ?_
          refine lv_iload_n hx hb d_Dec_useBoxes_65 rfl (lv_at hl 2 rfl) ?_
          refine lv_iload_n hx hb d_Dec_useBoxes_66 rfl (lv_at hl 1 rfl) ?_
          refine lv_iload hx hb d_Dec_useBoxes_67 (lv_at hl 0 rfl) ?_
          obtain ⟨o9, ho9, h⟩ := Option.bind_eq_some_iff.mp h
          have hKc := hK.sub (tys' := [((cs 4), .int), ((cs 5), .int), ((cs 6), .int), ((cs 7), .array .int), (rc1, .int)]) [2, 3, 4, 5, 6] rfl
          have hPc := hP.part (cx := x_Boxes (sh 3 ad) (sh 3 cs) r1 holds_9 numbers_9 lengths_9) [3, 4, 5, 6, 7] rfl
          have hDc := hD.part (cx := x_Boxes (sh 3 ad) (sh 3 cs) r1 holds_9 numbers_9 lengths_9) [3, 4, 5, 6, 7] (by decide) rfl
          have hFc := va_freeP (cx := x_Boxes (sh 3 ad) (sh 3 cs) r1 holds_9 numbers_9 lengths_9) hD hS hA [3, 4, 5, 6, 7] rfl
          refine va_calli (va_runVN (As := [.int ((data y9_1.toNatClampNeg) - (data y9_1.toNatClampNeg) / (8 : Int32) * (8 : Int32)), .int ((data (y9_1 + (1 : Int32)).toNatClampNeg) - (data (y9_1 + (1 : Int32)).toNatClampNeg) / (8 : Int32) * (8 : Int32)), .int ((data (y9_1 + (1 : Int32)).toNatClampNeg) / (8 : Int32))]) (rest := []) ⟨hx, hb, hml, hown, hB⟩ (c_Boxes_thrownBy l dC dI tt (sh 3 ad) (sh 3 cs) r1 rc1 pr H.size N ((data y9_1.toNatClampNeg) - (data y9_1.toNatClampNeg) / (8 : Int32) * (8 : Int32)) ((data (y9_1 + (1 : Int32)).toNatClampNeg) - (data (y9_1 + (1 : Int32)).toNatClampNeg) / (8 : Int32) * (8 : Int32)) ((data (y9_1 + (1 : Int32)).toNatClampNeg) / (8 : Int32)) holds_9 numbers_9 lengths_9 rows_9 o9 ho9) (⟨va_cnB 3 hB (gW wd_74) rfl rfl rfl (hG.1 _ (nw_at (i := 25) rfl)) (hB _ wd_24) (by decide +kernel) ⟨Nat.le_of_ble_eq_true rfl, Nat.le_of_ble_eq_true rfl⟩, hB _ wd_73, hB _ wd_72⟩) ⟨PreW_blind, va_recv hKc hPc (ci := 2) (q0 := 0) rfl rfl, PreW_mk hKc hPc hDc hG hS hFc⟩ rfl rfl hl.1 rfl (lv_room (Nat.le_of_ble_eq_true rfl)) d_Dec_useBoxes_69 ⟨Nat.le_of_ble_eq_true rfl, Nat.le_of_ble_eq_true rfl⟩) hS (fun q _ h => hFc q h) hFc (fun r_9 u_9 t H1 locs ht hvm hw hB hz1 hk1 hS => ?_)
          have hw := hw.symm
          subst hw
          obtain ⟨hP1, hK1, hD1⟩ := hB
          rw [ht] at hP1
          obtain ⟨hP, hD⟩ := va_joinP (wr := pick (x_Dec ad cs r1 size count_9 data made_9 holds_9 numbers_9 lengths_9) [0, 1, 2]) hP hD [3, 4, 5, 6, 7] [0, 1, 2] rfl rfl (by decide) (by decide) hk1 hFc hP1 hD1
          generalize H1 = H at hP hS ⊢
          have hP : va_P (dC, dI) vwCl ((x_Dec ad cs r1 size count_9 data made_9 holds_9 numbers_9 lengths_9) ++ (gw 8 r1 rc1 5 rows_9 ++ pr)) H := hP.part (cx := x_Dec ad cs r1 size count_9 data made_9 holds_9 numbers_9 lengths_9) [0, 1, 2, 3, 4, 5, 6, 7] rfl
          have hD : va_D A ((x_Dec ad cs r1 size count_9 data made_9 holds_9 numbers_9 lengths_9) ++ (gw 8 r1 rc1 5 rows_9 ++ pr)) := hD.part (cx := x_Dec ad cs r1 size count_9 data made_9 holds_9 numbers_9 lengths_9) [0, 1, 2, 3, 4, 5, 6, 7] (by decide) rfl
          refine lv_istore (lv' := [(5, .int o9), (4, .int ((data (y9_1 + (1 : Int32)).toNatClampNeg) / (8 : Int32))), (3, .int ((data (y9_1 + (1 : Int32)).toNatClampNeg) - (data (y9_1 + (1 : Int32)).toNatClampNeg) / (8 : Int32) * (8 : Int32))), (2, .int ((data y9_1.toNatClampNeg) - (data y9_1.toNatClampNeg) / (8 : Int32) * (8 : Int32))), (0, .ref (ad 0)), (1, .int y9_1)]) hx hb d_Dec_useBoxes_72 hl (by decide) rfl (fun ls hl => ?_)
          refine lv_iload hx hb d_Dec_useBoxes_74 (lv_at hl 0 rfl) ?_
          refine lv_if_eq (tgt := 82) hx hb d_Dec_useBoxes_76 (by decide) (fun c_10 => ?_) (fun c_10 => ?_)
          · have h := (if_pos c_10).symm.trans h
            refine lv_aload_n hx hb d_Dec_useBoxes_82 rfl (lv_at hl 4 rfl) ?_
            refine lv_iload_n hx hb d_Dec_useBoxes_83 rfl (lv_at hl 3 rfl) ?_
            refine lv_iload_n hx hb d_Dec_useBoxes_84 rfl (lv_at hl 2 rfl) ?_
            refine lv_iload hx hb d_Dec_useBoxes_85 (lv_at hl 1 rfl) ?_
            obtain ⟨o11, ho11, h⟩ := Option.bind_eq_some_iff.mp h
            have hKc := hK.sub (tys' := [((cs 1), .int), ((cs 2), .int), ((cs 4), .int), ((cs 5), .int), ((cs 6), .int), ((cs 7), .array .int), (rc1, .int)]) [0, 1, 2, 3, 4, 5, 6] rfl
            have hPc := hP.part (cx := x_Dec ad cs r1 size count_9 data made_9 holds_9 numbers_9 lengths_9) [0, 1, 2, 3, 4, 5, 6, 7] rfl
            have hDc := hD.part (cx := x_Dec ad cs r1 size count_9 data made_9 holds_9 numbers_9 lengths_9) [0, 1, 2, 3, 4, 5, 6, 7] (by decide) rfl
            have hFc := va_freeP (cx := x_Dec ad cs r1 size count_9 data made_9 holds_9 numbers_9 lengths_9) hD hS hA [0, 1, 2, 3, 4, 5, 6, 7] rfl
            refine va_callv (va_runV (As := [.int ((data y9_1.toNatClampNeg) - (data y9_1.toNatClampNeg) / (8 : Int32) * (8 : Int32)), .int ((data (y9_1 + (1 : Int32)).toNatClampNeg) - (data (y9_1 + (1 : Int32)).toNatClampNeg) / (8 : Int32) * (8 : Int32)), .int ((data (y9_1 + (1 : Int32)).toNatClampNeg) / (8 : Int32))]) (rest := []) ⟨hx, hb, hml, hown, hB⟩ (c_Dec_doOperation l dC dI tt ad cs r1 rc1 pr H.size N ((data y9_1.toNatClampNeg) - (data y9_1.toNatClampNeg) / (8 : Int32) * (8 : Int32)) ((data (y9_1 + (1 : Int32)).toNatClampNeg) - (data (y9_1 + (1 : Int32)).toNatClampNeg) / (8 : Int32) * (8 : Int32)) ((data (y9_1 + (1 : Int32)).toNatClampNeg) / (8 : Int32)) size count_9 data made_9 holds_9 numbers_9 lengths_9 rows_9 o11 ho11) (cwV 3 hB (gV wd_78 wd_76 wd_75 wd_44 wd_77) rfl rfl rfl (by decide +kernel) ⟨Nat.le_of_ble_eq_true rfl, Nat.le_of_ble_eq_true rfl⟩) ⟨PreW_blind, va_recv hKc hPc (ci := 1) (q0 := 0) rfl rfl, PreW_mk hKc hPc hDc hG hS hFc⟩ rfl rfl hl.1 rfl (lv_room (Nat.le_of_ble_eq_true rfl)) d_Dec_useBoxes_87 ⟨Nat.le_of_ble_eq_true rfl, Nat.le_of_ble_eq_true rfl⟩) hS (fun q _ h => hFc q h) hFc (fun u_11 t H1 locs ht hvm hw hB hz1 hk1 hS => ?_)
            obtain ⟨hP1, hK1, hD1⟩ := hB
            rw [ht] at hP1
            obtain ⟨hP, hD⟩ := va_joinP (wr := pick (x_Dec ad cs r1 size count_9 data made_9 holds_9 numbers_9 lengths_9) []) hP hD [0, 1, 2, 3, 4, 5, 6, 7] [] rfl rfl (by decide) (by decide) hk1 hFc hP1 hD1
            generalize H1 = H at hP hS ⊢
            have hP : va_P (dC, dI) vwCl ((x_Dec ad cs r1 size o11.1 data o11.2.1 o11.2.2.1 o11.2.2.2.1 o11.2.2.2.2.1) ++ (gw 8 r1 rc1 5 o11.2.2.2.2.2 ++ pr)) H := hP.part (cx := x_Dec ad cs r1 size o11.1 data o11.2.1 o11.2.2.1 o11.2.2.2.1 o11.2.2.2.2.1) [0, 1, 2, 3, 4, 5, 6, 7] rfl
            have hD : va_D A ((x_Dec ad cs r1 size o11.1 data o11.2.1 o11.2.2.1 o11.2.2.2.1 o11.2.2.2.2.1) ++ (gw 8 r1 rc1 5 o11.2.2.2.2.2 ++ pr)) := hD.part (cx := x_Dec ad cs r1 size o11.1 data o11.2.1 o11.2.2.1 o11.2.2.2.1 o11.2.2.2.2.1) [0, 1, 2, 3, 4, 5, 6, 7] (by decide) rfl
            refine lv_iinc (v := y9_1 + 2) (lv' := [(1, .int (y9_1 + 2)), (5, .int o9), (4, .int ((data (y9_1 + (1 : Int32)).toNatClampNeg) / (8 : Int32))), (3, .int ((data (y9_1 + (1 : Int32)).toNatClampNeg) - (data (y9_1 + (1 : Int32)).toNatClampNeg) / (8 : Int32) * (8 : Int32))), (2, .int ((data y9_1.toNatClampNeg) - (data y9_1.toNatClampNeg) / (8 : Int32) * (8 : Int32))), (0, .ref (ad 0))]) hx hb d_Dec_useBoxes_90 hl (k := 5) rfl rfl (by decide) rfl (fun ls hl => ?_)
            refine lv_goto (tgt := 9) hx hb d_Dec_useBoxes_93 (by decide) ?_
            exact ih (y9_1 + 2) o11.1 o11.2.1 o11.2.2.1 o11.2.2.2.1 o11.2.2.2.2.1 o11.2.2.2.2.2 H locs ls (lv_sub hl [5, 0] rfl) hP hD hS h
          · have h := (if_neg c_10).symm.trans h
            refine lv_iload hx hb d_Dec_useBoxes_79 (lv_at hl 0 rfl) ?_
            have h := Option.some.inj h
            subst h
            exact W.iret hx hb hr (fun t ht hW => ⟨⟨_, (), rfl, rfl, AftW_mk hK hP hD ht hW⟩, hS.F ht⟩) hS.2.2 d_Dec_useBoxes_81
  exact L9 N (0 : Int32) count made o1 numbers lengths rows _ _ ls (lv_sub hl [1, 0] rfl) hP hD hS h
def d_Dec_makeSamples (N : Nat) (x1 : Int32) (size : Int32) (count : Int32) (data : Nat → Int32) (made : Nat → Int32) (holds : Nat → Int32) (numbers : Nat → Int32) (lengths : Nat → Int32) (rows : Nat → Nat → Int32) : Option (Int32 × Int32 × (Nat → Int32) × (Nat → Int32) × (Nat → Int32) × (Nat → Int32) × (Nat → Nat → Int32)) :=
 if x1 = 0 then (d_Dec_copyBytes N size count data made).bind (fun o2 => some (o2.1, o2.2.1, o2.2.2, holds, numbers, lengths, rows)) else if x1 = 1 then (d_Dec_repeatValues N size count data made).bind (fun o4 => some (o4.1, o4.2.1, o4.2.2, holds, numbers, lengths, rows)) else if x1 = 2 then (d_Dec_divide N size count data made).bind (fun o6 => some (o6.1, o6.2.1, o6.2.2, holds, numbers, lengths, rows)) else if x1 = 3 then (d_Dec_useBoxes N size count data made holds numbers lengths rows).bind (fun o8 => some (o8.1, o8.2.1, o8.2.2.1, o8.2.2.2.1, o8.2.2.2.2.1, o8.2.2.2.2.2.1, o8.2.2.2.2.2.2)) else (d_Dec_addDifferences N size count data made).bind (fun o9 => some (o9.1, o9.2.1, o9.2.2, holds, numbers, lengths, rows))
abbrev rm_Dec_makeSamples : Room := { frames := 4, cells := 0, slots := 0, locals := 93 }
set_option maxHeartbeats 4000000 in
set_option maxRecDepth 100000 in
theorem c_Dec_makeSamples (l : Launch) (dC : Nat → ClassId) (dI : Nat → Nat → Nat) (tt : Nat → Nat) (ad : Nat → Nat) (cs : Nat → ClassId) (r1 : Nat → Nat) (rc1 : ClassId) (pr : va_W) (sz N : Nat) (x1 : Int32) (size : Int32) (count : Int32) (data : Nat → Int32) (made : Nat → Int32) (holds : Nat → Int32) (numbers : Nat → Int32) (lengths : Nat → Int32) (rows : Nat → Nat → Int32) (out : Int32 × Int32 × (Nat → Int32) × (Nat → Int32) × (Nat → Int32) × (Nat → Int32) × (Nat → Nat → Int32)) (h : d_Dec_makeSamples N x1 size count data made holds numbers lengths rows = some out) :
    Met l y_Dec_makeSamples (w_Dec_makeSamples) rm_Dec_makeSamples (va_Pc [.ref (ad 0), .int x1] (PreW (dC, dI) [((cs 1), .int), ((cs 2), .int), ((cs 4), .int), ((cs 5), .int), ((cs 6), .int), ((cs 7), .array .int), (rc1, .int)] ((x_Dec ad cs r1 size count data made holds numbers lengths) ++ (gw 8 r1 rc1 5 rows ++ pr)) sz tt)) (va_Qi (fun (r : Int32) (_ : Unit) => r = out.1) (fun _ => AftW (dC, dI) [((cs 1), .int), ((cs 2), .int), ((cs 4), .int), ((cs 5), .int), ((cs 6), .int), ((cs 7), .array .int), (rc1, .int)] (va_A ((x_Dec ad cs r1 size count data made holds numbers lengths) ++ (gw 8 r1 rc1 5 rows ++ pr)) sz) ((x_Dec ad cs r1 size out.2.1 data out.2.2.1 out.2.2.2.1 out.2.2.2.2.1 out.2.2.2.2.2.1) ++ (gw 8 r1 rc1 5 out.2.2.2.2.2.2 ++ pr))) (va_A ((x_Dec ad cs r1 size count data made holds numbers lengths) ++ (gw 8 r1 rc1 5 rows ++ pr)) sz)) 0 0 (va_A ((x_Dec ad cs r1 size count data made holds numbers lengths) ++ (gw 8 r1 rc1 5 rows ++ pr)) sz) := by
  refine Met.ofW (cc := k_Dec_makeSamples) (maxL := 2) (ret := (some .int)) (by decide) rfl ?_
  intro p e s m args below meth c s₁ B hml hv
  obtain ⟨rfl, hsz, hP, hK, hD0, hG⟩ := hv
  have hx := B.exec
  have hb := B.bytes
  have hr := B.returns
  have hts := atoms_spec (ws := (w_Dec_makeSamples)) B.pre
  have hB : ∀ w ∈ BIG, w.before _ s = true := fun w h9 => hts w (List.mem_cons_of_mem _ h9)
  have hown : s.vm.findClass R_Dec = some m.cls := findClass_of_methodNamed B.named
  have hlocks := B.notSynchronized
  subst hsz
  have hD := hD0.self (sz := s.heap.size)
  generalize hAe : va_A ((x_Dec ad cs r1 size count data made holds numbers lengths) ++ (gw 8 r1 rc1 5 rows ++ pr)) s.heap.size = A at hD hG ⊢
  have hA : ∀ q : Nat, s.heap.size ≤ q → A q := fun q h => by rw [← hAe]; exact Or.inr h
  have hS : va_S A s.heap s.heap [] := va_S.rf
  have hl := lv_entry ([.ref (ad 0), .int x1]) (n := 2) (Nat.le_of_ble_eq_true rfl)
  rw [lg_entry_eq]
  generalize (lg_sl ([.ref (ad 0), .int x1]) ++ List.replicate (2 - (lg_sl ([.ref (ad 0), .int x1])).length) Slot.unset).toArray = ls at hl ⊢
  have hl : lv_has ls 2 [(0, .ref (ad 0)), (1, .int x1)] := hl
  unfold d_Dec_makeSamples at h
  refine lv_iload_n hx hb d_Dec_makeSamples_0 rfl (lv_at hl 1 rfl) ?_
  by_cases c_1 : x1 = 0
  · have h := (if_pos c_1).symm.trans h
    refine lv_tableIn (tgt := 32) hx hb d_Dec_makeSamples_1 (by rw [c_1]; decide) (by rw [c_1]; decide) (by first | (rw [c_1]; done) | (rw [c_1]; rfl)) (by decide) ?_
    refine lv_aload_n hx hb d_Dec_makeSamples_32 rfl (lv_at hl 0 rfl) ?_
    obtain ⟨o2, ho2, h⟩ := Option.bind_eq_some_iff.mp h
    have hKc := hK.sub (tys' := [((cs 1), .int), ((cs 2), .int), ((cs 4), .int), ((cs 5), .int), ((cs 6), .int), ((cs 7), .array .int), (rc1, .int)]) [0, 1, 2, 3, 4, 5, 6] rfl
    have hPc := hP.part (cx := x_Dec ad cs r1 size count data made holds numbers lengths) [0, 1, 2, 3, 4, 5, 6, 7] rfl
    have hDc := hD.part (cx := x_Dec ad cs r1 size count data made holds numbers lengths) [0, 1, 2, 3, 4, 5, 6, 7] (by decide) rfl
    have hFc := va_freeP (cx := x_Dec ad cs r1 size count data made holds numbers lengths) hD hS hA [0, 1, 2, 3, 4, 5, 6, 7] rfl
    refine va_calli (va_runV (As := []) (rest := []) ⟨hx, hb, hml, hown, hB⟩ (c_Dec_copyBytes l dC dI tt ad cs r1 rc1 pr s.heap.size N size count data made holds numbers lengths rows o2 ho2) (cwV 0 hB (gV wd_82 wd_80 wd_79 wd_44 wd_81) rfl rfl rfl (by decide +kernel) ⟨Nat.le_of_ble_eq_true rfl, Nat.le_of_ble_eq_true rfl⟩) ⟨PreW_blind, va_recv hKc hPc (ci := 1) (q0 := 0) rfl rfl, PreW_mk hKc hPc hDc hG hS hFc⟩ rfl rfl hl.1 rfl (lv_room (Nat.le_of_ble_eq_true rfl)) d_Dec_makeSamples_33 ⟨Nat.le_of_ble_eq_true rfl, Nat.le_of_ble_eq_true rfl⟩) hS (fun q _ h => hFc q h) hFc (fun r_2 u_2 t H1 locs ht hvm hw hB hz1 hk1 hS => ?_)
    have hw := hw.symm
    subst hw
    obtain ⟨hP1, hK1, hD1⟩ := hB
    rw [ht] at hP1
    obtain ⟨hP, hD⟩ := va_joinP (wr := pick (x_Dec ad cs r1 size count data made holds numbers lengths) []) hP hD [0, 1, 2, 3, 4, 5, 6, 7] [] rfl rfl (by decide) (by decide) hk1 hFc hP1 hD1
    generalize H1 = H at hP hS ⊢
    have hP : va_P (dC, dI) vwCl ((x_Dec ad cs r1 size o2.2.1 data o2.2.2 holds numbers lengths) ++ (gw 8 r1 rc1 5 rows ++ pr)) H := hP.part (cx := x_Dec ad cs r1 size o2.2.1 data o2.2.2 holds numbers lengths) [0, 1, 2, 3, 4, 5, 6, 7] rfl
    have hD : va_D A ((x_Dec ad cs r1 size o2.2.1 data o2.2.2 holds numbers lengths) ++ (gw 8 r1 rc1 5 rows ++ pr)) := hD.part (cx := x_Dec ad cs r1 size o2.2.1 data o2.2.2 holds numbers lengths) [0, 1, 2, 3, 4, 5, 6, 7] (by decide) rfl
    have h := Option.some.inj h
    subst h
    exact W.iret hx hb hr (fun t ht hW => ⟨⟨_, (), rfl, rfl, AftW_mk hK hP hD ht hW⟩, hS.F ht⟩) hS.2.2 d_Dec_makeSamples_36
  have h := (if_neg c_1).symm.trans h
  by_cases c_3 : x1 = 1
  · have h := (if_pos c_3).symm.trans h
    refine lv_tableIn (tgt := 37) hx hb d_Dec_makeSamples_1 (by rw [c_3]; decide) (by rw [c_3]; decide) (by first | (rw [c_3]; done) | (rw [c_3]; rfl)) (by decide) ?_
    refine lv_aload_n hx hb d_Dec_makeSamples_37 rfl (lv_at hl 0 rfl) ?_
    obtain ⟨o4, ho4, h⟩ := Option.bind_eq_some_iff.mp h
    have hKc := hK.sub (tys' := [((cs 1), .int), ((cs 2), .int), ((cs 4), .int), ((cs 5), .int), ((cs 6), .int), ((cs 7), .array .int), (rc1, .int)]) [0, 1, 2, 3, 4, 5, 6] rfl
    have hPc := hP.part (cx := x_Dec ad cs r1 size count data made holds numbers lengths) [0, 1, 2, 3, 4, 5, 6, 7] rfl
    have hDc := hD.part (cx := x_Dec ad cs r1 size count data made holds numbers lengths) [0, 1, 2, 3, 4, 5, 6, 7] (by decide) rfl
    have hFc := va_freeP (cx := x_Dec ad cs r1 size count data made holds numbers lengths) hD hS hA [0, 1, 2, 3, 4, 5, 6, 7] rfl
    refine va_calli (va_runV (As := []) (rest := []) ⟨hx, hb, hml, hown, hB⟩ (c_Dec_repeatValues l dC dI tt ad cs r1 rc1 pr s.heap.size N size count data made holds numbers lengths rows o4 ho4) (cwV 0 hB (gV wd_86 wd_84 wd_83 wd_44 wd_85) rfl rfl rfl (by decide +kernel) ⟨Nat.le_of_ble_eq_true rfl, Nat.le_of_ble_eq_true rfl⟩) ⟨PreW_blind, va_recv hKc hPc (ci := 1) (q0 := 0) rfl rfl, PreW_mk hKc hPc hDc hG hS hFc⟩ rfl rfl hl.1 rfl (lv_room (Nat.le_of_ble_eq_true rfl)) d_Dec_makeSamples_38 ⟨Nat.le_of_ble_eq_true rfl, Nat.le_of_ble_eq_true rfl⟩) hS (fun q _ h => hFc q h) hFc (fun r_4 u_4 t H1 locs ht hvm hw hB hz1 hk1 hS => ?_)
    have hw := hw.symm
    subst hw
    obtain ⟨hP1, hK1, hD1⟩ := hB
    rw [ht] at hP1
    obtain ⟨hP, hD⟩ := va_joinP (wr := pick (x_Dec ad cs r1 size count data made holds numbers lengths) []) hP hD [0, 1, 2, 3, 4, 5, 6, 7] [] rfl rfl (by decide) (by decide) hk1 hFc hP1 hD1
    generalize H1 = H at hP hS ⊢
    have hP : va_P (dC, dI) vwCl ((x_Dec ad cs r1 size o4.2.1 data o4.2.2 holds numbers lengths) ++ (gw 8 r1 rc1 5 rows ++ pr)) H := hP.part (cx := x_Dec ad cs r1 size o4.2.1 data o4.2.2 holds numbers lengths) [0, 1, 2, 3, 4, 5, 6, 7] rfl
    have hD : va_D A ((x_Dec ad cs r1 size o4.2.1 data o4.2.2 holds numbers lengths) ++ (gw 8 r1 rc1 5 rows ++ pr)) := hD.part (cx := x_Dec ad cs r1 size o4.2.1 data o4.2.2 holds numbers lengths) [0, 1, 2, 3, 4, 5, 6, 7] (by decide) rfl
    have h := Option.some.inj h
    subst h
    exact W.iret hx hb hr (fun t ht hW => ⟨⟨_, (), rfl, rfl, AftW_mk hK hP hD ht hW⟩, hS.F ht⟩) hS.2.2 d_Dec_makeSamples_41
  have h := (if_neg c_3).symm.trans h
  by_cases c_5 : x1 = 2
  · have h := (if_pos c_5).symm.trans h
    refine lv_tableIn (tgt := 42) hx hb d_Dec_makeSamples_1 (by rw [c_5]; decide) (by rw [c_5]; decide) (by first | (rw [c_5]; done) | (rw [c_5]; rfl)) (by decide) ?_
    refine lv_aload_n hx hb d_Dec_makeSamples_42 rfl (lv_at hl 0 rfl) ?_
    obtain ⟨o6, ho6, h⟩ := Option.bind_eq_some_iff.mp h
    have hKc := hK.sub (tys' := [((cs 1), .int), ((cs 2), .int), ((cs 4), .int), ((cs 5), .int), ((cs 6), .int), ((cs 7), .array .int), (rc1, .int)]) [0, 1, 2, 3, 4, 5, 6] rfl
    have hPc := hP.part (cx := x_Dec ad cs r1 size count data made holds numbers lengths) [0, 1, 2, 3, 4, 5, 6, 7] rfl
    have hDc := hD.part (cx := x_Dec ad cs r1 size count data made holds numbers lengths) [0, 1, 2, 3, 4, 5, 6, 7] (by decide) rfl
    have hFc := va_freeP (cx := x_Dec ad cs r1 size count data made holds numbers lengths) hD hS hA [0, 1, 2, 3, 4, 5, 6, 7] rfl
    refine va_calli (va_runV (As := []) (rest := []) ⟨hx, hb, hml, hown, hB⟩ (c_Dec_divide l dC dI tt ad cs r1 rc1 pr s.heap.size N size count data made holds numbers lengths rows o6 ho6) (cwV 0 hB (gV wd_90 wd_88 wd_87 wd_44 wd_89) rfl rfl rfl (by decide +kernel) ⟨Nat.le_of_ble_eq_true rfl, Nat.le_of_ble_eq_true rfl⟩) ⟨PreW_blind, va_recv hKc hPc (ci := 1) (q0 := 0) rfl rfl, PreW_mk hKc hPc hDc hG hS hFc⟩ rfl rfl hl.1 rfl (lv_room (Nat.le_of_ble_eq_true rfl)) d_Dec_makeSamples_43 ⟨Nat.le_of_ble_eq_true rfl, Nat.le_of_ble_eq_true rfl⟩) hS (fun q _ h => hFc q h) hFc (fun r_6 u_6 t H1 locs ht hvm hw hB hz1 hk1 hS => ?_)
    have hw := hw.symm
    subst hw
    obtain ⟨hP1, hK1, hD1⟩ := hB
    rw [ht] at hP1
    obtain ⟨hP, hD⟩ := va_joinP (wr := pick (x_Dec ad cs r1 size count data made holds numbers lengths) []) hP hD [0, 1, 2, 3, 4, 5, 6, 7] [] rfl rfl (by decide) (by decide) hk1 hFc hP1 hD1
    generalize H1 = H at hP hS ⊢
    have hP : va_P (dC, dI) vwCl ((x_Dec ad cs r1 size o6.2.1 data o6.2.2 holds numbers lengths) ++ (gw 8 r1 rc1 5 rows ++ pr)) H := hP.part (cx := x_Dec ad cs r1 size o6.2.1 data o6.2.2 holds numbers lengths) [0, 1, 2, 3, 4, 5, 6, 7] rfl
    have hD : va_D A ((x_Dec ad cs r1 size o6.2.1 data o6.2.2 holds numbers lengths) ++ (gw 8 r1 rc1 5 rows ++ pr)) := hD.part (cx := x_Dec ad cs r1 size o6.2.1 data o6.2.2 holds numbers lengths) [0, 1, 2, 3, 4, 5, 6, 7] (by decide) rfl
    have h := Option.some.inj h
    subst h
    exact W.iret hx hb hr (fun t ht hW => ⟨⟨_, (), rfl, rfl, AftW_mk hK hP hD ht hW⟩, hS.F ht⟩) hS.2.2 d_Dec_makeSamples_46
  have h := (if_neg c_5).symm.trans h
  by_cases c_7 : x1 = 3
  · have h := (if_pos c_7).symm.trans h
    refine lv_tableIn (tgt := 47) hx hb d_Dec_makeSamples_1 (by rw [c_7]; decide) (by rw [c_7]; decide) (by first | (rw [c_7]; done) | (rw [c_7]; rfl)) (by decide) ?_
    refine lv_aload_n hx hb d_Dec_makeSamples_47 rfl (lv_at hl 0 rfl) ?_
    obtain ⟨o8, ho8, h⟩ := Option.bind_eq_some_iff.mp h
    have hKc := hK.sub (tys' := [((cs 1), .int), ((cs 2), .int), ((cs 4), .int), ((cs 5), .int), ((cs 6), .int), ((cs 7), .array .int), (rc1, .int)]) [0, 1, 2, 3, 4, 5, 6] rfl
    have hPc := hP.part (cx := x_Dec ad cs r1 size count data made holds numbers lengths) [0, 1, 2, 3, 4, 5, 6, 7] rfl
    have hDc := hD.part (cx := x_Dec ad cs r1 size count data made holds numbers lengths) [0, 1, 2, 3, 4, 5, 6, 7] (by decide) rfl
    have hFc := va_freeP (cx := x_Dec ad cs r1 size count data made holds numbers lengths) hD hS hA [0, 1, 2, 3, 4, 5, 6, 7] rfl
    refine va_calli (va_runV (As := []) (rest := []) ⟨hx, hb, hml, hown, hB⟩ (c_Dec_useBoxes l dC dI tt ad cs r1 rc1 pr s.heap.size N size count data made holds numbers lengths rows o8 ho8) (cwV 0 hB (gV wd_94 wd_92 wd_91 wd_44 wd_93) rfl rfl rfl (by decide +kernel) ⟨Nat.le_of_ble_eq_true rfl, Nat.le_of_ble_eq_true rfl⟩) ⟨PreW_blind, va_recv hKc hPc (ci := 1) (q0 := 0) rfl rfl, PreW_mk hKc hPc hDc hG hS hFc⟩ rfl rfl hl.1 rfl (lv_room (Nat.le_of_ble_eq_true rfl)) d_Dec_makeSamples_48 ⟨Nat.le_of_ble_eq_true rfl, Nat.le_of_ble_eq_true rfl⟩) hS (fun q _ h => hFc q h) hFc (fun r_8 u_8 t H1 locs ht hvm hw hB hz1 hk1 hS => ?_)
    have hw := hw.symm
    subst hw
    obtain ⟨hP1, hK1, hD1⟩ := hB
    rw [ht] at hP1
    obtain ⟨hP, hD⟩ := va_joinP (wr := pick (x_Dec ad cs r1 size count data made holds numbers lengths) []) hP hD [0, 1, 2, 3, 4, 5, 6, 7] [] rfl rfl (by decide) (by decide) hk1 hFc hP1 hD1
    generalize H1 = H at hP hS ⊢
    have hP : va_P (dC, dI) vwCl ((x_Dec ad cs r1 size o8.2.1 data o8.2.2.1 o8.2.2.2.1 o8.2.2.2.2.1 o8.2.2.2.2.2.1) ++ (gw 8 r1 rc1 5 o8.2.2.2.2.2.2 ++ pr)) H := hP.part (cx := x_Dec ad cs r1 size o8.2.1 data o8.2.2.1 o8.2.2.2.1 o8.2.2.2.2.1 o8.2.2.2.2.2.1) [0, 1, 2, 3, 4, 5, 6, 7] rfl
    have hD : va_D A ((x_Dec ad cs r1 size o8.2.1 data o8.2.2.1 o8.2.2.2.1 o8.2.2.2.2.1 o8.2.2.2.2.2.1) ++ (gw 8 r1 rc1 5 o8.2.2.2.2.2.2 ++ pr)) := hD.part (cx := x_Dec ad cs r1 size o8.2.1 data o8.2.2.1 o8.2.2.2.1 o8.2.2.2.2.1 o8.2.2.2.2.2.1) [0, 1, 2, 3, 4, 5, 6, 7] (by decide) rfl
    have h := Option.some.inj h
    subst h
    exact W.iret hx hb hr (fun t ht hW => ⟨⟨_, (), rfl, rfl, AftW_mk hK hP hD ht hW⟩, hS.F ht⟩) hS.2.2 d_Dec_makeSamples_51
  have h := (if_neg c_7).symm.trans h
  refine lv_tableOut (tgt := 52) hx hb d_Dec_makeSamples_1 (by have e0 := lv_neT (a := 0) c_1 (by decide); have e1 := lv_neT (a := 1) c_3 (by decide); have e2 := lv_neT (a := 2) c_5 (by decide); have e3 := lv_neT (a := 3) c_7 (by decide); omega) (by decide) ?_
  refine lv_aload_n hx hb d_Dec_makeSamples_52 rfl (lv_at hl 0 rfl) ?_
  obtain ⟨o9, ho9, h⟩ := Option.bind_eq_some_iff.mp h
  have hKc := hK.sub (tys' := [((cs 1), .int), ((cs 2), .int), ((cs 4), .int), ((cs 5), .int), ((cs 6), .int), ((cs 7), .array .int), (rc1, .int)]) [0, 1, 2, 3, 4, 5, 6] rfl
  have hPc := hP.part (cx := x_Dec ad cs r1 size count data made holds numbers lengths) [0, 1, 2, 3, 4, 5, 6, 7] rfl
  have hDc := hD.part (cx := x_Dec ad cs r1 size count data made holds numbers lengths) [0, 1, 2, 3, 4, 5, 6, 7] (by decide) rfl
  have hFc := va_freeP (cx := x_Dec ad cs r1 size count data made holds numbers lengths) hD hS hA [0, 1, 2, 3, 4, 5, 6, 7] rfl
  refine va_calli (va_runV (As := []) (rest := []) ⟨hx, hb, hml, hown, hB⟩ (c_Dec_addDifferences l dC dI tt ad cs r1 rc1 pr s.heap.size N size count data made holds numbers lengths rows o9 ho9) (cwV 0 hB (gV wd_98 wd_96 wd_95 wd_44 wd_97) rfl rfl rfl (by decide +kernel) ⟨Nat.le_of_ble_eq_true rfl, Nat.le_of_ble_eq_true rfl⟩) ⟨PreW_blind, va_recv hKc hPc (ci := 1) (q0 := 0) rfl rfl, PreW_mk hKc hPc hDc hG hS hFc⟩ rfl rfl hl.1 rfl (lv_room (Nat.le_of_ble_eq_true rfl)) d_Dec_makeSamples_53 ⟨Nat.le_of_ble_eq_true rfl, Nat.le_of_ble_eq_true rfl⟩) hS (fun q _ h => hFc q h) hFc (fun r_9 u_9 t H1 locs ht hvm hw hB hz1 hk1 hS => ?_)
  have hw := hw.symm
  subst hw
  obtain ⟨hP1, hK1, hD1⟩ := hB
  rw [ht] at hP1
  obtain ⟨hP, hD⟩ := va_joinP (wr := pick (x_Dec ad cs r1 size count data made holds numbers lengths) []) hP hD [0, 1, 2, 3, 4, 5, 6, 7] [] rfl rfl (by decide) (by decide) hk1 hFc hP1 hD1
  generalize H1 = H at hP hS ⊢
  have hP : va_P (dC, dI) vwCl ((x_Dec ad cs r1 size o9.2.1 data o9.2.2 holds numbers lengths) ++ (gw 8 r1 rc1 5 rows ++ pr)) H := hP.part (cx := x_Dec ad cs r1 size o9.2.1 data o9.2.2 holds numbers lengths) [0, 1, 2, 3, 4, 5, 6, 7] rfl
  have hD : va_D A ((x_Dec ad cs r1 size o9.2.1 data o9.2.2 holds numbers lengths) ++ (gw 8 r1 rc1 5 rows ++ pr)) := hD.part (cx := x_Dec ad cs r1 size o9.2.1 data o9.2.2 holds numbers lengths) [0, 1, 2, 3, 4, 5, 6, 7] (by decide) rfl
  have h := Option.some.inj h
  subst h
  exact W.iret hx hb hr (fun t ht hW => ⟨⟨_, (), rfl, rfl, AftW_mk hK hP hD ht hW⟩, hS.F ht⟩) hS.2.2 d_Dec_makeSamples_56
