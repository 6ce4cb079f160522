def d_Map_forgetAll_L2 (N : Nat) : Nat → Int32 → (Nat → Int32) → (Nat → Int32) → Option ((Nat → Int32) × (Nat → Int32))
  | 0, _, _, _ => none
  | n + 1, y2_1, values_2, states_2 => if (256 : Int32) ≤ y2_1 then some (values_2, states_2) else gI y2_1 256 (d_Map_forgetAll_L2 N n (y2_1 + 1) (upd values_2 y2_1.toNatClampNeg (-1 : Int32)) (upd states_2 y2_1.toNatClampNeg (0 : Int32)))
def d_Map_forgetAll (N : Nat) (values : Nat → Int32) (states : Nat → Int32) : Option ((Nat → Int32) × (Nat → Int32)) :=
 (d_Map_forgetAll_L2 N N (0 : Int32) values states).bind (fun s2 => some (s2.1, s2.2))
abbrev rm_Map_forgetAll : Room := { frames := 0, cells := 0, slots := 0, locals := 0 }
set_option maxHeartbeats 4000000 in
set_option maxRecDepth 100000 in
theorem c_Map_forgetAll (l : Launch) (dC : Nat → ClassId) (dI : Nat → Nat → Nat) (tt : Nat → Nat) (ad : Nat → Nat) (cs : Nat → ClassId) (sz N : Nat) (values : Nat → Int32) (states : Nat → Int32) (out : (Nat → Int32) × (Nat → Int32)) (h : d_Map_forgetAll N values states = some out) :
    Met l y_Map_forgetAll (w_Map_forgetAll) rm_Map_forgetAll (va_Pc [.ref (ad 0)] (PreW (dC, dI) [((cs 1), .int), ((cs 2), .int)] (x_Map ad cs values states) sz tt)) (va_Qv (fun (_ : Unit) => True) (fun _ => AftW (dC, dI) [((cs 1), .int), ((cs 2), .int)] (va_A (x_Map ad cs values states) sz) (x_Map ad cs out.1 out.2)) (va_A (x_Map ad cs values states) sz)) 0 0 (va_A (x_Map ad cs values states) sz) := by
  refine Met.ofW (cc := k_Map_forgetAll) (maxL := 2) (ret := none) (by decide) rfl ?_
  intro p e s m args below meth c s₁ B hml hv
  obtain ⟨rfl, hsz, hP, hK, hD0, hG⟩ := hv
  have hx := B.exec
  have hb := B.bytes
  have hr := B.returns
  have hts := atoms_spec (ws := (w_Map_forgetAll)) B.pre
  have hB : ∀ w ∈ BIG, w.before _ s = true := fun w h9 => hts w (List.mem_cons_of_mem _ h9)
  have hown : s.vm.findClass R_Map = some m.cls := findClass_of_methodNamed B.named
  have hlocks := B.notSynchronized
  subst hsz
  have hD := hD0.self (sz := s.heap.size)
  generalize hAe : va_A (x_Map ad cs values states) s.heap.size = A at hD hG ⊢
  have hA : ∀ q : Nat, s.heap.size ≤ q → A q := fun q h => by rw [← hAe]; exact Or.inr h
  have hS : va_S A s.heap s.heap [] := va_S.rf
  have hl := lv_entry ([.ref (ad 0)]) (n := 2) (Nat.le_of_ble_eq_true rfl)
  rw [lg_entry_eq]
  generalize (lg_sl ([.ref (ad 0)]) ++ List.replicate (2 - (lg_sl ([.ref (ad 0)])).length) Slot.unset).toArray = ls at hl ⊢
  have hl : lv_has ls 2 [(0, .ref (ad 0))] := hl
  unfold d_Map_forgetAll at h
  refine lv_iconst (v := 0) hx hb d_Map_forgetAll_0 (by decide) ?_
  refine lv_istore_n (lv' := [(1, .int (0 : Int32)), (0, .ref (ad 0))]) hx hb d_Map_forgetAll_1 rfl hl (by decide) rfl (fun ls hl => ?_)
  obtain ⟨s2, hs2, h⟩ := Option.bind_eq_some_iff.mp h
  have X2 : ∀ (H : Heap) (locs : List Loc) (ls : Array Slot), lv_has ls 2 [] → va_P (dC, dI) vwCl (x_Map ad cs s2.1 s2.2) H → va_D A (x_Map ad cs s2.1 s2.2) → va_S A s.heap H locs → W p l e (headSpec (w_Map_forgetAll) rm_Map_forgetAll).room s m ([.ref (ad 0)] : List Value).toArray below meth c H locs 0 0 (MQ below (va_Qv (fun (_ : Unit) => True) (fun _ => AftW (dC, dI) [((cs 1), .int), ((cs 2), .int)] A (x_Map ad cs out.1 out.2)) A) ([.ref (ad 0)] : List Value).toArray s 0 0 A) (F0 m 29 ls []) := by
    intro H locs ls hl hP hD hS
    have h := Option.some.inj h
    subst h
    exact W.vret hx hb hr (fun t ht hW => ⟨⟨(), rfl, trivial, AftW_mk hK hP hD ht hW⟩, hS.F ht⟩) hS.2.2 d_Map_forgetAll_29
  have L2 : ∀ (n : Nat) (y2_1 : Int32) (values_2 : Nat → Int32) (states_2 : Nat → Int32) (H : Heap) (locs : List Loc) (ls : Array Slot), lv_has ls 2 [(0, .ref (ad 0)), (1, .int y2_1)] → va_P (dC, dI) vwCl (x_Map ad cs values_2 states_2) H → va_D A (x_Map ad cs values_2 states_2) → va_S A s.heap H locs → d_Map_forgetAll_L2 N n y2_1 values_2 states_2 = some s2 → W p l e (headSpec (w_Map_forgetAll) rm_Map_forgetAll).room s m ([.ref (ad 0)] : List Value).toArray below meth c H locs 0 0 (MQ below (va_Qv (fun (_ : Unit) => True) (fun _ => AftW (dC, dI) [((cs 1), .int), ((cs 2), .int)] A (x_Map ad cs out.1 out.2)) A) ([.ref (ad 0)] : List Value).toArray s 0 0 A) (F0 m 2 ls []) := by
    intro n
    induction n with
    | zero =>
      intro y2_1 values_2 states_2 H locs ls hl hP hD hS h
      rw [d_Map_forgetAll_L2] at h
      cases h
    | succ n ih =>
      intro y2_1 values_2 states_2 H locs ls hl hP hD hS h
      rw [d_Map_forgetAll_L2] at h
      refine lv_iload_n hx hb d_Map_forgetAll_2 rfl (lv_at hl 1 rfl) ?_
      refine lv_sipush (v := 256) hx hb d_Map_forgetAll_3 (by decide) ?_
      refine lv_icmp_ge (tgt := 29) hx hb d_Map_forgetAll_6 (by decide) (fun c_1 => ?_) (fun c_1 => ?_)
      · have h := (if_pos c_1).symm.trans h
        have h := Option.some.inj h
        subst h
        exact X2 H locs ls (lv_sub hl [] rfl) hP hD hS
      · have h := (if_neg c_1).symm.trans h
        refine lv_aload_n hx hb d_Map_forgetAll_9 rfl (lv_at hl 0 rfl) ?_
        refine va_get (D := (dC, dI)) (ci := 3) (v := .ref (ad 1)) (C := R_Map) (T := T_Map) (N := 2) hx hb hB in_Map hown hK hP 0 rfl rfl 0 (by decide) (hB _ wd_0) (fun _ h9 => h9) rfl d_Map_forgetAll_10 ?_
        refine lv_iload_n hx hb d_Map_forgetAll_13 rfl (lv_at hl 1 rfl) ?_
        refine lv_iconst (v := (-1)) hx hb d_Map_forgetAll_14 (by decide) ?_
        obtain ⟨b_2, h⟩ := gI_some h
        refine va_iast hx hb hK hP hD hS 1 0 rfl rfl b_2 d_Map_forgetAll_15 (fun H locs hP hD hS => ?_)
        have hP : va_P (dC, dI) vwCl (x_Map ad cs (upd values_2 y2_1.toNatClampNeg (-1 : Int32)) states_2) H := hP
        have hD : va_D A (x_Map ad cs (upd values_2 y2_1.toNatClampNeg (-1 : Int32)) states_2) := hD
        refine lv_aload_n hx hb d_Map_forgetAll_16 rfl (lv_at hl 0 rfl) ?_
        refine va_get (D := (dC, dI)) (ci := 3) (v := .ref (ad 2)) (C := R_Map) (T := T_Map) (N := 2) hx hb hB in_Map hown hK hP 0 rfl rfl 1 (by decide) (hB _ wd_1) (fun _ h9 => h9) rfl d_Map_forgetAll_17 ?_
        refine lv_iload_n hx hb d_Map_forgetAll_20 rfl (lv_at hl 1 rfl) ?_
        refine lv_iconst (v := 0) hx hb d_Map_forgetAll_21 (by decide) ?_
        refine va_iast hx hb hK hP hD hS 2 1 rfl rfl b_2 d_Map_forgetAll_22 (fun H locs hP hD hS => ?_)
        have hP : va_P (dC, dI) vwCl (x_Map ad cs (upd values_2 y2_1.toNatClampNeg (-1 : Int32)) (upd states_2 y2_1.toNatClampNeg (0 : Int32))) H := hP
        have hD : va_D A (x_Map ad cs (upd values_2 y2_1.toNatClampNeg (-1 : Int32)) (upd states_2 y2_1.toNatClampNeg (0 : Int32))) := hD
        refine lv_iinc (v := y2_1 + 1) (lv' := [(1, .int (y2_1 + 1)), (0, .ref (ad 0))]) hx hb d_Map_forgetAll_23 hl (k := 1) rfl rfl (by decide) rfl (fun ls hl => ?_)
        refine lv_goto (tgt := 2) hx hb d_Map_forgetAll_26 (by decide) ?_
        exact ih (y2_1 + 1) (upd values_2 y2_1.toNatClampNeg (-1 : Int32)) (upd states_2 y2_1.toNatClampNeg (0 : Int32)) H locs ls (lv_sub hl [1, 0] rfl) hP hD hS h
  exact L2 N (0 : Int32) values states _ _ ls (lv_sub hl [1, 0] rfl) hP hD hS hs2
def d_Map_tellRow_L3 (N : Nat) (y3_1 : Int32) (y3_3 : Int32) (samples : Nat → Int32) : Nat → Int32 → (Nat → Int32) → (Nat → Int32) → Option ((Nat → Int32) × (Nat → Int32))
  | 0, _, _, _ => none
  | n + 1, y3_4, values_3, states_3 => if (16 : Int32) ≤ y3_4 then some (values_3, states_3) else if y3_3 = 0 then gI y3_4 16 (gI ((y3_1 * (16 : Int32)) + y3_4) 256 (if y3_3 = 0 then d_Map_tellRow_L3 N y3_1 y3_3 samples n (y3_4 + 1) (upd values_3 ((y3_1 * (16 : Int32)) + y3_4).toNatClampNeg (samples y3_4.toNatClampNeg)) (upd states_3 ((y3_1 * (16 : Int32)) + y3_4).toNatClampNeg (1 : Int32)) else d_Map_tellRow_L3 N y3_1 y3_3 samples n (y3_4 + 1) (upd values_3 ((y3_1 * (16 : Int32)) + y3_4).toNatClampNeg (samples y3_4.toNatClampNeg)) (upd states_3 ((y3_1 * (16 : Int32)) + y3_4).toNatClampNeg (2 : Int32)))) else gI ((y3_1 * (16 : Int32)) + y3_4) 256 (if (states_3 ((y3_1 * (16 : Int32)) + y3_4).toNatClampNeg) = (1 : Int32) then d_Map_tellRow_L3 N y3_1 y3_3 samples n (y3_4 + 1) values_3 states_3 else gI y3_4 16 (if y3_3 = 0 then d_Map_tellRow_L3 N y3_1 y3_3 samples n (y3_4 + 1) (upd values_3 ((y3_1 * (16 : Int32)) + y3_4).toNatClampNeg (samples y3_4.toNatClampNeg)) (upd states_3 ((y3_1 * (16 : Int32)) + y3_4).toNatClampNeg (1 : Int32)) else d_Map_tellRow_L3 N y3_1 y3_3 samples n (y3_4 + 1) (upd values_3 ((y3_1 * (16 : Int32)) + y3_4).toNatClampNeg (samples y3_4.toNatClampNeg)) (upd states_3 ((y3_1 * (16 : Int32)) + y3_4).toNatClampNeg (2 : Int32))))
def d_Map_tellRow (N : Nat) (x1 : Int32) (x3 : Int32) (values : Nat → Int32) (states : Nat → Int32) (samples : Nat → Int32) : Option ((Nat → Int32) × (Nat → Int32)) :=
 (d_Map_tellRow_L3 N x1 x3 samples N (0 : Int32) values states).bind (fun s3 => some (s3.1, s3.2))
abbrev rm_Map_tellRow : Room := { frames := 0, cells := 0, slots := 0, locals := 0 }
set_option maxHeartbeats 4000000 in
set_option maxRecDepth 100000 in
theorem c_Map_tellRow (l : Launch) (dC : Nat → ClassId) (dI : Nat → Nat → Nat) (tt : Nat → Nat) (ad : Nat → Nat) (cs : Nat → ClassId) (e1 : Nat) (ce1 : ClassId) (sz N : Nat) (x1 : Int32) (x3 : Int32) (values : Nat → Int32) (states : Nat → Int32) (samples : Nat → Int32) (out : (Nat → Int32) × (Nat → Int32)) (h : d_Map_tellRow N x1 x3 values states samples = some out) :
    Met l y_Map_tellRow (w_Map_tellRow) rm_Map_tellRow (va_Pc [.ref (ad 0), .int x1, .ref e1, .int x3] (PreW (dC, dI) [((cs 1), .int), ((cs 2), .int), (ce1, .int)] ((x_Map ad cs values states) ++ [(e1, .inl (ce1, 16, .inl samples))]) sz tt)) (va_Qv (fun (_ : Unit) => True) (fun _ => AftW (dC, dI) [((cs 1), .int), ((cs 2), .int), (ce1, .int)] (va_A ((x_Map ad cs values states) ++ [(e1, .inl (ce1, 16, .inl samples))]) sz) ((x_Map ad cs out.1 out.2) ++ [(e1, .inl (ce1, 16, .inl samples))])) (va_A ((x_Map ad cs values states) ++ [(e1, .inl (ce1, 16, .inl samples))]) sz)) 0 0 (va_A ((x_Map ad cs values states) ++ [(e1, .inl (ce1, 16, .inl samples))]) sz) := by
  refine Met.ofW (cc := k_Map_tellRow) (maxL := 6) (ret := none) (by decide) rfl ?_
  intro p e s m args below meth c s₁ B hml hv
  obtain ⟨rfl, hsz, hP, hK, hD0, hG⟩ := hv
  have hx := B.exec
  have hb := B.bytes
  have hr := B.returns
  have hts := atoms_spec (ws := (w_Map_tellRow)) B.pre
  have hB : ∀ w ∈ BIG, w.before _ s = true := fun w h9 => hts w (List.mem_cons_of_mem _ h9)
  have hown : s.vm.findClass R_Map = some m.cls := findClass_of_methodNamed B.named
  have hlocks := B.notSynchronized
  subst hsz
  have hD := hD0.self (sz := s.heap.size)
  generalize hAe : va_A ((x_Map ad cs values states) ++ [(e1, .inl (ce1, 16, .inl samples))]) s.heap.size = A at hD hG ⊢
  have hA : ∀ q : Nat, s.heap.size ≤ q → A q := fun q h => by rw [← hAe]; exact Or.inr h
  have hS : va_S A s.heap s.heap [] := va_S.rf
  have hl := lv_entry ([.ref (ad 0), .int x1, .ref e1, .int x3]) (n := 6) (Nat.le_of_ble_eq_true rfl)
  rw [lg_entry_eq]
  generalize (lg_sl ([.ref (ad 0), .int x1, .ref e1, .int x3]) ++ List.replicate (6 - (lg_sl ([.ref (ad 0), .int x1, .ref e1, .int x3])).length) Slot.unset).toArray = ls at hl ⊢
  have hl : lv_has ls 6 [(0, .ref (ad 0)), (1, .int x1), (2, .ref e1), (3, .int x3)] := hl
  unfold d_Map_tellRow at h
  refine lv_iconst (v := 0) hx hb d_Map_tellRow_0 (by decide) ?_
  refine lv_istore (lv' := [(4, .int (0 : Int32)), (0, .ref (ad 0)), (1, .int x1), (2, .ref e1), (3, .int x3)]) hx hb d_Map_tellRow_1 hl (by decide) rfl (fun ls hl => ?_)
  obtain ⟨s3, hs3, h⟩ := Option.bind_eq_some_iff.mp h
  have X3 : ∀ (H : Heap) (locs : List Loc) (ls : Array Slot), lv_has ls 6 [] → va_P (dC, dI) vwCl ((x_Map ad cs s3.1 s3.2) ++ [(e1, .inl (ce1, 16, .inl samples))]) H → va_D A ((x_Map ad cs s3.1 s3.2) ++ [(e1, .inl (ce1, 16, .inl samples))]) → va_S A s.heap H locs → W p l e (headSpec (w_Map_tellRow) rm_Map_tellRow).room s m ([.ref (ad 0), .int x1, .ref e1, .int x3] : List Value).toArray below meth c H locs 0 0 (MQ below (va_Qv (fun (_ : Unit) => True) (fun _ => AftW (dC, dI) [((cs 1), .int), ((cs 2), .int), (ce1, .int)] A ((x_Map ad cs out.1 out.2) ++ [(e1, .inl (ce1, 16, .inl samples))])) A) ([.ref (ad 0), .int x1, .ref e1, .int x3] : List Value).toArray s 0 0 A) (F0 m 67 ls []) := by
    intro H locs ls hl hP hD hS
    have h := Option.some.inj h
    subst h
    exact W.vret hx hb hr (fun t ht hW => ⟨⟨(), rfl, trivial, AftW_mk hK hP hD ht hW⟩, hS.F ht⟩) hS.2.2 d_Map_tellRow_67
  have L3 : ∀ (n : Nat) (y3_4 : Int32) (values_3 : Nat → Int32) (states_3 : Nat → Int32) (H : Heap) (locs : List Loc) (ls : Array Slot), lv_has ls 6 [(0, .ref (ad 0)), (1, .int x1), (2, .ref e1), (3, .int x3), (4, .int y3_4)] → va_P (dC, dI) vwCl ((x_Map ad cs values_3 states_3) ++ [(e1, .inl (ce1, 16, .inl samples))]) H → va_D A ((x_Map ad cs values_3 states_3) ++ [(e1, .inl (ce1, 16, .inl samples))]) → va_S A s.heap H locs → d_Map_tellRow_L3 N x1 x3 samples n y3_4 values_3 states_3 = some s3 → W p l e (headSpec (w_Map_tellRow) rm_Map_tellRow).room s m ([.ref (ad 0), .int x1, .ref e1, .int x3] : List Value).toArray below meth c H locs 0 0 (MQ below (va_Qv (fun (_ : Unit) => True) (fun _ => AftW (dC, dI) [((cs 1), .int), ((cs 2), .int), (ce1, .int)] A ((x_Map ad cs out.1 out.2) ++ [(e1, .inl (ce1, 16, .inl samples))])) A) ([.ref (ad 0), .int x1, .ref e1, .int x3] : List Value).toArray s 0 0 A) (F0 m 3 ls []) := by
    intro n
    induction n with
    | zero =>
      intro y3_4 values_3 states_3 H locs ls hl hP hD hS h
      rw [d_Map_tellRow_L3] at h
      cases h
    | succ n ih =>
      intro y3_4 values_3 states_3 H locs ls hl hP hD hS h
      rw [d_Map_tellRow_L3] at h
      refine lv_iload hx hb d_Map_tellRow_3 (lv_at hl 4 rfl) ?_
      refine lv_bipush (v := 16) hx hb d_Map_tellRow_5 (by decide) ?_
      refine lv_icmp_ge (tgt := 67) hx hb d_Map_tellRow_7 (by decide) (fun c_1 => ?_) (fun c_1 => ?_)
      · have h := (if_pos c_1).symm.trans h
        have h := Option.some.inj h
        subst h
        exact X3 H locs ls (lv_sub hl [] rfl) hP hD hS
      · have h := (if_neg c_1).symm.trans h
        refine lv_iload_n hx hb d_Map_tellRow_10 rfl (lv_at hl 1 rfl) ?_
        refine lv_bipush (v := 16) hx hb d_Map_tellRow_11 (by decide) ?_
        refine lv_imul hx hb d_Map_tellRow_13 ?_
        refine lv_iload hx hb d_Map_tellRow_14 (lv_at hl 4 rfl) ?_
        refine lv_iadd hx hb d_Map_tellRow_16 ?_
        refine lv_istore (lv' := [(5, .int ((x1 * (16 : Int32)) + y3_4)), (0, .ref (ad 0)), (1, .int x1), (2, .ref e1), (3, .int x3), (4, .int y3_4)]) hx hb d_Map_tellRow_17 hl (by decide) rfl (fun ls hl => ?_)
        refine lv_iload_n hx hb d_Map_tellRow_19 rfl (lv_at hl 4 rfl) ?_
        refine lv_if_eq (tgt := 34) hx hb d_Map_tellRow_20 (by decide) (fun c_2 => ?_) (fun c_2 => ?_)
        · have h := (if_pos c_2).symm.trans h
          refine lv_aload_n hx hb d_Map_tellRow_34 rfl (lv_at hl 1 rfl) ?_
          refine va_get (D := (dC, dI)) (ci := 3) (v := .ref (ad 1)) (C := R_Map) (T := T_Map) (N := 2) hx hb hB in_Map hown hK hP 0 rfl rfl 0 (by decide) (hB _ wd_0) (fun _ h9 => h9) rfl d_Map_tellRow_35 ?_
          refine lv_iload hx hb d_Map_tellRow_38 (lv_at hl 0 rfl) ?_
          refine lv_aload_n hx hb d_Map_tellRow_40 rfl (lv_at hl 3 rfl) ?_
          refine lv_iload hx hb d_Map_tellRow_41 (lv_at hl 5 rfl) ?_
          obtain ⟨b_3, h⟩ := gI_some h
          refine va_iald hx hb hK hP 3 2 rfl rfl b_3 d_Map_tellRow_43 ?_
          obtain ⟨b_4, h⟩ := gI_some h
          refine va_iast hx hb hK hP hD hS 1 0 rfl rfl b_4 d_Map_tellRow_44 (fun H locs hP hD hS => ?_)
          have hP : va_P (dC, dI) vwCl ((x_Map ad cs (upd values_3 ((x1 * (16 : Int32)) + y3_4).toNatClampNeg (samples y3_4.toNatClampNeg)) states_3) ++ [(e1, .inl (ce1, 16, .inl samples))]) H := hP
          have hD : va_D A ((x_Map ad cs (upd values_3 ((x1 * (16 : Int32)) + y3_4).toNatClampNeg (samples y3_4.toNatClampNeg)) states_3) ++ [(e1, .inl (ce1, 16, .inl samples))]) := hD
          refine lv_aload_n hx hb d_Map_tellRow_45 rfl (lv_at hl 1 rfl) ?_
          refine va_get (D := (dC, dI)) (ci := 3) (v := .ref (ad 2)) (C := R_Map) (T := T_Map) (N := 2) hx hb hB in_Map hown hK hP 0 rfl rfl 1 (by decide) (hB _ wd_1) (fun _ h9 => h9) rfl d_Map_tellRow_46 ?_
          refine lv_iload hx hb d_Map_tellRow_49 (lv_at hl 0 rfl) ?_
          refine lv_iload_n hx hb d_Map_tellRow_51 rfl (lv_at hl 4 rfl) ?_
          refine lv_if_eq (tgt := 59) hx hb d_Map_tellRow_52 (by decide) (fun c_5 => ?_) (fun c_5 => ?_)
          · have h := (if_pos c_5).symm.trans h
            refine lv_iconst (v := 1) hx hb d_Map_tellRow_59 (by decide) ?_
            refine va_iast hx hb hK hP hD hS 2 1 rfl rfl b_4 d_Map_tellRow_60 (fun H locs hP hD hS => ?_)
            have hP : va_P (dC, dI) vwCl ((x_Map ad cs (upd values_3 ((x1 * (16 : Int32)) + y3_4).toNatClampNeg (samples y3_4.toNatClampNeg)) (upd states_3 ((x1 * (16 : Int32)) + y3_4).toNatClampNeg (1 : Int32))) ++ [(e1, .inl (ce1, 16, .inl samples))]) H := hP
            have hD : va_D A ((x_Map ad cs (upd values_3 ((x1 * (16 : Int32)) + y3_4).toNatClampNeg (samples y3_4.toNatClampNeg)) (upd states_3 ((x1 * (16 : Int32)) + y3_4).toNatClampNeg (1 : Int32))) ++ [(e1, .inl (ce1, 16, .inl samples))]) := hD
            refine lv_iinc (v := y3_4 + 1) (lv' := [(4, .int (y3_4 + 1)), (5, .int ((x1 * (16 : Int32)) + y3_4)), (0, .ref (ad 0)), (1, .int x1), (2, .ref e1), (3, .int x3)]) hx hb d_Map_tellRow_61 hl (k := 5) rfl rfl (by decide) rfl (fun ls hl => ?_)
            refine lv_goto (tgt := 3) hx hb d_Map_tellRow_64 (by decide) ?_
            exact ih (y3_4 + 1) (upd values_3 ((x1 * (16 : Int32)) + y3_4).toNatClampNeg (samples y3_4.toNatClampNeg)) (upd states_3 ((x1 * (16 : Int32)) + y3_4).toNatClampNeg (1 : Int32)) H locs ls (lv_sub hl [2, 3, 4, 5, 0] rfl) hP hD hS h
          · have h := (if_neg c_5).symm.trans h
            refine lv_iconst (v := 2) hx hb d_Map_tellRow_55 (by decide) ?_
            refine lv_goto (tgt := 60) hx hb d_Map_tellRow_56 (by decide) ?_
            refine va_iast hx hb hK hP hD hS 2 1 rfl rfl b_4 d_Map_tellRow_60 (fun H locs hP hD hS => ?_)
            have hP : va_P (dC, dI) vwCl ((x_Map ad cs (upd values_3 ((x1 * (16 : Int32)) + y3_4).toNatClampNeg (samples y3_4.toNatClampNeg)) (upd states_3 ((x1 * (16 : Int32)) + y3_4).toNatClampNeg (2 : Int32))) ++ [(e1, .inl (ce1, 16, .inl samples))]) H := hP
            have hD : va_D A ((x_Map ad cs (upd values_3 ((x1 * (16 : Int32)) + y3_4).toNatClampNeg (samples y3_4.toNatClampNeg)) (upd states_3 ((x1 * (16 : Int32)) + y3_4).toNatClampNeg (2 : Int32))) ++ [(e1, .inl (ce1, 16, .inl samples))]) := hD
            refine lv_iinc (v := y3_4 + 1) (lv' := [(4, .int (y3_4 + 1)), (5, .int ((x1 * (16 : Int32)) + y3_4)), (0, .ref (ad 0)), (1, .int x1), (2, .ref e1), (3, .int x3)]) hx hb d_Map_tellRow_61 hl (k := 5) rfl rfl (by decide) rfl (fun ls hl => ?_)
            refine lv_goto (tgt := 3) hx hb d_Map_tellRow_64 (by decide) ?_
            exact ih (y3_4 + 1) (upd values_3 ((x1 * (16 : Int32)) + y3_4).toNatClampNeg (samples y3_4.toNatClampNeg)) (upd states_3 ((x1 * (16 : Int32)) + y3_4).toNatClampNeg (2 : Int32)) H locs ls (lv_sub hl [2, 3, 4, 5, 0] rfl) hP hD hS h
        · have h := (if_neg c_2).symm.trans h
          refine lv_aload_n hx hb d_Map_tellRow_23 rfl (lv_at hl 1 rfl) ?_
          refine va_get (D := (dC, dI)) (ci := 3) (v := .ref (ad 2)) (C := R_Map) (T := T_Map) (N := 2) hx hb hB in_Map hown hK hP 0 rfl rfl 1 (by decide) (hB _ wd_1) (fun _ h9 => h9) rfl d_Map_tellRow_24 ?_
          refine lv_iload hx hb d_Map_tellRow_27 (lv_at hl 0 rfl) ?_
          obtain ⟨b_6, h⟩ := gI_some h
          refine va_iald hx hb hK hP 2 1 rfl rfl b_6 d_Map_tellRow_29 ?_
          refine lv_iconst (v := 1) hx hb d_Map_tellRow_30 (by decide) ?_
          refine lv_icmp_eq (tgt := 61) hx hb d_Map_tellRow_31 (by decide) (fun c_7 => ?_) (fun c_7 => ?_)
          · have h := (if_pos c_7).symm.trans h
            refine lv_iinc (v := y3_4 + 1) (lv' := [(4, .int (y3_4 + 1)), (5, .int ((x1 * (16 : Int32)) + y3_4)), (0, .ref (ad 0)), (1, .int x1), (2, .ref e1), (3, .int x3)]) hx hb d_Map_tellRow_61 hl (k := 5) rfl rfl (by decide) rfl (fun ls hl => ?_)
            refine lv_goto (tgt := 3) hx hb d_Map_tellRow_64 (by decide) ?_
            exact ih (y3_4 + 1) values_3 states_3 H locs ls (lv_sub hl [2, 3, 4, 5, 0] rfl) hP hD hS h
          · have h := (if_neg c_7).symm.trans h
            refine lv_aload_n hx hb d_Map_tellRow_34 rfl (lv_at hl 1 rfl) ?_
            refine va_get (D := (dC, dI)) (ci := 3) (v := .ref (ad 1)) (C := R_Map) (T := T_Map) (N := 2) hx hb hB in_Map hown hK hP 0 rfl rfl 0 (by decide) (hB _ wd_0) (fun _ h9 => h9) rfl d_Map_tellRow_35 ?_
            refine lv_iload hx hb d_Map_tellRow_38 (lv_at hl 0 rfl) ?_
            refine lv_aload_n hx hb d_Map_tellRow_40 rfl (lv_at hl 3 rfl) ?_
            refine lv_iload hx hb d_Map_tellRow_41 (lv_at hl 5 rfl) ?_
            obtain ⟨b_8, h⟩ := gI_some h
            refine va_iald hx hb hK hP 3 2 rfl rfl b_8 d_Map_tellRow_43 ?_
            refine va_iast hx hb hK hP hD hS 1 0 rfl rfl b_6 d_Map_tellRow_44 (fun H locs hP hD hS => ?_)
            have hP : va_P (dC, dI) vwCl ((x_Map ad cs (upd values_3 ((x1 * (16 : Int32)) + y3_4).toNatClampNeg (samples y3_4.toNatClampNeg)) states_3) ++ [(e1, .inl (ce1, 16, .inl samples))]) H := hP
            have hD : va_D A ((x_Map ad cs (upd values_3 ((x1 * (16 : Int32)) + y3_4).toNatClampNeg (samples y3_4.toNatClampNeg)) states_3) ++ [(e1, .inl (ce1, 16, .inl samples))]) := hD
            refine lv_aload_n hx hb d_Map_tellRow_45 rfl (lv_at hl 1 rfl) ?_
            refine va_get (D := (dC, dI)) (ci := 3) (v := .ref (ad 2)) (C := R_Map) (T := T_Map) (N := 2) hx hb hB in_Map hown hK hP 0 rfl rfl 1 (by decide) (hB _ wd_1) (fun _ h9 => h9) rfl d_Map_tellRow_46 ?_
            refine lv_iload hx hb d_Map_tellRow_49 (lv_at hl 0 rfl) ?_
            refine lv_iload_n hx hb d_Map_tellRow_51 rfl (lv_at hl 4 rfl) ?_
            refine lv_if_eq (tgt := 59) hx hb d_Map_tellRow_52 (by decide) (fun c_9 => ?_) (fun c_9 => ?_)
            · have h := (if_pos c_9).symm.trans h
              refine lv_iconst (v := 1) hx hb d_Map_tellRow_59 (by decide) ?_
              refine va_iast hx hb hK hP hD hS 2 1 rfl rfl b_6 d_Map_tellRow_60 (fun H locs hP hD hS => ?_)
              have hP : va_P (dC, dI) vwCl ((x_Map ad cs (upd values_3 ((x1 * (16 : Int32)) + y3_4).toNatClampNeg (samples y3_4.toNatClampNeg)) (upd states_3 ((x1 * (16 : Int32)) + y3_4).toNatClampNeg (1 : Int32))) ++ [(e1, .inl (ce1, 16, .inl samples))]) H := hP
              have hD : va_D A ((x_Map ad cs (upd values_3 ((x1 * (16 : Int32)) + y3_4).toNatClampNeg (samples y3_4.toNatClampNeg)) (upd states_3 ((x1 * (16 : Int32)) + y3_4).toNatClampNeg (1 : Int32))) ++ [(e1, .inl (ce1, 16, .inl samples))]) := hD
              refine lv_iinc (v := y3_4 + 1) (lv' := [(4, .int (y3_4 + 1)), (5, .int ((x1 * (16 : Int32)) + y3_4)), (0, .ref (ad 0)), (1, .int x1), (2, .ref e1), (3, .int x3)]) hx hb d_Map_tellRow_61 hl (k := 5) rfl rfl (by decide) rfl (fun ls hl => ?_)
              refine lv_goto (tgt := 3) hx hb d_Map_tellRow_64 (by decide) ?_
              exact ih (y3_4 + 1) (upd values_3 ((x1 * (16 : Int32)) + y3_4).toNatClampNeg (samples y3_4.toNatClampNeg)) (upd states_3 ((x1 * (16 : Int32)) + y3_4).toNatClampNeg (1 : Int32)) H locs ls (lv_sub hl [2, 3, 4, 5, 0] rfl) hP hD hS h
            · have h := (if_neg c_9).symm.trans h
              refine lv_iconst (v := 2) hx hb d_Map_tellRow_55 (by decide) ?_
              refine lv_goto (tgt := 60) hx hb d_Map_tellRow_56 (by decide) ?_
              refine va_iast hx hb hK hP hD hS 2 1 rfl rfl b_6 d_Map_tellRow_60 (fun H locs hP hD hS => ?_)
              have hP : va_P (dC, dI) vwCl ((x_Map ad cs (upd values_3 ((x1 * (16 : Int32)) + y3_4).toNatClampNeg (samples y3_4.toNatClampNeg)) (upd states_3 ((x1 * (16 : Int32)) + y3_4).toNatClampNeg (2 : Int32))) ++ [(e1, .inl (ce1, 16, .inl samples))]) H := hP
              have hD : va_D A ((x_Map ad cs (upd values_3 ((x1 * (16 : Int32)) + y3_4).toNatClampNeg (samples y3_4.toNatClampNeg)) (upd states_3 ((x1 * (16 : Int32)) + y3_4).toNatClampNeg (2 : Int32))) ++ [(e1, .inl (ce1, 16, .inl samples))]) := hD
              refine lv_iinc (v := y3_4 + 1) (lv' := [(4, .int (y3_4 + 1)), (5, .int ((x1 * (16 : Int32)) + y3_4)), (0, .ref (ad 0)), (1, .int x1), (2, .ref e1), (3, .int x3)]) hx hb d_Map_tellRow_61 hl (k := 5) rfl rfl (by decide) rfl (fun ls hl => ?_)
              refine lv_goto (tgt := 3) hx hb d_Map_tellRow_64 (by decide) ?_
              exact ih (y3_4 + 1) (upd values_3 ((x1 * (16 : Int32)) + y3_4).toNatClampNeg (samples y3_4.toNatClampNeg)) (upd states_3 ((x1 * (16 : Int32)) + y3_4).toNatClampNeg (2 : Int32)) H locs ls (lv_sub hl [2, 3, 4, 5, 0] rfl) hP hD hS h
  exact L3 N (0 : Int32) values states _ _ ls (lv_sub hl [1, 2, 3, 4, 0] rfl) hP hD hS hs3
def d_Map_countSure_L4 (N : Nat) (states : Nat → Int32) : Nat → Int32 → Int32 → Option (Int32)
  | 0, _, _ => none
  | n + 1, y4_1, y4_2 => if (256 : Int32) ≤ y4_2 then some y4_1 else gI y4_2 256 (if (states y4_2.toNatClampNeg) = (1 : Int32) then d_Map_countSure_L4 N states n (y4_1 + 1) (y4_2 + 1) else d_Map_countSure_L4 N states n y4_1 (y4_2 + 1))
def d_Map_countSure (N : Nat) (states : Nat → Int32) : Option (Int32) :=
 (d_Map_countSure_L4 N states N (0 : Int32) (0 : Int32)).bind (fun s4 => some s4)
abbrev rm_Map_countSure : Room := { frames := 0, cells := 0, slots := 0, locals := 0 }
set_option maxHeartbeats 4000000 in
set_option maxRecDepth 100000 in
theorem c_Map_countSure (l : Launch) (dC : Nat → ClassId) (dI : Nat → Nat → Nat) (tt : Nat → Nat) (ad : Nat → Nat) (cs : Nat → ClassId) (sz N : Nat) (values : Nat → Int32) (states : Nat → Int32) (out : Int32) (h : d_Map_countSure N states = some out) :
    Met l y_Map_countSure (w_Map_countSure) rm_Map_countSure (va_Pc [.ref (ad 0)] (PreW (dC, dI) [((cs 1), .int), ((cs 2), .int)] (x_Map ad cs values states) sz tt)) (va_Qi (fun (r : Int32) (_ : Unit) => r = out) (fun _ => AftW (dC, dI) [((cs 1), .int), ((cs 2), .int)] (va_A (x_Map ad cs values states) sz) (x_Map ad cs values states)) (va_A (x_Map ad cs values states) sz)) 0 0 (va_A (x_Map ad cs values states) sz) := by
  refine Met.ofW (cc := k_Map_countSure) (maxL := 3) (ret := (some .int)) (by decide) rfl ?_
  intro p e s m args below meth c s₁ B hml hv
  obtain ⟨rfl, hsz, hP, hK, hD0, hG⟩ := hv
  have hx := B.exec
  have hb := B.bytes
  have hr := B.returns
  have hts := atoms_spec (ws := (w_Map_countSure)) B.pre
  have hB : ∀ w ∈ BIG, w.before _ s = true := fun w h9 => hts w (List.mem_cons_of_mem _ h9)
  have hown : s.vm.findClass R_Map = some m.cls := findClass_of_methodNamed B.named
  have hlocks := B.notSynchronized
  subst hsz
  have hD := hD0.self (sz := s.heap.size)
  generalize hAe : va_A (x_Map ad cs values states) s.heap.size = A at hD hG ⊢
  have hA : ∀ q : Nat, s.heap.size ≤ q → A q := fun q h => by rw [← hAe]; exact Or.inr h
  have hS : va_S A s.heap s.heap [] := va_S.rf
  have hl := lv_entry ([.ref (ad 0)]) (n := 3) (Nat.le_of_ble_eq_true rfl)
  rw [lg_entry_eq]
  generalize (lg_sl ([.ref (ad 0)]) ++ List.replicate (3 - (lg_sl ([.ref (ad 0)])).length) Slot.unset).toArray = ls at hl ⊢
  have hl : lv_has ls 3 [(0, .ref (ad 0))] := hl
  unfold d_Map_countSure at h
  refine lv_iconst (v := 0) hx hb d_Map_countSure_0 (by decide) ?_
  refine lv_istore_n (lv' := [(1, .int (0 : Int32)), (0, .ref (ad 0))]) hx hb d_Map_countSure_1 rfl hl (by decide) rfl (fun ls hl => ?_)
  refine lv_iconst (v := 0) hx hb d_Map_countSure_2 (by decide) ?_
  refine lv_istore_n (lv' := [(2, .int (0 : Int32)), (1, .int (0 : Int32)), (0, .ref (ad 0))]) hx hb d_Map_countSure_3 rfl hl (by decide) rfl (fun ls hl => ?_)
  obtain ⟨s4, hs4, h⟩ := Option.bind_eq_some_iff.mp h
  have X4 : ∀ (H : Heap) (locs : List Loc) (ls : Array Slot), lv_has ls 3 [(1, .int s4)] → va_P (dC, dI) vwCl (x_Map ad cs values states) H → va_D A (x_Map ad cs values states) → va_S A s.heap H locs → W p l e (headSpec (w_Map_countSure) rm_Map_countSure).room s m ([.ref (ad 0)] : List Value).toArray below meth c H locs 0 0 (MQ below (va_Qi (fun (r : Int32) (_ : Unit) => r = out) (fun _ => AftW (dC, dI) [((cs 1), .int), ((cs 2), .int)] A (x_Map ad cs values states)) A) ([.ref (ad 0)] : List Value).toArray s 0 0 A) (F0 m 30 ls []) := by
    intro H locs ls hl hP hD hS
    refine lv_iload_n hx hb d_Map_countSure_30 rfl (lv_at hl 0 rfl) ?_
    have h := Option.some.inj h
    subst h
    exact W.iret hx hb hr (fun t ht hW => ⟨⟨_, (), rfl, rfl, AftW_mk hK hP hD ht hW⟩, hS.F ht⟩) hS.2.2 d_Map_countSure_31
  have L4 : ∀ (n : Nat) (y4_1 : Int32) (y4_2 : Int32) (H : Heap) (locs : List Loc) (ls : Array Slot), lv_has ls 3 [(0, .ref (ad 0)), (1, .int y4_1), (2, .int y4_2)] → va_P (dC, dI) vwCl (x_Map ad cs values states) H → va_D A (x_Map ad cs values states) → va_S A s.heap H locs → d_Map_countSure_L4 N states n y4_1 y4_2 = some s4 → W p l e (headSpec (w_Map_countSure) rm_Map_countSure).room s m ([.ref (ad 0)] : List Value).toArray below meth c H locs 0 0 (MQ below (va_Qi (fun (r : Int32) (_ : Unit) => r = out) (fun _ => AftW (dC, dI) [((cs 1), .int), ((cs 2), .int)] A (x_Map ad cs values states)) A) ([.ref (ad 0)] : List Value).toArray s 0 0 A) (F0 m 4 ls []) := by
    intro n
    induction n with
    | zero =>
      intro y4_1 y4_2 H locs ls hl hP hD hS h
      rw [d_Map_countSure_L4] at h
      cases h
    | succ n ih =>
      intro y4_1 y4_2 H locs ls hl hP hD hS h
      rw [d_Map_countSure_L4] at h
      refine lv_iload_n hx hb d_Map_countSure_4 rfl (lv_at hl 2 rfl) ?_
      refine lv_sipush (v := 256) hx hb d_Map_countSure_5 (by decide) ?_
      refine lv_icmp_ge (tgt := 30) hx hb d_Map_countSure_8 (by decide) (fun c_1 => ?_) (fun c_1 => ?_)
      · have h := (if_pos c_1).symm.trans h
        have h := Option.some.inj h
        subst h
        exact X4 H locs ls (lv_sub hl [1] rfl) hP hD hS
      · have h := (if_neg c_1).symm.trans h
        refine lv_aload_n hx hb d_Map_countSure_11 rfl (lv_at hl 0 rfl) ?_
        refine va_get (D := (dC, dI)) (ci := 3) (v := .ref (ad 2)) (C := R_Map) (T := T_Map) (N := 2) hx hb hB in_Map hown hK hP 0 rfl rfl 1 (by decide) (hB _ wd_1) (fun _ h9 => h9) rfl d_Map_countSure_12 ?_
        refine lv_iload_n hx hb d_Map_countSure_15 rfl (lv_at hl 2 rfl) ?_
        obtain ⟨b_2, h⟩ := gI_some h
        refine va_iald hx hb hK hP 2 1 rfl rfl b_2 d_Map_countSure_16 ?_
        refine lv_iconst (v := 1) hx hb d_Map_countSure_17 (by decide) ?_
        refine lv_icmp_ne (tgt := 24) hx hb d_Map_countSure_18 (by decide) (fun c_3 => ?_) (fun c_3 => ?_)
        · have h := (if_neg c_3).symm.trans h
          refine lv_iinc (v := y4_2 + 1) (lv' := [(2, .int (y4_2 + 1)), (0, .ref (ad 0)), (1, .int y4_1)]) hx hb d_Map_countSure_24 hl (k := 2) rfl rfl (by decide) rfl (fun ls hl => ?_)
          refine lv_goto (tgt := 4) hx hb d_Map_countSure_27 (by decide) ?_
          exact ih y4_1 (y4_2 + 1) H locs ls (lv_sub hl [1, 2, 0] rfl) hP hD hS h
        · have h := (if_pos c_3).symm.trans h
          refine lv_iinc (v := y4_1 + 1) (lv' := [(1, .int (y4_1 + 1)), (0, .ref (ad 0)), (2, .int y4_2)]) hx hb d_Map_countSure_21 hl (k := 1) rfl rfl (by decide) rfl (fun ls hl => ?_)
          refine lv_iinc (v := y4_2 + 1) (lv' := [(2, .int (y4_2 + 1)), (1, .int (y4_1 + 1)), (0, .ref (ad 0))]) hx hb d_Map_countSure_24 hl (k := 2) rfl rfl (by decide) rfl (fun ls hl => ?_)
          refine lv_goto (tgt := 4) hx hb d_Map_countSure_27 (by decide) ?_
          exact ih (y4_1 + 1) (y4_2 + 1) H locs ls (lv_sub hl [2, 1, 0] rfl) hP hD hS h
  exact L4 N (0 : Int32) (0 : Int32) _ _ ls (lv_sub hl [2, 1, 0] rfl) hP hD hS hs4
def d_Map_valueLeftOf (N : Nat) (x1 : Int32) (values : Nat → Int32) : Option (Int32) :=
 if (x1 - x1 / (16 : Int32) * (16 : Int32)) = 0 then some (-1 : Int32) else gI (x1 - (1 : Int32)) 256 (some (values (x1 - (1 : Int32)).toNatClampNeg))
abbrev rm_Map_valueLeftOf : Room := { frames := 0, cells := 0, slots := 0, locals := 0 }
set_option maxHeartbeats 4000000 in
set_option maxRecDepth 100000 in
theorem c_Map_valueLeftOf (l : Launch) (dC : Nat → ClassId) (dI : Nat → Nat → Nat) (tt : Nat → Nat) (ad : Nat → Nat) (cs : Nat → ClassId) (sz N : Nat) (x1 : Int32) (values : Nat → Int32) (states : Nat → Int32) (out : Int32) (h : d_Map_valueLeftOf N x1 values = some out) :
    Met l y_Map_valueLeftOf (w_Map_valueLeftOf) rm_Map_valueLeftOf (va_Pc [.ref (ad 0), .int x1] (PreW (dC, dI) [((cs 1), .int), ((cs 2), .int)] (x_Map ad cs values states) sz tt)) (va_Qi (fun (r : Int32) (_ : Unit) => r = out) (fun _ => AftW (dC, dI) [((cs 1), .int), ((cs 2), .int)] (va_A (x_Map ad cs values states) sz) (x_Map ad cs values states)) (va_A (x_Map ad cs values states) sz)) 0 0 (va_A (x_Map ad cs values states) sz) := by
  refine Met.ofW (cc := k_Map_valueLeftOf) (maxL := 2) (ret := (some .int)) (by decide) rfl ?_
  intro p e s m args below meth c s₁ B hml hv
  obtain ⟨rfl, hsz, hP, hK, hD0, hG⟩ := hv
  have hx := B.exec
  have hb := B.bytes
  have hr := B.returns
  have hts := atoms_spec (ws := (w_Map_valueLeftOf)) B.pre
  have hB : ∀ w ∈ BIG, w.before _ s = true := fun w h9 => hts w (List.mem_cons_of_mem _ h9)
  have hown : s.vm.findClass R_Map = some m.cls := findClass_of_methodNamed B.named
  have hlocks := B.notSynchronized
  subst hsz
  have hD := hD0.self (sz := s.heap.size)
  generalize hAe : va_A (x_Map ad cs values states) s.heap.size = A at hD hG ⊢
  have hA : ∀ q : Nat, s.heap.size ≤ q → A q := fun q h => by rw [← hAe]; exact Or.inr h
  have hS : va_S A s.heap s.heap [] := va_S.rf
  have hl := lv_entry ([.ref (ad 0), .int x1]) (n := 2) (Nat.le_of_ble_eq_true rfl)
  rw [lg_entry_eq]
  generalize (lg_sl ([.ref (ad 0), .int x1]) ++ List.replicate (2 - (lg_sl ([.ref (ad 0), .int x1])).length) Slot.unset).toArray = ls at hl ⊢
  have hl : lv_has ls 2 [(0, .ref (ad 0)), (1, .int x1)] := hl
  unfold d_Map_valueLeftOf at h
  refine lv_iload_n hx hb d_Map_valueLeftOf_0 rfl (lv_at hl 1 rfl) ?_
  refine lv_bipush (v := 16) hx hb d_Map_valueLeftOf_1 (by decide) ?_
  refine lv_irem hx hb d_Map_valueLeftOf_3 (by decide) ?_
  refine lv_if_ne (tgt := 11) hx hb d_Map_valueLeftOf_4 (by decide) (fun c_1 => ?_) (fun c_1 => ?_)
  · have h := (if_neg c_1).symm.trans h
    refine lv_aload_n hx hb d_Map_valueLeftOf_11 rfl (lv_at hl 0 rfl) ?_
    refine va_get (D := (dC, dI)) (ci := 3) (v := .ref (ad 1)) (C := R_Map) (T := T_Map) (N := 2) hx hb hB in_Map hown hK hP 0 rfl rfl 0 (by decide) (hB _ wd_0) (fun _ h9 => h9) rfl d_Map_valueLeftOf_12 ?_
    refine lv_iload_n hx hb d_Map_valueLeftOf_15 rfl (lv_at hl 1 rfl) ?_
    refine lv_iconst (v := 1) hx hb d_Map_valueLeftOf_16 (by decide) ?_
    refine lv_isub hx hb d_Map_valueLeftOf_17 ?_
    obtain ⟨b_2, h⟩ := gI_some h
    refine va_iald hx hb hK hP 1 0 rfl rfl b_2 d_Map_valueLeftOf_18 ?_
    have h := Option.some.inj h
    subst h
    exact W.iret hx hb hr (fun t ht hW => ⟨⟨_, (), rfl, rfl, AftW_mk hK hP hD ht hW⟩, hS.F ht⟩) hS.2.2 d_Map_valueLeftOf_19
  · have h := (if_pos c_1).symm.trans h
    refine lv_iconst (v := (-1)) hx hb d_Map_valueLeftOf_7 (by decide) ?_
    refine lv_goto (tgt := 19) hx hb d_Map_valueLeftOf_8 (by decide) ?_
    have h := Option.some.inj h
    subst h
    exact W.iret hx hb hr (fun t ht hW => ⟨⟨_, (), rfl, rfl, AftW_mk hK hP hD ht hW⟩, hS.F ht⟩) hS.2.2 d_Map_valueLeftOf_19
def d_Map_valueAbove (N : Nat) (x1 : Int32) (values : Nat → Int32) : Option (Int32) :=
 if (16 : Int32) ≤ x1 then gI (x1 - (16 : Int32)) 256 (some (values (x1 - (16 : Int32)).toNatClampNeg)) else some (-1 : Int32)
abbrev rm_Map_valueAbove : Room := { frames := 0, cells := 0, slots := 0, locals := 0 }
set_option maxHeartbeats 4000000 in
set_option maxRecDepth 100000 in
theorem c_Map_valueAbove (l : Launch) (dC : Nat → ClassId) (dI : Nat → Nat → Nat) (tt : Nat → Nat) (ad : Nat → Nat) (cs : Nat → ClassId) (sz N : Nat) (x1 : Int32) (values : Nat → Int32) (states : Nat → Int32) (out : Int32) (h : d_Map_valueAbove N x1 values = some out) :
    Met l y_Map_valueAbove (w_Map_valueAbove) rm_Map_valueAbove (va_Pc [.ref (ad 0), .int x1] (PreW (dC, dI) [((cs 1), .int), ((cs 2), .int)] (x_Map ad cs values states) sz tt)) (va_Qi (fun (r : Int32) (_ : Unit) => r = out) (fun _ => AftW (dC, dI) [((cs 1), .int), ((cs 2), .int)] (va_A (x_Map ad cs values states) sz) (x_Map ad cs values states)) (va_A (x_Map ad cs values states) sz)) 0 0 (va_A (x_Map ad cs values states) sz) := by
  refine Met.ofW (cc := k_Map_valueAbove) (maxL := 2) (ret := (some .int)) (by decide) rfl ?_
  intro p e s m args below meth c s₁ B hml hv
  obtain ⟨rfl, hsz, hP, hK, hD0, hG⟩ := hv
  have hx := B.exec
  have hb := B.bytes
  have hr := B.returns
  have hts := atoms_spec (ws := (w_Map_valueAbove)) B.pre
  have hB : ∀ w ∈ BIG, w.before _ s = true := fun w h9 => hts w (List.mem_cons_of_mem _ h9)
  have hown : s.vm.findClass R_Map = some m.cls := findClass_of_methodNamed B.named
  have hlocks := B.notSynchronized
  subst hsz
  have hD := hD0.self (sz := s.heap.size)
  generalize hAe : va_A (x_Map ad cs values states) s.heap.size = A at hD hG ⊢
  have hA : ∀ q : Nat, s.heap.size ≤ q → A q := fun q h => by rw [← hAe]; exact Or.inr h
  have hS : va_S A s.heap s.heap [] := va_S.rf
  have hl := lv_entry ([.ref (ad 0), .int x1]) (n := 2) (Nat.le_of_ble_eq_true rfl)
  rw [lg_entry_eq]
  generalize (lg_sl ([.ref (ad 0), .int x1]) ++ List.replicate (2 - (lg_sl ([.ref (ad 0), .int x1])).length) Slot.unset).toArray = ls at hl ⊢
  have hl : lv_has ls 2 [(0, .ref (ad 0)), (1, .int x1)] := hl
  unfold d_Map_valueAbove at h
  refine lv_iload_n hx hb d_Map_valueAbove_0 rfl (lv_at hl 1 rfl) ?_
  refine lv_bipush (v := 16) hx hb d_Map_valueAbove_1 (by decide) ?_
  refine lv_icmp_ge (tgt := 10) hx hb d_Map_valueAbove_3 (by decide) (fun c_1 => ?_) (fun c_1 => ?_)
  · have h := (if_pos c_1).symm.trans h
    refine lv_aload_n hx hb d_Map_valueAbove_10 rfl (lv_at hl 0 rfl) ?_
    refine va_get (D := (dC, dI)) (ci := 3) (v := .ref (ad 1)) (C := R_Map) (T := T_Map) (N := 2) hx hb hB in_Map hown hK hP 0 rfl rfl 0 (by decide) (hB _ wd_0) (fun _ h9 => h9) rfl d_Map_valueAbove_11 ?_
    refine lv_iload_n hx hb d_Map_valueAbove_14 rfl (lv_at hl 1 rfl) ?_
    refine lv_bipush (v := 16) hx hb d_Map_valueAbove_15 (by decide) ?_
    refine lv_isub hx hb d_Map_valueAbove_17 ?_
    obtain ⟨b_2, h⟩ := gI_some h
    refine va_iald hx hb hK hP 1 0 rfl rfl b_2 d_Map_valueAbove_18 ?_
    have h := Option.some.inj h
    subst h
    exact W.iret hx hb hr (fun t ht hW => ⟨⟨_, (), rfl, rfl, AftW_mk hK hP hD ht hW⟩, hS.F ht⟩) hS.2.2 d_Map_valueAbove_19
  · have h := (if_neg c_1).symm.trans h
    refine lv_iconst (v := (-1)) hx hb d_Map_valueAbove_6 (by decide) ?_
    refine lv_goto (tgt := 19) hx hb d_Map_valueAbove_7 (by decide) ?_
    have h := Option.some.inj h
    subst h
    exact W.iret hx hb hr (fun t ht hW => ⟨⟨_, (), rfl, rfl, AftW_mk hK hP hD ht hW⟩, hS.F ht⟩) hS.2.2 d_Map_valueAbove_19
def d_Map_meanOf (N : Nat) (x0 : Int32) (x1 : Int32) : Option (Int32) :=
 if x0 = (-1 : Int32) then if x1 = (-1 : Int32) then some (128 : Int32) else if x0 = (-1 : Int32) then some x1 else if x1 = (-1 : Int32) then some x0 else some ((x0 + x1) / (2 : Int32)) else if x0 = (-1 : Int32) then some x1 else if x1 = (-1 : Int32) then some x0 else some ((x0 + x1) / (2 : Int32))
abbrev rm_Map_meanOf : Room := { frames := 0, cells := 0, slots := 0, locals := 0 }
set_option maxHeartbeats 4000000 in
set_option maxRecDepth 100000 in
theorem c_Map_meanOf (l : Launch) (dC : Nat → ClassId) (dI : Nat → Nat → Nat) (tt : Nat → Nat) (sz N : Nat) (x0 : Int32) (x1 : Int32) (out : Int32) (h : d_Map_meanOf N x0 x1 = some out) :
    Met l y_Map_meanOf (w_Map_meanOf) rm_Map_meanOf (va_Pc [.int x0, .int x1] (PreW (dC, dI) [] (([] : va_W)) sz tt)) (va_Qi (fun (r : Int32) (_ : Unit) => r = out) (fun _ => AftW (dC, dI) [] (va_A (([] : va_W)) sz) (([] : va_W))) (va_A (([] : va_W)) sz)) 0 0 (va_A (([] : va_W)) sz) := by
  refine Met.ofW (cc := k_Map_meanOf) (maxL := 2) (ret := (some .int)) (by decide) rfl ?_
  intro p e s m args below meth c s₁ B hml hv
  obtain ⟨rfl, hsz, hP, hK, hD0, hG⟩ := hv
  have hx := B.exec
  have hb := B.bytes
  have hr := B.returns
  have hts := atoms_spec (ws := (w_Map_meanOf)) B.pre
  have hB : ∀ w ∈ BIG, w.before _ s = true := fun w h9 => hts w (List.mem_cons_of_mem _ h9)
  have hown : s.vm.findClass R_Map = some m.cls := findClass_of_methodNamed B.named
  have hlocks := B.notSynchronized
  subst hsz
  have hD := hD0.self (sz := s.heap.size)
  generalize hAe : va_A (([] : va_W)) s.heap.size = A at hD hG ⊢
  have hA : ∀ q : Nat, s.heap.size ≤ q → A q := fun q h => by rw [← hAe]; exact Or.inr h
  have hS : va_S A s.heap s.heap [] := va_S.rf
  have hl := lv_entry ([.int x0, .int x1]) (n := 2) (Nat.le_of_ble_eq_true rfl)
  rw [lg_entry_eq]
  generalize (lg_sl ([.int x0, .int x1]) ++ List.replicate (2 - (lg_sl ([.int x0, .int x1])).length) Slot.unset).toArray = ls at hl ⊢
  have hl : lv_has ls 2 [(0, .int x0), (1, .int x1)] := hl
  unfold d_Map_meanOf at h
  refine lv_iload_n hx hb d_Map_meanOf_0 rfl (lv_at hl 0 rfl) ?_
  refine lv_iconst (v := (-1)) hx hb d_Map_meanOf_1 (by decide) ?_
  refine lv_icmp_ne (tgt := 14) hx hb d_Map_meanOf_2 (by decide) (fun c_1 => ?_) (fun c_1 => ?_)
  · have h := (if_neg c_1).symm.trans h
    refine lv_iload_n hx hb d_Map_meanOf_14 rfl (lv_at hl 0 rfl) ?_
    refine lv_iconst (v := (-1)) hx hb d_Map_meanOf_15 (by decide) ?_
    refine lv_icmp_ne (tgt := 21) hx hb d_Map_meanOf_16 (by decide) (fun c_2 => ?_) (fun c_2 => ?_)
    · have h := (if_neg c_2).symm.trans h
      refine lv_iload_n hx hb d_Map_meanOf_21 rfl (lv_at hl 1 rfl) ?_
      refine lv_iconst (v := (-1)) hx hb d_Map_meanOf_22 (by decide) ?_
      refine lv_icmp_ne (tgt := 30) hx hb d_Map_meanOf_23 (by decide) (fun c_3 => ?_) (fun c_3 => ?_)
      · have h := (if_neg c_3).symm.trans h
        refine lv_iload_n hx hb d_Map_meanOf_30 rfl (lv_at hl 0 rfl) ?_
        refine lv_iload_n hx hb d_Map_meanOf_31 rfl (lv_at hl 1 rfl) ?_
        refine lv_iadd hx hb d_Map_meanOf_32 ?_
        refine lv_iconst (v := 2) hx hb d_Map_meanOf_33 (by decide) ?_
        refine lv_idiv hx hb d_Map_meanOf_34 (by decide) ?_
        have h := Option.some.inj h
        subst h
        exact W.iret hx hb hr (fun t ht hW => ⟨⟨_, (), rfl, rfl, AftW_mk hK hP hD ht hW⟩, hS.F ht⟩) hS.2.2 d_Map_meanOf_35
      · have h := (if_pos c_3).symm.trans h
        refine lv_iload_n hx hb d_Map_meanOf_26 rfl (lv_at hl 0 rfl) ?_
        refine lv_goto (tgt := 35) hx hb d_Map_meanOf_27 (by decide) ?_
        have h := Option.some.inj h
        subst h
        exact W.iret hx hb hr (fun t ht hW => ⟨⟨_, (), rfl, rfl, AftW_mk hK hP hD ht hW⟩, hS.F ht⟩) hS.2.2 d_Map_meanOf_35
    · have h := (if_pos c_2).symm.trans h
      refine lv_iload_n hx hb d_Map_meanOf_19 rfl (lv_at hl 1 rfl) ?_
      have h := Option.some.inj h
      subst h
      exact W.iret hx hb hr (fun t ht hW => ⟨⟨_, (), rfl, rfl, AftW_mk hK hP hD ht hW⟩, hS.F ht⟩) hS.2.2 d_Map_meanOf_20
  · have h := (if_pos c_1).symm.trans h
    refine lv_iload_n hx hb d_Map_meanOf_5 rfl (lv_at hl 1 rfl) ?_
    refine lv_iconst (v := (-1)) hx hb d_Map_meanOf_6 (by decide) ?_
    refine lv_icmp_ne (tgt := 14) hx hb d_Map_meanOf_7 (by decide) (fun c_4 => ?_) (fun c_4 => ?_)
    · have h := (if_neg c_4).symm.trans h
      refine lv_iload_n hx hb d_Map_meanOf_14 rfl (lv_at hl 0 rfl) ?_
      refine lv_iconst (v := (-1)) hx hb d_Map_meanOf_15 (by decide) ?_
      refine lv_icmp_ne (tgt := 21) hx hb d_Map_meanOf_16 (by decide) (fun c_5 => ?_) (fun c_5 => ?_)
      · have h := (if_neg c_5).symm.trans h
        refine lv_iload_n hx hb d_Map_meanOf_21 rfl (lv_at hl 1 rfl) ?_
        refine lv_iconst (v := (-1)) hx hb d_Map_meanOf_22 (by decide) ?_
        refine lv_icmp_ne (tgt := 30) hx hb d_Map_meanOf_23 (by decide) (fun c_6 => ?_) (fun c_6 => ?_)
        · have h := (if_neg c_6).symm.trans h
          refine lv_iload_n hx hb d_Map_meanOf_30 rfl (lv_at hl 0 rfl) ?_
          refine lv_iload_n hx hb d_Map_meanOf_31 rfl (lv_at hl 1 rfl) ?_
          refine lv_iadd hx hb d_Map_meanOf_32 ?_
          refine lv_iconst (v := 2) hx hb d_Map_meanOf_33 (by decide) ?_
          refine lv_idiv hx hb d_Map_meanOf_34 (by decide) ?_
          have h := Option.some.inj h
          subst h
          exact W.iret hx hb hr (fun t ht hW => ⟨⟨_, (), rfl, rfl, AftW_mk hK hP hD ht hW⟩, hS.F ht⟩) hS.2.2 d_Map_meanOf_35
        · have h := (if_pos c_6).symm.trans h
          refine lv_iload_n hx hb d_Map_meanOf_26 rfl (lv_at hl 0 rfl) ?_
          refine lv_goto (tgt := 35) hx hb d_Map_meanOf_27 (by decide) ?_
          have h := Option.some.inj h
          subst h
          exact W.iret hx hb hr (fun t ht hW => ⟨⟨_, (), rfl, rfl, AftW_mk hK hP hD ht hW⟩, hS.F ht⟩) hS.2.2 d_Map_meanOf_35
      · have h := (if_pos c_5).symm.trans h
        refine lv_iload_n hx hb d_Map_meanOf_19 rfl (lv_at hl 1 rfl) ?_
        have h := Option.some.inj h
        subst h
        exact W.iret hx hb hr (fun t ht hW => ⟨⟨_, (), rfl, rfl, AftW_mk hK hP hD ht hW⟩, hS.F ht⟩) hS.2.2 d_Map_meanOf_20
    · have h := (if_pos c_4).symm.trans h
      refine lv_sipush (v := 128) hx hb d_Map_meanOf_10 (by decide) ?_
      have h := Option.some.inj h
      subst h
      exact W.iret hx hb hr (fun t ht hW => ⟨⟨_, (), rfl, rfl, AftW_mk hK hP hD ht hW⟩, hS.F ht⟩) hS.2.2 d_Map_meanOf_13
def d_Map_valueByRule (N : Nat) (x1 : Int32) (x2 : Int32) (values : Nat → Int32) : Option (Int32) :=
 if x2 = 0 then (d_Map_valueLeftOf N x1 values).bind (fun o2 => (d_Map_valueAbove N x1 values).bind (fun o3 => (d_Map_meanOf N o2 o3).bind (fun o4 => some o4))) else if x2 = 1 then some (255 : Int32) else if (16 : Int32) ≤ x1 then (d_Map_valueAbove N x1 values).bind (fun o7 => some o7) else some (255 : Int32)
abbrev rm_Map_valueByRule : Room := { frames := 1, cells := 0, slots := 0, locals := 21 }
set_option maxHeartbeats 4000000 in
set_option maxRecDepth 100000 in
theorem c_Map_valueByRule (l : Launch) (dC : Nat → ClassId) (dI : Nat → Nat → Nat) (tt : Nat → Nat) (ad : Nat → Nat) (cs : Nat → ClassId) (sz N : Nat) (x1 : Int32) (x2 : Int32) (values : Nat → Int32) (states : Nat → Int32) (out : Int32) (h : d_Map_valueByRule N x1 x2 values = some out) :
    Met l y_Map_valueByRule (w_Map_valueByRule) rm_Map_valueByRule (va_Pc [.ref (ad 0), .int x1, .int x2] (PreW (dC, dI) [((cs 1), .int), ((cs 2), .int)] (x_Map ad cs values states) sz tt)) (va_Qi (fun (r : Int32) (_ : Unit) => r = out) (fun _ => AftW (dC, dI) [((cs 1), .int), ((cs 2), .int)] (va_A (x_Map ad cs values states) sz) (x_Map ad cs values states)) (va_A (x_Map ad cs values states) sz)) 0 0 (va_A (x_Map ad cs values states) sz) := by
  refine Met.ofW (cc := k_Map_valueByRule) (maxL := 3) (ret := (some .int)) (by decide) rfl ?_
  intro p e s m args below meth c s₁ B hml hv
  obtain ⟨rfl, hsz, hP, hK, hD0, hG⟩ := hv
  have hx := B.exec
  have hb := B.bytes
  have hr := B.returns
  have hts := atoms_spec (ws := (w_Map_valueByRule)) B.pre
  have hB : ∀ w ∈ BIG, w.before _ s = true := fun w h9 => hts w (List.mem_cons_of_mem _ h9)
  have hown : s.vm.findClass R_Map = some m.cls := findClass_of_methodNamed B.named
  have hlocks := B.notSynchronized
  subst hsz
  have hD := hD0.self (sz := s.heap.size)
  generalize hAe : va_A (x_Map ad cs values states) s.heap.size = A at hD hG ⊢
  have hA : ∀ q : Nat, s.heap.size ≤ q → A q := fun q h => by rw [← hAe]; exact Or.inr h
  have hS : va_S A s.heap s.heap [] := va_S.rf
  have hl := lv_entry ([.ref (ad 0), .int x1, .int x2]) (n := 3) (Nat.le_of_ble_eq_true rfl)
  rw [lg_entry_eq]
  generalize (lg_sl ([.ref (ad 0), .int x1, .int x2]) ++ List.replicate (3 - (lg_sl ([.ref (ad 0), .int x1, .int x2])).length) Slot.unset).toArray = ls at hl ⊢
  have hl : lv_has ls 3 [(0, .ref (ad 0)), (1, .int x1), (2, .int x2)] := hl
  unfold d_Map_valueByRule at h
  refine lv_iload_n hx hb d_Map_valueByRule_0 rfl (lv_at hl 2 rfl) ?_
  by_cases c_1 : x2 = 0
  · have h := (if_pos c_1).symm.trans h
    refine lv_lookup (off := 27) (tgt := 28) hx hb d_Map_valueByRule_1 (by decide) (by first | (rw [c_1]; done) | (rw [c_1]; rfl)) (by decide) ?_
    refine lv_aload_n hx hb d_Map_valueByRule_28 rfl (lv_at hl 0 rfl) ?_
    refine lv_iload_n hx hb d_Map_valueByRule_29 rfl (lv_at hl 1 rfl) ?_
    obtain ⟨o2, ho2, h⟩ := Option.bind_eq_some_iff.mp h
    have hKc := hK.sub (tys' := [((cs 1), .int), ((cs 2), .int)]) [0, 1] rfl
    have hPc := hP.sub (ws' := x_Map ad cs values states) [0, 1, 2] rfl
    have hDc := hD.sub (ws' := x_Map ad cs values states) [0, 1, 2] (by decide) rfl
    have hFc := va_free (wc := x_Map ad cs values states) hD hS hA [0, 1, 2] rfl
    refine va_calli (va_runV (As := [.int x1]) (rest := []) ⟨hx, hb, hml, hown, hB⟩ (c_Map_valueLeftOf l dC dI tt ad cs s.heap.size N x1 values states o2 ho2) (cwV 1 hB (gV wd_6 wd_3 wd_2 wd_4 wd_5) rfl rfl rfl (by decide +kernel) ⟨Nat.le_of_ble_eq_true rfl, Nat.le_of_ble_eq_true rfl⟩) ⟨PreW_blind, va_recv hKc hPc (ci := 3) (q0 := 0) rfl rfl, PreW_mk hKc hPc hDc hG hS hFc⟩ rfl rfl hl.1 rfl (lv_room (Nat.le_of_ble_eq_true rfl)) d_Map_valueByRule_30 ⟨Nat.le_of_ble_eq_true rfl, Nat.le_of_ble_eq_true rfl⟩) hS (fun q _ h => hFc q h) hFc (fun r_2 u_2 t H1 locs ht hvm hw hB hz1 hk1 hS => ?_)
    have hw := hw.symm
    subst hw
    obtain ⟨hP1, hK1, hD1⟩ := hB
    rw [ht] at hP1
    obtain ⟨hP, hD⟩ := va_join (wr := pick (x_Map ad cs values states) []) hP hD [0, 1, 2] [] rfl rfl (by decide) (by decide) hk1 hFc hP1 hD1
    generalize H1 = H at hP hS ⊢
    have hP : va_P (dC, dI) vwCl (x_Map ad cs values states) H := hP.sub [0, 1, 2] rfl
    have hD : va_D A (x_Map ad cs values states) := hD.sub [0, 1, 2] (by decide) rfl
    refine lv_aload_n hx hb d_Map_valueByRule_33 rfl (lv_at hl 0 rfl) ?_
    refine lv_iload_n hx hb d_Map_valueByRule_34 rfl (lv_at hl 1 rfl) ?_
    obtain ⟨o3, ho3, h⟩ := Option.bind_eq_some_iff.mp h
    have hKc := hK.sub (tys' := [((cs 1), .int), ((cs 2), .int)]) [0, 1] rfl
    have hPc := hP.sub (ws' := x_Map ad cs values states) [0, 1, 2] rfl
    have hDc := hD.sub (ws' := x_Map ad cs values states) [0, 1, 2] (by decide) rfl
    have hFc := va_free (wc := x_Map ad cs values states) hD hS hA [0, 1, 2] rfl
    refine va_calli (va_runV (As := [.int x1]) (rest := [.int o2]) ⟨hx, hb, hml, hown, hB⟩ (c_Map_valueAbove l dC dI tt ad cs H.size N x1 values states o3 ho3) (cwV 1 hB (gV wd_10 wd_8 wd_7 wd_4 wd_9) rfl rfl rfl (by decide +kernel) ⟨Nat.le_of_ble_eq_true rfl, Nat.le_of_ble_eq_true rfl⟩) ⟨PreW_blind, va_recv hKc hPc (ci := 3) (q0 := 0) rfl rfl, PreW_mk hKc hPc hDc hG hS hFc⟩ rfl rfl hl.1 rfl (lv_room (Nat.le_of_ble_eq_true rfl)) d_Map_valueByRule_35 ⟨Nat.le_of_ble_eq_true rfl, Nat.le_of_ble_eq_true rfl⟩) hS (fun q _ h => hFc q h) hFc (fun r_3 u_3 t H1 locs ht hvm hw hB hz1 hk1 hS => ?_)
    have hw := hw.symm
    subst hw
    obtain ⟨hP1, hK1, hD1⟩ := hB
    rw [ht] at hP1
    obtain ⟨hP, hD⟩ := va_join (wr := pick (x_Map ad cs values states) []) hP hD [0, 1, 2] [] rfl rfl (by decide) (by decide) hk1 hFc hP1 hD1
    generalize H1 = H at hP hS ⊢
    have hP : va_P (dC, dI) vwCl (x_Map ad cs values states) H := hP.sub [0, 1, 2] rfl
    have hD : va_D A (x_Map ad cs values states) := hD.sub [0, 1, 2] (by decide) rfl
    obtain ⟨o4, ho4, h⟩ := Option.bind_eq_some_iff.mp h
    have hKc := hK.sub (tys' := []) [] rfl
    have hPc := hP.sub (ws' := ([] : va_W)) [] rfl
    have hDc := hD.sub (ws' := ([] : va_W)) [] (by decide) rfl
    have hFc := va_free (wc := ([] : va_W)) hD hS hA [] rfl
    refine va_calli (va_runS (As := [.int o2, .int o3]) (rest := []) ⟨hx, hb, hml, hown, hB⟩ (c_Map_meanOf l dC dI tt H.size N o2 o3 o4 ho4) (va_cwS 2 hB (gS wd_13 wd_11 wd_4 wd_12) rfl rfl rfl (by decide +kernel) ⟨Nat.le_of_ble_eq_true rfl, Nat.le_of_ble_eq_true rfl⟩) ⟨PreW_blind, PreW_mk hKc hPc hDc hG hS hFc⟩ rfl rfl hl.1 rfl (lv_room (Nat.le_of_ble_eq_true rfl)) d_Map_valueByRule_38 ⟨Nat.le_of_ble_eq_true rfl, Nat.le_of_ble_eq_true rfl⟩) hS (fun q _ h => hFc q h) hFc (fun r_4 u_4 t H1 locs ht hvm hw hB hz1 hk1 hS => ?_)
    have hw := hw.symm
    subst hw
    obtain ⟨hP1, hK1, hD1⟩ := hB
    rw [ht] at hP1
    obtain ⟨hP, hD⟩ := va_join (wr := pick (x_Map ad cs values states) [0, 1, 2]) hP hD [] [0, 1, 2] rfl rfl (by decide) (by decide) hk1 hFc hP1 hD1
    generalize H1 = H at hP hS ⊢
    have hP : va_P (dC, dI) vwCl (x_Map ad cs values states) H := hP.sub [0, 1, 2] rfl
    have hD : va_D A (x_Map ad cs values states) := hD.sub [0, 1, 2] (by decide) rfl
    have h := Option.some.inj h
    subst h
    exact W.iret hx hb hr (fun t ht hW => ⟨⟨_, (), rfl, rfl, AftW_mk hK hP hD ht hW⟩, hS.F ht⟩) hS.2.2 d_Map_valueByRule_41
  have h := (if_neg c_1).symm.trans h
  by_cases c_5 : x2 = 1
  · have h := (if_pos c_5).symm.trans h
    refine lv_lookup (off := 41) (tgt := 42) hx hb d_Map_valueByRule_1 (by decide) (by first | (rw [c_5]; done) | (rw [c_5]; rfl)) (by decide) ?_
    refine lv_sipush (v := 255) hx hb d_Map_valueByRule_42 (by decide) ?_
    have h := Option.some.inj h
    subst h
    exact W.iret hx hb hr (fun t ht hW => ⟨⟨_, (), rfl, rfl, AftW_mk hK hP hD ht hW⟩, hS.F ht⟩) hS.2.2 d_Map_valueByRule_45
  have h := (if_neg c_5).symm.trans h
  refine lv_lookup (off := 45) (tgt := 46) hx hb d_Map_valueByRule_1 (by decide) (by first | (rw [lv_osw c_1 (by decide), lv_osw c_5 (by decide)]; done) | (rw [lv_osw c_1 (by decide), lv_osw c_5 (by decide)]; rfl)) (by decide) ?_
  refine lv_iload_n hx hb d_Map_valueByRule_46 rfl (lv_at hl 1 rfl) ?_
  refine lv_bipush (v := 16) hx hb d_Map_valueByRule_47 (by decide) ?_
  refine lv_icmp_ge (tgt := 58) hx hb d_Map_valueByRule_49 (by decide) (fun c_6 => ?_) (fun c_6 => ?_)
  · have h := (if_pos c_6).symm.trans h
    refine lv_aload_n hx hb d_Map_valueByRule_58 rfl (lv_at hl 0 rfl) ?_
    refine lv_iload_n hx hb d_Map_valueByRule_59 rfl (lv_at hl 1 rfl) ?_
    obtain ⟨o7, ho7, h⟩ := Option.bind_eq_some_iff.mp h
    have hKc := hK.sub (tys' := [((cs 1), .int), ((cs 2), .int)]) [0, 1] rfl
    have hPc := hP.sub (ws' := x_Map ad cs values states) [0, 1, 2] rfl
    have hDc := hD.sub (ws' := x_Map ad cs values states) [0, 1, 2] (by decide) rfl
    have hFc := va_free (wc := x_Map ad cs values states) hD hS hA [0, 1, 2] rfl
    refine va_calli (va_runV (As := [.int x1]) (rest := []) ⟨hx, hb, hml, hown, hB⟩ (c_Map_valueAbove l dC dI tt ad cs s.heap.size N x1 values states o7 ho7) (cwV 1 hB (gV wd_10 wd_8 wd_7 wd_4 wd_9) rfl rfl rfl (by decide +kernel) ⟨Nat.le_of_ble_eq_true rfl, Nat.le_of_ble_eq_true rfl⟩) ⟨PreW_blind, va_recv hKc hPc (ci := 3) (q0 := 0) rfl rfl, PreW_mk hKc hPc hDc hG hS hFc⟩ rfl rfl hl.1 rfl (lv_room (Nat.le_of_ble_eq_true rfl)) d_Map_valueByRule_60 ⟨Nat.le_of_ble_eq_true rfl, Nat.le_of_ble_eq_true rfl⟩) hS (fun q _ h => hFc q h) hFc (fun r_7 u_7 t H1 locs ht hvm hw hB hz1 hk1 hS => ?_)
    have hw := hw.symm
    subst hw
    obtain ⟨hP1, hK1, hD1⟩ := hB
    rw [ht] at hP1
    obtain ⟨hP, hD⟩ := va_join (wr := pick (x_Map ad cs values states) []) hP hD [0, 1, 2] [] rfl rfl (by decide) (by decide) hk1 hFc hP1 hD1
    generalize H1 = H at hP hS ⊢
    have hP : va_P (dC, dI) vwCl (x_Map ad cs values states) H := hP.sub [0, 1, 2] rfl
    have hD : va_D A (x_Map ad cs values states) := hD.sub [0, 1, 2] (by decide) rfl
    have h := Option.some.inj h
    subst h
    exact W.iret hx hb hr (fun t ht hW => ⟨⟨_, (), rfl, rfl, AftW_mk hK hP hD ht hW⟩, hS.F ht⟩) hS.2.2 d_Map_valueByRule_63
  · have h := (if_neg c_6).symm.trans h
    refine lv_sipush (v := 255) hx hb d_Map_valueByRule_52 (by decide) ?_
    refine lv_goto (tgt := 63) hx hb d_Map_valueByRule_55 (by decide) ?_
    have h := Option.some.inj h
    subst h
    exact W.iret hx hb hr (fun t ht hW => ⟨⟨_, (), rfl, rfl, AftW_mk hK hP hD ht hW⟩, hS.F ht⟩) hS.2.2 d_Map_valueByRule_63
def d_Map_fillUntold_L4 (N : Nat) (y4_1 : Int32) : Nat → Int32 → Int32 → (Nat → Int32) → (Nat → Int32) → Option (Int32 × (Nat → Int32) × (Nat → Int32))
  | 0, _, _, _, _ => none
  | n + 1, y4_2, y4_3, values_4, states_4 => if (256 : Int32) ≤ y4_3 then some (y4_2, values_4, states_4) else gI y4_3 256 (if (states_4 y4_3.toNatClampNeg) = 0 then (d_Map_valueByRule N y4_3 y4_1 values_4).bind (fun o5004 => d_Map_fillUntold_L4 N y4_1 n (y4_2 + 1) (y4_3 + 1) (upd values_4 y4_3.toNatClampNeg o5004) (upd states_4 y4_3.toNatClampNeg (3 : Int32))) else if (states_4 y4_3.toNatClampNeg) = (3 : Int32) then (d_Map_valueByRule N y4_3 y4_1 values_4).bind (fun o5006 => d_Map_fillUntold_L4 N y4_1 n (y4_2 + 1) (y4_3 + 1) (upd values_4 y4_3.toNatClampNeg o5006) (upd states_4 y4_3.toNatClampNeg (3 : Int32))) else d_Map_fillUntold_L4 N y4_1 n y4_2 (y4_3 + 1) values_4 states_4)
def d_Map_fillUntold (N : Nat) (x1 : Int32) (values : Nat → Int32) (states : Nat → Int32) : Option (Int32 × (Nat → Int32) × (Nat → Int32)) :=
 (d_Map_fillUntold_L4 N x1 N (0 : Int32) (0 : Int32) values states).bind (fun s4 => some (s4.1, s4.2.1, s4.2.2))
abbrev rm_Map_fillUntold : Room := { frames := 2, cells := 0, slots := 0, locals := 43 }
set_option maxHeartbeats 4000000 in
set_option maxRecDepth 100000 in
theorem c_Map_fillUntold (l : Launch) (dC : Nat → ClassId) (dI : Nat → Nat → Nat) (tt : Nat → Nat) (ad : Nat → Nat) (cs : Nat → ClassId) (sz N : Nat) (x1 : Int32) (values : Nat → Int32) (states : Nat → Int32) (out : Int32 × (Nat → Int32) × (Nat → Int32)) (h : d_Map_fillUntold N x1 values states = some out) :
    Met l y_Map_fillUntold (w_Map_fillUntold) rm_Map_fillUntold (va_Pc [.ref (ad 0), .int x1] (PreW (dC, dI) [((cs 1), .int), ((cs 2), .int)] (x_Map ad cs values states) sz tt)) (va_Qi (fun (r : Int32) (_ : Unit) => r = out.1) (fun _ => AftW (dC, dI) [((cs 1), .int), ((cs 2), .int)] (va_A (x_Map ad cs values states) sz) (x_Map ad cs out.2.1 out.2.2)) (va_A (x_Map ad cs values states) sz)) 0 0 (va_A (x_Map ad cs values states) sz) := by
  refine Met.ofW (cc := k_Map_fillUntold) (maxL := 4) (ret := (some .int)) (by decide) rfl ?_
  intro p e s m args below meth c s₁ B hml hv
  obtain ⟨rfl, hsz, hP, hK, hD0, hG⟩ := hv
  have hx := B.exec
  have hb := B.bytes
  have hr := B.returns
  have hts := atoms_spec (ws := (w_Map_fillUntold)) B.pre
  have hB : ∀ w ∈ BIG, w.before _ s = true := fun w h9 => hts w (List.mem_cons_of_mem _ h9)
  have hown : s.vm.findClass R_Map = some m.cls := findClass_of_methodNamed B.named
  have hlocks := B.notSynchronized
  subst hsz
  have hD := hD0.self (sz := s.heap.size)
  generalize hAe : va_A (x_Map ad cs values states) s.heap.size = A at hD hG ⊢
  have hA : ∀ q : Nat, s.heap.size ≤ q → A q := fun q h => by rw [← hAe]; exact Or.inr h
  have hS : va_S A s.heap s.heap [] := va_S.rf
  have hl := lv_entry ([.ref (ad 0), .int x1]) (n := 4) (Nat.le_of_ble_eq_true rfl)
  rw [lg_entry_eq]
  generalize (lg_sl ([.ref (ad 0), .int x1]) ++ List.replicate (4 - (lg_sl ([.ref (ad 0), .int x1])).length) Slot.unset).toArray = ls at hl ⊢
  have hl : lv_has ls 4 [(0, .ref (ad 0)), (1, .int x1)] := hl
  unfold d_Map_fillUntold at h
  refine lv_iconst (v := 0) hx hb d_Map_fillUntold_0 (by decide) ?_
  refine lv_istore_n (lv' := [(2, .int (0 : Int32)), (0, .ref (ad 0)), (1, .int x1)]) hx hb d_Map_fillUntold_1 rfl hl (by decide) rfl (fun ls hl => ?_)
  refine lv_iconst (v := 0) hx hb d_Map_fillUntold_2 (by decide) ?_
  refine lv_istore_n (lv' := [(3, .int (0 : Int32)), (2, .int (0 : Int32)), (0, .ref (ad 0)), (1, .int x1)]) hx hb d_Map_fillUntold_3 rfl hl (by decide) rfl (fun ls hl => ?_)
  obtain ⟨s4, hs4, h⟩ := Option.bind_eq_some_iff.mp h
  have X4 : ∀ (H : Heap) (locs : List Loc) (ls : Array Slot), lv_has ls 4 [(2, .int s4.1)] → va_P (dC, dI) vwCl (x_Map ad cs s4.2.1 s4.2.2) H → va_D A (x_Map ad cs s4.2.1 s4.2.2) → va_S A s.heap H locs → W p l e (headSpec (w_Map_fillUntold) rm_Map_fillUntold).room s m ([.ref (ad 0), .int x1] : List Value).toArray below meth c H locs 0 0 (MQ below (va_Qi (fun (r : Int32) (_ : Unit) => r = out.1) (fun _ => AftW (dC, dI) [((cs 1), .int), ((cs 2), .int)] A (x_Map ad cs out.2.1 out.2.2)) A) ([.ref (ad 0), .int x1] : List Value).toArray s 0 0 A) (F0 m 58 ls []) := by
    intro H locs ls hl hP hD hS
    refine lv_iload_n hx hb d_Map_fillUntold_58 rfl (lv_at hl 0 rfl) ?_
    have h := Option.some.inj h
    subst h
    exact W.iret hx hb hr (fun t ht hW => ⟨⟨_, (), rfl, rfl, AftW_mk hK hP hD ht hW⟩, hS.F ht⟩) hS.2.2 d_Map_fillUntold_59
  have L4 : ∀ (n : Nat) (y4_2 : Int32) (y4_3 : Int32) (values_4 : Nat → Int32) (states_4 : Nat → Int32) (H : Heap) (locs : List Loc) (ls : Array Slot), lv_has ls 4 [(0, .ref (ad 0)), (1, .int x1), (2, .int y4_2), (3, .int y4_3)] → va_P (dC, dI) vwCl (x_Map ad cs values_4 states_4) H → va_D A (x_Map ad cs values_4 states_4) → va_S A s.heap H locs → d_Map_fillUntold_L4 N x1 n y4_2 y4_3 values_4 states_4 = some s4 → W p l e (headSpec (w_Map_fillUntold) rm_Map_fillUntold).room s m ([.ref (ad 0), .int x1] : List Value).toArray below meth c H locs 0 0 (MQ below (va_Qi (fun (r : Int32) (_ : Unit) => r = out.1) (fun _ => AftW (dC, dI) [((cs 1), .int), ((cs 2), .int)] A (x_Map ad cs out.2.1 out.2.2)) A) ([.ref (ad 0), .int x1] : List Value).toArray s 0 0 A) (F0 m 4 ls []) := by
    intro n
    induction n with
    | zero =>
      intro y4_2 y4_3 values_4 states_4 H locs ls hl hP hD hS h
      rw [d_Map_fillUntold_L4] at h
      cases h
    | succ n ih =>
      intro y4_2 y4_3 values_4 states_4 H locs ls hl hP hD hS h
      rw [d_Map_fillUntold_L4] at h
      refine lv_iload_n hx hb d_Map_fillUntold_4 rfl (lv_at hl 3 rfl) ?_
      refine lv_sipush (v := 256) hx hb d_Map_fillUntold_5 (by decide) ?_
      refine lv_icmp_ge (tgt := 58) hx hb d_Map_fillUntold_8 (by decide) (fun c_1 => ?_) (fun c_1 => ?_)
      · have h := (if_pos c_1).symm.trans h
        have h := Option.some.inj h
        subst h
        exact X4 H locs ls (lv_sub hl [2] rfl) hP hD hS
      · have h := (if_neg c_1).symm.trans h
        refine lv_aload_n hx hb d_Map_fillUntold_11 rfl (lv_at hl 0 rfl) ?_
        refine va_get (D := (dC, dI)) (ci := 3) (v := .ref (ad 2)) (C := R_Map) (T := T_Map) (N := 2) hx hb hB in_Map hown hK hP 0 rfl rfl 1 (by decide) (hB _ wd_1) (fun _ h9 => h9) rfl d_Map_fillUntold_12 ?_
        refine lv_iload_n hx hb d_Map_fillUntold_15 rfl (lv_at hl 3 rfl) ?_
        obtain ⟨b_2, h⟩ := gI_some h
        refine va_iald hx hb hK hP 2 1 rfl rfl b_2 d_Map_fillUntold_16 ?_
        refine lv_if_eq (tgt := 30) hx hb d_Map_fillUntold_17 (by decide) (fun c_3 => ?_) (fun c_3 => ?_)
        · have h := (if_pos c_3).symm.trans h
          refine lv_aload_n hx hb d_Map_fillUntold_30 rfl (lv_at hl 0 rfl) ?_
          refine va_get (D := (dC, dI)) (ci := 3) (v := .ref (ad 1)) (C := R_Map) (T := T_Map) (N := 2) hx hb hB in_Map hown hK hP 0 rfl rfl 0 (by decide) (hB _ wd_0) (fun _ h9 => h9) rfl d_Map_fillUntold_31 ?_
          refine lv_iload_n hx hb d_Map_fillUntold_34 rfl (lv_at hl 3 rfl) ?_
          refine lv_aload_n hx hb d_Map_fillUntold_35 rfl (lv_at hl 0 rfl) ?_
          refine lv_iload_n hx hb d_Map_fillUntold_36 rfl (lv_at hl 3 rfl) ?_
          refine lv_iload_n hx hb d_Map_fillUntold_37 rfl (lv_at hl 1 rfl) ?_
          obtain ⟨o4, ho4, h⟩ := Option.bind_eq_some_iff.mp h
          have hKc := hK.sub (tys' := [((cs 1), .int), ((cs 2), .int)]) [0, 1] rfl
          have hPc := hP.sub (ws' := x_Map ad cs values_4 states_4) [0, 1, 2] rfl
          have hDc := hD.sub (ws' := x_Map ad cs values_4 states_4) [0, 1, 2] (by decide) rfl
          have hFc := va_free (wc := x_Map ad cs values_4 states_4) hD hS hA [0, 1, 2] rfl
          refine va_calli (va_runV (As := [.int y4_3, .int x1]) (rest := [.int y4_3, .ref (ad 1)]) ⟨hx, hb, hml, hown, hB⟩ (c_Map_valueByRule l dC dI tt ad cs H.size N y4_3 x1 values_4 states_4 o4 ho4) (cwV 2 hB (gV wd_17 wd_15 wd_14 wd_4 wd_16) rfl rfl rfl (by decide +kernel) ⟨Nat.le_of_ble_eq_true rfl, Nat.le_of_ble_eq_true rfl⟩) ⟨PreW_blind, va_recv hKc hPc (ci := 3) (q0 := 0) rfl rfl, PreW_mk hKc hPc hDc hG hS hFc⟩ rfl rfl hl.1 rfl (lv_room (Nat.le_of_ble_eq_true rfl)) d_Map_fillUntold_38 ⟨Nat.le_of_ble_eq_true rfl, Nat.le_of_ble_eq_true rfl⟩) hS (fun q _ h => hFc q h) hFc (fun r_4 u_4 t H1 locs ht hvm hw hB hz1 hk1 hS => ?_)
          have hw := hw.symm
          subst hw
          obtain ⟨hP1, hK1, hD1⟩ := hB
          rw [ht] at hP1
          obtain ⟨hP, hD⟩ := va_join (wr := pick (x_Map ad cs values_4 states_4) []) hP hD [0, 1, 2] [] rfl rfl (by decide) (by decide) hk1 hFc hP1 hD1
          generalize H1 = H at hP hS ⊢
          have hP : va_P (dC, dI) vwCl (x_Map ad cs values_4 states_4) H := hP.sub [0, 1, 2] rfl
          have hD : va_D A (x_Map ad cs values_4 states_4) := hD.sub [0, 1, 2] (by decide) rfl
          refine va_iast hx hb hK hP hD hS 1 0 rfl rfl b_2 d_Map_fillUntold_41 (fun H locs hP hD hS => ?_)
          have hP : va_P (dC, dI) vwCl (x_Map ad cs (upd values_4 y4_3.toNatClampNeg o4) states_4) H := hP
          have hD : va_D A (x_Map ad cs (upd values_4 y4_3.toNatClampNeg o4) states_4) := hD
          refine lv_aload_n hx hb d_Map_fillUntold_42 rfl (lv_at hl 0 rfl) ?_
          refine va_get (D := (dC, dI)) (ci := 3) (v := .ref (ad 2)) (C := R_Map) (T := T_Map) (N := 2) hx hb hB in_Map hown hK hP 0 rfl rfl 1 (by decide) (hB _ wd_1) (fun _ h9 => h9) rfl d_Map_fillUntold_43 ?_
          refine lv_iload_n hx hb d_Map_fillUntold_46 rfl (lv_at hl 3 rfl) ?_
          refine lv_iconst (v := 3) hx hb d_Map_fillUntold_47 (by decide) ?_
          refine va_iast hx hb hK hP hD hS 2 1 rfl rfl b_2 d_Map_fillUntold_48 (fun H locs hP hD hS => ?_)
          have hP : va_P (dC, dI) vwCl (x_Map ad cs (upd values_4 y4_3.toNatClampNeg o4) (upd states_4 y4_3.toNatClampNeg (3 : Int32))) H := hP
          have hD : va_D A (x_Map ad cs (upd values_4 y4_3.toNatClampNeg o4) (upd states_4 y4_3.toNatClampNeg (3 : Int32))) := hD
          refine lv_iinc (v := y4_2 + 1) (lv' := [(2, .int (y4_2 + 1)), (0, .ref (ad 0)), (1, .int x1), (3, .int y4_3)]) hx hb d_Map_fillUntold_49 hl (k := 2) rfl rfl (by decide) rfl (fun ls hl => ?_)
          refine lv_iinc (v := y4_3 + 1) (lv' := [(3, .int (y4_3 + 1)), (2, .int (y4_2 + 1)), (0, .ref (ad 0)), (1, .int x1)]) hx hb d_Map_fillUntold_52 hl (k := 3) rfl rfl (by decide) rfl (fun ls hl => ?_)
          refine lv_goto (tgt := 4) hx hb d_Map_fillUntold_55 (by decide) ?_
          exact ih (y4_2 + 1) (y4_3 + 1) (upd values_4 y4_3.toNatClampNeg o4) (upd states_4 y4_3.toNatClampNeg (3 : Int32)) H locs ls (lv_sub hl [2, 3, 1, 0] rfl) hP hD hS h
        · have h := (if_neg c_3).symm.trans h
          refine lv_aload_n hx hb d_Map_fillUntold_20 rfl (lv_at hl 0 rfl) ?_
          refine va_get (D := (dC, dI)) (ci := 3) (v := .ref (ad 2)) (C := R_Map) (T := T_Map) (N := 2) hx hb hB in_Map hown hK hP 0 rfl rfl 1 (by decide) (hB _ wd_1) (fun _ h9 => h9) rfl d_Map_fillUntold_21 ?_
          refine lv_iload_n hx hb d_Map_fillUntold_24 rfl (lv_at hl 3 rfl) ?_
          refine va_iald hx hb hK hP 2 1 rfl rfl b_2 d_Map_fillUntold_25 ?_
          refine lv_iconst (v := 3) hx hb d_Map_fillUntold_26 (by decide) ?_
          refine lv_icmp_ne (tgt := 52) hx hb d_Map_fillUntold_27 (by decide) (fun c_5 => ?_) (fun c_5 => ?_)
          · have h := (if_neg c_5).symm.trans h
            refine lv_iinc (v := y4_3 + 1) (lv' := [(3, .int (y4_3 + 1)), (0, .ref (ad 0)), (1, .int x1), (2, .int y4_2)]) hx hb d_Map_fillUntold_52 hl (k := 3) rfl rfl (by decide) rfl (fun ls hl => ?_)
            refine lv_goto (tgt := 4) hx hb d_Map_fillUntold_55 (by decide) ?_
            exact ih y4_2 (y4_3 + 1) values_4 states_4 H locs ls (lv_sub hl [1, 2, 3, 0] rfl) hP hD hS h
          · have h := (if_pos c_5).symm.trans h
            refine lv_aload_n hx hb d_Map_fillUntold_30 rfl (lv_at hl 0 rfl) ?_
            refine va_get (D := (dC, dI)) (ci := 3) (v := .ref (ad 1)) (C := R_Map) (T := T_Map) (N := 2) hx hb hB in_Map hown hK hP 0 rfl rfl 0 (by decide) (hB _ wd_0) (fun _ h9 => h9) rfl d_Map_fillUntold_31 ?_
            refine lv_iload_n hx hb d_Map_fillUntold_34 rfl (lv_at hl 3 rfl) ?_
            refine lv_aload_n hx hb d_Map_fillUntold_35 rfl (lv_at hl 0 rfl) ?_
            refine lv_iload_n hx hb d_Map_fillUntold_36 rfl (lv_at hl 3 rfl) ?_
            refine lv_iload_n hx hb d_Map_fillUntold_37 rfl (lv_at hl 1 rfl) ?_
            obtain ⟨o6, ho6, h⟩ := Option.bind_eq_some_iff.mp h
            have hKc := hK.sub (tys' := [((cs 1), .int), ((cs 2), .int)]) [0, 1] rfl
            have hPc := hP.sub (ws' := x_Map ad cs values_4 states_4) [0, 1, 2] rfl
            have hDc := hD.sub (ws' := x_Map ad cs values_4 states_4) [0, 1, 2] (by decide) rfl
            have hFc := va_free (wc := x_Map ad cs values_4 states_4) hD hS hA [0, 1, 2] rfl
            refine va_calli (va_runV (As := [.int y4_3, .int x1]) (rest := [.int y4_3, .ref (ad 1)]) ⟨hx, hb, hml, hown, hB⟩ (c_Map_valueByRule l dC dI tt ad cs H.size N y4_3 x1 values_4 states_4 o6 ho6) (cwV 2 hB (gV wd_17 wd_15 wd_14 wd_4 wd_16) rfl rfl rfl (by decide +kernel) ⟨Nat.le_of_ble_eq_true rfl, Nat.le_of_ble_eq_true rfl⟩) ⟨PreW_blind, va_recv hKc hPc (ci := 3) (q0 := 0) rfl rfl, PreW_mk hKc hPc hDc hG hS hFc⟩ rfl rfl hl.1 rfl (lv_room (Nat.le_of_ble_eq_true rfl)) d_Map_fillUntold_38 ⟨Nat.le_of_ble_eq_true rfl, Nat.le_of_ble_eq_true rfl⟩) hS (fun q _ h => hFc q h) hFc (fun r_6 u_6 t H1 locs ht hvm hw hB hz1 hk1 hS => ?_)
            have hw := hw.symm
            subst hw
            obtain ⟨hP1, hK1, hD1⟩ := hB
            rw [ht] at hP1
            obtain ⟨hP, hD⟩ := va_join (wr := pick (x_Map ad cs values_4 states_4) []) hP hD [0, 1, 2] [] rfl rfl (by decide) (by decide) hk1 hFc hP1 hD1
            generalize H1 = H at hP hS ⊢
            have hP : va_P (dC, dI) vwCl (x_Map ad cs values_4 states_4) H := hP.sub [0, 1, 2] rfl
            have hD : va_D A (x_Map ad cs values_4 states_4) := hD.sub [0, 1, 2] (by decide) rfl
            refine va_iast hx hb hK hP hD hS 1 0 rfl rfl b_2 d_Map_fillUntold_41 (fun H locs hP hD hS => ?_)
            have hP : va_P (dC, dI) vwCl (x_Map ad cs (upd values_4 y4_3.toNatClampNeg o6) states_4) H := hP
            have hD : va_D A (x_Map ad cs (upd values_4 y4_3.toNatClampNeg o6) states_4) := hD
            refine lv_aload_n hx hb d_Map_fillUntold_42 rfl (lv_at hl 0 rfl) ?_
            refine va_get (D := (dC, dI)) (ci := 3) (v := .ref (ad 2)) (C := R_Map) (T := T_Map) (N := 2) hx hb hB in_Map hown hK hP 0 rfl rfl 1 (by decide) (hB _ wd_1) (fun _ h9 => h9) rfl d_Map_fillUntold_43 ?_
            refine lv_iload_n hx hb d_Map_fillUntold_46 rfl (lv_at hl 3 rfl) ?_
            refine lv_iconst (v := 3) hx hb d_Map_fillUntold_47 (by decide) ?_
            refine va_iast hx hb hK hP hD hS 2 1 rfl rfl b_2 d_Map_fillUntold_48 (fun H locs hP hD hS => ?_)
            have hP : va_P (dC, dI) vwCl (x_Map ad cs (upd values_4 y4_3.toNatClampNeg o6) (upd states_4 y4_3.toNatClampNeg (3 : Int32))) H := hP
            have hD : va_D A (x_Map ad cs (upd values_4 y4_3.toNatClampNeg o6) (upd states_4 y4_3.toNatClampNeg (3 : Int32))) := hD
            refine lv_iinc (v := y4_2 + 1) (lv' := [(2, .int (y4_2 + 1)), (0, .ref (ad 0)), (1, .int x1), (3, .int y4_3)]) hx hb d_Map_fillUntold_49 hl (k := 2) rfl rfl (by decide) rfl (fun ls hl => ?_)
            refine lv_iinc (v := y4_3 + 1) (lv' := [(3, .int (y4_3 + 1)), (2, .int (y4_2 + 1)), (0, .ref (ad 0)), (1, .int x1)]) hx hb d_Map_fillUntold_52 hl (k := 3) rfl rfl (by decide) rfl (fun ls hl => ?_)
            refine lv_goto (tgt := 4) hx hb d_Map_fillUntold_55 (by decide) ?_
            exact ih (y4_2 + 1) (y4_3 + 1) (upd values_4 y4_3.toNatClampNeg o6) (upd states_4 y4_3.toNatClampNeg (3 : Int32)) H locs ls (lv_sub hl [2, 3, 1, 0] rfl) hP hD hS h
  exact L4 N (0 : Int32) (0 : Int32) values states _ _ ls (lv_sub hl [2, 3, 1, 0] rfl) hP hD hS hs4
