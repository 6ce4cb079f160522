abbrev rm_Map_init : Room := { frames := 1, cells := 2, slots := 512, locals := 21 }
set_option maxHeartbeats 4000000 in
set_option maxRecDepth 100000 in
theorem c_Map_init (l : Launch) (dC : Nat → ClassId) (dI : Nat → Nat → Nat) (tt : Nat → Nat) (h0 sz N : Nat)  (out : (Nat → Int32) × (Nat → Int32)) (h : d_Map_forgetAll N (fun _ => 0) (fun _ => 0) = some out) :
    Met l y_Map_init (w_Map_init) rm_Map_init (va_Pc [.ref h0] (PreW (dC, dI) [] ([(h0, .inr (3, [.null, .null]))]) sz tt)) (va_Qv (fun u : (Nat → Nat) × (Nat → ClassId) => u.1 0 = h0) (fun u => AftW (dC, dI) [(u.2 1, .int), (u.2 2, .int)] (va_A ([(h0, .inr (3, [.null, .null]))]) sz) (x_Map u.1 u.2 out.1 out.2)) (va_A ([(h0, .inr (3, [.null, .null]))]) sz)) 2 512 (va_A ([(h0, .inr (3, [.null, .null]))]) sz) := by
  refine Met.ofW (cc := k_Map_init) (maxL := 1) (ret := none) (by decide) rfl ?_
  intro p e s m args below meth c s₁ B hml hv
  obtain ⟨rfl, hsz, hP, hK, hD0, hG⟩ := hv
  have hx := B.exec
  have hb := B.bytes
  have hr := B.returns
  have hts := atoms_spec (ws := (w_Map_init)) B.pre
  have hB : ∀ w ∈ BIG, w.before _ s = true := fun w h9 => hts w (List.mem_cons_of_mem _ h9)
  have hown : s.vm.findClass R_Map = some m.cls := findClass_of_methodNamed B.named
  have hlocks := B.notSynchronized
  have hin : meth.name = "<init>" := (name_of_methodNamed B.named B.method).1
  subst hsz
  have hD := hD0.self (sz := s.heap.size)
  generalize hAe : va_A ([(h0, .inr (3, [.null, .null]))]) s.heap.size = A at hD hG ⊢
  have hA : ∀ q : Nat, s.heap.size ≤ q → A q := fun q h => by rw [← hAe]; exact Or.inr h
  have hS : va_S A s.heap s.heap [] := va_S.rf
  have hl := lv_entry ([.ref h0]) (n := 1) (Nat.le_of_ble_eq_true rfl)
  rw [lg_entry_eq]
  generalize (lg_sl ([.ref h0]) ++ List.replicate (1 - (lg_sl ([.ref h0])).length) Slot.unset).toArray = ls at hl ⊢
  have hl : lv_has ls 1 [(0, .ref h0)] := hl
  refine lv_aload_n hx hb d_Map_init_0 rfl (lv_at hl 0 rfl) ?_
  refine W.objInit hx hb hown (hB _ wd_188) (hB _ wd_189) (hB _ wd_190) rfl (by rw [hml]; exact hl.1) rfl d_Map_init_1 (Nat.le_of_ble_eq_true rfl) (Nat.le_of_ble_eq_true rfl) ?_
  refine W.eq (g2 := F0 m 4 ls []) rfl ?_
  refine lv_aload_n hx hb d_Map_init_4 rfl (lv_at hl 0 rfl) ?_
  refine lv_sipush (v := 256) hx hb d_Map_init_5 (by decide) ?_
  refine va_newa (atype := .int) (a0 := (256, .inl (fun _ => 0))) hx hb (hB _ wd_191) rfl hK hP hD hS hA (fun _ => rfl) (by decide) (by decide) (by decide) (Nat.le_of_ble_eq_true rfl) (Nat.le_of_ble_eq_true rfl) d_Map_init_8 (fun q1 c1 H hK hP hD hS => ?_)
  have hP : va_P (dC, dI) vwCl ([(h0, .inr (3, [.null, .null])), (q1, .inl (c1, 256, .inl (fun _ => 0)))]) H := hP
  have hD : va_D A ([(h0, .inr (3, [.null, .null])), (q1, .inl (c1, 256, .inl (fun _ => 0)))]) := hD
  have hK : va_K (dC, dI) vwCl [(c1, .int)] s := hK
  refine W.widen (k := 1) (n := 256) (by decide) (by decide) ?_
  refine va_putF (D := (dC, dI)) (ci := 3) (v := .ref q1) (ty := .array .int) (C := R_Map) (T := T_Map) (N := 2) hx hb hB in_Map ty_Map tyok_Map nd_Map hown hK hP hD hS 0 rfl rfl 0 (by decide) (hB _ wd_0) (fun _ h9 => h9) rfl hin rfl (by decide +kernel) rfl rfl (Nat.le_of_ble_eq_true rfl) d_Map_init_10 (fun H locs hP hD hS => ?_)
  have hP : va_P (dC, dI) vwCl ([(h0, .inr (3, [.ref q1, .null])), (q1, .inl (c1, 256, .inl (fun _ => 0)))]) H := hP
  have hD : va_D A ([(h0, .inr (3, [.ref q1, .null])), (q1, .inl (c1, 256, .inl (fun _ => 0)))]) := hD
  refine lv_aload_n hx hb d_Map_init_13 rfl (lv_at hl 0 rfl) ?_
  refine lv_sipush (v := 256) hx hb d_Map_init_14 (by decide) ?_
  refine va_newa (atype := .int) (a0 := (256, .inl (fun _ => 0))) hx hb (hB _ wd_191) rfl hK hP hD hS hA (fun _ => rfl) (by decide) (by decide) (by decide) (Nat.le_of_ble_eq_true rfl) (Nat.le_of_ble_eq_true rfl) d_Map_init_17 (fun q2 c2 H hK hP hD hS => ?_)
  have hP : va_P (dC, dI) vwCl ([(h0, .inr (3, [.ref q1, .null])), (q1, .inl (c1, 256, .inl (fun _ => 0))), (q2, .inl (c2, 256, .inl (fun _ => 0)))]) H := hP
  have hD : va_D A ([(h0, .inr (3, [.ref q1, .null])), (q1, .inl (c1, 256, .inl (fun _ => 0))), (q2, .inl (c2, 256, .inl (fun _ => 0)))]) := hD
  have hK : va_K (dC, dI) vwCl [(c1, .int), (c2, .int)] s := hK
  refine W.widen (k := 2) (n := 512) (by decide) (by decide) ?_
  refine va_putF (D := (dC, dI)) (ci := 3) (v := .ref q2) (ty := .array .int) (C := R_Map) (T := T_Map) (N := 2) hx hb hB in_Map ty_Map tyok_Map nd_Map hown hK hP hD hS 0 rfl rfl 1 (by decide) (hB _ wd_1) (fun _ h9 => h9) rfl hin rfl (by decide +kernel) rfl rfl (Nat.le_of_ble_eq_true rfl) d_Map_init_19 (fun H locs hP hD hS => ?_)
  have hP : va_P (dC, dI) vwCl ([(h0, .inr (3, [.ref q1, .ref q2])), (q1, .inl (c1, 256, .inl (fun _ => 0))), (q2, .inl (c2, 256, .inl (fun _ => 0)))]) H := hP
  have hD : va_D A ([(h0, .inr (3, [.ref q1, .ref q2])), (q1, .inl (c1, 256, .inl (fun _ => 0))), (q2, .inl (c2, 256, .inl (fun _ => 0)))]) := hD
  refine lv_aload_n hx hb d_Map_init_22 rfl (lv_at hl 0 rfl) ?_
  have hP : va_P (dC, dI) vwCl (x_Map (lk [h0, q1, q2] 0) (lk [0, c1, c2] 0) (fun _ => 0) (fun _ => 0)) H := hP
  have hD : va_D A (x_Map (lk [h0, q1, q2] 0) (lk [0, c1, c2] 0) (fun _ => 0) (fun _ => 0)) := hD
  have hK : va_K (dC, dI) vwCl [((lk [0, c1, c2] 0) 1, .int), ((lk [0, c1, c2] 0) 2, .int)] s := hK
  have hFc := va_free (wc := x_Map (lk [h0, q1, q2] 0) (lk [0, c1, c2] 0) (fun _ => 0) (fun _ => 0)) hD hS hA [0, 1, 2] rfl
  refine va_callv (va_runV (As := []) (rest := []) ⟨hx, hb, hml, hown, hB⟩ (c_Map_forgetAll l dC dI tt (lk [h0, q1, q2] 0) (lk [0, c1, c2] 0) H.size N (fun _ => 0) (fun _ => 0) out h) (cwV 0 hB (gV wd_192 wd_148 wd_147 wd_4 wd_149) rfl rfl rfl (by decide +kernel) ⟨Nat.le_of_ble_eq_true rfl, Nat.le_of_ble_eq_true rfl⟩) ⟨PreW_blind, va_recv hK hP (ci := 3) (q0 := 0) rfl rfl, PreW_mk hK hP hD hG hS hFc⟩ rfl rfl hl.1 rfl (lv_room (Nat.le_of_ble_eq_true rfl)) d_Map_init_23 ⟨(Nat.le_of_ble_eq_true rfl), (Nat.le_of_ble_eq_true rfl)⟩) hS (fun q _ h => hFc q h) hFc (fun u_9 t H1 locs ht hvm hw hB hz1 hk1 hS => ?_)
  obtain ⟨hP1, hK1, hD1⟩ := hB
  rw [ht] at hP1
  obtain ⟨hP, hD⟩ := va_join (wr := []) hP hD [0, 1, 2] [] rfl rfl (by decide) (by decide) hk1 hFc hP1 hD1
  generalize H1 = H at hP hS ⊢
  have hP : va_P (dC, dI) vwCl (x_Map (lk [h0, q1, q2] 0) (lk [0, c1, c2] 0) out.1 out.2) H := hP
  have hD : va_D A (x_Map (lk [h0, q1, q2] 0) (lk [0, c1, c2] 0) out.1 out.2) := hD
  refine W.widen (k := 2) (n := 512) (by decide) (by decide) ?_
  exact W.vret hx hb hr (fun t ht hW => ⟨⟨((lk [h0, q1, q2] 0), (lk [0, c1, c2] 0)), rfl, rfl, AftW_mk hK hP hD ht hW⟩, hS.F ht⟩) hS.2.2 d_Map_init_26
abbrev rm_Boxes_init : Room := { frames := 1, cells := 12, slots := 72, locals := 12 }
set_option maxHeartbeats 4000000 in
set_option maxRecDepth 100000 in
theorem c_Boxes_init (l : Launch) (dC : Nat → ClassId) (dI : Nat → Nat → Nat) (tt : Nat → Nat) (h0 sz N : Nat)   :
    Met l y_Boxes_init (w_Boxes_init) rm_Boxes_init (va_Pc [.ref h0] (PreW (dC, dI) [] ([(h0, .inr (2, [.null, .null, .null, .null]))]) sz tt)) (va_Qv (fun u : (Nat → Nat) × (Nat → ClassId) × (Nat → Nat) × ClassId => u.1 0 = h0) (fun u => AftW (dC, dI) [(u.2.1 1, .int), (u.2.1 2, .int), (u.2.1 3, .int), (u.2.1 4, .array .int), (u.2.2.2, .int)] (va_A ([(h0, .inr (2, [.null, .null, .null, .null]))]) sz) ((x_Boxes u.1 u.2.1 u.2.2.1 (fun _ => 0) (fun _ => 0) (fun _ => 0)) ++ (gw 8 u.2.2.1 u.2.2.2 5 (fun _ _ => 0) ++ []))) (va_A ([(h0, .inr (2, [.null, .null, .null, .null]))]) sz)) 12 72 (va_A ([(h0, .inr (2, [.null, .null, .null, .null]))]) sz) := by
  refine Met.ofW (cc := k_Boxes_init) (maxL := 1) (ret := none) (by decide) rfl ?_
  intro p e s m args below meth c s₁ B hml hv
  obtain ⟨rfl, hsz, hP, hK, hD0, hG⟩ := hv
  have hx := B.exec
  have hb := B.bytes
  have hr := B.returns
  have hts := atoms_spec (ws := (w_Boxes_init)) B.pre
  have hB : ∀ w ∈ BIG, w.before _ s = true := fun w h9 => hts w (List.mem_cons_of_mem _ h9)
  have hown : s.vm.findClass R_Boxes = some m.cls := findClass_of_methodNamed B.named
  have hlocks := B.notSynchronized
  have hin : meth.name = "<init>" := (name_of_methodNamed B.named B.method).1
  subst hsz
  have hD := hD0.self (sz := s.heap.size)
  generalize hAe : va_A ([(h0, .inr (2, [.null, .null, .null, .null]))]) s.heap.size = A at hD hG ⊢
  have hA : ∀ q : Nat, s.heap.size ≤ q → A q := fun q h => by rw [← hAe]; exact Or.inr h
  have hS : va_S A s.heap s.heap [] := va_S.rf
  have hl := lv_entry ([.ref h0]) (n := 1) (Nat.le_of_ble_eq_true rfl)
  rw [lg_entry_eq]
  generalize (lg_sl ([.ref h0]) ++ List.replicate (1 - (lg_sl ([.ref h0])).length) Slot.unset).toArray = ls at hl ⊢
  have hl : lv_has ls 1 [(0, .ref h0)] := hl
  refine lv_aload_n hx hb d_Boxes_init_0 rfl (lv_at hl 0 rfl) ?_
  refine W.objInit hx hb hown (hB _ wd_193) (hB _ wd_189) (hB _ wd_190) rfl (by rw [hml]; exact hl.1) rfl d_Boxes_init_1 (Nat.le_of_ble_eq_true rfl) (Nat.le_of_ble_eq_true rfl) ?_
  refine W.eq (g2 := F0 m 4 ls []) rfl ?_
  refine lv_aload_n hx hb d_Boxes_init_4 rfl (lv_at hl 0 rfl) ?_
  refine lv_bipush (v := 8) hx hb d_Boxes_init_5 (by decide) ?_
  refine va_newa (atype := .int) (a0 := (8, .inl (fun _ => 0))) hx hb (hB _ wd_191) rfl hK hP hD hS hA (fun _ => rfl) (by decide) (by decide) (by decide) (Nat.le_of_ble_eq_true rfl) (Nat.le_of_ble_eq_true rfl) d_Boxes_init_7 (fun q1 c1 H hK hP hD hS => ?_)
  have hP : va_P (dC, dI) vwCl ([(h0, .inr (2, [.null, .null, .null, .null])), (q1, .inl (c1, 8, .inl (fun _ => 0)))]) H := hP
  have hD : va_D A ([(h0, .inr (2, [.null, .null, .null, .null])), (q1, .inl (c1, 8, .inl (fun _ => 0)))]) := hD
  have hK : va_K (dC, dI) vwCl [(c1, .int)] s := hK
  refine W.widen (k := 1) (n := 8) (by decide) (by decide) ?_
  refine va_putF (D := (dC, dI)) (ci := 2) (v := .ref q1) (ty := .array .int) (C := R_Boxes) (T := T_Boxes) (N := 4) hx hb hB in_Boxes ty_Boxes tyok_Boxes nd_Boxes hown hK hP hD hS 0 rfl rfl 0 (by decide) (hB _ wd_18) (fun _ h9 => h9) rfl hin rfl (by decide +kernel) rfl rfl (Nat.le_of_ble_eq_true rfl) d_Boxes_init_9 (fun H locs hP hD hS => ?_)
  have hP : va_P (dC, dI) vwCl ([(h0, .inr (2, [.ref q1, .null, .null, .null])), (q1, .inl (c1, 8, .inl (fun _ => 0)))]) H := hP
  have hD : va_D A ([(h0, .inr (2, [.ref q1, .null, .null, .null])), (q1, .inl (c1, 8, .inl (fun _ => 0)))]) := hD
  refine lv_aload_n hx hb d_Boxes_init_12 rfl (lv_at hl 0 rfl) ?_
  refine lv_bipush (v := 8) hx hb d_Boxes_init_13 (by decide) ?_
  refine va_newa (atype := .int) (a0 := (8, .inl (fun _ => 0))) hx hb (hB _ wd_191) rfl hK hP hD hS hA (fun _ => rfl) (by decide) (by decide) (by decide) (Nat.le_of_ble_eq_true rfl) (Nat.le_of_ble_eq_true rfl) d_Boxes_init_15 (fun q2 c2 H hK hP hD hS => ?_)
  have hP : va_P (dC, dI) vwCl ([(h0, .inr (2, [.ref q1, .null, .null, .null])), (q1, .inl (c1, 8, .inl (fun _ => 0))), (q2, .inl (c2, 8, .inl (fun _ => 0)))]) H := hP
  have hD : va_D A ([(h0, .inr (2, [.ref q1, .null, .null, .null])), (q1, .inl (c1, 8, .inl (fun _ => 0))), (q2, .inl (c2, 8, .inl (fun _ => 0)))]) := hD
  have hK : va_K (dC, dI) vwCl [(c1, .int), (c2, .int)] s := hK
  refine W.widen (k := 2) (n := 16) (by decide) (by decide) ?_
  refine va_putF (D := (dC, dI)) (ci := 2) (v := .ref q2) (ty := .array .int) (C := R_Boxes) (T := T_Boxes) (N := 4) hx hb hB in_Boxes ty_Boxes tyok_Boxes nd_Boxes hown hK hP hD hS 0 rfl rfl 1 (by decide) (hB _ wd_19) (fun _ h9 => h9) rfl hin rfl (by decide +kernel) rfl rfl (Nat.le_of_ble_eq_true rfl) d_Boxes_init_17 (fun H locs hP hD hS => ?_)
  have hP : va_P (dC, dI) vwCl ([(h0, .inr (2, [.ref q1, .ref q2, .null, .null])), (q1, .inl (c1, 8, .inl (fun _ => 0))), (q2, .inl (c2, 8, .inl (fun _ => 0)))]) H := hP
  have hD : va_D A ([(h0, .inr (2, [.ref q1, .ref q2, .null, .null])), (q1, .inl (c1, 8, .inl (fun _ => 0))), (q2, .inl (c2, 8, .inl (fun _ => 0)))]) := hD
  refine lv_aload_n hx hb d_Boxes_init_20 rfl (lv_at hl 0 rfl) ?_
  refine lv_bipush (v := 8) hx hb d_Boxes_init_21 (by decide) ?_
  refine va_newa (atype := .int) (a0 := (8, .inl (fun _ => 0))) hx hb (hB _ wd_191) rfl hK hP hD hS hA (fun _ => rfl) (by decide) (by decide) (by decide) (Nat.le_of_ble_eq_true rfl) (Nat.le_of_ble_eq_true rfl) d_Boxes_init_23 (fun q3 c3 H hK hP hD hS => ?_)
  have hP : va_P (dC, dI) vwCl ([(h0, .inr (2, [.ref q1, .ref q2, .null, .null])), (q1, .inl (c1, 8, .inl (fun _ => 0))), (q2, .inl (c2, 8, .inl (fun _ => 0))), (q3, .inl (c3, 8, .inl (fun _ => 0)))]) H := hP
  have hD : va_D A ([(h0, .inr (2, [.ref q1, .ref q2, .null, .null])), (q1, .inl (c1, 8, .inl (fun _ => 0))), (q2, .inl (c2, 8, .inl (fun _ => 0))), (q3, .inl (c3, 8, .inl (fun _ => 0)))]) := hD
  have hK : va_K (dC, dI) vwCl [(c1, .int), (c2, .int), (c3, .int)] s := hK
  refine W.widen (k := 3) (n := 24) (by decide) (by decide) ?_
  refine va_putF (D := (dC, dI)) (ci := 2) (v := .ref q3) (ty := .array .int) (C := R_Boxes) (T := T_Boxes) (N := 4) hx hb hB in_Boxes ty_Boxes tyok_Boxes nd_Boxes hown hK hP hD hS 0 rfl rfl 2 (by decide) (hB _ wd_20) (fun _ h9 => h9) rfl hin rfl (by decide +kernel) rfl rfl (Nat.le_of_ble_eq_true rfl) d_Boxes_init_25 (fun H locs hP hD hS => ?_)
  have hP : va_P (dC, dI) vwCl ([(h0, .inr (2, [.ref q1, .ref q2, .ref q3, .null])), (q1, .inl (c1, 8, .inl (fun _ => 0))), (q2, .inl (c2, 8, .inl (fun _ => 0))), (q3, .inl (c3, 8, .inl (fun _ => 0)))]) H := hP
  have hD : va_D A ([(h0, .inr (2, [.ref q1, .ref q2, .ref q3, .null])), (q1, .inl (c1, 8, .inl (fun _ => 0))), (q2, .inl (c2, 8, .inl (fun _ => 0))), (q3, .inl (c3, 8, .inl (fun _ => 0)))]) := hD
  refine lv_aload_n hx hb d_Boxes_init_28 rfl (lv_at hl 0 rfl) ?_
  refine lv_bipush (v := 8) hx hb d_Boxes_init_29 (by decide) ?_
  refine lv_iconst (v := 5) hx hb d_Boxes_init_31 (by decide) ?_
  obtain ⟨cy4, hcy4⟩ := arrC_find (hB _ wd_191)
  have hP : va_P (dC, dI) vwCl ([(h0, .inr (2, [.ref q1, .ref q2, .ref q3, .null])), (q1, .inl (c1, 8, .inl (fun _ => 0))), (q2, .inl (c2, 8, .inl (fun _ => 0))), (q3, .inl (c3, 8, .inl (fun _ => 0)))] ++ va_pl [] (fun _ => .inr (0, []))) H := hP
  have hD : va_D A ([(h0, .inr (2, [.ref q1, .ref q2, .ref q3, .null])), (q1, .inl (c1, 8, .inl (fun _ => 0))), (q2, .inl (c2, 8, .inl (fun _ => 0))), (q3, .inl (c3, 8, .inl (fun _ => 0)))] ++ va_pl [] (fun _ => .inr (0, []))) := hD
  refine va_mna (ty := .int) (N' := 8) (K' := 5) (z := (5, .inl (fun _ => 0))) hx hb hown (clink (hB _ wd_194)) (GG_AO hG) (hB _ wd_191) (hcy4).1 hK hP hD hS hA (by decide) (by decide) (by decide) (by decide) (by decide) (by decide) (by decide) (by decide) (by decide) (Nat.le_of_ble_eq_true rfl) (Nat.le_of_ble_eq_true rfl) (fun _ => rfl) d_Boxes_init_32 (fun q4 r4 c4 H hri hrl hK hP hD hS => ?_)
  rw [vr_gw] at hP hD
  have hK := hK.app (K_one hK (hcy4).2)
  have hP : va_P (dC, dI) vwCl (([(h0, .inr (2, [.ref q1, .ref q2, .ref q3, .null])), (q1, .inl (c1, 8, .inl (fun _ => 0))), (q2, .inl (c2, 8, .inl (fun _ => 0))), (q3, .inl (c3, 8, .inl (fun _ => 0))), (q4, .inl (c4, 8, .inr (.inr (.inr (.inr (go 8 r4))))))]) ++ (gw 8 r4 cy4 5 (fun _ _ => 0))) H := hP
  have hD : va_D A (([(h0, .inr (2, [.ref q1, .ref q2, .ref q3, .null])), (q1, .inl (c1, 8, .inl (fun _ => 0))), (q2, .inl (c2, 8, .inl (fun _ => 0))), (q3, .inl (c3, 8, .inl (fun _ => 0))), (q4, .inl (c4, 8, .inr (.inr (.inr (.inr (go 8 r4))))))]) ++ (gw 8 r4 cy4 5 (fun _ _ => 0))) := hD
  have hK : va_K (dC, dI) vwCl [(c1, .int), (c2, .int), (c3, .int), (c4, .array .int), (cy4, .int)] s := hK
  refine W.widen (k := 12) (n := 72) (by decide) (by decide) ?_
  refine va_putF (D := (dC, dI)) (ci := 2) (v := .ref q4) (ty := .array (.array .int)) (C := R_Boxes) (T := T_Boxes) (N := 4) hx hb hB in_Boxes ty_Boxes tyok_Boxes nd_Boxes hown hK hP hD hS 0 rfl rfl 3 (by decide) (hB _ wd_21) (fun _ h9 => h9) rfl hin rfl (by decide +kernel) rfl rfl (Nat.le_of_ble_eq_true rfl) d_Boxes_init_36 (fun H locs hP hD hS => ?_)
  have hP : va_P (dC, dI) vwCl (([(h0, .inr (2, [.ref q1, .ref q2, .ref q3, .ref q4])), (q1, .inl (c1, 8, .inl (fun _ => 0))), (q2, .inl (c2, 8, .inl (fun _ => 0))), (q3, .inl (c3, 8, .inl (fun _ => 0))), (q4, .inl (c4, 8, .inr (.inr (.inr (.inr (go 8 r4))))))]) ++ (gw 8 r4 cy4 5 (fun _ _ => 0))) H := hP
  have hD : va_D A (([(h0, .inr (2, [.ref q1, .ref q2, .ref q3, .ref q4])), (q1, .inl (c1, 8, .inl (fun _ => 0))), (q2, .inl (c2, 8, .inl (fun _ => 0))), (q3, .inl (c3, 8, .inl (fun _ => 0))), (q4, .inl (c4, 8, .inr (.inr (.inr (.inr (go 8 r4))))))]) ++ (gw 8 r4 cy4 5 (fun _ _ => 0))) := hD
  have hP : va_P (dC, dI) vwCl ((x_Boxes (lk [h0, q1, q2, q3, q4] 0) (lk [0, c1, c2, c3, c4] 0) r4 (fun _ => 0) (fun _ => 0) (fun _ => 0)) ++ (gw 8 r4 cy4 5 (fun _ _ => 0) ++ [])) H := by rw [List.append_nil]; exact hP
  have hD : va_D A ((x_Boxes (lk [h0, q1, q2, q3, q4] 0) (lk [0, c1, c2, c3, c4] 0) r4 (fun _ => 0) (fun _ => 0) (fun _ => 0)) ++ (gw 8 r4 cy4 5 (fun _ _ => 0) ++ [])) := by rw [List.append_nil]; exact hD
  exact W.vret hx hb hr (fun t ht hW => ⟨⟨((lk [h0, q1, q2, q3, q4] 0), (lk [0, c1, c2, c3, c4] 0), r4, cy4), rfl, rfl, AftW_mk hK hP hD ht hW⟩, hS.F ht⟩) hS.2.2 d_Boxes_init_39
abbrev rm_Dec_init : Room := { frames := 2, cells := 15, slots := 156, locals := 32 }
set_option maxHeartbeats 4000000 in
set_option maxRecDepth 100000 in
theorem c_Dec_init (l : Launch) (dC : Nat → ClassId) (dI : Nat → Nat → Nat) (tt : Nat → Nat) (h0 sz N : Nat)   :
    Met l y_Dec_init (w_Dec_init) rm_Dec_init (va_Pc [.ref h0] (PreW (dC, dI) [] ([(h0, .inr (1, [.null, .null, .null, .int 0, .int 0]))]) sz tt)) (va_Qv (fun u : (Nat → Nat) × (Nat → ClassId) × (Nat → Nat) × ClassId => u.1 0 = h0) (fun u => AftW (dC, dI) [(u.2.1 1, .int), (u.2.1 2, .int), (u.2.1 4, .int), (u.2.1 5, .int), (u.2.1 6, .int), (u.2.1 7, .array .int), (u.2.2.2, .int)] (va_A ([(h0, .inr (1, [.null, .null, .null, .int 0, .int 0]))]) sz) ((x_Dec u.1 u.2.1 u.2.2.1 0 0 (fun _ => 0) (fun _ => 0) (fun _ => 0) (fun _ => 0) (fun _ => 0)) ++ (gw 8 u.2.2.1 u.2.2.2 5 (fun _ _ => 0) ++ []))) (va_A ([(h0, .inr (1, [.null, .null, .null, .int 0, .int 0]))]) sz)) 15 156 (va_A ([(h0, .inr (1, [.null, .null, .null, .int 0, .int 0]))]) sz) := by
  refine Met.ofW (cc := k_Dec_init) (maxL := 1) (ret := none) (by decide) rfl ?_
  intro p e s m args below meth c s₁ B hml hv
  obtain ⟨rfl, hsz, hP, hK, hD0, hG⟩ := hv
  have hx := B.exec
  have hb := B.bytes
  have hr := B.returns
  have hts := atoms_spec (ws := (w_Dec_init)) B.pre
  have hB : ∀ w ∈ BIG, w.before _ s = true := fun w h9 => hts w (List.mem_cons_of_mem _ h9)
  have hown : s.vm.findClass R_Dec = some m.cls := findClass_of_methodNamed B.named
  have hlocks := B.notSynchronized
  have hin : meth.name = "<init>" := (name_of_methodNamed B.named B.method).1
  subst hsz
  have hD := hD0.self (sz := s.heap.size)
  generalize hAe : va_A ([(h0, .inr (1, [.null, .null, .null, .int 0, .int 0]))]) s.heap.size = A at hD hG ⊢
  have hA : ∀ q : Nat, s.heap.size ≤ q → A q := fun q h => by rw [← hAe]; exact Or.inr h
  have hS : va_S A s.heap s.heap [] := va_S.rf
  have hl := lv_entry ([.ref h0]) (n := 1) (Nat.le_of_ble_eq_true rfl)
  rw [lg_entry_eq]
  generalize (lg_sl ([.ref h0]) ++ List.replicate (1 - (lg_sl ([.ref h0])).length) Slot.unset).toArray = ls at hl ⊢
  have hl : lv_has ls 1 [(0, .ref h0)] := hl
  refine lv_aload_n hx hb d_Dec_init_0 rfl (lv_at hl 0 rfl) ?_
  refine W.objInit hx hb hown (hB _ wd_195) (hB _ wd_189) (hB _ wd_190) rfl (by rw [hml]; exact hl.1) rfl d_Dec_init_1 (Nat.le_of_ble_eq_true rfl) (Nat.le_of_ble_eq_true rfl) ?_
  refine W.eq (g2 := F0 m 4 ls []) rfl ?_
  refine lv_aload_n hx hb d_Dec_init_4 rfl (lv_at hl 0 rfl) ?_
  refine lv_bipush (v := 64) hx hb d_Dec_init_5 (by decide) ?_
  refine va_newa (atype := .int) (a0 := (64, .inl (fun _ => 0))) hx hb (hB _ wd_191) rfl hK hP hD hS hA (fun _ => rfl) (by decide) (by decide) (by decide) (Nat.le_of_ble_eq_true rfl) (Nat.le_of_ble_eq_true rfl) d_Dec_init_7 (fun q1 c1 H hK hP hD hS => ?_)
  have hP : va_P (dC, dI) vwCl ([(h0, .inr (1, [.null, .null, .null, .int 0, .int 0])), (q1, .inl (c1, 64, .inl (fun _ => 0)))]) H := hP
  have hD : va_D A ([(h0, .inr (1, [.null, .null, .null, .int 0, .int 0])), (q1, .inl (c1, 64, .inl (fun _ => 0)))]) := hD
  have hK : va_K (dC, dI) vwCl [(c1, .int)] s := hK
  refine W.widen (k := 1) (n := 64) (by decide) (by decide) ?_
  refine va_putF (D := (dC, dI)) (ci := 1) (v := .ref q1) (ty := .array .int) (C := R_Dec) (T := T_Dec) (N := 5) hx hb hB in_Dec ty_Dec tyok_Dec nd_Dec hown hK hP hD hS 0 rfl rfl 0 (by decide) (hB _ wd_36) (fun _ h9 => h9) rfl hin rfl (by decide +kernel) rfl rfl (Nat.le_of_ble_eq_true rfl) d_Dec_init_9 (fun H locs hP hD hS => ?_)
  have hP : va_P (dC, dI) vwCl ([(h0, .inr (1, [.ref q1, .null, .null, .int 0, .int 0])), (q1, .inl (c1, 64, .inl (fun _ => 0)))]) H := hP
  have hD : va_D A ([(h0, .inr (1, [.ref q1, .null, .null, .int 0, .int 0])), (q1, .inl (c1, 64, .inl (fun _ => 0)))]) := hD
  refine lv_aload_n hx hb d_Dec_init_12 rfl (lv_at hl 0 rfl) ?_
  refine lv_bipush (v := 16) hx hb d_Dec_init_13 (by decide) ?_
  refine va_newa (atype := .int) (a0 := (16, .inl (fun _ => 0))) hx hb (hB _ wd_191) rfl hK hP hD hS hA (fun _ => rfl) (by decide) (by decide) (by decide) (Nat.le_of_ble_eq_true rfl) (Nat.le_of_ble_eq_true rfl) d_Dec_init_15 (fun q2 c2 H hK hP hD hS => ?_)
  have hP : va_P (dC, dI) vwCl ([(h0, .inr (1, [.ref q1, .null, .null, .int 0, .int 0])), (q1, .inl (c1, 64, .inl (fun _ => 0))), (q2, .inl (c2, 16, .inl (fun _ => 0)))]) H := hP
  have hD : va_D A ([(h0, .inr (1, [.ref q1, .null, .null, .int 0, .int 0])), (q1, .inl (c1, 64, .inl (fun _ => 0))), (q2, .inl (c2, 16, .inl (fun _ => 0)))]) := hD
  have hK : va_K (dC, dI) vwCl [(c1, .int), (c2, .int)] s := hK
  refine W.widen (k := 2) (n := 80) (by decide) (by decide) ?_
  refine va_putF (D := (dC, dI)) (ci := 1) (v := .ref q2) (ty := .array .int) (C := R_Dec) (T := T_Dec) (N := 5) hx hb hB in_Dec ty_Dec tyok_Dec nd_Dec hown hK hP hD hS 0 rfl rfl 1 (by decide) (hB _ wd_41) (fun _ h9 => h9) rfl hin rfl (by decide +kernel) rfl rfl (Nat.le_of_ble_eq_true rfl) d_Dec_init_17 (fun H locs hP hD hS => ?_)
  have hP : va_P (dC, dI) vwCl ([(h0, .inr (1, [.ref q1, .ref q2, .null, .int 0, .int 0])), (q1, .inl (c1, 64, .inl (fun _ => 0))), (q2, .inl (c2, 16, .inl (fun _ => 0)))]) H := hP
  have hD : va_D A ([(h0, .inr (1, [.ref q1, .ref q2, .null, .int 0, .int 0])), (q1, .inl (c1, 64, .inl (fun _ => 0))), (q2, .inl (c2, 16, .inl (fun _ => 0)))]) := hD
  refine lv_aload_n hx hb d_Dec_init_20 rfl (lv_at hl 0 rfl) ?_
  refine va_new (ci := 2) (fs := [.null, .null, .null, .null]) (C := R_Boxes) (T := T_Boxes) (N := 4) hx hb hB in_Boxes ty_Boxes tyok_Boxes hown (hB _ wd_196) (hB _ wd_197) (hB _ wd_24) hK hP hD hS hA rfl (fun j hj => by rcases (show j = 0 ∨ j = 1 ∨ j = 2 ∨ j = 3 by omega) with rfl | rfl | rfl | rfl <;> rfl) (Nat.le_of_ble_eq_true rfl) (Nat.le_of_ble_eq_true rfl) d_Dec_init_21 (fun q3 H hP hD hS => ?_)
  have hP : va_P (dC, dI) vwCl ([(h0, .inr (1, [.ref q1, .ref q2, .null, .int 0, .int 0])), (q1, .inl (c1, 64, .inl (fun _ => 0))), (q2, .inl (c2, 16, .inl (fun _ => 0))), (q3, .inr (2, [.null, .null, .null, .null]))]) H := hP
  have hD : va_D A ([(h0, .inr (1, [.ref q1, .ref q2, .null, .int 0, .int 0])), (q1, .inl (c1, 64, .inl (fun _ => 0))), (q2, .inl (c2, 16, .inl (fun _ => 0))), (q3, .inr (2, [.null, .null, .null, .null]))]) := hD
  refine W.widen (k := 3) (n := 84) (by decide) (by decide) ?_
  refine lv_dup hx hb d_Dec_init_24 rfl ?_
  have hKc := hK.sub (tys' := []) [] rfl
  have hPc := hP.sub (ws' := [(q3, .inr (2, [.null, .null, .null, .null]))]) [3] rfl
  have hDc := hD.sub (ws' := [(q3, .inr (2, [.null, .null, .null, .null]))]) [3] (by decide) rfl
  have hFc := va_free (wc := [(q3, .inr (2, [.null, .null, .null, .null]))]) hD hS hA [3] rfl
  refine va_callv (va_runIN (As := []) (rest := [.ref q3, .ref h0]) ⟨hx, hb, hml, hown, hB⟩ (c_Boxes_init l dC dI tt q3 H.size N) ⟨va_cnB 0 hB (gW wd_198) rfl rfl rfl (hG.1 _ (nw_at (i := 1) rfl)) (hB _ wd_24) (by decide +kernel) ⟨Nat.le_of_ble_eq_true rfl, Nat.le_of_ble_eq_true rfl⟩, rfl, hB _ wd_199⟩ ⟨PreW_blind, PreW_mk hKc hPc hDc hG hS hFc⟩ rfl rfl hl.1 rfl (lv_room (Nat.le_of_ble_eq_true rfl)) d_Dec_init_25 ⟨(Nat.le_of_ble_eq_true rfl), (Nat.le_of_ble_eq_true rfl)⟩) hS (fun q _ h => hFc q h) hFc (fun u t H1 locs ht hvm hw hB hz1 hk1 hS => ?_)
  obtain ⟨ad1, cs1, r1, rc1⟩ := u
  obtain ⟨hP1, hK1, hD1⟩ := hB
  rw [ht] at hP1
  have hK1 := va_K.moved hvm.symm hK1
  dsimp only at hw hP1 hK1 hD1
  subst hw
  obtain ⟨hP, hD⟩ := va_join (wr := [(h0, .inr (1, [.ref q1, .ref q2, .null, .int 0, .int 0])), (q1, .inl (c1, 64, .inl (fun _ => 0))), (q2, .inl (c2, 16, .inl (fun _ => 0)))]) (w1 := (x_Boxes ad1 cs1 r1 (fun _ => 0) (fun _ => 0) (fun _ => 0)) ++ (gw 8 r1 rc1 5 (fun _ _ => 0) ++ [])) hP hD [3] [0, 1, 2] rfl rfl (by decide) (by decide) hk1 hFc hP1 hD1
  have hK := hK.app hK1
  generalize H1 = H at hP hS ⊢
  rw [← List.append_assoc] at hP hD
  have hP : va_P (dC, dI) vwCl (([(h0, .inr (1, [.ref q1, .ref q2, .null, .int 0, .int 0])), (q1, .inl (c1, 64, .inl (fun _ => 0))), (q2, .inl (c2, 16, .inl (fun _ => 0)))] ++ (x_Boxes ad1 cs1 r1 (fun _ => 0) (fun _ => 0) (fun _ => 0))) ++ (gw 8 r1 rc1 5 (fun _ _ => 0) ++ [])) H := hP
  have hD : va_D A (([(h0, .inr (1, [.ref q1, .ref q2, .null, .int 0, .int 0])), (q1, .inl (c1, 64, .inl (fun _ => 0))), (q2, .inl (c2, 16, .inl (fun _ => 0)))] ++ (x_Boxes ad1 cs1 r1 (fun _ => 0) (fun _ => 0) (fun _ => 0))) ++ (gw 8 r1 rc1 5 (fun _ _ => 0) ++ [])) := hD
  refine W.widen (k := 15) (n := 156) (by decide) (by decide) ?_
  refine va_putF (D := (dC, dI)) (ci := 1) (v := .ref (ad1 0)) (ty := .object "MarkRecovery$Boxes") (C := R_Dec) (T := T_Dec) (N := 5) hx hb hB in_Dec ty_Dec tyok_Dec nd_Dec hown hK hP hD hS 0 rfl rfl 2 (by decide) (hB _ wd_62) (fun _ h9 => h9) rfl hin rfl (by decide +kernel) rfl rfl (Nat.le_of_ble_eq_true rfl) d_Dec_init_28 (fun H locs hP hD hS => ?_)
  have hP : va_P (dC, dI) vwCl (([(h0, .inr (1, [.ref q1, .ref q2, .ref (ad1 0), .int 0, .int 0])), (q1, .inl (c1, 64, .inl (fun _ => 0))), (q2, .inl (c2, 16, .inl (fun _ => 0)))] ++ (x_Boxes ad1 cs1 r1 (fun _ => 0) (fun _ => 0) (fun _ => 0))) ++ (gw 8 r1 rc1 5 (fun _ _ => 0) ++ [])) H := hP
  have hD : va_D A (([(h0, .inr (1, [.ref q1, .ref q2, .ref (ad1 0), .int 0, .int 0])), (q1, .inl (c1, 64, .inl (fun _ => 0))), (q2, .inl (c2, 16, .inl (fun _ => 0)))] ++ (x_Boxes ad1 cs1 r1 (fun _ => 0) (fun _ => 0) (fun _ => 0))) ++ (gw 8 r1 rc1 5 (fun _ _ => 0) ++ [])) := hD
  have hP : va_P (dC, dI) vwCl ((x_Dec (cat2 3 (lk [h0, q1, q2] 0) ad1) (cat2 3 (lk [0, c1, c2] 0) cs1) r1 0 0 (fun _ => 0) (fun _ => 0) (fun _ => 0) (fun _ => 0) (fun _ => 0)) ++ (gw 8 r1 rc1 5 (fun _ _ => 0) ++ [])) H := hP
  have hD : va_D A ((x_Dec (cat2 3 (lk [h0, q1, q2] 0) ad1) (cat2 3 (lk [0, c1, c2] 0) cs1) r1 0 0 (fun _ => 0) (fun _ => 0) (fun _ => 0) (fun _ => 0) (fun _ => 0)) ++ (gw 8 r1 rc1 5 (fun _ _ => 0) ++ [])) := hD
  exact W.vret hx hb hr (fun t ht hW => ⟨⟨((cat2 3 (lk [h0, q1, q2] 0) ad1), (cat2 3 (lk [0, c1, c2] 0) cs1), r1, rc1), rfl, rfl, AftW_mk hK hP hD ht hW⟩, hS.F ht⟩) hS.2.2 d_Dec_init_31
abbrev rm_MR_init : Room := { frames := 3, cells := 37, slots := 1987, locals := 52 }
set_option maxHeartbeats 4000000 in
set_option maxRecDepth 100000 in
theorem c_MR_init (l : Launch) (dC : Nat → ClassId) (dI : Nat → Nat → Nat) (tt : Nat → Nat) (h0 sz N : Nat) (x1 : Int32) (x2 : Int32) (out : (Nat → Int32) × (Nat → Int32)) (h : d_Map_forgetAll N (fun _ => 0) (fun _ => 0) = some out) :
    Met l y_MR_init (w_MR_init) rm_MR_init (va_Pc [.ref h0, .int x1, .int x2] (PreW (dC, dI) [] ([(h0, .inr (0, [.int 0, .int 0, .null, .null, .null, .null, .int 0, .int 0, .int 0, .int 0, .int 0, .int 0, .int 0]))]) sz tt)) (va_Qv (fun u : (Nat → Nat) × (Nat → ClassId) × (Nat → Nat) × ClassId × (Nat → Nat) × ClassId => u.1 0 = h0) (fun u => AftW (dC, dI) [(u.2.1 1, .int), (u.2.1 2, .array .int), (u.2.1 4, .int), (u.2.1 5, .int), (u.2.1 7, .int), (u.2.1 8, .int), (u.2.1 9, .int), (u.2.1 10, .array .int), (u.2.1 12, .int), (u.2.1 13, .int), (u.2.2.2.1, .int), (u.2.2.2.2.2, .int)] (va_A ([(h0, .inr (0, [.int 0, .int 0, .null, .null, .null, .null, .int 0, .int 0, .int 0, .int 0, .int 0, .int 0, .int 0]))]) sz) ((x_MR u.1 u.2.1 u.2.2.1 u.2.2.2.2.1 (if (0 : Int32) < (if x1 < (2 : Int32) then x1 else (2 : Int32)) then (if x1 < (2 : Int32) then x1 else (2 : Int32)) else (0 : Int32)) (if (1 : Int32) < (if x2 < (65536 : Int32) then x2 else (65536 : Int32)) then (if x2 < (65536 : Int32) then x2 else (65536 : Int32)) else (1 : Int32)) 0 0 0 0 0 0 0 (fun _ => 0) 0 0 (fun _ => 0) (fun _ => 0) (fun _ => 0) (fun _ => 0) (fun _ => 0) out.1 out.2) ++ (gw 8 u.2.2.1 u.2.2.2.1 5 (fun _ _ => 0) ++ gw 16 u.2.2.2.2.1 u.2.2.2.2.2 6 (fun _ _ => 0)))) (va_A ([(h0, .inr (0, [.int 0, .int 0, .null, .null, .null, .null, .int 0, .int 0, .int 0, .int 0, .int 0, .int 0, .int 0]))]) sz)) 37 1987 (va_A ([(h0, .inr (0, [.int 0, .int 0, .null, .null, .null, .null, .int 0, .int 0, .int 0, .int 0, .int 0, .int 0, .int 0]))]) sz) := by
  refine Met.ofW (cc := k_MR_init) (maxL := 3) (ret := none) (by decide) rfl ?_
  intro p e s m args below meth c s₁ B hml hv
  obtain ⟨rfl, hsz, hP, hK, hD0, hG⟩ := hv
  have hx := B.exec
  have hb := B.bytes
  have hr := B.returns
  have hts := atoms_spec (ws := (w_MR_init)) B.pre
  have hB : ∀ w ∈ BIG, w.before _ s = true := fun w h9 => hts w (List.mem_cons_of_mem _ h9)
  have hown : s.vm.findClass R_MR = some m.cls := findClass_of_methodNamed B.named
  have hlocks := B.notSynchronized
  have hin : meth.name = "<init>" := (name_of_methodNamed B.named B.method).1
  subst hsz
  have hD := hD0.self (sz := s.heap.size)
  generalize hAe : va_A ([(h0, .inr (0, [.int 0, .int 0, .null, .null, .null, .null, .int 0, .int 0, .int 0, .int 0, .int 0, .int 0, .int 0]))]) s.heap.size = A at hD hG ⊢
  have hA : ∀ q : Nat, s.heap.size ≤ q → A q := fun q h => by rw [← hAe]; exact Or.inr h
  have hS : va_S A s.heap s.heap [] := va_S.rf
  have hl := lv_entry ([.ref h0, .int x1, .int x2]) (n := 3) (Nat.le_of_ble_eq_true rfl)
  rw [lg_entry_eq]
  generalize (lg_sl ([.ref h0, .int x1, .int x2]) ++ List.replicate (3 - (lg_sl ([.ref h0, .int x1, .int x2])).length) Slot.unset).toArray = ls at hl ⊢
  have hl : lv_has ls 3 [(0, .ref h0), (1, .int x1), (2, .int x2)] := hl
  refine lv_aload_n hx hb d_MR_init_0 rfl (lv_at hl 0 rfl) ?_
  refine W.objInit hx hb hown (hB _ wd_200) (hB _ wd_189) (hB _ wd_190) rfl (by rw [hml]; exact hl.1) rfl d_MR_init_1 (Nat.le_of_ble_eq_true rfl) (Nat.le_of_ble_eq_true rfl) ?_
  refine W.eq (g2 := F0 m 4 ls []) rfl ?_
  refine lv_aload_n hx hb d_MR_init_4 rfl (lv_at hl 0 rfl) ?_
  refine lv_sipush (v := 1200) hx hb d_MR_init_5 (by decide) ?_
  refine va_newa (atype := .int) (a0 := (1200, .inl (fun _ => 0))) hx hb (hB _ wd_191) rfl hK hP hD hS hA (fun _ => rfl) (by decide) (by decide) (by decide) (Nat.le_of_ble_eq_true rfl) (Nat.le_of_ble_eq_true rfl) d_MR_init_8 (fun q1 c1 H hK hP hD hS => ?_)
  have hP : va_P (dC, dI) vwCl ([(h0, .inr (0, [.int 0, .int 0, .null, .null, .null, .null, .int 0, .int 0, .int 0, .int 0, .int 0, .int 0, .int 0])), (q1, .inl (c1, 1200, .inl (fun _ => 0)))]) H := hP
  have hD : va_D A ([(h0, .inr (0, [.int 0, .int 0, .null, .null, .null, .null, .int 0, .int 0, .int 0, .int 0, .int 0, .int 0, .int 0])), (q1, .inl (c1, 1200, .inl (fun _ => 0)))]) := hD
  have hK : va_K (dC, dI) vwCl [(c1, .int)] s := hK
  refine W.widen (k := 1) (n := 1200) (by decide) (by decide) ?_
  refine va_putF (D := (dC, dI)) (ci := 0) (v := .ref q1) (ty := .array .int) (C := R_MR) (T := T_MR) (N := 13) hx hb hB in_MR ty_MR tyok_MR nd_MR hown hK hP hD hS 0 rfl rfl 2 (by decide) (hB _ wd_111) (fun _ h9 => h9) rfl hin rfl (by decide +kernel) rfl rfl (Nat.le_of_ble_eq_true rfl) d_MR_init_10 (fun H locs hP hD hS => ?_)
  have hP : va_P (dC, dI) vwCl ([(h0, .inr (0, [.int 0, .int 0, .ref q1, .null, .null, .null, .int 0, .int 0, .int 0, .int 0, .int 0, .int 0, .int 0])), (q1, .inl (c1, 1200, .inl (fun _ => 0)))]) H := hP
  have hD : va_D A ([(h0, .inr (0, [.int 0, .int 0, .ref q1, .null, .null, .null, .int 0, .int 0, .int 0, .int 0, .int 0, .int 0, .int 0])), (q1, .inl (c1, 1200, .inl (fun _ => 0)))]) := hD
  refine lv_aload_n hx hb d_MR_init_13 rfl (lv_at hl 0 rfl) ?_
  refine lv_bipush (v := 16) hx hb d_MR_init_14 (by decide) ?_
  refine lv_bipush (v := 6) hx hb d_MR_init_16 (by decide) ?_
  obtain ⟨cy2, hcy2⟩ := arrC_find (hB _ wd_191)
  have hP : va_P (dC, dI) vwCl ([(h0, .inr (0, [.int 0, .int 0, .ref q1, .null, .null, .null, .int 0, .int 0, .int 0, .int 0, .int 0, .int 0, .int 0])), (q1, .inl (c1, 1200, .inl (fun _ => 0)))] ++ va_pl [] (fun _ => .inr (0, []))) H := hP
  have hD : va_D A ([(h0, .inr (0, [.int 0, .int 0, .ref q1, .null, .null, .null, .int 0, .int 0, .int 0, .int 0, .int 0, .int 0, .int 0])), (q1, .inl (c1, 1200, .inl (fun _ => 0)))] ++ va_pl [] (fun _ => .inr (0, []))) := hD
  refine va_mna (ty := .int) (N' := 16) (K' := 6) (z := (6, .inl (fun _ => 0))) hx hb hown (clink (hB _ wd_201)) (GG_AO hG) (hB _ wd_191) (hcy2).1 hK hP hD hS hA (by decide) (by decide) (by decide) (by decide) (by decide) (by decide) (by decide) (by decide) (by decide) (Nat.le_of_ble_eq_true rfl) (Nat.le_of_ble_eq_true rfl) (fun _ => rfl) d_MR_init_18 (fun q2 r2 c2 H hri hrl hK hP hD hS => ?_)
  rw [vr_gw] at hP hD
  have hK := hK.app (K_one hK (hcy2).2)
  have hP : va_P (dC, dI) vwCl (([(h0, .inr (0, [.int 0, .int 0, .ref q1, .null, .null, .null, .int 0, .int 0, .int 0, .int 0, .int 0, .int 0, .int 0])), (q1, .inl (c1, 1200, .inl (fun _ => 0))), (q2, .inl (c2, 16, .inr (.inr (.inr (.inr (go 16 r2))))))]) ++ (gw 16 r2 cy2 6 (fun _ _ => 0))) H := hP
  have hD : va_D A (([(h0, .inr (0, [.int 0, .int 0, .ref q1, .null, .null, .null, .int 0, .int 0, .int 0, .int 0, .int 0, .int 0, .int 0])), (q1, .inl (c1, 1200, .inl (fun _ => 0))), (q2, .inl (c2, 16, .inr (.inr (.inr (.inr (go 16 r2))))))]) ++ (gw 16 r2 cy2 6 (fun _ _ => 0))) := hD
  have hK : va_K (dC, dI) vwCl [(c1, .int), (c2, .array .int), (cy2, .int)] s := hK
  refine W.widen (k := 18) (n := 1312) (by decide) (by decide) ?_
  refine va_putF (D := (dC, dI)) (ci := 0) (v := .ref q2) (ty := .array (.array .int)) (C := R_MR) (T := T_MR) (N := 13) hx hb hB in_MR ty_MR tyok_MR nd_MR hown hK hP hD hS 0 rfl rfl 3 (by decide) (hB _ wd_115) (fun _ h9 => h9) rfl hin rfl (by decide +kernel) rfl rfl (Nat.le_of_ble_eq_true rfl) d_MR_init_22 (fun H locs hP hD hS => ?_)
  have hP : va_P (dC, dI) vwCl (([(h0, .inr (0, [.int 0, .int 0, .ref q1, .ref q2, .null, .null, .int 0, .int 0, .int 0, .int 0, .int 0, .int 0, .int 0])), (q1, .inl (c1, 1200, .inl (fun _ => 0))), (q2, .inl (c2, 16, .inr (.inr (.inr (.inr (go 16 r2))))))]) ++ (gw 16 r2 cy2 6 (fun _ _ => 0))) H := hP
  have hD : va_D A (([(h0, .inr (0, [.int 0, .int 0, .ref q1, .ref q2, .null, .null, .int 0, .int 0, .int 0, .int 0, .int 0, .int 0, .int 0])), (q1, .inl (c1, 1200, .inl (fun _ => 0))), (q2, .inl (c2, 16, .inr (.inr (.inr (.inr (go 16 r2))))))]) ++ (gw 16 r2 cy2 6 (fun _ _ => 0))) := hD
  refine lv_aload_n hx hb d_MR_init_25 rfl (lv_at hl 0 rfl) ?_
  refine va_new (ci := 1) (fs := [.null, .null, .null, .int 0, .int 0]) (C := R_Dec) (T := T_Dec) (N := 5) hx hb hB in_Dec ty_Dec tyok_Dec hown (hB _ wd_202) (hB _ wd_203) (hB _ wd_44) hK hP hD hS hA rfl (fun j hj => by rcases (show j = 0 ∨ j = 1 ∨ j = 2 ∨ j = 3 ∨ j = 4 by omega) with rfl | rfl | rfl | rfl | rfl <;> rfl) (Nat.le_of_ble_eq_true rfl) (Nat.le_of_ble_eq_true rfl) d_MR_init_26 (fun q3 H hP hD hS => ?_)
  have hP := hP.swap
  have hD := hD.swap
  have hP : va_P (dC, dI) vwCl (([(h0, .inr (0, [.int 0, .int 0, .ref q1, .ref q2, .null, .null, .int 0, .int 0, .int 0, .int 0, .int 0, .int 0, .int 0])), (q1, .inl (c1, 1200, .inl (fun _ => 0))), (q2, .inl (c2, 16, .inr (.inr (.inr (.inr (go 16 r2)))))), (q3, .inr (1, [.null, .null, .null, .int 0, .int 0]))]) ++ (gw 16 r2 cy2 6 (fun _ _ => 0))) H := hP
  have hD : va_D A (([(h0, .inr (0, [.int 0, .int 0, .ref q1, .ref q2, .null, .null, .int 0, .int 0, .int 0, .int 0, .int 0, .int 0, .int 0])), (q1, .inl (c1, 1200, .inl (fun _ => 0))), (q2, .inl (c2, 16, .inr (.inr (.inr (.inr (go 16 r2)))))), (q3, .inr (1, [.null, .null, .null, .int 0, .int 0]))]) ++ (gw 16 r2 cy2 6 (fun _ _ => 0))) := hD
  refine W.widen (k := 19) (n := 1317) (by decide) (by decide) ?_
  refine lv_dup hx hb d_MR_init_29 rfl ?_
  have hKc := hK.sub (tys' := []) [] rfl
  have hPc := pl_P (cx := [(q3, .inr (1, [.null, .null, .null, .int 0, .int 0]))]) hP [3] rfl
  have hDc := pl_D (cx := [(q3, .inr (1, [.null, .null, .null, .int 0, .int 0]))]) hD [3] (by decide) rfl
  have hFc := pl_F (cx := [(q3, .inr (1, [.null, .null, .null, .int 0, .int 0]))]) hD hS hA [3] rfl
  refine va_callv (va_runIN (As := []) (rest := [.ref q3, .ref h0]) ⟨hx, hb, hml, hown, hB⟩ (c_Dec_init l dC dI tt q3 H.size N) ⟨va_cnB 0 hB (gW wd_204) rfl rfl rfl (hG.1 _ (nw_at (i := 0) rfl)) (hB _ wd_44) (by decide +kernel) ⟨Nat.le_of_ble_eq_true rfl, Nat.le_of_ble_eq_true rfl⟩, rfl, hB _ wd_205⟩ ⟨PreW_blind, PreW_mk hKc hPc hDc hG hS hFc⟩ rfl rfl hl.1 rfl (lv_room (Nat.le_of_ble_eq_true rfl)) d_MR_init_30 ⟨(Nat.le_of_ble_eq_true rfl), (Nat.le_of_ble_eq_true rfl)⟩) hS (fun q _ h => hFc q h) hFc (fun u t H1 locs ht hvm hw hB hz1 hk1 hS => ?_)
  obtain ⟨ad1, cs1, r1, rc1⟩ := u
  obtain ⟨hP1, hK1, hD1⟩ := hB
  rw [ht] at hP1
  have hK1 := va_K.moved hvm.symm hK1
  dsimp only at hw hP1 hK1 hD1
  subst hw
  obtain ⟨hP, hD⟩ := va_joinQ (wr := [(h0, .inr (0, [.int 0, .int 0, .ref q1, .ref q2, .null, .null, .int 0, .int 0, .int 0, .int 0, .int 0, .int 0, .int 0])), (q1, .inl (c1, 1200, .inl (fun _ => 0))), (q2, .inl (c2, 16, .inr (.inr (.inr (.inr (go 16 r2))))))]) (w1 := (x_Dec ad1 cs1 r1 0 0 (fun _ => 0) (fun _ => 0) (fun _ => 0) (fun _ => 0) (fun _ => 0)) ++ (gw 8 r1 rc1 5 (fun _ _ => 0) ++ [])) hP hD [3] [0, 1, 2] rfl rfl (by decide) (by decide) hk1 hFc hP1 hD1
  have hK := hK.app hK1
  generalize H1 = H at hP hS ⊢
  rw [asc1] at hP hD
  have hP : va_P (dC, dI) vwCl (([(h0, .inr (0, [.int 0, .int 0, .ref q1, .ref q2, .null, .null, .int 0, .int 0, .int 0, .int 0, .int 0, .int 0, .int 0])), (q1, .inl (c1, 1200, .inl (fun _ => 0))), (q2, .inl (c2, 16, .inr (.inr (.inr (.inr (go 16 r2))))))] ++ (x_Dec ad1 cs1 r1 0 0 (fun _ => 0) (fun _ => 0) (fun _ => 0) (fun _ => 0) (fun _ => 0))) ++ (gw 8 r1 rc1 5 (fun _ _ => 0) ++ gw 16 r2 cy2 6 (fun _ _ => 0))) H := hP
  have hD : va_D A (([(h0, .inr (0, [.int 0, .int 0, .ref q1, .ref q2, .null, .null, .int 0, .int 0, .int 0, .int 0, .int 0, .int 0, .int 0])), (q1, .inl (c1, 1200, .inl (fun _ => 0))), (q2, .inl (c2, 16, .inr (.inr (.inr (.inr (go 16 r2))))))] ++ (x_Dec ad1 cs1 r1 0 0 (fun _ => 0) (fun _ => 0) (fun _ => 0) (fun _ => 0) (fun _ => 0))) ++ (gw 8 r1 rc1 5 (fun _ _ => 0) ++ gw 16 r2 cy2 6 (fun _ _ => 0))) := hD
  refine W.widen (k := 34) (n := 1473) (by decide) (by decide) ?_
  refine va_putF (D := (dC, dI)) (ci := 0) (v := .ref (ad1 0)) (ty := .object "MarkRecovery$Decoder") (C := R_MR) (T := T_MR) (N := 13) hx hb hB in_MR ty_MR tyok_MR nd_MR hown hK hP hD hS 0 rfl rfl 4 (by decide) (hB _ wd_155) (fun _ h9 => h9) rfl hin rfl (by decide +kernel) rfl rfl (Nat.le_of_ble_eq_true rfl) d_MR_init_33 (fun H locs hP hD hS => ?_)
  have hP : va_P (dC, dI) vwCl (([(h0, .inr (0, [.int 0, .int 0, .ref q1, .ref q2, .ref (ad1 0), .null, .int 0, .int 0, .int 0, .int 0, .int 0, .int 0, .int 0])), (q1, .inl (c1, 1200, .inl (fun _ => 0))), (q2, .inl (c2, 16, .inr (.inr (.inr (.inr (go 16 r2))))))] ++ (x_Dec ad1 cs1 r1 0 0 (fun _ => 0) (fun _ => 0) (fun _ => 0) (fun _ => 0) (fun _ => 0))) ++ (gw 8 r1 rc1 5 (fun _ _ => 0) ++ gw 16 r2 cy2 6 (fun _ _ => 0))) H := hP
  have hD : va_D A (([(h0, .inr (0, [.int 0, .int 0, .ref q1, .ref q2, .ref (ad1 0), .null, .int 0, .int 0, .int 0, .int 0, .int 0, .int 0, .int 0])), (q1, .inl (c1, 1200, .inl (fun _ => 0))), (q2, .inl (c2, 16, .inr (.inr (.inr (.inr (go 16 r2))))))] ++ (x_Dec ad1 cs1 r1 0 0 (fun _ => 0) (fun _ => 0) (fun _ => 0) (fun _ => 0) (fun _ => 0))) ++ (gw 8 r1 rc1 5 (fun _ _ => 0) ++ gw 16 r2 cy2 6 (fun _ _ => 0))) := hD
  refine lv_aload_n hx hb d_MR_init_36 rfl (lv_at hl 0 rfl) ?_
  refine va_new (ci := 3) (fs := [.null, .null]) (C := R_Map) (T := T_Map) (N := 2) hx hb hB in_Map ty_Map tyok_Map hown (hB _ wd_206) (hB _ wd_207) (hB _ wd_4) hK hP hD hS hA rfl (fun j hj => by rcases (show j = 0 ∨ j = 1 by omega) with rfl | rfl <;> rfl) (Nat.le_of_ble_eq_true rfl) (Nat.le_of_ble_eq_true rfl) d_MR_init_37 (fun q4 H hP hD hS => ?_)
  have hP := hP.swap
  have hD := hD.swap
  have hP : va_P (dC, dI) vwCl (([(h0, .inr (0, [.int 0, .int 0, .ref q1, .ref q2, .ref (ad1 0), .null, .int 0, .int 0, .int 0, .int 0, .int 0, .int 0, .int 0])), (q1, .inl (c1, 1200, .inl (fun _ => 0))), (q2, .inl (c2, 16, .inr (.inr (.inr (.inr (go 16 r2))))))] ++ (x_Dec ad1 cs1 r1 0 0 (fun _ => 0) (fun _ => 0) (fun _ => 0) (fun _ => 0) (fun _ => 0)) ++ [(q4, .inr (3, [.null, .null]))]) ++ (gw 8 r1 rc1 5 (fun _ _ => 0) ++ gw 16 r2 cy2 6 (fun _ _ => 0))) H := hP
  have hD : va_D A (([(h0, .inr (0, [.int 0, .int 0, .ref q1, .ref q2, .ref (ad1 0), .null, .int 0, .int 0, .int 0, .int 0, .int 0, .int 0, .int 0])), (q1, .inl (c1, 1200, .inl (fun _ => 0))), (q2, .inl (c2, 16, .inr (.inr (.inr (.inr (go 16 r2))))))] ++ (x_Dec ad1 cs1 r1 0 0 (fun _ => 0) (fun _ => 0) (fun _ => 0) (fun _ => 0) (fun _ => 0)) ++ [(q4, .inr (3, [.null, .null]))]) ++ (gw 8 r1 rc1 5 (fun _ _ => 0) ++ gw 16 r2 cy2 6 (fun _ _ => 0))) := hD
  refine W.widen (k := 35) (n := 1475) (by decide) (by decide) ?_
  refine lv_dup hx hb d_MR_init_40 rfl ?_
  have hKc := hK.sub (tys' := []) [] rfl
  have hPc := pl_P (cx := [(q4, .inr (3, [.null, .null]))]) hP [11] rfl
  have hDc := pl_D (cx := [(q4, .inr (3, [.null, .null]))]) hD [11] (by decide) rfl
  have hFc := pl_F (cx := [(q4, .inr (3, [.null, .null]))]) hD hS hA [11] rfl
  refine va_callv (va_runIN (As := []) (rest := [.ref q4, .ref h0]) ⟨hx, hb, hml, hown, hB⟩ (c_Map_init l dC dI tt q4 H.size N out h) ⟨va_cnB 0 hB (gW wd_208) rfl rfl rfl (hG.1 _ (nw_at (i := 7) rfl)) (hB _ wd_4) (by decide +kernel) ⟨Nat.le_of_ble_eq_true rfl, Nat.le_of_ble_eq_true rfl⟩, rfl, hB _ wd_209⟩ ⟨PreW_blind, PreW_mk hKc hPc hDc hG hS hFc⟩ rfl rfl hl.1 rfl (lv_room (Nat.le_of_ble_eq_true rfl)) d_MR_init_41 ⟨(Nat.le_of_ble_eq_true rfl), (Nat.le_of_ble_eq_true rfl)⟩) hS (fun q _ h => hFc q h) hFc (fun u t H1 locs ht hvm hw hB hz1 hk1 hS => ?_)
  obtain ⟨ad2, cs2⟩ := u
  obtain ⟨hP1, hK1, hD1⟩ := hB
  rw [ht] at hP1
  have hK1 := va_K.moved hvm.symm hK1
  dsimp only at hw hP1 hK1 hD1
  subst hw
  obtain ⟨hP, hD⟩ := va_joinQ (wr := [(h0, .inr (0, [.int 0, .int 0, .ref q1, .ref q2, .ref (ad1 0), .null, .int 0, .int 0, .int 0, .int 0, .int 0, .int 0, .int 0])), (q1, .inl (c1, 1200, .inl (fun _ => 0))), (q2, .inl (c2, 16, .inr (.inr (.inr (.inr (go 16 r2))))))] ++ (x_Dec ad1 cs1 r1 0 0 (fun _ => 0) (fun _ => 0) (fun _ => 0) (fun _ => 0) (fun _ => 0))) (w1 := x_Map ad2 cs2 out.1 out.2) hP hD [11] [0, 1, 2, 3, 4, 5, 6, 7, 8, 9, 10] rfl rfl (by decide) (by decide) hk1 hFc hP1 hD1
  have hK := hK.app hK1
  generalize H1 = H at hP hS ⊢
  have hP : va_P (dC, dI) vwCl ((([(h0, .inr (0, [.int 0, .int 0, .ref q1, .ref q2, .ref (ad1 0), .null, .int 0, .int 0, .int 0, .int 0, .int 0, .int 0, .int 0])), (q1, .inl (c1, 1200, .inl (fun _ => 0))), (q2, .inl (c2, 16, .inr (.inr (.inr (.inr (go 16 r2))))))] ++ (x_Dec ad1 cs1 r1 0 0 (fun _ => 0) (fun _ => 0) (fun _ => 0) (fun _ => 0) (fun _ => 0))) ++ (x_Map ad2 cs2 out.1 out.2)) ++ (gw 8 r1 rc1 5 (fun _ _ => 0) ++ gw 16 r2 cy2 6 (fun _ _ => 0))) H := hP
  have hD : va_D A ((([(h0, .inr (0, [.int 0, .int 0, .ref q1, .ref q2, .ref (ad1 0), .null, .int 0, .int 0, .int 0, .int 0, .int 0, .int 0, .int 0])), (q1, .inl (c1, 1200, .inl (fun _ => 0))), (q2, .inl (c2, 16, .inr (.inr (.inr (.inr (go 16 r2))))))] ++ (x_Dec ad1 cs1 r1 0 0 (fun _ => 0) (fun _ => 0) (fun _ => 0) (fun _ => 0) (fun _ => 0))) ++ (x_Map ad2 cs2 out.1 out.2)) ++ (gw 8 r1 rc1 5 (fun _ _ => 0) ++ gw 16 r2 cy2 6 (fun _ _ => 0))) := hD
  refine W.widen (k := 37) (n := 1987) (by decide) (by decide) ?_
  refine va_putF (D := (dC, dI)) (ci := 0) (v := .ref (ad2 0)) (ty := .object "MarkRecovery$SampleMap") (C := R_MR) (T := T_MR) (N := 13) hx hb hB in_MR ty_MR tyok_MR nd_MR hown hK hP hD hS 0 rfl rfl 5 (by decide) (hB _ wd_146) (fun _ h9 => h9) rfl hin rfl (by decide +kernel) rfl rfl (Nat.le_of_ble_eq_true rfl) d_MR_init_44 (fun H locs hP hD hS => ?_)
  have hP : va_P (dC, dI) vwCl ((([(h0, .inr (0, [.int 0, .int 0, .ref q1, .ref q2, .ref (ad1 0), .ref (ad2 0), .int 0, .int 0, .int 0, .int 0, .int 0, .int 0, .int 0])), (q1, .inl (c1, 1200, .inl (fun _ => 0))), (q2, .inl (c2, 16, .inr (.inr (.inr (.inr (go 16 r2))))))] ++ (x_Dec ad1 cs1 r1 0 0 (fun _ => 0) (fun _ => 0) (fun _ => 0) (fun _ => 0) (fun _ => 0))) ++ (x_Map ad2 cs2 out.1 out.2)) ++ (gw 8 r1 rc1 5 (fun _ _ => 0) ++ gw 16 r2 cy2 6 (fun _ _ => 0))) H := hP
  have hD : va_D A ((([(h0, .inr (0, [.int 0, .int 0, .ref q1, .ref q2, .ref (ad1 0), .ref (ad2 0), .int 0, .int 0, .int 0, .int 0, .int 0, .int 0, .int 0])), (q1, .inl (c1, 1200, .inl (fun _ => 0))), (q2, .inl (c2, 16, .inr (.inr (.inr (.inr (go 16 r2))))))] ++ (x_Dec ad1 cs1 r1 0 0 (fun _ => 0) (fun _ => 0) (fun _ => 0) (fun _ => 0) (fun _ => 0))) ++ (x_Map ad2 cs2 out.1 out.2)) ++ (gw 8 r1 rc1 5 (fun _ _ => 0) ++ gw 16 r2 cy2 6 (fun _ _ => 0))) := hD
  refine lv_aload_n hx hb d_MR_init_47 rfl (lv_at hl 0 rfl) ?_
  refine lv_iconst (v := 0) hx hb d_MR_init_48 (by decide) ?_
  refine lv_iconst (v := 2) hx hb d_MR_init_49 (by decide) ?_
  refine lv_iload_n hx hb d_MR_init_50 rfl (lv_at hl 1 rfl) ?_
  refine va_mmin hx hb (hml.trans hl.1.symm) hown (hB _ wd_210) (hB _ wd_211) (hB _ wd_212) (hB _ wd_213) (Nat.le_of_ble_eq_true rfl) (Nat.le_of_ble_eq_true rfl) (Nat.le_of_ble_eq_true rfl) (Nat.le_of_ble_eq_true rfl) d_MR_init_51 ?_
  refine va_mmax hx hb (hml.trans hl.1.symm) hown (hB _ wd_214) (hB _ wd_215) (hB _ wd_212) (hB _ wd_216) (Nat.le_of_ble_eq_true rfl) (Nat.le_of_ble_eq_true rfl) (Nat.le_of_ble_eq_true rfl) (Nat.le_of_ble_eq_true rfl) d_MR_init_54 ?_
  refine va_putF (D := (dC, dI)) (ci := 0) (v := .int (if (0 : Int32) < (if x1 < (2 : Int32) then x1 else (2 : Int32)) then (if x1 < (2 : Int32) then x1 else (2 : Int32)) else (0 : Int32))) (ty := .int) (C := R_MR) (T := T_MR) (N := 13) hx hb hB in_MR ty_MR tyok_MR nd_MR hown hK hP hD hS 0 rfl rfl 0 (by decide) (hB _ wd_113) (fun _ h9 => h9) rfl hin rfl (by decide +kernel) rfl rfl (Nat.le_of_ble_eq_true rfl) d_MR_init_57 (fun H locs hP hD hS => ?_)
  have hP : va_P (dC, dI) vwCl ((([(h0, .inr (0, [.int (if (0 : Int32) < (if x1 < (2 : Int32) then x1 else (2 : Int32)) then (if x1 < (2 : Int32) then x1 else (2 : Int32)) else (0 : Int32)), .int 0, .ref q1, .ref q2, .ref (ad1 0), .ref (ad2 0), .int 0, .int 0, .int 0, .int 0, .int 0, .int 0, .int 0])), (q1, .inl (c1, 1200, .inl (fun _ => 0))), (q2, .inl (c2, 16, .inr (.inr (.inr (.inr (go 16 r2))))))] ++ (x_Dec ad1 cs1 r1 0 0 (fun _ => 0) (fun _ => 0) (fun _ => 0) (fun _ => 0) (fun _ => 0))) ++ (x_Map ad2 cs2 out.1 out.2)) ++ (gw 8 r1 rc1 5 (fun _ _ => 0) ++ gw 16 r2 cy2 6 (fun _ _ => 0))) H := hP
  have hD : va_D A ((([(h0, .inr (0, [.int (if (0 : Int32) < (if x1 < (2 : Int32) then x1 else (2 : Int32)) then (if x1 < (2 : Int32) then x1 else (2 : Int32)) else (0 : Int32)), .int 0, .ref q1, .ref q2, .ref (ad1 0), .ref (ad2 0), .int 0, .int 0, .int 0, .int 0, .int 0, .int 0, .int 0])), (q1, .inl (c1, 1200, .inl (fun _ => 0))), (q2, .inl (c2, 16, .inr (.inr (.inr (.inr (go 16 r2))))))] ++ (x_Dec ad1 cs1 r1 0 0 (fun _ => 0) (fun _ => 0) (fun _ => 0) (fun _ => 0) (fun _ => 0))) ++ (x_Map ad2 cs2 out.1 out.2)) ++ (gw 8 r1 rc1 5 (fun _ _ => 0) ++ gw 16 r2 cy2 6 (fun _ _ => 0))) := hD
  refine lv_aload_n hx hb d_MR_init_60 rfl (lv_at hl 0 rfl) ?_
  refine lv_iconst (v := 1) hx hb d_MR_init_61 (by decide) ?_
  refine lv_ldc (v := 65536) hx hb hown (hB _ wd_217) d_MR_init_62 ?_
  refine lv_iload_n hx hb d_MR_init_64 rfl (lv_at hl 2 rfl) ?_
  refine va_mmin hx hb (hml.trans hl.1.symm) hown (hB _ wd_210) (hB _ wd_211) (hB _ wd_212) (hB _ wd_213) (Nat.le_of_ble_eq_true rfl) (Nat.le_of_ble_eq_true rfl) (Nat.le_of_ble_eq_true rfl) (Nat.le_of_ble_eq_true rfl) d_MR_init_65 ?_
  refine va_mmax hx hb (hml.trans hl.1.symm) hown (hB _ wd_214) (hB _ wd_215) (hB _ wd_212) (hB _ wd_216) (Nat.le_of_ble_eq_true rfl) (Nat.le_of_ble_eq_true rfl) (Nat.le_of_ble_eq_true rfl) (Nat.le_of_ble_eq_true rfl) d_MR_init_68 ?_
  refine va_putF (D := (dC, dI)) (ci := 0) (v := .int (if (1 : Int32) < (if x2 < (65536 : Int32) then x2 else (65536 : Int32)) then (if x2 < (65536 : Int32) then x2 else (65536 : Int32)) else (1 : Int32))) (ty := .int) (C := R_MR) (T := T_MR) (N := 13) hx hb hB in_MR ty_MR tyok_MR nd_MR hown hK hP hD hS 0 rfl rfl 1 (by decide) (hB _ wd_117) (fun _ h9 => h9) rfl hin rfl (by decide +kernel) rfl rfl (Nat.le_of_ble_eq_true rfl) d_MR_init_71 (fun H locs hP hD hS => ?_)
  have hP : va_P (dC, dI) vwCl ((([(h0, .inr (0, [.int (if (0 : Int32) < (if x1 < (2 : Int32) then x1 else (2 : Int32)) then (if x1 < (2 : Int32) then x1 else (2 : Int32)) else (0 : Int32)), .int (if (1 : Int32) < (if x2 < (65536 : Int32) then x2 else (65536 : Int32)) then (if x2 < (65536 : Int32) then x2 else (65536 : Int32)) else (1 : Int32)), .ref q1, .ref q2, .ref (ad1 0), .ref (ad2 0), .int 0, .int 0, .int 0, .int 0, .int 0, .int 0, .int 0])), (q1, .inl (c1, 1200, .inl (fun _ => 0))), (q2, .inl (c2, 16, .inr (.inr (.inr (.inr (go 16 r2))))))] ++ (x_Dec ad1 cs1 r1 0 0 (fun _ => 0) (fun _ => 0) (fun _ => 0) (fun _ => 0) (fun _ => 0))) ++ (x_Map ad2 cs2 out.1 out.2)) ++ (gw 8 r1 rc1 5 (fun _ _ => 0) ++ gw 16 r2 cy2 6 (fun _ _ => 0))) H := hP
  have hD : va_D A ((([(h0, .inr (0, [.int (if (0 : Int32) < (if x1 < (2 : Int32) then x1 else (2 : Int32)) then (if x1 < (2 : Int32) then x1 else (2 : Int32)) else (0 : Int32)), .int (if (1 : Int32) < (if x2 < (65536 : Int32) then x2 else (65536 : Int32)) then (if x2 < (65536 : Int32) then x2 else (65536 : Int32)) else (1 : Int32)), .ref q1, .ref q2, .ref (ad1 0), .ref (ad2 0), .int 0, .int 0, .int 0, .int 0, .int 0, .int 0, .int 0])), (q1, .inl (c1, 1200, .inl (fun _ => 0))), (q2, .inl (c2, 16, .inr (.inr (.inr (.inr (go 16 r2))))))] ++ (x_Dec ad1 cs1 r1 0 0 (fun _ => 0) (fun _ => 0) (fun _ => 0) (fun _ => 0) (fun _ => 0))) ++ (x_Map ad2 cs2 out.1 out.2)) ++ (gw 8 r1 rc1 5 (fun _ _ => 0) ++ gw 16 r2 cy2 6 (fun _ _ => 0))) := hD
  have hP : va_P (dC, dI) vwCl ((x_MR (cat2 3 (lk [h0, q1, q2] 0) (cat2 8 ad1 ad2)) (cat2 3 (lk [0, c1, c2] 0) (cat2 8 cs1 cs2)) r1 r2 (if (0 : Int32) < (if x1 < (2 : Int32) then x1 else (2 : Int32)) then (if x1 < (2 : Int32) then x1 else (2 : Int32)) else (0 : Int32)) (if (1 : Int32) < (if x2 < (65536 : Int32) then x2 else (65536 : Int32)) then (if x2 < (65536 : Int32) then x2 else (65536 : Int32)) else (1 : Int32)) 0 0 0 0 0 0 0 (fun _ => 0) 0 0 (fun _ => 0) (fun _ => 0) (fun _ => 0) (fun _ => 0) (fun _ => 0) out.1 out.2) ++ (gw 8 r1 rc1 5 (fun _ _ => 0) ++ gw 16 r2 cy2 6 (fun _ _ => 0))) H := hP
  have hD : va_D A ((x_MR (cat2 3 (lk [h0, q1, q2] 0) (cat2 8 ad1 ad2)) (cat2 3 (lk [0, c1, c2] 0) (cat2 8 cs1 cs2)) r1 r2 (if (0 : Int32) < (if x1 < (2 : Int32) then x1 else (2 : Int32)) then (if x1 < (2 : Int32) then x1 else (2 : Int32)) else (0 : Int32)) (if (1 : Int32) < (if x2 < (65536 : Int32) then x2 else (65536 : Int32)) then (if x2 < (65536 : Int32) then x2 else (65536 : Int32)) else (1 : Int32)) 0 0 0 0 0 0 0 (fun _ => 0) 0 0 (fun _ => 0) (fun _ => 0) (fun _ => 0) (fun _ => 0) (fun _ => 0) out.1 out.2) ++ (gw 8 r1 rc1 5 (fun _ _ => 0) ++ gw 16 r2 cy2 6 (fun _ _ => 0))) := hD
  have hK := hK.sub (tys' := [((cat2 3 (lk [0, c1, c2] 0) (cat2 8 cs1 cs2)) 1, .int), ((cat2 3 (lk [0, c1, c2] 0) (cat2 8 cs1 cs2)) 2, .array .int), ((cat2 3 (lk [0, c1, c2] 0) (cat2 8 cs1 cs2)) 4, .int), ((cat2 3 (lk [0, c1, c2] 0) (cat2 8 cs1 cs2)) 5, .int), ((cat2 3 (lk [0, c1, c2] 0) (cat2 8 cs1 cs2)) 7, .int), ((cat2 3 (lk [0, c1, c2] 0) (cat2 8 cs1 cs2)) 8, .int), ((cat2 3 (lk [0, c1, c2] 0) (cat2 8 cs1 cs2)) 9, .int), ((cat2 3 (lk [0, c1, c2] 0) (cat2 8 cs1 cs2)) 10, .array .int), ((cat2 3 (lk [0, c1, c2] 0) (cat2 8 cs1 cs2)) 12, .int), ((cat2 3 (lk [0, c1, c2] 0) (cat2 8 cs1 cs2)) 13, .int), (rc1, .int), (cy2, .int)]) [0, 1, 3, 4, 5, 6, 7, 8, 10, 11, 9, 2] rfl
  exact W.vret hx hb hr (fun t ht hW => ⟨⟨((cat2 3 (lk [h0, q1, q2] 0) (cat2 8 ad1 ad2)), (cat2 3 (lk [0, c1, c2] 0) (cat2 8 cs1 cs2)), r1, rc1, r2, cy2), rfl, rfl, AftW_mk hK hP hD ht hW⟩, hS.F ht⟩) hS.2.2 d_MR_init_74
