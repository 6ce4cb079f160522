def d_Mod_boxed_J118 (N : Nat) (j118_1 : Int32) (j118_3 : Int32) (j118_4 : Int32) (m_end : Int32) (m_bytes : Nat → Int32) (m_at_j118 : Int32) (m_many_j118 : Int32) (m_wrong_j118 : Int32) (m_came_j118 : Nat → Int32) (m_boxes_j118 : Nat → Int32) (m_single_j118 : Nat → Int32) (m_rows_j118 : Nat → Int32) : Option (Int32 × Int32 × Int32 × (Nat → Int32) × (Nat → Int32) × (Nat → Int32) × (Nat → Int32)) :=
  if j118_1 = 0 then gI j118_3 8 (some (m_at_j118, m_many_j118, m_wrong_j118, m_came_j118, upd m_boxes_j118 j118_3.toNatClampNeg (-1 : Int32), upd m_single_j118 j118_3.toNatClampNeg j118_4, m_rows_j118)) else if j118_1 = 1 then (d_Mod_makeRow N j118_3 ((j118_4 - j118_4 / (8 : Int32) * (8 : Int32)) - (2 : Int32)) m_wrong_j118 m_boxes_j118 m_rows_j118).bind (fun o218004 => some (m_at_j118, m_many_j118, o218004.1, m_came_j118, o218004.2.1, m_single_j118, o218004.2.2)) else if j118_1 = 2 then gI j118_3 8 ((d_Mod_give N (m_single_j118 j118_3.toNatClampNeg) m_many_j118 m_wrong_j118 m_came_j118).bind (fun o218007 => some (m_at_j118, o218007.1, m_wrong_j118, o218007.2, m_boxes_j118, m_single_j118, m_rows_j118))) else if j118_1 = 3 then gI j118_3 8 ((d_Mod_give N (m_boxes_j118 j118_3.toNatClampNeg) m_many_j118 m_wrong_j118 m_came_j118).bind (fun o218010 => some (m_at_j118, o218010.1, m_wrong_j118, o218010.2, m_boxes_j118, m_single_j118, m_rows_j118))) else if j118_1 = 4 then if m_wrong_j118 = 0 then if m_many_j118 = 0 then gI (((8 : Int32) * j118_3) + j118_4) 64 (some (m_at_j118, m_many_j118, m_wrong_j118, m_came_j118, m_boxes_j118, m_single_j118, upd m_rows_j118 (((8 : Int32) * j118_3) + j118_4).toNatClampNeg (0 : Int32))) else gI (m_many_j118 - (1 : Int32)) 16 (gI (((8 : Int32) * j118_3) + j118_4) 64 (some (m_at_j118, m_many_j118, m_wrong_j118, m_came_j118, m_boxes_j118, m_single_j118, upd m_rows_j118 (((8 : Int32) * j118_3) + j118_4).toNatClampNeg (m_came_j118 (m_many_j118 - (1 : Int32)).toNatClampNeg)))) else some (m_at_j118, m_many_j118, m_wrong_j118, m_came_j118, m_boxes_j118, m_single_j118, m_rows_j118) else if j118_1 = 5 then if m_wrong_j118 = 0 then gI (((8 : Int32) * j118_3) + j118_4) 64 ((d_Mod_give N (m_rows_j118 (((8 : Int32) * j118_3) + j118_4).toNatClampNeg) m_many_j118 m_wrong_j118 m_came_j118).bind (fun o218021 => some (m_at_j118, o218021.1, m_wrong_j118, o218021.2, m_boxes_j118, m_single_j118, m_rows_j118))) else (d_Mod_give N (0 : Int32) m_many_j118 m_wrong_j118 m_came_j118).bind (fun o218019 => some (m_at_j118, o218019.1, m_wrong_j118, o218019.2, m_boxes_j118, m_single_j118, m_rows_j118)) else if j118_1 = 6 then gI j118_3 8 (some (m_at_j118, m_many_j118, m_wrong_j118, m_came_j118, upd m_boxes_j118 j118_3.toNatClampNeg (-2 : Int32), m_single_j118, m_rows_j118)) else (d_Mod_fail N (6 : Int32) m_wrong_j118).bind (fun o218024 => some (m_at_j118, m_many_j118, o218024, m_came_j118, m_boxes_j118, m_single_j118, m_rows_j118))
def d_Mod_boxed (N : Nat) (m_at : Int32) (m_end : Int32) (m_many : Int32) (m_wrong : Int32) (m_bytes : Nat → Int32) (m_came : Nat → Int32) (m_boxes : Nat → Int32) (m_single : Nat → Int32) (m_rows : Nat → Int32) : Option (Int32 × Int32 × Int32 × (Nat → Int32) × (Nat → Int32) × (Nat → Int32) × (Nat → Int32)) :=
 (d_Mod_take N m_at m_end m_wrong m_bytes).bind (fun o1 => (d_Mod_take N o1.2.1 m_end o1.2.2 m_bytes).bind (fun o2 => if o2.2.2 ≤ 0 then if (o1.1 - o1.1 / (8 : Int32) * (8 : Int32)) < (2 : Int32) then d_Mod_boxed_J118 N (o1.1 - o1.1 / (8 : Int32) * (8 : Int32)) (o2.1 - o2.1 / (8 : Int32) * (8 : Int32)) (o2.1 / (8 : Int32)) m_end m_bytes o2.2.1 m_many o2.2.2 m_came m_boxes m_single m_rows else if (5 : Int32) < (o1.1 - o1.1 / (8 : Int32) * (8 : Int32)) then d_Mod_boxed_J118 N (o1.1 - o1.1 / (8 : Int32) * (8 : Int32)) (o2.1 - o2.1 / (8 : Int32) * (8 : Int32)) (o2.1 / (8 : Int32)) m_end m_bytes o2.2.1 m_many o2.2.2 m_came m_boxes m_single m_rows else gI (o2.1 - o2.1 / (8 : Int32) * (8 : Int32)) 8 (if (m_boxes (o2.1 - o2.1 / (8 : Int32) * (8 : Int32)).toNatClampNeg) = (-2 : Int32) then (d_Mod_fail N (3 : Int32) o2.2.2).bind (fun o23 => d_Mod_boxed_J118 N (o1.1 - o1.1 / (8 : Int32) * (8 : Int32)) (o2.1 - o2.1 / (8 : Int32) * (8 : Int32)) (o2.1 / (8 : Int32)) m_end m_bytes o2.2.1 m_many o23 m_came m_boxes m_single m_rows) else if (m_boxes (o2.1 - o2.1 / (8 : Int32) * (8 : Int32)).toNatClampNeg) = (-1 : Int32) then if (o1.1 - o1.1 / (8 : Int32) * (8 : Int32)) = (2 : Int32) then if (o1.1 - o1.1 / (8 : Int32) * (8 : Int32)) < (4 : Int32) then d_Mod_boxed_J118 N (o1.1 - o1.1 / (8 : Int32) * (8 : Int32)) (o2.1 - o2.1 / (8 : Int32) * (8 : Int32)) (o2.1 / (8 : Int32)) m_end m_bytes o2.2.1 m_many o2.2.2 m_came m_boxes m_single m_rows else if (o2.1 / (8 : Int32)) < (m_boxes (o2.1 - o2.1 / (8 : Int32) * (8 : Int32)).toNatClampNeg) then d_Mod_boxed_J118 N (o1.1 - o1.1 / (8 : Int32) * (8 : Int32)) (o2.1 - o2.1 / (8 : Int32) * (8 : Int32)) (o2.1 / (8 : Int32)) m_end m_bytes o2.2.1 m_many o2.2.2 m_came m_boxes m_single m_rows else (d_Mod_fail N (1 : Int32) o2.2.2).bind (fun o22 => d_Mod_boxed_J118 N (o1.1 - o1.1 / (8 : Int32) * (8 : Int32)) (o2.1 - o2.1 / (8 : Int32) * (8 : Int32)) (o2.1 / (8 : Int32)) m_end m_bytes o2.2.1 m_many o22 m_came m_boxes m_single m_rows) else (d_Mod_fail N (4 : Int32) o2.2.2).bind (fun o18 => d_Mod_boxed_J118 N (o1.1 - o1.1 / (8 : Int32) * (8 : Int32)) (o2.1 - o2.1 / (8 : Int32) * (8 : Int32)) (o2.1 / (8 : Int32)) m_end m_bytes o2.2.1 m_many o18 m_came m_boxes m_single m_rows) else if (o1.1 - o1.1 / (8 : Int32) * (8 : Int32)) = (2 : Int32) then (d_Mod_fail N (4 : Int32) o2.2.2).bind (fun o15 => d_Mod_boxed_J118 N (o1.1 - o1.1 / (8 : Int32) * (8 : Int32)) (o2.1 - o2.1 / (8 : Int32) * (8 : Int32)) (o2.1 / (8 : Int32)) m_end m_bytes o2.2.1 m_many o15 m_came m_boxes m_single m_rows) else if (o1.1 - o1.1 / (8 : Int32) * (8 : Int32)) < (4 : Int32) then d_Mod_boxed_J118 N (o1.1 - o1.1 / (8 : Int32) * (8 : Int32)) (o2.1 - o2.1 / (8 : Int32) * (8 : Int32)) (o2.1 / (8 : Int32)) m_end m_bytes o2.2.1 m_many o2.2.2 m_came m_boxes m_single m_rows else if (o2.1 / (8 : Int32)) < (m_boxes (o2.1 - o2.1 / (8 : Int32) * (8 : Int32)).toNatClampNeg) then d_Mod_boxed_J118 N (o1.1 - o1.1 / (8 : Int32) * (8 : Int32)) (o2.1 - o2.1 / (8 : Int32) * (8 : Int32)) (o2.1 / (8 : Int32)) m_end m_bytes o2.2.1 m_many o2.2.2 m_came m_boxes m_single m_rows else (d_Mod_fail N (1 : Int32) o2.2.2).bind (fun o13 => d_Mod_boxed_J118 N (o1.1 - o1.1 / (8 : Int32) * (8 : Int32)) (o2.1 - o2.1 / (8 : Int32) * (8 : Int32)) (o2.1 / (8 : Int32)) m_end m_bytes o2.2.1 m_many o13 m_came m_boxes m_single m_rows)) else some (o2.2.1, m_many, o2.2.2, m_came, m_boxes, m_single, m_rows)))
abbrev rm_Mod_boxed : Room := { frames := 2, cells := 0, slots := 0, locals := 44 }
set_option maxHeartbeats 4000000 in
set_option maxRecDepth 100000 in
theorem c_Mod_boxed (l : Launch) (dC : Nat → ClassId) (dI : Nat → Nat → Nat) (tt : Nat → Nat) (ad : Nat → Nat) (cs : Nat → ClassId) (sz N : Nat) (m_thrown : Int32) (m_kind : Int32) (m_steps : Int32) (m_size : Int32) (m_ran : Int32) (m_parts : Int32) (m_taken : Int32) (m_lacked : Int32) (m_decodings : Int32) (m_failures : Int32) (m_at : Int32) (m_end : Int32) (m_many : Int32) (m_wrong : Int32) (m_bytes : Nat → Int32) (m_heads : Nat → Int32) (m_numbers : Nat → Int32) (m_codes : Nat → Int32) (m_sizes : Nat → Int32) (m_guessed : Nat → Int32) (m_results : Nat → Int32) (m_values : Nat → Int32) (m_states : Nat → Int32) (m_came : Nat → Int32) (m_boxes : Nat → Int32) (m_single : Nat → Int32) (m_rows : Nat → Int32) (out : Int32 × Int32 × Int32 × (Nat → Int32) × (Nat → Int32) × (Nat → Int32) × (Nat → Int32)) (h : d_Mod_boxed N m_at m_end m_many m_wrong m_bytes m_came m_boxes m_single m_rows = some out) :
    Met l y_Mod_boxed (w_Mod_boxed) rm_Mod_boxed (va_Pc [.ref (ad 0)] (PreW (dC, dI) [((cs 1), .int), ((cs 2), .int), ((cs 3), .int), ((cs 4), .int), ((cs 5), .int), ((cs 6), .boolean), ((cs 7), .int), ((cs 8), .int), ((cs 9), .int), ((cs 10), .int), ((cs 11), .int), ((cs 12), .int), ((cs 13), .int)] (x_Mod ad cs m_thrown m_kind m_steps m_size m_ran m_parts m_taken m_lacked m_decodings m_failures m_at m_end m_many m_wrong m_bytes m_heads m_numbers m_codes m_sizes m_guessed m_results m_values m_states m_came m_boxes m_single m_rows) sz tt)) (va_Qv (fun (_ : Unit) => True) (fun _ => AftW (dC, dI) [((cs 1), .int), ((cs 2), .int), ((cs 3), .int), ((cs 4), .int), ((cs 5), .int), ((cs 6), .boolean), ((cs 7), .int), ((cs 8), .int), ((cs 9), .int), ((cs 10), .int), ((cs 11), .int), ((cs 12), .int), ((cs 13), .int)] (va_A (x_Mod ad cs m_thrown m_kind m_steps m_size m_ran m_parts m_taken m_lacked m_decodings m_failures m_at m_end m_many m_wrong m_bytes m_heads m_numbers m_codes m_sizes m_guessed m_results m_values m_states m_came m_boxes m_single m_rows) sz) (x_Mod ad cs m_thrown m_kind m_steps m_size m_ran m_parts m_taken m_lacked m_decodings m_failures out.1 m_end out.2.1 out.2.2.1 m_bytes m_heads m_numbers m_codes m_sizes m_guessed m_results m_values m_states out.2.2.2.1 out.2.2.2.2.1 out.2.2.2.2.2.1 out.2.2.2.2.2.2)) (va_A (x_Mod ad cs m_thrown m_kind m_steps m_size m_ran m_parts m_taken m_lacked m_decodings m_failures m_at m_end m_many m_wrong m_bytes m_heads m_numbers m_codes m_sizes m_guessed m_results m_values m_states m_came m_boxes m_single m_rows) sz)) 0 0 (va_A (x_Mod ad cs m_thrown m_kind m_steps m_size m_ran m_parts m_taken m_lacked m_decodings m_failures m_at m_end m_many m_wrong m_bytes m_heads m_numbers m_codes m_sizes m_guessed m_results m_values m_states m_came m_boxes m_single m_rows) sz) := by
  refine Met.ofW (cc := k_Mod_boxed) (maxL := 5) (ret := none) (by decide) rfl ?_
  intro p e s m args below meth c s₁ B hml hv
  obtain ⟨rfl, hsz, hP, hK, hD0, hG⟩ := hv
  have hx := B.exec
  have hb := B.bytes
  have hr := B.returns
  have hts := atoms_spec (ws := (w_Mod_boxed)) B.pre
  have hB : ∀ w ∈ BIG, w.before _ s = true := fun w h9 => hts w (List.mem_cons_of_mem _ h9)
  have hown : s.vm.findClass R_Mod = some m.cls := findClass_of_methodNamed B.named
  have hlocks := B.notSynchronized
  subst hsz
  have hD := hD0.self (sz := s.heap.size)
  generalize hAe : va_A (x_Mod ad cs m_thrown m_kind m_steps m_size m_ran m_parts m_taken m_lacked m_decodings m_failures m_at m_end m_many m_wrong m_bytes m_heads m_numbers m_codes m_sizes m_guessed m_results m_values m_states m_came m_boxes m_single m_rows) s.heap.size = A at hD hG ⊢
  have hA : ∀ q : Nat, s.heap.size ≤ q → A q := fun q h => by rw [← hAe]; exact Or.inr h
  have hS : va_S A s.heap s.heap [] := va_S.rf
  have hl := lv_entry ([.ref (ad 0)]) (n := 5) (Nat.le_of_ble_eq_true rfl)
  rw [lg_entry_eq]
  generalize (lg_sl ([.ref (ad 0)]) ++ List.replicate (5 - (lg_sl ([.ref (ad 0)])).length) Slot.unset).toArray = ls at hl ⊢
  have hl : lv_has ls 5 [(0, .ref (ad 0))] := hl
  unfold d_Mod_boxed at h
  have J118 : ∀ (j118_1 : Int32) (j118_3 : Int32) (j118_4 : Int32) (m_at_j118 : Int32) (m_many_j118 : Int32) (m_wrong_j118 : Int32) (m_came_j118 : Nat → Int32) (m_boxes_j118 : Nat → Int32) (m_single_j118 : Nat → Int32) (m_rows_j118 : Nat → Int32) (H : Heap) (locs : List Loc) (ls : Array Slot), lv_has ls 5 [(0, .ref (ad 0)), (1, .int j118_1), (3, .int j118_3), (4, .int j118_4)] → va_P (dC, dI) vwCl (x_Mod ad cs m_thrown m_kind m_steps m_size m_ran m_parts m_taken m_lacked m_decodings m_failures m_at_j118 m_end m_many_j118 m_wrong_j118 m_bytes m_heads m_numbers m_codes m_sizes m_guessed m_results m_values m_states m_came_j118 m_boxes_j118 m_single_j118 m_rows_j118) H → va_D A (x_Mod ad cs m_thrown m_kind m_steps m_size m_ran m_parts m_taken m_lacked m_decodings m_failures m_at_j118 m_end m_many_j118 m_wrong_j118 m_bytes m_heads m_numbers m_codes m_sizes m_guessed m_results m_values m_states m_came_j118 m_boxes_j118 m_single_j118 m_rows_j118) → va_S A s.heap H locs → d_Mod_boxed_J118 N j118_1 j118_3 j118_4 m_end m_bytes m_at_j118 m_many_j118 m_wrong_j118 m_came_j118 m_boxes_j118 m_single_j118 m_rows_j118 = some out → W p l e (headSpec (w_Mod_boxed) rm_Mod_boxed).room s m ([.ref (ad 0)] : List Value).toArray below meth c H locs 0 0 (MQ below (va_Qv (fun (_ : Unit) => True) (fun _ => AftW (dC, dI) [((cs 1), .int), ((cs 2), .int), ((cs 3), .int), ((cs 4), .int), ((cs 5), .int), ((cs 6), .boolean), ((cs 7), .int), ((cs 8), .int), ((cs 9), .int), ((cs 10), .int), ((cs 11), .int), ((cs 12), .int), ((cs 13), .int)] A (x_Mod ad cs m_thrown m_kind m_steps m_size m_ran m_parts m_taken m_lacked m_decodings m_failures out.1 m_end out.2.1 out.2.2.1 m_bytes m_heads m_numbers m_codes m_sizes m_guessed m_results m_values m_states out.2.2.2.1 out.2.2.2.2.1 out.2.2.2.2.2.1 out.2.2.2.2.2.2)) A) ([.ref (ad 0)] : List Value).toArray s 0 0 A) (F0 m 118 ls []) := by
    intro j118_1 j118_3 j118_4 m_at_j118 m_many_j118 m_wrong_j118 m_came_j118 m_boxes_j118 m_single_j118 m_rows_j118 H locs ls hl hP hD hS h
    unfold d_Mod_boxed_J118 at h
    refine lv_iload_n hx hb d_Mod_boxed_118 rfl (lv_at hl 1 rfl) ?_
    by_cases c_218001 : j118_1 = 0
    · have h := (if_pos c_218001).symm.trans h
      refine lv_tableIn (tgt := 160) hx hb d_Mod_boxed_119 (by rw [c_218001]; decide) (by rw [c_218001]; decide) (by first | (rw [c_218001]; done) | (rw [c_218001]; rfl)) (by decide) ?_
      refine lv_aload_n hx hb d_Mod_boxed_160 rfl (lv_at hl 0 rfl) ?_
      refine va_get (D := (dC, dI)) (ci := 4) (v := .ref (ad 11)) (C := R_Mod) (T := T_Mod) (N := 27) hx hb hB in_Mod hown hK hP 0 rfl rfl 24 (by decide) (hB _ wd_262) (fun _ h9 => h9) rfl d_Mod_boxed_161 ?_
      refine lv_iload_n hx hb d_Mod_boxed_164 rfl (lv_at hl 2 rfl) ?_
      refine lv_iconst (v := (-1)) hx hb d_Mod_boxed_165 (by decide) ?_
      obtain ⟨b_218002, h⟩ := gI_some h
      refine va_iast hx hb hK hP hD hS 11 10 rfl rfl b_218002 d_Mod_boxed_166 (fun H locs hP hD hS => ?_)
      have hP : va_P (dC, dI) vwCl (x_Mod ad cs m_thrown m_kind m_steps m_size m_ran m_parts m_taken m_lacked m_decodings m_failures m_at_j118 m_end m_many_j118 m_wrong_j118 m_bytes m_heads m_numbers m_codes m_sizes m_guessed m_results m_values m_states m_came_j118 (upd m_boxes_j118 j118_3.toNatClampNeg (-1 : Int32)) m_single_j118 m_rows_j118) H := hP
      have hD : va_D A (x_Mod ad cs m_thrown m_kind m_steps m_size m_ran m_parts m_taken m_lacked m_decodings m_failures m_at_j118 m_end m_many_j118 m_wrong_j118 m_bytes m_heads m_numbers m_codes m_sizes m_guessed m_results m_values m_states m_came_j118 (upd m_boxes_j118 j118_3.toNatClampNeg (-1 : Int32)) m_single_j118 m_rows_j118) := hD
      refine lv_aload_n hx hb d_Mod_boxed_167 rfl (lv_at hl 0 rfl) ?_
      refine va_get (D := (dC, dI)) (ci := 4) (v := .ref (ad 12)) (C := R_Mod) (T := T_Mod) (N := 27) hx hb hB in_Mod hown hK hP 0 rfl rfl 25 (by decide) (hB _ wd_264) (fun _ h9 => h9) rfl d_Mod_boxed_168 ?_
      refine lv_iload_n hx hb d_Mod_boxed_171 rfl (lv_at hl 2 rfl) ?_
      refine lv_iload hx hb d_Mod_boxed_172 (lv_at hl 3 rfl) ?_
      refine va_iast hx hb hK hP hD hS 12 11 rfl rfl b_218002 d_Mod_boxed_174 (fun H locs hP hD hS => ?_)
      have hP : va_P (dC, dI) vwCl (x_Mod ad cs m_thrown m_kind m_steps m_size m_ran m_parts m_taken m_lacked m_decodings m_failures m_at_j118 m_end m_many_j118 m_wrong_j118 m_bytes m_heads m_numbers m_codes m_sizes m_guessed m_results m_values m_states m_came_j118 (upd m_boxes_j118 j118_3.toNatClampNeg (-1 : Int32)) (upd m_single_j118 j118_3.toNatClampNeg j118_4) m_rows_j118) H := hP
      have hD : va_D A (x_Mod ad cs m_thrown m_kind m_steps m_size m_ran m_parts m_taken m_lacked m_decodings m_failures m_at_j118 m_end m_many_j118 m_wrong_j118 m_bytes m_heads m_numbers m_codes m_sizes m_guessed m_results m_values m_states m_came_j118 (upd m_boxes_j118 j118_3.toNatClampNeg (-1 : Int32)) (upd m_single_j118 j118_3.toNatClampNeg j118_4) m_rows_j118) := hD
      refine lv_goto (tgt := 310) hx hb d_Mod_boxed_175 (by decide) ?_
      have h := Option.some.inj h
      subst h
      exact W.vret hx hb hr (fun t ht hW => ⟨⟨(), rfl, trivial, AftW_mk hK hP hD ht hW⟩, hS.F ht⟩) hS.2.2 d_Mod_boxed_310
    have h := (if_neg c_218001).symm.trans h
    by_cases c_218003 : j118_1 = 1
    · have h := (if_pos c_218003).symm.trans h
      refine lv_tableIn (tgt := 178) hx hb d_Mod_boxed_119 (by rw [c_218003]; decide) (by rw [c_218003]; decide) (by first | (rw [c_218003]; done) | (rw [c_218003]; rfl)) (by decide) ?_
      refine lv_aload_n hx hb d_Mod_boxed_178 rfl (lv_at hl 0 rfl) ?_
      refine lv_iload_n hx hb d_Mod_boxed_179 rfl (lv_at hl 2 rfl) ?_
      refine lv_iload hx hb d_Mod_boxed_180 (lv_at hl 3 rfl) ?_
      refine lv_bipush (v := 8) hx hb d_Mod_boxed_182 (by decide) ?_
      refine lv_irem hx hb d_Mod_boxed_184 (by decide) ?_
      refine lv_iconst (v := 2) hx hb d_Mod_boxed_185 (by decide) ?_
      refine lv_isub hx hb d_Mod_boxed_186 ?_
      obtain ⟨o218004, ho218004, h⟩ := Option.bind_eq_some_iff.mp h
      have hKc := hK.sub (tys' := [((cs 1), .int), ((cs 2), .int), ((cs 3), .int), ((cs 4), .int), ((cs 5), .int), ((cs 6), .boolean), ((cs 7), .int), ((cs 8), .int), ((cs 9), .int), ((cs 10), .int), ((cs 11), .int), ((cs 12), .int), ((cs 13), .int)]) [0, 1, 2, 3, 4, 5, 6, 7, 8, 9, 10, 11, 12] rfl
      have hPc := hP.sub (ws' := x_Mod ad cs m_thrown m_kind m_steps m_size m_ran m_parts m_taken m_lacked m_decodings m_failures m_at_j118 m_end m_many_j118 m_wrong_j118 m_bytes m_heads m_numbers m_codes m_sizes m_guessed m_results m_values m_states m_came_j118 m_boxes_j118 m_single_j118 m_rows_j118) [0, 1, 2, 3, 4, 5, 6, 7, 8, 9, 10, 11, 12, 13] rfl
      have hDc := hD.sub (ws' := x_Mod ad cs m_thrown m_kind m_steps m_size m_ran m_parts m_taken m_lacked m_decodings m_failures m_at_j118 m_end m_many_j118 m_wrong_j118 m_bytes m_heads m_numbers m_codes m_sizes m_guessed m_results m_values m_states m_came_j118 m_boxes_j118 m_single_j118 m_rows_j118) [0, 1, 2, 3, 4, 5, 6, 7, 8, 9, 10, 11, 12, 13] (by decide) rfl
      have hFc := va_free (wc := x_Mod ad cs m_thrown m_kind m_steps m_size m_ran m_parts m_taken m_lacked m_decodings m_failures m_at_j118 m_end m_many_j118 m_wrong_j118 m_bytes m_heads m_numbers m_codes m_sizes m_guessed m_results m_values m_states m_came_j118 m_boxes_j118 m_single_j118 m_rows_j118) hD hS hA [0, 1, 2, 3, 4, 5, 6, 7, 8, 9, 10, 11, 12, 13] rfl
      refine va_callv (va_runV (As := [.int j118_3, .int ((j118_4 - j118_4 / (8 : Int32) * (8 : Int32)) - (2 : Int32))]) (rest := []) ⟨hx, hb, hml, hown, hB⟩ (c_Mod_makeRow l dC dI tt ad cs H.size N j118_3 ((j118_4 - j118_4 / (8 : Int32) * (8 : Int32)) - (2 : Int32)) m_thrown m_kind m_steps m_size m_ran m_parts m_taken m_lacked m_decodings m_failures m_at_j118 m_end m_many_j118 m_wrong_j118 m_bytes m_heads m_numbers m_codes m_sizes m_guessed m_results m_values m_states m_came_j118 m_boxes_j118 m_single_j118 m_rows_j118 o218004 ho218004) (cwV 2 hB (gV wd_268 wd_266 wd_265 wd_226 wd_267) rfl rfl rfl (by decide +kernel) ⟨Nat.le_of_ble_eq_true rfl, Nat.le_of_ble_eq_true rfl⟩) ⟨PreW_blind, va_recv hKc hPc (ci := 4) (q0 := 0) rfl rfl, PreW_mk hKc hPc hDc hG hS hFc⟩ rfl rfl hl.1 rfl (lv_room (Nat.le_of_ble_eq_true rfl)) d_Mod_boxed_187 ⟨Nat.le_of_ble_eq_true rfl, Nat.le_of_ble_eq_true rfl⟩) hS (fun q _ h => hFc q h) hFc (fun u_218004 t H1 locs ht hvm hw hB hz1 hk1 hS => ?_)
      obtain ⟨hP1, hK1, hD1⟩ := hB
      rw [ht] at hP1
      obtain ⟨hP, hD⟩ := va_join (wr := pick (x_Mod ad cs m_thrown m_kind m_steps m_size m_ran m_parts m_taken m_lacked m_decodings m_failures m_at_j118 m_end m_many_j118 m_wrong_j118 m_bytes m_heads m_numbers m_codes m_sizes m_guessed m_results m_values m_states m_came_j118 m_boxes_j118 m_single_j118 m_rows_j118) []) hP hD [0, 1, 2, 3, 4, 5, 6, 7, 8, 9, 10, 11, 12, 13] [] rfl rfl (by decide) (by decide) hk1 hFc hP1 hD1
      generalize H1 = H at hP hS ⊢
      have hP : va_P (dC, dI) vwCl (x_Mod ad cs m_thrown m_kind m_steps m_size m_ran m_parts m_taken m_lacked m_decodings m_failures m_at_j118 m_end m_many_j118 o218004.1 m_bytes m_heads m_numbers m_codes m_sizes m_guessed m_results m_values m_states m_came_j118 o218004.2.1 m_single_j118 o218004.2.2) H := hP.sub [0, 1, 2, 3, 4, 5, 6, 7, 8, 9, 10, 11, 12, 13] rfl
      have hD : va_D A (x_Mod ad cs m_thrown m_kind m_steps m_size m_ran m_parts m_taken m_lacked m_decodings m_failures m_at_j118 m_end m_many_j118 o218004.1 m_bytes m_heads m_numbers m_codes m_sizes m_guessed m_results m_values m_states m_came_j118 o218004.2.1 m_single_j118 o218004.2.2) := hD.sub [0, 1, 2, 3, 4, 5, 6, 7, 8, 9, 10, 11, 12, 13] (by decide) rfl
      refine lv_goto (tgt := 310) hx hb d_Mod_boxed_190 (by decide) ?_
      have h := Option.some.inj h
      subst h
      exact W.vret hx hb hr (fun t ht hW => ⟨⟨(), rfl, trivial, AftW_mk hK hP hD ht hW⟩, hS.F ht⟩) hS.2.2 d_Mod_boxed_310
    have h := (if_neg c_218003).symm.trans h
    by_cases c_218005 : j118_1 = 2
    · have h := (if_pos c_218005).symm.trans h
      refine lv_tableIn (tgt := 193) hx hb d_Mod_boxed_119 (by rw [c_218005]; decide) (by rw [c_218005]; decide) (by first | (rw [c_218005]; done) | (rw [c_218005]; rfl)) (by decide) ?_
      refine lv_aload_n hx hb d_Mod_boxed_193 rfl (lv_at hl 0 rfl) ?_
      refine lv_aload_n hx hb d_Mod_boxed_194 rfl (lv_at hl 0 rfl) ?_
      refine va_get (D := (dC, dI)) (ci := 4) (v := .ref (ad 12)) (C := R_Mod) (T := T_Mod) (N := 27) hx hb hB in_Mod hown hK hP 0 rfl rfl 25 (by decide) (hB _ wd_264) (fun _ h9 => h9) rfl d_Mod_boxed_195 ?_
      refine lv_iload_n hx hb d_Mod_boxed_198 rfl (lv_at hl 2 rfl) ?_
      obtain ⟨b_218006, h⟩ := gI_some h
      refine va_iald hx hb hK hP 12 11 rfl rfl b_218006 d_Mod_boxed_199 ?_
      obtain ⟨o218007, ho218007, h⟩ := Option.bind_eq_some_iff.mp h
      have hKc := hK.sub (tys' := [((cs 1), .int), ((cs 2), .int), ((cs 3), .int), ((cs 4), .int), ((cs 5), .int), ((cs 6), .boolean), ((cs 7), .int), ((cs 8), .int), ((cs 9), .int), ((cs 10), .int), ((cs 11), .int), ((cs 12), .int), ((cs 13), .int)]) [0, 1, 2, 3, 4, 5, 6, 7, 8, 9, 10, 11, 12] rfl
      have hPc := hP.sub (ws' := x_Mod ad cs m_thrown m_kind m_steps m_size m_ran m_parts m_taken m_lacked m_decodings m_failures m_at_j118 m_end m_many_j118 m_wrong_j118 m_bytes m_heads m_numbers m_codes m_sizes m_guessed m_results m_values m_states m_came_j118 m_boxes_j118 m_single_j118 m_rows_j118) [0, 1, 2, 3, 4, 5, 6, 7, 8, 9, 10, 11, 12, 13] rfl
      have hDc := hD.sub (ws' := x_Mod ad cs m_thrown m_kind m_steps m_size m_ran m_parts m_taken m_lacked m_decodings m_failures m_at_j118 m_end m_many_j118 m_wrong_j118 m_bytes m_heads m_numbers m_codes m_sizes m_guessed m_results m_values m_states m_came_j118 m_boxes_j118 m_single_j118 m_rows_j118) [0, 1, 2, 3, 4, 5, 6, 7, 8, 9, 10, 11, 12, 13] (by decide) rfl
      have hFc := va_free (wc := x_Mod ad cs m_thrown m_kind m_steps m_size m_ran m_parts m_taken m_lacked m_decodings m_failures m_at_j118 m_end m_many_j118 m_wrong_j118 m_bytes m_heads m_numbers m_codes m_sizes m_guessed m_results m_values m_states m_came_j118 m_boxes_j118 m_single_j118 m_rows_j118) hD hS hA [0, 1, 2, 3, 4, 5, 6, 7, 8, 9, 10, 11, 12, 13] rfl
      refine va_callv (va_runV (As := [.int (m_single_j118 j118_3.toNatClampNeg)]) (rest := []) ⟨hx, hb, hml, hown, hB⟩ (c_Mod_give l dC dI tt ad cs H.size N (m_single_j118 j118_3.toNatClampNeg) m_thrown m_kind m_steps m_size m_ran m_parts m_taken m_lacked m_decodings m_failures m_at_j118 m_end m_many_j118 m_wrong_j118 m_bytes m_heads m_numbers m_codes m_sizes m_guessed m_results m_values m_states m_came_j118 m_boxes_j118 m_single_j118 m_rows_j118 o218007 ho218007) (cwV 1 hB (gV wd_261 wd_259 wd_258 wd_226 wd_260) rfl rfl rfl (by decide +kernel) ⟨Nat.le_of_ble_eq_true rfl, Nat.le_of_ble_eq_true rfl⟩) ⟨PreW_blind, va_recv hKc hPc (ci := 4) (q0 := 0) rfl rfl, PreW_mk hKc hPc hDc hG hS hFc⟩ rfl rfl hl.1 rfl (lv_room (Nat.le_of_ble_eq_true rfl)) d_Mod_boxed_200 ⟨Nat.le_of_ble_eq_true rfl, Nat.le_of_ble_eq_true rfl⟩) hS (fun q _ h => hFc q h) hFc (fun u_218007 t H1 locs ht hvm hw hB hz1 hk1 hS => ?_)
      obtain ⟨hP1, hK1, hD1⟩ := hB
      rw [ht] at hP1
      obtain ⟨hP, hD⟩ := va_join (wr := pick (x_Mod ad cs m_thrown m_kind m_steps m_size m_ran m_parts m_taken m_lacked m_decodings m_failures m_at_j118 m_end m_many_j118 m_wrong_j118 m_bytes m_heads m_numbers m_codes m_sizes m_guessed m_results m_values m_states m_came_j118 m_boxes_j118 m_single_j118 m_rows_j118) []) hP hD [0, 1, 2, 3, 4, 5, 6, 7, 8, 9, 10, 11, 12, 13] [] rfl rfl (by decide) (by decide) hk1 hFc hP1 hD1
      generalize H1 = H at hP hS ⊢
      have hP : va_P (dC, dI) vwCl (x_Mod ad cs m_thrown m_kind m_steps m_size m_ran m_parts m_taken m_lacked m_decodings m_failures m_at_j118 m_end o218007.1 m_wrong_j118 m_bytes m_heads m_numbers m_codes m_sizes m_guessed m_results m_values m_states o218007.2 m_boxes_j118 m_single_j118 m_rows_j118) H := hP.sub [0, 1, 2, 3, 4, 5, 6, 7, 8, 9, 10, 11, 12, 13] rfl
      have hD : va_D A (x_Mod ad cs m_thrown m_kind m_steps m_size m_ran m_parts m_taken m_lacked m_decodings m_failures m_at_j118 m_end o218007.1 m_wrong_j118 m_bytes m_heads m_numbers m_codes m_sizes m_guessed m_results m_values m_states o218007.2 m_boxes_j118 m_single_j118 m_rows_j118) := hD.sub [0, 1, 2, 3, 4, 5, 6, 7, 8, 9, 10, 11, 12, 13] (by decide) rfl
      refine lv_goto (tgt := 310) hx hb d_Mod_boxed_203 (by decide) ?_
      have h := Option.some.inj h
      subst h
      exact W.vret hx hb hr (fun t ht hW => ⟨⟨(), rfl, trivial, AftW_mk hK hP hD ht hW⟩, hS.F ht⟩) hS.2.2 d_Mod_boxed_310
    have h := (if_neg c_218005).symm.trans h
    by_cases c_218008 : j118_1 = 3
    · have h := (if_pos c_218008).symm.trans h
      refine lv_tableIn (tgt := 206) hx hb d_Mod_boxed_119 (by rw [c_218008]; decide) (by rw [c_218008]; decide) (by first | (rw [c_218008]; done) | (rw [c_218008]; rfl)) (by decide) ?_
      refine lv_aload_n hx hb d_Mod_boxed_206 rfl (lv_at hl 0 rfl) ?_
      refine lv_aload_n hx hb d_Mod_boxed_207 rfl (lv_at hl 0 rfl) ?_
      refine va_get (D := (dC, dI)) (ci := 4) (v := .ref (ad 11)) (C := R_Mod) (T := T_Mod) (N := 27) hx hb hB in_Mod hown hK hP 0 rfl rfl 24 (by decide) (hB _ wd_262) (fun _ h9 => h9) rfl d_Mod_boxed_208 ?_
      refine lv_iload_n hx hb d_Mod_boxed_211 rfl (lv_at hl 2 rfl) ?_
      obtain ⟨b_218009, h⟩ := gI_some h
      refine va_iald hx hb hK hP 11 10 rfl rfl b_218009 d_Mod_boxed_212 ?_
      obtain ⟨o218010, ho218010, h⟩ := Option.bind_eq_some_iff.mp h
      have hKc := hK.sub (tys' := [((cs 1), .int), ((cs 2), .int), ((cs 3), .int), ((cs 4), .int), ((cs 5), .int), ((cs 6), .boolean), ((cs 7), .int), ((cs 8), .int), ((cs 9), .int), ((cs 10), .int), ((cs 11), .int), ((cs 12), .int), ((cs 13), .int)]) [0, 1, 2, 3, 4, 5, 6, 7, 8, 9, 10, 11, 12] rfl
      have hPc := hP.sub (ws' := x_Mod ad cs m_thrown m_kind m_steps m_size m_ran m_parts m_taken m_lacked m_decodings m_failures m_at_j118 m_end m_many_j118 m_wrong_j118 m_bytes m_heads m_numbers m_codes m_sizes m_guessed m_results m_values m_states m_came_j118 m_boxes_j118 m_single_j118 m_rows_j118) [0, 1, 2, 3, 4, 5, 6, 7, 8, 9, 10, 11, 12, 13] rfl
      have hDc := hD.sub (ws' := x_Mod ad cs m_thrown m_kind m_steps m_size m_ran m_parts m_taken m_lacked m_decodings m_failures m_at_j118 m_end m_many_j118 m_wrong_j118 m_bytes m_heads m_numbers m_codes m_sizes m_guessed m_results m_values m_states m_came_j118 m_boxes_j118 m_single_j118 m_rows_j118) [0, 1, 2, 3, 4, 5, 6, 7, 8, 9, 10, 11, 12, 13] (by decide) rfl
      have hFc := va_free (wc := x_Mod ad cs m_thrown m_kind m_steps m_size m_ran m_parts m_taken m_lacked m_decodings m_failures m_at_j118 m_end m_many_j118 m_wrong_j118 m_bytes m_heads m_numbers m_codes m_sizes m_guessed m_results m_values m_states m_came_j118 m_boxes_j118 m_single_j118 m_rows_j118) hD hS hA [0, 1, 2, 3, 4, 5, 6, 7, 8, 9, 10, 11, 12, 13] rfl
      refine va_callv (va_runV (As := [.int (m_boxes_j118 j118_3.toNatClampNeg)]) (rest := []) ⟨hx, hb, hml, hown, hB⟩ (c_Mod_give l dC dI tt ad cs H.size N (m_boxes_j118 j118_3.toNatClampNeg) m_thrown m_kind m_steps m_size m_ran m_parts m_taken m_lacked m_decodings m_failures m_at_j118 m_end m_many_j118 m_wrong_j118 m_bytes m_heads m_numbers m_codes m_sizes m_guessed m_results m_values m_states m_came_j118 m_boxes_j118 m_single_j118 m_rows_j118 o218010 ho218010) (cwV 1 hB (gV wd_261 wd_259 wd_258 wd_226 wd_260) rfl rfl rfl (by decide +kernel) ⟨Nat.le_of_ble_eq_true rfl, Nat.le_of_ble_eq_true rfl⟩) ⟨PreW_blind, va_recv hKc hPc (ci := 4) (q0 := 0) rfl rfl, PreW_mk hKc hPc hDc hG hS hFc⟩ rfl rfl hl.1 rfl (lv_room (Nat.le_of_ble_eq_true rfl)) d_Mod_boxed_213 ⟨Nat.le_of_ble_eq_true rfl, Nat.le_of_ble_eq_true rfl⟩) hS (fun q _ h => hFc q h) hFc (fun u_218010 t H1 locs ht hvm hw hB hz1 hk1 hS => ?_)
      obtain ⟨hP1, hK1, hD1⟩ := hB
      rw [ht] at hP1
      obtain ⟨hP, hD⟩ := va_join (wr := pick (x_Mod ad cs m_thrown m_kind m_steps m_size m_ran m_parts m_taken m_lacked m_decodings m_failures m_at_j118 m_end m_many_j118 m_wrong_j118 m_bytes m_heads m_numbers m_codes m_sizes m_guessed m_results m_values m_states m_came_j118 m_boxes_j118 m_single_j118 m_rows_j118) []) hP hD [0, 1, 2, 3, 4, 5, 6, 7, 8, 9, 10, 11, 12, 13] [] rfl rfl (by decide) (by decide) hk1 hFc hP1 hD1
      generalize H1 = H at hP hS ⊢
      have hP : va_P (dC, dI) vwCl (x_Mod ad cs m_thrown m_kind m_steps m_size m_ran m_parts m_taken m_lacked m_decodings m_failures m_at_j118 m_end o218010.1 m_wrong_j118 m_bytes m_heads m_numbers m_codes m_sizes m_guessed m_results m_values m_states o218010.2 m_boxes_j118 m_single_j118 m_rows_j118) H := hP.sub [0, 1, 2, 3, 4, 5, 6, 7, 8, 9, 10, 11, 12, 13] rfl
      have hD : va_D A (x_Mod ad cs m_thrown m_kind m_steps m_size m_ran m_parts m_taken m_lacked m_decodings m_failures m_at_j118 m_end o218010.1 m_wrong_j118 m_bytes m_heads m_numbers m_codes m_sizes m_guessed m_results m_values m_states o218010.2 m_boxes_j118 m_single_j118 m_rows_j118) := hD.sub [0, 1, 2, 3, 4, 5, 6, 7, 8, 9, 10, 11, 12, 13] (by decide) rfl
      refine lv_goto (tgt := 310) hx hb d_Mod_boxed_216 (by decide) ?_
      have h := Option.some.inj h
      subst h
      exact W.vret hx hb hr (fun t ht hW => ⟨⟨(), rfl, trivial, AftW_mk hK hP hD ht hW⟩, hS.F ht⟩) hS.2.2 d_Mod_boxed_310
    have h := (if_neg c_218008).symm.trans h
    by_cases c_218011 : j118_1 = 4
    · have h := (if_pos c_218011).symm.trans h
      refine lv_tableIn (tgt := 219) hx hb d_Mod_boxed_119 (by rw [c_218011]; decide) (by rw [c_218011]; decide) (by first | (rw [c_218011]; done) | (rw [c_218011]; rfl)) (by decide) ?_
      refine lv_aload_n hx hb d_Mod_boxed_219 rfl (lv_at hl 0 rfl) ?_
      refine va_get (D := (dC, dI)) (ci := 4) (v := .int m_wrong_j118) (C := R_Mod) (T := T_Mod) (N := 27) hx hb hB in_Mod hown hK hP 0 rfl rfl 23 (by decide) (hB _ wd_241) (fun _ h9 => h9) rfl d_Mod_boxed_220 ?_
      refine lv_if_ne (tgt := 310) hx hb d_Mod_boxed_223 (by decide) (fun c_218012 => ?_) (fun c_218012 => ?_)
      · have h := (if_neg c_218012).symm.trans h
        have h := Option.some.inj h
        subst h
        exact W.vret hx hb hr (fun t ht hW => ⟨⟨(), rfl, trivial, AftW_mk hK hP hD ht hW⟩, hS.F ht⟩) hS.2.2 d_Mod_boxed_310
      · have h := (if_pos c_218012).symm.trans h
        refine lv_aload_n hx hb d_Mod_boxed_226 rfl (lv_at hl 0 rfl) ?_
        refine va_get (D := (dC, dI)) (ci := 4) (v := .ref (ad 13)) (C := R_Mod) (T := T_Mod) (N := 27) hx hb hB in_Mod hown hK hP 0 rfl rfl 26 (by decide) (hB _ wd_263) (fun _ h9 => h9) rfl d_Mod_boxed_227 ?_
        refine lv_bipush (v := 8) hx hb d_Mod_boxed_230 (by decide) ?_
        refine lv_iload_n hx hb d_Mod_boxed_232 rfl (lv_at hl 2 rfl) ?_
        refine lv_imul hx hb d_Mod_boxed_233 ?_
        refine lv_iload hx hb d_Mod_boxed_234 (lv_at hl 3 rfl) ?_
        refine lv_iadd hx hb d_Mod_boxed_236 ?_
        refine lv_aload_n hx hb d_Mod_boxed_237 rfl (lv_at hl 0 rfl) ?_
        refine va_get (D := (dC, dI)) (ci := 4) (v := .int m_many_j118) (C := R_Mod) (T := T_Mod) (N := 27) hx hb hB in_Mod hown hK hP 0 rfl rfl 21 (by decide) (hB _ wd_249) (fun _ h9 => h9) rfl d_Mod_boxed_238 ?_
        refine lv_if_ne (tgt := 248) hx hb d_Mod_boxed_241 (by decide) (fun c_218013 => ?_) (fun c_218013 => ?_)
        · have h := (if_neg c_218013).symm.trans h
          refine lv_aload_n hx hb d_Mod_boxed_248 rfl (lv_at hl 0 rfl) ?_
          refine va_get (D := (dC, dI)) (ci := 4) (v := .ref (ad 10)) (C := R_Mod) (T := T_Mod) (N := 27) hx hb hB in_Mod hown hK hP 0 rfl rfl 22 (by decide) (hB _ wd_248) (fun _ h9 => h9) rfl d_Mod_boxed_249 ?_
          refine lv_aload_n hx hb d_Mod_boxed_252 rfl (lv_at hl 0 rfl) ?_
          refine va_get (D := (dC, dI)) (ci := 4) (v := .int m_many_j118) (C := R_Mod) (T := T_Mod) (N := 27) hx hb hB in_Mod hown hK hP 0 rfl rfl 21 (by decide) (hB _ wd_249) (fun _ h9 => h9) rfl d_Mod_boxed_253 ?_
          refine lv_iconst (v := 1) hx hb d_Mod_boxed_256 (by decide) ?_
          refine lv_isub hx hb d_Mod_boxed_257 ?_
          obtain ⟨b_218014, h⟩ := gI_some h
          refine va_iald hx hb hK hP 10 9 rfl rfl b_218014 d_Mod_boxed_258 ?_
          obtain ⟨b_218015, h⟩ := gI_some h
          refine va_iast hx hb hK hP hD hS 13 12 rfl rfl b_218015 d_Mod_boxed_259 (fun H locs hP hD hS => ?_)
          have hP : va_P (dC, dI) vwCl (x_Mod ad cs m_thrown m_kind m_steps m_size m_ran m_parts m_taken m_lacked m_decodings m_failures m_at_j118 m_end m_many_j118 m_wrong_j118 m_bytes m_heads m_numbers m_codes m_sizes m_guessed m_results m_values m_states m_came_j118 m_boxes_j118 m_single_j118 (upd m_rows_j118 (((8 : Int32) * j118_3) + j118_4).toNatClampNeg (m_came_j118 (m_many_j118 - (1 : Int32)).toNatClampNeg))) H := hP
          have hD : va_D A (x_Mod ad cs m_thrown m_kind m_steps m_size m_ran m_parts m_taken m_lacked m_decodings m_failures m_at_j118 m_end m_many_j118 m_wrong_j118 m_bytes m_heads m_numbers m_codes m_sizes m_guessed m_results m_values m_states m_came_j118 m_boxes_j118 m_single_j118 (upd m_rows_j118 (((8 : Int32) * j118_3) + j118_4).toNatClampNeg (m_came_j118 (m_many_j118 - (1 : Int32)).toNatClampNeg))) := hD
          refine lv_goto (tgt := 310) hx hb d_Mod_boxed_260 (by decide) ?_
          have h := Option.some.inj h
          subst h
          exact W.vret hx hb hr (fun t ht hW => ⟨⟨(), rfl, trivial, AftW_mk hK hP hD ht hW⟩, hS.F ht⟩) hS.2.2 d_Mod_boxed_310
        · have h := (if_pos c_218013).symm.trans h
          refine lv_iconst (v := 0) hx hb d_Mod_boxed_244 (by decide) ?_
          refine lv_goto (tgt := 259) hx hb d_Mod_boxed_245 (by decide) ?_
          obtain ⟨b_218016, h⟩ := gI_some h
          refine va_iast hx hb hK hP hD hS 13 12 rfl rfl b_218016 d_Mod_boxed_259 (fun H locs hP hD hS => ?_)
          have hP : va_P (dC, dI) vwCl (x_Mod ad cs m_thrown m_kind m_steps m_size m_ran m_parts m_taken m_lacked m_decodings m_failures m_at_j118 m_end m_many_j118 m_wrong_j118 m_bytes m_heads m_numbers m_codes m_sizes m_guessed m_results m_values m_states m_came_j118 m_boxes_j118 m_single_j118 (upd m_rows_j118 (((8 : Int32) * j118_3) + j118_4).toNatClampNeg (0 : Int32))) H := hP
          have hD : va_D A (x_Mod ad cs m_thrown m_kind m_steps m_size m_ran m_parts m_taken m_lacked m_decodings m_failures m_at_j118 m_end m_many_j118 m_wrong_j118 m_bytes m_heads m_numbers m_codes m_sizes m_guessed m_results m_values m_states m_came_j118 m_boxes_j118 m_single_j118 (upd m_rows_j118 (((8 : Int32) * j118_3) + j118_4).toNatClampNeg (0 : Int32))) := hD
          refine lv_goto (tgt := 310) hx hb d_Mod_boxed_260 (by decide) ?_
          have h := Option.some.inj h
          subst h
          exact W.vret hx hb hr (fun t ht hW => ⟨⟨(), rfl, trivial, AftW_mk hK hP hD ht hW⟩, hS.F ht⟩) hS.2.2 d_Mod_boxed_310
    have h := (if_neg c_218011).symm.trans h
    by_cases c_218017 : j118_1 = 5
    · have h := (if_pos c_218017).symm.trans h
      refine lv_tableIn (tgt := 263) hx hb d_Mod_boxed_119 (by rw [c_218017]; decide) (by rw [c_218017]; decide) (by first | (rw [c_218017]; done) | (rw [c_218017]; rfl)) (by decide) ?_
      refine lv_aload_n hx hb d_Mod_boxed_263 rfl (lv_at hl 0 rfl) ?_
      refine lv_aload_n hx hb d_Mod_boxed_264 rfl (lv_at hl 0 rfl) ?_
      refine va_get (D := (dC, dI)) (ci := 4) (v := .int m_wrong_j118) (C := R_Mod) (T := T_Mod) (N := 27) hx hb hB in_Mod hown hK hP 0 rfl rfl 23 (by decide) (hB _ wd_241) (fun _ h9 => h9) rfl d_Mod_boxed_265 ?_
      refine lv_if_ne (tgt := 286) hx hb d_Mod_boxed_268 (by decide) (fun c_218018 => ?_) (fun c_218018 => ?_)
      · have h := (if_neg c_218018).symm.trans h
        refine lv_iconst (v := 0) hx hb d_Mod_boxed_286 (by decide) ?_
        obtain ⟨o218019, ho218019, h⟩ := Option.bind_eq_some_iff.mp h
        have hKc := hK.sub (tys' := [((cs 1), .int), ((cs 2), .int), ((cs 3), .int), ((cs 4), .int), ((cs 5), .int), ((cs 6), .boolean), ((cs 7), .int), ((cs 8), .int), ((cs 9), .int), ((cs 10), .int), ((cs 11), .int), ((cs 12), .int), ((cs 13), .int)]) [0, 1, 2, 3, 4, 5, 6, 7, 8, 9, 10, 11, 12] rfl
        have hPc := hP.sub (ws' := x_Mod ad cs m_thrown m_kind m_steps m_size m_ran m_parts m_taken m_lacked m_decodings m_failures m_at_j118 m_end m_many_j118 m_wrong_j118 m_bytes m_heads m_numbers m_codes m_sizes m_guessed m_results m_values m_states m_came_j118 m_boxes_j118 m_single_j118 m_rows_j118) [0, 1, 2, 3, 4, 5, 6, 7, 8, 9, 10, 11, 12, 13] rfl
        have hDc := hD.sub (ws' := x_Mod ad cs m_thrown m_kind m_steps m_size m_ran m_parts m_taken m_lacked m_decodings m_failures m_at_j118 m_end m_many_j118 m_wrong_j118 m_bytes m_heads m_numbers m_codes m_sizes m_guessed m_results m_values m_states m_came_j118 m_boxes_j118 m_single_j118 m_rows_j118) [0, 1, 2, 3, 4, 5, 6, 7, 8, 9, 10, 11, 12, 13] (by decide) rfl
        have hFc := va_free (wc := x_Mod ad cs m_thrown m_kind m_steps m_size m_ran m_parts m_taken m_lacked m_decodings m_failures m_at_j118 m_end m_many_j118 m_wrong_j118 m_bytes m_heads m_numbers m_codes m_sizes m_guessed m_results m_values m_states m_came_j118 m_boxes_j118 m_single_j118 m_rows_j118) hD hS hA [0, 1, 2, 3, 4, 5, 6, 7, 8, 9, 10, 11, 12, 13] rfl
        refine va_callv (va_runV (As := [.int (0 : Int32)]) (rest := []) ⟨hx, hb, hml, hown, hB⟩ (c_Mod_give l dC dI tt ad cs H.size N (0 : Int32) m_thrown m_kind m_steps m_size m_ran m_parts m_taken m_lacked m_decodings m_failures m_at_j118 m_end m_many_j118 m_wrong_j118 m_bytes m_heads m_numbers m_codes m_sizes m_guessed m_results m_values m_states m_came_j118 m_boxes_j118 m_single_j118 m_rows_j118 o218019 ho218019) (cwV 1 hB (gV wd_261 wd_259 wd_258 wd_226 wd_260) rfl rfl rfl (by decide +kernel) ⟨Nat.le_of_ble_eq_true rfl, Nat.le_of_ble_eq_true rfl⟩) ⟨PreW_blind, va_recv hKc hPc (ci := 4) (q0 := 0) rfl rfl, PreW_mk hKc hPc hDc hG hS hFc⟩ rfl rfl hl.1 rfl (lv_room (Nat.le_of_ble_eq_true rfl)) d_Mod_boxed_287 ⟨Nat.le_of_ble_eq_true rfl, Nat.le_of_ble_eq_true rfl⟩) hS (fun q _ h => hFc q h) hFc (fun u_218019 t H1 locs ht hvm hw hB hz1 hk1 hS => ?_)
        obtain ⟨hP1, hK1, hD1⟩ := hB
        rw [ht] at hP1
        obtain ⟨hP, hD⟩ := va_join (wr := pick (x_Mod ad cs m_thrown m_kind m_steps m_size m_ran m_parts m_taken m_lacked m_decodings m_failures m_at_j118 m_end m_many_j118 m_wrong_j118 m_bytes m_heads m_numbers m_codes m_sizes m_guessed m_results m_values m_states m_came_j118 m_boxes_j118 m_single_j118 m_rows_j118) []) hP hD [0, 1, 2, 3, 4, 5, 6, 7, 8, 9, 10, 11, 12, 13] [] rfl rfl (by decide) (by decide) hk1 hFc hP1 hD1
        generalize H1 = H at hP hS ⊢
        have hP : va_P (dC, dI) vwCl (x_Mod ad cs m_thrown m_kind m_steps m_size m_ran m_parts m_taken m_lacked m_decodings m_failures m_at_j118 m_end o218019.1 m_wrong_j118 m_bytes m_heads m_numbers m_codes m_sizes m_guessed m_results m_values m_states o218019.2 m_boxes_j118 m_single_j118 m_rows_j118) H := hP.sub [0, 1, 2, 3, 4, 5, 6, 7, 8, 9, 10, 11, 12, 13] rfl
        have hD : va_D A (x_Mod ad cs m_thrown m_kind m_steps m_size m_ran m_parts m_taken m_lacked m_decodings m_failures m_at_j118 m_end o218019.1 m_wrong_j118 m_bytes m_heads m_numbers m_codes m_sizes m_guessed m_results m_values m_states o218019.2 m_boxes_j118 m_single_j118 m_rows_j118) := hD.sub [0, 1, 2, 3, 4, 5, 6, 7, 8, 9, 10, 11, 12, 13] (by decide) rfl
        refine lv_goto (tgt := 310) hx hb d_Mod_boxed_290 (by decide) ?_
        have h := Option.some.inj h
        subst h
        exact W.vret hx hb hr (fun t ht hW => ⟨⟨(), rfl, trivial, AftW_mk hK hP hD ht hW⟩, hS.F ht⟩) hS.2.2 d_Mod_boxed_310
      · have h := (if_pos c_218018).symm.trans h
        refine lv_aload_n hx hb d_Mod_boxed_271 rfl (lv_at hl 0 rfl) ?_
        refine va_get (D := (dC, dI)) (ci := 4) (v := .ref (ad 13)) (C := R_Mod) (T := T_Mod) (N := 27) hx hb hB in_Mod hown hK hP 0 rfl rfl 26 (by decide) (hB _ wd_263) (fun _ h9 => h9) rfl d_Mod_boxed_272 ?_
        refine lv_bipush (v := 8) hx hb d_Mod_boxed_275 (by decide) ?_
        refine lv_iload_n hx hb d_Mod_boxed_277 rfl (lv_at hl 2 rfl) ?_
        refine lv_imul hx hb d_Mod_boxed_278 ?_
        refine lv_iload hx hb d_Mod_boxed_279 (lv_at hl 3 rfl) ?_
        refine lv_iadd hx hb d_Mod_boxed_281 ?_
        obtain ⟨b_218020, h⟩ := gI_some h
        refine va_iald hx hb hK hP 13 12 rfl rfl b_218020 d_Mod_boxed_282 ?_
        refine lv_goto (tgt := 287) hx hb d_Mod_boxed_283 (by decide) ?_
        obtain ⟨o218021, ho218021, h⟩ := Option.bind_eq_some_iff.mp h
        have hKc := hK.sub (tys' := [((cs 1), .int), ((cs 2), .int), ((cs 3), .int), ((cs 4), .int), ((cs 5), .int), ((cs 6), .boolean), ((cs 7), .int), ((cs 8), .int), ((cs 9), .int), ((cs 10), .int), ((cs 11), .int), ((cs 12), .int), ((cs 13), .int)]) [0, 1, 2, 3, 4, 5, 6, 7, 8, 9, 10, 11, 12] rfl
        have hPc := hP.sub (ws' := x_Mod ad cs m_thrown m_kind m_steps m_size m_ran m_parts m_taken m_lacked m_decodings m_failures m_at_j118 m_end m_many_j118 m_wrong_j118 m_bytes m_heads m_numbers m_codes m_sizes m_guessed m_results m_values m_states m_came_j118 m_boxes_j118 m_single_j118 m_rows_j118) [0, 1, 2, 3, 4, 5, 6, 7, 8, 9, 10, 11, 12, 13] rfl
        have hDc := hD.sub (ws' := x_Mod ad cs m_thrown m_kind m_steps m_size m_ran m_parts m_taken m_lacked m_decodings m_failures m_at_j118 m_end m_many_j118 m_wrong_j118 m_bytes m_heads m_numbers m_codes m_sizes m_guessed m_results m_values m_states m_came_j118 m_boxes_j118 m_single_j118 m_rows_j118) [0, 1, 2, 3, 4, 5, 6, 7, 8, 9, 10, 11, 12, 13] (by decide) rfl
        have hFc := va_free (wc := x_Mod ad cs m_thrown m_kind m_steps m_size m_ran m_parts m_taken m_lacked m_decodings m_failures m_at_j118 m_end m_many_j118 m_wrong_j118 m_bytes m_heads m_numbers m_codes m_sizes m_guessed m_results m_values m_states m_came_j118 m_boxes_j118 m_single_j118 m_rows_j118) hD hS hA [0, 1, 2, 3, 4, 5, 6, 7, 8, 9, 10, 11, 12, 13] rfl
        refine va_callv (va_runV (As := [.int (m_rows_j118 (((8 : Int32) * j118_3) + j118_4).toNatClampNeg)]) (rest := []) ⟨hx, hb, hml, hown, hB⟩ (c_Mod_give l dC dI tt ad cs H.size N (m_rows_j118 (((8 : Int32) * j118_3) + j118_4).toNatClampNeg) m_thrown m_kind m_steps m_size m_ran m_parts m_taken m_lacked m_decodings m_failures m_at_j118 m_end m_many_j118 m_wrong_j118 m_bytes m_heads m_numbers m_codes m_sizes m_guessed m_results m_values m_states m_came_j118 m_boxes_j118 m_single_j118 m_rows_j118 o218021 ho218021) (cwV 1 hB (gV wd_261 wd_259 wd_258 wd_226 wd_260) rfl rfl rfl (by decide +kernel) ⟨Nat.le_of_ble_eq_true rfl, Nat.le_of_ble_eq_true rfl⟩) ⟨PreW_blind, va_recv hKc hPc (ci := 4) (q0 := 0) rfl rfl, PreW_mk hKc hPc hDc hG hS hFc⟩ rfl rfl hl.1 rfl (lv_room (Nat.le_of_ble_eq_true rfl)) d_Mod_boxed_287 ⟨Nat.le_of_ble_eq_true rfl, Nat.le_of_ble_eq_true rfl⟩) hS (fun q _ h => hFc q h) hFc (fun u_218021 t H1 locs ht hvm hw hB hz1 hk1 hS => ?_)
        obtain ⟨hP1, hK1, hD1⟩ := hB
        rw [ht] at hP1
        obtain ⟨hP, hD⟩ := va_join (wr := pick (x_Mod ad cs m_thrown m_kind m_steps m_size m_ran m_parts m_taken m_lacked m_decodings m_failures m_at_j118 m_end m_many_j118 m_wrong_j118 m_bytes m_heads m_numbers m_codes m_sizes m_guessed m_results m_values m_states m_came_j118 m_boxes_j118 m_single_j118 m_rows_j118) []) hP hD [0, 1, 2, 3, 4, 5, 6, 7, 8, 9, 10, 11, 12, 13] [] rfl rfl (by decide) (by decide) hk1 hFc hP1 hD1
        generalize H1 = H at hP hS ⊢
        have hP : va_P (dC, dI) vwCl (x_Mod ad cs m_thrown m_kind m_steps m_size m_ran m_parts m_taken m_lacked m_decodings m_failures m_at_j118 m_end o218021.1 m_wrong_j118 m_bytes m_heads m_numbers m_codes m_sizes m_guessed m_results m_values m_states o218021.2 m_boxes_j118 m_single_j118 m_rows_j118) H := hP.sub [0, 1, 2, 3, 4, 5, 6, 7, 8, 9, 10, 11, 12, 13] rfl
        have hD : va_D A (x_Mod ad cs m_thrown m_kind m_steps m_size m_ran m_parts m_taken m_lacked m_decodings m_failures m_at_j118 m_end o218021.1 m_wrong_j118 m_bytes m_heads m_numbers m_codes m_sizes m_guessed m_results m_values m_states o218021.2 m_boxes_j118 m_single_j118 m_rows_j118) := hD.sub [0, 1, 2, 3, 4, 5, 6, 7, 8, 9, 10, 11, 12, 13] (by decide) rfl
        refine lv_goto (tgt := 310) hx hb d_Mod_boxed_290 (by decide) ?_
        have h := Option.some.inj h
        subst h
        exact W.vret hx hb hr (fun t ht hW => ⟨⟨(), rfl, trivial, AftW_mk hK hP hD ht hW⟩, hS.F ht⟩) hS.2.2 d_Mod_boxed_310
    have h := (if_neg c_218017).symm.trans h
    by_cases c_218022 : j118_1 = 6
    · have h := (if_pos c_218022).symm.trans h
      refine lv_tableIn (tgt := 293) hx hb d_Mod_boxed_119 (by rw [c_218022]; decide) (by rw [c_218022]; decide) (by first | (rw [c_218022]; done) | (rw [c_218022]; rfl)) (by decide) ?_
      refine lv_aload_n hx hb d_Mod_boxed_293 rfl (lv_at hl 0 rfl) ?_
      refine va_get (D := (dC, dI)) (ci := 4) (v := .ref (ad 11)) (C := R_Mod) (T := T_Mod) (N := 27) hx hb hB in_Mod hown hK hP 0 rfl rfl 24 (by decide) (hB _ wd_262) (fun _ h9 => h9) rfl d_Mod_boxed_294 ?_
      refine lv_iload_n hx hb d_Mod_boxed_297 rfl (lv_at hl 2 rfl) ?_
      refine lv_bipush (v := (-2)) hx hb d_Mod_boxed_298 (by decide) ?_
      obtain ⟨b_218023, h⟩ := gI_some h
      refine va_iast hx hb hK hP hD hS 11 10 rfl rfl b_218023 d_Mod_boxed_300 (fun H locs hP hD hS => ?_)
      have hP : va_P (dC, dI) vwCl (x_Mod ad cs m_thrown m_kind m_steps m_size m_ran m_parts m_taken m_lacked m_decodings m_failures m_at_j118 m_end m_many_j118 m_wrong_j118 m_bytes m_heads m_numbers m_codes m_sizes m_guessed m_results m_values m_states m_came_j118 (upd m_boxes_j118 j118_3.toNatClampNeg (-2 : Int32)) m_single_j118 m_rows_j118) H := hP
      have hD : va_D A (x_Mod ad cs m_thrown m_kind m_steps m_size m_ran m_parts m_taken m_lacked m_decodings m_failures m_at_j118 m_end m_many_j118 m_wrong_j118 m_bytes m_heads m_numbers m_codes m_sizes m_guessed m_results m_values m_states m_came_j118 (upd m_boxes_j118 j118_3.toNatClampNeg (-2 : Int32)) m_single_j118 m_rows_j118) := hD
      refine lv_goto (tgt := 310) hx hb d_Mod_boxed_301 (by decide) ?_
      have h := Option.some.inj h
      subst h
      exact W.vret hx hb hr (fun t ht hW => ⟨⟨(), rfl, trivial, AftW_mk hK hP hD ht hW⟩, hS.F ht⟩) hS.2.2 d_Mod_boxed_310
    have h := (if_neg c_218022).symm.trans h
    refine lv_tableOut (tgt := 304) hx hb d_Mod_boxed_119 (by have e0 := lv_neT (a := 0) c_218001 (by decide); have e1 := lv_neT (a := 1) c_218003 (by decide); have e2 := lv_neT (a := 2) c_218005 (by decide); have e3 := lv_neT (a := 3) c_218008 (by decide); have e4 := lv_neT (a := 4) c_218011 (by decide); have e5 := lv_neT (a := 5) c_218017 (by decide); have e6 := lv_neT (a := 6) c_218022 (by decide); omega) (by decide) ?_
    refine lv_aload_n hx hb d_Mod_boxed_304 rfl (lv_at hl 0 rfl) ?_
    refine lv_bipush (v := 6) hx hb d_Mod_boxed_305 (by decide) ?_
    obtain ⟨o218024, ho218024, h⟩ := Option.bind_eq_some_iff.mp h
    have hKc := hK.sub (tys' := [((cs 1), .int), ((cs 2), .int), ((cs 3), .int), ((cs 4), .int), ((cs 5), .int), ((cs 6), .boolean), ((cs 7), .int), ((cs 8), .int), ((cs 9), .int), ((cs 10), .int), ((cs 11), .int), ((cs 12), .int), ((cs 13), .int)]) [0, 1, 2, 3, 4, 5, 6, 7, 8, 9, 10, 11, 12] rfl
    have hPc := hP.sub (ws' := x_Mod ad cs m_thrown m_kind m_steps m_size m_ran m_parts m_taken m_lacked m_decodings m_failures m_at_j118 m_end m_many_j118 m_wrong_j118 m_bytes m_heads m_numbers m_codes m_sizes m_guessed m_results m_values m_states m_came_j118 m_boxes_j118 m_single_j118 m_rows_j118) [0, 1, 2, 3, 4, 5, 6, 7, 8, 9, 10, 11, 12, 13] rfl
    have hDc := hD.sub (ws' := x_Mod ad cs m_thrown m_kind m_steps m_size m_ran m_parts m_taken m_lacked m_decodings m_failures m_at_j118 m_end m_many_j118 m_wrong_j118 m_bytes m_heads m_numbers m_codes m_sizes m_guessed m_results m_values m_states m_came_j118 m_boxes_j118 m_single_j118 m_rows_j118) [0, 1, 2, 3, 4, 5, 6, 7, 8, 9, 10, 11, 12, 13] (by decide) rfl
    have hFc := va_free (wc := x_Mod ad cs m_thrown m_kind m_steps m_size m_ran m_parts m_taken m_lacked m_decodings m_failures m_at_j118 m_end m_many_j118 m_wrong_j118 m_bytes m_heads m_numbers m_codes m_sizes m_guessed m_results m_values m_states m_came_j118 m_boxes_j118 m_single_j118 m_rows_j118) hD hS hA [0, 1, 2, 3, 4, 5, 6, 7, 8, 9, 10, 11, 12, 13] rfl
    refine va_callv (va_runV (As := [.int (6 : Int32)]) (rest := []) ⟨hx, hb, hml, hown, hB⟩ (c_Mod_fail l dC dI tt ad cs H.size N (6 : Int32) m_thrown m_kind m_steps m_size m_ran m_parts m_taken m_lacked m_decodings m_failures m_at_j118 m_end m_many_j118 m_wrong_j118 m_bytes m_heads m_numbers m_codes m_sizes m_guessed m_results m_values m_states m_came_j118 m_boxes_j118 m_single_j118 m_rows_j118 o218024 ho218024) (cwV 1 hB (gV wd_247 wd_245 wd_244 wd_226 wd_246) rfl rfl rfl (by decide +kernel) ⟨Nat.le_of_ble_eq_true rfl, Nat.le_of_ble_eq_true rfl⟩) ⟨PreW_blind, va_recv hKc hPc (ci := 4) (q0 := 0) rfl rfl, PreW_mk hKc hPc hDc hG hS hFc⟩ rfl rfl hl.1 rfl (lv_room (Nat.le_of_ble_eq_true rfl)) d_Mod_boxed_307 ⟨Nat.le_of_ble_eq_true rfl, Nat.le_of_ble_eq_true rfl⟩) hS (fun q _ h => hFc q h) hFc (fun u_218024 t H1 locs ht hvm hw hB hz1 hk1 hS => ?_)
    obtain ⟨hP1, hK1, hD1⟩ := hB
    rw [ht] at hP1
    obtain ⟨hP, hD⟩ := va_join (wr := pick (x_Mod ad cs m_thrown m_kind m_steps m_size m_ran m_parts m_taken m_lacked m_decodings m_failures m_at_j118 m_end m_many_j118 m_wrong_j118 m_bytes m_heads m_numbers m_codes m_sizes m_guessed m_results m_values m_states m_came_j118 m_boxes_j118 m_single_j118 m_rows_j118) []) hP hD [0, 1, 2, 3, 4, 5, 6, 7, 8, 9, 10, 11, 12, 13] [] rfl rfl (by decide) (by decide) hk1 hFc hP1 hD1
    generalize H1 = H at hP hS ⊢
    have hP : va_P (dC, dI) vwCl (x_Mod ad cs m_thrown m_kind m_steps m_size m_ran m_parts m_taken m_lacked m_decodings m_failures m_at_j118 m_end m_many_j118 o218024 m_bytes m_heads m_numbers m_codes m_sizes m_guessed m_results m_values m_states m_came_j118 m_boxes_j118 m_single_j118 m_rows_j118) H := hP.sub [0, 1, 2, 3, 4, 5, 6, 7, 8, 9, 10, 11, 12, 13] rfl
    have hD : va_D A (x_Mod ad cs m_thrown m_kind m_steps m_size m_ran m_parts m_taken m_lacked m_decodings m_failures m_at_j118 m_end m_many_j118 o218024 m_bytes m_heads m_numbers m_codes m_sizes m_guessed m_results m_values m_states m_came_j118 m_boxes_j118 m_single_j118 m_rows_j118) := hD.sub [0, 1, 2, 3, 4, 5, 6, 7, 8, 9, 10, 11, 12, 13] (by decide) rfl
    have h := Option.some.inj h
    subst h
    exact W.vret hx hb hr (fun t ht hW => ⟨⟨(), rfl, trivial, AftW_mk hK hP hD ht hW⟩, hS.F ht⟩) hS.2.2 d_Mod_boxed_310
  refine lv_aload_n hx hb d_Mod_boxed_0 rfl (lv_at hl 0 rfl) ?_
  obtain ⟨o1, ho1, h⟩ := Option.bind_eq_some_iff.mp h
  have hKc := hK.sub (tys' := [((cs 1), .int), ((cs 2), .int), ((cs 3), .int), ((cs 4), .int), ((cs 5), .int), ((cs 6), .boolean), ((cs 7), .int), ((cs 8), .int), ((cs 9), .int), ((cs 10), .int), ((cs 11), .int), ((cs 12), .int), ((cs 13), .int)]) [0, 1, 2, 3, 4, 5, 6, 7, 8, 9, 10, 11, 12] rfl
  have hPc := hP.sub (ws' := x_Mod ad cs m_thrown m_kind m_steps m_size m_ran m_parts m_taken m_lacked m_decodings m_failures m_at m_end m_many m_wrong m_bytes m_heads m_numbers m_codes m_sizes m_guessed m_results m_values m_states m_came m_boxes m_single m_rows) [0, 1, 2, 3, 4, 5, 6, 7, 8, 9, 10, 11, 12, 13] rfl
  have hDc := hD.sub (ws' := x_Mod ad cs m_thrown m_kind m_steps m_size m_ran m_parts m_taken m_lacked m_decodings m_failures m_at m_end m_many m_wrong m_bytes m_heads m_numbers m_codes m_sizes m_guessed m_results m_values m_states m_came m_boxes m_single m_rows) [0, 1, 2, 3, 4, 5, 6, 7, 8, 9, 10, 11, 12, 13] (by decide) rfl
  have hFc := va_free (wc := x_Mod ad cs m_thrown m_kind m_steps m_size m_ran m_parts m_taken m_lacked m_decodings m_failures m_at m_end m_many m_wrong m_bytes m_heads m_numbers m_codes m_sizes m_guessed m_results m_values m_states m_came m_boxes m_single m_rows) hD hS hA [0, 1, 2, 3, 4, 5, 6, 7, 8, 9, 10, 11, 12, 13] rfl
  refine va_calli (va_runV (As := []) (rest := []) ⟨hx, hb, hml, hown, hB⟩ (c_Mod_take l dC dI tt ad cs s.heap.size N m_thrown m_kind m_steps m_size m_ran m_parts m_taken m_lacked m_decodings m_failures m_at m_end m_many m_wrong m_bytes m_heads m_numbers m_codes m_sizes m_guessed m_results m_values m_states m_came m_boxes m_single m_rows o1 ho1) (cwV 0 hB (gV wd_253 wd_251 wd_250 wd_226 wd_252) rfl rfl rfl (by decide +kernel) ⟨Nat.le_of_ble_eq_true rfl, Nat.le_of_ble_eq_true rfl⟩) ⟨PreW_blind, va_recv hKc hPc (ci := 4) (q0 := 0) rfl rfl, PreW_mk hKc hPc hDc hG hS hFc⟩ rfl rfl hl.1 rfl (lv_room (Nat.le_of_ble_eq_true rfl)) d_Mod_boxed_1 ⟨Nat.le_of_ble_eq_true rfl, Nat.le_of_ble_eq_true rfl⟩) hS (fun q _ h => hFc q h) hFc (fun r_1 u_1 t H1 locs ht hvm hw hB hz1 hk1 hS => ?_)
  have hw := hw.symm
  subst hw
  obtain ⟨hP1, hK1, hD1⟩ := hB
  rw [ht] at hP1
  obtain ⟨hP, hD⟩ := va_join (wr := pick (x_Mod ad cs m_thrown m_kind m_steps m_size m_ran m_parts m_taken m_lacked m_decodings m_failures m_at m_end m_many m_wrong m_bytes m_heads m_numbers m_codes m_sizes m_guessed m_results m_values m_states m_came m_boxes m_single m_rows) []) hP hD [0, 1, 2, 3, 4, 5, 6, 7, 8, 9, 10, 11, 12, 13] [] rfl rfl (by decide) (by decide) hk1 hFc hP1 hD1
  generalize H1 = H at hP hS ⊢
  have hP : va_P (dC, dI) vwCl (x_Mod ad cs m_thrown m_kind m_steps m_size m_ran m_parts m_taken m_lacked m_decodings m_failures o1.2.1 m_end m_many o1.2.2 m_bytes m_heads m_numbers m_codes m_sizes m_guessed m_results m_values m_states m_came m_boxes m_single m_rows) H := hP.sub [0, 1, 2, 3, 4, 5, 6, 7, 8, 9, 10, 11, 12, 13] rfl
  have hD : va_D A (x_Mod ad cs m_thrown m_kind m_steps m_size m_ran m_parts m_taken m_lacked m_decodings m_failures o1.2.1 m_end m_many o1.2.2 m_bytes m_heads m_numbers m_codes m_sizes m_guessed m_results m_values m_states m_came m_boxes m_single m_rows) := hD.sub [0, 1, 2, 3, 4, 5, 6, 7, 8, 9, 10, 11, 12, 13] (by decide) rfl
  refine lv_bipush (v := 8) hx hb d_Mod_boxed_4 (by decide) ?_
  refine lv_irem hx hb d_Mod_boxed_6 (by decide) ?_
  refine lv_istore_n (lv' := [(1, .int (o1.1 - o1.1 / (8 : Int32) * (8 : Int32))), (0, .ref (ad 0))]) hx hb d_Mod_boxed_7 rfl hl (by decide) rfl (fun ls hl => ?_)
  refine lv_aload_n hx hb d_Mod_boxed_8 rfl (lv_at hl 1 rfl) ?_
  obtain ⟨o2, ho2, h⟩ := Option.bind_eq_some_iff.mp h
  have hKc := hK.sub (tys' := [((cs 1), .int), ((cs 2), .int), ((cs 3), .int), ((cs 4), .int), ((cs 5), .int), ((cs 6), .boolean), ((cs 7), .int), ((cs 8), .int), ((cs 9), .int), ((cs 10), .int), ((cs 11), .int), ((cs 12), .int), ((cs 13), .int)]) [0, 1, 2, 3, 4, 5, 6, 7, 8, 9, 10, 11, 12] rfl
  have hPc := hP.sub (ws' := x_Mod ad cs m_thrown m_kind m_steps m_size m_ran m_parts m_taken m_lacked m_decodings m_failures o1.2.1 m_end m_many o1.2.2 m_bytes m_heads m_numbers m_codes m_sizes m_guessed m_results m_values m_states m_came m_boxes m_single m_rows) [0, 1, 2, 3, 4, 5, 6, 7, 8, 9, 10, 11, 12, 13] rfl
  have hDc := hD.sub (ws' := x_Mod ad cs m_thrown m_kind m_steps m_size m_ran m_parts m_taken m_lacked m_decodings m_failures o1.2.1 m_end m_many o1.2.2 m_bytes m_heads m_numbers m_codes m_sizes m_guessed m_results m_values m_states m_came m_boxes m_single m_rows) [0, 1, 2, 3, 4, 5, 6, 7, 8, 9, 10, 11, 12, 13] (by decide) rfl
  have hFc := va_free (wc := x_Mod ad cs m_thrown m_kind m_steps m_size m_ran m_parts m_taken m_lacked m_decodings m_failures o1.2.1 m_end m_many o1.2.2 m_bytes m_heads m_numbers m_codes m_sizes m_guessed m_results m_values m_states m_came m_boxes m_single m_rows) hD hS hA [0, 1, 2, 3, 4, 5, 6, 7, 8, 9, 10, 11, 12, 13] rfl
  refine va_calli (va_runV (As := []) (rest := []) ⟨hx, hb, hml, hown, hB⟩ (c_Mod_take l dC dI tt ad cs H.size N m_thrown m_kind m_steps m_size m_ran m_parts m_taken m_lacked m_decodings m_failures o1.2.1 m_end m_many o1.2.2 m_bytes m_heads m_numbers m_codes m_sizes m_guessed m_results m_values m_states m_came m_boxes m_single m_rows o2 ho2) (cwV 0 hB (gV wd_253 wd_251 wd_250 wd_226 wd_252) rfl rfl rfl (by decide +kernel) ⟨Nat.le_of_ble_eq_true rfl, Nat.le_of_ble_eq_true rfl⟩) ⟨PreW_blind, va_recv hKc hPc (ci := 4) (q0 := 0) rfl rfl, PreW_mk hKc hPc hDc hG hS hFc⟩ rfl rfl hl.1 rfl (lv_room (Nat.le_of_ble_eq_true rfl)) d_Mod_boxed_9 ⟨Nat.le_of_ble_eq_true rfl, Nat.le_of_ble_eq_true rfl⟩) hS (fun q _ h => hFc q h) hFc (fun r_2 u_2 t H1 locs ht hvm hw hB hz1 hk1 hS => ?_)
  have hw := hw.symm
  subst hw
  obtain ⟨hP1, hK1, hD1⟩ := hB
  rw [ht] at hP1
  obtain ⟨hP, hD⟩ := va_join (wr := pick (x_Mod ad cs m_thrown m_kind m_steps m_size m_ran m_parts m_taken m_lacked m_decodings m_failures o1.2.1 m_end m_many o1.2.2 m_bytes m_heads m_numbers m_codes m_sizes m_guessed m_results m_values m_states m_came m_boxes m_single m_rows) []) hP hD [0, 1, 2, 3, 4, 5, 6, 7, 8, 9, 10, 11, 12, 13] [] rfl rfl (by decide) (by decide) hk1 hFc hP1 hD1
  generalize H1 = H at hP hS ⊢
  have hP : va_P (dC, dI) vwCl (x_Mod ad cs m_thrown m_kind m_steps m_size m_ran m_parts m_taken m_lacked m_decodings m_failures o2.2.1 m_end m_many o2.2.2 m_bytes m_heads m_numbers m_codes m_sizes m_guessed m_results m_values m_states m_came m_boxes m_single m_rows) H := hP.sub [0, 1, 2, 3, 4, 5, 6, 7, 8, 9, 10, 11, 12, 13] rfl
  have hD : va_D A (x_Mod ad cs m_thrown m_kind m_steps m_size m_ran m_parts m_taken m_lacked m_decodings m_failures o2.2.1 m_end m_many o2.2.2 m_bytes m_heads m_numbers m_codes m_sizes m_guessed m_results m_values m_states m_came m_boxes m_single m_rows) := hD.sub [0, 1, 2, 3, 4, 5, 6, 7, 8, 9, 10, 11, 12, 13] (by decide) rfl
  refine lv_istore_n (lv' := [(2, .int o2.1), (1, .int (o1.1 - o1.1 / (8 : Int32) * (8 : Int32))), (0, .ref (ad 0))]) hx hb d_Mod_boxed_12 rfl hl (by decide) rfl (fun ls hl => ?_)
  refine lv_aload_n hx hb d_Mod_boxed_13 rfl (lv_at hl 2 rfl) ?_
  refine va_get (D := (dC, dI)) (ci := 4) (v := .int o2.2.2) (C := R_Mod) (T := T_Mod) (N := 27) hx hb hB in_Mod hown hK hP 0 rfl rfl 23 (by decide) (hB _ wd_241) (fun _ h9 => h9) rfl d_Mod_boxed_14 ?_
  refine lv_if_le (tgt := 21) hx hb d_Mod_boxed_17 (by decide) (fun c_3 => ?_) (fun c_3 => ?_)
  · have h := (if_pos c_3).symm.trans h
    refine lv_iload_n hx hb d_Mod_boxed_21 rfl (lv_at hl 0 rfl) ?_
    refine lv_bipush (v := 8) hx hb d_Mod_boxed_22 (by decide) ?_
    refine lv_irem hx hb d_Mod_boxed_24 (by decide) ?_
    refine lv_istore_n (lv' := [(3, .int (o2.1 - o2.1 / (8 : Int32) * (8 : Int32))), (2, .int o2.1), (1, .int (o1.1 - o1.1 / (8 : Int32) * (8 : Int32))), (0, .ref (ad 0))]) hx hb d_Mod_boxed_25 rfl hl (by decide) rfl (fun ls hl => ?_)
    refine lv_iload_n hx hb d_Mod_boxed_26 rfl (lv_at hl 1 rfl) ?_
    refine lv_bipush (v := 8) hx hb d_Mod_boxed_27 (by decide) ?_
    refine lv_idiv hx hb d_Mod_boxed_29 (by decide) ?_
    refine lv_istore (lv' := [(4, .int (o2.1 / (8 : Int32))), (3, .int (o2.1 - o2.1 / (8 : Int32) * (8 : Int32))), (2, .int o2.1), (1, .int (o1.1 - o1.1 / (8 : Int32) * (8 : Int32))), (0, .ref (ad 0))]) hx hb d_Mod_boxed_30 hl (by decide) rfl (fun ls hl => ?_)
    refine lv_iload_n hx hb d_Mod_boxed_32 rfl (lv_at hl 3 rfl) ?_
    refine lv_iconst (v := 2) hx hb d_Mod_boxed_33 (by decide) ?_
    refine lv_icmp_lt (tgt := 118) hx hb d_Mod_boxed_34 (by decide) (fun c_4 => ?_) (fun c_4 => ?_)
    · have h := (if_pos c_4).symm.trans h
      exact J118 (o1.1 - o1.1 / (8 : Int32) * (8 : Int32)) (o2.1 - o2.1 / (8 : Int32) * (8 : Int32)) (o2.1 / (8 : Int32)) o2.2.1 m_many o2.2.2 m_came m_boxes m_single m_rows _ _ ls (lv_sub hl [4, 3, 1, 0] rfl) hP hD hS h
    · have h := (if_neg c_4).symm.trans h
      refine lv_iload_n hx hb d_Mod_boxed_37 rfl (lv_at hl 3 rfl) ?_
      refine lv_iconst (v := 5) hx hb d_Mod_boxed_38 (by decide) ?_
      refine lv_icmp_gt (tgt := 118) hx hb d_Mod_boxed_39 (by decide) (fun c_5 => ?_) (fun c_5 => ?_)
      · have h := (if_pos c_5).symm.trans h
        exact J118 (o1.1 - o1.1 / (8 : Int32) * (8 : Int32)) (o2.1 - o2.1 / (8 : Int32) * (8 : Int32)) (o2.1 / (8 : Int32)) o2.2.1 m_many o2.2.2 m_came m_boxes m_single m_rows _ _ ls (lv_sub hl [4, 3, 1, 0] rfl) hP hD hS h
      · have h := (if_neg c_5).symm.trans h
        refine lv_aload_n hx hb d_Mod_boxed_42 rfl (lv_at hl 4 rfl) ?_
        refine va_get (D := (dC, dI)) (ci := 4) (v := .ref (ad 11)) (C := R_Mod) (T := T_Mod) (N := 27) hx hb hB in_Mod hown hK hP 0 rfl rfl 24 (by decide) (hB _ wd_262) (fun _ h9 => h9) rfl d_Mod_boxed_43 ?_
        refine lv_iload_n hx hb d_Mod_boxed_46 rfl (lv_at hl 1 rfl) ?_
        obtain ⟨b_6, h⟩ := gI_some h
        refine va_iald hx hb hK hP 11 10 rfl rfl b_6 d_Mod_boxed_47 ?_
        refine lv_bipush (v := (-2)) hx hb d_Mod_boxed_48 (by decide) ?_
        refine lv_icmp_ne (tgt := 61) hx hb d_Mod_boxed_50 (by decide) (fun c_7 => ?_) (fun c_7 => ?_)
        · have h := (if_neg c_7).symm.trans h
          refine lv_aload_n hx hb d_Mod_boxed_61 rfl (lv_at hl 4 rfl) ?_
          refine va_get (D := (dC, dI)) (ci := 4) (v := .ref (ad 11)) (C := R_Mod) (T := T_Mod) (N := 27) hx hb hB in_Mod hown hK hP 0 rfl rfl 24 (by decide) (hB _ wd_262) (fun _ h9 => h9) rfl d_Mod_boxed_62 ?_
          refine lv_iload_n hx hb d_Mod_boxed_65 rfl (lv_at hl 1 rfl) ?_
          refine va_iald hx hb hK hP 11 10 rfl rfl b_6 d_Mod_boxed_66 ?_
          refine lv_iconst (v := (-1)) hx hb d_Mod_boxed_67 (by decide) ?_
          refine lv_icmp_ne (tgt := 75) hx hb d_Mod_boxed_68 (by decide) (fun c_8 => ?_) (fun c_8 => ?_)
          · have h := (if_neg c_8).symm.trans h
            refine lv_iconst (v := 0) hx hb d_Mod_boxed_75 (by decide) ?_
            refine lv_iload_n hx hb d_Mod_boxed_76 rfl (lv_at hl 3 rfl) ?_
            refine lv_iconst (v := 2) hx hb d_Mod_boxed_77 (by decide) ?_
            refine lv_icmp_ne (tgt := 85) hx hb d_Mod_boxed_78 (by decide) (fun c_9 => ?_) (fun c_9 => ?_)
            · have h := (if_neg c_9).symm.trans h
              refine lv_iconst (v := 0) hx hb d_Mod_boxed_85 (by decide) ?_
              refine lv_icmp_eq (tgt := 97) hx hb d_Mod_boxed_86 (by decide) (fun _ => ?_) (fun c9 => absurd c9 (by decide))
              refine lv_iload_n hx hb d_Mod_boxed_97 rfl (lv_at hl 3 rfl) ?_
              refine lv_iconst (v := 4) hx hb d_Mod_boxed_98 (by decide) ?_
              refine lv_icmp_lt (tgt := 118) hx hb d_Mod_boxed_99 (by decide) (fun c_11 => ?_) (fun c_11 => ?_)
              · have h := (if_pos c_11).symm.trans h
                exact J118 (o1.1 - o1.1 / (8 : Int32) * (8 : Int32)) (o2.1 - o2.1 / (8 : Int32) * (8 : Int32)) (o2.1 / (8 : Int32)) o2.2.1 m_many o2.2.2 m_came m_boxes m_single m_rows _ _ ls (lv_sub hl [4, 3, 1, 0] rfl) hP hD hS h
              · have h := (if_neg c_11).symm.trans h
                refine lv_iload hx hb d_Mod_boxed_102 (lv_at hl 0 rfl) ?_
                refine lv_aload_n hx hb d_Mod_boxed_104 rfl (lv_at hl 4 rfl) ?_
                refine va_get (D := (dC, dI)) (ci := 4) (v := .ref (ad 11)) (C := R_Mod) (T := T_Mod) (N := 27) hx hb hB in_Mod hown hK hP 0 rfl rfl 24 (by decide) (hB _ wd_262) (fun _ h9 => h9) rfl d_Mod_boxed_105 ?_
                refine lv_iload_n hx hb d_Mod_boxed_108 rfl (lv_at hl 1 rfl) ?_
                refine va_iald hx hb hK hP 11 10 rfl rfl b_6 d_Mod_boxed_109 ?_
                refine lv_icmp_lt (tgt := 118) hx hb d_Mod_boxed_110 (by decide) (fun c_12 => ?_) (fun c_12 => ?_)
                · have h := (if_pos c_12).symm.trans h
                  exact J118 (o1.1 - o1.1 / (8 : Int32) * (8 : Int32)) (o2.1 - o2.1 / (8 : Int32) * (8 : Int32)) (o2.1 / (8 : Int32)) o2.2.1 m_many o2.2.2 m_came m_boxes m_single m_rows _ _ ls (lv_sub hl [4, 3, 1, 0] rfl) hP hD hS h
                · have h := (if_neg c_12).symm.trans h
                  refine lv_aload_n hx hb d_Mod_boxed_113 rfl (lv_at hl 4 rfl) ?_
                  refine lv_iconst (v := 1) hx hb d_Mod_boxed_114 (by decide) ?_
                  obtain ⟨o13, ho13, h⟩ := Option.bind_eq_some_iff.mp h
                  have hKc := hK.sub (tys' := [((cs 1), .int), ((cs 2), .int), ((cs 3), .int), ((cs 4), .int), ((cs 5), .int), ((cs 6), .boolean), ((cs 7), .int), ((cs 8), .int), ((cs 9), .int), ((cs 10), .int), ((cs 11), .int), ((cs 12), .int), ((cs 13), .int)]) [0, 1, 2, 3, 4, 5, 6, 7, 8, 9, 10, 11, 12] rfl
                  have hPc := hP.sub (ws' := x_Mod ad cs m_thrown m_kind m_steps m_size m_ran m_parts m_taken m_lacked m_decodings m_failures o2.2.1 m_end m_many o2.2.2 m_bytes m_heads m_numbers m_codes m_sizes m_guessed m_results m_values m_states m_came m_boxes m_single m_rows) [0, 1, 2, 3, 4, 5, 6, 7, 8, 9, 10, 11, 12, 13] rfl
                  have hDc := hD.sub (ws' := x_Mod ad cs m_thrown m_kind m_steps m_size m_ran m_parts m_taken m_lacked m_decodings m_failures o2.2.1 m_end m_many o2.2.2 m_bytes m_heads m_numbers m_codes m_sizes m_guessed m_results m_values m_states m_came m_boxes m_single m_rows) [0, 1, 2, 3, 4, 5, 6, 7, 8, 9, 10, 11, 12, 13] (by decide) rfl
                  have hFc := va_free (wc := x_Mod ad cs m_thrown m_kind m_steps m_size m_ran m_parts m_taken m_lacked m_decodings m_failures o2.2.1 m_end m_many o2.2.2 m_bytes m_heads m_numbers m_codes m_sizes m_guessed m_results m_values m_states m_came m_boxes m_single m_rows) hD hS hA [0, 1, 2, 3, 4, 5, 6, 7, 8, 9, 10, 11, 12, 13] rfl
                  refine va_callv (va_runV (As := [.int (1 : Int32)]) (rest := []) ⟨hx, hb, hml, hown, hB⟩ (c_Mod_fail l dC dI tt ad cs H.size N (1 : Int32) m_thrown m_kind m_steps m_size m_ran m_parts m_taken m_lacked m_decodings m_failures o2.2.1 m_end m_many o2.2.2 m_bytes m_heads m_numbers m_codes m_sizes m_guessed m_results m_values m_states m_came m_boxes m_single m_rows o13 ho13) (cwV 1 hB (gV wd_247 wd_245 wd_244 wd_226 wd_246) rfl rfl rfl (by decide +kernel) ⟨Nat.le_of_ble_eq_true rfl, Nat.le_of_ble_eq_true rfl⟩) ⟨PreW_blind, va_recv hKc hPc (ci := 4) (q0 := 0) rfl rfl, PreW_mk hKc hPc hDc hG hS hFc⟩ rfl rfl hl.1 rfl (lv_room (Nat.le_of_ble_eq_true rfl)) d_Mod_boxed_115 ⟨Nat.le_of_ble_eq_true rfl, Nat.le_of_ble_eq_true rfl⟩) hS (fun q _ h => hFc q h) hFc (fun u_13 t H1 locs ht hvm hw hB hz1 hk1 hS => ?_)
                  obtain ⟨hP1, hK1, hD1⟩ := hB
                  rw [ht] at hP1
                  obtain ⟨hP, hD⟩ := va_join (wr := pick (x_Mod ad cs m_thrown m_kind m_steps m_size m_ran m_parts m_taken m_lacked m_decodings m_failures o2.2.1 m_end m_many o2.2.2 m_bytes m_heads m_numbers m_codes m_sizes m_guessed m_results m_values m_states m_came m_boxes m_single m_rows) []) hP hD [0, 1, 2, 3, 4, 5, 6, 7, 8, 9, 10, 11, 12, 13] [] rfl rfl (by decide) (by decide) hk1 hFc hP1 hD1
                  generalize H1 = H at hP hS ⊢
                  have hP : va_P (dC, dI) vwCl (x_Mod ad cs m_thrown m_kind m_steps m_size m_ran m_parts m_taken m_lacked m_decodings m_failures o2.2.1 m_end m_many o13 m_bytes m_heads m_numbers m_codes m_sizes m_guessed m_results m_values m_states m_came m_boxes m_single m_rows) H := hP.sub [0, 1, 2, 3, 4, 5, 6, 7, 8, 9, 10, 11, 12, 13] rfl
                  have hD : va_D A (x_Mod ad cs m_thrown m_kind m_steps m_size m_ran m_parts m_taken m_lacked m_decodings m_failures o2.2.1 m_end m_many o13 m_bytes m_heads m_numbers m_codes m_sizes m_guessed m_results m_values m_states m_came m_boxes m_single m_rows) := hD.sub [0, 1, 2, 3, 4, 5, 6, 7, 8, 9, 10, 11, 12, 13] (by decide) rfl
                  exact J118 (o1.1 - o1.1 / (8 : Int32) * (8 : Int32)) (o2.1 - o2.1 / (8 : Int32) * (8 : Int32)) (o2.1 / (8 : Int32)) o2.2.1 m_many o13 m_came m_boxes m_single m_rows _ _ ls (lv_sub hl [4, 3, 1, 0] rfl) hP hD hS h
            · have h := (if_pos c_9).symm.trans h
              refine lv_iconst (v := 1) hx hb d_Mod_boxed_81 (by decide) ?_
              refine lv_goto (tgt := 86) hx hb d_Mod_boxed_82 (by decide) ?_
              refine lv_icmp_eq (tgt := 97) hx hb d_Mod_boxed_86 (by decide) (fun c9 => absurd c9 (by decide)) (fun _ => ?_)
              refine lv_aload_n hx hb d_Mod_boxed_89 rfl (lv_at hl 4 rfl) ?_
              refine lv_iconst (v := 4) hx hb d_Mod_boxed_90 (by decide) ?_
              obtain ⟨o15, ho15, h⟩ := Option.bind_eq_some_iff.mp h
              have hKc := hK.sub (tys' := [((cs 1), .int), ((cs 2), .int), ((cs 3), .int), ((cs 4), .int), ((cs 5), .int), ((cs 6), .boolean), ((cs 7), .int), ((cs 8), .int), ((cs 9), .int), ((cs 10), .int), ((cs 11), .int), ((cs 12), .int), ((cs 13), .int)]) [0, 1, 2, 3, 4, 5, 6, 7, 8, 9, 10, 11, 12] rfl
              have hPc := hP.sub (ws' := x_Mod ad cs m_thrown m_kind m_steps m_size m_ran m_parts m_taken m_lacked m_decodings m_failures o2.2.1 m_end m_many o2.2.2 m_bytes m_heads m_numbers m_codes m_sizes m_guessed m_results m_values m_states m_came m_boxes m_single m_rows) [0, 1, 2, 3, 4, 5, 6, 7, 8, 9, 10, 11, 12, 13] rfl
              have hDc := hD.sub (ws' := x_Mod ad cs m_thrown m_kind m_steps m_size m_ran m_parts m_taken m_lacked m_decodings m_failures o2.2.1 m_end m_many o2.2.2 m_bytes m_heads m_numbers m_codes m_sizes m_guessed m_results m_values m_states m_came m_boxes m_single m_rows) [0, 1, 2, 3, 4, 5, 6, 7, 8, 9, 10, 11, 12, 13] (by decide) rfl
              have hFc := va_free (wc := x_Mod ad cs m_thrown m_kind m_steps m_size m_ran m_parts m_taken m_lacked m_decodings m_failures o2.2.1 m_end m_many o2.2.2 m_bytes m_heads m_numbers m_codes m_sizes m_guessed m_results m_values m_states m_came m_boxes m_single m_rows) hD hS hA [0, 1, 2, 3, 4, 5, 6, 7, 8, 9, 10, 11, 12, 13] rfl
              refine va_callv (va_runV (As := [.int (4 : Int32)]) (rest := []) ⟨hx, hb, hml, hown, hB⟩ (c_Mod_fail l dC dI tt ad cs H.size N (4 : Int32) m_thrown m_kind m_steps m_size m_ran m_parts m_taken m_lacked m_decodings m_failures o2.2.1 m_end m_many o2.2.2 m_bytes m_heads m_numbers m_codes m_sizes m_guessed m_results m_values m_states m_came m_boxes m_single m_rows o15 ho15) (cwV 1 hB (gV wd_247 wd_245 wd_244 wd_226 wd_246) rfl rfl rfl (by decide +kernel) ⟨Nat.le_of_ble_eq_true rfl, Nat.le_of_ble_eq_true rfl⟩) ⟨PreW_blind, va_recv hKc hPc (ci := 4) (q0 := 0) rfl rfl, PreW_mk hKc hPc hDc hG hS hFc⟩ rfl rfl hl.1 rfl (lv_room (Nat.le_of_ble_eq_true rfl)) d_Mod_boxed_91 ⟨Nat.le_of_ble_eq_true rfl, Nat.le_of_ble_eq_true rfl⟩) hS (fun q _ h => hFc q h) hFc (fun u_15 t H1 locs ht hvm hw hB hz1 hk1 hS => ?_)
              obtain ⟨hP1, hK1, hD1⟩ := hB
              rw [ht] at hP1
              obtain ⟨hP, hD⟩ := va_join (wr := pick (x_Mod ad cs m_thrown m_kind m_steps m_size m_ran m_parts m_taken m_lacked m_decodings m_failures o2.2.1 m_end m_many o2.2.2 m_bytes m_heads m_numbers m_codes m_sizes m_guessed m_results m_values m_states m_came m_boxes m_single m_rows) []) hP hD [0, 1, 2, 3, 4, 5, 6, 7, 8, 9, 10, 11, 12, 13] [] rfl rfl (by decide) (by decide) hk1 hFc hP1 hD1
              generalize H1 = H at hP hS ⊢
              have hP : va_P (dC, dI) vwCl (x_Mod ad cs m_thrown m_kind m_steps m_size m_ran m_parts m_taken m_lacked m_decodings m_failures o2.2.1 m_end m_many o15 m_bytes m_heads m_numbers m_codes m_sizes m_guessed m_results m_values m_states m_came m_boxes m_single m_rows) H := hP.sub [0, 1, 2, 3, 4, 5, 6, 7, 8, 9, 10, 11, 12, 13] rfl
              have hD : va_D A (x_Mod ad cs m_thrown m_kind m_steps m_size m_ran m_parts m_taken m_lacked m_decodings m_failures o2.2.1 m_end m_many o15 m_bytes m_heads m_numbers m_codes m_sizes m_guessed m_results m_values m_states m_came m_boxes m_single m_rows) := hD.sub [0, 1, 2, 3, 4, 5, 6, 7, 8, 9, 10, 11, 12, 13] (by decide) rfl
              refine lv_goto (tgt := 118) hx hb d_Mod_boxed_94 (by decide) ?_
              exact J118 (o1.1 - o1.1 / (8 : Int32) * (8 : Int32)) (o2.1 - o2.1 / (8 : Int32) * (8 : Int32)) (o2.1 / (8 : Int32)) o2.2.1 m_many o15 m_came m_boxes m_single m_rows _ _ ls (lv_sub hl [4, 3, 1, 0] rfl) hP hD hS h
          · have h := (if_pos c_8).symm.trans h
            refine lv_iconst (v := 1) hx hb d_Mod_boxed_71 (by decide) ?_
            refine lv_goto (tgt := 76) hx hb d_Mod_boxed_72 (by decide) ?_
            refine lv_iload_n hx hb d_Mod_boxed_76 rfl (lv_at hl 3 rfl) ?_
            refine lv_iconst (v := 2) hx hb d_Mod_boxed_77 (by decide) ?_
            refine lv_icmp_ne (tgt := 85) hx hb d_Mod_boxed_78 (by decide) (fun c_16 => ?_) (fun c_16 => ?_)
            · have h := (if_neg c_16).symm.trans h
              refine lv_iconst (v := 0) hx hb d_Mod_boxed_85 (by decide) ?_
              refine lv_icmp_eq (tgt := 97) hx hb d_Mod_boxed_86 (by decide) (fun c9 => absurd c9 (by decide)) (fun _ => ?_)
              refine lv_aload_n hx hb d_Mod_boxed_89 rfl (lv_at hl 4 rfl) ?_
              refine lv_iconst (v := 4) hx hb d_Mod_boxed_90 (by decide) ?_
              obtain ⟨o18, ho18, h⟩ := Option.bind_eq_some_iff.mp h
              have hKc := hK.sub (tys' := [((cs 1), .int), ((cs 2), .int), ((cs 3), .int), ((cs 4), .int), ((cs 5), .int), ((cs 6), .boolean), ((cs 7), .int), ((cs 8), .int), ((cs 9), .int), ((cs 10), .int), ((cs 11), .int), ((cs 12), .int), ((cs 13), .int)]) [0, 1, 2, 3, 4, 5, 6, 7, 8, 9, 10, 11, 12] rfl
              have hPc := hP.sub (ws' := x_Mod ad cs m_thrown m_kind m_steps m_size m_ran m_parts m_taken m_lacked m_decodings m_failures o2.2.1 m_end m_many o2.2.2 m_bytes m_heads m_numbers m_codes m_sizes m_guessed m_results m_values m_states m_came m_boxes m_single m_rows) [0, 1, 2, 3, 4, 5, 6, 7, 8, 9, 10, 11, 12, 13] rfl
              have hDc := hD.sub (ws' := x_Mod ad cs m_thrown m_kind m_steps m_size m_ran m_parts m_taken m_lacked m_decodings m_failures o2.2.1 m_end m_many o2.2.2 m_bytes m_heads m_numbers m_codes m_sizes m_guessed m_results m_values m_states m_came m_boxes m_single m_rows) [0, 1, 2, 3, 4, 5, 6, 7, 8, 9, 10, 11, 12, 13] (by decide) rfl
              have hFc := va_free (wc := x_Mod ad cs m_thrown m_kind m_steps m_size m_ran m_parts m_taken m_lacked m_decodings m_failures o2.2.1 m_end m_many o2.2.2 m_bytes m_heads m_numbers m_codes m_sizes m_guessed m_results m_values m_states m_came m_boxes m_single m_rows) hD hS hA [0, 1, 2, 3, 4, 5, 6, 7, 8, 9, 10, 11, 12, 13] rfl
              refine va_callv (va_runV (As := [.int (4 : Int32)]) (rest := []) ⟨hx, hb, hml, hown, hB⟩ (c_Mod_fail l dC dI tt ad cs H.size N (4 : Int32) m_thrown m_kind m_steps m_size m_ran m_parts m_taken m_lacked m_decodings m_failures o2.2.1 m_end m_many o2.2.2 m_bytes m_heads m_numbers m_codes m_sizes m_guessed m_results m_values m_states m_came m_boxes m_single m_rows o18 ho18) (cwV 1 hB (gV wd_247 wd_245 wd_244 wd_226 wd_246) rfl rfl rfl (by decide +kernel) ⟨Nat.le_of_ble_eq_true rfl, Nat.le_of_ble_eq_true rfl⟩) ⟨PreW_blind, va_recv hKc hPc (ci := 4) (q0 := 0) rfl rfl, PreW_mk hKc hPc hDc hG hS hFc⟩ rfl rfl hl.1 rfl (lv_room (Nat.le_of_ble_eq_true rfl)) d_Mod_boxed_91 ⟨Nat.le_of_ble_eq_true rfl, Nat.le_of_ble_eq_true rfl⟩) hS (fun q _ h => hFc q h) hFc (fun u_18 t H1 locs ht hvm hw hB hz1 hk1 hS => ?_)
              obtain ⟨hP1, hK1, hD1⟩ := hB
              rw [ht] at hP1
              obtain ⟨hP, hD⟩ := va_join (wr := pick (x_Mod ad cs m_thrown m_kind m_steps m_size m_ran m_parts m_taken m_lacked m_decodings m_failures o2.2.1 m_end m_many o2.2.2 m_bytes m_heads m_numbers m_codes m_sizes m_guessed m_results m_values m_states m_came m_boxes m_single m_rows) []) hP hD [0, 1, 2, 3, 4, 5, 6, 7, 8, 9, 10, 11, 12, 13] [] rfl rfl (by decide) (by decide) hk1 hFc hP1 hD1
              generalize H1 = H at hP hS ⊢
              have hP : va_P (dC, dI) vwCl (x_Mod ad cs m_thrown m_kind m_steps m_size m_ran m_parts m_taken m_lacked m_decodings m_failures o2.2.1 m_end m_many o18 m_bytes m_heads m_numbers m_codes m_sizes m_guessed m_results m_values m_states m_came m_boxes m_single m_rows) H := hP.sub [0, 1, 2, 3, 4, 5, 6, 7, 8, 9, 10, 11, 12, 13] rfl
              have hD : va_D A (x_Mod ad cs m_thrown m_kind m_steps m_size m_ran m_parts m_taken m_lacked m_decodings m_failures o2.2.1 m_end m_many o18 m_bytes m_heads m_numbers m_codes m_sizes m_guessed m_results m_values m_states m_came m_boxes m_single m_rows) := hD.sub [0, 1, 2, 3, 4, 5, 6, 7, 8, 9, 10, 11, 12, 13] (by decide) rfl
              refine lv_goto (tgt := 118) hx hb d_Mod_boxed_94 (by decide) ?_
              exact J118 (o1.1 - o1.1 / (8 : Int32) * (8 : Int32)) (o2.1 - o2.1 / (8 : Int32) * (8 : Int32)) (o2.1 / (8 : Int32)) o2.2.1 m_many o18 m_came m_boxes m_single m_rows _ _ ls (lv_sub hl [4, 3, 1, 0] rfl) hP hD hS h
            · have h := (if_pos c_16).symm.trans h
              refine lv_iconst (v := 1) hx hb d_Mod_boxed_81 (by decide) ?_
              refine lv_goto (tgt := 86) hx hb d_Mod_boxed_82 (by decide) ?_
              refine lv_icmp_eq (tgt := 97) hx hb d_Mod_boxed_86 (by decide) (fun _ => ?_) (fun c9 => absurd c9 (by decide))
              refine lv_iload_n hx hb d_Mod_boxed_97 rfl (lv_at hl 3 rfl) ?_
              refine lv_iconst (v := 4) hx hb d_Mod_boxed_98 (by decide) ?_
              refine lv_icmp_lt (tgt := 118) hx hb d_Mod_boxed_99 (by decide) (fun c_20 => ?_) (fun c_20 => ?_)
              · have h := (if_pos c_20).symm.trans h
                exact J118 (o1.1 - o1.1 / (8 : Int32) * (8 : Int32)) (o2.1 - o2.1 / (8 : Int32) * (8 : Int32)) (o2.1 / (8 : Int32)) o2.2.1 m_many o2.2.2 m_came m_boxes m_single m_rows _ _ ls (lv_sub hl [4, 3, 1, 0] rfl) hP hD hS h
              · have h := (if_neg c_20).symm.trans h
                refine lv_iload hx hb d_Mod_boxed_102 (lv_at hl 0 rfl) ?_
                refine lv_aload_n hx hb d_Mod_boxed_104 rfl (lv_at hl 4 rfl) ?_
                refine va_get (D := (dC, dI)) (ci := 4) (v := .ref (ad 11)) (C := R_Mod) (T := T_Mod) (N := 27) hx hb hB in_Mod hown hK hP 0 rfl rfl 24 (by decide) (hB _ wd_262) (fun _ h9 => h9) rfl d_Mod_boxed_105 ?_
                refine lv_iload_n hx hb d_Mod_boxed_108 rfl (lv_at hl 1 rfl) ?_
                refine va_iald hx hb hK hP 11 10 rfl rfl b_6 d_Mod_boxed_109 ?_
                refine lv_icmp_lt (tgt := 118) hx hb d_Mod_boxed_110 (by decide) (fun c_21 => ?_) (fun c_21 => ?_)
                · have h := (if_pos c_21).symm.trans h
                  exact J118 (o1.1 - o1.1 / (8 : Int32) * (8 : Int32)) (o2.1 - o2.1 / (8 : Int32) * (8 : Int32)) (o2.1 / (8 : Int32)) o2.2.1 m_many o2.2.2 m_came m_boxes m_single m_rows _ _ ls (lv_sub hl [4, 3, 1, 0] rfl) hP hD hS h
                · have h := (if_neg c_21).symm.trans h
                  refine lv_aload_n hx hb d_Mod_boxed_113 rfl (lv_at hl 4 rfl) ?_
                  refine lv_iconst (v := 1) hx hb d_Mod_boxed_114 (by decide) ?_
                  obtain ⟨o22, ho22, h⟩ := Option.bind_eq_some_iff.mp h
                  have hKc := hK.sub (tys' := [((cs 1), .int), ((cs 2), .int), ((cs 3), .int), ((cs 4), .int), ((cs 5), .int), ((cs 6), .boolean), ((cs 7), .int), ((cs 8), .int), ((cs 9), .int), ((cs 10), .int), ((cs 11), .int), ((cs 12), .int), ((cs 13), .int)]) [0, 1, 2, 3, 4, 5, 6, 7, 8, 9, 10, 11, 12] rfl
                  have hPc := hP.sub (ws' := x_Mod ad cs m_thrown m_kind m_steps m_size m_ran m_parts m_taken m_lacked m_decodings m_failures o2.2.1 m_end m_many o2.2.2 m_bytes m_heads m_numbers m_codes m_sizes m_guessed m_results m_values m_states m_came m_boxes m_single m_rows) [0, 1, 2, 3, 4, 5, 6, 7, 8, 9, 10, 11, 12, 13] rfl
                  have hDc := hD.sub (ws' := x_Mod ad cs m_thrown m_kind m_steps m_size m_ran m_parts m_taken m_lacked m_decodings m_failures o2.2.1 m_end m_many o2.2.2 m_bytes m_heads m_numbers m_codes m_sizes m_guessed m_results m_values m_states m_came m_boxes m_single m_rows) [0, 1, 2, 3, 4, 5, 6, 7, 8, 9, 10, 11, 12, 13] (by decide) rfl
                  have hFc := va_free (wc := x_Mod ad cs m_thrown m_kind m_steps m_size m_ran m_parts m_taken m_lacked m_decodings m_failures o2.2.1 m_end m_many o2.2.2 m_bytes m_heads m_numbers m_codes m_sizes m_guessed m_results m_values m_states m_came m_boxes m_single m_rows) hD hS hA [0, 1, 2, 3, 4, 5, 6, 7, 8, 9, 10, 11, 12, 13] rfl
                  refine va_callv (va_runV (As := [.int (1 : Int32)]) (rest := []) ⟨hx, hb, hml, hown, hB⟩ (c_Mod_fail l dC dI tt ad cs H.size N (1 : Int32) m_thrown m_kind m_steps m_size m_ran m_parts m_taken m_lacked m_decodings m_failures o2.2.1 m_end m_many o2.2.2 m_bytes m_heads m_numbers m_codes m_sizes m_guessed m_results m_values m_states m_came m_boxes m_single m_rows o22 ho22) (cwV 1 hB (gV wd_247 wd_245 wd_244 wd_226 wd_246) rfl rfl rfl (by decide +kernel) ⟨Nat.le_of_ble_eq_true rfl, Nat.le_of_ble_eq_true rfl⟩) ⟨PreW_blind, va_recv hKc hPc (ci := 4) (q0 := 0) rfl rfl, PreW_mk hKc hPc hDc hG hS hFc⟩ rfl rfl hl.1 rfl (lv_room (Nat.le_of_ble_eq_true rfl)) d_Mod_boxed_115 ⟨Nat.le_of_ble_eq_true rfl, Nat.le_of_ble_eq_true rfl⟩) hS (fun q _ h => hFc q h) hFc (fun u_22 t H1 locs ht hvm hw hB hz1 hk1 hS => ?_)
                  obtain ⟨hP1, hK1, hD1⟩ := hB
                  rw [ht] at hP1
                  obtain ⟨hP, hD⟩ := va_join (wr := pick (x_Mod ad cs m_thrown m_kind m_steps m_size m_ran m_parts m_taken m_lacked m_decodings m_failures o2.2.1 m_end m_many o2.2.2 m_bytes m_heads m_numbers m_codes m_sizes m_guessed m_results m_values m_states m_came m_boxes m_single m_rows) []) hP hD [0, 1, 2, 3, 4, 5, 6, 7, 8, 9, 10, 11, 12, 13] [] rfl rfl (by decide) (by decide) hk1 hFc hP1 hD1
                  generalize H1 = H at hP hS ⊢
                  have hP : va_P (dC, dI) vwCl (x_Mod ad cs m_thrown m_kind m_steps m_size m_ran m_parts m_taken m_lacked m_decodings m_failures o2.2.1 m_end m_many o22 m_bytes m_heads m_numbers m_codes m_sizes m_guessed m_results m_values m_states m_came m_boxes m_single m_rows) H := hP.sub [0, 1, 2, 3, 4, 5, 6, 7, 8, 9, 10, 11, 12, 13] rfl
                  have hD : va_D A (x_Mod ad cs m_thrown m_kind m_steps m_size m_ran m_parts m_taken m_lacked m_decodings m_failures o2.2.1 m_end m_many o22 m_bytes m_heads m_numbers m_codes m_sizes m_guessed m_results m_values m_states m_came m_boxes m_single m_rows) := hD.sub [0, 1, 2, 3, 4, 5, 6, 7, 8, 9, 10, 11, 12, 13] (by decide) rfl
                  exact J118 (o1.1 - o1.1 / (8 : Int32) * (8 : Int32)) (o2.1 - o2.1 / (8 : Int32) * (8 : Int32)) (o2.1 / (8 : Int32)) o2.2.1 m_many o22 m_came m_boxes m_single m_rows _ _ ls (lv_sub hl [4, 3, 1, 0] rfl) hP hD hS h
        · have h := (if_pos c_7).symm.trans h
          refine lv_aload_n hx hb d_Mod_boxed_53 rfl (lv_at hl 4 rfl) ?_
          refine lv_iconst (v := 3) hx hb d_Mod_boxed_54 (by decide) ?_
          obtain ⟨o23, ho23, h⟩ := Option.bind_eq_some_iff.mp h
          have hKc := hK.sub (tys' := [((cs 1), .int), ((cs 2), .int), ((cs 3), .int), ((cs 4), .int), ((cs 5), .int), ((cs 6), .boolean), ((cs 7), .int), ((cs 8), .int), ((cs 9), .int), ((cs 10), .int), ((cs 11), .int), ((cs 12), .int), ((cs 13), .int)]) [0, 1, 2, 3, 4, 5, 6, 7, 8, 9, 10, 11, 12] rfl
          have hPc := hP.sub (ws' := x_Mod ad cs m_thrown m_kind m_steps m_size m_ran m_parts m_taken m_lacked m_decodings m_failures o2.2.1 m_end m_many o2.2.2 m_bytes m_heads m_numbers m_codes m_sizes m_guessed m_results m_values m_states m_came m_boxes m_single m_rows) [0, 1, 2, 3, 4, 5, 6, 7, 8, 9, 10, 11, 12, 13] rfl
          have hDc := hD.sub (ws' := x_Mod ad cs m_thrown m_kind m_steps m_size m_ran m_parts m_taken m_lacked m_decodings m_failures o2.2.1 m_end m_many o2.2.2 m_bytes m_heads m_numbers m_codes m_sizes m_guessed m_results m_values m_states m_came m_boxes m_single m_rows) [0, 1, 2, 3, 4, 5, 6, 7, 8, 9, 10, 11, 12, 13] (by decide) rfl
          have hFc := va_free (wc := x_Mod ad cs m_thrown m_kind m_steps m_size m_ran m_parts m_taken m_lacked m_decodings m_failures o2.2.1 m_end m_many o2.2.2 m_bytes m_heads m_numbers m_codes m_sizes m_guessed m_results m_values m_states m_came m_boxes m_single m_rows) hD hS hA [0, 1, 2, 3, 4, 5, 6, 7, 8, 9, 10, 11, 12, 13] rfl
          refine va_callv (va_runV (As := [.int (3 : Int32)]) (rest := []) ⟨hx, hb, hml, hown, hB⟩ (c_Mod_fail l dC dI tt ad cs H.size N (3 : Int32) m_thrown m_kind m_steps m_size m_ran m_parts m_taken m_lacked m_decodings m_failures o2.2.1 m_end m_many o2.2.2 m_bytes m_heads m_numbers m_codes m_sizes m_guessed m_results m_values m_states m_came m_boxes m_single m_rows o23 ho23) (cwV 1 hB (gV wd_247 wd_245 wd_244 wd_226 wd_246) rfl rfl rfl (by decide +kernel) ⟨Nat.le_of_ble_eq_true rfl, Nat.le_of_ble_eq_true rfl⟩) ⟨PreW_blind, va_recv hKc hPc (ci := 4) (q0 := 0) rfl rfl, PreW_mk hKc hPc hDc hG hS hFc⟩ rfl rfl hl.1 rfl (lv_room (Nat.le_of_ble_eq_true rfl)) d_Mod_boxed_55 ⟨Nat.le_of_ble_eq_true rfl, Nat.le_of_ble_eq_true rfl⟩) hS (fun q _ h => hFc q h) hFc (fun u_23 t H1 locs ht hvm hw hB hz1 hk1 hS => ?_)
          obtain ⟨hP1, hK1, hD1⟩ := hB
          rw [ht] at hP1
          obtain ⟨hP, hD⟩ := va_join (wr := pick (x_Mod ad cs m_thrown m_kind m_steps m_size m_ran m_parts m_taken m_lacked m_decodings m_failures o2.2.1 m_end m_many o2.2.2 m_bytes m_heads m_numbers m_codes m_sizes m_guessed m_results m_values m_states m_came m_boxes m_single m_rows) []) hP hD [0, 1, 2, 3, 4, 5, 6, 7, 8, 9, 10, 11, 12, 13] [] rfl rfl (by decide) (by decide) hk1 hFc hP1 hD1
          generalize H1 = H at hP hS ⊢
          have hP : va_P (dC, dI) vwCl (x_Mod ad cs m_thrown m_kind m_steps m_size m_ran m_parts m_taken m_lacked m_decodings m_failures o2.2.1 m_end m_many o23 m_bytes m_heads m_numbers m_codes m_sizes m_guessed m_results m_values m_states m_came m_boxes m_single m_rows) H := hP.sub [0, 1, 2, 3, 4, 5, 6, 7, 8, 9, 10, 11, 12, 13] rfl
          have hD : va_D A (x_Mod ad cs m_thrown m_kind m_steps m_size m_ran m_parts m_taken m_lacked m_decodings m_failures o2.2.1 m_end m_many o23 m_bytes m_heads m_numbers m_codes m_sizes m_guessed m_results m_values m_states m_came m_boxes m_single m_rows) := hD.sub [0, 1, 2, 3, 4, 5, 6, 7, 8, 9, 10, 11, 12, 13] (by decide) rfl
          refine lv_goto (tgt := 118) hx hb d_Mod_boxed_58 (by decide) ?_
          exact J118 (o1.1 - o1.1 / (8 : Int32) * (8 : Int32)) (o2.1 - o2.1 / (8 : Int32) * (8 : Int32)) (o2.1 / (8 : Int32)) o2.2.1 m_many o23 m_came m_boxes m_single m_rows _ _ ls (lv_sub hl [4, 3, 1, 0] rfl) hP hD hS h
  · have h := (if_neg c_3).symm.trans h
    have h := Option.some.inj h
    subst h
    exact W.vret hx hb hr (fun t ht hW => ⟨⟨(), rfl, trivial, AftW_mk hK hP hD ht hW⟩, hS.F ht⟩) hS.2.2 d_Mod_boxed_20
