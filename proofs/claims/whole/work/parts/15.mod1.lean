def d_Mod_thrown (N : Nat) (m_thrown : Int32) : Option (Int32) :=
 some m_thrown
abbrev rm_Mod_thrown : Room := { frames := 0, cells := 0, slots := 0, locals := 0 }
set_option maxHeartbeats 4000000 in
set_option maxRecDepth 100000 in
theorem c_Mod_thrown (l : Launch) (dC : Nat → ClassId) (dI : Nat → Nat → Nat) (tt : Nat → Nat) (ad : Nat → Nat) (cs : Nat → ClassId) (sz N : Nat) (m_thrown : Int32) (m_kind : Int32) (m_steps : Int32) (m_size : Int32) (m_ran : Int32) (m_parts : Int32) (m_taken : Int32) (m_lacked : Int32) (m_decodings : Int32) (m_failures : Int32) (m_at : Int32) (m_end : Int32) (m_many : Int32) (m_wrong : Int32) (m_bytes : Nat → Int32) (m_heads : Nat → Int32) (m_numbers : Nat → Int32) (m_codes : Nat → Int32) (m_sizes : Nat → Int32) (m_guessed : Nat → Int32) (m_results : Nat → Int32) (m_values : Nat → Int32) (m_states : Nat → Int32) (m_came : Nat → Int32) (m_boxes : Nat → Int32) (m_single : Nat → Int32) (m_rows : Nat → Int32) (out : Int32) (h : d_Mod_thrown N m_thrown = some out) :
    Met l y_Mod_thrown (w_Mod_thrown) rm_Mod_thrown (va_Pc [.ref (ad 0)] (PreW (dC, dI) [((cs 1), .int), ((cs 2), .int), ((cs 3), .int), ((cs 4), .int), ((cs 5), .int), ((cs 6), .boolean), ((cs 7), .int), ((cs 8), .int), ((cs 9), .int), ((cs 10), .int), ((cs 11), .int), ((cs 12), .int), ((cs 13), .int)] (x_Mod ad cs m_thrown m_kind m_steps m_size m_ran m_parts m_taken m_lacked m_decodings m_failures m_at m_end m_many m_wrong m_bytes m_heads m_numbers m_codes m_sizes m_guessed m_results m_values m_states m_came m_boxes m_single m_rows) sz tt)) (va_Qi (fun (r : Int32) (_ : Unit) => r = out) (fun _ => AftW (dC, dI) [((cs 1), .int), ((cs 2), .int), ((cs 3), .int), ((cs 4), .int), ((cs 5), .int), ((cs 6), .boolean), ((cs 7), .int), ((cs 8), .int), ((cs 9), .int), ((cs 10), .int), ((cs 11), .int), ((cs 12), .int), ((cs 13), .int)] (va_A (x_Mod ad cs m_thrown m_kind m_steps m_size m_ran m_parts m_taken m_lacked m_decodings m_failures m_at m_end m_many m_wrong m_bytes m_heads m_numbers m_codes m_sizes m_guessed m_results m_values m_states m_came m_boxes m_single m_rows) sz) (x_Mod ad cs m_thrown m_kind m_steps m_size m_ran m_parts m_taken m_lacked m_decodings m_failures m_at m_end m_many m_wrong m_bytes m_heads m_numbers m_codes m_sizes m_guessed m_results m_values m_states m_came m_boxes m_single m_rows)) (va_A (x_Mod ad cs m_thrown m_kind m_steps m_size m_ran m_parts m_taken m_lacked m_decodings m_failures m_at m_end m_many m_wrong m_bytes m_heads m_numbers m_codes m_sizes m_guessed m_results m_values m_states m_came m_boxes m_single m_rows) sz)) 0 0 (va_A (x_Mod ad cs m_thrown m_kind m_steps m_size m_ran m_parts m_taken m_lacked m_decodings m_failures m_at m_end m_many m_wrong m_bytes m_heads m_numbers m_codes m_sizes m_guessed m_results m_values m_states m_came m_boxes m_single m_rows) sz) := by
  refine Met.ofW (cc := k_Mod_thrown) (maxL := 1) (ret := (some .int)) (by decide) rfl ?_
  intro p e s m args below meth c s₁ B hml hv
  obtain ⟨rfl, hsz, hP, hK, hD0, hG⟩ := hv
  have hx := B.exec
  have hb := B.bytes
  have hr := B.returns
  have hts := atoms_spec (ws := (w_Mod_thrown)) B.pre
  have hB : ∀ w ∈ BIG, w.before _ s = true := fun w h9 => hts w (List.mem_cons_of_mem _ h9)
  have hown : s.vm.findClass R_Mod = some m.cls := findClass_of_methodNamed B.named
  have hlocks := B.notSynchronized
  subst hsz
  have hD := hD0.self (sz := s.heap.size)
  generalize hAe : va_A (x_Mod ad cs m_thrown m_kind m_steps m_size m_ran m_parts m_taken m_lacked m_decodings m_failures m_at m_end m_many m_wrong m_bytes m_heads m_numbers m_codes m_sizes m_guessed m_results m_values m_states m_came m_boxes m_single m_rows) s.heap.size = A at hD hG ⊢
  have hA : ∀ q : Nat, s.heap.size ≤ q → A q := fun q h => by rw [← hAe]; exact Or.inr h
  have hS : va_S A s.heap s.heap [] := va_S.rf
  have hl := lv_entry ([.ref (ad 0)]) (n := 1) (Nat.le_of_ble_eq_true rfl)
  rw [lg_entry_eq]
  generalize (lg_sl ([.ref (ad 0)]) ++ List.replicate (1 - (lg_sl ([.ref (ad 0)])).length) Slot.unset).toArray = ls at hl ⊢
  have hl : lv_has ls 1 [(0, .ref (ad 0))] := hl
  unfold d_Mod_thrown at h
  refine lv_aload_n hx hb d_Mod_thrown_0 rfl (lv_at hl 0 rfl) ?_
  refine va_get (D := (dC, dI)) (ci := 4) (v := .int m_thrown) (C := R_Mod) (T := T_Mod) (N := 27) hx hb hB in_Mod hown hK hP 0 rfl rfl 0 (by decide) (hB _ wd_218) (fun _ h9 => h9) rfl d_Mod_thrown_1 ?_
  have h := Option.some.inj h
  subst h
  exact W.iret hx hb hr (fun t ht hW => ⟨⟨_, (), rfl, rfl, AftW_mk hK hP hD ht hW⟩, hS.F ht⟩) hS.2.2 d_Mod_thrown_4
def d_Mod_lose (N : Nat) (m_ran : Int32) (m_parts : Int32) : Option (Int32 × Int32) :=
 some ((0 : Int32), (0 : Int32))
abbrev rm_Mod_lose : Room := { frames := 0, cells := 0, slots := 0, locals := 0 }
set_option maxHeartbeats 4000000 in
set_option maxRecDepth 100000 in
theorem c_Mod_lose (l : Launch) (dC : Nat → ClassId) (dI : Nat → Nat → Nat) (tt : Nat → Nat) (ad : Nat → Nat) (cs : Nat → ClassId) (sz N : Nat) (m_thrown : Int32) (m_kind : Int32) (m_steps : Int32) (m_size : Int32) (m_ran : Int32) (m_parts : Int32) (m_taken : Int32) (m_lacked : Int32) (m_decodings : Int32) (m_failures : Int32) (m_at : Int32) (m_end : Int32) (m_many : Int32) (m_wrong : Int32) (m_bytes : Nat → Int32) (m_heads : Nat → Int32) (m_numbers : Nat → Int32) (m_codes : Nat → Int32) (m_sizes : Nat → Int32) (m_guessed : Nat → Int32) (m_results : Nat → Int32) (m_values : Nat → Int32) (m_states : Nat → Int32) (m_came : Nat → Int32) (m_boxes : Nat → Int32) (m_single : Nat → Int32) (m_rows : Nat → Int32) (out : Int32 × Int32) (h : d_Mod_lose N m_ran m_parts = some out) :
    Met l y_Mod_lose (w_Mod_lose) rm_Mod_lose (va_Pc [.ref (ad 0)] (PreW (dC, dI) [((cs 1), .int), ((cs 2), .int), ((cs 3), .int), ((cs 4), .int), ((cs 5), .int), ((cs 6), .boolean), ((cs 7), .int), ((cs 8), .int), ((cs 9), .int), ((cs 10), .int), ((cs 11), .int), ((cs 12), .int), ((cs 13), .int)] (x_Mod ad cs m_thrown m_kind m_steps m_size m_ran m_parts m_taken m_lacked m_decodings m_failures m_at m_end m_many m_wrong m_bytes m_heads m_numbers m_codes m_sizes m_guessed m_results m_values m_states m_came m_boxes m_single m_rows) sz tt)) (va_Qv (fun (_ : Unit) => True) (fun _ => AftW (dC, dI) [((cs 1), .int), ((cs 2), .int), ((cs 3), .int), ((cs 4), .int), ((cs 5), .int), ((cs 6), .boolean), ((cs 7), .int), ((cs 8), .int), ((cs 9), .int), ((cs 10), .int), ((cs 11), .int), ((cs 12), .int), ((cs 13), .int)] (va_A (x_Mod ad cs m_thrown m_kind m_steps m_size m_ran m_parts m_taken m_lacked m_decodings m_failures m_at m_end m_many m_wrong m_bytes m_heads m_numbers m_codes m_sizes m_guessed m_results m_values m_states m_came m_boxes m_single m_rows) sz) (x_Mod ad cs m_thrown m_kind m_steps m_size out.1 out.2 m_taken m_lacked m_decodings m_failures m_at m_end m_many m_wrong m_bytes m_heads m_numbers m_codes m_sizes m_guessed m_results m_values m_states m_came m_boxes m_single m_rows)) (va_A (x_Mod ad cs m_thrown m_kind m_steps m_size m_ran m_parts m_taken m_lacked m_decodings m_failures m_at m_end m_many m_wrong m_bytes m_heads m_numbers m_codes m_sizes m_guessed m_results m_values m_states m_came m_boxes m_single m_rows) sz)) 0 0 (va_A (x_Mod ad cs m_thrown m_kind m_steps m_size m_ran m_parts m_taken m_lacked m_decodings m_failures m_at m_end m_many m_wrong m_bytes m_heads m_numbers m_codes m_sizes m_guessed m_results m_values m_states m_came m_boxes m_single m_rows) sz) := by
  refine Met.ofW (cc := k_Mod_lose) (maxL := 1) (ret := none) (by decide) rfl ?_
  intro p e s m args below meth c s₁ B hml hv
  obtain ⟨rfl, hsz, hP, hK, hD0, hG⟩ := hv
  have hx := B.exec
  have hb := B.bytes
  have hr := B.returns
  have hts := atoms_spec (ws := (w_Mod_lose)) B.pre
  have hB : ∀ w ∈ BIG, w.before _ s = true := fun w h9 => hts w (List.mem_cons_of_mem _ h9)
  have hown : s.vm.findClass R_Mod = some m.cls := findClass_of_methodNamed B.named
  have hlocks := B.notSynchronized
  subst hsz
  have hD := hD0.self (sz := s.heap.size)
  generalize hAe : va_A (x_Mod ad cs m_thrown m_kind m_steps m_size m_ran m_parts m_taken m_lacked m_decodings m_failures m_at m_end m_many m_wrong m_bytes m_heads m_numbers m_codes m_sizes m_guessed m_results m_values m_states m_came m_boxes m_single m_rows) s.heap.size = A at hD hG ⊢
  have hA : ∀ q : Nat, s.heap.size ≤ q → A q := fun q h => by rw [← hAe]; exact Or.inr h
  have hS : va_S A s.heap s.heap [] := va_S.rf
  have hl := lv_entry ([.ref (ad 0)]) (n := 1) (Nat.le_of_ble_eq_true rfl)
  rw [lg_entry_eq]
  generalize (lg_sl ([.ref (ad 0)]) ++ List.replicate (1 - (lg_sl ([.ref (ad 0)])).length) Slot.unset).toArray = ls at hl ⊢
  have hl : lv_has ls 1 [(0, .ref (ad 0))] := hl
  unfold d_Mod_lose at h
  refine lv_aload_n hx hb d_Mod_lose_0 rfl (lv_at hl 0 rfl) ?_
  refine lv_iconst (v := 0) hx hb d_Mod_lose_1 (by decide) ?_
  refine va_put (D := (dC, dI)) (ci := 4) (v := .int (0 : Int32)) (ty := .boolean) (C := R_Mod) (T := T_Mod) (N := 27) hx hb hB in_Mod ty_Mod tyok_Mod nd_Mod hown hK hP hD hS 0 rfl rfl 5 (by decide) (hB _ wd_219) (fun _ h9 => h9) rfl (by decide +kernel) rfl rfl (Nat.le_of_ble_eq_true rfl) d_Mod_lose_2 (fun H locs hP hD hS => ?_)
  have hP : va_P (dC, dI) vwCl (x_Mod ad cs m_thrown m_kind m_steps m_size (0 : Int32) m_parts m_taken m_lacked m_decodings m_failures m_at m_end m_many m_wrong m_bytes m_heads m_numbers m_codes m_sizes m_guessed m_results m_values m_states m_came m_boxes m_single m_rows) H := hP
  have hD : va_D A (x_Mod ad cs m_thrown m_kind m_steps m_size (0 : Int32) m_parts m_taken m_lacked m_decodings m_failures m_at m_end m_many m_wrong m_bytes m_heads m_numbers m_codes m_sizes m_guessed m_results m_values m_states m_came m_boxes m_single m_rows) := hD
  refine lv_aload_n hx hb d_Mod_lose_5 rfl (lv_at hl 0 rfl) ?_
  refine lv_iconst (v := 0) hx hb d_Mod_lose_6 (by decide) ?_
  refine va_put (D := (dC, dI)) (ci := 4) (v := .int (0 : Int32)) (ty := .int) (C := R_Mod) (T := T_Mod) (N := 27) hx hb hB in_Mod ty_Mod tyok_Mod nd_Mod hown hK hP hD hS 0 rfl rfl 6 (by decide) (hB _ wd_220) (fun _ h9 => h9) rfl (by decide +kernel) rfl rfl (Nat.le_of_ble_eq_true rfl) d_Mod_lose_7 (fun H locs hP hD hS => ?_)
  have hP : va_P (dC, dI) vwCl (x_Mod ad cs m_thrown m_kind m_steps m_size (0 : Int32) (0 : Int32) m_taken m_lacked m_decodings m_failures m_at m_end m_many m_wrong m_bytes m_heads m_numbers m_codes m_sizes m_guessed m_results m_values m_states m_came m_boxes m_single m_rows) H := hP
  have hD : va_D A (x_Mod ad cs m_thrown m_kind m_steps m_size (0 : Int32) (0 : Int32) m_taken m_lacked m_decodings m_failures m_at m_end m_many m_wrong m_bytes m_heads m_numbers m_codes m_sizes m_guessed m_results m_values m_states m_came m_boxes m_single m_rows) := hD
  have h := Option.some.inj h
  subst h
  exact W.vret hx hb hr (fun t ht hW => ⟨⟨(), rfl, trivial, AftW_mk hK hP hD ht hW⟩, hS.F ht⟩) hS.2.2 d_Mod_lose_10
def d_Mod_isMark (N : Nat) (x1 : Int32) (m_kind : Int32) (m_size : Int32) (m_bytes : Nat → Int32) : Option (Int32) :=
 if m_kind = 0 then if m_kind = 0 then if m_size ≤ (x1 + (1 : Int32)) then some (0 : Int32) else gI x1 1200 (if (m_bytes x1.toNatClampNeg) = (255 : Int32) then gI (x1 + (1 : Int32)) 1200 (if (m_bytes (x1 + (1 : Int32)).toNatClampNeg) = (217 : Int32) then some (1 : Int32) else some (0 : Int32)) else some (0 : Int32)) else if m_kind = (1 : Int32) then if m_size ≤ (x1 + (1 : Int32)) then some (0 : Int32) else gI x1 1200 (if (m_bytes x1.toNatClampNeg) = (255 : Int32) then gI (x1 + (1 : Int32)) 1200 (if (m_bytes (x1 + (1 : Int32)).toNatClampNeg) = (65 : Int32) then some (1 : Int32) else some (0 : Int32)) else some (0 : Int32)) else if m_size ≤ (x1 + (1 : Int32)) then some (0 : Int32) else gI x1 1200 (if (m_bytes x1.toNatClampNeg) = (255 : Int32) then gI (x1 + (1 : Int32)) 1200 (if (m_bytes (x1 + (1 : Int32)).toNatClampNeg) = (74 : Int32) then some (1 : Int32) else some (0 : Int32)) else some (0 : Int32)) else if m_kind = (1 : Int32) then if m_kind = 0 then if m_size ≤ (x1 + (1 : Int32)) then some (0 : Int32) else gI x1 1200 (if (m_bytes x1.toNatClampNeg) = (80 : Int32) then gI (x1 + (1 : Int32)) 1200 (if (m_bytes (x1 + (1 : Int32)).toNatClampNeg) = (217 : Int32) then some (1 : Int32) else some (0 : Int32)) else some (0 : Int32)) else if m_kind = (1 : Int32) then if m_size ≤ (x1 + (1 : Int32)) then some (0 : Int32) else gI x1 1200 (if (m_bytes x1.toNatClampNeg) = (80 : Int32) then gI (x1 + (1 : Int32)) 1200 (if (m_bytes (x1 + (1 : Int32)).toNatClampNeg) = (65 : Int32) then some (1 : Int32) else some (0 : Int32)) else some (0 : Int32)) else if m_size ≤ (x1 + (1 : Int32)) then some (0 : Int32) else gI x1 1200 (if (m_bytes x1.toNatClampNeg) = (80 : Int32) then gI (x1 + (1 : Int32)) 1200 (if (m_bytes (x1 + (1 : Int32)).toNatClampNeg) = (74 : Int32) then some (1 : Int32) else some (0 : Int32)) else some (0 : Int32)) else if m_kind = 0 then if m_size ≤ (x1 + (1 : Int32)) then some (0 : Int32) else gI x1 1200 (if (m_bytes x1.toNatClampNeg) = (151 : Int32) then gI (x1 + (1 : Int32)) 1200 (if (m_bytes (x1 + (1 : Int32)).toNatClampNeg) = (217 : Int32) then some (1 : Int32) else some (0 : Int32)) else some (0 : Int32)) else if m_kind = (1 : Int32) then if m_size ≤ (x1 + (1 : Int32)) then some (0 : Int32) else gI x1 1200 (if (m_bytes x1.toNatClampNeg) = (151 : Int32) then gI (x1 + (1 : Int32)) 1200 (if (m_bytes (x1 + (1 : Int32)).toNatClampNeg) = (65 : Int32) then some (1 : Int32) else some (0 : Int32)) else some (0 : Int32)) else if m_size ≤ (x1 + (1 : Int32)) then some (0 : Int32) else gI x1 1200 (if (m_bytes x1.toNatClampNeg) = (151 : Int32) then gI (x1 + (1 : Int32)) 1200 (if (m_bytes (x1 + (1 : Int32)).toNatClampNeg) = (74 : Int32) then some (1 : Int32) else some (0 : Int32)) else some (0 : Int32))
abbrev rm_Mod_isMark : Room := { frames := 0, cells := 0, slots := 0, locals := 0 }
set_option maxHeartbeats 4000000 in
set_option maxRecDepth 100000 in
theorem c_Mod_isMark (l : Launch) (dC : Nat → ClassId) (dI : Nat → Nat → Nat) (tt : Nat → Nat) (ad : Nat → Nat) (cs : Nat → ClassId) (sz N : Nat) (x1 : Int32) (m_thrown : Int32) (m_kind : Int32) (m_steps : Int32) (m_size : Int32) (m_ran : Int32) (m_parts : Int32) (m_taken : Int32) (m_lacked : Int32) (m_decodings : Int32) (m_failures : Int32) (m_at : Int32) (m_end : Int32) (m_many : Int32) (m_wrong : Int32) (m_bytes : Nat → Int32) (m_heads : Nat → Int32) (m_numbers : Nat → Int32) (m_codes : Nat → Int32) (m_sizes : Nat → Int32) (m_guessed : Nat → Int32) (m_results : Nat → Int32) (m_values : Nat → Int32) (m_states : Nat → Int32) (m_came : Nat → Int32) (m_boxes : Nat → Int32) (m_single : Nat → Int32) (m_rows : Nat → Int32) (out : Int32) (h : d_Mod_isMark N x1 m_kind m_size m_bytes = some out) :
    Met l y_Mod_isMark (w_Mod_isMark) rm_Mod_isMark (va_Pc [.ref (ad 0), .int x1] (PreW (dC, dI) [((cs 1), .int), ((cs 2), .int), ((cs 3), .int), ((cs 4), .int), ((cs 5), .int), ((cs 6), .boolean), ((cs 7), .int), ((cs 8), .int), ((cs 9), .int), ((cs 10), .int), ((cs 11), .int), ((cs 12), .int), ((cs 13), .int)] (x_Mod ad cs m_thrown m_kind m_steps m_size m_ran m_parts m_taken m_lacked m_decodings m_failures m_at m_end m_many m_wrong m_bytes m_heads m_numbers m_codes m_sizes m_guessed m_results m_values m_states m_came m_boxes m_single m_rows) sz tt)) (va_Qi (fun (r : Int32) (_ : Unit) => r = out) (fun _ => AftW (dC, dI) [((cs 1), .int), ((cs 2), .int), ((cs 3), .int), ((cs 4), .int), ((cs 5), .int), ((cs 6), .boolean), ((cs 7), .int), ((cs 8), .int), ((cs 9), .int), ((cs 10), .int), ((cs 11), .int), ((cs 12), .int), ((cs 13), .int)] (va_A (x_Mod ad cs m_thrown m_kind m_steps m_size m_ran m_parts m_taken m_lacked m_decodings m_failures m_at m_end m_many m_wrong m_bytes m_heads m_numbers m_codes m_sizes m_guessed m_results m_values m_states m_came m_boxes m_single m_rows) sz) (x_Mod ad cs m_thrown m_kind m_steps m_size m_ran m_parts m_taken m_lacked m_decodings m_failures m_at m_end m_many m_wrong m_bytes m_heads m_numbers m_codes m_sizes m_guessed m_results m_values m_states m_came m_boxes m_single m_rows)) (va_A (x_Mod ad cs m_thrown m_kind m_steps m_size m_ran m_parts m_taken m_lacked m_decodings m_failures m_at m_end m_many m_wrong m_bytes m_heads m_numbers m_codes m_sizes m_guessed m_results m_values m_states m_came m_boxes m_single m_rows) sz)) 0 0 (va_A (x_Mod ad cs m_thrown m_kind m_steps m_size m_ran m_parts m_taken m_lacked m_decodings m_failures m_at m_end m_many m_wrong m_bytes m_heads m_numbers m_codes m_sizes m_guessed m_results m_values m_states m_came m_boxes m_single m_rows) sz) := by
  refine Met.ofW (cc := k_Mod_isMark) (maxL := 4) (ret := (some .boolean)) (by decide) rfl ?_
  intro p e s m args below meth c s₁ B hml hv
  obtain ⟨rfl, hsz, hP, hK, hD0, hG⟩ := hv
  have hx := B.exec
  have hb := B.bytes
  have hr := B.returns
  have hts := atoms_spec (ws := (w_Mod_isMark)) B.pre
  have hB : ∀ w ∈ BIG, w.before _ s = true := fun w h9 => hts w (List.mem_cons_of_mem _ h9)
  have hown : s.vm.findClass R_Mod = some m.cls := findClass_of_methodNamed B.named
  have hlocks := B.notSynchronized
  subst hsz
  have hD := hD0.self (sz := s.heap.size)
  generalize hAe : va_A (x_Mod ad cs m_thrown m_kind m_steps m_size m_ran m_parts m_taken m_lacked m_decodings m_failures m_at m_end m_many m_wrong m_bytes m_heads m_numbers m_codes m_sizes m_guessed m_results m_values m_states m_came m_boxes m_single m_rows) s.heap.size = A at hD hG ⊢
  have hA : ∀ q : Nat, s.heap.size ≤ q → A q := fun q h => by rw [← hAe]; exact Or.inr h
  have hS : va_S A s.heap s.heap [] := va_S.rf
  have hl := lv_entry ([.ref (ad 0), .int x1]) (n := 4) (Nat.le_of_ble_eq_true rfl)
  rw [lg_entry_eq]
  generalize (lg_sl ([.ref (ad 0), .int x1]) ++ List.replicate (4 - (lg_sl ([.ref (ad 0), .int x1])).length) Slot.unset).toArray = ls at hl ⊢
  have hl : lv_has ls 4 [(0, .ref (ad 0)), (1, .int x1)] := hl
  unfold d_Mod_isMark at h
  refine lv_aload_n hx hb d_Mod_isMark_0 rfl (lv_at hl 0 rfl) ?_
  refine va_get (D := (dC, dI)) (ci := 4) (v := .int m_kind) (C := R_Mod) (T := T_Mod) (N := 27) hx hb hB in_Mod hown hK hP 0 rfl rfl 1 (by decide) (hB _ wd_221) (fun _ h9 => h9) rfl d_Mod_isMark_1 ?_
  refine lv_if_ne (tgt := 13) hx hb d_Mod_isMark_4 (by decide) (fun c_1 => ?_) (fun c_1 => ?_)
  · have h := (if_neg c_1).symm.trans h
    refine lv_aload_n hx hb d_Mod_isMark_13 rfl (lv_at hl 0 rfl) ?_
    refine va_get (D := (dC, dI)) (ci := 4) (v := .int m_kind) (C := R_Mod) (T := T_Mod) (N := 27) hx hb hB in_Mod hown hK hP 0 rfl rfl 1 (by decide) (hB _ wd_221) (fun _ h9 => h9) rfl d_Mod_isMark_14 ?_
    refine lv_iconst (v := 1) hx hb d_Mod_isMark_17 (by decide) ?_
    refine lv_icmp_ne (tgt := 26) hx hb d_Mod_isMark_18 (by decide) (fun c_2 => ?_) (fun c_2 => ?_)
    · have h := (if_neg c_2).symm.trans h
      refine lv_sipush (v := 151) hx hb d_Mod_isMark_26 (by decide) ?_
      refine lv_istore_n (lv' := [(2, .int (151 : Int32)), (0, .ref (ad 0)), (1, .int x1)]) hx hb d_Mod_isMark_29 rfl hl (by decide) rfl (fun ls hl => ?_)
      refine lv_aload_n hx hb d_Mod_isMark_30 rfl (lv_at hl 1 rfl) ?_
      refine va_get (D := (dC, dI)) (ci := 4) (v := .int m_kind) (C := R_Mod) (T := T_Mod) (N := 27) hx hb hB in_Mod hown hK hP 0 rfl rfl 1 (by decide) (hB _ wd_221) (fun _ h9 => h9) rfl d_Mod_isMark_31 ?_
      refine lv_if_ne (tgt := 43) hx hb d_Mod_isMark_34 (by decide) (fun c_3 => ?_) (fun c_3 => ?_)
      · have h := (if_neg c_3).symm.trans h
        refine lv_aload_n hx hb d_Mod_isMark_43 rfl (lv_at hl 1 rfl) ?_
        refine va_get (D := (dC, dI)) (ci := 4) (v := .int m_kind) (C := R_Mod) (T := T_Mod) (N := 27) hx hb hB in_Mod hown hK hP 0 rfl rfl 1 (by decide) (hB _ wd_221) (fun _ h9 => h9) rfl d_Mod_isMark_44 ?_
        refine lv_iconst (v := 1) hx hb d_Mod_isMark_47 (by decide) ?_
        refine lv_icmp_ne (tgt := 56) hx hb d_Mod_isMark_48 (by decide) (fun c_4 => ?_) (fun c_4 => ?_)
        · have h := (if_neg c_4).symm.trans h
          refine lv_bipush (v := 74) hx hb d_Mod_isMark_56 (by decide) ?_
          refine lv_istore_n (lv' := [(3, .int (74 : Int32)), (2, .int (151 : Int32)), (0, .ref (ad 0)), (1, .int x1)]) hx hb d_Mod_isMark_58 rfl hl (by decide) rfl (fun ls hl => ?_)
          refine lv_iload_n hx hb d_Mod_isMark_59 rfl (lv_at hl 3 rfl) ?_
          refine lv_iconst (v := 1) hx hb d_Mod_isMark_60 (by decide) ?_
          refine lv_iadd hx hb d_Mod_isMark_61 ?_
          refine lv_aload_n hx hb d_Mod_isMark_62 rfl (lv_at hl 2 rfl) ?_
          refine va_get (D := (dC, dI)) (ci := 4) (v := .int m_size) (C := R_Mod) (T := T_Mod) (N := 27) hx hb hB in_Mod hown hK hP 0 rfl rfl 4 (by decide) (hB _ wd_222) (fun _ h9 => h9) rfl d_Mod_isMark_63 ?_
          refine lv_icmp_ge (tgt := 95) hx hb d_Mod_isMark_66 (by decide) (fun c_5 => ?_) (fun c_5 => ?_)
          · have h := (if_pos c_5).symm.trans h
            refine lv_iconst (v := 0) hx hb d_Mod_isMark_95 (by decide) ?_
            have h := Option.some.inj h
            subst h
            exact W.zret hx hb hr rfl (fun t ht hW => ⟨⟨_, (), rfl, rfl, AftW_mk hK hP hD ht hW⟩, hS.F ht⟩) hS.2.2 d_Mod_isMark_96
          · have h := (if_neg c_5).symm.trans h
            refine lv_aload_n hx hb d_Mod_isMark_69 rfl (lv_at hl 2 rfl) ?_
            refine va_get (D := (dC, dI)) (ci := 4) (v := .ref (ad 1)) (C := R_Mod) (T := T_Mod) (N := 27) hx hb hB in_Mod hown hK hP 0 rfl rfl 3 (by decide) (hB _ wd_223) (fun _ h9 => h9) rfl d_Mod_isMark_70 ?_
            refine lv_iload_n hx hb d_Mod_isMark_73 rfl (lv_at hl 3 rfl) ?_
            obtain ⟨b_6, h⟩ := gI_some h
            refine va_iald hx hb hK hP 1 0 rfl rfl b_6 d_Mod_isMark_74 ?_
            refine lv_iload_n hx hb d_Mod_isMark_75 rfl (lv_at hl 1 rfl) ?_
            refine lv_icmp_ne (tgt := 95) hx hb d_Mod_isMark_76 (by decide) (fun c_7 => ?_) (fun c_7 => ?_)
            · have h := (if_neg c_7).symm.trans h
              refine lv_iconst (v := 0) hx hb d_Mod_isMark_95 (by decide) ?_
              have h := Option.some.inj h
              subst h
              exact W.zret hx hb hr rfl (fun t ht hW => ⟨⟨_, (), rfl, rfl, AftW_mk hK hP hD ht hW⟩, hS.F ht⟩) hS.2.2 d_Mod_isMark_96
            · have h := (if_pos c_7).symm.trans h
              refine lv_aload_n hx hb d_Mod_isMark_79 rfl (lv_at hl 2 rfl) ?_
              refine va_get (D := (dC, dI)) (ci := 4) (v := .ref (ad 1)) (C := R_Mod) (T := T_Mod) (N := 27) hx hb hB in_Mod hown hK hP 0 rfl rfl 3 (by decide) (hB _ wd_223) (fun _ h9 => h9) rfl d_Mod_isMark_80 ?_
              refine lv_iload_n hx hb d_Mod_isMark_83 rfl (lv_at hl 3 rfl) ?_
              refine lv_iconst (v := 1) hx hb d_Mod_isMark_84 (by decide) ?_
              refine lv_iadd hx hb d_Mod_isMark_85 ?_
              obtain ⟨b_8, h⟩ := gI_some h
              refine va_iald hx hb hK hP 1 0 rfl rfl b_8 d_Mod_isMark_86 ?_
              refine lv_iload_n hx hb d_Mod_isMark_87 rfl (lv_at hl 0 rfl) ?_
              refine lv_icmp_ne (tgt := 95) hx hb d_Mod_isMark_88 (by decide) (fun c_9 => ?_) (fun c_9 => ?_)
              · have h := (if_neg c_9).symm.trans h
                refine lv_iconst (v := 0) hx hb d_Mod_isMark_95 (by decide) ?_
                have h := Option.some.inj h
                subst h
                exact W.zret hx hb hr rfl (fun t ht hW => ⟨⟨_, (), rfl, rfl, AftW_mk hK hP hD ht hW⟩, hS.F ht⟩) hS.2.2 d_Mod_isMark_96
              · have h := (if_pos c_9).symm.trans h
                refine lv_iconst (v := 1) hx hb d_Mod_isMark_91 (by decide) ?_
                refine lv_goto (tgt := 96) hx hb d_Mod_isMark_92 (by decide) ?_
                have h := Option.some.inj h
                subst h
                exact W.zret hx hb hr rfl (fun t ht hW => ⟨⟨_, (), rfl, rfl, AftW_mk hK hP hD ht hW⟩, hS.F ht⟩) hS.2.2 d_Mod_isMark_96
        · have h := (if_pos c_4).symm.trans h
          refine lv_bipush (v := 65) hx hb d_Mod_isMark_51 (by decide) ?_
          refine lv_goto (tgt := 58) hx hb d_Mod_isMark_53 (by decide) ?_
          refine lv_istore_n (lv' := [(3, .int (65 : Int32)), (2, .int (151 : Int32)), (0, .ref (ad 0)), (1, .int x1)]) hx hb d_Mod_isMark_58 rfl hl (by decide) rfl (fun ls hl => ?_)
          refine lv_iload_n hx hb d_Mod_isMark_59 rfl (lv_at hl 3 rfl) ?_
          refine lv_iconst (v := 1) hx hb d_Mod_isMark_60 (by decide) ?_
          refine lv_iadd hx hb d_Mod_isMark_61 ?_
          refine lv_aload_n hx hb d_Mod_isMark_62 rfl (lv_at hl 2 rfl) ?_
          refine va_get (D := (dC, dI)) (ci := 4) (v := .int m_size) (C := R_Mod) (T := T_Mod) (N := 27) hx hb hB in_Mod hown hK hP 0 rfl rfl 4 (by decide) (hB _ wd_222) (fun _ h9 => h9) rfl d_Mod_isMark_63 ?_
          refine lv_icmp_ge (tgt := 95) hx hb d_Mod_isMark_66 (by decide) (fun c_10 => ?_) (fun c_10 => ?_)
          · have h := (if_pos c_10).symm.trans h
            refine lv_iconst (v := 0) hx hb d_Mod_isMark_95 (by decide) ?_
            have h := Option.some.inj h
            subst h
            exact W.zret hx hb hr rfl (fun t ht hW => ⟨⟨_, (), rfl, rfl, AftW_mk hK hP hD ht hW⟩, hS.F ht⟩) hS.2.2 d_Mod_isMark_96
          · have h := (if_neg c_10).symm.trans h
            refine lv_aload_n hx hb d_Mod_isMark_69 rfl (lv_at hl 2 rfl) ?_
            refine va_get (D := (dC, dI)) (ci := 4) (v := .ref (ad 1)) (C := R_Mod) (T := T_Mod) (N := 27) hx hb hB in_Mod hown hK hP 0 rfl rfl 3 (by decide) (hB _ wd_223) (fun _ h9 => h9) rfl d_Mod_isMark_70 ?_
            refine lv_iload_n hx hb d_Mod_isMark_73 rfl (lv_at hl 3 rfl) ?_
            obtain ⟨b_11, h⟩ := gI_some h
            refine va_iald hx hb hK hP 1 0 rfl rfl b_11 d_Mod_isMark_74 ?_
            refine lv_iload_n hx hb d_Mod_isMark_75 rfl (lv_at hl 1 rfl) ?_
            refine lv_icmp_ne (tgt := 95) hx hb d_Mod_isMark_76 (by decide) (fun c_12 => ?_) (fun c_12 => ?_)
            · have h := (if_neg c_12).symm.trans h
              refine lv_iconst (v := 0) hx hb d_Mod_isMark_95 (by decide) ?_
              have h := Option.some.inj h
              subst h
              exact W.zret hx hb hr rfl (fun t ht hW => ⟨⟨_, (), rfl, rfl, AftW_mk hK hP hD ht hW⟩, hS.F ht⟩) hS.2.2 d_Mod_isMark_96
            · have h := (if_pos c_12).symm.trans h
              refine lv_aload_n hx hb d_Mod_isMark_79 rfl (lv_at hl 2 rfl) ?_
              refine va_get (D := (dC, dI)) (ci := 4) (v := .ref (ad 1)) (C := R_Mod) (T := T_Mod) (N := 27) hx hb hB in_Mod hown hK hP 0 rfl rfl 3 (by decide) (hB _ wd_223) (fun _ h9 => h9) rfl d_Mod_isMark_80 ?_
              refine lv_iload_n hx hb d_Mod_isMark_83 rfl (lv_at hl 3 rfl) ?_
              refine lv_iconst (v := 1) hx hb d_Mod_isMark_84 (by decide) ?_
              refine lv_iadd hx hb d_Mod_isMark_85 ?_
              obtain ⟨b_13, h⟩ := gI_some h
              refine va_iald hx hb hK hP 1 0 rfl rfl b_13 d_Mod_isMark_86 ?_
              refine lv_iload_n hx hb d_Mod_isMark_87 rfl (lv_at hl 0 rfl) ?_
              refine lv_icmp_ne (tgt := 95) hx hb d_Mod_isMark_88 (by decide) (fun c_14 => ?_) (fun c_14 => ?_)
              · have h := (if_neg c_14).symm.trans h
                refine lv_iconst (v := 0) hx hb d_Mod_isMark_95 (by decide) ?_
                have h := Option.some.inj h
                subst h
                exact W.zret hx hb hr rfl (fun t ht hW => ⟨⟨_, (), rfl, rfl, AftW_mk hK hP hD ht hW⟩, hS.F ht⟩) hS.2.2 d_Mod_isMark_96
              · have h := (if_pos c_14).symm.trans h
                refine lv_iconst (v := 1) hx hb d_Mod_isMark_91 (by decide) ?_
                refine lv_goto (tgt := 96) hx hb d_Mod_isMark_92 (by decide) ?_
                have h := Option.some.inj h
                subst h
                exact W.zret hx hb hr rfl (fun t ht hW => ⟨⟨_, (), rfl, rfl, AftW_mk hK hP hD ht hW⟩, hS.F ht⟩) hS.2.2 d_Mod_isMark_96
      · have h := (if_pos c_3).symm.trans h
        refine lv_sipush (v := 217) hx hb d_Mod_isMark_37 (by decide) ?_
        refine lv_goto (tgt := 58) hx hb d_Mod_isMark_40 (by decide) ?_
        refine lv_istore_n (lv' := [(3, .int (217 : Int32)), (2, .int (151 : Int32)), (0, .ref (ad 0)), (1, .int x1)]) hx hb d_Mod_isMark_58 rfl hl (by decide) rfl (fun ls hl => ?_)
        refine lv_iload_n hx hb d_Mod_isMark_59 rfl (lv_at hl 3 rfl) ?_
        refine lv_iconst (v := 1) hx hb d_Mod_isMark_60 (by decide) ?_
        refine lv_iadd hx hb d_Mod_isMark_61 ?_
        refine lv_aload_n hx hb d_Mod_isMark_62 rfl (lv_at hl 2 rfl) ?_
        refine va_get (D := (dC, dI)) (ci := 4) (v := .int m_size) (C := R_Mod) (T := T_Mod) (N := 27) hx hb hB in_Mod hown hK hP 0 rfl rfl 4 (by decide) (hB _ wd_222) (fun _ h9 => h9) rfl d_Mod_isMark_63 ?_
        refine lv_icmp_ge (tgt := 95) hx hb d_Mod_isMark_66 (by decide) (fun c_15 => ?_) (fun c_15 => ?_)
        · have h := (if_pos c_15).symm.trans h
          refine lv_iconst (v := 0) hx hb d_Mod_isMark_95 (by decide) ?_
          have h := Option.some.inj h
          subst h
          exact W.zret hx hb hr rfl (fun t ht hW => ⟨⟨_, (), rfl, rfl, AftW_mk hK hP hD ht hW⟩, hS.F ht⟩) hS.2.2 d_Mod_isMark_96
        · have h := (if_neg c_15).symm.trans h
          refine lv_aload_n hx hb d_Mod_isMark_69 rfl (lv_at hl 2 rfl) ?_
          refine va_get (D := (dC, dI)) (ci := 4) (v := .ref (ad 1)) (C := R_Mod) (T := T_Mod) (N := 27) hx hb hB in_Mod hown hK hP 0 rfl rfl 3 (by decide) (hB _ wd_223) (fun _ h9 => h9) rfl d_Mod_isMark_70 ?_
          refine lv_iload_n hx hb d_Mod_isMark_73 rfl (lv_at hl 3 rfl) ?_
          obtain ⟨b_16, h⟩ := gI_some h
          refine va_iald hx hb hK hP 1 0 rfl rfl b_16 d_Mod_isMark_74 ?_
          refine lv_iload_n hx hb d_Mod_isMark_75 rfl (lv_at hl 1 rfl) ?_
          refine lv_icmp_ne (tgt := 95) hx hb d_Mod_isMark_76 (by decide) (fun c_17 => ?_) (fun c_17 => ?_)
          · have h := (if_neg c_17).symm.trans h
            refine lv_iconst (v := 0) hx hb d_Mod_isMark_95 (by decide) ?_
            have h := Option.some.inj h
            subst h
            exact W.zret hx hb hr rfl (fun t ht hW => ⟨⟨_, (), rfl, rfl, AftW_mk hK hP hD ht hW⟩, hS.F ht⟩) hS.2.2 d_Mod_isMark_96
          · have h := (if_pos c_17).symm.trans h
            refine lv_aload_n hx hb d_Mod_isMark_79 rfl (lv_at hl 2 rfl) ?_
            refine va_get (D := (dC, dI)) (ci := 4) (v := .ref (ad 1)) (C := R_Mod) (T := T_Mod) (N := 27) hx hb hB in_Mod hown hK hP 0 rfl rfl 3 (by decide) (hB _ wd_223) (fun _ h9 => h9) rfl d_Mod_isMark_80 ?_
            refine lv_iload_n hx hb d_Mod_isMark_83 rfl (lv_at hl 3 rfl) ?_
            refine lv_iconst (v := 1) hx hb d_Mod_isMark_84 (by decide) ?_
            refine lv_iadd hx hb d_Mod_isMark_85 ?_
            obtain ⟨b_18, h⟩ := gI_some h
            refine va_iald hx hb hK hP 1 0 rfl rfl b_18 d_Mod_isMark_86 ?_
            refine lv_iload_n hx hb d_Mod_isMark_87 rfl (lv_at hl 0 rfl) ?_
            refine lv_icmp_ne (tgt := 95) hx hb d_Mod_isMark_88 (by decide) (fun c_19 => ?_) (fun c_19 => ?_)
            · have h := (if_neg c_19).symm.trans h
              refine lv_iconst (v := 0) hx hb d_Mod_isMark_95 (by decide) ?_
              have h := Option.some.inj h
              subst h
              exact W.zret hx hb hr rfl (fun t ht hW => ⟨⟨_, (), rfl, rfl, AftW_mk hK hP hD ht hW⟩, hS.F ht⟩) hS.2.2 d_Mod_isMark_96
            · have h := (if_pos c_19).symm.trans h
              refine lv_iconst (v := 1) hx hb d_Mod_isMark_91 (by decide) ?_
              refine lv_goto (tgt := 96) hx hb d_Mod_isMark_92 (by decide) ?_
              have h := Option.some.inj h
              subst h
              exact W.zret hx hb hr rfl (fun t ht hW => ⟨⟨_, (), rfl, rfl, AftW_mk hK hP hD ht hW⟩, hS.F ht⟩) hS.2.2 d_Mod_isMark_96
    · have h := (if_pos c_2).symm.trans h
      refine lv_bipush (v := 80) hx hb d_Mod_isMark_21 (by decide) ?_
      refine lv_goto (tgt := 29) hx hb d_Mod_isMark_23 (by decide) ?_
      refine lv_istore_n (lv' := [(2, .int (80 : Int32)), (0, .ref (ad 0)), (1, .int x1)]) hx hb d_Mod_isMark_29 rfl hl (by decide) rfl (fun ls hl => ?_)
      refine lv_aload_n hx hb d_Mod_isMark_30 rfl (lv_at hl 1 rfl) ?_
      refine va_get (D := (dC, dI)) (ci := 4) (v := .int m_kind) (C := R_Mod) (T := T_Mod) (N := 27) hx hb hB in_Mod hown hK hP 0 rfl rfl 1 (by decide) (hB _ wd_221) (fun _ h9 => h9) rfl d_Mod_isMark_31 ?_
      refine lv_if_ne (tgt := 43) hx hb d_Mod_isMark_34 (by decide) (fun c_20 => ?_) (fun c_20 => ?_)
      · have h := (if_neg c_20).symm.trans h
        refine lv_aload_n hx hb d_Mod_isMark_43 rfl (lv_at hl 1 rfl) ?_
        refine va_get (D := (dC, dI)) (ci := 4) (v := .int m_kind) (C := R_Mod) (T := T_Mod) (N := 27) hx hb hB in_Mod hown hK hP 0 rfl rfl 1 (by decide) (hB _ wd_221) (fun _ h9 => h9) rfl d_Mod_isMark_44 ?_
        refine lv_iconst (v := 1) hx hb d_Mod_isMark_47 (by decide) ?_
        refine lv_icmp_ne (tgt := 56) hx hb d_Mod_isMark_48 (by decide) (fun c_21 => ?_) (fun c_21 => ?_)
        · have h := (if_neg c_21).symm.trans h
          refine lv_bipush (v := 74) hx hb d_Mod_isMark_56 (by decide) ?_
          refine lv_istore_n (lv' := [(3, .int (74 : Int32)), (2, .int (80 : Int32)), (0, .ref (ad 0)), (1, .int x1)]) hx hb d_Mod_isMark_58 rfl hl (by decide) rfl (fun ls hl => ?_)
          refine lv_iload_n hx hb d_Mod_isMark_59 rfl (lv_at hl 3 rfl) ?_
          refine lv_iconst (v := 1) hx hb d_Mod_isMark_60 (by decide) ?_
          refine lv_iadd hx hb d_Mod_isMark_61 ?_
          refine lv_aload_n hx hb d_Mod_isMark_62 rfl (lv_at hl 2 rfl) ?_
          refine va_get (D := (dC, dI)) (ci := 4) (v := .int m_size) (C := R_Mod) (T := T_Mod) (N := 27) hx hb hB in_Mod hown hK hP 0 rfl rfl 4 (by decide) (hB _ wd_222) (fun _ h9 => h9) rfl d_Mod_isMark_63 ?_
          refine lv_icmp_ge (tgt := 95) hx hb d_Mod_isMark_66 (by decide) (fun c_22 => ?_) (fun c_22 => ?_)
          · have h := (if_pos c_22).symm.trans h
            refine lv_iconst (v := 0) hx hb d_Mod_isMark_95 (by decide) ?_
            have h := Option.some.inj h
            subst h
            exact W.zret hx hb hr rfl (fun t ht hW => ⟨⟨_, (), rfl, rfl, AftW_mk hK hP hD ht hW⟩, hS.F ht⟩) hS.2.2 d_Mod_isMark_96
          · have h := (if_neg c_22).symm.trans h
            refine lv_aload_n hx hb d_Mod_isMark_69 rfl (lv_at hl 2 rfl) ?_
            refine va_get (D := (dC, dI)) (ci := 4) (v := .ref (ad 1)) (C := R_Mod) (T := T_Mod) (N := 27) hx hb hB in_Mod hown hK hP 0 rfl rfl 3 (by decide) (hB _ wd_223) (fun _ h9 => h9) rfl d_Mod_isMark_70 ?_
            refine lv_iload_n hx hb d_Mod_isMark_73 rfl (lv_at hl 3 rfl) ?_
            obtain ⟨b_23, h⟩ := gI_some h
            refine va_iald hx hb hK hP 1 0 rfl rfl b_23 d_Mod_isMark_74 ?_
            refine lv_iload_n hx hb d_Mod_isMark_75 rfl (lv_at hl 1 rfl) ?_
            refine lv_icmp_ne (tgt := 95) hx hb d_Mod_isMark_76 (by decide) (fun c_24 => ?_) (fun c_24 => ?_)
            · have h := (if_neg c_24).symm.trans h
              refine lv_iconst (v := 0) hx hb d_Mod_isMark_95 (by decide) ?_
              have h := Option.some.inj h
              subst h
              exact W.zret hx hb hr rfl (fun t ht hW => ⟨⟨_, (), rfl, rfl, AftW_mk hK hP hD ht hW⟩, hS.F ht⟩) hS.2.2 d_Mod_isMark_96
            · have h := (if_pos c_24).symm.trans h
              refine lv_aload_n hx hb d_Mod_isMark_79 rfl (lv_at hl 2 rfl) ?_
              refine va_get (D := (dC, dI)) (ci := 4) (v := .ref (ad 1)) (C := R_Mod) (T := T_Mod) (N := 27) hx hb hB in_Mod hown hK hP 0 rfl rfl 3 (by decide) (hB _ wd_223) (fun _ h9 => h9) rfl d_Mod_isMark_80 ?_
              refine lv_iload_n hx hb d_Mod_isMark_83 rfl (lv_at hl 3 rfl) ?_
              refine lv_iconst (v := 1) hx hb d_Mod_isMark_84 (by decide) ?_
              refine lv_iadd hx hb d_Mod_isMark_85 ?_
              obtain ⟨b_25, h⟩ := gI_some h
              refine va_iald hx hb hK hP 1 0 rfl rfl b_25 d_Mod_isMark_86 ?_
              refine lv_iload_n hx hb d_Mod_isMark_87 rfl (lv_at hl 0 rfl) ?_
              refine lv_icmp_ne (tgt := 95) hx hb d_Mod_isMark_88 (by decide) (fun c_26 => ?_) (fun c_26 => ?_)
              · have h := (if_neg c_26).symm.trans h
                refine lv_iconst (v := 0) hx hb d_Mod_isMark_95 (by decide) ?_
                have h := Option.some.inj h
                subst h
                exact W.zret hx hb hr rfl (fun t ht hW => ⟨⟨_, (), rfl, rfl, AftW_mk hK hP hD ht hW⟩, hS.F ht⟩) hS.2.2 d_Mod_isMark_96
              · have h := (if_pos c_26).symm.trans h
                refine lv_iconst (v := 1) hx hb d_Mod_isMark_91 (by decide) ?_
                refine lv_goto (tgt := 96) hx hb d_Mod_isMark_92 (by decide) ?_
                have h := Option.some.inj h
                subst h
                exact W.zret hx hb hr rfl (fun t ht hW => ⟨⟨_, (), rfl, rfl, AftW_mk hK hP hD ht hW⟩, hS.F ht⟩) hS.2.2 d_Mod_isMark_96
        · have h := (if_pos c_21).symm.trans h
          refine lv_bipush (v := 65) hx hb d_Mod_isMark_51 (by decide) ?_
          refine lv_goto (tgt := 58) hx hb d_Mod_isMark_53 (by decide) ?_
          refine lv_istore_n (lv' := [(3, .int (65 : Int32)), (2, .int (80 : Int32)), (0, .ref (ad 0)), (1, .int x1)]) hx hb d_Mod_isMark_58 rfl hl (by decide) rfl (fun ls hl => ?_)
          refine lv_iload_n hx hb d_Mod_isMark_59 rfl (lv_at hl 3 rfl) ?_
          refine lv_iconst (v := 1) hx hb d_Mod_isMark_60 (by decide) ?_
          refine lv_iadd hx hb d_Mod_isMark_61 ?_
          refine lv_aload_n hx hb d_Mod_isMark_62 rfl (lv_at hl 2 rfl) ?_
          refine va_get (D := (dC, dI)) (ci := 4) (v := .int m_size) (C := R_Mod) (T := T_Mod) (N := 27) hx hb hB in_Mod hown hK hP 0 rfl rfl 4 (by decide) (hB _ wd_222) (fun _ h9 => h9) rfl d_Mod_isMark_63 ?_
          refine lv_icmp_ge (tgt := 95) hx hb d_Mod_isMark_66 (by decide) (fun c_27 => ?_) (fun c_27 => ?_)
          · have h := (if_pos c_27).symm.trans h
            refine lv_iconst (v := 0) hx hb d_Mod_isMark_95 (by decide) ?_
            have h := Option.some.inj h
            subst h
            exact W.zret hx hb hr rfl (fun t ht hW => ⟨⟨_, (), rfl, rfl, AftW_mk hK hP hD ht hW⟩, hS.F ht⟩) hS.2.2 d_Mod_isMark_96
          · have h := (if_neg c_27).symm.trans h
            refine lv_aload_n hx hb d_Mod_isMark_69 rfl (lv_at hl 2 rfl) ?_
            refine va_get (D := (dC, dI)) (ci := 4) (v := .ref (ad 1)) (C := R_Mod) (T := T_Mod) (N := 27) hx hb hB in_Mod hown hK hP 0 rfl rfl 3 (by decide) (hB _ wd_223) (fun _ h9 => h9) rfl d_Mod_isMark_70 ?_
            refine lv_iload_n hx hb d_Mod_isMark_73 rfl (lv_at hl 3 rfl) ?_
            obtain ⟨b_28, h⟩ := gI_some h
            refine va_iald hx hb hK hP 1 0 rfl rfl b_28 d_Mod_isMark_74 ?_
            refine lv_iload_n hx hb d_Mod_isMark_75 rfl (lv_at hl 1 rfl) ?_
            refine lv_icmp_ne (tgt := 95) hx hb d_Mod_isMark_76 (by decide) (fun c_29 => ?_) (fun c_29 => ?_)
            · have h := (if_neg c_29).symm.trans h
              refine lv_iconst (v := 0) hx hb d_Mod_isMark_95 (by decide) ?_
              have h := Option.some.inj h
              subst h
              exact W.zret hx hb hr rfl (fun t ht hW => ⟨⟨_, (), rfl, rfl, AftW_mk hK hP hD ht hW⟩, hS.F ht⟩) hS.2.2 d_Mod_isMark_96
            · have h := (if_pos c_29).symm.trans h
              refine lv_aload_n hx hb d_Mod_isMark_79 rfl (lv_at hl 2 rfl) ?_
              refine va_get (D := (dC, dI)) (ci := 4) (v := .ref (ad 1)) (C := R_Mod) (T := T_Mod) (N := 27) hx hb hB in_Mod hown hK hP 0 rfl rfl 3 (by decide) (hB _ wd_223) (fun _ h9 => h9) rfl d_Mod_isMark_80 ?_
              refine lv_iload_n hx hb d_Mod_isMark_83 rfl (lv_at hl 3 rfl) ?_
              refine lv_iconst (v := 1) hx hb d_Mod_isMark_84 (by decide) ?_
              refine lv_iadd hx hb d_Mod_isMark_85 ?_
              obtain ⟨b_30, h⟩ := gI_some h
              refine va_iald hx hb hK hP 1 0 rfl rfl b_30 d_Mod_isMark_86 ?_
              refine lv_iload_n hx hb d_Mod_isMark_87 rfl (lv_at hl 0 rfl) ?_
              refine lv_icmp_ne (tgt := 95) hx hb d_Mod_isMark_88 (by decide) (fun c_31 => ?_) (fun c_31 => ?_)
              · have h := (if_neg c_31).symm.trans h
                refine lv_iconst (v := 0) hx hb d_Mod_isMark_95 (by decide) ?_
                have h := Option.some.inj h
                subst h
                exact W.zret hx hb hr rfl (fun t ht hW => ⟨⟨_, (), rfl, rfl, AftW_mk hK hP hD ht hW⟩, hS.F ht⟩) hS.2.2 d_Mod_isMark_96
              · have h := (if_pos c_31).symm.trans h
                refine lv_iconst (v := 1) hx hb d_Mod_isMark_91 (by decide) ?_
                refine lv_goto (tgt := 96) hx hb d_Mod_isMark_92 (by decide) ?_
                have h := Option.some.inj h
                subst h
                exact W.zret hx hb hr rfl (fun t ht hW => ⟨⟨_, (), rfl, rfl, AftW_mk hK hP hD ht hW⟩, hS.F ht⟩) hS.2.2 d_Mod_isMark_96
      · have h := (if_pos c_20).symm.trans h
        refine lv_sipush (v := 217) hx hb d_Mod_isMark_37 (by decide) ?_
        refine lv_goto (tgt := 58) hx hb d_Mod_isMark_40 (by decide) ?_
        refine lv_istore_n (lv' := [(3, .int (217 : Int32)), (2, .int (80 : Int32)), (0, .ref (ad 0)), (1, .int x1)]) hx hb d_Mod_isMark_58 rfl hl (by decide) rfl (fun ls hl => ?_)
        refine lv_iload_n hx hb d_Mod_isMark_59 rfl (lv_at hl 3 rfl) ?_
        refine lv_iconst (v := 1) hx hb d_Mod_isMark_60 (by decide) ?_
        refine lv_iadd hx hb d_Mod_isMark_61 ?_
        refine lv_aload_n hx hb d_Mod_isMark_62 rfl (lv_at hl 2 rfl) ?_
        refine va_get (D := (dC, dI)) (ci := 4) (v := .int m_size) (C := R_Mod) (T := T_Mod) (N := 27) hx hb hB in_Mod hown hK hP 0 rfl rfl 4 (by decide) (hB _ wd_222) (fun _ h9 => h9) rfl d_Mod_isMark_63 ?_
        refine lv_icmp_ge (tgt := 95) hx hb d_Mod_isMark_66 (by decide) (fun c_32 => ?_) (fun c_32 => ?_)
        · have h := (if_pos c_32).symm.trans h
          refine lv_iconst (v := 0) hx hb d_Mod_isMark_95 (by decide) ?_
          have h := Option.some.inj h
          subst h
          exact W.zret hx hb hr rfl (fun t ht hW => ⟨⟨_, (), rfl, rfl, AftW_mk hK hP hD ht hW⟩, hS.F ht⟩) hS.2.2 d_Mod_isMark_96
        · have h := (if_neg c_32).symm.trans h
          refine lv_aload_n hx hb d_Mod_isMark_69 rfl (lv_at hl 2 rfl) ?_
          refine va_get (D := (dC, dI)) (ci := 4) (v := .ref (ad 1)) (C := R_Mod) (T := T_Mod) (N := 27) hx hb hB in_Mod hown hK hP 0 rfl rfl 3 (by decide) (hB _ wd_223) (fun _ h9 => h9) rfl d_Mod_isMark_70 ?_
          refine lv_iload_n hx hb d_Mod_isMark_73 rfl (lv_at hl 3 rfl) ?_
          obtain ⟨b_33, h⟩ := gI_some h
          refine va_iald hx hb hK hP 1 0 rfl rfl b_33 d_Mod_isMark_74 ?_
          refine lv_iload_n hx hb d_Mod_isMark_75 rfl (lv_at hl 1 rfl) ?_
          refine lv_icmp_ne (tgt := 95) hx hb d_Mod_isMark_76 (by decide) (fun c_34 => ?_) (fun c_34 => ?_)
          · have h := (if_neg c_34).symm.trans h
            refine lv_iconst (v := 0) hx hb d_Mod_isMark_95 (by decide) ?_
            have h := Option.some.inj h
            subst h
            exact W.zret hx hb hr rfl (fun t ht hW => ⟨⟨_, (), rfl, rfl, AftW_mk hK hP hD ht hW⟩, hS.F ht⟩) hS.2.2 d_Mod_isMark_96
          · have h := (if_pos c_34).symm.trans h
            refine lv_aload_n hx hb d_Mod_isMark_79 rfl (lv_at hl 2 rfl) ?_
            refine va_get (D := (dC, dI)) (ci := 4) (v := .ref (ad 1)) (C := R_Mod) (T := T_Mod) (N := 27) hx hb hB in_Mod hown hK hP 0 rfl rfl 3 (by decide) (hB _ wd_223) (fun _ h9 => h9) rfl d_Mod_isMark_80 ?_
            refine lv_iload_n hx hb d_Mod_isMark_83 rfl (lv_at hl 3 rfl) ?_
            refine lv_iconst (v := 1) hx hb d_Mod_isMark_84 (by decide) ?_
            refine lv_iadd hx hb d_Mod_isMark_85 ?_
            obtain ⟨b_35, h⟩ := gI_some h
            refine va_iald hx hb hK hP 1 0 rfl rfl b_35 d_Mod_isMark_86 ?_
            refine lv_iload_n hx hb d_Mod_isMark_87 rfl (lv_at hl 0 rfl) ?_
            refine lv_icmp_ne (tgt := 95) hx hb d_Mod_isMark_88 (by decide) (fun c_36 => ?_) (fun c_36 => ?_)
            · have h := (if_neg c_36).symm.trans h
              refine lv_iconst (v := 0) hx hb d_Mod_isMark_95 (by decide) ?_
              have h := Option.some.inj h
              subst h
              exact W.zret hx hb hr rfl (fun t ht hW => ⟨⟨_, (), rfl, rfl, AftW_mk hK hP hD ht hW⟩, hS.F ht⟩) hS.2.2 d_Mod_isMark_96
            · have h := (if_pos c_36).symm.trans h
              refine lv_iconst (v := 1) hx hb d_Mod_isMark_91 (by decide) ?_
              refine lv_goto (tgt := 96) hx hb d_Mod_isMark_92 (by decide) ?_
              have h := Option.some.inj h
              subst h
              exact W.zret hx hb hr rfl (fun t ht hW => ⟨⟨_, (), rfl, rfl, AftW_mk hK hP hD ht hW⟩, hS.F ht⟩) hS.2.2 d_Mod_isMark_96
  · have h := (if_pos c_1).symm.trans h
    refine lv_sipush (v := 255) hx hb d_Mod_isMark_7 (by decide) ?_
    refine lv_goto (tgt := 29) hx hb d_Mod_isMark_10 (by decide) ?_
    refine lv_istore_n (lv' := [(2, .int (255 : Int32)), (0, .ref (ad 0)), (1, .int x1)]) hx hb d_Mod_isMark_29 rfl hl (by decide) rfl (fun ls hl => ?_)
    refine lv_aload_n hx hb d_Mod_isMark_30 rfl (lv_at hl 1 rfl) ?_
    refine va_get (D := (dC, dI)) (ci := 4) (v := .int m_kind) (C := R_Mod) (T := T_Mod) (N := 27) hx hb hB in_Mod hown hK hP 0 rfl rfl 1 (by decide) (hB _ wd_221) (fun _ h9 => h9) rfl d_Mod_isMark_31 ?_
    refine lv_if_ne (tgt := 43) hx hb d_Mod_isMark_34 (by decide) (fun c_37 => ?_) (fun c_37 => ?_)
    · have h := (if_neg c_37).symm.trans h
      refine lv_aload_n hx hb d_Mod_isMark_43 rfl (lv_at hl 1 rfl) ?_
      refine va_get (D := (dC, dI)) (ci := 4) (v := .int m_kind) (C := R_Mod) (T := T_Mod) (N := 27) hx hb hB in_Mod hown hK hP 0 rfl rfl 1 (by decide) (hB _ wd_221) (fun _ h9 => h9) rfl d_Mod_isMark_44 ?_
      refine lv_iconst (v := 1) hx hb d_Mod_isMark_47 (by decide) ?_
      refine lv_icmp_ne (tgt := 56) hx hb d_Mod_isMark_48 (by decide) (fun c_38 => ?_) (fun c_38 => ?_)
      · have h := (if_neg c_38).symm.trans h
        refine lv_bipush (v := 74) hx hb d_Mod_isMark_56 (by decide) ?_
        refine lv_istore_n (lv' := [(3, .int (74 : Int32)), (2, .int (255 : Int32)), (0, .ref (ad 0)), (1, .int x1)]) hx hb d_Mod_isMark_58 rfl hl (by decide) rfl (fun ls hl => ?_)
        refine lv_iload_n hx hb d_Mod_isMark_59 rfl (lv_at hl 3 rfl) ?_
        refine lv_iconst (v := 1) hx hb d_Mod_isMark_60 (by decide) ?_
        refine lv_iadd hx hb d_Mod_isMark_61 ?_
        refine lv_aload_n hx hb d_Mod_isMark_62 rfl (lv_at hl 2 rfl) ?_
        refine va_get (D := (dC, dI)) (ci := 4) (v := .int m_size) (C := R_Mod) (T := T_Mod) (N := 27) hx hb hB in_Mod hown hK hP 0 rfl rfl 4 (by decide) (hB _ wd_222) (fun _ h9 => h9) rfl d_Mod_isMark_63 ?_
        refine lv_icmp_ge (tgt := 95) hx hb d_Mod_isMark_66 (by decide) (fun c_39 => ?_) (fun c_39 => ?_)
        · have h := (if_pos c_39).symm.trans h
          refine lv_iconst (v := 0) hx hb d_Mod_isMark_95 (by decide) ?_
          have h := Option.some.inj h
          subst h
          exact W.zret hx hb hr rfl (fun t ht hW => ⟨⟨_, (), rfl, rfl, AftW_mk hK hP hD ht hW⟩, hS.F ht⟩) hS.2.2 d_Mod_isMark_96
        · have h := (if_neg c_39).symm.trans h
          refine lv_aload_n hx hb d_Mod_isMark_69 rfl (lv_at hl 2 rfl) ?_
          refine va_get (D := (dC, dI)) (ci := 4) (v := .ref (ad 1)) (C := R_Mod) (T := T_Mod) (N := 27) hx hb hB in_Mod hown hK hP 0 rfl rfl 3 (by decide) (hB _ wd_223) (fun _ h9 => h9) rfl d_Mod_isMark_70 ?_
          refine lv_iload_n hx hb d_Mod_isMark_73 rfl (lv_at hl 3 rfl) ?_
          obtain ⟨b_40, h⟩ := gI_some h
          refine va_iald hx hb hK hP 1 0 rfl rfl b_40 d_Mod_isMark_74 ?_
          refine lv_iload_n hx hb d_Mod_isMark_75 rfl (lv_at hl 1 rfl) ?_
          refine lv_icmp_ne (tgt := 95) hx hb d_Mod_isMark_76 (by decide) (fun c_41 => ?_) (fun c_41 => ?_)
          · have h := (if_neg c_41).symm.trans h
            refine lv_iconst (v := 0) hx hb d_Mod_isMark_95 (by decide) ?_
            have h := Option.some.inj h
            subst h
            exact W.zret hx hb hr rfl (fun t ht hW => ⟨⟨_, (), rfl, rfl, AftW_mk hK hP hD ht hW⟩, hS.F ht⟩) hS.2.2 d_Mod_isMark_96
          · have h := (if_pos c_41).symm.trans h
            refine lv_aload_n hx hb d_Mod_isMark_79 rfl (lv_at hl 2 rfl) ?_
            refine va_get (D := (dC, dI)) (ci := 4) (v := .ref (ad 1)) (C := R_Mod) (T := T_Mod) (N := 27) hx hb hB in_Mod hown hK hP 0 rfl rfl 3 (by decide) (hB _ wd_223) (fun _ h9 => h9) rfl d_Mod_isMark_80 ?_
            refine lv_iload_n hx hb d_Mod_isMark_83 rfl (lv_at hl 3 rfl) ?_
            refine lv_iconst (v := 1) hx hb d_Mod_isMark_84 (by decide) ?_
            refine lv_iadd hx hb d_Mod_isMark_85 ?_
            obtain ⟨b_42, h⟩ := gI_some h
            refine va_iald hx hb hK hP 1 0 rfl rfl b_42 d_Mod_isMark_86 ?_
            refine lv_iload_n hx hb d_Mod_isMark_87 rfl (lv_at hl 0 rfl) ?_
            refine lv_icmp_ne (tgt := 95) hx hb d_Mod_isMark_88 (by decide) (fun c_43 => ?_) (fun c_43 => ?_)
            · have h := (if_neg c_43).symm.trans h
              refine lv_iconst (v := 0) hx hb d_Mod_isMark_95 (by decide) ?_
              have h := Option.some.inj h
              subst h
              exact W.zret hx hb hr rfl (fun t ht hW => ⟨⟨_, (), rfl, rfl, AftW_mk hK hP hD ht hW⟩, hS.F ht⟩) hS.2.2 d_Mod_isMark_96
            · have h := (if_pos c_43).symm.trans h
              refine lv_iconst (v := 1) hx hb d_Mod_isMark_91 (by decide) ?_
              refine lv_goto (tgt := 96) hx hb d_Mod_isMark_92 (by decide) ?_
              have h := Option.some.inj h
              subst h
              exact W.zret hx hb hr rfl (fun t ht hW => ⟨⟨_, (), rfl, rfl, AftW_mk hK hP hD ht hW⟩, hS.F ht⟩) hS.2.2 d_Mod_isMark_96
      · have h := (if_pos c_38).symm.trans h
        refine lv_bipush (v := 65) hx hb d_Mod_isMark_51 (by decide) ?_
        refine lv_goto (tgt := 58) hx hb d_Mod_isMark_53 (by decide) ?_
        refine lv_istore_n (lv' := [(3, .int (65 : Int32)), (2, .int (255 : Int32)), (0, .ref (ad 0)), (1, .int x1)]) hx hb d_Mod_isMark_58 rfl hl (by decide) rfl (fun ls hl => ?_)
        refine lv_iload_n hx hb d_Mod_isMark_59 rfl (lv_at hl 3 rfl) ?_
        refine lv_iconst (v := 1) hx hb d_Mod_isMark_60 (by decide) ?_
        refine lv_iadd hx hb d_Mod_isMark_61 ?_
        refine lv_aload_n hx hb d_Mod_isMark_62 rfl (lv_at hl 2 rfl) ?_
        refine va_get (D := (dC, dI)) (ci := 4) (v := .int m_size) (C := R_Mod) (T := T_Mod) (N := 27) hx hb hB in_Mod hown hK hP 0 rfl rfl 4 (by decide) (hB _ wd_222) (fun _ h9 => h9) rfl d_Mod_isMark_63 ?_
        refine lv_icmp_ge (tgt := 95) hx hb d_Mod_isMark_66 (by decide) (fun c_44 => ?_) (fun c_44 => ?_)
        · have h := (if_pos c_44).symm.trans h
          refine lv_iconst (v := 0) hx hb d_Mod_isMark_95 (by decide) ?_
          have h := Option.some.inj h
          subst h
          exact W.zret hx hb hr rfl (fun t ht hW => ⟨⟨_, (), rfl, rfl, AftW_mk hK hP hD ht hW⟩, hS.F ht⟩) hS.2.2 d_Mod_isMark_96
        · have h := (if_neg c_44).symm.trans h
          refine lv_aload_n hx hb d_Mod_isMark_69 rfl (lv_at hl 2 rfl) ?_
          refine va_get (D := (dC, dI)) (ci := 4) (v := .ref (ad 1)) (C := R_Mod) (T := T_Mod) (N := 27) hx hb hB in_Mod hown hK hP 0 rfl rfl 3 (by decide) (hB _ wd_223) (fun _ h9 => h9) rfl d_Mod_isMark_70 ?_
          refine lv_iload_n hx hb d_Mod_isMark_73 rfl (lv_at hl 3 rfl) ?_
          obtain ⟨b_45, h⟩ := gI_some h
          refine va_iald hx hb hK hP 1 0 rfl rfl b_45 d_Mod_isMark_74 ?_
          refine lv_iload_n hx hb d_Mod_isMark_75 rfl (lv_at hl 1 rfl) ?_
          refine lv_icmp_ne (tgt := 95) hx hb d_Mod_isMark_76 (by decide) (fun c_46 => ?_) (fun c_46 => ?_)
          · have h := (if_neg c_46).symm.trans h
            refine lv_iconst (v := 0) hx hb d_Mod_isMark_95 (by decide) ?_
            have h := Option.some.inj h
            subst h
            exact W.zret hx hb hr rfl (fun t ht hW => ⟨⟨_, (), rfl, rfl, AftW_mk hK hP hD ht hW⟩, hS.F ht⟩) hS.2.2 d_Mod_isMark_96
          · have h := (if_pos c_46).symm.trans h
            refine lv_aload_n hx hb d_Mod_isMark_79 rfl (lv_at hl 2 rfl) ?_
            refine va_get (D := (dC, dI)) (ci := 4) (v := .ref (ad 1)) (C := R_Mod) (T := T_Mod) (N := 27) hx hb hB in_Mod hown hK hP 0 rfl rfl 3 (by decide) (hB _ wd_223) (fun _ h9 => h9) rfl d_Mod_isMark_80 ?_
            refine lv_iload_n hx hb d_Mod_isMark_83 rfl (lv_at hl 3 rfl) ?_
            refine lv_iconst (v := 1) hx hb d_Mod_isMark_84 (by decide) ?_
            refine lv_iadd hx hb d_Mod_isMark_85 ?_
            obtain ⟨b_47, h⟩ := gI_some h
            refine va_iald hx hb hK hP 1 0 rfl rfl b_47 d_Mod_isMark_86 ?_
            refine lv_iload_n hx hb d_Mod_isMark_87 rfl (lv_at hl 0 rfl) ?_
            refine lv_icmp_ne (tgt := 95) hx hb d_Mod_isMark_88 (by decide) (fun c_48 => ?_) (fun c_48 => ?_)
            · have h := (if_neg c_48).symm.trans h
              refine lv_iconst (v := 0) hx hb d_Mod_isMark_95 (by decide) ?_
              have h := Option.some.inj h
              subst h
              exact W.zret hx hb hr rfl (fun t ht hW => ⟨⟨_, (), rfl, rfl, AftW_mk hK hP hD ht hW⟩, hS.F ht⟩) hS.2.2 d_Mod_isMark_96
            · have h := (if_pos c_48).symm.trans h
              refine lv_iconst (v := 1) hx hb d_Mod_isMark_91 (by decide) ?_
              refine lv_goto (tgt := 96) hx hb d_Mod_isMark_92 (by decide) ?_
              have h := Option.some.inj h
              subst h
              exact W.zret hx hb hr rfl (fun t ht hW => ⟨⟨_, (), rfl, rfl, AftW_mk hK hP hD ht hW⟩, hS.F ht⟩) hS.2.2 d_Mod_isMark_96
    · have h := (if_pos c_37).symm.trans h
      refine lv_sipush (v := 217) hx hb d_Mod_isMark_37 (by decide) ?_
      refine lv_goto (tgt := 58) hx hb d_Mod_isMark_40 (by decide) ?_
      refine lv_istore_n (lv' := [(3, .int (217 : Int32)), (2, .int (255 : Int32)), (0, .ref (ad 0)), (1, .int x1)]) hx hb d_Mod_isMark_58 rfl hl (by decide) rfl (fun ls hl => ?_)
      refine lv_iload_n hx hb d_Mod_isMark_59 rfl (lv_at hl 3 rfl) ?_
      refine lv_iconst (v := 1) hx hb d_Mod_isMark_60 (by decide) ?_
      refine lv_iadd hx hb d_Mod_isMark_61 ?_
      refine lv_aload_n hx hb d_Mod_isMark_62 rfl (lv_at hl 2 rfl) ?_
      refine va_get (D := (dC, dI)) (ci := 4) (v := .int m_size) (C := R_Mod) (T := T_Mod) (N := 27) hx hb hB in_Mod hown hK hP 0 rfl rfl 4 (by decide) (hB _ wd_222) (fun _ h9 => h9) rfl d_Mod_isMark_63 ?_
      refine lv_icmp_ge (tgt := 95) hx hb d_Mod_isMark_66 (by decide) (fun c_49 => ?_) (fun c_49 => ?_)
      · have h := (if_pos c_49).symm.trans h
        refine lv_iconst (v := 0) hx hb d_Mod_isMark_95 (by decide) ?_
        have h := Option.some.inj h
        subst h
        exact W.zret hx hb hr rfl (fun t ht hW => ⟨⟨_, (), rfl, rfl, AftW_mk hK hP hD ht hW⟩, hS.F ht⟩) hS.2.2 d_Mod_isMark_96
      · have h := (if_neg c_49).symm.trans h
        refine lv_aload_n hx hb d_Mod_isMark_69 rfl (lv_at hl 2 rfl) ?_
        refine va_get (D := (dC, dI)) (ci := 4) (v := .ref (ad 1)) (C := R_Mod) (T := T_Mod) (N := 27) hx hb hB in_Mod hown hK hP 0 rfl rfl 3 (by decide) (hB _ wd_223) (fun _ h9 => h9) rfl d_Mod_isMark_70 ?_
        refine lv_iload_n hx hb d_Mod_isMark_73 rfl (lv_at hl 3 rfl) ?_
        obtain ⟨b_50, h⟩ := gI_some h
        refine va_iald hx hb hK hP 1 0 rfl rfl b_50 d_Mod_isMark_74 ?_
        refine lv_iload_n hx hb d_Mod_isMark_75 rfl (lv_at hl 1 rfl) ?_
        refine lv_icmp_ne (tgt := 95) hx hb d_Mod_isMark_76 (by decide) (fun c_51 => ?_) (fun c_51 => ?_)
        · have h := (if_neg c_51).symm.trans h
          refine lv_iconst (v := 0) hx hb d_Mod_isMark_95 (by decide) ?_
          have h := Option.some.inj h
          subst h
          exact W.zret hx hb hr rfl (fun t ht hW => ⟨⟨_, (), rfl, rfl, AftW_mk hK hP hD ht hW⟩, hS.F ht⟩) hS.2.2 d_Mod_isMark_96
        · have h := (if_pos c_51).symm.trans h
          refine lv_aload_n hx hb d_Mod_isMark_79 rfl (lv_at hl 2 rfl) ?_
          refine va_get (D := (dC, dI)) (ci := 4) (v := .ref (ad 1)) (C := R_Mod) (T := T_Mod) (N := 27) hx hb hB in_Mod hown hK hP 0 rfl rfl 3 (by decide) (hB _ wd_223) (fun _ h9 => h9) rfl d_Mod_isMark_80 ?_
          refine lv_iload_n hx hb d_Mod_isMark_83 rfl (lv_at hl 3 rfl) ?_
          refine lv_iconst (v := 1) hx hb d_Mod_isMark_84 (by decide) ?_
          refine lv_iadd hx hb d_Mod_isMark_85 ?_
          obtain ⟨b_52, h⟩ := gI_some h
          refine va_iald hx hb hK hP 1 0 rfl rfl b_52 d_Mod_isMark_86 ?_
          refine lv_iload_n hx hb d_Mod_isMark_87 rfl (lv_at hl 0 rfl) ?_
          refine lv_icmp_ne (tgt := 95) hx hb d_Mod_isMark_88 (by decide) (fun c_53 => ?_) (fun c_53 => ?_)
          · have h := (if_neg c_53).symm.trans h
            refine lv_iconst (v := 0) hx hb d_Mod_isMark_95 (by decide) ?_
            have h := Option.some.inj h
            subst h
            exact W.zret hx hb hr rfl (fun t ht hW => ⟨⟨_, (), rfl, rfl, AftW_mk hK hP hD ht hW⟩, hS.F ht⟩) hS.2.2 d_Mod_isMark_96
          · have h := (if_pos c_53).symm.trans h
            refine lv_iconst (v := 1) hx hb d_Mod_isMark_91 (by decide) ?_
            refine lv_goto (tgt := 96) hx hb d_Mod_isMark_92 (by decide) ?_
            have h := Option.some.inj h
            subst h
            exact W.zret hx hb hr rfl (fun t ht hW => ⟨⟨_, (), rfl, rfl, AftW_mk hK hP hD ht hW⟩, hS.F ht⟩) hS.2.2 d_Mod_isMark_96
def d_Mod_isHead (N : Nat) (x1 : Int32) (m_kind : Int32) (m_size : Int32) (m_bytes : Nat → Int32) : Option (Int32) :=
 (d_Mod_isMark N x1 m_kind m_size m_bytes).bind (fun o1 => if o1 = 0 then some (0 : Int32) else if m_size < (x1 + (6 : Int32)) then some (0 : Int32) else some (1 : Int32))
abbrev rm_Mod_isHead : Room := { frames := 1, cells := 0, slots := 0, locals := 23 }
set_option maxHeartbeats 4000000 in
set_option maxRecDepth 100000 in
theorem c_Mod_isHead (l : Launch) (dC : Nat → ClassId) (dI : Nat → Nat → Nat) (tt : Nat → Nat) (ad : Nat → Nat) (cs : Nat → ClassId) (sz N : Nat) (x1 : Int32) (m_thrown : Int32) (m_kind : Int32) (m_steps : Int32) (m_size : Int32) (m_ran : Int32) (m_parts : Int32) (m_taken : Int32) (m_lacked : Int32) (m_decodings : Int32) (m_failures : Int32) (m_at : Int32) (m_end : Int32) (m_many : Int32) (m_wrong : Int32) (m_bytes : Nat → Int32) (m_heads : Nat → Int32) (m_numbers : Nat → Int32) (m_codes : Nat → Int32) (m_sizes : Nat → Int32) (m_guessed : Nat → Int32) (m_results : Nat → Int32) (m_values : Nat → Int32) (m_states : Nat → Int32) (m_came : Nat → Int32) (m_boxes : Nat → Int32) (m_single : Nat → Int32) (m_rows : Nat → Int32) (out : Int32) (h : d_Mod_isHead N x1 m_kind m_size m_bytes = some out) :
    Met l y_Mod_isHead (w_Mod_isHead) rm_Mod_isHead (va_Pc [.ref (ad 0), .int x1] (PreW (dC, dI) [((cs 1), .int), ((cs 2), .int), ((cs 3), .int), ((cs 4), .int), ((cs 5), .int), ((cs 6), .boolean), ((cs 7), .int), ((cs 8), .int), ((cs 9), .int), ((cs 10), .int), ((cs 11), .int), ((cs 12), .int), ((cs 13), .int)] (x_Mod ad cs m_thrown m_kind m_steps m_size m_ran m_parts m_taken m_lacked m_decodings m_failures m_at m_end m_many m_wrong m_bytes m_heads m_numbers m_codes m_sizes m_guessed m_results m_values m_states m_came m_boxes m_single m_rows) sz tt)) (va_Qi (fun (r : Int32) (_ : Unit) => r = out) (fun _ => AftW (dC, dI) [((cs 1), .int), ((cs 2), .int), ((cs 3), .int), ((cs 4), .int), ((cs 5), .int), ((cs 6), .boolean), ((cs 7), .int), ((cs 8), .int), ((cs 9), .int), ((cs 10), .int), ((cs 11), .int), ((cs 12), .int), ((cs 13), .int)] (va_A (x_Mod ad cs m_thrown m_kind m_steps m_size m_ran m_parts m_taken m_lacked m_decodings m_failures m_at m_end m_many m_wrong m_bytes m_heads m_numbers m_codes m_sizes m_guessed m_results m_values m_states m_came m_boxes m_single m_rows) sz) (x_Mod ad cs m_thrown m_kind m_steps m_size m_ran m_parts m_taken m_lacked m_decodings m_failures m_at m_end m_many m_wrong m_bytes m_heads m_numbers m_codes m_sizes m_guessed m_results m_values m_states m_came m_boxes m_single m_rows)) (va_A (x_Mod ad cs m_thrown m_kind m_steps m_size m_ran m_parts m_taken m_lacked m_decodings m_failures m_at m_end m_many m_wrong m_bytes m_heads m_numbers m_codes m_sizes m_guessed m_results m_values m_states m_came m_boxes m_single m_rows) sz)) 0 0 (va_A (x_Mod ad cs m_thrown m_kind m_steps m_size m_ran m_parts m_taken m_lacked m_decodings m_failures m_at m_end m_many m_wrong m_bytes m_heads m_numbers m_codes m_sizes m_guessed m_results m_values m_states m_came m_boxes m_single m_rows) sz) := by
  refine Met.ofW (cc := k_Mod_isHead) (maxL := 2) (ret := (some .boolean)) (by decide) rfl ?_
  intro p e s m args below meth c s₁ B hml hv
  obtain ⟨rfl, hsz, hP, hK, hD0, hG⟩ := hv
  have hx := B.exec
  have hb := B.bytes
  have hr := B.returns
  have hts := atoms_spec (ws := (w_Mod_isHead)) B.pre
  have hB : ∀ w ∈ BIG, w.before _ s = true := fun w h9 => hts w (List.mem_cons_of_mem _ h9)
  have hown : s.vm.findClass R_Mod = some m.cls := findClass_of_methodNamed B.named
  have hlocks := B.notSynchronized
  subst hsz
  have hD := hD0.self (sz := s.heap.size)
  generalize hAe : va_A (x_Mod ad cs m_thrown m_kind m_steps m_size m_ran m_parts m_taken m_lacked m_decodings m_failures m_at m_end m_many m_wrong m_bytes m_heads m_numbers m_codes m_sizes m_guessed m_results m_values m_states m_came m_boxes m_single m_rows) s.heap.size = A at hD hG ⊢
  have hA : ∀ q : Nat, s.heap.size ≤ q → A q := fun q h => by rw [← hAe]; exact Or.inr h
  have hS : va_S A s.heap s.heap [] := va_S.rf
  have hl := lv_entry ([.ref (ad 0), .int x1]) (n := 2) (Nat.le_of_ble_eq_true rfl)
  rw [lg_entry_eq]
  generalize (lg_sl ([.ref (ad 0), .int x1]) ++ List.replicate (2 - (lg_sl ([.ref (ad 0), .int x1])).length) Slot.unset).toArray = ls at hl ⊢
  have hl : lv_has ls 2 [(0, .ref (ad 0)), (1, .int x1)] := hl
  unfold d_Mod_isHead at h
  refine lv_aload_n hx hb d_Mod_isHead_0 rfl (lv_at hl 0 rfl) ?_
  refine lv_iload_n hx hb d_Mod_isHead_1 rfl (lv_at hl 1 rfl) ?_
  obtain ⟨o1, ho1, h⟩ := Option.bind_eq_some_iff.mp h
  have hKc := hK.sub (tys' := [((cs 1), .int), ((cs 2), .int), ((cs 3), .int), ((cs 4), .int), ((cs 5), .int), ((cs 6), .boolean), ((cs 7), .int), ((cs 8), .int), ((cs 9), .int), ((cs 10), .int), ((cs 11), .int), ((cs 12), .int), ((cs 13), .int)]) [0, 1, 2, 3, 4, 5, 6, 7, 8, 9, 10, 11, 12] rfl
  have hPc := hP.sub (ws' := x_Mod ad cs m_thrown m_kind m_steps m_size m_ran m_parts m_taken m_lacked m_decodings m_failures m_at m_end m_many m_wrong m_bytes m_heads m_numbers m_codes m_sizes m_guessed m_results m_values m_states m_came m_boxes m_single m_rows) [0, 1, 2, 3, 4, 5, 6, 7, 8, 9, 10, 11, 12, 13] rfl
  have hDc := hD.sub (ws' := x_Mod ad cs m_thrown m_kind m_steps m_size m_ran m_parts m_taken m_lacked m_decodings m_failures m_at m_end m_many m_wrong m_bytes m_heads m_numbers m_codes m_sizes m_guessed m_results m_values m_states m_came m_boxes m_single m_rows) [0, 1, 2, 3, 4, 5, 6, 7, 8, 9, 10, 11, 12, 13] (by decide) rfl
  have hFc := va_free (wc := x_Mod ad cs m_thrown m_kind m_steps m_size m_ran m_parts m_taken m_lacked m_decodings m_failures m_at m_end m_many m_wrong m_bytes m_heads m_numbers m_codes m_sizes m_guessed m_results m_values m_states m_came m_boxes m_single m_rows) hD hS hA [0, 1, 2, 3, 4, 5, 6, 7, 8, 9, 10, 11, 12, 13] rfl
  refine va_calli (va_runV (As := [.int x1]) (rest := []) ⟨hx, hb, hml, hown, hB⟩ (c_Mod_isMark l dC dI tt ad cs s.heap.size N x1 m_thrown m_kind m_steps m_size m_ran m_parts m_taken m_lacked m_decodings m_failures m_at m_end m_many m_wrong m_bytes m_heads m_numbers m_codes m_sizes m_guessed m_results m_values m_states m_came m_boxes m_single m_rows o1 ho1) (cwV 1 hB (gV wd_228 wd_225 wd_224 wd_226 wd_227) rfl rfl rfl (by decide +kernel) ⟨Nat.le_of_ble_eq_true rfl, Nat.le_of_ble_eq_true rfl⟩) ⟨PreW_blind, va_recv hKc hPc (ci := 4) (q0 := 0) rfl rfl, PreW_mk hKc hPc hDc hG hS hFc⟩ rfl rfl hl.1 rfl (lv_room (Nat.le_of_ble_eq_true rfl)) d_Mod_isHead_2 ⟨Nat.le_of_ble_eq_true rfl, Nat.le_of_ble_eq_true rfl⟩) hS (fun q _ h => hFc q h) hFc (fun r_1 u_1 t H1 locs ht hvm hw hB hz1 hk1 hS => ?_)
  have hw := hw.symm
  subst hw
  obtain ⟨hP1, hK1, hD1⟩ := hB
  rw [ht] at hP1
  obtain ⟨hP, hD⟩ := va_join (wr := pick (x_Mod ad cs m_thrown m_kind m_steps m_size m_ran m_parts m_taken m_lacked m_decodings m_failures m_at m_end m_many m_wrong m_bytes m_heads m_numbers m_codes m_sizes m_guessed m_results m_values m_states m_came m_boxes m_single m_rows) []) hP hD [0, 1, 2, 3, 4, 5, 6, 7, 8, 9, 10, 11, 12, 13] [] rfl rfl (by decide) (by decide) hk1 hFc hP1 hD1
  generalize H1 = H at hP hS ⊢
  have hP : va_P (dC, dI) vwCl (x_Mod ad cs m_thrown m_kind m_steps m_size m_ran m_parts m_taken m_lacked m_decodings m_failures m_at m_end m_many m_wrong m_bytes m_heads m_numbers m_codes m_sizes m_guessed m_results m_values m_states m_came m_boxes m_single m_rows) H := hP.sub [0, 1, 2, 3, 4, 5, 6, 7, 8, 9, 10, 11, 12, 13] rfl
  have hD : va_D A (x_Mod ad cs m_thrown m_kind m_steps m_size m_ran m_parts m_taken m_lacked m_decodings m_failures m_at m_end m_many m_wrong m_bytes m_heads m_numbers m_codes m_sizes m_guessed m_results m_values m_states m_came m_boxes m_single m_rows) := hD.sub [0, 1, 2, 3, 4, 5, 6, 7, 8, 9, 10, 11, 12, 13] (by decide) rfl
  refine lv_if_eq (tgt := 23) hx hb d_Mod_isHead_5 (by decide) (fun c_2 => ?_) (fun c_2 => ?_)
  · have h := (if_pos c_2).symm.trans h
    refine lv_iconst (v := 0) hx hb d_Mod_isHead_23 (by decide) ?_
    have h := Option.some.inj h
    subst h
    exact W.zret hx hb hr rfl (fun t ht hW => ⟨⟨_, (), rfl, rfl, AftW_mk hK hP hD ht hW⟩, hS.F ht⟩) hS.2.2 d_Mod_isHead_24
  · have h := (if_neg c_2).symm.trans h
    refine lv_iload_n hx hb d_Mod_isHead_8 rfl (lv_at hl 1 rfl) ?_
    refine lv_bipush (v := 6) hx hb d_Mod_isHead_9 (by decide) ?_
    refine lv_iadd hx hb d_Mod_isHead_11 ?_
    refine lv_aload_n hx hb d_Mod_isHead_12 rfl (lv_at hl 0 rfl) ?_
    refine va_get (D := (dC, dI)) (ci := 4) (v := .int m_size) (C := R_Mod) (T := T_Mod) (N := 27) hx hb hB in_Mod hown hK hP 0 rfl rfl 4 (by decide) (hB _ wd_222) (fun _ h9 => h9) rfl d_Mod_isHead_13 ?_
    refine lv_icmp_gt (tgt := 23) hx hb d_Mod_isHead_16 (by decide) (fun c_3 => ?_) (fun c_3 => ?_)
    · have h := (if_pos c_3).symm.trans h
      refine lv_iconst (v := 0) hx hb d_Mod_isHead_23 (by decide) ?_
      have h := Option.some.inj h
      subst h
      exact W.zret hx hb hr rfl (fun t ht hW => ⟨⟨_, (), rfl, rfl, AftW_mk hK hP hD ht hW⟩, hS.F ht⟩) hS.2.2 d_Mod_isHead_24
    · have h := (if_neg c_3).symm.trans h
      refine lv_iconst (v := 1) hx hb d_Mod_isHead_19 (by decide) ?_
      refine lv_goto (tgt := 24) hx hb d_Mod_isHead_20 (by decide) ?_
      have h := Option.some.inj h
      subst h
      exact W.zret hx hb hr rfl (fun t ht hW => ⟨⟨_, (), rfl, rfl, AftW_mk hK hP hD ht hW⟩, hS.F ht⟩) hS.2.2 d_Mod_isHead_24
def d_Mod_isRight (N : Nat) (x1 : Int32) (m_size : Int32) (m_bytes : Nat → Int32) : Option (Int32) :=
 gI (x1 + (2 : Int32)) 1200 (gI (x1 + (3 : Int32)) 1200 (gI (x1 + (4 : Int32)) 1200 (if (15 : Int32) < (m_bytes (x1 + (2 : Int32)).toNatClampNeg) then some (0 : Int32) else if (4 : Int32) < (m_bytes (x1 + (3 : Int32)).toNatClampNeg) then some (0 : Int32) else if (64 : Int32) < (m_bytes (x1 + (4 : Int32)).toNatClampNeg) then some (0 : Int32) else gI (x1 + (5 : Int32)) 1200 (if (m_bytes (x1 + (5 : Int32)).toNatClampNeg) = ((((((7 : Int32) * (m_bytes (x1 + (2 : Int32)).toNatClampNeg)) + ((31 : Int32) * (m_bytes (x1 + (3 : Int32)).toNatClampNeg))) + (m_bytes (x1 + (4 : Int32)).toNatClampNeg)) + (165 : Int32)) - (((((7 : Int32) * (m_bytes (x1 + (2 : Int32)).toNatClampNeg)) + ((31 : Int32) * (m_bytes (x1 + (3 : Int32)).toNatClampNeg))) + (m_bytes (x1 + (4 : Int32)).toNatClampNeg)) + (165 : Int32)) / (256 : Int32) * (256 : Int32)) then if m_size < ((x1 + (6 : Int32)) + (m_bytes (x1 + (4 : Int32)).toNatClampNeg)) then some (0 : Int32) else some (1 : Int32) else some (0 : Int32)))))
abbrev rm_Mod_isRight : Room := { frames := 0, cells := 0, slots := 0, locals := 0 }
set_option maxHeartbeats 4000000 in
set_option maxRecDepth 100000 in
theorem c_Mod_isRight (l : Launch) (dC : Nat → ClassId) (dI : Nat → Nat → Nat) (tt : Nat → Nat) (ad : Nat → Nat) (cs : Nat → ClassId) (sz N : Nat) (x1 : Int32) (m_thrown : Int32) (m_kind : Int32) (m_steps : Int32) (m_size : Int32) (m_ran : Int32) (m_parts : Int32) (m_taken : Int32) (m_lacked : Int32) (m_decodings : Int32) (m_failures : Int32) (m_at : Int32) (m_end : Int32) (m_many : Int32) (m_wrong : Int32) (m_bytes : Nat → Int32) (m_heads : Nat → Int32) (m_numbers : Nat → Int32) (m_codes : Nat → Int32) (m_sizes : Nat → Int32) (m_guessed : Nat → Int32) (m_results : Nat → Int32) (m_values : Nat → Int32) (m_states : Nat → Int32) (m_came : Nat → Int32) (m_boxes : Nat → Int32) (m_single : Nat → Int32) (m_rows : Nat → Int32) (out : Int32) (h : d_Mod_isRight N x1 m_size m_bytes = some out) :
    Met l y_Mod_isRight (w_Mod_isRight) rm_Mod_isRight (va_Pc [.ref (ad 0), .int x1] (PreW (dC, dI) [((cs 1), .int), ((cs 2), .int), ((cs 3), .int), ((cs 4), .int), ((cs 5), .int), ((cs 6), .boolean), ((cs 7), .int), ((cs 8), .int), ((cs 9), .int), ((cs 10), .int), ((cs 11), .int), ((cs 12), .int), ((cs 13), .int)] (x_Mod ad cs m_thrown m_kind m_steps m_size m_ran m_parts m_taken m_lacked m_decodings m_failures m_at m_end m_many m_wrong m_bytes m_heads m_numbers m_codes m_sizes m_guessed m_results m_values m_states m_came m_boxes m_single m_rows) sz tt)) (va_Qi (fun (r : Int32) (_ : Unit) => r = out) (fun _ => AftW (dC, dI) [((cs 1), .int), ((cs 2), .int), ((cs 3), .int), ((cs 4), .int), ((cs 5), .int), ((cs 6), .boolean), ((cs 7), .int), ((cs 8), .int), ((cs 9), .int), ((cs 10), .int), ((cs 11), .int), ((cs 12), .int), ((cs 13), .int)] (va_A (x_Mod ad cs m_thrown m_kind m_steps m_size m_ran m_parts m_taken m_lacked m_decodings m_failures m_at m_end m_many m_wrong m_bytes m_heads m_numbers m_codes m_sizes m_guessed m_results m_values m_states m_came m_boxes m_single m_rows) sz) (x_Mod ad cs m_thrown m_kind m_steps m_size m_ran m_parts m_taken m_lacked m_decodings m_failures m_at m_end m_many m_wrong m_bytes m_heads m_numbers m_codes m_sizes m_guessed m_results m_values m_states m_came m_boxes m_single m_rows)) (va_A (x_Mod ad cs m_thrown m_kind m_steps m_size m_ran m_parts m_taken m_lacked m_decodings m_failures m_at m_end m_many m_wrong m_bytes m_heads m_numbers m_codes m_sizes m_guessed m_results m_values m_states m_came m_boxes m_single m_rows) sz)) 0 0 (va_A (x_Mod ad cs m_thrown m_kind m_steps m_size m_ran m_parts m_taken m_lacked m_decodings m_failures m_at m_end m_many m_wrong m_bytes m_heads m_numbers m_codes m_sizes m_guessed m_results m_values m_states m_came m_boxes m_single m_rows) sz) := by
  refine Met.ofW (cc := k_Mod_isRight) (maxL := 6) (ret := (some .boolean)) (by decide) rfl ?_
  intro p e s m args below meth c s₁ B hml hv
  obtain ⟨rfl, hsz, hP, hK, hD0, hG⟩ := hv
  have hx := B.exec
  have hb := B.bytes
  have hr := B.returns
  have hts := atoms_spec (ws := (w_Mod_isRight)) B.pre
  have hB : ∀ w ∈ BIG, w.before _ s = true := fun w h9 => hts w (List.mem_cons_of_mem _ h9)
  have hown : s.vm.findClass R_Mod = some m.cls := findClass_of_methodNamed B.named
  have hlocks := B.notSynchronized
  subst hsz
  have hD := hD0.self (sz := s.heap.size)
  generalize hAe : va_A (x_Mod ad cs m_thrown m_kind m_steps m_size m_ran m_parts m_taken m_lacked m_decodings m_failures m_at m_end m_many m_wrong m_bytes m_heads m_numbers m_codes m_sizes m_guessed m_results m_values m_states m_came m_boxes m_single m_rows) s.heap.size = A at hD hG ⊢
  have hA : ∀ q : Nat, s.heap.size ≤ q → A q := fun q h => by rw [← hAe]; exact Or.inr h
  have hS : va_S A s.heap s.heap [] := va_S.rf
  have hl := lv_entry ([.ref (ad 0), .int x1]) (n := 6) (Nat.le_of_ble_eq_true rfl)
  rw [lg_entry_eq]
  generalize (lg_sl ([.ref (ad 0), .int x1]) ++ List.replicate (6 - (lg_sl ([.ref (ad 0), .int x1])).length) Slot.unset).toArray = ls at hl ⊢
  have hl : lv_has ls 6 [(0, .ref (ad 0)), (1, .int x1)] := hl
  unfold d_Mod_isRight at h
  refine lv_aload_n hx hb d_Mod_isRight_0 rfl (lv_at hl 0 rfl) ?_
  refine va_get (D := (dC, dI)) (ci := 4) (v := .ref (ad 1)) (C := R_Mod) (T := T_Mod) (N := 27) hx hb hB in_Mod hown hK hP 0 rfl rfl 3 (by decide) (hB _ wd_223) (fun _ h9 => h9) rfl d_Mod_isRight_1 ?_
  refine lv_iload_n hx hb d_Mod_isRight_4 rfl (lv_at hl 1 rfl) ?_
  refine lv_iconst (v := 2) hx hb d_Mod_isRight_5 (by decide) ?_
  refine lv_iadd hx hb d_Mod_isRight_6 ?_
  obtain ⟨b_1, h⟩ := gI_some h
  refine va_iald hx hb hK hP 1 0 rfl rfl b_1 d_Mod_isRight_7 ?_
  refine lv_istore_n (lv' := [(2, .int (m_bytes (x1 + (2 : Int32)).toNatClampNeg)), (0, .ref (ad 0)), (1, .int x1)]) hx hb d_Mod_isRight_8 rfl hl (by decide) rfl (fun ls hl => ?_)
  refine lv_aload_n hx hb d_Mod_isRight_9 rfl (lv_at hl 1 rfl) ?_
  refine va_get (D := (dC, dI)) (ci := 4) (v := .ref (ad 1)) (C := R_Mod) (T := T_Mod) (N := 27) hx hb hB in_Mod hown hK hP 0 rfl rfl 3 (by decide) (hB _ wd_223) (fun _ h9 => h9) rfl d_Mod_isRight_10 ?_
  refine lv_iload_n hx hb d_Mod_isRight_13 rfl (lv_at hl 2 rfl) ?_
  refine lv_iconst (v := 3) hx hb d_Mod_isRight_14 (by decide) ?_
  refine lv_iadd hx hb d_Mod_isRight_15 ?_
  obtain ⟨b_2, h⟩ := gI_some h
  refine va_iald hx hb hK hP 1 0 rfl rfl b_2 d_Mod_isRight_16 ?_
  refine lv_istore_n (lv' := [(3, .int (m_bytes (x1 + (3 : Int32)).toNatClampNeg)), (2, .int (m_bytes (x1 + (2 : Int32)).toNatClampNeg)), (0, .ref (ad 0)), (1, .int x1)]) hx hb d_Mod_isRight_17 rfl hl (by decide) rfl (fun ls hl => ?_)
  refine lv_aload_n hx hb d_Mod_isRight_18 rfl (lv_at hl 2 rfl) ?_
  refine va_get (D := (dC, dI)) (ci := 4) (v := .ref (ad 1)) (C := R_Mod) (T := T_Mod) (N := 27) hx hb hB in_Mod hown hK hP 0 rfl rfl 3 (by decide) (hB _ wd_223) (fun _ h9 => h9) rfl d_Mod_isRight_19 ?_
  refine lv_iload_n hx hb d_Mod_isRight_22 rfl (lv_at hl 3 rfl) ?_
  refine lv_iconst (v := 4) hx hb d_Mod_isRight_23 (by decide) ?_
  refine lv_iadd hx hb d_Mod_isRight_24 ?_
  obtain ⟨b_3, h⟩ := gI_some h
  refine va_iald hx hb hK hP 1 0 rfl rfl b_3 d_Mod_isRight_25 ?_
  refine lv_istore (lv' := [(4, .int (m_bytes (x1 + (4 : Int32)).toNatClampNeg)), (3, .int (m_bytes (x1 + (3 : Int32)).toNatClampNeg)), (2, .int (m_bytes (x1 + (2 : Int32)).toNatClampNeg)), (0, .ref (ad 0)), (1, .int x1)]) hx hb d_Mod_isRight_26 hl (by decide) rfl (fun ls hl => ?_)
  refine lv_iload_n hx hb d_Mod_isRight_28 rfl (lv_at hl 2 rfl) ?_
  refine lv_bipush (v := 15) hx hb d_Mod_isRight_29 (by decide) ?_
  refine lv_icmp_gt (tgt := 50) hx hb d_Mod_isRight_31 (by decide) (fun c_4 => ?_) (fun c_4 => ?_)
  · have h := (if_pos c_4).symm.trans h
    refine lv_iconst (v := 0) hx hb d_Mod_isRight_50 (by decide) ?_
    refine lv_istore (lv' := [(5, .int (0 : Int32)), (4, .int (m_bytes (x1 + (4 : Int32)).toNatClampNeg)), (3, .int (m_bytes (x1 + (3 : Int32)).toNatClampNeg)), (2, .int (m_bytes (x1 + (2 : Int32)).toNatClampNeg)), (0, .ref (ad 0)), (1, .int x1)]) hx hb d_Mod_isRight_51 hl (by decide) rfl (fun ls hl => ?_)
    refine lv_iload hx hb d_Mod_isRight_53 (lv_at hl 0 rfl) ?_
    refine lv_if_eq (tgt := 107) hx hb d_Mod_isRight_55 (by decide) (fun _ => ?_) (fun c9 => absurd c9 (by decide))
    refine lv_iconst (v := 0) hx hb d_Mod_isRight_107 (by decide) ?_
    have h := Option.some.inj h
    subst h
    exact W.zret hx hb hr rfl (fun t ht hW => ⟨⟨_, (), rfl, rfl, AftW_mk hK hP hD ht hW⟩, hS.F ht⟩) hS.2.2 d_Mod_isRight_108
  · have h := (if_neg c_4).symm.trans h
    refine lv_iload_n hx hb d_Mod_isRight_34 rfl (lv_at hl 1 rfl) ?_
    refine lv_iconst (v := 4) hx hb d_Mod_isRight_35 (by decide) ?_
    refine lv_icmp_gt (tgt := 50) hx hb d_Mod_isRight_36 (by decide) (fun c_6 => ?_) (fun c_6 => ?_)
    · have h := (if_pos c_6).symm.trans h
      refine lv_iconst (v := 0) hx hb d_Mod_isRight_50 (by decide) ?_
      refine lv_istore (lv' := [(5, .int (0 : Int32)), (4, .int (m_bytes (x1 + (4 : Int32)).toNatClampNeg)), (3, .int (m_bytes (x1 + (3 : Int32)).toNatClampNeg)), (2, .int (m_bytes (x1 + (2 : Int32)).toNatClampNeg)), (0, .ref (ad 0)), (1, .int x1)]) hx hb d_Mod_isRight_51 hl (by decide) rfl (fun ls hl => ?_)
      refine lv_iload hx hb d_Mod_isRight_53 (lv_at hl 0 rfl) ?_
      refine lv_if_eq (tgt := 107) hx hb d_Mod_isRight_55 (by decide) (fun _ => ?_) (fun c9 => absurd c9 (by decide))
      refine lv_iconst (v := 0) hx hb d_Mod_isRight_107 (by decide) ?_
      have h := Option.some.inj h
      subst h
      exact W.zret hx hb hr rfl (fun t ht hW => ⟨⟨_, (), rfl, rfl, AftW_mk hK hP hD ht hW⟩, hS.F ht⟩) hS.2.2 d_Mod_isRight_108
    · have h := (if_neg c_6).symm.trans h
      refine lv_iload hx hb d_Mod_isRight_39 (lv_at hl 0 rfl) ?_
      refine lv_bipush (v := 64) hx hb d_Mod_isRight_41 (by decide) ?_
      refine lv_icmp_gt (tgt := 50) hx hb d_Mod_isRight_43 (by decide) (fun c_8 => ?_) (fun c_8 => ?_)
      · have h := (if_pos c_8).symm.trans h
        refine lv_iconst (v := 0) hx hb d_Mod_isRight_50 (by decide) ?_
        refine lv_istore (lv' := [(5, .int (0 : Int32)), (4, .int (m_bytes (x1 + (4 : Int32)).toNatClampNeg)), (3, .int (m_bytes (x1 + (3 : Int32)).toNatClampNeg)), (2, .int (m_bytes (x1 + (2 : Int32)).toNatClampNeg)), (0, .ref (ad 0)), (1, .int x1)]) hx hb d_Mod_isRight_51 hl (by decide) rfl (fun ls hl => ?_)
        refine lv_iload hx hb d_Mod_isRight_53 (lv_at hl 0 rfl) ?_
        refine lv_if_eq (tgt := 107) hx hb d_Mod_isRight_55 (by decide) (fun _ => ?_) (fun c9 => absurd c9 (by decide))
        refine lv_iconst (v := 0) hx hb d_Mod_isRight_107 (by decide) ?_
        have h := Option.some.inj h
        subst h
        exact W.zret hx hb hr rfl (fun t ht hW => ⟨⟨_, (), rfl, rfl, AftW_mk hK hP hD ht hW⟩, hS.F ht⟩) hS.2.2 d_Mod_isRight_108
      · have h := (if_neg c_8).symm.trans h
        refine lv_iconst (v := 1) hx hb d_Mod_isRight_46 (by decide) ?_
        refine lv_goto (tgt := 51) hx hb d_Mod_isRight_47 (by decide) ?_
        refine lv_istore (lv' := [(5, .int (1 : Int32)), (4, .int (m_bytes (x1 + (4 : Int32)).toNatClampNeg)), (3, .int (m_bytes (x1 + (3 : Int32)).toNatClampNeg)), (2, .int (m_bytes (x1 + (2 : Int32)).toNatClampNeg)), (0, .ref (ad 0)), (1, .int x1)]) hx hb d_Mod_isRight_51 hl (by decide) rfl (fun ls hl => ?_)
        refine lv_iload hx hb d_Mod_isRight_53 (lv_at hl 0 rfl) ?_
        refine lv_if_eq (tgt := 107) hx hb d_Mod_isRight_55 (by decide) (fun c9 => absurd c9 (by decide)) (fun _ => ?_)
        refine lv_aload_n hx hb d_Mod_isRight_58 rfl (lv_at hl 4 rfl) ?_
        refine va_get (D := (dC, dI)) (ci := 4) (v := .ref (ad 1)) (C := R_Mod) (T := T_Mod) (N := 27) hx hb hB in_Mod hown hK hP 0 rfl rfl 3 (by decide) (hB _ wd_223) (fun _ h9 => h9) rfl d_Mod_isRight_59 ?_
        refine lv_iload_n hx hb d_Mod_isRight_62 rfl (lv_at hl 5 rfl) ?_
        refine lv_iconst (v := 5) hx hb d_Mod_isRight_63 (by decide) ?_
        refine lv_iadd hx hb d_Mod_isRight_64 ?_
        obtain ⟨b_11, h⟩ := gI_some h
        refine va_iald hx hb hK hP 1 0 rfl rfl b_11 d_Mod_isRight_65 ?_
        refine lv_bipush (v := 7) hx hb d_Mod_isRight_66 (by decide) ?_
        refine lv_iload_n hx hb d_Mod_isRight_68 rfl (lv_at hl 3 rfl) ?_
        refine lv_imul hx hb d_Mod_isRight_69 ?_
        refine lv_bipush (v := 31) hx hb d_Mod_isRight_70 (by decide) ?_
        refine lv_iload_n hx hb d_Mod_isRight_72 rfl (lv_at hl 2 rfl) ?_
        refine lv_imul hx hb d_Mod_isRight_73 ?_
        refine lv_iadd hx hb d_Mod_isRight_74 ?_
        refine lv_iload hx hb d_Mod_isRight_75 (lv_at hl 1 rfl) ?_
        refine lv_iadd hx hb d_Mod_isRight_77 ?_
        refine lv_sipush (v := 165) hx hb d_Mod_isRight_78 (by decide) ?_
        refine lv_iadd hx hb d_Mod_isRight_81 ?_
        refine lv_sipush (v := 256) hx hb d_Mod_isRight_82 (by decide) ?_
        refine lv_irem hx hb d_Mod_isRight_85 (by decide) ?_
        refine lv_icmp_ne (tgt := 107) hx hb d_Mod_isRight_86 (by decide) (fun c_12 => ?_) (fun c_12 => ?_)
        · have h := (if_neg c_12).symm.trans h
          refine lv_iconst (v := 0) hx hb d_Mod_isRight_107 (by decide) ?_
          have h := Option.some.inj h
          subst h
          exact W.zret hx hb hr rfl (fun t ht hW => ⟨⟨_, (), rfl, rfl, AftW_mk hK hP hD ht hW⟩, hS.F ht⟩) hS.2.2 d_Mod_isRight_108
        · have h := (if_pos c_12).symm.trans h
          refine lv_iload_n hx hb d_Mod_isRight_89 rfl (lv_at hl 5 rfl) ?_
          refine lv_bipush (v := 6) hx hb d_Mod_isRight_90 (by decide) ?_
          refine lv_iadd hx hb d_Mod_isRight_92 ?_
          refine lv_iload hx hb d_Mod_isRight_93 (lv_at hl 1 rfl) ?_
          refine lv_iadd hx hb d_Mod_isRight_95 ?_
          refine lv_aload_n hx hb d_Mod_isRight_96 rfl (lv_at hl 4 rfl) ?_
          refine va_get (D := (dC, dI)) (ci := 4) (v := .int m_size) (C := R_Mod) (T := T_Mod) (N := 27) hx hb hB in_Mod hown hK hP 0 rfl rfl 4 (by decide) (hB _ wd_222) (fun _ h9 => h9) rfl d_Mod_isRight_97 ?_
          refine lv_icmp_gt (tgt := 107) hx hb d_Mod_isRight_100 (by decide) (fun c_13 => ?_) (fun c_13 => ?_)
          · have h := (if_pos c_13).symm.trans h
            refine lv_iconst (v := 0) hx hb d_Mod_isRight_107 (by decide) ?_
            have h := Option.some.inj h
            subst h
            exact W.zret hx hb hr rfl (fun t ht hW => ⟨⟨_, (), rfl, rfl, AftW_mk hK hP hD ht hW⟩, hS.F ht⟩) hS.2.2 d_Mod_isRight_108
          · have h := (if_neg c_13).symm.trans h
            refine lv_iconst (v := 1) hx hb d_Mod_isRight_103 (by decide) ?_
            refine lv_goto (tgt := 108) hx hb d_Mod_isRight_104 (by decide) ?_
            have h := Option.some.inj h
            subst h
            exact W.zret hx hb hr rfl (fun t ht hW => ⟨⟨_, (), rfl, rfl, AftW_mk hK hP hD ht hW⟩, hS.F ht⟩) hS.2.2 d_Mod_isRight_108
def d_Mod_add (N : Nat) (x1 : Int32) (x2 : Int32) (x3 : Int32) (x4 : Int32) (x5 : Int32) (m_parts : Int32) (m_heads : Nat → Int32) (m_numbers : Nat → Int32) (m_codes : Nat → Int32) (m_sizes : Nat → Int32) (m_guessed : Nat → Int32) (m_results : Nat → Int32) : Option (Int32 × (Nat → Int32) × (Nat → Int32) × (Nat → Int32) × (Nat → Int32) × (Nat → Int32) × (Nat → Int32)) :=
 gI m_parts 16 (some (m_parts + (1 : Int32), upd m_heads m_parts.toNatClampNeg x1, upd m_numbers m_parts.toNatClampNeg x2, upd m_codes m_parts.toNatClampNeg x3, upd m_sizes m_parts.toNatClampNeg x4, upd m_guessed m_parts.toNatClampNeg (vp_nar .boolean x5), upd m_results m_parts.toNatClampNeg (-1 : Int32)))
abbrev rm_Mod_add : Room := { frames := 0, cells := 0, slots := 0, locals := 0 }
set_option maxHeartbeats 4000000 in
set_option maxRecDepth 100000 in
theorem c_Mod_add (l : Launch) (dC : Nat → ClassId) (dI : Nat → Nat → Nat) (tt : Nat → Nat) (ad : Nat → Nat) (cs : Nat → ClassId) (sz N : Nat) (x1 : Int32) (x2 : Int32) (x3 : Int32) (x4 : Int32) (x5 : Int32) (m_thrown : Int32) (m_kind : Int32) (m_steps : Int32) (m_size : Int32) (m_ran : Int32) (m_parts : Int32) (m_taken : Int32) (m_lacked : Int32) (m_decodings : Int32) (m_failures : Int32) (m_at : Int32) (m_end : Int32) (m_many : Int32) (m_wrong : Int32) (m_bytes : Nat → Int32) (m_heads : Nat → Int32) (m_numbers : Nat → Int32) (m_codes : Nat → Int32) (m_sizes : Nat → Int32) (m_guessed : Nat → Int32) (m_results : Nat → Int32) (m_values : Nat → Int32) (m_states : Nat → Int32) (m_came : Nat → Int32) (m_boxes : Nat → Int32) (m_single : Nat → Int32) (m_rows : Nat → Int32) (out : Int32 × (Nat → Int32) × (Nat → Int32) × (Nat → Int32) × (Nat → Int32) × (Nat → Int32) × (Nat → Int32)) (h : d_Mod_add N x1 x2 x3 x4 x5 m_parts m_heads m_numbers m_codes m_sizes m_guessed m_results = some out) :
    Met l y_Mod_add (w_Mod_add) rm_Mod_add (va_Pc [.ref (ad 0), .int x1, .int x2, .int x3, .int x4, .int x5] (PreW (dC, dI) [((cs 1), .int), ((cs 2), .int), ((cs 3), .int), ((cs 4), .int), ((cs 5), .int), ((cs 6), .boolean), ((cs 7), .int), ((cs 8), .int), ((cs 9), .int), ((cs 10), .int), ((cs 11), .int), ((cs 12), .int), ((cs 13), .int)] (x_Mod ad cs m_thrown m_kind m_steps m_size m_ran m_parts m_taken m_lacked m_decodings m_failures m_at m_end m_many m_wrong m_bytes m_heads m_numbers m_codes m_sizes m_guessed m_results m_values m_states m_came m_boxes m_single m_rows) sz tt)) (va_Qv (fun (_ : Unit) => True) (fun _ => AftW (dC, dI) [((cs 1), .int), ((cs 2), .int), ((cs 3), .int), ((cs 4), .int), ((cs 5), .int), ((cs 6), .boolean), ((cs 7), .int), ((cs 8), .int), ((cs 9), .int), ((cs 10), .int), ((cs 11), .int), ((cs 12), .int), ((cs 13), .int)] (va_A (x_Mod ad cs m_thrown m_kind m_steps m_size m_ran m_parts m_taken m_lacked m_decodings m_failures m_at m_end m_many m_wrong m_bytes m_heads m_numbers m_codes m_sizes m_guessed m_results m_values m_states m_came m_boxes m_single m_rows) sz) (x_Mod ad cs m_thrown m_kind m_steps m_size m_ran out.1 m_taken m_lacked m_decodings m_failures m_at m_end m_many m_wrong m_bytes out.2.1 out.2.2.1 out.2.2.2.1 out.2.2.2.2.1 out.2.2.2.2.2.1 out.2.2.2.2.2.2 m_values m_states m_came m_boxes m_single m_rows)) (va_A (x_Mod ad cs m_thrown m_kind m_steps m_size m_ran m_parts m_taken m_lacked m_decodings m_failures m_at m_end m_many m_wrong m_bytes m_heads m_numbers m_codes m_sizes m_guessed m_results m_values m_states m_came m_boxes m_single m_rows) sz)) 0 0 (va_A (x_Mod ad cs m_thrown m_kind m_steps m_size m_ran m_parts m_taken m_lacked m_decodings m_failures m_at m_end m_many m_wrong m_bytes m_heads m_numbers m_codes m_sizes m_guessed m_results m_values m_states m_came m_boxes m_single m_rows) sz) := by
  refine Met.ofW (cc := k_Mod_add) (maxL := 6) (ret := none) (by decide) rfl ?_
  intro p e s m args below meth c s₁ B hml hv
  obtain ⟨rfl, hsz, hP, hK, hD0, hG⟩ := hv
  have hx := B.exec
  have hb := B.bytes
  have hr := B.returns
  have hts := atoms_spec (ws := (w_Mod_add)) B.pre
  have hB : ∀ w ∈ BIG, w.before _ s = true := fun w h9 => hts w (List.mem_cons_of_mem _ h9)
  have hown : s.vm.findClass R_Mod = some m.cls := findClass_of_methodNamed B.named
  have hlocks := B.notSynchronized
  subst hsz
  have hD := hD0.self (sz := s.heap.size)
  generalize hAe : va_A (x_Mod ad cs m_thrown m_kind m_steps m_size m_ran m_parts m_taken m_lacked m_decodings m_failures m_at m_end m_many m_wrong m_bytes m_heads m_numbers m_codes m_sizes m_guessed m_results m_values m_states m_came m_boxes m_single m_rows) s.heap.size = A at hD hG ⊢
  have hA : ∀ q : Nat, s.heap.size ≤ q → A q := fun q h => by rw [← hAe]; exact Or.inr h
  have hS : va_S A s.heap s.heap [] := va_S.rf
  have hl := lv_entry ([.ref (ad 0), .int x1, .int x2, .int x3, .int x4, .int x5]) (n := 6) (Nat.le_of_ble_eq_true rfl)
  rw [lg_entry_eq]
  generalize (lg_sl ([.ref (ad 0), .int x1, .int x2, .int x3, .int x4, .int x5]) ++ List.replicate (6 - (lg_sl ([.ref (ad 0), .int x1, .int x2, .int x3, .int x4, .int x5])).length) Slot.unset).toArray = ls at hl ⊢
  have hl : lv_has ls 6 [(0, .ref (ad 0)), (1, .int x1), (2, .int x2), (3, .int x3), (4, .int x4), (5, .int x5)] := hl
  unfold d_Mod_add at h
  refine lv_aload_n hx hb d_Mod_add_0 rfl (lv_at hl 0 rfl) ?_
  refine va_get (D := (dC, dI)) (ci := 4) (v := .ref (ad 2)) (C := R_Mod) (T := T_Mod) (N := 27) hx hb hB in_Mod hown hK hP 0 rfl rfl 7 (by decide) (hB _ wd_229) (fun _ h9 => h9) rfl d_Mod_add_1 ?_
  refine lv_aload_n hx hb d_Mod_add_4 rfl (lv_at hl 0 rfl) ?_
  refine va_get (D := (dC, dI)) (ci := 4) (v := .int m_parts) (C := R_Mod) (T := T_Mod) (N := 27) hx hb hB in_Mod hown hK hP 0 rfl rfl 6 (by decide) (hB _ wd_220) (fun _ h9 => h9) rfl d_Mod_add_5 ?_
  refine lv_iload_n hx hb d_Mod_add_8 rfl (lv_at hl 1 rfl) ?_
  obtain ⟨b_1, h⟩ := gI_some h
  refine va_iast hx hb hK hP hD hS 2 1 rfl rfl b_1 d_Mod_add_9 (fun H locs hP hD hS => ?_)
  have hP : va_P (dC, dI) vwCl (x_Mod ad cs m_thrown m_kind m_steps m_size m_ran m_parts m_taken m_lacked m_decodings m_failures m_at m_end m_many m_wrong m_bytes (upd m_heads m_parts.toNatClampNeg x1) m_numbers m_codes m_sizes m_guessed m_results m_values m_states m_came m_boxes m_single m_rows) H := hP
  have hD : va_D A (x_Mod ad cs m_thrown m_kind m_steps m_size m_ran m_parts m_taken m_lacked m_decodings m_failures m_at m_end m_many m_wrong m_bytes (upd m_heads m_parts.toNatClampNeg x1) m_numbers m_codes m_sizes m_guessed m_results m_values m_states m_came m_boxes m_single m_rows) := hD
  refine lv_aload_n hx hb d_Mod_add_10 rfl (lv_at hl 0 rfl) ?_
  refine va_get (D := (dC, dI)) (ci := 4) (v := .ref (ad 3)) (C := R_Mod) (T := T_Mod) (N := 27) hx hb hB in_Mod hown hK hP 0 rfl rfl 8 (by decide) (hB _ wd_230) (fun _ h9 => h9) rfl d_Mod_add_11 ?_
  refine lv_aload_n hx hb d_Mod_add_14 rfl (lv_at hl 0 rfl) ?_
  refine va_get (D := (dC, dI)) (ci := 4) (v := .int m_parts) (C := R_Mod) (T := T_Mod) (N := 27) hx hb hB in_Mod hown hK hP 0 rfl rfl 6 (by decide) (hB _ wd_220) (fun _ h9 => h9) rfl d_Mod_add_15 ?_
  refine lv_iload_n hx hb d_Mod_add_18 rfl (lv_at hl 2 rfl) ?_
  refine va_iast hx hb hK hP hD hS 3 2 rfl rfl b_1 d_Mod_add_19 (fun H locs hP hD hS => ?_)
  have hP : va_P (dC, dI) vwCl (x_Mod ad cs m_thrown m_kind m_steps m_size m_ran m_parts m_taken m_lacked m_decodings m_failures m_at m_end m_many m_wrong m_bytes (upd m_heads m_parts.toNatClampNeg x1) (upd m_numbers m_parts.toNatClampNeg x2) m_codes m_sizes m_guessed m_results m_values m_states m_came m_boxes m_single m_rows) H := hP
  have hD : va_D A (x_Mod ad cs m_thrown m_kind m_steps m_size m_ran m_parts m_taken m_lacked m_decodings m_failures m_at m_end m_many m_wrong m_bytes (upd m_heads m_parts.toNatClampNeg x1) (upd m_numbers m_parts.toNatClampNeg x2) m_codes m_sizes m_guessed m_results m_values m_states m_came m_boxes m_single m_rows) := hD
  refine lv_aload_n hx hb d_Mod_add_20 rfl (lv_at hl 0 rfl) ?_
  refine va_get (D := (dC, dI)) (ci := 4) (v := .ref (ad 4)) (C := R_Mod) (T := T_Mod) (N := 27) hx hb hB in_Mod hown hK hP 0 rfl rfl 9 (by decide) (hB _ wd_231) (fun _ h9 => h9) rfl d_Mod_add_21 ?_
  refine lv_aload_n hx hb d_Mod_add_24 rfl (lv_at hl 0 rfl) ?_
  refine va_get (D := (dC, dI)) (ci := 4) (v := .int m_parts) (C := R_Mod) (T := T_Mod) (N := 27) hx hb hB in_Mod hown hK hP 0 rfl rfl 6 (by decide) (hB _ wd_220) (fun _ h9 => h9) rfl d_Mod_add_25 ?_
  refine lv_iload_n hx hb d_Mod_add_28 rfl (lv_at hl 3 rfl) ?_
  refine va_iast hx hb hK hP hD hS 4 3 rfl rfl b_1 d_Mod_add_29 (fun H locs hP hD hS => ?_)
  have hP : va_P (dC, dI) vwCl (x_Mod ad cs m_thrown m_kind m_steps m_size m_ran m_parts m_taken m_lacked m_decodings m_failures m_at m_end m_many m_wrong m_bytes (upd m_heads m_parts.toNatClampNeg x1) (upd m_numbers m_parts.toNatClampNeg x2) (upd m_codes m_parts.toNatClampNeg x3) m_sizes m_guessed m_results m_values m_states m_came m_boxes m_single m_rows) H := hP
  have hD : va_D A (x_Mod ad cs m_thrown m_kind m_steps m_size m_ran m_parts m_taken m_lacked m_decodings m_failures m_at m_end m_many m_wrong m_bytes (upd m_heads m_parts.toNatClampNeg x1) (upd m_numbers m_parts.toNatClampNeg x2) (upd m_codes m_parts.toNatClampNeg x3) m_sizes m_guessed m_results m_values m_states m_came m_boxes m_single m_rows) := hD
  refine lv_aload_n hx hb d_Mod_add_30 rfl (lv_at hl 0 rfl) ?_
  refine va_get (D := (dC, dI)) (ci := 4) (v := .ref (ad 5)) (C := R_Mod) (T := T_Mod) (N := 27) hx hb hB in_Mod hown hK hP 0 rfl rfl 10 (by decide) (hB _ wd_232) (fun _ h9 => h9) rfl d_Mod_add_31 ?_
  refine lv_aload_n hx hb d_Mod_add_34 rfl (lv_at hl 0 rfl) ?_
  refine va_get (D := (dC, dI)) (ci := 4) (v := .int m_parts) (C := R_Mod) (T := T_Mod) (N := 27) hx hb hB in_Mod hown hK hP 0 rfl rfl 6 (by decide) (hB _ wd_220) (fun _ h9 => h9) rfl d_Mod_add_35 ?_
  refine lv_iload hx hb d_Mod_add_38 (lv_at hl 4 rfl) ?_
  refine va_iast hx hb hK hP hD hS 5 4 rfl rfl b_1 d_Mod_add_40 (fun H locs hP hD hS => ?_)
  have hP : va_P (dC, dI) vwCl (x_Mod ad cs m_thrown m_kind m_steps m_size m_ran m_parts m_taken m_lacked m_decodings m_failures m_at m_end m_many m_wrong m_bytes (upd m_heads m_parts.toNatClampNeg x1) (upd m_numbers m_parts.toNatClampNeg x2) (upd m_codes m_parts.toNatClampNeg x3) (upd m_sizes m_parts.toNatClampNeg x4) m_guessed m_results m_values m_states m_came m_boxes m_single m_rows) H := hP
  have hD : va_D A (x_Mod ad cs m_thrown m_kind m_steps m_size m_ran m_parts m_taken m_lacked m_decodings m_failures m_at m_end m_many m_wrong m_bytes (upd m_heads m_parts.toNatClampNeg x1) (upd m_numbers m_parts.toNatClampNeg x2) (upd m_codes m_parts.toNatClampNeg x3) (upd m_sizes m_parts.toNatClampNeg x4) m_guessed m_results m_values m_states m_came m_boxes m_single m_rows) := hD
  refine lv_aload_n hx hb d_Mod_add_41 rfl (lv_at hl 0 rfl) ?_
  refine va_get (D := (dC, dI)) (ci := 4) (v := .ref (ad 6)) (C := R_Mod) (T := T_Mod) (N := 27) hx hb hB in_Mod hown hK hP 0 rfl rfl 11 (by decide) (hB _ wd_233) (fun _ h9 => h9) rfl d_Mod_add_42 ?_
  refine lv_aload_n hx hb d_Mod_add_45 rfl (lv_at hl 0 rfl) ?_
  refine va_get (D := (dC, dI)) (ci := 4) (v := .int m_parts) (C := R_Mod) (T := T_Mod) (N := 27) hx hb hB in_Mod hown hK hP 0 rfl rfl 6 (by decide) (hB _ wd_220) (fun _ h9 => h9) rfl d_Mod_add_46 ?_
  refine lv_iload hx hb d_Mod_add_49 (lv_at hl 5 rfl) ?_
  refine va_zast hx hb hK hP hD hS 6 5 rfl rfl b_1 d_Mod_add_51 (fun H locs hP hD hS => ?_)
  have hP : va_P (dC, dI) vwCl (x_Mod ad cs m_thrown m_kind m_steps m_size m_ran m_parts m_taken m_lacked m_decodings m_failures m_at m_end m_many m_wrong m_bytes (upd m_heads m_parts.toNatClampNeg x1) (upd m_numbers m_parts.toNatClampNeg x2) (upd m_codes m_parts.toNatClampNeg x3) (upd m_sizes m_parts.toNatClampNeg x4) (upd m_guessed m_parts.toNatClampNeg (vp_nar .boolean x5)) m_results m_values m_states m_came m_boxes m_single m_rows) H := hP
  have hD : va_D A (x_Mod ad cs m_thrown m_kind m_steps m_size m_ran m_parts m_taken m_lacked m_decodings m_failures m_at m_end m_many m_wrong m_bytes (upd m_heads m_parts.toNatClampNeg x1) (upd m_numbers m_parts.toNatClampNeg x2) (upd m_codes m_parts.toNatClampNeg x3) (upd m_sizes m_parts.toNatClampNeg x4) (upd m_guessed m_parts.toNatClampNeg (vp_nar .boolean x5)) m_results m_values m_states m_came m_boxes m_single m_rows) := hD
  refine lv_aload_n hx hb d_Mod_add_52 rfl (lv_at hl 0 rfl) ?_
  refine va_get (D := (dC, dI)) (ci := 4) (v := .ref (ad 7)) (C := R_Mod) (T := T_Mod) (N := 27) hx hb hB in_Mod hown hK hP 0 rfl rfl 12 (by decide) (hB _ wd_234) (fun _ h9 => h9) rfl d_Mod_add_53 ?_
  refine lv_aload_n hx hb d_Mod_add_56 rfl (lv_at hl 0 rfl) ?_
  refine va_get (D := (dC, dI)) (ci := 4) (v := .int m_parts) (C := R_Mod) (T := T_Mod) (N := 27) hx hb hB in_Mod hown hK hP 0 rfl rfl 6 (by decide) (hB _ wd_220) (fun _ h9 => h9) rfl d_Mod_add_57 ?_
  refine lv_iconst (v := (-1)) hx hb d_Mod_add_60 (by decide) ?_
  refine va_iast hx hb hK hP hD hS 7 6 rfl rfl b_1 d_Mod_add_61 (fun H locs hP hD hS => ?_)
  have hP : va_P (dC, dI) vwCl (x_Mod ad cs m_thrown m_kind m_steps m_size m_ran m_parts m_taken m_lacked m_decodings m_failures m_at m_end m_many m_wrong m_bytes (upd m_heads m_parts.toNatClampNeg x1) (upd m_numbers m_parts.toNatClampNeg x2) (upd m_codes m_parts.toNatClampNeg x3) (upd m_sizes m_parts.toNatClampNeg x4) (upd m_guessed m_parts.toNatClampNeg (vp_nar .boolean x5)) (upd m_results m_parts.toNatClampNeg (-1 : Int32)) m_values m_states m_came m_boxes m_single m_rows) H := hP
  have hD : va_D A (x_Mod ad cs m_thrown m_kind m_steps m_size m_ran m_parts m_taken m_lacked m_decodings m_failures m_at m_end m_many m_wrong m_bytes (upd m_heads m_parts.toNatClampNeg x1) (upd m_numbers m_parts.toNatClampNeg x2) (upd m_codes m_parts.toNatClampNeg x3) (upd m_sizes m_parts.toNatClampNeg x4) (upd m_guessed m_parts.toNatClampNeg (vp_nar .boolean x5)) (upd m_results m_parts.toNatClampNeg (-1 : Int32)) m_values m_states m_came m_boxes m_single m_rows) := hD
  refine lv_aload_n hx hb d_Mod_add_62 rfl (lv_at hl 0 rfl) ?_
  refine lv_dup hx hb d_Mod_add_63 rfl ?_
  refine va_get (D := (dC, dI)) (ci := 4) (v := .int m_parts) (C := R_Mod) (T := T_Mod) (N := 27) hx hb hB in_Mod hown hK hP 0 rfl rfl 6 (by decide) (hB _ wd_220) (fun _ h9 => h9) rfl d_Mod_add_64 ?_
  refine lv_iconst (v := 1) hx hb d_Mod_add_67 (by decide) ?_
  refine lv_iadd hx hb d_Mod_add_68 ?_
  refine va_put (D := (dC, dI)) (ci := 4) (v := .int (m_parts + (1 : Int32))) (ty := .int) (C := R_Mod) (T := T_Mod) (N := 27) hx hb hB in_Mod ty_Mod tyok_Mod nd_Mod hown hK hP hD hS 0 rfl rfl 6 (by decide) (hB _ wd_220) (fun _ h9 => h9) rfl (by decide +kernel) rfl rfl (Nat.le_of_ble_eq_true rfl) d_Mod_add_69 (fun H locs hP hD hS => ?_)
  have hP : va_P (dC, dI) vwCl (x_Mod ad cs m_thrown m_kind m_steps m_size m_ran (m_parts + (1 : Int32)) m_taken m_lacked m_decodings m_failures m_at m_end m_many m_wrong m_bytes (upd m_heads m_parts.toNatClampNeg x1) (upd m_numbers m_parts.toNatClampNeg x2) (upd m_codes m_parts.toNatClampNeg x3) (upd m_sizes m_parts.toNatClampNeg x4) (upd m_guessed m_parts.toNatClampNeg (vp_nar .boolean x5)) (upd m_results m_parts.toNatClampNeg (-1 : Int32)) m_values m_states m_came m_boxes m_single m_rows) H := hP
  have hD : va_D A (x_Mod ad cs m_thrown m_kind m_steps m_size m_ran (m_parts + (1 : Int32)) m_taken m_lacked m_decodings m_failures m_at m_end m_many m_wrong m_bytes (upd m_heads m_parts.toNatClampNeg x1) (upd m_numbers m_parts.toNatClampNeg x2) (upd m_codes m_parts.toNatClampNeg x3) (upd m_sizes m_parts.toNatClampNeg x4) (upd m_guessed m_parts.toNatClampNeg (vp_nar .boolean x5)) (upd m_results m_parts.toNatClampNeg (-1 : Int32)) m_values m_states m_came m_boxes m_single m_rows) := hD
  have h := Option.some.inj h
  subst h
  exact W.vret hx hb hr (fun t ht hW => ⟨⟨(), rfl, trivial, AftW_mk hK hP hD ht hW⟩, hS.F ht⟩) hS.2.2 d_Mod_add_72
def d_Mod_guess_L2 (N : Nat) (y2_1 : Int32) (m_kind : Int32) (m_steps : Int32) (m_size : Int32) (m_bytes : Nat → Int32) : Nat → Int32 → Int32 → Int32 → (Nat → Int32) → (Nat → Int32) → (Nat → Int32) → (Nat → Int32) → (Nat → Int32) → (Nat → Int32) → Option (Int32 × Int32 × Int32 × (Nat → Int32) × (Nat → Int32) × (Nat → Int32) × (Nat → Int32) × (Nat → Int32) × (Nat → Int32))
  | 0, _, _, _, _, _, _, _, _, _ => none
  | n + 1, y2_2, m_parts_2, m_taken_2, m_heads_2, m_numbers_2, m_codes_2, m_sizes_2, m_guessed_2, m_results_2 => if (64 : Int32) ≤ y2_2 then some (y2_2, m_parts_2, m_taken_2, m_heads_2, m_numbers_2, m_codes_2, m_sizes_2, m_guessed_2, m_results_2) else if m_steps ≤ m_taken_2 then some (y2_2, m_parts_2, m_taken_2, m_heads_2, m_numbers_2, m_codes_2, m_sizes_2, m_guessed_2, m_results_2) else if m_size ≤ ((y2_1 + (6 : Int32)) + y2_2) then some (y2_2, m_parts_2, m_taken_2, m_heads_2, m_numbers_2, m_codes_2, m_sizes_2, m_guessed_2, m_results_2) else (d_Mod_isMark N ((y2_1 + (6 : Int32)) + y2_2) m_kind m_size m_bytes).bind (fun o3004 => if o3004 = 0 then d_Mod_guess_L2 N y2_1 m_kind m_steps m_size m_bytes n (y2_2 + 1) m_parts_2 (m_taken_2 + (1 : Int32)) m_heads_2 m_numbers_2 m_codes_2 m_sizes_2 m_guessed_2 m_results_2 else some (y2_2, m_parts_2, m_taken_2, m_heads_2, m_numbers_2, m_codes_2, m_sizes_2, m_guessed_2, m_results_2))
def d_Mod_guess (N : Nat) (x1 : Int32) (m_kind : Int32) (m_steps : Int32) (m_size : Int32) (m_parts : Int32) (m_taken : Int32) (m_bytes : Nat → Int32) (m_heads : Nat → Int32) (m_numbers : Nat → Int32) (m_codes : Nat → Int32) (m_sizes : Nat → Int32) (m_guessed : Nat → Int32) (m_results : Nat → Int32) : Option (Int32 × Int32 × Int32 × (Nat → Int32) × (Nat → Int32) × (Nat → Int32) × (Nat → Int32) × (Nat → Int32) × (Nat → Int32)) :=
 (d_Mod_guess_L2 N x1 m_kind m_steps m_size m_bytes N (0 : Int32) m_parts m_taken m_heads m_numbers m_codes m_sizes m_guessed m_results).bind (fun s2 => gI (s2.2.1 - (1 : Int32)) 16 ((d_Mod_add N x1 (((s2.2.2.2.2.1 (s2.2.1 - (1 : Int32)).toNatClampNeg) + (1 : Int32)) - ((s2.2.2.2.2.1 (s2.2.1 - (1 : Int32)).toNatClampNeg) + (1 : Int32)) / (16 : Int32) * (16 : Int32)) (s2.2.2.2.2.2.1 (s2.2.1 - (1 : Int32)).toNatClampNeg) s2.1 (1 : Int32) s2.2.1 s2.2.2.2.1 s2.2.2.2.2.1 s2.2.2.2.2.2.1 s2.2.2.2.2.2.2.1 s2.2.2.2.2.2.2.2.1 s2.2.2.2.2.2.2.2.2).bind (fun o2 => some ((x1 + (6 : Int32)) + s2.1, o2.1, s2.2.2.1, o2.2.1, o2.2.2.1, o2.2.2.2.1, o2.2.2.2.2.1, o2.2.2.2.2.2.1, o2.2.2.2.2.2.2))))
abbrev rm_Mod_guess : Room := { frames := 1, cells := 0, slots := 0, locals := 25 }
set_option maxHeartbeats 4000000 in
set_option maxRecDepth 100000 in
theorem c_Mod_guess (l : Launch) (dC : Nat → ClassId) (dI : Nat → Nat → Nat) (tt : Nat → Nat) (ad : Nat → Nat) (cs : Nat → ClassId) (sz N : Nat) (x1 : Int32) (m_thrown : Int32) (m_kind : Int32) (m_steps : Int32) (m_size : Int32) (m_ran : Int32) (m_parts : Int32) (m_taken : Int32) (m_lacked : Int32) (m_decodings : Int32) (m_failures : Int32) (m_at : Int32) (m_end : Int32) (m_many : Int32) (m_wrong : Int32) (m_bytes : Nat → Int32) (m_heads : Nat → Int32) (m_numbers : Nat → Int32) (m_codes : Nat → Int32) (m_sizes : Nat → Int32) (m_guessed : Nat → Int32) (m_results : Nat → Int32) (m_values : Nat → Int32) (m_states : Nat → Int32) (m_came : Nat → Int32) (m_boxes : Nat → Int32) (m_single : Nat → Int32) (m_rows : Nat → Int32) (out : Int32 × Int32 × Int32 × (Nat → Int32) × (Nat → Int32) × (Nat → Int32) × (Nat → Int32) × (Nat → Int32) × (Nat → Int32)) (h : d_Mod_guess N x1 m_kind m_steps m_size m_parts m_taken m_bytes m_heads m_numbers m_codes m_sizes m_guessed m_results = some out) :
    Met l y_Mod_guess (w_Mod_guess) rm_Mod_guess (va_Pc [.ref (ad 0), .int x1] (PreW (dC, dI) [((cs 1), .int), ((cs 2), .int), ((cs 3), .int), ((cs 4), .int), ((cs 5), .int), ((cs 6), .boolean), ((cs 7), .int), ((cs 8), .int), ((cs 9), .int), ((cs 10), .int), ((cs 11), .int), ((cs 12), .int), ((cs 13), .int)] (x_Mod ad cs m_thrown m_kind m_steps m_size m_ran m_parts m_taken m_lacked m_decodings m_failures m_at m_end m_many m_wrong m_bytes m_heads m_numbers m_codes m_sizes m_guessed m_results m_values m_states m_came m_boxes m_single m_rows) sz tt)) (va_Qi (fun (r : Int32) (_ : Unit) => r = out.1) (fun _ => AftW (dC, dI) [((cs 1), .int), ((cs 2), .int), ((cs 3), .int), ((cs 4), .int), ((cs 5), .int), ((cs 6), .boolean), ((cs 7), .int), ((cs 8), .int), ((cs 9), .int), ((cs 10), .int), ((cs 11), .int), ((cs 12), .int), ((cs 13), .int)] (va_A (x_Mod ad cs m_thrown m_kind m_steps m_size m_ran m_parts m_taken m_lacked m_decodings m_failures m_at m_end m_many m_wrong m_bytes m_heads m_numbers m_codes m_sizes m_guessed m_results m_values m_states m_came m_boxes m_single m_rows) sz) (x_Mod ad cs m_thrown m_kind m_steps m_size m_ran out.2.1 out.2.2.1 m_lacked m_decodings m_failures m_at m_end m_many m_wrong m_bytes out.2.2.2.1 out.2.2.2.2.1 out.2.2.2.2.2.1 out.2.2.2.2.2.2.1 out.2.2.2.2.2.2.2.1 out.2.2.2.2.2.2.2.2 m_values m_states m_came m_boxes m_single m_rows)) (va_A (x_Mod ad cs m_thrown m_kind m_steps m_size m_ran m_parts m_taken m_lacked m_decodings m_failures m_at m_end m_many m_wrong m_bytes m_heads m_numbers m_codes m_sizes m_guessed m_results m_values m_states m_came m_boxes m_single m_rows) sz)) 0 0 (va_A (x_Mod ad cs m_thrown m_kind m_steps m_size m_ran m_parts m_taken m_lacked m_decodings m_failures m_at m_end m_many m_wrong m_bytes m_heads m_numbers m_codes m_sizes m_guessed m_results m_values m_states m_came m_boxes m_single m_rows) sz) := by
  refine Met.ofW (cc := k_Mod_guess) (maxL := 3) (ret := (some .int)) (by decide) rfl ?_
  intro p e s m args below meth c s₁ B hml hv
  obtain ⟨rfl, hsz, hP, hK, hD0, hG⟩ := hv
  have hx := B.exec
  have hb := B.bytes
  have hr := B.returns
  have hts := atoms_spec (ws := (w_Mod_guess)) B.pre
  have hB : ∀ w ∈ BIG, w.before _ s = true := fun w h9 => hts w (List.mem_cons_of_mem _ h9)
  have hown : s.vm.findClass R_Mod = some m.cls := findClass_of_methodNamed B.named
  have hlocks := B.notSynchronized
  subst hsz
  have hD := hD0.self (sz := s.heap.size)
  generalize hAe : va_A (x_Mod ad cs m_thrown m_kind m_steps m_size m_ran m_parts m_taken m_lacked m_decodings m_failures m_at m_end m_many m_wrong m_bytes m_heads m_numbers m_codes m_sizes m_guessed m_results m_values m_states m_came m_boxes m_single m_rows) s.heap.size = A at hD hG ⊢
  have hA : ∀ q : Nat, s.heap.size ≤ q → A q := fun q h => by rw [← hAe]; exact Or.inr h
  have hS : va_S A s.heap s.heap [] := va_S.rf
  have hl := lv_entry ([.ref (ad 0), .int x1]) (n := 3) (Nat.le_of_ble_eq_true rfl)
  rw [lg_entry_eq]
  generalize (lg_sl ([.ref (ad 0), .int x1]) ++ List.replicate (3 - (lg_sl ([.ref (ad 0), .int x1])).length) Slot.unset).toArray = ls at hl ⊢
  have hl : lv_has ls 3 [(0, .ref (ad 0)), (1, .int x1)] := hl
  unfold d_Mod_guess at h
  refine lv_iconst (v := 0) hx hb d_Mod_guess_0 (by decide) ?_
  refine lv_istore_n (lv' := [(2, .int (0 : Int32)), (0, .ref (ad 0)), (1, .int x1)]) hx hb d_Mod_guess_1 rfl hl (by decide) rfl (fun ls hl => ?_)
  obtain ⟨s2, hs2, h⟩ := Option.bind_eq_some_iff.mp h
  have X2 : ∀ (H : Heap) (locs : List Loc) (ls : Array Slot), lv_has ls 3 [(0, .ref (ad 0)), (1, .int x1), (2, .int s2.1)] → va_P (dC, dI) vwCl (x_Mod ad cs m_thrown m_kind m_steps m_size m_ran s2.2.1 s2.2.2.1 m_lacked m_decodings m_failures m_at m_end m_many m_wrong m_bytes s2.2.2.2.1 s2.2.2.2.2.1 s2.2.2.2.2.2.1 s2.2.2.2.2.2.2.1 s2.2.2.2.2.2.2.2.1 s2.2.2.2.2.2.2.2.2 m_values m_states m_came m_boxes m_single m_rows) H → va_D A (x_Mod ad cs m_thrown m_kind m_steps m_size m_ran s2.2.1 s2.2.2.1 m_lacked m_decodings m_failures m_at m_end m_many m_wrong m_bytes s2.2.2.2.1 s2.2.2.2.2.1 s2.2.2.2.2.2.1 s2.2.2.2.2.2.2.1 s2.2.2.2.2.2.2.2.1 s2.2.2.2.2.2.2.2.2 m_values m_states m_came m_boxes m_single m_rows) → va_S A s.heap H locs → W p l e (headSpec (w_Mod_guess) rm_Mod_guess).room s m ([.ref (ad 0), .int x1] : List Value).toArray below meth c H locs 0 0 (MQ below (va_Qi (fun (r : Int32) (_ : Unit) => r = out.1) (fun _ => AftW (dC, dI) [((cs 1), .int), ((cs 2), .int), ((cs 3), .int), ((cs 4), .int), ((cs 5), .int), ((cs 6), .boolean), ((cs 7), .int), ((cs 8), .int), ((cs 9), .int), ((cs 10), .int), ((cs 11), .int), ((cs 12), .int), ((cs 13), .int)] A (x_Mod ad cs m_thrown m_kind m_steps m_size m_ran out.2.1 out.2.2.1 m_lacked m_decodings m_failures m_at m_end m_many m_wrong m_bytes out.2.2.2.1 out.2.2.2.2.1 out.2.2.2.2.2.1 out.2.2.2.2.2.2.1 out.2.2.2.2.2.2.2.1 out.2.2.2.2.2.2.2.2 m_values m_states m_came m_boxes m_single m_rows)) A) ([.ref (ad 0), .int x1] : List Value).toArray s 0 0 A) (F0 m 61 ls []) := by
    intro H locs ls hl hP hD hS
    refine lv_aload_n hx hb d_Mod_guess_61 rfl (lv_at hl 0 rfl) ?_
    refine lv_iload_n hx hb d_Mod_guess_62 rfl (lv_at hl 1 rfl) ?_
    refine lv_aload_n hx hb d_Mod_guess_63 rfl (lv_at hl 0 rfl) ?_
    refine va_get (D := (dC, dI)) (ci := 4) (v := .ref (ad 3)) (C := R_Mod) (T := T_Mod) (N := 27) hx hb hB in_Mod hown hK hP 0 rfl rfl 8 (by decide) (hB _ wd_230) (fun _ h9 => h9) rfl d_Mod_guess_64 ?_
    refine lv_aload_n hx hb d_Mod_guess_67 rfl (lv_at hl 0 rfl) ?_
    refine va_get (D := (dC, dI)) (ci := 4) (v := .int s2.2.1) (C := R_Mod) (T := T_Mod) (N := 27) hx hb hB in_Mod hown hK hP 0 rfl rfl 6 (by decide) (hB _ wd_220) (fun _ h9 => h9) rfl d_Mod_guess_68 ?_
    refine lv_iconst (v := 1) hx hb d_Mod_guess_71 (by decide) ?_
    refine lv_isub hx hb d_Mod_guess_72 ?_
    obtain ⟨b_1, h⟩ := gI_some h
    refine va_iald hx hb hK hP 3 2 rfl rfl b_1 d_Mod_guess_73 ?_
    refine lv_iconst (v := 1) hx hb d_Mod_guess_74 (by decide) ?_
    refine lv_iadd hx hb d_Mod_guess_75 ?_
    refine lv_bipush (v := 16) hx hb d_Mod_guess_76 (by decide) ?_
    refine lv_irem hx hb d_Mod_guess_78 (by decide) ?_
    refine lv_aload_n hx hb d_Mod_guess_79 rfl (lv_at hl 0 rfl) ?_
    refine va_get (D := (dC, dI)) (ci := 4) (v := .ref (ad 4)) (C := R_Mod) (T := T_Mod) (N := 27) hx hb hB in_Mod hown hK hP 0 rfl rfl 9 (by decide) (hB _ wd_231) (fun _ h9 => h9) rfl d_Mod_guess_80 ?_
    refine lv_aload_n hx hb d_Mod_guess_83 rfl (lv_at hl 0 rfl) ?_
    refine va_get (D := (dC, dI)) (ci := 4) (v := .int s2.2.1) (C := R_Mod) (T := T_Mod) (N := 27) hx hb hB in_Mod hown hK hP 0 rfl rfl 6 (by decide) (hB _ wd_220) (fun _ h9 => h9) rfl d_Mod_guess_84 ?_
    refine lv_iconst (v := 1) hx hb d_Mod_guess_87 (by decide) ?_
    refine lv_isub hx hb d_Mod_guess_88 ?_
    refine va_iald hx hb hK hP 4 3 rfl rfl b_1 d_Mod_guess_89 ?_
    refine lv_iload_n hx hb d_Mod_guess_90 rfl (lv_at hl 2 rfl) ?_
    refine lv_iconst (v := 1) hx hb d_Mod_guess_91 (by decide) ?_
    obtain ⟨o2, ho2, h⟩ := Option.bind_eq_some_iff.mp h
    have hKc := hK.sub (tys' := [((cs 1), .int), ((cs 2), .int), ((cs 3), .int), ((cs 4), .int), ((cs 5), .int), ((cs 6), .boolean), ((cs 7), .int), ((cs 8), .int), ((cs 9), .int), ((cs 10), .int), ((cs 11), .int), ((cs 12), .int), ((cs 13), .int)]) [0, 1, 2, 3, 4, 5, 6, 7, 8, 9, 10, 11, 12] rfl
    have hPc := hP.sub (ws' := x_Mod ad cs m_thrown m_kind m_steps m_size m_ran s2.2.1 s2.2.2.1 m_lacked m_decodings m_failures m_at m_end m_many m_wrong m_bytes s2.2.2.2.1 s2.2.2.2.2.1 s2.2.2.2.2.2.1 s2.2.2.2.2.2.2.1 s2.2.2.2.2.2.2.2.1 s2.2.2.2.2.2.2.2.2 m_values m_states m_came m_boxes m_single m_rows) [0, 1, 2, 3, 4, 5, 6, 7, 8, 9, 10, 11, 12, 13] rfl
    have hDc := hD.sub (ws' := x_Mod ad cs m_thrown m_kind m_steps m_size m_ran s2.2.1 s2.2.2.1 m_lacked m_decodings m_failures m_at m_end m_many m_wrong m_bytes s2.2.2.2.1 s2.2.2.2.2.1 s2.2.2.2.2.2.1 s2.2.2.2.2.2.2.1 s2.2.2.2.2.2.2.2.1 s2.2.2.2.2.2.2.2.2 m_values m_states m_came m_boxes m_single m_rows) [0, 1, 2, 3, 4, 5, 6, 7, 8, 9, 10, 11, 12, 13] (by decide) rfl
    have hFc := va_free (wc := x_Mod ad cs m_thrown m_kind m_steps m_size m_ran s2.2.1 s2.2.2.1 m_lacked m_decodings m_failures m_at m_end m_many m_wrong m_bytes s2.2.2.2.1 s2.2.2.2.2.1 s2.2.2.2.2.2.1 s2.2.2.2.2.2.2.1 s2.2.2.2.2.2.2.2.1 s2.2.2.2.2.2.2.2.2 m_values m_states m_came m_boxes m_single m_rows) hD hS hA [0, 1, 2, 3, 4, 5, 6, 7, 8, 9, 10, 11, 12, 13] rfl
    refine va_callv (va_runV (As := [.int x1, .int (((s2.2.2.2.2.1 (s2.2.1 - (1 : Int32)).toNatClampNeg) + (1 : Int32)) - ((s2.2.2.2.2.1 (s2.2.1 - (1 : Int32)).toNatClampNeg) + (1 : Int32)) / (16 : Int32) * (16 : Int32)), .int (s2.2.2.2.2.2.1 (s2.2.1 - (1 : Int32)).toNatClampNeg), .int s2.1, .int (1 : Int32)]) (rest := []) ⟨hx, hb, hml, hown, hB⟩ (c_Mod_add l dC dI tt ad cs H.size N x1 (((s2.2.2.2.2.1 (s2.2.1 - (1 : Int32)).toNatClampNeg) + (1 : Int32)) - ((s2.2.2.2.2.1 (s2.2.1 - (1 : Int32)).toNatClampNeg) + (1 : Int32)) / (16 : Int32) * (16 : Int32)) (s2.2.2.2.2.2.1 (s2.2.1 - (1 : Int32)).toNatClampNeg) s2.1 (1 : Int32) m_thrown m_kind m_steps m_size m_ran s2.2.1 s2.2.2.1 m_lacked m_decodings m_failures m_at m_end m_many m_wrong m_bytes s2.2.2.2.1 s2.2.2.2.2.1 s2.2.2.2.2.2.1 s2.2.2.2.2.2.2.1 s2.2.2.2.2.2.2.2.1 s2.2.2.2.2.2.2.2.2 m_values m_states m_came m_boxes m_single m_rows o2 ho2) (cwV 5 hB (gV wd_238 wd_236 wd_235 wd_226 wd_237) rfl rfl rfl (by decide +kernel) ⟨Nat.le_of_ble_eq_true rfl, Nat.le_of_ble_eq_true rfl⟩) ⟨PreW_blind, va_recv hKc hPc (ci := 4) (q0 := 0) rfl rfl, PreW_mk hKc hPc hDc hG hS hFc⟩ rfl rfl hl.1 rfl (lv_room (Nat.le_of_ble_eq_true rfl)) d_Mod_guess_92 ⟨Nat.le_of_ble_eq_true rfl, Nat.le_of_ble_eq_true rfl⟩) hS (fun q _ h => hFc q h) hFc (fun u_2 t H1 locs ht hvm hw hB hz1 hk1 hS => ?_)
    obtain ⟨hP1, hK1, hD1⟩ := hB
    rw [ht] at hP1
    obtain ⟨hP, hD⟩ := va_join (wr := pick (x_Mod ad cs m_thrown m_kind m_steps m_size m_ran s2.2.1 s2.2.2.1 m_lacked m_decodings m_failures m_at m_end m_many m_wrong m_bytes s2.2.2.2.1 s2.2.2.2.2.1 s2.2.2.2.2.2.1 s2.2.2.2.2.2.2.1 s2.2.2.2.2.2.2.2.1 s2.2.2.2.2.2.2.2.2 m_values m_states m_came m_boxes m_single m_rows) []) hP hD [0, 1, 2, 3, 4, 5, 6, 7, 8, 9, 10, 11, 12, 13] [] rfl rfl (by decide) (by decide) hk1 hFc hP1 hD1
    generalize H1 = H at hP hS ⊢
    have hP : va_P (dC, dI) vwCl (x_Mod ad cs m_thrown m_kind m_steps m_size m_ran o2.1 s2.2.2.1 m_lacked m_decodings m_failures m_at m_end m_many m_wrong m_bytes o2.2.1 o2.2.2.1 o2.2.2.2.1 o2.2.2.2.2.1 o2.2.2.2.2.2.1 o2.2.2.2.2.2.2 m_values m_states m_came m_boxes m_single m_rows) H := hP.sub [0, 1, 2, 3, 4, 5, 6, 7, 8, 9, 10, 11, 12, 13] rfl
    have hD : va_D A (x_Mod ad cs m_thrown m_kind m_steps m_size m_ran o2.1 s2.2.2.1 m_lacked m_decodings m_failures m_at m_end m_many m_wrong m_bytes o2.2.1 o2.2.2.1 o2.2.2.2.1 o2.2.2.2.2.1 o2.2.2.2.2.2.1 o2.2.2.2.2.2.2 m_values m_states m_came m_boxes m_single m_rows) := hD.sub [0, 1, 2, 3, 4, 5, 6, 7, 8, 9, 10, 11, 12, 13] (by decide) rfl
    refine lv_iload_n hx hb d_Mod_guess_95 rfl (lv_at hl 1 rfl) ?_
    refine lv_bipush (v := 6) hx hb d_Mod_guess_96 (by decide) ?_
    refine lv_iadd hx hb d_Mod_guess_98 ?_
    refine lv_iload_n hx hb d_Mod_guess_99 rfl (lv_at hl 2 rfl) ?_
    refine lv_iadd hx hb d_Mod_guess_100 ?_
    have h := Option.some.inj h
    subst h
    exact W.iret hx hb hr (fun t ht hW => ⟨⟨_, (), rfl, rfl, AftW_mk hK hP hD ht hW⟩, hS.F ht⟩) hS.2.2 d_Mod_guess_101
  have L2 : ∀ (n : Nat) (y2_2 : Int32) (m_parts_2 : Int32) (m_taken_2 : Int32) (m_heads_2 : Nat → Int32) (m_numbers_2 : Nat → Int32) (m_codes_2 : Nat → Int32) (m_sizes_2 : Nat → Int32) (m_guessed_2 : Nat → Int32) (m_results_2 : Nat → Int32) (H : Heap) (locs : List Loc) (ls : Array Slot), lv_has ls 3 [(0, .ref (ad 0)), (1, .int x1), (2, .int y2_2)] → va_P (dC, dI) vwCl (x_Mod ad cs m_thrown m_kind m_steps m_size m_ran m_parts_2 m_taken_2 m_lacked m_decodings m_failures m_at m_end m_many m_wrong m_bytes m_heads_2 m_numbers_2 m_codes_2 m_sizes_2 m_guessed_2 m_results_2 m_values m_states m_came m_boxes m_single m_rows) H → va_D A (x_Mod ad cs m_thrown m_kind m_steps m_size m_ran m_parts_2 m_taken_2 m_lacked m_decodings m_failures m_at m_end m_many m_wrong m_bytes m_heads_2 m_numbers_2 m_codes_2 m_sizes_2 m_guessed_2 m_results_2 m_values m_states m_came m_boxes m_single m_rows) → va_S A s.heap H locs → d_Mod_guess_L2 N x1 m_kind m_steps m_size m_bytes n y2_2 m_parts_2 m_taken_2 m_heads_2 m_numbers_2 m_codes_2 m_sizes_2 m_guessed_2 m_results_2 = some s2 → W p l e (headSpec (w_Mod_guess) rm_Mod_guess).room s m ([.ref (ad 0), .int x1] : List Value).toArray below meth c H locs 0 0 (MQ below (va_Qi (fun (r : Int32) (_ : Unit) => r = out.1) (fun _ => AftW (dC, dI) [((cs 1), .int), ((cs 2), .int), ((cs 3), .int), ((cs 4), .int), ((cs 5), .int), ((cs 6), .boolean), ((cs 7), .int), ((cs 8), .int), ((cs 9), .int), ((cs 10), .int), ((cs 11), .int), ((cs 12), .int), ((cs 13), .int)] A (x_Mod ad cs m_thrown m_kind m_steps m_size m_ran out.2.1 out.2.2.1 m_lacked m_decodings m_failures m_at m_end m_many m_wrong m_bytes out.2.2.2.1 out.2.2.2.2.1 out.2.2.2.2.2.1 out.2.2.2.2.2.2.1 out.2.2.2.2.2.2.2.1 out.2.2.2.2.2.2.2.2 m_values m_states m_came m_boxes m_single m_rows)) A) ([.ref (ad 0), .int x1] : List Value).toArray s 0 0 A) (F0 m 2 ls []) := by
    intro n
    induction n with
    | zero =>
      intro y2_2 m_parts_2 m_taken_2 m_heads_2 m_numbers_2 m_codes_2 m_sizes_2 m_guessed_2 m_results_2 H locs ls hl hP hD hS h
      rw [d_Mod_guess_L2] at h
      cases h
    | succ n ih =>
      intro y2_2 m_parts_2 m_taken_2 m_heads_2 m_numbers_2 m_codes_2 m_sizes_2 m_guessed_2 m_results_2 H locs ls hl hP hD hS h
      rw [d_Mod_guess_L2] at h
      refine lv_iload_n hx hb d_Mod_guess_2 rfl (lv_at hl 2 rfl) ?_
      refine lv_bipush (v := 64) hx hb d_Mod_guess_3 (by decide) ?_
      refine lv_icmp_ge (tgt := 61) hx hb d_Mod_guess_5 (by decide) (fun c_3 => ?_) (fun c_3 => ?_)
      · have h := (if_pos c_3).symm.trans h
        have h := Option.some.inj h
        subst h
        exact X2 H locs ls (lv_sub hl [0, 1, 2] rfl) hP hD hS
      · have h := (if_neg c_3).symm.trans h
        refine lv_aload_n hx hb d_Mod_guess_8 rfl (lv_at hl 0 rfl) ?_
        refine va_get (D := (dC, dI)) (ci := 4) (v := .int m_taken_2) (C := R_Mod) (T := T_Mod) (N := 27) hx hb hB in_Mod hown hK hP 0 rfl rfl 13 (by decide) (hB _ wd_239) (fun _ h9 => h9) rfl d_Mod_guess_9 ?_
        refine lv_aload_n hx hb d_Mod_guess_12 rfl (lv_at hl 0 rfl) ?_
        refine va_get (D := (dC, dI)) (ci := 4) (v := .int m_steps) (C := R_Mod) (T := T_Mod) (N := 27) hx hb hB in_Mod hown hK hP 0 rfl rfl 2 (by decide) (hB _ wd_240) (fun _ h9 => h9) rfl d_Mod_guess_13 ?_
        refine lv_icmp_ge (tgt := 61) hx hb d_Mod_guess_16 (by decide) (fun c_4 => ?_) (fun c_4 => ?_)
        · have h := (if_pos c_4).symm.trans h
          have h := Option.some.inj h
          subst h
          exact X2 H locs ls (lv_sub hl [0, 1, 2] rfl) hP hD hS
        · have h := (if_neg c_4).symm.trans h
          refine lv_iload_n hx hb d_Mod_guess_19 rfl (lv_at hl 1 rfl) ?_
          refine lv_bipush (v := 6) hx hb d_Mod_guess_20 (by decide) ?_
          refine lv_iadd hx hb d_Mod_guess_22 ?_
          refine lv_iload_n hx hb d_Mod_guess_23 rfl (lv_at hl 2 rfl) ?_
          refine lv_iadd hx hb d_Mod_guess_24 ?_
          refine lv_aload_n hx hb d_Mod_guess_25 rfl (lv_at hl 0 rfl) ?_
          refine va_get (D := (dC, dI)) (ci := 4) (v := .int m_size) (C := R_Mod) (T := T_Mod) (N := 27) hx hb hB in_Mod hown hK hP 0 rfl rfl 4 (by decide) (hB _ wd_222) (fun _ h9 => h9) rfl d_Mod_guess_26 ?_
          refine lv_icmp_ge (tgt := 61) hx hb d_Mod_guess_29 (by decide) (fun c_5 => ?_) (fun c_5 => ?_)
          · have h := (if_pos c_5).symm.trans h
            have h := Option.some.inj h
            subst h
            exact X2 H locs ls (lv_sub hl [0, 1, 2] rfl) hP hD hS
          · have h := (if_neg c_5).symm.trans h
            refine lv_aload_n hx hb d_Mod_guess_32 rfl (lv_at hl 0 rfl) ?_
            refine lv_iload_n hx hb d_Mod_guess_33 rfl (lv_at hl 1 rfl) ?_
            refine lv_bipush (v := 6) hx hb d_Mod_guess_34 (by decide) ?_
            refine lv_iadd hx hb d_Mod_guess_36 ?_
            refine lv_iload_n hx hb d_Mod_guess_37 rfl (lv_at hl 2 rfl) ?_
            refine lv_iadd hx hb d_Mod_guess_38 ?_
            obtain ⟨o6, ho6, h⟩ := Option.bind_eq_some_iff.mp h
            have hKc := hK.sub (tys' := [((cs 1), .int), ((cs 2), .int), ((cs 3), .int), ((cs 4), .int), ((cs 5), .int), ((cs 6), .boolean), ((cs 7), .int), ((cs 8), .int), ((cs 9), .int), ((cs 10), .int), ((cs 11), .int), ((cs 12), .int), ((cs 13), .int)]) [0, 1, 2, 3, 4, 5, 6, 7, 8, 9, 10, 11, 12] rfl
            have hPc := hP.sub (ws' := x_Mod ad cs m_thrown m_kind m_steps m_size m_ran m_parts_2 m_taken_2 m_lacked m_decodings m_failures m_at m_end m_many m_wrong m_bytes m_heads_2 m_numbers_2 m_codes_2 m_sizes_2 m_guessed_2 m_results_2 m_values m_states m_came m_boxes m_single m_rows) [0, 1, 2, 3, 4, 5, 6, 7, 8, 9, 10, 11, 12, 13] rfl
            have hDc := hD.sub (ws' := x_Mod ad cs m_thrown m_kind m_steps m_size m_ran m_parts_2 m_taken_2 m_lacked m_decodings m_failures m_at m_end m_many m_wrong m_bytes m_heads_2 m_numbers_2 m_codes_2 m_sizes_2 m_guessed_2 m_results_2 m_values m_states m_came m_boxes m_single m_rows) [0, 1, 2, 3, 4, 5, 6, 7, 8, 9, 10, 11, 12, 13] (by decide) rfl
            have hFc := va_free (wc := x_Mod ad cs m_thrown m_kind m_steps m_size m_ran m_parts_2 m_taken_2 m_lacked m_decodings m_failures m_at m_end m_many m_wrong m_bytes m_heads_2 m_numbers_2 m_codes_2 m_sizes_2 m_guessed_2 m_results_2 m_values m_states m_came m_boxes m_single m_rows) hD hS hA [0, 1, 2, 3, 4, 5, 6, 7, 8, 9, 10, 11, 12, 13] rfl
            refine va_calli (va_runV (As := [.int ((x1 + (6 : Int32)) + y2_2)]) (rest := []) ⟨hx, hb, hml, hown, hB⟩ (c_Mod_isMark l dC dI tt ad cs H.size N ((x1 + (6 : Int32)) + y2_2) m_thrown m_kind m_steps m_size m_ran m_parts_2 m_taken_2 m_lacked m_decodings m_failures m_at m_end m_many m_wrong m_bytes m_heads_2 m_numbers_2 m_codes_2 m_sizes_2 m_guessed_2 m_results_2 m_values m_states m_came m_boxes m_single m_rows o6 ho6) (cwV 1 hB (gV wd_228 wd_225 wd_224 wd_226 wd_227) rfl rfl rfl (by decide +kernel) ⟨Nat.le_of_ble_eq_true rfl, Nat.le_of_ble_eq_true rfl⟩) ⟨PreW_blind, va_recv hKc hPc (ci := 4) (q0 := 0) rfl rfl, PreW_mk hKc hPc hDc hG hS hFc⟩ rfl rfl hl.1 rfl (lv_room (Nat.le_of_ble_eq_true rfl)) d_Mod_guess_39 ⟨Nat.le_of_ble_eq_true rfl, Nat.le_of_ble_eq_true rfl⟩) hS (fun q _ h => hFc q h) hFc (fun r_6 u_6 t H1 locs ht hvm hw hB hz1 hk1 hS => ?_)
            have hw := hw.symm
            subst hw
            obtain ⟨hP1, hK1, hD1⟩ := hB
            rw [ht] at hP1
            obtain ⟨hP, hD⟩ := va_join (wr := pick (x_Mod ad cs m_thrown m_kind m_steps m_size m_ran m_parts_2 m_taken_2 m_lacked m_decodings m_failures m_at m_end m_many m_wrong m_bytes m_heads_2 m_numbers_2 m_codes_2 m_sizes_2 m_guessed_2 m_results_2 m_values m_states m_came m_boxes m_single m_rows) []) hP hD [0, 1, 2, 3, 4, 5, 6, 7, 8, 9, 10, 11, 12, 13] [] rfl rfl (by decide) (by decide) hk1 hFc hP1 hD1
            generalize H1 = H at hP hS ⊢
            have hP : va_P (dC, dI) vwCl (x_Mod ad cs m_thrown m_kind m_steps m_size m_ran m_parts_2 m_taken_2 m_lacked m_decodings m_failures m_at m_end m_many m_wrong m_bytes m_heads_2 m_numbers_2 m_codes_2 m_sizes_2 m_guessed_2 m_results_2 m_values m_states m_came m_boxes m_single m_rows) H := hP.sub [0, 1, 2, 3, 4, 5, 6, 7, 8, 9, 10, 11, 12, 13] rfl
            have hD : va_D A (x_Mod ad cs m_thrown m_kind m_steps m_size m_ran m_parts_2 m_taken_2 m_lacked m_decodings m_failures m_at m_end m_many m_wrong m_bytes m_heads_2 m_numbers_2 m_codes_2 m_sizes_2 m_guessed_2 m_results_2 m_values m_states m_came m_boxes m_single m_rows) := hD.sub [0, 1, 2, 3, 4, 5, 6, 7, 8, 9, 10, 11, 12, 13] (by decide) rfl
            refine lv_if_ne (tgt := 61) hx hb d_Mod_guess_42 (by decide) (fun c_7 => ?_) (fun c_7 => ?_)
            · have h := (if_neg c_7).symm.trans h
              have h := Option.some.inj h
              subst h
              exact X2 H locs ls (lv_sub hl [0, 1, 2] rfl) hP hD hS
            · have h := (if_pos c_7).symm.trans h
              refine lv_iinc (v := y2_2 + 1) (lv' := [(2, .int (y2_2 + 1)), (0, .ref (ad 0)), (1, .int x1)]) hx hb d_Mod_guess_45 hl (k := 2) rfl rfl (by decide) rfl (fun ls hl => ?_)
              refine lv_aload_n hx hb d_Mod_guess_48 rfl (lv_at hl 1 rfl) ?_
              refine lv_dup hx hb d_Mod_guess_49 rfl ?_
              refine va_get (D := (dC, dI)) (ci := 4) (v := .int m_taken_2) (C := R_Mod) (T := T_Mod) (N := 27) hx hb hB in_Mod hown hK hP 0 rfl rfl 13 (by decide) (hB _ wd_239) (fun _ h9 => h9) rfl d_Mod_guess_50 ?_
              refine lv_iconst (v := 1) hx hb d_Mod_guess_53 (by decide) ?_
              refine lv_iadd hx hb d_Mod_guess_54 ?_
              refine va_put (D := (dC, dI)) (ci := 4) (v := .int (m_taken_2 + (1 : Int32))) (ty := .int) (C := R_Mod) (T := T_Mod) (N := 27) hx hb hB in_Mod ty_Mod tyok_Mod nd_Mod hown hK hP hD hS 0 rfl rfl 13 (by decide) (hB _ wd_239) (fun _ h9 => h9) rfl (by decide +kernel) rfl rfl (Nat.le_of_ble_eq_true rfl) d_Mod_guess_55 (fun H locs hP hD hS => ?_)
              have hP : va_P (dC, dI) vwCl (x_Mod ad cs m_thrown m_kind m_steps m_size m_ran m_parts_2 (m_taken_2 + (1 : Int32)) m_lacked m_decodings m_failures m_at m_end m_many m_wrong m_bytes m_heads_2 m_numbers_2 m_codes_2 m_sizes_2 m_guessed_2 m_results_2 m_values m_states m_came m_boxes m_single m_rows) H := hP
              have hD : va_D A (x_Mod ad cs m_thrown m_kind m_steps m_size m_ran m_parts_2 (m_taken_2 + (1 : Int32)) m_lacked m_decodings m_failures m_at m_end m_many m_wrong m_bytes m_heads_2 m_numbers_2 m_codes_2 m_sizes_2 m_guessed_2 m_results_2 m_values m_states m_came m_boxes m_single m_rows) := hD
              refine lv_goto (tgt := 2) hx hb d_Mod_guess_58 (by decide) ?_
              exact ih (y2_2 + 1) m_parts_2 (m_taken_2 + (1 : Int32)) m_heads_2 m_numbers_2 m_codes_2 m_sizes_2 m_guessed_2 m_results_2 H locs ls (lv_sub hl [1, 2, 0] rfl) hP hD hS h
  exact L2 N (0 : Int32) m_parts m_taken m_heads m_numbers m_codes m_sizes m_guessed m_results _ _ ls (lv_sub hl [1, 2, 0] rfl) hP hD hS hs2
def d_Mod_partCode (N : Nat) (x1 : Int32) (m_ran : Int32) (m_parts : Int32) : Option (Int32) :=
 if m_ran = 0 then some (1 : Int32) else if x1 < 0 then some (2 : Int32) else if x1 < m_parts then some (0 : Int32) else some (2 : Int32)
abbrev rm_Mod_partCode : Room := { frames := 0, cells := 0, slots := 0, locals := 0 }
set_option maxHeartbeats 4000000 in
set_option maxRecDepth 100000 in
theorem c_Mod_partCode (l : Launch) (dC : Nat → ClassId) (dI : Nat → Nat → Nat) (tt : Nat → Nat) (ad : Nat → Nat) (cs : Nat → ClassId) (sz N : Nat) (x1 : Int32) (m_thrown : Int32) (m_kind : Int32) (m_steps : Int32) (m_size : Int32) (m_ran : Int32) (m_parts : Int32) (m_taken : Int32) (m_lacked : Int32) (m_decodings : Int32) (m_failures : Int32) (m_at : Int32) (m_end : Int32) (m_many : Int32) (m_wrong : Int32) (m_bytes : Nat → Int32) (m_heads : Nat → Int32) (m_numbers : Nat → Int32) (m_codes : Nat → Int32) (m_sizes : Nat → Int32) (m_guessed : Nat → Int32) (m_results : Nat → Int32) (m_values : Nat → Int32) (m_states : Nat → Int32) (m_came : Nat → Int32) (m_boxes : Nat → Int32) (m_single : Nat → Int32) (m_rows : Nat → Int32) (out : Int32) (h : d_Mod_partCode N x1 m_ran m_parts = some out) :
    Met l y_Mod_partCode (w_Mod_partCode) rm_Mod_partCode (va_Pc [.ref (ad 0), .int x1] (PreW (dC, dI) [((cs 1), .int), ((cs 2), .int), ((cs 3), .int), ((cs 4), .int), ((cs 5), .int), ((cs 6), .boolean), ((cs 7), .int), ((cs 8), .int), ((cs 9), .int), ((cs 10), .int), ((cs 11), .int), ((cs 12), .int), ((cs 13), .int)] (x_Mod ad cs m_thrown m_kind m_steps m_size m_ran m_parts m_taken m_lacked m_decodings m_failures m_at m_end m_many m_wrong m_bytes m_heads m_numbers m_codes m_sizes m_guessed m_results m_values m_states m_came m_boxes m_single m_rows) sz tt)) (va_Qi (fun (r : Int32) (_ : Unit) => r = out) (fun _ => AftW (dC, dI) [((cs 1), .int), ((cs 2), .int), ((cs 3), .int), ((cs 4), .int), ((cs 5), .int), ((cs 6), .boolean), ((cs 7), .int), ((cs 8), .int), ((cs 9), .int), ((cs 10), .int), ((cs 11), .int), ((cs 12), .int), ((cs 13), .int)] (va_A (x_Mod ad cs m_thrown m_kind m_steps m_size m_ran m_parts m_taken m_lacked m_decodings m_failures m_at m_end m_many m_wrong m_bytes m_heads m_numbers m_codes m_sizes m_guessed m_results m_values m_states m_came m_boxes m_single m_rows) sz) (x_Mod ad cs m_thrown m_kind m_steps m_size m_ran m_parts m_taken m_lacked m_decodings m_failures m_at m_end m_many m_wrong m_bytes m_heads m_numbers m_codes m_sizes m_guessed m_results m_values m_states m_came m_boxes m_single m_rows)) (va_A (x_Mod ad cs m_thrown m_kind m_steps m_size m_ran m_parts m_taken m_lacked m_decodings m_failures m_at m_end m_many m_wrong m_bytes m_heads m_numbers m_codes m_sizes m_guessed m_results m_values m_states m_came m_boxes m_single m_rows) sz)) 0 0 (va_A (x_Mod ad cs m_thrown m_kind m_steps m_size m_ran m_parts m_taken m_lacked m_decodings m_failures m_at m_end m_many m_wrong m_bytes m_heads m_numbers m_codes m_sizes m_guessed m_results m_values m_states m_came m_boxes m_single m_rows) sz) := by
  refine Met.ofW (cc := k_Mod_partCode) (maxL := 2) (ret := (some .int)) (by decide) rfl ?_
  intro p e s m args below meth c s₁ B hml hv
  obtain ⟨rfl, hsz, hP, hK, hD0, hG⟩ := hv
  have hx := B.exec
  have hb := B.bytes
  have hr := B.returns
  have hts := atoms_spec (ws := (w_Mod_partCode)) B.pre
  have hB : ∀ w ∈ BIG, w.before _ s = true := fun w h9 => hts w (List.mem_cons_of_mem _ h9)
  have hown : s.vm.findClass R_Mod = some m.cls := findClass_of_methodNamed B.named
  have hlocks := B.notSynchronized
  subst hsz
  have hD := hD0.self (sz := s.heap.size)
  generalize hAe : va_A (x_Mod ad cs m_thrown m_kind m_steps m_size m_ran m_parts m_taken m_lacked m_decodings m_failures m_at m_end m_many m_wrong m_bytes m_heads m_numbers m_codes m_sizes m_guessed m_results m_values m_states m_came m_boxes m_single m_rows) s.heap.size = A at hD hG ⊢
  have hA : ∀ q : Nat, s.heap.size ≤ q → A q := fun q h => by rw [← hAe]; exact Or.inr h
  have hS : va_S A s.heap s.heap [] := va_S.rf
  have hl := lv_entry ([.ref (ad 0), .int x1]) (n := 2) (Nat.le_of_ble_eq_true rfl)
  rw [lg_entry_eq]
  generalize (lg_sl ([.ref (ad 0), .int x1]) ++ List.replicate (2 - (lg_sl ([.ref (ad 0), .int x1])).length) Slot.unset).toArray = ls at hl ⊢
  have hl : lv_has ls 2 [(0, .ref (ad 0)), (1, .int x1)] := hl
  unfold d_Mod_partCode at h
  refine lv_aload_n hx hb d_Mod_partCode_0 rfl (lv_at hl 0 rfl) ?_
  refine va_get (D := (dC, dI)) (ci := 4) (v := .int m_ran) (C := R_Mod) (T := T_Mod) (N := 27) hx hb hB in_Mod hown hK hP 0 rfl rfl 5 (by decide) (hB _ wd_219) (fun _ h9 => h9) rfl d_Mod_partCode_1 ?_
  refine lv_if_ne (tgt := 11) hx hb d_Mod_partCode_4 (by decide) (fun c_1 => ?_) (fun c_1 => ?_)
  · have h := (if_neg c_1).symm.trans h
    refine lv_iload_n hx hb d_Mod_partCode_11 rfl (lv_at hl 1 rfl) ?_
    refine lv_if_lt (tgt := 23) hx hb d_Mod_partCode_12 (by decide) (fun c_2 => ?_) (fun c_2 => ?_)
    · have h := (if_pos c_2).symm.trans h
      refine lv_iconst (v := 2) hx hb d_Mod_partCode_23 (by decide) ?_
      refine lv_goto (tgt := 28) hx hb d_Mod_partCode_24 (by decide) ?_
      have h := Option.some.inj h
      subst h
      exact W.iret hx hb hr (fun t ht hW => ⟨⟨_, (), rfl, rfl, AftW_mk hK hP hD ht hW⟩, hS.F ht⟩) hS.2.2 d_Mod_partCode_28
    · have h := (if_neg c_2).symm.trans h
      refine lv_iload_n hx hb d_Mod_partCode_15 rfl (lv_at hl 1 rfl) ?_
      refine lv_aload_n hx hb d_Mod_partCode_16 rfl (lv_at hl 0 rfl) ?_
      refine va_get (D := (dC, dI)) (ci := 4) (v := .int m_parts) (C := R_Mod) (T := T_Mod) (N := 27) hx hb hB in_Mod hown hK hP 0 rfl rfl 6 (by decide) (hB _ wd_220) (fun _ h9 => h9) rfl d_Mod_partCode_17 ?_
      refine lv_icmp_lt (tgt := 27) hx hb d_Mod_partCode_20 (by decide) (fun c_3 => ?_) (fun c_3 => ?_)
      · have h := (if_pos c_3).symm.trans h
        refine lv_iconst (v := 0) hx hb d_Mod_partCode_27 (by decide) ?_
        have h := Option.some.inj h
        subst h
        exact W.iret hx hb hr (fun t ht hW => ⟨⟨_, (), rfl, rfl, AftW_mk hK hP hD ht hW⟩, hS.F ht⟩) hS.2.2 d_Mod_partCode_28
      · have h := (if_neg c_3).symm.trans h
        refine lv_iconst (v := 2) hx hb d_Mod_partCode_23 (by decide) ?_
        refine lv_goto (tgt := 28) hx hb d_Mod_partCode_24 (by decide) ?_
        have h := Option.some.inj h
        subst h
        exact W.iret hx hb hr (fun t ht hW => ⟨⟨_, (), rfl, rfl, AftW_mk hK hP hD ht hW⟩, hS.F ht⟩) hS.2.2 d_Mod_partCode_28
  · have h := (if_pos c_1).symm.trans h
    refine lv_iconst (v := 1) hx hb d_Mod_partCode_7 (by decide) ?_
    refine lv_goto (tgt := 28) hx hb d_Mod_partCode_8 (by decide) ?_
    have h := Option.some.inj h
    subst h
    exact W.iret hx hb hr (fun t ht hW => ⟨⟨_, (), rfl, rfl, AftW_mk hK hP hD ht hW⟩, hS.F ht⟩) hS.2.2 d_Mod_partCode_28
def d_Mod_fail (N : Nat) (x1 : Int32) (m_wrong : Int32) : Option (Int32) :=
 if m_wrong = 0 then some x1 else some m_wrong
abbrev rm_Mod_fail : Room := { frames := 0, cells := 0, slots := 0, locals := 0 }
set_option maxHeartbeats 4000000 in
set_option maxRecDepth 100000 in
theorem c_Mod_fail (l : Launch) (dC : Nat → ClassId) (dI : Nat → Nat → Nat) (tt : Nat → Nat) (ad : Nat → Nat) (cs : Nat → ClassId) (sz N : Nat) (x1 : Int32) (m_thrown : Int32) (m_kind : Int32) (m_steps : Int32) (m_size : Int32) (m_ran : Int32) (m_parts : Int32) (m_taken : Int32) (m_lacked : Int32) (m_decodings : Int32) (m_failures : Int32) (m_at : Int32) (m_end : Int32) (m_many : Int32) (m_wrong : Int32) (m_bytes : Nat → Int32) (m_heads : Nat → Int32) (m_numbers : Nat → Int32) (m_codes : Nat → Int32) (m_sizes : Nat → Int32) (m_guessed : Nat → Int32) (m_results : Nat → Int32) (m_values : Nat → Int32) (m_states : Nat → Int32) (m_came : Nat → Int32) (m_boxes : Nat → Int32) (m_single : Nat → Int32) (m_rows : Nat → Int32) (out : Int32) (h : d_Mod_fail N x1 m_wrong = some out) :
    Met l y_Mod_fail (w_Mod_fail) rm_Mod_fail (va_Pc [.ref (ad 0), .int x1] (PreW (dC, dI) [((cs 1), .int), ((cs 2), .int), ((cs 3), .int), ((cs 4), .int), ((cs 5), .int), ((cs 6), .boolean), ((cs 7), .int), ((cs 8), .int), ((cs 9), .int), ((cs 10), .int), ((cs 11), .int), ((cs 12), .int), ((cs 13), .int)] (x_Mod ad cs m_thrown m_kind m_steps m_size m_ran m_parts m_taken m_lacked m_decodings m_failures m_at m_end m_many m_wrong m_bytes m_heads m_numbers m_codes m_sizes m_guessed m_results m_values m_states m_came m_boxes m_single m_rows) sz tt)) (va_Qv (fun (_ : Unit) => True) (fun _ => AftW (dC, dI) [((cs 1), .int), ((cs 2), .int), ((cs 3), .int), ((cs 4), .int), ((cs 5), .int), ((cs 6), .boolean), ((cs 7), .int), ((cs 8), .int), ((cs 9), .int), ((cs 10), .int), ((cs 11), .int), ((cs 12), .int), ((cs 13), .int)] (va_A (x_Mod ad cs m_thrown m_kind m_steps m_size m_ran m_parts m_taken m_lacked m_decodings m_failures m_at m_end m_many m_wrong m_bytes m_heads m_numbers m_codes m_sizes m_guessed m_results m_values m_states m_came m_boxes m_single m_rows) sz) (x_Mod ad cs m_thrown m_kind m_steps m_size m_ran m_parts m_taken m_lacked m_decodings m_failures m_at m_end m_many out m_bytes m_heads m_numbers m_codes m_sizes m_guessed m_results m_values m_states m_came m_boxes m_single m_rows)) (va_A (x_Mod ad cs m_thrown m_kind m_steps m_size m_ran m_parts m_taken m_lacked m_decodings m_failures m_at m_end m_many m_wrong m_bytes m_heads m_numbers m_codes m_sizes m_guessed m_results m_values m_states m_came m_boxes m_single m_rows) sz)) 0 0 (va_A (x_Mod ad cs m_thrown m_kind m_steps m_size m_ran m_parts m_taken m_lacked m_decodings m_failures m_at m_end m_many m_wrong m_bytes m_heads m_numbers m_codes m_sizes m_guessed m_results m_values m_states m_came m_boxes m_single m_rows) sz) := by
  refine Met.ofW (cc := k_Mod_fail) (maxL := 2) (ret := none) (by decide) rfl ?_
  intro p e s m args below meth c s₁ B hml hv
  obtain ⟨rfl, hsz, hP, hK, hD0, hG⟩ := hv
  have hx := B.exec
  have hb := B.bytes
  have hr := B.returns
  have hts := atoms_spec (ws := (w_Mod_fail)) B.pre
  have hB : ∀ w ∈ BIG, w.before _ s = true := fun w h9 => hts w (List.mem_cons_of_mem _ h9)
  have hown : s.vm.findClass R_Mod = some m.cls := findClass_of_methodNamed B.named
  have hlocks := B.notSynchronized
  subst hsz
  have hD := hD0.self (sz := s.heap.size)
  generalize hAe : va_A (x_Mod ad cs m_thrown m_kind m_steps m_size m_ran m_parts m_taken m_lacked m_decodings m_failures m_at m_end m_many m_wrong m_bytes m_heads m_numbers m_codes m_sizes m_guessed m_results m_values m_states m_came m_boxes m_single m_rows) s.heap.size = A at hD hG ⊢
  have hA : ∀ q : Nat, s.heap.size ≤ q → A q := fun q h => by rw [← hAe]; exact Or.inr h
  have hS : va_S A s.heap s.heap [] := va_S.rf
  have hl := lv_entry ([.ref (ad 0), .int x1]) (n := 2) (Nat.le_of_ble_eq_true rfl)
  rw [lg_entry_eq]
  generalize (lg_sl ([.ref (ad 0), .int x1]) ++ List.replicate (2 - (lg_sl ([.ref (ad 0), .int x1])).length) Slot.unset).toArray = ls at hl ⊢
  have hl : lv_has ls 2 [(0, .ref (ad 0)), (1, .int x1)] := hl
  unfold d_Mod_fail at h
  refine lv_aload_n hx hb d_Mod_fail_0 rfl (lv_at hl 0 rfl) ?_
  refine lv_aload_n hx hb d_Mod_fail_1 rfl (lv_at hl 0 rfl) ?_
  refine va_get (D := (dC, dI)) (ci := 4) (v := .int m_wrong) (C := R_Mod) (T := T_Mod) (N := 27) hx hb hB in_Mod hown hK hP 0 rfl rfl 23 (by decide) (hB _ wd_241) (fun _ h9 => h9) rfl d_Mod_fail_2 ?_
  refine lv_if_ne (tgt := 12) hx hb d_Mod_fail_5 (by decide) (fun c_1 => ?_) (fun c_1 => ?_)
  · have h := (if_neg c_1).symm.trans h
    refine lv_aload_n hx hb d_Mod_fail_12 rfl (lv_at hl 0 rfl) ?_
    refine va_get (D := (dC, dI)) (ci := 4) (v := .int m_wrong) (C := R_Mod) (T := T_Mod) (N := 27) hx hb hB in_Mod hown hK hP 0 rfl rfl 23 (by decide) (hB _ wd_241) (fun _ h9 => h9) rfl d_Mod_fail_13 ?_
    refine va_put (D := (dC, dI)) (ci := 4) (v := .int m_wrong) (ty := .int) (C := R_Mod) (T := T_Mod) (N := 27) hx hb hB in_Mod ty_Mod tyok_Mod nd_Mod hown hK hP hD hS 0 rfl rfl 23 (by decide) (hB _ wd_241) (fun _ h9 => h9) rfl (by decide +kernel) rfl rfl (Nat.le_of_ble_eq_true rfl) d_Mod_fail_16 (fun H locs hP hD hS => ?_)
    have hP : va_P (dC, dI) vwCl (x_Mod ad cs m_thrown m_kind m_steps m_size m_ran m_parts m_taken m_lacked m_decodings m_failures m_at m_end m_many m_wrong m_bytes m_heads m_numbers m_codes m_sizes m_guessed m_results m_values m_states m_came m_boxes m_single m_rows) H := hP
    have hD : va_D A (x_Mod ad cs m_thrown m_kind m_steps m_size m_ran m_parts m_taken m_lacked m_decodings m_failures m_at m_end m_many m_wrong m_bytes m_heads m_numbers m_codes m_sizes m_guessed m_results m_values m_states m_came m_boxes m_single m_rows) := hD
    have h := Option.some.inj h
    subst h
    exact W.vret hx hb hr (fun t ht hW => ⟨⟨(), rfl, trivial, AftW_mk hK hP hD ht hW⟩, hS.F ht⟩) hS.2.2 d_Mod_fail_19
  · have h := (if_pos c_1).symm.trans h
    refine lv_iload_n hx hb d_Mod_fail_8 rfl (lv_at hl 1 rfl) ?_
    refine lv_goto (tgt := 16) hx hb d_Mod_fail_9 (by decide) ?_
    refine va_put (D := (dC, dI)) (ci := 4) (v := .int x1) (ty := .int) (C := R_Mod) (T := T_Mod) (N := 27) hx hb hB in_Mod ty_Mod tyok_Mod nd_Mod hown hK hP hD hS 0 rfl rfl 23 (by decide) (hB _ wd_241) (fun _ h9 => h9) rfl (by decide +kernel) rfl rfl (Nat.le_of_ble_eq_true rfl) d_Mod_fail_16 (fun H locs hP hD hS => ?_)
    have hP : va_P (dC, dI) vwCl (x_Mod ad cs m_thrown m_kind m_steps m_size m_ran m_parts m_taken m_lacked m_decodings m_failures m_at m_end m_many x1 m_bytes m_heads m_numbers m_codes m_sizes m_guessed m_results m_values m_states m_came m_boxes m_single m_rows) H := hP
    have hD : va_D A (x_Mod ad cs m_thrown m_kind m_steps m_size m_ran m_parts m_taken m_lacked m_decodings m_failures m_at m_end m_many x1 m_bytes m_heads m_numbers m_codes m_sizes m_guessed m_results m_values m_states m_came m_boxes m_single m_rows) := hD
    have h := Option.some.inj h
    subst h
    exact W.vret hx hb hr (fun t ht hW => ⟨⟨(), rfl, trivial, AftW_mk hK hP hD ht hW⟩, hS.F ht⟩) hS.2.2 d_Mod_fail_19
def d_Mod_take (N : Nat) (m_at : Int32) (m_end : Int32) (m_wrong : Int32) (m_bytes : Nat → Int32) : Option (Int32 × Int32 × Int32) :=
 if m_wrong ≤ 0 then if m_at = m_end then (d_Mod_fail N (1 : Int32) m_wrong).bind (fun o4 => some ((0 : Int32), m_at, o4)) else gI ((m_at + (1 : Int32)) - (1 : Int32)) 1200 (some (m_bytes ((m_at + (1 : Int32)) - (1 : Int32)).toNatClampNeg, m_at + (1 : Int32), m_wrong)) else some ((0 : Int32), m_at, m_wrong)
abbrev rm_Mod_take : Room := { frames := 1, cells := 0, slots := 0, locals := 21 }
set_option maxHeartbeats 4000000 in
set_option maxRecDepth 100000 in
theorem c_Mod_take (l : Launch) (dC : Nat → ClassId) (dI : Nat → Nat → Nat) (tt : Nat → Nat) (ad : Nat → Nat) (cs : Nat → ClassId) (sz N : Nat) (m_thrown : Int32) (m_kind : Int32) (m_steps : Int32) (m_size : Int32) (m_ran : Int32) (m_parts : Int32) (m_taken : Int32) (m_lacked : Int32) (m_decodings : Int32) (m_failures : Int32) (m_at : Int32) (m_end : Int32) (m_many : Int32) (m_wrong : Int32) (m_bytes : Nat → Int32) (m_heads : Nat → Int32) (m_numbers : Nat → Int32) (m_codes : Nat → Int32) (m_sizes : Nat → Int32) (m_guessed : Nat → Int32) (m_results : Nat → Int32) (m_values : Nat → Int32) (m_states : Nat → Int32) (m_came : Nat → Int32) (m_boxes : Nat → Int32) (m_single : Nat → Int32) (m_rows : Nat → Int32) (out : Int32 × Int32 × Int32) (h : d_Mod_take N m_at m_end m_wrong m_bytes = some out) :
    Met l y_Mod_take (w_Mod_take) rm_Mod_take (va_Pc [.ref (ad 0)] (PreW (dC, dI) [((cs 1), .int), ((cs 2), .int), ((cs 3), .int), ((cs 4), .int), ((cs 5), .int), ((cs 6), .boolean), ((cs 7), .int), ((cs 8), .int), ((cs 9), .int), ((cs 10), .int), ((cs 11), .int), ((cs 12), .int), ((cs 13), .int)] (x_Mod ad cs m_thrown m_kind m_steps m_size m_ran m_parts m_taken m_lacked m_decodings m_failures m_at m_end m_many m_wrong m_bytes m_heads m_numbers m_codes m_sizes m_guessed m_results m_values m_states m_came m_boxes m_single m_rows) sz tt)) (va_Qi (fun (r : Int32) (_ : Unit) => r = out.1) (fun _ => AftW (dC, dI) [((cs 1), .int), ((cs 2), .int), ((cs 3), .int), ((cs 4), .int), ((cs 5), .int), ((cs 6), .boolean), ((cs 7), .int), ((cs 8), .int), ((cs 9), .int), ((cs 10), .int), ((cs 11), .int), ((cs 12), .int), ((cs 13), .int)] (va_A (x_Mod ad cs m_thrown m_kind m_steps m_size m_ran m_parts m_taken m_lacked m_decodings m_failures m_at m_end m_many m_wrong m_bytes m_heads m_numbers m_codes m_sizes m_guessed m_results m_values m_states m_came m_boxes m_single m_rows) sz) (x_Mod ad cs m_thrown m_kind m_steps m_size m_ran m_parts m_taken m_lacked m_decodings m_failures out.2.1 m_end m_many out.2.2 m_bytes m_heads m_numbers m_codes m_sizes m_guessed m_results m_values m_states m_came m_boxes m_single m_rows)) (va_A (x_Mod ad cs m_thrown m_kind m_steps m_size m_ran m_parts m_taken m_lacked m_decodings m_failures m_at m_end m_many m_wrong m_bytes m_heads m_numbers m_codes m_sizes m_guessed m_results m_values m_states m_came m_boxes m_single m_rows) sz)) 0 0 (va_A (x_Mod ad cs m_thrown m_kind m_steps m_size m_ran m_parts m_taken m_lacked m_decodings m_failures m_at m_end m_many m_wrong m_bytes m_heads m_numbers m_codes m_sizes m_guessed m_results m_values m_states m_came m_boxes m_single m_rows) sz) := by
  refine Met.ofW (cc := k_Mod_take) (maxL := 1) (ret := (some .int)) (by decide) rfl ?_
  intro p e s m args below meth c s₁ B hml hv
  obtain ⟨rfl, hsz, hP, hK, hD0, hG⟩ := hv
  have hx := B.exec
  have hb := B.bytes
  have hr := B.returns
  have hts := atoms_spec (ws := (w_Mod_take)) B.pre
  have hB : ∀ w ∈ BIG, w.before _ s = true := fun w h9 => hts w (List.mem_cons_of_mem _ h9)
  have hown : s.vm.findClass R_Mod = some m.cls := findClass_of_methodNamed B.named
  have hlocks := B.notSynchronized
  subst hsz
  have hD := hD0.self (sz := s.heap.size)
  generalize hAe : va_A (x_Mod ad cs m_thrown m_kind m_steps m_size m_ran m_parts m_taken m_lacked m_decodings m_failures m_at m_end m_many m_wrong m_bytes m_heads m_numbers m_codes m_sizes m_guessed m_results m_values m_states m_came m_boxes m_single m_rows) s.heap.size = A at hD hG ⊢
  have hA : ∀ q : Nat, s.heap.size ≤ q → A q := fun q h => by rw [← hAe]; exact Or.inr h
  have hS : va_S A s.heap s.heap [] := va_S.rf
  have hl := lv_entry ([.ref (ad 0)]) (n := 1) (Nat.le_of_ble_eq_true rfl)
  rw [lg_entry_eq]
  generalize (lg_sl ([.ref (ad 0)]) ++ List.replicate (1 - (lg_sl ([.ref (ad 0)])).length) Slot.unset).toArray = ls at hl ⊢
  have hl : lv_has ls 1 [(0, .ref (ad 0))] := hl
  unfold d_Mod_take at h
  refine lv_aload_n hx hb d_Mod_take_0 rfl (lv_at hl 0 rfl) ?_
  refine va_get (D := (dC, dI)) (ci := 4) (v := .int m_wrong) (C := R_Mod) (T := T_Mod) (N := 27) hx hb hB in_Mod hown hK hP 0 rfl rfl 23 (by decide) (hB _ wd_241) (fun _ h9 => h9) rfl d_Mod_take_1 ?_
  refine lv_if_le (tgt := 9) hx hb d_Mod_take_4 (by decide) (fun c_1 => ?_) (fun c_1 => ?_)
  · have h := (if_pos c_1).symm.trans h
    refine lv_aload_n hx hb d_Mod_take_9 rfl (lv_at hl 0 rfl) ?_
    refine va_get (D := (dC, dI)) (ci := 4) (v := .int m_at) (C := R_Mod) (T := T_Mod) (N := 27) hx hb hB in_Mod hown hK hP 0 rfl rfl 19 (by decide) (hB _ wd_242) (fun _ h9 => h9) rfl d_Mod_take_10 ?_
    refine lv_aload_n hx hb d_Mod_take_13 rfl (lv_at hl 0 rfl) ?_
    refine va_get (D := (dC, dI)) (ci := 4) (v := .int m_end) (C := R_Mod) (T := T_Mod) (N := 27) hx hb hB in_Mod hown hK hP 0 rfl rfl 20 (by decide) (hB _ wd_243) (fun _ h9 => h9) rfl d_Mod_take_14 ?_
    refine lv_icmp_ne (tgt := 27) hx hb d_Mod_take_17 (by decide) (fun c_2 => ?_) (fun c_2 => ?_)
    · have h := (if_neg c_2).symm.trans h
      refine lv_aload_n hx hb d_Mod_take_27 rfl (lv_at hl 0 rfl) ?_
      refine lv_dup hx hb d_Mod_take_28 rfl ?_
      refine va_get (D := (dC, dI)) (ci := 4) (v := .int m_at) (C := R_Mod) (T := T_Mod) (N := 27) hx hb hB in_Mod hown hK hP 0 rfl rfl 19 (by decide) (hB _ wd_242) (fun _ h9 => h9) rfl d_Mod_take_29 ?_
      refine lv_iconst (v := 1) hx hb d_Mod_take_32 (by decide) ?_
      refine lv_iadd hx hb d_Mod_take_33 ?_
      refine va_put (D := (dC, dI)) (ci := 4) (v := .int (m_at + (1 : Int32))) (ty := .int) (C := R_Mod) (T := T_Mod) (N := 27) hx hb hB in_Mod ty_Mod tyok_Mod nd_Mod hown hK hP hD hS 0 rfl rfl 19 (by decide) (hB _ wd_242) (fun _ h9 => h9) rfl (by decide +kernel) rfl rfl (Nat.le_of_ble_eq_true rfl) d_Mod_take_34 (fun H locs hP hD hS => ?_)
      have hP : va_P (dC, dI) vwCl (x_Mod ad cs m_thrown m_kind m_steps m_size m_ran m_parts m_taken m_lacked m_decodings m_failures (m_at + (1 : Int32)) m_end m_many m_wrong m_bytes m_heads m_numbers m_codes m_sizes m_guessed m_results m_values m_states m_came m_boxes m_single m_rows) H := hP
      have hD : va_D A (x_Mod ad cs m_thrown m_kind m_steps m_size m_ran m_parts m_taken m_lacked m_decodings m_failures (m_at + (1 : Int32)) m_end m_many m_wrong m_bytes m_heads m_numbers m_codes m_sizes m_guessed m_results m_values m_states m_came m_boxes m_single m_rows) := hD
      refine lv_aload_n hx hb d_Mod_take_37 rfl (lv_at hl 0 rfl) ?_
      refine va_get (D := (dC, dI)) (ci := 4) (v := .ref (ad 1)) (C := R_Mod) (T := T_Mod) (N := 27) hx hb hB in_Mod hown hK hP 0 rfl rfl 3 (by decide) (hB _ wd_223) (fun _ h9 => h9) rfl d_Mod_take_38 ?_
      refine lv_aload_n hx hb d_Mod_take_41 rfl (lv_at hl 0 rfl) ?_
      refine va_get (D := (dC, dI)) (ci := 4) (v := .int (m_at + (1 : Int32))) (C := R_Mod) (T := T_Mod) (N := 27) hx hb hB in_Mod hown hK hP 0 rfl rfl 19 (by decide) (hB _ wd_242) (fun _ h9 => h9) rfl d_Mod_take_42 ?_
      refine lv_iconst (v := 1) hx hb d_Mod_take_45 (by decide) ?_
      refine lv_isub hx hb d_Mod_take_46 ?_
      obtain ⟨b_3, h⟩ := gI_some h
      refine va_iald hx hb hK hP 1 0 rfl rfl b_3 d_Mod_take_47 ?_
      have h := Option.some.inj h
      subst h
      exact W.iret hx hb hr (fun t ht hW => ⟨⟨_, (), rfl, rfl, AftW_mk hK hP hD ht hW⟩, hS.F ht⟩) hS.2.2 d_Mod_take_48
    · have h := (if_pos c_2).symm.trans h
      refine lv_aload_n hx hb d_Mod_take_20 rfl (lv_at hl 0 rfl) ?_
      refine lv_iconst (v := 1) hx hb d_Mod_take_21 (by decide) ?_
      obtain ⟨o4, ho4, h⟩ := Option.bind_eq_some_iff.mp h
      have hKc := hK.sub (tys' := [((cs 1), .int), ((cs 2), .int), ((cs 3), .int), ((cs 4), .int), ((cs 5), .int), ((cs 6), .boolean), ((cs 7), .int), ((cs 8), .int), ((cs 9), .int), ((cs 10), .int), ((cs 11), .int), ((cs 12), .int), ((cs 13), .int)]) [0, 1, 2, 3, 4, 5, 6, 7, 8, 9, 10, 11, 12] rfl
      have hPc := hP.sub (ws' := x_Mod ad cs m_thrown m_kind m_steps m_size m_ran m_parts m_taken m_lacked m_decodings m_failures m_at m_end m_many m_wrong m_bytes m_heads m_numbers m_codes m_sizes m_guessed m_results m_values m_states m_came m_boxes m_single m_rows) [0, 1, 2, 3, 4, 5, 6, 7, 8, 9, 10, 11, 12, 13] rfl
      have hDc := hD.sub (ws' := x_Mod ad cs m_thrown m_kind m_steps m_size m_ran m_parts m_taken m_lacked m_decodings m_failures m_at m_end m_many m_wrong m_bytes m_heads m_numbers m_codes m_sizes m_guessed m_results m_values m_states m_came m_boxes m_single m_rows) [0, 1, 2, 3, 4, 5, 6, 7, 8, 9, 10, 11, 12, 13] (by decide) rfl
      have hFc := va_free (wc := x_Mod ad cs m_thrown m_kind m_steps m_size m_ran m_parts m_taken m_lacked m_decodings m_failures m_at m_end m_many m_wrong m_bytes m_heads m_numbers m_codes m_sizes m_guessed m_results m_values m_states m_came m_boxes m_single m_rows) hD hS hA [0, 1, 2, 3, 4, 5, 6, 7, 8, 9, 10, 11, 12, 13] rfl
      refine va_callv (va_runV (As := [.int (1 : Int32)]) (rest := []) ⟨hx, hb, hml, hown, hB⟩ (c_Mod_fail l dC dI tt ad cs s.heap.size N (1 : Int32) m_thrown m_kind m_steps m_size m_ran m_parts m_taken m_lacked m_decodings m_failures m_at m_end m_many m_wrong m_bytes m_heads m_numbers m_codes m_sizes m_guessed m_results m_values m_states m_came m_boxes m_single m_rows o4 ho4) (cwV 1 hB (gV wd_247 wd_245 wd_244 wd_226 wd_246) rfl rfl rfl (by decide +kernel) ⟨Nat.le_of_ble_eq_true rfl, Nat.le_of_ble_eq_true rfl⟩) ⟨PreW_blind, va_recv hKc hPc (ci := 4) (q0 := 0) rfl rfl, PreW_mk hKc hPc hDc hG hS hFc⟩ rfl rfl hl.1 rfl (lv_room (Nat.le_of_ble_eq_true rfl)) d_Mod_take_22 ⟨Nat.le_of_ble_eq_true rfl, Nat.le_of_ble_eq_true rfl⟩) hS (fun q _ h => hFc q h) hFc (fun u_4 t H1 locs ht hvm hw hB hz1 hk1 hS => ?_)
      obtain ⟨hP1, hK1, hD1⟩ := hB
      rw [ht] at hP1
      obtain ⟨hP, hD⟩ := va_join (wr := pick (x_Mod ad cs m_thrown m_kind m_steps m_size m_ran m_parts m_taken m_lacked m_decodings m_failures m_at m_end m_many m_wrong m_bytes m_heads m_numbers m_codes m_sizes m_guessed m_results m_values m_states m_came m_boxes m_single m_rows) []) hP hD [0, 1, 2, 3, 4, 5, 6, 7, 8, 9, 10, 11, 12, 13] [] rfl rfl (by decide) (by decide) hk1 hFc hP1 hD1
      generalize H1 = H at hP hS ⊢
      have hP : va_P (dC, dI) vwCl (x_Mod ad cs m_thrown m_kind m_steps m_size m_ran m_parts m_taken m_lacked m_decodings m_failures m_at m_end m_many o4 m_bytes m_heads m_numbers m_codes m_sizes m_guessed m_results m_values m_states m_came m_boxes m_single m_rows) H := hP.sub [0, 1, 2, 3, 4, 5, 6, 7, 8, 9, 10, 11, 12, 13] rfl
      have hD : va_D A (x_Mod ad cs m_thrown m_kind m_steps m_size m_ran m_parts m_taken m_lacked m_decodings m_failures m_at m_end m_many o4 m_bytes m_heads m_numbers m_codes m_sizes m_guessed m_results m_values m_states m_came m_boxes m_single m_rows) := hD.sub [0, 1, 2, 3, 4, 5, 6, 7, 8, 9, 10, 11, 12, 13] (by decide) rfl
      refine lv_iconst (v := 0) hx hb d_Mod_take_25 (by decide) ?_
      have h := Option.some.inj h
      subst h
      exact W.iret hx hb hr (fun t ht hW => ⟨⟨_, (), rfl, rfl, AftW_mk hK hP hD ht hW⟩, hS.F ht⟩) hS.2.2 d_Mod_take_26
  · have h := (if_neg c_1).symm.trans h
    refine lv_iconst (v := 0) hx hb d_Mod_take_7 (by decide) ?_
    have h := Option.some.inj h
    subst h
    exact W.iret hx hb hr (fun t ht hW => ⟨⟨_, (), rfl, rfl, AftW_mk hK hP hD ht hW⟩, hS.F ht⟩) hS.2.2 d_Mod_take_8
def d_Mod_give (N : Nat) (x1 : Int32) (m_many : Int32) (m_wrong : Int32) (m_came : Nat → Int32) : Option (Int32 × (Nat → Int32)) :=
 if m_wrong = 0 then gI m_many 16 (some (m_many + (1 : Int32), upd m_came m_many.toNatClampNeg x1)) else some (m_many, m_came)
abbrev rm_Mod_give : Room := { frames := 0, cells := 0, slots := 0, locals := 0 }
set_option maxHeartbeats 4000000 in
set_option maxRecDepth 100000 in
theorem c_Mod_give (l : Launch) (dC : Nat → ClassId) (dI : Nat → Nat → Nat) (tt : Nat → Nat) (ad : Nat → Nat) (cs : Nat → ClassId) (sz N : Nat) (x1 : Int32) (m_thrown : Int32) (m_kind : Int32) (m_steps : Int32) (m_size : Int32) (m_ran : Int32) (m_parts : Int32) (m_taken : Int32) (m_lacked : Int32) (m_decodings : Int32) (m_failures : Int32) (m_at : Int32) (m_end : Int32) (m_many : Int32) (m_wrong : Int32) (m_bytes : Nat → Int32) (m_heads : Nat → Int32) (m_numbers : Nat → Int32) (m_codes : Nat → Int32) (m_sizes : Nat → Int32) (m_guessed : Nat → Int32) (m_results : Nat → Int32) (m_values : Nat → Int32) (m_states : Nat → Int32) (m_came : Nat → Int32) (m_boxes : Nat → Int32) (m_single : Nat → Int32) (m_rows : Nat → Int32) (out : Int32 × (Nat → Int32)) (h : d_Mod_give N x1 m_many m_wrong m_came = some out) :
    Met l y_Mod_give (w_Mod_give) rm_Mod_give (va_Pc [.ref (ad 0), .int x1] (PreW (dC, dI) [((cs 1), .int), ((cs 2), .int), ((cs 3), .int), ((cs 4), .int), ((cs 5), .int), ((cs 6), .boolean), ((cs 7), .int), ((cs 8), .int), ((cs 9), .int), ((cs 10), .int), ((cs 11), .int), ((cs 12), .int), ((cs 13), .int)] (x_Mod ad cs m_thrown m_kind m_steps m_size m_ran m_parts m_taken m_lacked m_decodings m_failures m_at m_end m_many m_wrong m_bytes m_heads m_numbers m_codes m_sizes m_guessed m_results m_values m_states m_came m_boxes m_single m_rows) sz tt)) (va_Qv (fun (_ : Unit) => True) (fun _ => AftW (dC, dI) [((cs 1), .int), ((cs 2), .int), ((cs 3), .int), ((cs 4), .int), ((cs 5), .int), ((cs 6), .boolean), ((cs 7), .int), ((cs 8), .int), ((cs 9), .int), ((cs 10), .int), ((cs 11), .int), ((cs 12), .int), ((cs 13), .int)] (va_A (x_Mod ad cs m_thrown m_kind m_steps m_size m_ran m_parts m_taken m_lacked m_decodings m_failures m_at m_end m_many m_wrong m_bytes m_heads m_numbers m_codes m_sizes m_guessed m_results m_values m_states m_came m_boxes m_single m_rows) sz) (x_Mod ad cs m_thrown m_kind m_steps m_size m_ran m_parts m_taken m_lacked m_decodings m_failures m_at m_end out.1 m_wrong m_bytes m_heads m_numbers m_codes m_sizes m_guessed m_results m_values m_states out.2 m_boxes m_single m_rows)) (va_A (x_Mod ad cs m_thrown m_kind m_steps m_size m_ran m_parts m_taken m_lacked m_decodings m_failures m_at m_end m_many m_wrong m_bytes m_heads m_numbers m_codes m_sizes m_guessed m_results m_values m_states m_came m_boxes m_single m_rows) sz)) 0 0 (va_A (x_Mod ad cs m_thrown m_kind m_steps m_size m_ran m_parts m_taken m_lacked m_decodings m_failures m_at m_end m_many m_wrong m_bytes m_heads m_numbers m_codes m_sizes m_guessed m_results m_values m_states m_came m_boxes m_single m_rows) sz) := by
  refine Met.ofW (cc := k_Mod_give) (maxL := 2) (ret := none) (by decide) rfl ?_
  intro p e s m args below meth c s₁ B hml hv
  obtain ⟨rfl, hsz, hP, hK, hD0, hG⟩ := hv
  have hx := B.exec
  have hb := B.bytes
  have hr := B.returns
  have hts := atoms_spec (ws := (w_Mod_give)) B.pre
  have hB : ∀ w ∈ BIG, w.before _ s = true := fun w h9 => hts w (List.mem_cons_of_mem _ h9)
  have hown : s.vm.findClass R_Mod = some m.cls := findClass_of_methodNamed B.named
  have hlocks := B.notSynchronized
  subst hsz
  have hD := hD0.self (sz := s.heap.size)
  generalize hAe : va_A (x_Mod ad cs m_thrown m_kind m_steps m_size m_ran m_parts m_taken m_lacked m_decodings m_failures m_at m_end m_many m_wrong m_bytes m_heads m_numbers m_codes m_sizes m_guessed m_results m_values m_states m_came m_boxes m_single m_rows) s.heap.size = A at hD hG ⊢
  have hA : ∀ q : Nat, s.heap.size ≤ q → A q := fun q h => by rw [← hAe]; exact Or.inr h
  have hS : va_S A s.heap s.heap [] := va_S.rf
  have hl := lv_entry ([.ref (ad 0), .int x1]) (n := 2) (Nat.le_of_ble_eq_true rfl)
  rw [lg_entry_eq]
  generalize (lg_sl ([.ref (ad 0), .int x1]) ++ List.replicate (2 - (lg_sl ([.ref (ad 0), .int x1])).length) Slot.unset).toArray = ls at hl ⊢
  have hl : lv_has ls 2 [(0, .ref (ad 0)), (1, .int x1)] := hl
  unfold d_Mod_give at h
  refine lv_aload_n hx hb d_Mod_give_0 rfl (lv_at hl 0 rfl) ?_
  refine va_get (D := (dC, dI)) (ci := 4) (v := .int m_wrong) (C := R_Mod) (T := T_Mod) (N := 27) hx hb hB in_Mod hown hK hP 0 rfl rfl 23 (by decide) (hB _ wd_241) (fun _ h9 => h9) rfl d_Mod_give_1 ?_
  refine lv_if_ne (tgt := 27) hx hb d_Mod_give_4 (by decide) (fun c_1 => ?_) (fun c_1 => ?_)
  · have h := (if_neg c_1).symm.trans h
    have h := Option.some.inj h
    subst h
    exact W.vret hx hb hr (fun t ht hW => ⟨⟨(), rfl, trivial, AftW_mk hK hP hD ht hW⟩, hS.F ht⟩) hS.2.2 d_Mod_give_27
  · have h := (if_pos c_1).symm.trans h
    refine lv_aload_n hx hb d_Mod_give_7 rfl (lv_at hl 0 rfl) ?_
    refine va_get (D := (dC, dI)) (ci := 4) (v := .ref (ad 10)) (C := R_Mod) (T := T_Mod) (N := 27) hx hb hB in_Mod hown hK hP 0 rfl rfl 22 (by decide) (hB _ wd_248) (fun _ h9 => h9) rfl d_Mod_give_8 ?_
    refine lv_aload_n hx hb d_Mod_give_11 rfl (lv_at hl 0 rfl) ?_
    refine va_get (D := (dC, dI)) (ci := 4) (v := .int m_many) (C := R_Mod) (T := T_Mod) (N := 27) hx hb hB in_Mod hown hK hP 0 rfl rfl 21 (by decide) (hB _ wd_249) (fun _ h9 => h9) rfl d_Mod_give_12 ?_
    refine lv_iload_n hx hb d_Mod_give_15 rfl (lv_at hl 1 rfl) ?_
    obtain ⟨b_2, h⟩ := gI_some h
    refine va_iast hx hb hK hP hD hS 10 9 rfl rfl b_2 d_Mod_give_16 (fun H locs hP hD hS => ?_)
    have hP : va_P (dC, dI) vwCl (x_Mod ad cs m_thrown m_kind m_steps m_size m_ran m_parts m_taken m_lacked m_decodings m_failures m_at m_end m_many m_wrong m_bytes m_heads m_numbers m_codes m_sizes m_guessed m_results m_values m_states (upd m_came m_many.toNatClampNeg x1) m_boxes m_single m_rows) H := hP
    have hD : va_D A (x_Mod ad cs m_thrown m_kind m_steps m_size m_ran m_parts m_taken m_lacked m_decodings m_failures m_at m_end m_many m_wrong m_bytes m_heads m_numbers m_codes m_sizes m_guessed m_results m_values m_states (upd m_came m_many.toNatClampNeg x1) m_boxes m_single m_rows) := hD
    refine lv_aload_n hx hb d_Mod_give_17 rfl (lv_at hl 0 rfl) ?_
    refine lv_dup hx hb d_Mod_give_18 rfl ?_
    refine va_get (D := (dC, dI)) (ci := 4) (v := .int m_many) (C := R_Mod) (T := T_Mod) (N := 27) hx hb hB in_Mod hown hK hP 0 rfl rfl 21 (by decide) (hB _ wd_249) (fun _ h9 => h9) rfl d_Mod_give_19 ?_
    refine lv_iconst (v := 1) hx hb d_Mod_give_22 (by decide) ?_
    refine lv_iadd hx hb d_Mod_give_23 ?_
    refine va_put (D := (dC, dI)) (ci := 4) (v := .int (m_many + (1 : Int32))) (ty := .int) (C := R_Mod) (T := T_Mod) (N := 27) hx hb hB in_Mod ty_Mod tyok_Mod nd_Mod hown hK hP hD hS 0 rfl rfl 21 (by decide) (hB _ wd_249) (fun _ h9 => h9) rfl (by decide +kernel) rfl rfl (Nat.le_of_ble_eq_true rfl) d_Mod_give_24 (fun H locs hP hD hS => ?_)
    have hP : va_P (dC, dI) vwCl (x_Mod ad cs m_thrown m_kind m_steps m_size m_ran m_parts m_taken m_lacked m_decodings m_failures m_at m_end (m_many + (1 : Int32)) m_wrong m_bytes m_heads m_numbers m_codes m_sizes m_guessed m_results m_values m_states (upd m_came m_many.toNatClampNeg x1) m_boxes m_single m_rows) H := hP
    have hD : va_D A (x_Mod ad cs m_thrown m_kind m_steps m_size m_ran m_parts m_taken m_lacked m_decodings m_failures m_at m_end (m_many + (1 : Int32)) m_wrong m_bytes m_heads m_numbers m_codes m_sizes m_guessed m_results m_values m_states (upd m_came m_many.toNatClampNeg x1) m_boxes m_single m_rows) := hD
    have h := Option.some.inj h
    subst h
    exact W.vret hx hb hr (fun t ht hW => ⟨⟨(), rfl, trivial, AftW_mk hK hP hD ht hW⟩, hS.F ht⟩) hS.2.2 d_Mod_give_27
def d_Mod_goes (N : Nat) (m_many : Int32) (m_wrong : Int32) : Option (Int32) :=
 if m_wrong = 0 then if (16 : Int32) ≤ m_many then some (0 : Int32) else some (1 : Int32) else some (0 : Int32)
abbrev rm_Mod_goes : Room := { frames := 0, cells := 0, slots := 0, locals := 0 }
set_option maxHeartbeats 4000000 in
set_option maxRecDepth 100000 in
theorem c_Mod_goes (l : Launch) (dC : Nat → ClassId) (dI : Nat → Nat → Nat) (tt : Nat → Nat) (ad : Nat → Nat) (cs : Nat → ClassId) (sz N : Nat) (m_thrown : Int32) (m_kind : Int32) (m_steps : Int32) (m_size : Int32) (m_ran : Int32) (m_parts : Int32) (m_taken : Int32) (m_lacked : Int32) (m_decodings : Int32) (m_failures : Int32) (m_at : Int32) (m_end : Int32) (m_many : Int32) (m_wrong : Int32) (m_bytes : Nat → Int32) (m_heads : Nat → Int32) (m_numbers : Nat → Int32) (m_codes : Nat → Int32) (m_sizes : Nat → Int32) (m_guessed : Nat → Int32) (m_results : Nat → Int32) (m_values : Nat → Int32) (m_states : Nat → Int32) (m_came : Nat → Int32) (m_boxes : Nat → Int32) (m_single : Nat → Int32) (m_rows : Nat → Int32) (out : Int32) (h : d_Mod_goes N m_many m_wrong = some out) :
    Met l y_Mod_goes (w_Mod_goes) rm_Mod_goes (va_Pc [.ref (ad 0)] (PreW (dC, dI) [((cs 1), .int), ((cs 2), .int), ((cs 3), .int), ((cs 4), .int), ((cs 5), .int), ((cs 6), .boolean), ((cs 7), .int), ((cs 8), .int), ((cs 9), .int), ((cs 10), .int), ((cs 11), .int), ((cs 12), .int), ((cs 13), .int)] (x_Mod ad cs m_thrown m_kind m_steps m_size m_ran m_parts m_taken m_lacked m_decodings m_failures m_at m_end m_many m_wrong m_bytes m_heads m_numbers m_codes m_sizes m_guessed m_results m_values m_states m_came m_boxes m_single m_rows) sz tt)) (va_Qi (fun (r : Int32) (_ : Unit) => r = out) (fun _ => AftW (dC, dI) [((cs 1), .int), ((cs 2), .int), ((cs 3), .int), ((cs 4), .int), ((cs 5), .int), ((cs 6), .boolean), ((cs 7), .int), ((cs 8), .int), ((cs 9), .int), ((cs 10), .int), ((cs 11), .int), ((cs 12), .int), ((cs 13), .int)] (va_A (x_Mod ad cs m_thrown m_kind m_steps m_size m_ran m_parts m_taken m_lacked m_decodings m_failures m_at m_end m_many m_wrong m_bytes m_heads m_numbers m_codes m_sizes m_guessed m_results m_values m_states m_came m_boxes m_single m_rows) sz) (x_Mod ad cs m_thrown m_kind m_steps m_size m_ran m_parts m_taken m_lacked m_decodings m_failures m_at m_end m_many m_wrong m_bytes m_heads m_numbers m_codes m_sizes m_guessed m_results m_values m_states m_came m_boxes m_single m_rows)) (va_A (x_Mod ad cs m_thrown m_kind m_steps m_size m_ran m_parts m_taken m_lacked m_decodings m_failures m_at m_end m_many m_wrong m_bytes m_heads m_numbers m_codes m_sizes m_guessed m_results m_values m_states m_came m_boxes m_single m_rows) sz)) 0 0 (va_A (x_Mod ad cs m_thrown m_kind m_steps m_size m_ran m_parts m_taken m_lacked m_decodings m_failures m_at m_end m_many m_wrong m_bytes m_heads m_numbers m_codes m_sizes m_guessed m_results m_values m_states m_came m_boxes m_single m_rows) sz) := by
  refine Met.ofW (cc := k_Mod_goes) (maxL := 1) (ret := (some .boolean)) (by decide) rfl ?_
  intro p e s m args below meth c s₁ B hml hv
  obtain ⟨rfl, hsz, hP, hK, hD0, hG⟩ := hv
  have hx := B.exec
  have hb := B.bytes
  have hr := B.returns
  have hts := atoms_spec (ws := (w_Mod_goes)) B.pre
  have hB : ∀ w ∈ BIG, w.before _ s = true := fun w h9 => hts w (List.mem_cons_of_mem _ h9)
  have hown : s.vm.findClass R_Mod = some m.cls := findClass_of_methodNamed B.named
  have hlocks := B.notSynchronized
  subst hsz
  have hD := hD0.self (sz := s.heap.size)
  generalize hAe : va_A (x_Mod ad cs m_thrown m_kind m_steps m_size m_ran m_parts m_taken m_lacked m_decodings m_failures m_at m_end m_many m_wrong m_bytes m_heads m_numbers m_codes m_sizes m_guessed m_results m_values m_states m_came m_boxes m_single m_rows) s.heap.size = A at hD hG ⊢
  have hA : ∀ q : Nat, s.heap.size ≤ q → A q := fun q h => by rw [← hAe]; exact Or.inr h
  have hS : va_S A s.heap s.heap [] := va_S.rf
  have hl := lv_entry ([.ref (ad 0)]) (n := 1) (Nat.le_of_ble_eq_true rfl)
  rw [lg_entry_eq]
  generalize (lg_sl ([.ref (ad 0)]) ++ List.replicate (1 - (lg_sl ([.ref (ad 0)])).length) Slot.unset).toArray = ls at hl ⊢
  have hl : lv_has ls 1 [(0, .ref (ad 0))] := hl
  unfold d_Mod_goes at h
  refine lv_aload_n hx hb d_Mod_goes_0 rfl (lv_at hl 0 rfl) ?_
  refine va_get (D := (dC, dI)) (ci := 4) (v := .int m_wrong) (C := R_Mod) (T := T_Mod) (N := 27) hx hb hB in_Mod hown hK hP 0 rfl rfl 23 (by decide) (hB _ wd_241) (fun _ h9 => h9) rfl d_Mod_goes_1 ?_
  refine lv_if_ne (tgt := 20) hx hb d_Mod_goes_4 (by decide) (fun c_1 => ?_) (fun c_1 => ?_)
  · have h := (if_neg c_1).symm.trans h
    refine lv_iconst (v := 0) hx hb d_Mod_goes_20 (by decide) ?_
    have h := Option.some.inj h
    subst h
    exact W.zret hx hb hr rfl (fun t ht hW => ⟨⟨_, (), rfl, rfl, AftW_mk hK hP hD ht hW⟩, hS.F ht⟩) hS.2.2 d_Mod_goes_21
  · have h := (if_pos c_1).symm.trans h
    refine lv_aload_n hx hb d_Mod_goes_7 rfl (lv_at hl 0 rfl) ?_
    refine va_get (D := (dC, dI)) (ci := 4) (v := .int m_many) (C := R_Mod) (T := T_Mod) (N := 27) hx hb hB in_Mod hown hK hP 0 rfl rfl 21 (by decide) (hB _ wd_249) (fun _ h9 => h9) rfl d_Mod_goes_8 ?_
    refine lv_bipush (v := 16) hx hb d_Mod_goes_11 (by decide) ?_
    refine lv_icmp_ge (tgt := 20) hx hb d_Mod_goes_13 (by decide) (fun c_2 => ?_) (fun c_2 => ?_)
    · have h := (if_pos c_2).symm.trans h
      refine lv_iconst (v := 0) hx hb d_Mod_goes_20 (by decide) ?_
      have h := Option.some.inj h
      subst h
      exact W.zret hx hb hr rfl (fun t ht hW => ⟨⟨_, (), rfl, rfl, AftW_mk hK hP hD ht hW⟩, hS.F ht⟩) hS.2.2 d_Mod_goes_21
    · have h := (if_neg c_2).symm.trans h
      refine lv_iconst (v := 1) hx hb d_Mod_goes_16 (by decide) ?_
      refine lv_goto (tgt := 21) hx hb d_Mod_goes_17 (by decide) ?_
      have h := Option.some.inj h
      subst h
      exact W.zret hx hb hr rfl (fun t ht hW => ⟨⟨_, (), rfl, rfl, AftW_mk hK hP hD ht hW⟩, hS.F ht⟩) hS.2.2 d_Mod_goes_21
def d_Mod_repeated_L28 (N : Nat) (y28_1 : Int32) (y28_2 : Int32) (m_end : Int32) (m_bytes : Nat → Int32) : Nat → Int32 → Int32 → Int32 → Int32 → (Nat → Int32) → Option (Int32 × Int32 × Int32 × (Nat → Int32))
  | 0, _, _, _, _, _ => none
  | n + 1, y28_3, m_at_28, m_many_28, m_wrong_28, m_came_28 => if y28_1 ≤ y28_3 then some (m_at_28, m_many_28, m_wrong_28, m_came_28) else (d_Mod_goes N m_many_28 m_wrong_28).bind (fun o29002 => if o29002 = 0 then some (m_at_28, m_many_28, m_wrong_28, m_came_28) else (d_Mod_give N y28_2 m_many_28 m_wrong_28 m_came_28).bind (fun o29004 => d_Mod_repeated_L28 N y28_1 y28_2 m_end m_bytes n (y28_3 + 1) m_at_28 o29004.1 m_wrong_28 o29004.2))
def d_Mod_repeated (N : Nat) (m_at : Int32) (m_end : Int32) (m_many : Int32) (m_wrong : Int32) (m_bytes : Nat → Int32) (m_came : Nat → Int32) : Option (Int32 × Int32 × Int32 × (Nat → Int32)) :=
 (d_Mod_take N m_at m_end m_wrong m_bytes).bind (fun o1 => (d_Mod_take N o1.2.1 m_end o1.2.2 m_bytes).bind (fun o2 => if (m_many + o1.1) ≤ (16 : Int32) then (d_Mod_repeated_L28 N o1.1 o2.1 m_end m_bytes N (0 : Int32) o2.2.1 m_many o2.2.2 m_came).bind (fun s28 => some (s28.1, s28.2.1, s28.2.2.1, s28.2.2.2)) else (d_Mod_fail N (1 : Int32) o2.2.2).bind (fun o8 => (d_Mod_repeated_L28 N o1.1 o2.1 m_end m_bytes N (0 : Int32) o2.2.1 m_many o8 m_came).bind (fun s28 => some (s28.1, s28.2.1, s28.2.2.1, s28.2.2.2)))))
abbrev rm_Mod_repeated : Room := { frames := 2, cells := 0, slots := 0, locals := 41 }
set_option maxHeartbeats 4000000 in
set_option maxRecDepth 100000 in
theorem c_Mod_repeated (l : Launch) (dC : Nat → ClassId) (dI : Nat → Nat → Nat) (tt : Nat → Nat) (ad : Nat → Nat) (cs : Nat → ClassId) (sz N : Nat) (m_thrown : Int32) (m_kind : Int32) (m_steps : Int32) (m_size : Int32) (m_ran : Int32) (m_parts : Int32) (m_taken : Int32) (m_lacked : Int32) (m_decodings : Int32) (m_failures : Int32) (m_at : Int32) (m_end : Int32) (m_many : Int32) (m_wrong : Int32) (m_bytes : Nat → Int32) (m_heads : Nat → Int32) (m_numbers : Nat → Int32) (m_codes : Nat → Int32) (m_sizes : Nat → Int32) (m_guessed : Nat → Int32) (m_results : Nat → Int32) (m_values : Nat → Int32) (m_states : Nat → Int32) (m_came : Nat → Int32) (m_boxes : Nat → Int32) (m_single : Nat → Int32) (m_rows : Nat → Int32) (out : Int32 × Int32 × Int32 × (Nat → Int32)) (h : d_Mod_repeated N m_at m_end m_many m_wrong m_bytes m_came = some out) :
    Met l y_Mod_repeated (w_Mod_repeated) rm_Mod_repeated (va_Pc [.ref (ad 0)] (PreW (dC, dI) [((cs 1), .int), ((cs 2), .int), ((cs 3), .int), ((cs 4), .int), ((cs 5), .int), ((cs 6), .boolean), ((cs 7), .int), ((cs 8), .int), ((cs 9), .int), ((cs 10), .int), ((cs 11), .int), ((cs 12), .int), ((cs 13), .int)] (x_Mod ad cs m_thrown m_kind m_steps m_size m_ran m_parts m_taken m_lacked m_decodings m_failures m_at m_end m_many m_wrong m_bytes m_heads m_numbers m_codes m_sizes m_guessed m_results m_values m_states m_came m_boxes m_single m_rows) sz tt)) (va_Qv (fun (_ : Unit) => True) (fun _ => AftW (dC, dI) [((cs 1), .int), ((cs 2), .int), ((cs 3), .int), ((cs 4), .int), ((cs 5), .int), ((cs 6), .boolean), ((cs 7), .int), ((cs 8), .int), ((cs 9), .int), ((cs 10), .int), ((cs 11), .int), ((cs 12), .int), ((cs 13), .int)] (va_A (x_Mod ad cs m_thrown m_kind m_steps m_size m_ran m_parts m_taken m_lacked m_decodings m_failures m_at m_end m_many m_wrong m_bytes m_heads m_numbers m_codes m_sizes m_guessed m_results m_values m_states m_came m_boxes m_single m_rows) sz) (x_Mod ad cs m_thrown m_kind m_steps m_size m_ran m_parts m_taken m_lacked m_decodings m_failures out.1 m_end out.2.1 out.2.2.1 m_bytes m_heads m_numbers m_codes m_sizes m_guessed m_results m_values m_states out.2.2.2 m_boxes m_single m_rows)) (va_A (x_Mod ad cs m_thrown m_kind m_steps m_size m_ran m_parts m_taken m_lacked m_decodings m_failures m_at m_end m_many m_wrong m_bytes m_heads m_numbers m_codes m_sizes m_guessed m_results m_values m_states m_came m_boxes m_single m_rows) sz)) 0 0 (va_A (x_Mod ad cs m_thrown m_kind m_steps m_size m_ran m_parts m_taken m_lacked m_decodings m_failures m_at m_end m_many m_wrong m_bytes m_heads m_numbers m_codes m_sizes m_guessed m_results m_values m_states m_came m_boxes m_single m_rows) sz) := by
  refine Met.ofW (cc := k_Mod_repeated) (maxL := 4) (ret := none) (by decide) rfl ?_
  intro p e s m args below meth c s₁ B hml hv
  obtain ⟨rfl, hsz, hP, hK, hD0, hG⟩ := hv
  have hx := B.exec
  have hb := B.bytes
  have hr := B.returns
  have hts := atoms_spec (ws := (w_Mod_repeated)) B.pre
  have hB : ∀ w ∈ BIG, w.before _ s = true := fun w h9 => hts w (List.mem_cons_of_mem _ h9)
  have hown : s.vm.findClass R_Mod = some m.cls := findClass_of_methodNamed B.named
  have hlocks := B.notSynchronized
  subst hsz
  have hD := hD0.self (sz := s.heap.size)
  generalize hAe : va_A (x_Mod ad cs m_thrown m_kind m_steps m_size m_ran m_parts m_taken m_lacked m_decodings m_failures m_at m_end m_many m_wrong m_bytes m_heads m_numbers m_codes m_sizes m_guessed m_results m_values m_states m_came m_boxes m_single m_rows) s.heap.size = A at hD hG ⊢
  have hA : ∀ q : Nat, s.heap.size ≤ q → A q := fun q h => by rw [← hAe]; exact Or.inr h
  have hS : va_S A s.heap s.heap [] := va_S.rf
  have hl := lv_entry ([.ref (ad 0)]) (n := 4) (Nat.le_of_ble_eq_true rfl)
  rw [lg_entry_eq]
  generalize (lg_sl ([.ref (ad 0)]) ++ List.replicate (4 - (lg_sl ([.ref (ad 0)])).length) Slot.unset).toArray = ls at hl ⊢
  have hl : lv_has ls 4 [(0, .ref (ad 0))] := hl
  unfold d_Mod_repeated at h
  refine lv_aload_n hx hb d_Mod_repeated_0 rfl (lv_at hl 0 rfl) ?_
  obtain ⟨o1, ho1, h⟩ := Option.bind_eq_some_iff.mp h
  have hKc := hK.sub (tys' := [((cs 1), .int), ((cs 2), .int), ((cs 3), .int), ((cs 4), .int), ((cs 5), .int), ((cs 6), .boolean), ((cs 7), .int), ((cs 8), .int), ((cs 9), .int), ((cs 10), .int), ((cs 11), .int), ((cs 12), .int), ((cs 13), .int)]) [0, 1, 2, 3, 4, 5, 6, 7, 8, 9, 10, 11, 12] rfl
  have hPc := hP.sub (ws' := x_Mod ad cs m_thrown m_kind m_steps m_size m_ran m_parts m_taken m_lacked m_decodings m_failures m_at m_end m_many m_wrong m_bytes m_heads m_numbers m_codes m_sizes m_guessed m_results m_values m_states m_came m_boxes m_single m_rows) [0, 1, 2, 3, 4, 5, 6, 7, 8, 9, 10, 11, 12, 13] rfl
  have hDc := hD.sub (ws' := x_Mod ad cs m_thrown m_kind m_steps m_size m_ran m_parts m_taken m_lacked m_decodings m_failures m_at m_end m_many m_wrong m_bytes m_heads m_numbers m_codes m_sizes m_guessed m_results m_values m_states m_came m_boxes m_single m_rows) [0, 1, 2, 3, 4, 5, 6, 7, 8, 9, 10, 11, 12, 13] (by decide) rfl
  have hFc := va_free (wc := x_Mod ad cs m_thrown m_kind m_steps m_size m_ran m_parts m_taken m_lacked m_decodings m_failures m_at m_end m_many m_wrong m_bytes m_heads m_numbers m_codes m_sizes m_guessed m_results m_values m_states m_came m_boxes m_single m_rows) hD hS hA [0, 1, 2, 3, 4, 5, 6, 7, 8, 9, 10, 11, 12, 13] rfl
  refine va_calli (va_runV (As := []) (rest := []) ⟨hx, hb, hml, hown, hB⟩ (c_Mod_take l dC dI tt ad cs s.heap.size N m_thrown m_kind m_steps m_size m_ran m_parts m_taken m_lacked m_decodings m_failures m_at m_end m_many m_wrong m_bytes m_heads m_numbers m_codes m_sizes m_guessed m_results m_values m_states m_came m_boxes m_single m_rows o1 ho1) (cwV 0 hB (gV wd_253 wd_251 wd_250 wd_226 wd_252) rfl rfl rfl (by decide +kernel) ⟨Nat.le_of_ble_eq_true rfl, Nat.le_of_ble_eq_true rfl⟩) ⟨PreW_blind, va_recv hKc hPc (ci := 4) (q0 := 0) rfl rfl, PreW_mk hKc hPc hDc hG hS hFc⟩ rfl rfl hl.1 rfl (lv_room (Nat.le_of_ble_eq_true rfl)) d_Mod_repeated_1 ⟨Nat.le_of_ble_eq_true rfl, Nat.le_of_ble_eq_true rfl⟩) hS (fun q _ h => hFc q h) hFc (fun r_1 u_1 t H1 locs ht hvm hw hB hz1 hk1 hS => ?_)
  have hw := hw.symm
  subst hw
  obtain ⟨hP1, hK1, hD1⟩ := hB
  rw [ht] at hP1
  obtain ⟨hP, hD⟩ := va_join (wr := pick (x_Mod ad cs m_thrown m_kind m_steps m_size m_ran m_parts m_taken m_lacked m_decodings m_failures m_at m_end m_many m_wrong m_bytes m_heads m_numbers m_codes m_sizes m_guessed m_results m_values m_states m_came m_boxes m_single m_rows) []) hP hD [0, 1, 2, 3, 4, 5, 6, 7, 8, 9, 10, 11, 12, 13] [] rfl rfl (by decide) (by decide) hk1 hFc hP1 hD1
  generalize H1 = H at hP hS ⊢
  have hP : va_P (dC, dI) vwCl (x_Mod ad cs m_thrown m_kind m_steps m_size m_ran m_parts m_taken m_lacked m_decodings m_failures o1.2.1 m_end m_many o1.2.2 m_bytes m_heads m_numbers m_codes m_sizes m_guessed m_results m_values m_states m_came m_boxes m_single m_rows) H := hP.sub [0, 1, 2, 3, 4, 5, 6, 7, 8, 9, 10, 11, 12, 13] rfl
  have hD : va_D A (x_Mod ad cs m_thrown m_kind m_steps m_size m_ran m_parts m_taken m_lacked m_decodings m_failures o1.2.1 m_end m_many o1.2.2 m_bytes m_heads m_numbers m_codes m_sizes m_guessed m_results m_values m_states m_came m_boxes m_single m_rows) := hD.sub [0, 1, 2, 3, 4, 5, 6, 7, 8, 9, 10, 11, 12, 13] (by decide) rfl
  refine lv_istore_n (lv' := [(1, .int o1.1), (0, .ref (ad 0))]) hx hb d_Mod_repeated_4 rfl hl (by decide) rfl (fun ls hl => ?_)
  refine lv_aload_n hx hb d_Mod_repeated_5 rfl (lv_at hl 1 rfl) ?_
  obtain ⟨o2, ho2, h⟩ := Option.bind_eq_some_iff.mp h
  have hKc := hK.sub (tys' := [((cs 1), .int), ((cs 2), .int), ((cs 3), .int), ((cs 4), .int), ((cs 5), .int), ((cs 6), .boolean), ((cs 7), .int), ((cs 8), .int), ((cs 9), .int), ((cs 10), .int), ((cs 11), .int), ((cs 12), .int), ((cs 13), .int)]) [0, 1, 2, 3, 4, 5, 6, 7, 8, 9, 10, 11, 12] rfl
  have hPc := hP.sub (ws' := x_Mod ad cs m_thrown m_kind m_steps m_size m_ran m_parts m_taken m_lacked m_decodings m_failures o1.2.1 m_end m_many o1.2.2 m_bytes m_heads m_numbers m_codes m_sizes m_guessed m_results m_values m_states m_came m_boxes m_single m_rows) [0, 1, 2, 3, 4, 5, 6, 7, 8, 9, 10, 11, 12, 13] rfl
  have hDc := hD.sub (ws' := x_Mod ad cs m_thrown m_kind m_steps m_size m_ran m_parts m_taken m_lacked m_decodings m_failures o1.2.1 m_end m_many o1.2.2 m_bytes m_heads m_numbers m_codes m_sizes m_guessed m_results m_values m_states m_came m_boxes m_single m_rows) [0, 1, 2, 3, 4, 5, 6, 7, 8, 9, 10, 11, 12, 13] (by decide) rfl
  have hFc := va_free (wc := x_Mod ad cs m_thrown m_kind m_steps m_size m_ran m_parts m_taken m_lacked m_decodings m_failures o1.2.1 m_end m_many o1.2.2 m_bytes m_heads m_numbers m_codes m_sizes m_guessed m_results m_values m_states m_came m_boxes m_single m_rows) hD hS hA [0, 1, 2, 3, 4, 5, 6, 7, 8, 9, 10, 11, 12, 13] rfl
  refine va_calli (va_runV (As := []) (rest := []) ⟨hx, hb, hml, hown, hB⟩ (c_Mod_take l dC dI tt ad cs H.size N m_thrown m_kind m_steps m_size m_ran m_parts m_taken m_lacked m_decodings m_failures o1.2.1 m_end m_many o1.2.2 m_bytes m_heads m_numbers m_codes m_sizes m_guessed m_results m_values m_states m_came m_boxes m_single m_rows o2 ho2) (cwV 0 hB (gV wd_253 wd_251 wd_250 wd_226 wd_252) rfl rfl rfl (by decide +kernel) ⟨Nat.le_of_ble_eq_true rfl, Nat.le_of_ble_eq_true rfl⟩) ⟨PreW_blind, va_recv hKc hPc (ci := 4) (q0 := 0) rfl rfl, PreW_mk hKc hPc hDc hG hS hFc⟩ rfl rfl hl.1 rfl (lv_room (Nat.le_of_ble_eq_true rfl)) d_Mod_repeated_6 ⟨Nat.le_of_ble_eq_true rfl, Nat.le_of_ble_eq_true rfl⟩) hS (fun q _ h => hFc q h) hFc (fun r_2 u_2 t H1 locs ht hvm hw hB hz1 hk1 hS => ?_)
  have hw := hw.symm
  subst hw
  obtain ⟨hP1, hK1, hD1⟩ := hB
  rw [ht] at hP1
  obtain ⟨hP, hD⟩ := va_join (wr := pick (x_Mod ad cs m_thrown m_kind m_steps m_size m_ran m_parts m_taken m_lacked m_decodings m_failures o1.2.1 m_end m_many o1.2.2 m_bytes m_heads m_numbers m_codes m_sizes m_guessed m_results m_values m_states m_came m_boxes m_single m_rows) []) hP hD [0, 1, 2, 3, 4, 5, 6, 7, 8, 9, 10, 11, 12, 13] [] rfl rfl (by decide) (by decide) hk1 hFc hP1 hD1
  generalize H1 = H at hP hS ⊢
  have hP : va_P (dC, dI) vwCl (x_Mod ad cs m_thrown m_kind m_steps m_size m_ran m_parts m_taken m_lacked m_decodings m_failures o2.2.1 m_end m_many o2.2.2 m_bytes m_heads m_numbers m_codes m_sizes m_guessed m_results m_values m_states m_came m_boxes m_single m_rows) H := hP.sub [0, 1, 2, 3, 4, 5, 6, 7, 8, 9, 10, 11, 12, 13] rfl
  have hD : va_D A (x_Mod ad cs m_thrown m_kind m_steps m_size m_ran m_parts m_taken m_lacked m_decodings m_failures o2.2.1 m_end m_many o2.2.2 m_bytes m_heads m_numbers m_codes m_sizes m_guessed m_results m_values m_states m_came m_boxes m_single m_rows) := hD.sub [0, 1, 2, 3, 4, 5, 6, 7, 8, 9, 10, 11, 12, 13] (by decide) rfl
  refine lv_istore_n (lv' := [(2, .int o2.1), (1, .int o1.1), (0, .ref (ad 0))]) hx hb d_Mod_repeated_9 rfl hl (by decide) rfl (fun ls hl => ?_)
  refine lv_aload_n hx hb d_Mod_repeated_10 rfl (lv_at hl 2 rfl) ?_
  refine va_get (D := (dC, dI)) (ci := 4) (v := .int m_many) (C := R_Mod) (T := T_Mod) (N := 27) hx hb hB in_Mod hown hK hP 0 rfl rfl 21 (by decide) (hB _ wd_249) (fun _ h9 => h9) rfl d_Mod_repeated_11 ?_
  refine lv_iload_n hx hb d_Mod_repeated_14 rfl (lv_at hl 1 rfl) ?_
  refine lv_iadd hx hb d_Mod_repeated_15 ?_
  refine lv_bipush (v := 16) hx hb d_Mod_repeated_16 (by decide) ?_
  refine lv_icmp_le (tgt := 26) hx hb d_Mod_repeated_18 (by decide) (fun c_3 => ?_) (fun c_3 => ?_)
  · have h := (if_pos c_3).symm.trans h
    refine lv_iconst (v := 0) hx hb d_Mod_repeated_26 (by decide) ?_
    refine lv_istore_n (lv' := [(3, .int (0 : Int32)), (2, .int o2.1), (1, .int o1.1), (0, .ref (ad 0))]) hx hb d_Mod_repeated_27 rfl hl (by decide) rfl (fun ls hl => ?_)
    obtain ⟨s28, hs28, h⟩ := Option.bind_eq_some_iff.mp h
    have X28 : ∀ (H : Heap) (locs : List Loc) (ls : Array Slot), lv_has ls 4 [] → va_P (dC, dI) vwCl (x_Mod ad cs m_thrown m_kind m_steps m_size m_ran m_parts m_taken m_lacked m_decodings m_failures s28.1 m_end s28.2.1 s28.2.2.1 m_bytes m_heads m_numbers m_codes m_sizes m_guessed m_results m_values m_states s28.2.2.2 m_boxes m_single m_rows) H → va_D A (x_Mod ad cs m_thrown m_kind m_steps m_size m_ran m_parts m_taken m_lacked m_decodings m_failures s28.1 m_end s28.2.1 s28.2.2.1 m_bytes m_heads m_numbers m_codes m_sizes m_guessed m_results m_values m_states s28.2.2.2 m_boxes m_single m_rows) → va_S A s.heap H locs → W p l e (headSpec (w_Mod_repeated) rm_Mod_repeated).room s m ([.ref (ad 0)] : List Value).toArray below meth c H locs 0 0 (MQ below (va_Qv (fun (_ : Unit) => True) (fun _ => AftW (dC, dI) [((cs 1), .int), ((cs 2), .int), ((cs 3), .int), ((cs 4), .int), ((cs 5), .int), ((cs 6), .boolean), ((cs 7), .int), ((cs 8), .int), ((cs 9), .int), ((cs 10), .int), ((cs 11), .int), ((cs 12), .int), ((cs 13), .int)] A (x_Mod ad cs m_thrown m_kind m_steps m_size m_ran m_parts m_taken m_lacked m_decodings m_failures out.1 m_end out.2.1 out.2.2.1 m_bytes m_heads m_numbers m_codes m_sizes m_guessed m_results m_values m_states out.2.2.2 m_boxes m_single m_rows)) A) ([.ref (ad 0)] : List Value).toArray s 0 0 A) (F0 m 51 ls []) := by
      intro H locs ls hl hP hD hS
      have h := Option.some.inj h
      subst h
      exact W.vret hx hb hr (fun t ht hW => ⟨⟨(), rfl, trivial, AftW_mk hK hP hD ht hW⟩, hS.F ht⟩) hS.2.2 d_Mod_repeated_51
    have L28 : ∀ (n : Nat) (y28_3 : Int32) (m_at_28 : Int32) (m_many_28 : Int32) (m_wrong_28 : Int32) (m_came_28 : Nat → Int32) (H : Heap) (locs : List Loc) (ls : Array Slot), lv_has ls 4 [(0, .ref (ad 0)), (1, .int o1.1), (2, .int o2.1), (3, .int y28_3)] → va_P (dC, dI) vwCl (x_Mod ad cs m_thrown m_kind m_steps m_size m_ran m_parts m_taken m_lacked m_decodings m_failures m_at_28 m_end m_many_28 m_wrong_28 m_bytes m_heads m_numbers m_codes m_sizes m_guessed m_results m_values m_states m_came_28 m_boxes m_single m_rows) H → va_D A (x_Mod ad cs m_thrown m_kind m_steps m_size m_ran m_parts m_taken m_lacked m_decodings m_failures m_at_28 m_end m_many_28 m_wrong_28 m_bytes m_heads m_numbers m_codes m_sizes m_guessed m_results m_values m_states m_came_28 m_boxes m_single m_rows) → va_S A s.heap H locs → d_Mod_repeated_L28 N o1.1 o2.1 m_end m_bytes n y28_3 m_at_28 m_many_28 m_wrong_28 m_came_28 = some s28 → W p l e (headSpec (w_Mod_repeated) rm_Mod_repeated).room s m ([.ref (ad 0)] : List Value).toArray below meth c H locs 0 0 (MQ below (va_Qv (fun (_ : Unit) => True) (fun _ => AftW (dC, dI) [((cs 1), .int), ((cs 2), .int), ((cs 3), .int), ((cs 4), .int), ((cs 5), .int), ((cs 6), .boolean), ((cs 7), .int), ((cs 8), .int), ((cs 9), .int), ((cs 10), .int), ((cs 11), .int), ((cs 12), .int), ((cs 13), .int)] A (x_Mod ad cs m_thrown m_kind m_steps m_size m_ran m_parts m_taken m_lacked m_decodings m_failures out.1 m_end out.2.1 out.2.2.1 m_bytes m_heads m_numbers m_codes m_sizes m_guessed m_results m_values m_states out.2.2.2 m_boxes m_single m_rows)) A) ([.ref (ad 0)] : List Value).toArray s 0 0 A) (F0 m 28 ls []) := by
      intro n
      induction n with
      | zero =>
        intro y28_3 m_at_28 m_many_28 m_wrong_28 m_came_28 H locs ls hl hP hD hS h
        rw [d_Mod_repeated_L28] at h
        cases h
      | succ n ih =>
        intro y28_3 m_at_28 m_many_28 m_wrong_28 m_came_28 H locs ls hl hP hD hS h
        rw [d_Mod_repeated_L28] at h
        refine lv_iload_n hx hb d_Mod_repeated_28 rfl (lv_at hl 3 rfl) ?_
        refine lv_iload_n hx hb d_Mod_repeated_29 rfl (lv_at hl 1 rfl) ?_
        refine lv_icmp_ge (tgt := 51) hx hb d_Mod_repeated_30 (by decide) (fun c_4 => ?_) (fun c_4 => ?_)
        · have h := (if_pos c_4).symm.trans h
          have h := Option.some.inj h
          subst h
          exact X28 H locs ls (lv_sub hl [] rfl) hP hD hS
        · have h := (if_neg c_4).symm.trans h
          refine lv_aload_n hx hb d_Mod_repeated_33 rfl (lv_at hl 0 rfl) ?_
          obtain ⟨o5, ho5, h⟩ := Option.bind_eq_some_iff.mp h
          have hKc := hK.sub (tys' := [((cs 1), .int), ((cs 2), .int), ((cs 3), .int), ((cs 4), .int), ((cs 5), .int), ((cs 6), .boolean), ((cs 7), .int), ((cs 8), .int), ((cs 9), .int), ((cs 10), .int), ((cs 11), .int), ((cs 12), .int), ((cs 13), .int)]) [0, 1, 2, 3, 4, 5, 6, 7, 8, 9, 10, 11, 12] rfl
          have hPc := hP.sub (ws' := x_Mod ad cs m_thrown m_kind m_steps m_size m_ran m_parts m_taken m_lacked m_decodings m_failures m_at_28 m_end m_many_28 m_wrong_28 m_bytes m_heads m_numbers m_codes m_sizes m_guessed m_results m_values m_states m_came_28 m_boxes m_single m_rows) [0, 1, 2, 3, 4, 5, 6, 7, 8, 9, 10, 11, 12, 13] rfl
          have hDc := hD.sub (ws' := x_Mod ad cs m_thrown m_kind m_steps m_size m_ran m_parts m_taken m_lacked m_decodings m_failures m_at_28 m_end m_many_28 m_wrong_28 m_bytes m_heads m_numbers m_codes m_sizes m_guessed m_results m_values m_states m_came_28 m_boxes m_single m_rows) [0, 1, 2, 3, 4, 5, 6, 7, 8, 9, 10, 11, 12, 13] (by decide) rfl
          have hFc := va_free (wc := x_Mod ad cs m_thrown m_kind m_steps m_size m_ran m_parts m_taken m_lacked m_decodings m_failures m_at_28 m_end m_many_28 m_wrong_28 m_bytes m_heads m_numbers m_codes m_sizes m_guessed m_results m_values m_states m_came_28 m_boxes m_single m_rows) hD hS hA [0, 1, 2, 3, 4, 5, 6, 7, 8, 9, 10, 11, 12, 13] rfl
          refine va_calli (va_runV (As := []) (rest := []) ⟨hx, hb, hml, hown, hB⟩ (c_Mod_goes l dC dI tt ad cs H.size N m_thrown m_kind m_steps m_size m_ran m_parts m_taken m_lacked m_decodings m_failures m_at_28 m_end m_many_28 m_wrong_28 m_bytes m_heads m_numbers m_codes m_sizes m_guessed m_results m_values m_states m_came_28 m_boxes m_single m_rows o5 ho5) (cwV 0 hB (gV wd_257 wd_255 wd_254 wd_226 wd_256) rfl rfl rfl (by decide +kernel) ⟨Nat.le_of_ble_eq_true rfl, Nat.le_of_ble_eq_true rfl⟩) ⟨PreW_blind, va_recv hKc hPc (ci := 4) (q0 := 0) rfl rfl, PreW_mk hKc hPc hDc hG hS hFc⟩ rfl rfl hl.1 rfl (lv_room (Nat.le_of_ble_eq_true rfl)) d_Mod_repeated_34 ⟨Nat.le_of_ble_eq_true rfl, Nat.le_of_ble_eq_true rfl⟩) hS (fun q _ h => hFc q h) hFc (fun r_5 u_5 t H1 locs ht hvm hw hB hz1 hk1 hS => ?_)
          have hw := hw.symm
          subst hw
          obtain ⟨hP1, hK1, hD1⟩ := hB
          rw [ht] at hP1
          obtain ⟨hP, hD⟩ := va_join (wr := pick (x_Mod ad cs m_thrown m_kind m_steps m_size m_ran m_parts m_taken m_lacked m_decodings m_failures m_at_28 m_end m_many_28 m_wrong_28 m_bytes m_heads m_numbers m_codes m_sizes m_guessed m_results m_values m_states m_came_28 m_boxes m_single m_rows) []) hP hD [0, 1, 2, 3, 4, 5, 6, 7, 8, 9, 10, 11, 12, 13] [] rfl rfl (by decide) (by decide) hk1 hFc hP1 hD1
          generalize H1 = H at hP hS ⊢
          have hP : va_P (dC, dI) vwCl (x_Mod ad cs m_thrown m_kind m_steps m_size m_ran m_parts m_taken m_lacked m_decodings m_failures m_at_28 m_end m_many_28 m_wrong_28 m_bytes m_heads m_numbers m_codes m_sizes m_guessed m_results m_values m_states m_came_28 m_boxes m_single m_rows) H := hP.sub [0, 1, 2, 3, 4, 5, 6, 7, 8, 9, 10, 11, 12, 13] rfl
          have hD : va_D A (x_Mod ad cs m_thrown m_kind m_steps m_size m_ran m_parts m_taken m_lacked m_decodings m_failures m_at_28 m_end m_many_28 m_wrong_28 m_bytes m_heads m_numbers m_codes m_sizes m_guessed m_results m_values m_states m_came_28 m_boxes m_single m_rows) := hD.sub [0, 1, 2, 3, 4, 5, 6, 7, 8, 9, 10, 11, 12, 13] (by decide) rfl
          refine lv_if_eq (tgt := 51) hx hb d_Mod_repeated_37 (by decide) (fun c_6 => ?_) (fun c_6 => ?_)
          · have h := (if_pos c_6).symm.trans h
            have h := Option.some.inj h
            subst h
            exact X28 H locs ls (lv_sub hl [] rfl) hP hD hS
          · have h := (if_neg c_6).symm.trans h
            refine lv_aload_n hx hb d_Mod_repeated_40 rfl (lv_at hl 0 rfl) ?_
            refine lv_iload_n hx hb d_Mod_repeated_41 rfl (lv_at hl 2 rfl) ?_
            obtain ⟨o7, ho7, h⟩ := Option.bind_eq_some_iff.mp h
            have hKc := hK.sub (tys' := [((cs 1), .int), ((cs 2), .int), ((cs 3), .int), ((cs 4), .int), ((cs 5), .int), ((cs 6), .boolean), ((cs 7), .int), ((cs 8), .int), ((cs 9), .int), ((cs 10), .int), ((cs 11), .int), ((cs 12), .int), ((cs 13), .int)]) [0, 1, 2, 3, 4, 5, 6, 7, 8, 9, 10, 11, 12] rfl
            have hPc := hP.sub (ws' := x_Mod ad cs m_thrown m_kind m_steps m_size m_ran m_parts m_taken m_lacked m_decodings m_failures m_at_28 m_end m_many_28 m_wrong_28 m_bytes m_heads m_numbers m_codes m_sizes m_guessed m_results m_values m_states m_came_28 m_boxes m_single m_rows) [0, 1, 2, 3, 4, 5, 6, 7, 8, 9, 10, 11, 12, 13] rfl
            have hDc := hD.sub (ws' := x_Mod ad cs m_thrown m_kind m_steps m_size m_ran m_parts m_taken m_lacked m_decodings m_failures m_at_28 m_end m_many_28 m_wrong_28 m_bytes m_heads m_numbers m_codes m_sizes m_guessed m_results m_values m_states m_came_28 m_boxes m_single m_rows) [0, 1, 2, 3, 4, 5, 6, 7, 8, 9, 10, 11, 12, 13] (by decide) rfl
            have hFc := va_free (wc := x_Mod ad cs m_thrown m_kind m_steps m_size m_ran m_parts m_taken m_lacked m_decodings m_failures m_at_28 m_end m_many_28 m_wrong_28 m_bytes m_heads m_numbers m_codes m_sizes m_guessed m_results m_values m_states m_came_28 m_boxes m_single m_rows) hD hS hA [0, 1, 2, 3, 4, 5, 6, 7, 8, 9, 10, 11, 12, 13] rfl
            refine va_callv (va_runV (As := [.int o2.1]) (rest := []) ⟨hx, hb, hml, hown, hB⟩ (c_Mod_give l dC dI tt ad cs H.size N o2.1 m_thrown m_kind m_steps m_size m_ran m_parts m_taken m_lacked m_decodings m_failures m_at_28 m_end m_many_28 m_wrong_28 m_bytes m_heads m_numbers m_codes m_sizes m_guessed m_results m_values m_states m_came_28 m_boxes m_single m_rows o7 ho7) (cwV 1 hB (gV wd_261 wd_259 wd_258 wd_226 wd_260) rfl rfl rfl (by decide +kernel) ⟨Nat.le_of_ble_eq_true rfl, Nat.le_of_ble_eq_true rfl⟩) ⟨PreW_blind, va_recv hKc hPc (ci := 4) (q0 := 0) rfl rfl, PreW_mk hKc hPc hDc hG hS hFc⟩ rfl rfl hl.1 rfl (lv_room (Nat.le_of_ble_eq_true rfl)) d_Mod_repeated_42 ⟨Nat.le_of_ble_eq_true rfl, Nat.le_of_ble_eq_true rfl⟩) hS (fun q _ h => hFc q h) hFc (fun u_7 t H1 locs ht hvm hw hB hz1 hk1 hS => ?_)
            obtain ⟨hP1, hK1, hD1⟩ := hB
            rw [ht] at hP1
            obtain ⟨hP, hD⟩ := va_join (wr := pick (x_Mod ad cs m_thrown m_kind m_steps m_size m_ran m_parts m_taken m_lacked m_decodings m_failures m_at_28 m_end m_many_28 m_wrong_28 m_bytes m_heads m_numbers m_codes m_sizes m_guessed m_results m_values m_states m_came_28 m_boxes m_single m_rows) []) hP hD [0, 1, 2, 3, 4, 5, 6, 7, 8, 9, 10, 11, 12, 13] [] rfl rfl (by decide) (by decide) hk1 hFc hP1 hD1
            generalize H1 = H at hP hS ⊢
            have hP : va_P (dC, dI) vwCl (x_Mod ad cs m_thrown m_kind m_steps m_size m_ran m_parts m_taken m_lacked m_decodings m_failures m_at_28 m_end o7.1 m_wrong_28 m_bytes m_heads m_numbers m_codes m_sizes m_guessed m_results m_values m_states o7.2 m_boxes m_single m_rows) H := hP.sub [0, 1, 2, 3, 4, 5, 6, 7, 8, 9, 10, 11, 12, 13] rfl
            have hD : va_D A (x_Mod ad cs m_thrown m_kind m_steps m_size m_ran m_parts m_taken m_lacked m_decodings m_failures m_at_28 m_end o7.1 m_wrong_28 m_bytes m_heads m_numbers m_codes m_sizes m_guessed m_results m_values m_states o7.2 m_boxes m_single m_rows) := hD.sub [0, 1, 2, 3, 4, 5, 6, 7, 8, 9, 10, 11, 12, 13] (by decide) rfl
            refine lv_iinc (v := y28_3 + 1) (lv' := [(3, .int (y28_3 + 1)), (0, .ref (ad 0)), (1, .int o1.1), (2, .int o2.1)]) hx hb d_Mod_repeated_45 hl (k := 3) rfl rfl (by decide) rfl (fun ls hl => ?_)
            refine lv_goto (tgt := 28) hx hb d_Mod_repeated_48 (by decide) ?_
            exact ih (y28_3 + 1) m_at_28 o7.1 m_wrong_28 o7.2 H locs ls (lv_sub hl [1, 2, 3, 0] rfl) hP hD hS h
    exact L28 N (0 : Int32) o2.2.1 m_many o2.2.2 m_came _ _ ls (lv_sub hl [3, 2, 1, 0] rfl) hP hD hS hs28
  · have h := (if_neg c_3).symm.trans h
    refine lv_aload_n hx hb d_Mod_repeated_21 rfl (lv_at hl 2 rfl) ?_
    refine lv_iconst (v := 1) hx hb d_Mod_repeated_22 (by decide) ?_
    obtain ⟨o8, ho8, h⟩ := Option.bind_eq_some_iff.mp h
    have hKc := hK.sub (tys' := [((cs 1), .int), ((cs 2), .int), ((cs 3), .int), ((cs 4), .int), ((cs 5), .int), ((cs 6), .boolean), ((cs 7), .int), ((cs 8), .int), ((cs 9), .int), ((cs 10), .int), ((cs 11), .int), ((cs 12), .int), ((cs 13), .int)]) [0, 1, 2, 3, 4, 5, 6, 7, 8, 9, 10, 11, 12] rfl
    have hPc := hP.sub (ws' := x_Mod ad cs m_thrown m_kind m_steps m_size m_ran m_parts m_taken m_lacked m_decodings m_failures o2.2.1 m_end m_many o2.2.2 m_bytes m_heads m_numbers m_codes m_sizes m_guessed m_results m_values m_states m_came m_boxes m_single m_rows) [0, 1, 2, 3, 4, 5, 6, 7, 8, 9, 10, 11, 12, 13] rfl
    have hDc := hD.sub (ws' := x_Mod ad cs m_thrown m_kind m_steps m_size m_ran m_parts m_taken m_lacked m_decodings m_failures o2.2.1 m_end m_many o2.2.2 m_bytes m_heads m_numbers m_codes m_sizes m_guessed m_results m_values m_states m_came m_boxes m_single m_rows) [0, 1, 2, 3, 4, 5, 6, 7, 8, 9, 10, 11, 12, 13] (by decide) rfl
    have hFc := va_free (wc := x_Mod ad cs m_thrown m_kind m_steps m_size m_ran m_parts m_taken m_lacked m_decodings m_failures o2.2.1 m_end m_many o2.2.2 m_bytes m_heads m_numbers m_codes m_sizes m_guessed m_results m_values m_states m_came m_boxes m_single m_rows) hD hS hA [0, 1, 2, 3, 4, 5, 6, 7, 8, 9, 10, 11, 12, 13] rfl
    refine va_callv (va_runV (As := [.int (1 : Int32)]) (rest := []) ⟨hx, hb, hml, hown, hB⟩ (c_Mod_fail l dC dI tt ad cs H.size N (1 : Int32) m_thrown m_kind m_steps m_size m_ran m_parts m_taken m_lacked m_decodings m_failures o2.2.1 m_end m_many o2.2.2 m_bytes m_heads m_numbers m_codes m_sizes m_guessed m_results m_values m_states m_came m_boxes m_single m_rows o8 ho8) (cwV 1 hB (gV wd_247 wd_245 wd_244 wd_226 wd_246) rfl rfl rfl (by decide +kernel) ⟨Nat.le_of_ble_eq_true rfl, Nat.le_of_ble_eq_true rfl⟩) ⟨PreW_blind, va_recv hKc hPc (ci := 4) (q0 := 0) rfl rfl, PreW_mk hKc hPc hDc hG hS hFc⟩ rfl rfl hl.1 rfl (lv_room (Nat.le_of_ble_eq_true rfl)) d_Mod_repeated_23 ⟨Nat.le_of_ble_eq_true rfl, Nat.le_of_ble_eq_true rfl⟩) hS (fun q _ h => hFc q h) hFc (fun u_8 t H1 locs ht hvm hw hB hz1 hk1 hS => ?_)
    obtain ⟨hP1, hK1, hD1⟩ := hB
    rw [ht] at hP1
    obtain ⟨hP, hD⟩ := va_join (wr := pick (x_Mod ad cs m_thrown m_kind m_steps m_size m_ran m_parts m_taken m_lacked m_decodings m_failures o2.2.1 m_end m_many o2.2.2 m_bytes m_heads m_numbers m_codes m_sizes m_guessed m_results m_values m_states m_came m_boxes m_single m_rows) []) hP hD [0, 1, 2, 3, 4, 5, 6, 7, 8, 9, 10, 11, 12, 13] [] rfl rfl (by decide) (by decide) hk1 hFc hP1 hD1
    generalize H1 = H at hP hS ⊢
    have hP : va_P (dC, dI) vwCl (x_Mod ad cs m_thrown m_kind m_steps m_size m_ran m_parts m_taken m_lacked m_decodings m_failures o2.2.1 m_end m_many o8 m_bytes m_heads m_numbers m_codes m_sizes m_guessed m_results m_values m_states m_came m_boxes m_single m_rows) H := hP.sub [0, 1, 2, 3, 4, 5, 6, 7, 8, 9, 10, 11, 12, 13] rfl
    have hD : va_D A (x_Mod ad cs m_thrown m_kind m_steps m_size m_ran m_parts m_taken m_lacked m_decodings m_failures o2.2.1 m_end m_many o8 m_bytes m_heads m_numbers m_codes m_sizes m_guessed m_results m_values m_states m_came m_boxes m_single m_rows) := hD.sub [0, 1, 2, 3, 4, 5, 6, 7, 8, 9, 10, 11, 12, 13] (by decide) rfl
    refine lv_iconst (v := 0) hx hb d_Mod_repeated_26 (by decide) ?_
    refine lv_istore_n (lv' := [(3, .int (0 : Int32)), (2, .int o2.1), (1, .int o1.1), (0, .ref (ad 0))]) hx hb d_Mod_repeated_27 rfl hl (by decide) rfl (fun ls hl => ?_)
    obtain ⟨s28, hs28, h⟩ := Option.bind_eq_some_iff.mp h
    have X28 : ∀ (H : Heap) (locs : List Loc) (ls : Array Slot), lv_has ls 4 [] → va_P (dC, dI) vwCl (x_Mod ad cs m_thrown m_kind m_steps m_size m_ran m_parts m_taken m_lacked m_decodings m_failures s28.1 m_end s28.2.1 s28.2.2.1 m_bytes m_heads m_numbers m_codes m_sizes m_guessed m_results m_values m_states s28.2.2.2 m_boxes m_single m_rows) H → va_D A (x_Mod ad cs m_thrown m_kind m_steps m_size m_ran m_parts m_taken m_lacked m_decodings m_failures s28.1 m_end s28.2.1 s28.2.2.1 m_bytes m_heads m_numbers m_codes m_sizes m_guessed m_results m_values m_states s28.2.2.2 m_boxes m_single m_rows) → va_S A s.heap H locs → W p l e (headSpec (w_Mod_repeated) rm_Mod_repeated).room s m ([.ref (ad 0)] : List Value).toArray below meth c H locs 0 0 (MQ below (va_Qv (fun (_ : Unit) => True) (fun _ => AftW (dC, dI) [((cs 1), .int), ((cs 2), .int), ((cs 3), .int), ((cs 4), .int), ((cs 5), .int), ((cs 6), .boolean), ((cs 7), .int), ((cs 8), .int), ((cs 9), .int), ((cs 10), .int), ((cs 11), .int), ((cs 12), .int), ((cs 13), .int)] A (x_Mod ad cs m_thrown m_kind m_steps m_size m_ran m_parts m_taken m_lacked m_decodings m_failures out.1 m_end out.2.1 out.2.2.1 m_bytes m_heads m_numbers m_codes m_sizes m_guessed m_results m_values m_states out.2.2.2 m_boxes m_single m_rows)) A) ([.ref (ad 0)] : List Value).toArray s 0 0 A) (F0 m 51 ls []) := by
      intro H locs ls hl hP hD hS
      have h := Option.some.inj h
      subst h
      exact W.vret hx hb hr (fun t ht hW => ⟨⟨(), rfl, trivial, AftW_mk hK hP hD ht hW⟩, hS.F ht⟩) hS.2.2 d_Mod_repeated_51
    have L28 : ∀ (n : Nat) (y28_3 : Int32) (m_at_28 : Int32) (m_many_28 : Int32) (m_wrong_28 : Int32) (m_came_28 : Nat → Int32) (H : Heap) (locs : List Loc) (ls : Array Slot), lv_has ls 4 [(0, .ref (ad 0)), (1, .int o1.1), (2, .int o2.1), (3, .int y28_3)] → va_P (dC, dI) vwCl (x_Mod ad cs m_thrown m_kind m_steps m_size m_ran m_parts m_taken m_lacked m_decodings m_failures m_at_28 m_end m_many_28 m_wrong_28 m_bytes m_heads m_numbers m_codes m_sizes m_guessed m_results m_values m_states m_came_28 m_boxes m_single m_rows) H → va_D A (x_Mod ad cs m_thrown m_kind m_steps m_size m_ran m_parts m_taken m_lacked m_decodings m_failures m_at_28 m_end m_many_28 m_wrong_28 m_bytes m_heads m_numbers m_codes m_sizes m_guessed m_results m_values m_states m_came_28 m_boxes m_single m_rows) → va_S A s.heap H locs → d_Mod_repeated_L28 N o1.1 o2.1 m_end m_bytes n y28_3 m_at_28 m_many_28 m_wrong_28 m_came_28 = some s28 → W p l e (headSpec (w_Mod_repeated) rm_Mod_repeated).room s m ([.ref (ad 0)] : List Value).toArray below meth c H locs 0 0 (MQ below (va_Qv (fun (_ : Unit) => True) (fun _ => AftW (dC, dI) [((cs 1), .int), ((cs 2), .int), ((cs 3), .int), ((cs 4), .int), ((cs 5), .int), ((cs 6), .boolean), ((cs 7), .int), ((cs 8), .int), ((cs 9), .int), ((cs 10), .int), ((cs 11), .int), ((cs 12), .int), ((cs 13), .int)] A (x_Mod ad cs m_thrown m_kind m_steps m_size m_ran m_parts m_taken m_lacked m_decodings m_failures out.1 m_end out.2.1 out.2.2.1 m_bytes m_heads m_numbers m_codes m_sizes m_guessed m_results m_values m_states out.2.2.2 m_boxes m_single m_rows)) A) ([.ref (ad 0)] : List Value).toArray s 0 0 A) (F0 m 28 ls []) := by
      intro n
      induction n with
      | zero =>
        intro y28_3 m_at_28 m_many_28 m_wrong_28 m_came_28 H locs ls hl hP hD hS h
        rw [d_Mod_repeated_L28] at h
        cases h
      | succ n ih =>
        intro y28_3 m_at_28 m_many_28 m_wrong_28 m_came_28 H locs ls hl hP hD hS h
        rw [d_Mod_repeated_L28] at h
        refine lv_iload_n hx hb d_Mod_repeated_28 rfl (lv_at hl 3 rfl) ?_
        refine lv_iload_n hx hb d_Mod_repeated_29 rfl (lv_at hl 1 rfl) ?_
        refine lv_icmp_ge (tgt := 51) hx hb d_Mod_repeated_30 (by decide) (fun c_9 => ?_) (fun c_9 => ?_)
        · have h := (if_pos c_9).symm.trans h
          have h := Option.some.inj h
          subst h
          exact X28 H locs ls (lv_sub hl [] rfl) hP hD hS
        · have h := (if_neg c_9).symm.trans h
          refine lv_aload_n hx hb d_Mod_repeated_33 rfl (lv_at hl 0 rfl) ?_
          obtain ⟨o10, ho10, h⟩ := Option.bind_eq_some_iff.mp h
          have hKc := hK.sub (tys' := [((cs 1), .int), ((cs 2), .int), ((cs 3), .int), ((cs 4), .int), ((cs 5), .int), ((cs 6), .boolean), ((cs 7), .int), ((cs 8), .int), ((cs 9), .int), ((cs 10), .int), ((cs 11), .int), ((cs 12), .int), ((cs 13), .int)]) [0, 1, 2, 3, 4, 5, 6, 7, 8, 9, 10, 11, 12] rfl
          have hPc := hP.sub (ws' := x_Mod ad cs m_thrown m_kind m_steps m_size m_ran m_parts m_taken m_lacked m_decodings m_failures m_at_28 m_end m_many_28 m_wrong_28 m_bytes m_heads m_numbers m_codes m_sizes m_guessed m_results m_values m_states m_came_28 m_boxes m_single m_rows) [0, 1, 2, 3, 4, 5, 6, 7, 8, 9, 10, 11, 12, 13] rfl
          have hDc := hD.sub (ws' := x_Mod ad cs m_thrown m_kind m_steps m_size m_ran m_parts m_taken m_lacked m_decodings m_failures m_at_28 m_end m_many_28 m_wrong_28 m_bytes m_heads m_numbers m_codes m_sizes m_guessed m_results m_values m_states m_came_28 m_boxes m_single m_rows) [0, 1, 2, 3, 4, 5, 6, 7, 8, 9, 10, 11, 12, 13] (by decide) rfl
          have hFc := va_free (wc := x_Mod ad cs m_thrown m_kind m_steps m_size m_ran m_parts m_taken m_lacked m_decodings m_failures m_at_28 m_end m_many_28 m_wrong_28 m_bytes m_heads m_numbers m_codes m_sizes m_guessed m_results m_values m_states m_came_28 m_boxes m_single m_rows) hD hS hA [0, 1, 2, 3, 4, 5, 6, 7, 8, 9, 10, 11, 12, 13] rfl
          refine va_calli (va_runV (As := []) (rest := []) ⟨hx, hb, hml, hown, hB⟩ (c_Mod_goes l dC dI tt ad cs H.size N m_thrown m_kind m_steps m_size m_ran m_parts m_taken m_lacked m_decodings m_failures m_at_28 m_end m_many_28 m_wrong_28 m_bytes m_heads m_numbers m_codes m_sizes m_guessed m_results m_values m_states m_came_28 m_boxes m_single m_rows o10 ho10) (cwV 0 hB (gV wd_257 wd_255 wd_254 wd_226 wd_256) rfl rfl rfl (by decide +kernel) ⟨Nat.le_of_ble_eq_true rfl, Nat.le_of_ble_eq_true rfl⟩) ⟨PreW_blind, va_recv hKc hPc (ci := 4) (q0 := 0) rfl rfl, PreW_mk hKc hPc hDc hG hS hFc⟩ rfl rfl hl.1 rfl (lv_room (Nat.le_of_ble_eq_true rfl)) d_Mod_repeated_34 ⟨Nat.le_of_ble_eq_true rfl, Nat.le_of_ble_eq_true rfl⟩) hS (fun q _ h => hFc q h) hFc (fun r_10 u_10 t H1 locs ht hvm hw hB hz1 hk1 hS => ?_)
          have hw := hw.symm
          subst hw
          obtain ⟨hP1, hK1, hD1⟩ := hB
          rw [ht] at hP1
          obtain ⟨hP, hD⟩ := va_join (wr := pick (x_Mod ad cs m_thrown m_kind m_steps m_size m_ran m_parts m_taken m_lacked m_decodings m_failures m_at_28 m_end m_many_28 m_wrong_28 m_bytes m_heads m_numbers m_codes m_sizes m_guessed m_results m_values m_states m_came_28 m_boxes m_single m_rows) []) hP hD [0, 1, 2, 3, 4, 5, 6, 7, 8, 9, 10, 11, 12, 13] [] rfl rfl (by decide) (by decide) hk1 hFc hP1 hD1
          generalize H1 = H at hP hS ⊢
          have hP : va_P (dC, dI) vwCl (x_Mod ad cs m_thrown m_kind m_steps m_size m_ran m_parts m_taken m_lacked m_decodings m_failures m_at_28 m_end m_many_28 m_wrong_28 m_bytes m_heads m_numbers m_codes m_sizes m_guessed m_results m_values m_states m_came_28 m_boxes m_single m_rows) H := hP.sub [0, 1, 2, 3, 4, 5, 6, 7, 8, 9, 10, 11, 12, 13] rfl
          have hD : va_D A (x_Mod ad cs m_thrown m_kind m_steps m_size m_ran m_parts m_taken m_lacked m_decodings m_failures m_at_28 m_end m_many_28 m_wrong_28 m_bytes m_heads m_numbers m_codes m_sizes m_guessed m_results m_values m_states m_came_28 m_boxes m_single m_rows) := hD.sub [0, 1, 2, 3, 4, 5, 6, 7, 8, 9, 10, 11, 12, 13] (by decide) rfl
          refine lv_if_eq (tgt := 51) hx hb d_Mod_repeated_37 (by decide) (fun c_11 => ?_) (fun c_11 => ?_)
          · have h := (if_pos c_11).symm.trans h
            have h := Option.some.inj h
            subst h
            exact X28 H locs ls (lv_sub hl [] rfl) hP hD hS
          · have h := (if_neg c_11).symm.trans h
            refine lv_aload_n hx hb d_Mod_repeated_40 rfl (lv_at hl 0 rfl) ?_
            refine lv_iload_n hx hb d_Mod_repeated_41 rfl (lv_at hl 2 rfl) ?_
            obtain ⟨o12, ho12, h⟩ := Option.bind_eq_some_iff.mp h
            have hKc := hK.sub (tys' := [((cs 1), .int), ((cs 2), .int), ((cs 3), .int), ((cs 4), .int), ((cs 5), .int), ((cs 6), .boolean), ((cs 7), .int), ((cs 8), .int), ((cs 9), .int), ((cs 10), .int), ((cs 11), .int), ((cs 12), .int), ((cs 13), .int)]) [0, 1, 2, 3, 4, 5, 6, 7, 8, 9, 10, 11, 12] rfl
            have hPc := hP.sub (ws' := x_Mod ad cs m_thrown m_kind m_steps m_size m_ran m_parts m_taken m_lacked m_decodings m_failures m_at_28 m_end m_many_28 m_wrong_28 m_bytes m_heads m_numbers m_codes m_sizes m_guessed m_results m_values m_states m_came_28 m_boxes m_single m_rows) [0, 1, 2, 3, 4, 5, 6, 7, 8, 9, 10, 11, 12, 13] rfl
            have hDc := hD.sub (ws' := x_Mod ad cs m_thrown m_kind m_steps m_size m_ran m_parts m_taken m_lacked m_decodings m_failures m_at_28 m_end m_many_28 m_wrong_28 m_bytes m_heads m_numbers m_codes m_sizes m_guessed m_results m_values m_states m_came_28 m_boxes m_single m_rows) [0, 1, 2, 3, 4, 5, 6, 7, 8, 9, 10, 11, 12, 13] (by decide) rfl
            have hFc := va_free (wc := x_Mod ad cs m_thrown m_kind m_steps m_size m_ran m_parts m_taken m_lacked m_decodings m_failures m_at_28 m_end m_many_28 m_wrong_28 m_bytes m_heads m_numbers m_codes m_sizes m_guessed m_results m_values m_states m_came_28 m_boxes m_single m_rows) hD hS hA [0, 1, 2, 3, 4, 5, 6, 7, 8, 9, 10, 11, 12, 13] rfl
            refine va_callv (va_runV (As := [.int o2.1]) (rest := []) ⟨hx, hb, hml, hown, hB⟩ (c_Mod_give l dC dI tt ad cs H.size N o2.1 m_thrown m_kind m_steps m_size m_ran m_parts m_taken m_lacked m_decodings m_failures m_at_28 m_end m_many_28 m_wrong_28 m_bytes m_heads m_numbers m_codes m_sizes m_guessed m_results m_values m_states m_came_28 m_boxes m_single m_rows o12 ho12) (cwV 1 hB (gV wd_261 wd_259 wd_258 wd_226 wd_260) rfl rfl rfl (by decide +kernel) ⟨Nat.le_of_ble_eq_true rfl, Nat.le_of_ble_eq_true rfl⟩) ⟨PreW_blind, va_recv hKc hPc (ci := 4) (q0 := 0) rfl rfl, PreW_mk hKc hPc hDc hG hS hFc⟩ rfl rfl hl.1 rfl (lv_room (Nat.le_of_ble_eq_true rfl)) d_Mod_repeated_42 ⟨Nat.le_of_ble_eq_true rfl, Nat.le_of_ble_eq_true rfl⟩) hS (fun q _ h => hFc q h) hFc (fun u_12 t H1 locs ht hvm hw hB hz1 hk1 hS => ?_)
            obtain ⟨hP1, hK1, hD1⟩ := hB
            rw [ht] at hP1
            obtain ⟨hP, hD⟩ := va_join (wr := pick (x_Mod ad cs m_thrown m_kind m_steps m_size m_ran m_parts m_taken m_lacked m_decodings m_failures m_at_28 m_end m_many_28 m_wrong_28 m_bytes m_heads m_numbers m_codes m_sizes m_guessed m_results m_values m_states m_came_28 m_boxes m_single m_rows) []) hP hD [0, 1, 2, 3, 4, 5, 6, 7, 8, 9, 10, 11, 12, 13] [] rfl rfl (by decide) (by decide) hk1 hFc hP1 hD1
            generalize H1 = H at hP hS ⊢
            have hP : va_P (dC, dI) vwCl (x_Mod ad cs m_thrown m_kind m_steps m_size m_ran m_parts m_taken m_lacked m_decodings m_failures m_at_28 m_end o12.1 m_wrong_28 m_bytes m_heads m_numbers m_codes m_sizes m_guessed m_results m_values m_states o12.2 m_boxes m_single m_rows) H := hP.sub [0, 1, 2, 3, 4, 5, 6, 7, 8, 9, 10, 11, 12, 13] rfl
            have hD : va_D A (x_Mod ad cs m_thrown m_kind m_steps m_size m_ran m_parts m_taken m_lacked m_decodings m_failures m_at_28 m_end o12.1 m_wrong_28 m_bytes m_heads m_numbers m_codes m_sizes m_guessed m_results m_values m_states o12.2 m_boxes m_single m_rows) := hD.sub [0, 1, 2, 3, 4, 5, 6, 7, 8, 9, 10, 11, 12, 13] (by decide) rfl
            refine lv_iinc (v := y28_3 + 1) (lv' := [(3, .int (y28_3 + 1)), (0, .ref (ad 0)), (1, .int o1.1), (2, .int o2.1)]) hx hb d_Mod_repeated_45 hl (k := 3) rfl rfl (by decide) rfl (fun ls hl => ?_)
            refine lv_goto (tgt := 28) hx hb d_Mod_repeated_48 (by decide) ?_
            exact ih (y28_3 + 1) m_at_28 o12.1 m_wrong_28 o12.2 H locs ls (lv_sub hl [1, 2, 3, 0] rfl) hP hD hS h
    exact L28 N (0 : Int32) o2.2.1 m_many o8 m_came _ _ ls (lv_sub hl [3, 2, 1, 0] rfl) hP hD hS hs28
def d_Mod_divided (N : Nat) (m_at : Int32) (m_end : Int32) (m_many : Int32) (m_wrong : Int32) (m_bytes : Nat → Int32) (m_came : Nat → Int32) : Option (Int32 × Int32 × Int32 × (Nat → Int32)) :=
 (d_Mod_take N m_at m_end m_wrong m_bytes).bind (fun o1 => (d_Mod_take N o1.2.1 m_end o1.2.2 m_bytes).bind (fun o2 => if o2.1 = 0 then (d_Mod_fail N (2 : Int32) o2.2.2).bind (fun o8 => if o2.1 = 0 then (d_Mod_give N (0 : Int32) m_many o8 m_came).bind (fun o12 => some (o2.2.1, o12.1, o8, o12.2)) else gZ o2.1 ((d_Mod_give N ((((16 : Int32) * o1.1) / o2.1) - (((16 : Int32) * o1.1) / o2.1) / (256 : Int32) * (256 : Int32)) m_many o8 m_came).bind (fun o11 => some (o2.2.1, o11.1, o8, o11.2)))) else if o2.1 = 0 then (d_Mod_give N (0 : Int32) m_many o2.2.2 m_came).bind (fun o7 => some (o2.2.1, o7.1, o2.2.2, o7.2)) else gZ o2.1 ((d_Mod_give N ((((16 : Int32) * o1.1) / o2.1) - (((16 : Int32) * o1.1) / o2.1) / (256 : Int32) * (256 : Int32)) m_many o2.2.2 m_came).bind (fun o6 => some (o2.2.1, o6.1, o2.2.2, o6.2)))))
abbrev rm_Mod_divided : Room := { frames := 2, cells := 0, slots := 0, locals := 41 }
set_option maxHeartbeats 4000000 in
set_option maxRecDepth 100000 in
theorem c_Mod_divided (l : Launch) (dC : Nat → ClassId) (dI : Nat → Nat → Nat) (tt : Nat → Nat) (ad : Nat → Nat) (cs : Nat → ClassId) (sz N : Nat) (m_thrown : Int32) (m_kind : Int32) (m_steps : Int32) (m_size : Int32) (m_ran : Int32) (m_parts : Int32) (m_taken : Int32) (m_lacked : Int32) (m_decodings : Int32) (m_failures : Int32) (m_at : Int32) (m_end : Int32) (m_many : Int32) (m_wrong : Int32) (m_bytes : Nat → Int32) (m_heads : Nat → Int32) (m_numbers : Nat → Int32) (m_codes : Nat → Int32) (m_sizes : Nat → Int32) (m_guessed : Nat → Int32) (m_results : Nat → Int32) (m_values : Nat → Int32) (m_states : Nat → Int32) (m_came : Nat → Int32) (m_boxes : Nat → Int32) (m_single : Nat → Int32) (m_rows : Nat → Int32) (out : Int32 × Int32 × Int32 × (Nat → Int32)) (h : d_Mod_divided N m_at m_end m_many m_wrong m_bytes m_came = some out) :
    Met l y_Mod_divided (w_Mod_divided) rm_Mod_divided (va_Pc [.ref (ad 0)] (PreW (dC, dI) [((cs 1), .int), ((cs 2), .int), ((cs 3), .int), ((cs 4), .int), ((cs 5), .int), ((cs 6), .boolean), ((cs 7), .int), ((cs 8), .int), ((cs 9), .int), ((cs 10), .int), ((cs 11), .int), ((cs 12), .int), ((cs 13), .int)] (x_Mod ad cs m_thrown m_kind m_steps m_size m_ran m_parts m_taken m_lacked m_decodings m_failures m_at m_end m_many m_wrong m_bytes m_heads m_numbers m_codes m_sizes m_guessed m_results m_values m_states m_came m_boxes m_single m_rows) sz tt)) (va_Qv (fun (_ : Unit) => True) (fun _ => AftW (dC, dI) [((cs 1), .int), ((cs 2), .int), ((cs 3), .int), ((cs 4), .int), ((cs 5), .int), ((cs 6), .boolean), ((cs 7), .int), ((cs 8), .int), ((cs 9), .int), ((cs 10), .int), ((cs 11), .int), ((cs 12), .int), ((cs 13), .int)] (va_A (x_Mod ad cs m_thrown m_kind m_steps m_size m_ran m_parts m_taken m_lacked m_decodings m_failures m_at m_end m_many m_wrong m_bytes m_heads m_numbers m_codes m_sizes m_guessed m_results m_values m_states m_came m_boxes m_single m_rows) sz) (x_Mod ad cs m_thrown m_kind m_steps m_size m_ran m_parts m_taken m_lacked m_decodings m_failures out.1 m_end out.2.1 out.2.2.1 m_bytes m_heads m_numbers m_codes m_sizes m_guessed m_results m_values m_states out.2.2.2 m_boxes m_single m_rows)) (va_A (x_Mod ad cs m_thrown m_kind m_steps m_size m_ran m_parts m_taken m_lacked m_decodings m_failures m_at m_end m_many m_wrong m_bytes m_heads m_numbers m_codes m_sizes m_guessed m_results m_values m_states m_came m_boxes m_single m_rows) sz)) 0 0 (va_A (x_Mod ad cs m_thrown m_kind m_steps m_size m_ran m_parts m_taken m_lacked m_decodings m_failures m_at m_end m_many m_wrong m_bytes m_heads m_numbers m_codes m_sizes m_guessed m_results m_values m_states m_came m_boxes m_single m_rows) sz) := by
  refine Met.ofW (cc := k_Mod_divided) (maxL := 3) (ret := none) (by decide) rfl ?_
  intro p e s m args below meth c s₁ B hml hv
  obtain ⟨rfl, hsz, hP, hK, hD0, hG⟩ := hv
  have hx := B.exec
  have hb := B.bytes
  have hr := B.returns
  have hts := atoms_spec (ws := (w_Mod_divided)) B.pre
  have hB : ∀ w ∈ BIG, w.before _ s = true := fun w h9 => hts w (List.mem_cons_of_mem _ h9)
  have hown : s.vm.findClass R_Mod = some m.cls := findClass_of_methodNamed B.named
  have hlocks := B.notSynchronized
  subst hsz
  have hD := hD0.self (sz := s.heap.size)
  generalize hAe : va_A (x_Mod ad cs m_thrown m_kind m_steps m_size m_ran m_parts m_taken m_lacked m_decodings m_failures m_at m_end m_many m_wrong m_bytes m_heads m_numbers m_codes m_sizes m_guessed m_results m_values m_states m_came m_boxes m_single m_rows) s.heap.size = A at hD hG ⊢
  have hA : ∀ q : Nat, s.heap.size ≤ q → A q := fun q h => by rw [← hAe]; exact Or.inr h
  have hS : va_S A s.heap s.heap [] := va_S.rf
  have hl := lv_entry ([.ref (ad 0)]) (n := 3) (Nat.le_of_ble_eq_true rfl)
  rw [lg_entry_eq]
  generalize (lg_sl ([.ref (ad 0)]) ++ List.replicate (3 - (lg_sl ([.ref (ad 0)])).length) Slot.unset).toArray = ls at hl ⊢
  have hl : lv_has ls 3 [(0, .ref (ad 0))] := hl
  unfold d_Mod_divided at h
  refine lv_aload_n hx hb d_Mod_divided_0 rfl (lv_at hl 0 rfl) ?_
  obtain ⟨o1, ho1, h⟩ := Option.bind_eq_some_iff.mp h
  have hKc := hK.sub (tys' := [((cs 1), .int), ((cs 2), .int), ((cs 3), .int), ((cs 4), .int), ((cs 5), .int), ((cs 6), .boolean), ((cs 7), .int), ((cs 8), .int), ((cs 9), .int), ((cs 10), .int), ((cs 11), .int), ((cs 12), .int), ((cs 13), .int)]) [0, 1, 2, 3, 4, 5, 6, 7, 8, 9, 10, 11, 12] rfl
  have hPc := hP.sub (ws' := x_Mod ad cs m_thrown m_kind m_steps m_size m_ran m_parts m_taken m_lacked m_decodings m_failures m_at m_end m_many m_wrong m_bytes m_heads m_numbers m_codes m_sizes m_guessed m_results m_values m_states m_came m_boxes m_single m_rows) [0, 1, 2, 3, 4, 5, 6, 7, 8, 9, 10, 11, 12, 13] rfl
  have hDc := hD.sub (ws' := x_Mod ad cs m_thrown m_kind m_steps m_size m_ran m_parts m_taken m_lacked m_decodings m_failures m_at m_end m_many m_wrong m_bytes m_heads m_numbers m_codes m_sizes m_guessed m_results m_values m_states m_came m_boxes m_single m_rows) [0, 1, 2, 3, 4, 5, 6, 7, 8, 9, 10, 11, 12, 13] (by decide) rfl
  have hFc := va_free (wc := x_Mod ad cs m_thrown m_kind m_steps m_size m_ran m_parts m_taken m_lacked m_decodings m_failures m_at m_end m_many m_wrong m_bytes m_heads m_numbers m_codes m_sizes m_guessed m_results m_values m_states m_came m_boxes m_single m_rows) hD hS hA [0, 1, 2, 3, 4, 5, 6, 7, 8, 9, 10, 11, 12, 13] rfl
  refine va_calli (va_runV (As := []) (rest := []) ⟨hx, hb, hml, hown, hB⟩ (c_Mod_take l dC dI tt ad cs s.heap.size N m_thrown m_kind m_steps m_size m_ran m_parts m_taken m_lacked m_decodings m_failures m_at m_end m_many m_wrong m_bytes m_heads m_numbers m_codes m_sizes m_guessed m_results m_values m_states m_came m_boxes m_single m_rows o1 ho1) (cwV 0 hB (gV wd_253 wd_251 wd_250 wd_226 wd_252) rfl rfl rfl (by decide +kernel) ⟨Nat.le_of_ble_eq_true rfl, Nat.le_of_ble_eq_true rfl⟩) ⟨PreW_blind, va_recv hKc hPc (ci := 4) (q0 := 0) rfl rfl, PreW_mk hKc hPc hDc hG hS hFc⟩ rfl rfl hl.1 rfl (lv_room (Nat.le_of_ble_eq_true rfl)) d_Mod_divided_1 ⟨Nat.le_of_ble_eq_true rfl, Nat.le_of_ble_eq_true rfl⟩) hS (fun q _ h => hFc q h) hFc (fun r_1 u_1 t H1 locs ht hvm hw hB hz1 hk1 hS => ?_)
  have hw := hw.symm
  subst hw
  obtain ⟨hP1, hK1, hD1⟩ := hB
  rw [ht] at hP1
  obtain ⟨hP, hD⟩ := va_join (wr := pick (x_Mod ad cs m_thrown m_kind m_steps m_size m_ran m_parts m_taken m_lacked m_decodings m_failures m_at m_end m_many m_wrong m_bytes m_heads m_numbers m_codes m_sizes m_guessed m_results m_values m_states m_came m_boxes m_single m_rows) []) hP hD [0, 1, 2, 3, 4, 5, 6, 7, 8, 9, 10, 11, 12, 13] [] rfl rfl (by decide) (by decide) hk1 hFc hP1 hD1
  generalize H1 = H at hP hS ⊢
  have hP : va_P (dC, dI) vwCl (x_Mod ad cs m_thrown m_kind m_steps m_size m_ran m_parts m_taken m_lacked m_decodings m_failures o1.2.1 m_end m_many o1.2.2 m_bytes m_heads m_numbers m_codes m_sizes m_guessed m_results m_values m_states m_came m_boxes m_single m_rows) H := hP.sub [0, 1, 2, 3, 4, 5, 6, 7, 8, 9, 10, 11, 12, 13] rfl
  have hD : va_D A (x_Mod ad cs m_thrown m_kind m_steps m_size m_ran m_parts m_taken m_lacked m_decodings m_failures o1.2.1 m_end m_many o1.2.2 m_bytes m_heads m_numbers m_codes m_sizes m_guessed m_results m_values m_states m_came m_boxes m_single m_rows) := hD.sub [0, 1, 2, 3, 4, 5, 6, 7, 8, 9, 10, 11, 12, 13] (by decide) rfl
  refine lv_istore_n (lv' := [(1, .int o1.1), (0, .ref (ad 0))]) hx hb d_Mod_divided_4 rfl hl (by decide) rfl (fun ls hl => ?_)
  refine lv_aload_n hx hb d_Mod_divided_5 rfl (lv_at hl 1 rfl) ?_
  obtain ⟨o2, ho2, h⟩ := Option.bind_eq_some_iff.mp h
  have hKc := hK.sub (tys' := [((cs 1), .int), ((cs 2), .int), ((cs 3), .int), ((cs 4), .int), ((cs 5), .int), ((cs 6), .boolean), ((cs 7), .int), ((cs 8), .int), ((cs 9), .int), ((cs 10), .int), ((cs 11), .int), ((cs 12), .int), ((cs 13), .int)]) [0, 1, 2, 3, 4, 5, 6, 7, 8, 9, 10, 11, 12] rfl
  have hPc := hP.sub (ws' := x_Mod ad cs m_thrown m_kind m_steps m_size m_ran m_parts m_taken m_lacked m_decodings m_failures o1.2.1 m_end m_many o1.2.2 m_bytes m_heads m_numbers m_codes m_sizes m_guessed m_results m_values m_states m_came m_boxes m_single m_rows) [0, 1, 2, 3, 4, 5, 6, 7, 8, 9, 10, 11, 12, 13] rfl
  have hDc := hD.sub (ws' := x_Mod ad cs m_thrown m_kind m_steps m_size m_ran m_parts m_taken m_lacked m_decodings m_failures o1.2.1 m_end m_many o1.2.2 m_bytes m_heads m_numbers m_codes m_sizes m_guessed m_results m_values m_states m_came m_boxes m_single m_rows) [0, 1, 2, 3, 4, 5, 6, 7, 8, 9, 10, 11, 12, 13] (by decide) rfl
  have hFc := va_free (wc := x_Mod ad cs m_thrown m_kind m_steps m_size m_ran m_parts m_taken m_lacked m_decodings m_failures o1.2.1 m_end m_many o1.2.2 m_bytes m_heads m_numbers m_codes m_sizes m_guessed m_results m_values m_states m_came m_boxes m_single m_rows) hD hS hA [0, 1, 2, 3, 4, 5, 6, 7, 8, 9, 10, 11, 12, 13] rfl
  refine va_calli (va_runV (As := []) (rest := []) ⟨hx, hb, hml, hown, hB⟩ (c_Mod_take l dC dI tt ad cs H.size N m_thrown m_kind m_steps m_size m_ran m_parts m_taken m_lacked m_decodings m_failures o1.2.1 m_end m_many o1.2.2 m_bytes m_heads m_numbers m_codes m_sizes m_guessed m_results m_values m_states m_came m_boxes m_single m_rows o2 ho2) (cwV 0 hB (gV wd_253 wd_251 wd_250 wd_226 wd_252) rfl rfl rfl (by decide +kernel) ⟨Nat.le_of_ble_eq_true rfl, Nat.le_of_ble_eq_true rfl⟩) ⟨PreW_blind, va_recv hKc hPc (ci := 4) (q0 := 0) rfl rfl, PreW_mk hKc hPc hDc hG hS hFc⟩ rfl rfl hl.1 rfl (lv_room (Nat.le_of_ble_eq_true rfl)) d_Mod_divided_6 ⟨Nat.le_of_ble_eq_true rfl, Nat.le_of_ble_eq_true rfl⟩) hS (fun q _ h => hFc q h) hFc (fun r_2 u_2 t H1 locs ht hvm hw hB hz1 hk1 hS => ?_)
  have hw := hw.symm
  subst hw
  obtain ⟨hP1, hK1, hD1⟩ := hB
  rw [ht] at hP1
  obtain ⟨hP, hD⟩ := va_join (wr := pick (x_Mod ad cs m_thrown m_kind m_steps m_size m_ran m_parts m_taken m_lacked m_decodings m_failures o1.2.1 m_end m_many o1.2.2 m_bytes m_heads m_numbers m_codes m_sizes m_guessed m_results m_values m_states m_came m_boxes m_single m_rows) []) hP hD [0, 1, 2, 3, 4, 5, 6, 7, 8, 9, 10, 11, 12, 13] [] rfl rfl (by decide) (by decide) hk1 hFc hP1 hD1
  generalize H1 = H at hP hS ⊢
  have hP : va_P (dC, dI) vwCl (x_Mod ad cs m_thrown m_kind m_steps m_size m_ran m_parts m_taken m_lacked m_decodings m_failures o2.2.1 m_end m_many o2.2.2 m_bytes m_heads m_numbers m_codes m_sizes m_guessed m_results m_values m_states m_came m_boxes m_single m_rows) H := hP.sub [0, 1, 2, 3, 4, 5, 6, 7, 8, 9, 10, 11, 12, 13] rfl
  have hD : va_D A (x_Mod ad cs m_thrown m_kind m_steps m_size m_ran m_parts m_taken m_lacked m_decodings m_failures o2.2.1 m_end m_many o2.2.2 m_bytes m_heads m_numbers m_codes m_sizes m_guessed m_results m_values m_states m_came m_boxes m_single m_rows) := hD.sub [0, 1, 2, 3, 4, 5, 6, 7, 8, 9, 10, 11, 12, 13] (by decide) rfl
  refine lv_istore_n (lv' := [(2, .int o2.1), (1, .int o1.1), (0, .ref (ad 0))]) hx hb d_Mod_divided_9 rfl hl (by decide) rfl (fun ls hl => ?_)
  refine lv_iload_n hx hb d_Mod_divided_10 rfl (lv_at hl 0 rfl) ?_
  refine lv_if_ne (tgt := 19) hx hb d_Mod_divided_11 (by decide) (fun c_3 => ?_) (fun c_3 => ?_)
  · have h := (if_neg c_3).symm.trans h
    refine lv_aload_n hx hb d_Mod_divided_19 rfl (lv_at hl 2 rfl) ?_
    refine lv_iload_n hx hb d_Mod_divided_20 rfl (lv_at hl 0 rfl) ?_
    refine lv_if_ne (tgt := 28) hx hb d_Mod_divided_21 (by decide) (fun c_4 => ?_) (fun c_4 => ?_)
    · have h := (if_neg c_4).symm.trans h
      refine lv_bipush (v := 16) hx hb d_Mod_divided_28 (by decide) ?_
      refine lv_iload_n hx hb d_Mod_divided_30 rfl (lv_at hl 1 rfl) ?_
      refine lv_imul hx hb d_Mod_divided_31 ?_
      refine lv_iload_n hx hb d_Mod_divided_32 rfl (lv_at hl 0 rfl) ?_
      obtain ⟨z_5, h⟩ := gZ_some h
      refine lv_idiv hx hb d_Mod_divided_33 z_5 ?_
      refine lv_sipush (v := 256) hx hb d_Mod_divided_34 (by decide) ?_
      refine lv_irem hx hb d_Mod_divided_37 (by decide) ?_
      obtain ⟨o6, ho6, h⟩ := Option.bind_eq_some_iff.mp h
      have hKc := hK.sub (tys' := [((cs 1), .int), ((cs 2), .int), ((cs 3), .int), ((cs 4), .int), ((cs 5), .int), ((cs 6), .boolean), ((cs 7), .int), ((cs 8), .int), ((cs 9), .int), ((cs 10), .int), ((cs 11), .int), ((cs 12), .int), ((cs 13), .int)]) [0, 1, 2, 3, 4, 5, 6, 7, 8, 9, 10, 11, 12] rfl
      have hPc := hP.sub (ws' := x_Mod ad cs m_thrown m_kind m_steps m_size m_ran m_parts m_taken m_lacked m_decodings m_failures o2.2.1 m_end m_many o2.2.2 m_bytes m_heads m_numbers m_codes m_sizes m_guessed m_results m_values m_states m_came m_boxes m_single m_rows) [0, 1, 2, 3, 4, 5, 6, 7, 8, 9, 10, 11, 12, 13] rfl
      have hDc := hD.sub (ws' := x_Mod ad cs m_thrown m_kind m_steps m_size m_ran m_parts m_taken m_lacked m_decodings m_failures o2.2.1 m_end m_many o2.2.2 m_bytes m_heads m_numbers m_codes m_sizes m_guessed m_results m_values m_states m_came m_boxes m_single m_rows) [0, 1, 2, 3, 4, 5, 6, 7, 8, 9, 10, 11, 12, 13] (by decide) rfl
      have hFc := va_free (wc := x_Mod ad cs m_thrown m_kind m_steps m_size m_ran m_parts m_taken m_lacked m_decodings m_failures o2.2.1 m_end m_many o2.2.2 m_bytes m_heads m_numbers m_codes m_sizes m_guessed m_results m_values m_states m_came m_boxes m_single m_rows) hD hS hA [0, 1, 2, 3, 4, 5, 6, 7, 8, 9, 10, 11, 12, 13] rfl
      refine va_callv (va_runV (As := [.int ((((16 : Int32) * o1.1) / o2.1) - (((16 : Int32) * o1.1) / o2.1) / (256 : Int32) * (256 : Int32))]) (rest := []) ⟨hx, hb, hml, hown, hB⟩ (c_Mod_give l dC dI tt ad cs H.size N ((((16 : Int32) * o1.1) / o2.1) - (((16 : Int32) * o1.1) / o2.1) / (256 : Int32) * (256 : Int32)) m_thrown m_kind m_steps m_size m_ran m_parts m_taken m_lacked m_decodings m_failures o2.2.1 m_end m_many o2.2.2 m_bytes m_heads m_numbers m_codes m_sizes m_guessed m_results m_values m_states m_came m_boxes m_single m_rows o6 ho6) (cwV 1 hB (gV wd_261 wd_259 wd_258 wd_226 wd_260) rfl rfl rfl (by decide +kernel) ⟨Nat.le_of_ble_eq_true rfl, Nat.le_of_ble_eq_true rfl⟩) ⟨PreW_blind, va_recv hKc hPc (ci := 4) (q0 := 0) rfl rfl, PreW_mk hKc hPc hDc hG hS hFc⟩ rfl rfl hl.1 rfl (lv_room (Nat.le_of_ble_eq_true rfl)) d_Mod_divided_38 ⟨Nat.le_of_ble_eq_true rfl, Nat.le_of_ble_eq_true rfl⟩) hS (fun q _ h => hFc q h) hFc (fun u_6 t H1 locs ht hvm hw hB hz1 hk1 hS => ?_)
      obtain ⟨hP1, hK1, hD1⟩ := hB
      rw [ht] at hP1
      obtain ⟨hP, hD⟩ := va_join (wr := pick (x_Mod ad cs m_thrown m_kind m_steps m_size m_ran m_parts m_taken m_lacked m_decodings m_failures o2.2.1 m_end m_many o2.2.2 m_bytes m_heads m_numbers m_codes m_sizes m_guessed m_results m_values m_states m_came m_boxes m_single m_rows) []) hP hD [0, 1, 2, 3, 4, 5, 6, 7, 8, 9, 10, 11, 12, 13] [] rfl rfl (by decide) (by decide) hk1 hFc hP1 hD1
      generalize H1 = H at hP hS ⊢
      have hP : va_P (dC, dI) vwCl (x_Mod ad cs m_thrown m_kind m_steps m_size m_ran m_parts m_taken m_lacked m_decodings m_failures o2.2.1 m_end o6.1 o2.2.2 m_bytes m_heads m_numbers m_codes m_sizes m_guessed m_results m_values m_states o6.2 m_boxes m_single m_rows) H := hP.sub [0, 1, 2, 3, 4, 5, 6, 7, 8, 9, 10, 11, 12, 13] rfl
      have hD : va_D A (x_Mod ad cs m_thrown m_kind m_steps m_size m_ran m_parts m_taken m_lacked m_decodings m_failures o2.2.1 m_end o6.1 o2.2.2 m_bytes m_heads m_numbers m_codes m_sizes m_guessed m_results m_values m_states o6.2 m_boxes m_single m_rows) := hD.sub [0, 1, 2, 3, 4, 5, 6, 7, 8, 9, 10, 11, 12, 13] (by decide) rfl
      have h := Option.some.inj h
      subst h
      exact W.vret hx hb hr (fun t ht hW => ⟨⟨(), rfl, trivial, AftW_mk hK hP hD ht hW⟩, hS.F ht⟩) hS.2.2 d_Mod_divided_41
    · have h := (if_pos c_4).symm.trans h
      refine lv_iconst (v := 0) hx hb d_Mod_divided_24 (by decide) ?_
      refine lv_goto (tgt := 38) hx hb d_Mod_divided_25 (by decide) ?_
      obtain ⟨o7, ho7, h⟩ := Option.bind_eq_some_iff.mp h
      have hKc := hK.sub (tys' := [((cs 1), .int), ((cs 2), .int), ((cs 3), .int), ((cs 4), .int), ((cs 5), .int), ((cs 6), .boolean), ((cs 7), .int), ((cs 8), .int), ((cs 9), .int), ((cs 10), .int), ((cs 11), .int), ((cs 12), .int), ((cs 13), .int)]) [0, 1, 2, 3, 4, 5, 6, 7, 8, 9, 10, 11, 12] rfl
      have hPc := hP.sub (ws' := x_Mod ad cs m_thrown m_kind m_steps m_size m_ran m_parts m_taken m_lacked m_decodings m_failures o2.2.1 m_end m_many o2.2.2 m_bytes m_heads m_numbers m_codes m_sizes m_guessed m_results m_values m_states m_came m_boxes m_single m_rows) [0, 1, 2, 3, 4, 5, 6, 7, 8, 9, 10, 11, 12, 13] rfl
      have hDc := hD.sub (ws' := x_Mod ad cs m_thrown m_kind m_steps m_size m_ran m_parts m_taken m_lacked m_decodings m_failures o2.2.1 m_end m_many o2.2.2 m_bytes m_heads m_numbers m_codes m_sizes m_guessed m_results m_values m_states m_came m_boxes m_single m_rows) [0, 1, 2, 3, 4, 5, 6, 7, 8, 9, 10, 11, 12, 13] (by decide) rfl
      have hFc := va_free (wc := x_Mod ad cs m_thrown m_kind m_steps m_size m_ran m_parts m_taken m_lacked m_decodings m_failures o2.2.1 m_end m_many o2.2.2 m_bytes m_heads m_numbers m_codes m_sizes m_guessed m_results m_values m_states m_came m_boxes m_single m_rows) hD hS hA [0, 1, 2, 3, 4, 5, 6, 7, 8, 9, 10, 11, 12, 13] rfl
      refine va_callv (va_runV (As := [.int (0 : Int32)]) (rest := []) ⟨hx, hb, hml, hown, hB⟩ (c_Mod_give l dC dI tt ad cs H.size N (0 : Int32) m_thrown m_kind m_steps m_size m_ran m_parts m_taken m_lacked m_decodings m_failures o2.2.1 m_end m_many o2.2.2 m_bytes m_heads m_numbers m_codes m_sizes m_guessed m_results m_values m_states m_came m_boxes m_single m_rows o7 ho7) (cwV 1 hB (gV wd_261 wd_259 wd_258 wd_226 wd_260) rfl rfl rfl (by decide +kernel) ⟨Nat.le_of_ble_eq_true rfl, Nat.le_of_ble_eq_true rfl⟩) ⟨PreW_blind, va_recv hKc hPc (ci := 4) (q0 := 0) rfl rfl, PreW_mk hKc hPc hDc hG hS hFc⟩ rfl rfl hl.1 rfl (lv_room (Nat.le_of_ble_eq_true rfl)) d_Mod_divided_38 ⟨Nat.le_of_ble_eq_true rfl, Nat.le_of_ble_eq_true rfl⟩) hS (fun q _ h => hFc q h) hFc (fun u_7 t H1 locs ht hvm hw hB hz1 hk1 hS => ?_)
      obtain ⟨hP1, hK1, hD1⟩ := hB
      rw [ht] at hP1
      obtain ⟨hP, hD⟩ := va_join (wr := pick (x_Mod ad cs m_thrown m_kind m_steps m_size m_ran m_parts m_taken m_lacked m_decodings m_failures o2.2.1 m_end m_many o2.2.2 m_bytes m_heads m_numbers m_codes m_sizes m_guessed m_results m_values m_states m_came m_boxes m_single m_rows) []) hP hD [0, 1, 2, 3, 4, 5, 6, 7, 8, 9, 10, 11, 12, 13] [] rfl rfl (by decide) (by decide) hk1 hFc hP1 hD1
      generalize H1 = H at hP hS ⊢
      have hP : va_P (dC, dI) vwCl (x_Mod ad cs m_thrown m_kind m_steps m_size m_ran m_parts m_taken m_lacked m_decodings m_failures o2.2.1 m_end o7.1 o2.2.2 m_bytes m_heads m_numbers m_codes m_sizes m_guessed m_results m_values m_states o7.2 m_boxes m_single m_rows) H := hP.sub [0, 1, 2, 3, 4, 5, 6, 7, 8, 9, 10, 11, 12, 13] rfl
      have hD : va_D A (x_Mod ad cs m_thrown m_kind m_steps m_size m_ran m_parts m_taken m_lacked m_decodings m_failures o2.2.1 m_end o7.1 o2.2.2 m_bytes m_heads m_numbers m_codes m_sizes m_guessed m_results m_values m_states o7.2 m_boxes m_single m_rows) := hD.sub [0, 1, 2, 3, 4, 5, 6, 7, 8, 9, 10, 11, 12, 13] (by decide) rfl
      have h := Option.some.inj h
      subst h
      exact W.vret hx hb hr (fun t ht hW => ⟨⟨(), rfl, trivial, AftW_mk hK hP hD ht hW⟩, hS.F ht⟩) hS.2.2 d_Mod_divided_41
  · have h := (if_pos c_3).symm.trans h
    refine lv_aload_n hx hb d_Mod_divided_14 rfl (lv_at hl 2 rfl) ?_
    refine lv_iconst (v := 2) hx hb d_Mod_divided_15 (by decide) ?_
    obtain ⟨o8, ho8, h⟩ := Option.bind_eq_some_iff.mp h
    have hKc := hK.sub (tys' := [((cs 1), .int), ((cs 2), .int), ((cs 3), .int), ((cs 4), .int), ((cs 5), .int), ((cs 6), .boolean), ((cs 7), .int), ((cs 8), .int), ((cs 9), .int), ((cs 10), .int), ((cs 11), .int), ((cs 12), .int), ((cs 13), .int)]) [0, 1, 2, 3, 4, 5, 6, 7, 8, 9, 10, 11, 12] rfl
    have hPc := hP.sub (ws' := x_Mod ad cs m_thrown m_kind m_steps m_size m_ran m_parts m_taken m_lacked m_decodings m_failures o2.2.1 m_end m_many o2.2.2 m_bytes m_heads m_numbers m_codes m_sizes m_guessed m_results m_values m_states m_came m_boxes m_single m_rows) [0, 1, 2, 3, 4, 5, 6, 7, 8, 9, 10, 11, 12, 13] rfl
    have hDc := hD.sub (ws' := x_Mod ad cs m_thrown m_kind m_steps m_size m_ran m_parts m_taken m_lacked m_decodings m_failures o2.2.1 m_end m_many o2.2.2 m_bytes m_heads m_numbers m_codes m_sizes m_guessed m_results m_values m_states m_came m_boxes m_single m_rows) [0, 1, 2, 3, 4, 5, 6, 7, 8, 9, 10, 11, 12, 13] (by decide) rfl
    have hFc := va_free (wc := x_Mod ad cs m_thrown m_kind m_steps m_size m_ran m_parts m_taken m_lacked m_decodings m_failures o2.2.1 m_end m_many o2.2.2 m_bytes m_heads m_numbers m_codes m_sizes m_guessed m_results m_values m_states m_came m_boxes m_single m_rows) hD hS hA [0, 1, 2, 3, 4, 5, 6, 7, 8, 9, 10, 11, 12, 13] rfl
    refine va_callv (va_runV (As := [.int (2 : Int32)]) (rest := []) ⟨hx, hb, hml, hown, hB⟩ (c_Mod_fail l dC dI tt ad cs H.size N (2 : Int32) m_thrown m_kind m_steps m_size m_ran m_parts m_taken m_lacked m_decodings m_failures o2.2.1 m_end m_many o2.2.2 m_bytes m_heads m_numbers m_codes m_sizes m_guessed m_results m_values m_states m_came m_boxes m_single m_rows o8 ho8) (cwV 1 hB (gV wd_247 wd_245 wd_244 wd_226 wd_246) rfl rfl rfl (by decide +kernel) ⟨Nat.le_of_ble_eq_true rfl, Nat.le_of_ble_eq_true rfl⟩) ⟨PreW_blind, va_recv hKc hPc (ci := 4) (q0 := 0) rfl rfl, PreW_mk hKc hPc hDc hG hS hFc⟩ rfl rfl hl.1 rfl (lv_room (Nat.le_of_ble_eq_true rfl)) d_Mod_divided_16 ⟨Nat.le_of_ble_eq_true rfl, Nat.le_of_ble_eq_true rfl⟩) hS (fun q _ h => hFc q h) hFc (fun u_8 t H1 locs ht hvm hw hB hz1 hk1 hS => ?_)
    obtain ⟨hP1, hK1, hD1⟩ := hB
    rw [ht] at hP1
    obtain ⟨hP, hD⟩ := va_join (wr := pick (x_Mod ad cs m_thrown m_kind m_steps m_size m_ran m_parts m_taken m_lacked m_decodings m_failures o2.2.1 m_end m_many o2.2.2 m_bytes m_heads m_numbers m_codes m_sizes m_guessed m_results m_values m_states m_came m_boxes m_single m_rows) []) hP hD [0, 1, 2, 3, 4, 5, 6, 7, 8, 9, 10, 11, 12, 13] [] rfl rfl (by decide) (by decide) hk1 hFc hP1 hD1
    generalize H1 = H at hP hS ⊢
    have hP : va_P (dC, dI) vwCl (x_Mod ad cs m_thrown m_kind m_steps m_size m_ran m_parts m_taken m_lacked m_decodings m_failures o2.2.1 m_end m_many o8 m_bytes m_heads m_numbers m_codes m_sizes m_guessed m_results m_values m_states m_came m_boxes m_single m_rows) H := hP.sub [0, 1, 2, 3, 4, 5, 6, 7, 8, 9, 10, 11, 12, 13] rfl
    have hD : va_D A (x_Mod ad cs m_thrown m_kind m_steps m_size m_ran m_parts m_taken m_lacked m_decodings m_failures o2.2.1 m_end m_many o8 m_bytes m_heads m_numbers m_codes m_sizes m_guessed m_results m_values m_states m_came m_boxes m_single m_rows) := hD.sub [0, 1, 2, 3, 4, 5, 6, 7, 8, 9, 10, 11, 12, 13] (by decide) rfl
    refine lv_aload_n hx hb d_Mod_divided_19 rfl (lv_at hl 2 rfl) ?_
    refine lv_iload_n hx hb d_Mod_divided_20 rfl (lv_at hl 0 rfl) ?_
    refine lv_if_ne (tgt := 28) hx hb d_Mod_divided_21 (by decide) (fun c_9 => ?_) (fun c_9 => ?_)
    · have h := (if_neg c_9).symm.trans h
      refine lv_bipush (v := 16) hx hb d_Mod_divided_28 (by decide) ?_
      refine lv_iload_n hx hb d_Mod_divided_30 rfl (lv_at hl 1 rfl) ?_
      refine lv_imul hx hb d_Mod_divided_31 ?_
      refine lv_iload_n hx hb d_Mod_divided_32 rfl (lv_at hl 0 rfl) ?_
      obtain ⟨z_10, h⟩ := gZ_some h
      refine lv_idiv hx hb d_Mod_divided_33 z_10 ?_
      refine lv_sipush (v := 256) hx hb d_Mod_divided_34 (by decide) ?_
      refine lv_irem hx hb d_Mod_divided_37 (by decide) ?_
      obtain ⟨o11, ho11, h⟩ := Option.bind_eq_some_iff.mp h
      have hKc := hK.sub (tys' := [((cs 1), .int), ((cs 2), .int), ((cs 3), .int), ((cs 4), .int), ((cs 5), .int), ((cs 6), .boolean), ((cs 7), .int), ((cs 8), .int), ((cs 9), .int), ((cs 10), .int), ((cs 11), .int), ((cs 12), .int), ((cs 13), .int)]) [0, 1, 2, 3, 4, 5, 6, 7, 8, 9, 10, 11, 12] rfl
      have hPc := hP.sub (ws' := x_Mod ad cs m_thrown m_kind m_steps m_size m_ran m_parts m_taken m_lacked m_decodings m_failures o2.2.1 m_end m_many o8 m_bytes m_heads m_numbers m_codes m_sizes m_guessed m_results m_values m_states m_came m_boxes m_single m_rows) [0, 1, 2, 3, 4, 5, 6, 7, 8, 9, 10, 11, 12, 13] rfl
      have hDc := hD.sub (ws' := x_Mod ad cs m_thrown m_kind m_steps m_size m_ran m_parts m_taken m_lacked m_decodings m_failures o2.2.1 m_end m_many o8 m_bytes m_heads m_numbers m_codes m_sizes m_guessed m_results m_values m_states m_came m_boxes m_single m_rows) [0, 1, 2, 3, 4, 5, 6, 7, 8, 9, 10, 11, 12, 13] (by decide) rfl
      have hFc := va_free (wc := x_Mod ad cs m_thrown m_kind m_steps m_size m_ran m_parts m_taken m_lacked m_decodings m_failures o2.2.1 m_end m_many o8 m_bytes m_heads m_numbers m_codes m_sizes m_guessed m_results m_values m_states m_came m_boxes m_single m_rows) hD hS hA [0, 1, 2, 3, 4, 5, 6, 7, 8, 9, 10, 11, 12, 13] rfl
      refine va_callv (va_runV (As := [.int ((((16 : Int32) * o1.1) / o2.1) - (((16 : Int32) * o1.1) / o2.1) / (256 : Int32) * (256 : Int32))]) (rest := []) ⟨hx, hb, hml, hown, hB⟩ (c_Mod_give l dC dI tt ad cs H.size N ((((16 : Int32) * o1.1) / o2.1) - (((16 : Int32) * o1.1) / o2.1) / (256 : Int32) * (256 : Int32)) m_thrown m_kind m_steps m_size m_ran m_parts m_taken m_lacked m_decodings m_failures o2.2.1 m_end m_many o8 m_bytes m_heads m_numbers m_codes m_sizes m_guessed m_results m_values m_states m_came m_boxes m_single m_rows o11 ho11) (cwV 1 hB (gV wd_261 wd_259 wd_258 wd_226 wd_260) rfl rfl rfl (by decide +kernel) ⟨Nat.le_of_ble_eq_true rfl, Nat.le_of_ble_eq_true rfl⟩) ⟨PreW_blind, va_recv hKc hPc (ci := 4) (q0 := 0) rfl rfl, PreW_mk hKc hPc hDc hG hS hFc⟩ rfl rfl hl.1 rfl (lv_room (Nat.le_of_ble_eq_true rfl)) d_Mod_divided_38 ⟨Nat.le_of_ble_eq_true rfl, Nat.le_of_ble_eq_true rfl⟩) hS (fun q _ h => hFc q h) hFc (fun u_11 t H1 locs ht hvm hw hB hz1 hk1 hS => ?_)
      obtain ⟨hP1, hK1, hD1⟩ := hB
      rw [ht] at hP1
      obtain ⟨hP, hD⟩ := va_join (wr := pick (x_Mod ad cs m_thrown m_kind m_steps m_size m_ran m_parts m_taken m_lacked m_decodings m_failures o2.2.1 m_end m_many o8 m_bytes m_heads m_numbers m_codes m_sizes m_guessed m_results m_values m_states m_came m_boxes m_single m_rows) []) hP hD [0, 1, 2, 3, 4, 5, 6, 7, 8, 9, 10, 11, 12, 13] [] rfl rfl (by decide) (by decide) hk1 hFc hP1 hD1
      generalize H1 = H at hP hS ⊢
      have hP : va_P (dC, dI) vwCl (x_Mod ad cs m_thrown m_kind m_steps m_size m_ran m_parts m_taken m_lacked m_decodings m_failures o2.2.1 m_end o11.1 o8 m_bytes m_heads m_numbers m_codes m_sizes m_guessed m_results m_values m_states o11.2 m_boxes m_single m_rows) H := hP.sub [0, 1, 2, 3, 4, 5, 6, 7, 8, 9, 10, 11, 12, 13] rfl
      have hD : va_D A (x_Mod ad cs m_thrown m_kind m_steps m_size m_ran m_parts m_taken m_lacked m_decodings m_failures o2.2.1 m_end o11.1 o8 m_bytes m_heads m_numbers m_codes m_sizes m_guessed m_results m_values m_states o11.2 m_boxes m_single m_rows) := hD.sub [0, 1, 2, 3, 4, 5, 6, 7, 8, 9, 10, 11, 12, 13] (by decide) rfl
      have h := Option.some.inj h
      subst h
      exact W.vret hx hb hr (fun t ht hW => ⟨⟨(), rfl, trivial, AftW_mk hK hP hD ht hW⟩, hS.F ht⟩) hS.2.2 d_Mod_divided_41
    · have h := (if_pos c_9).symm.trans h
      refine lv_iconst (v := 0) hx hb d_Mod_divided_24 (by decide) ?_
      refine lv_goto (tgt := 38) hx hb d_Mod_divided_25 (by decide) ?_
      obtain ⟨o12, ho12, h⟩ := Option.bind_eq_some_iff.mp h
      have hKc := hK.sub (tys' := [((cs 1), .int), ((cs 2), .int), ((cs 3), .int), ((cs 4), .int), ((cs 5), .int), ((cs 6), .boolean), ((cs 7), .int), ((cs 8), .int), ((cs 9), .int), ((cs 10), .int), ((cs 11), .int), ((cs 12), .int), ((cs 13), .int)]) [0, 1, 2, 3, 4, 5, 6, 7, 8, 9, 10, 11, 12] rfl
      have hPc := hP.sub (ws' := x_Mod ad cs m_thrown m_kind m_steps m_size m_ran m_parts m_taken m_lacked m_decodings m_failures o2.2.1 m_end m_many o8 m_bytes m_heads m_numbers m_codes m_sizes m_guessed m_results m_values m_states m_came m_boxes m_single m_rows) [0, 1, 2, 3, 4, 5, 6, 7, 8, 9, 10, 11, 12, 13] rfl
      have hDc := hD.sub (ws' := x_Mod ad cs m_thrown m_kind m_steps m_size m_ran m_parts m_taken m_lacked m_decodings m_failures o2.2.1 m_end m_many o8 m_bytes m_heads m_numbers m_codes m_sizes m_guessed m_results m_values m_states m_came m_boxes m_single m_rows) [0, 1, 2, 3, 4, 5, 6, 7, 8, 9, 10, 11, 12, 13] (by decide) rfl
      have hFc := va_free (wc := x_Mod ad cs m_thrown m_kind m_steps m_size m_ran m_parts m_taken m_lacked m_decodings m_failures o2.2.1 m_end m_many o8 m_bytes m_heads m_numbers m_codes m_sizes m_guessed m_results m_values m_states m_came m_boxes m_single m_rows) hD hS hA [0, 1, 2, 3, 4, 5, 6, 7, 8, 9, 10, 11, 12, 13] rfl
      refine va_callv (va_runV (As := [.int (0 : Int32)]) (rest := []) ⟨hx, hb, hml, hown, hB⟩ (c_Mod_give l dC dI tt ad cs H.size N (0 : Int32) m_thrown m_kind m_steps m_size m_ran m_parts m_taken m_lacked m_decodings m_failures o2.2.1 m_end m_many o8 m_bytes m_heads m_numbers m_codes m_sizes m_guessed m_results m_values m_states m_came m_boxes m_single m_rows o12 ho12) (cwV 1 hB (gV wd_261 wd_259 wd_258 wd_226 wd_260) rfl rfl rfl (by decide +kernel) ⟨Nat.le_of_ble_eq_true rfl, Nat.le_of_ble_eq_true rfl⟩) ⟨PreW_blind, va_recv hKc hPc (ci := 4) (q0 := 0) rfl rfl, PreW_mk hKc hPc hDc hG hS hFc⟩ rfl rfl hl.1 rfl (lv_room (Nat.le_of_ble_eq_true rfl)) d_Mod_divided_38 ⟨Nat.le_of_ble_eq_true rfl, Nat.le_of_ble_eq_true rfl⟩) hS (fun q _ h => hFc q h) hFc (fun u_12 t H1 locs ht hvm hw hB hz1 hk1 hS => ?_)
      obtain ⟨hP1, hK1, hD1⟩ := hB
      rw [ht] at hP1
      obtain ⟨hP, hD⟩ := va_join (wr := pick (x_Mod ad cs m_thrown m_kind m_steps m_size m_ran m_parts m_taken m_lacked m_decodings m_failures o2.2.1 m_end m_many o8 m_bytes m_heads m_numbers m_codes m_sizes m_guessed m_results m_values m_states m_came m_boxes m_single m_rows) []) hP hD [0, 1, 2, 3, 4, 5, 6, 7, 8, 9, 10, 11, 12, 13] [] rfl rfl (by decide) (by decide) hk1 hFc hP1 hD1
      generalize H1 = H at hP hS ⊢
      have hP : va_P (dC, dI) vwCl (x_Mod ad cs m_thrown m_kind m_steps m_size m_ran m_parts m_taken m_lacked m_decodings m_failures o2.2.1 m_end o12.1 o8 m_bytes m_heads m_numbers m_codes m_sizes m_guessed m_results m_values m_states o12.2 m_boxes m_single m_rows) H := hP.sub [0, 1, 2, 3, 4, 5, 6, 7, 8, 9, 10, 11, 12, 13] rfl
      have hD : va_D A (x_Mod ad cs m_thrown m_kind m_steps m_size m_ran m_parts m_taken m_lacked m_decodings m_failures o2.2.1 m_end o12.1 o8 m_bytes m_heads m_numbers m_codes m_sizes m_guessed m_results m_values m_states o12.2 m_boxes m_single m_rows) := hD.sub [0, 1, 2, 3, 4, 5, 6, 7, 8, 9, 10, 11, 12, 13] (by decide) rfl
      have h := Option.some.inj h
      subst h
      exact W.vret hx hb hr (fun t ht hW => ⟨⟨(), rfl, trivial, AftW_mk hK hP hD ht hW⟩, hS.F ht⟩) hS.2.2 d_Mod_divided_41
def d_Mod_makeRow_L19 (N : Nat) (y19_1 : Int32) : Nat → Int32 → Int32 → (Nat → Int32) → (Nat → Int32) → Option (Int32 × (Nat → Int32) × (Nat → Int32))
  | 0, _, _, _, _ => none
  | n + 1, y19_3, m_wrong_19, m_boxes_19, m_rows_19 => if (8 : Int32) ≤ y19_3 then some (m_wrong_19, m_boxes_19, m_rows_19) else gI (((8 : Int32) * y19_1) + y19_3) 64 (d_Mod_makeRow_L19 N y19_1 n (y19_3 + 1) m_wrong_19 m_boxes_19 (upd m_rows_19 (((8 : Int32) * y19_1) + y19_3).toNatClampNeg (0 : Int32)))
def d_Mod_makeRow (N : Nat) (x1 : Int32) (x2 : Int32) (m_wrong : Int32) (m_boxes : Nat → Int32) (m_rows : Nat → Int32) : Option (Int32 × (Nat → Int32) × (Nat → Int32)) :=
 if 0 ≤ x2 then gI x1 8 ((d_Mod_makeRow_L19 N x1 N (0 : Int32) m_wrong (upd m_boxes x1.toNatClampNeg x2) m_rows).bind (fun s19 => some (s19.1, s19.2.1, s19.2.2))) else (d_Mod_fail N (5 : Int32) m_wrong).bind (fun o5 => some (o5, m_boxes, m_rows))
abbrev rm_Mod_makeRow : Room := { frames := 1, cells := 0, slots := 0, locals := 21 }
set_option maxHeartbeats 4000000 in
set_option maxRecDepth 100000 in
theorem c_Mod_makeRow (l : Launch) (dC : Nat → ClassId) (dI : Nat → Nat → Nat) (tt : Nat → Nat) (ad : Nat → Nat) (cs : Nat → ClassId) (sz N : Nat) (x1 : Int32) (x2 : Int32) (m_thrown : Int32) (m_kind : Int32) (m_steps : Int32) (m_size : Int32) (m_ran : Int32) (m_parts : Int32) (m_taken : Int32) (m_lacked : Int32) (m_decodings : Int32) (m_failures : Int32) (m_at : Int32) (m_end : Int32) (m_many : Int32) (m_wrong : Int32) (m_bytes : Nat → Int32) (m_heads : Nat → Int32) (m_numbers : Nat → Int32) (m_codes : Nat → Int32) (m_sizes : Nat → Int32) (m_guessed : Nat → Int32) (m_results : Nat → Int32) (m_values : Nat → Int32) (m_states : Nat → Int32) (m_came : Nat → Int32) (m_boxes : Nat → Int32) (m_single : Nat → Int32) (m_rows : Nat → Int32) (out : Int32 × (Nat → Int32) × (Nat → Int32)) (h : d_Mod_makeRow N x1 x2 m_wrong m_boxes m_rows = some out) :
    Met l y_Mod_makeRow (w_Mod_makeRow) rm_Mod_makeRow (va_Pc [.ref (ad 0), .int x1, .int x2] (PreW (dC, dI) [((cs 1), .int), ((cs 2), .int), ((cs 3), .int), ((cs 4), .int), ((cs 5), .int), ((cs 6), .boolean), ((cs 7), .int), ((cs 8), .int), ((cs 9), .int), ((cs 10), .int), ((cs 11), .int), ((cs 12), .int), ((cs 13), .int)] (x_Mod ad cs m_thrown m_kind m_steps m_size m_ran m_parts m_taken m_lacked m_decodings m_failures m_at m_end m_many m_wrong m_bytes m_heads m_numbers m_codes m_sizes m_guessed m_results m_values m_states m_came m_boxes m_single m_rows) sz tt)) (va_Qv (fun (_ : Unit) => True) (fun _ => AftW (dC, dI) [((cs 1), .int), ((cs 2), .int), ((cs 3), .int), ((cs 4), .int), ((cs 5), .int), ((cs 6), .boolean), ((cs 7), .int), ((cs 8), .int), ((cs 9), .int), ((cs 10), .int), ((cs 11), .int), ((cs 12), .int), ((cs 13), .int)] (va_A (x_Mod ad cs m_thrown m_kind m_steps m_size m_ran m_parts m_taken m_lacked m_decodings m_failures m_at m_end m_many m_wrong m_bytes m_heads m_numbers m_codes m_sizes m_guessed m_results m_values m_states m_came m_boxes m_single m_rows) sz) (x_Mod ad cs m_thrown m_kind m_steps m_size m_ran m_parts m_taken m_lacked m_decodings m_failures m_at m_end m_many out.1 m_bytes m_heads m_numbers m_codes m_sizes m_guessed m_results m_values m_states m_came out.2.1 m_single out.2.2)) (va_A (x_Mod ad cs m_thrown m_kind m_steps m_size m_ran m_parts m_taken m_lacked m_decodings m_failures m_at m_end m_many m_wrong m_bytes m_heads m_numbers m_codes m_sizes m_guessed m_results m_values m_states m_came m_boxes m_single m_rows) sz)) 0 0 (va_A (x_Mod ad cs m_thrown m_kind m_steps m_size m_ran m_parts m_taken m_lacked m_decodings m_failures m_at m_end m_many m_wrong m_bytes m_heads m_numbers m_codes m_sizes m_guessed m_results m_values m_states m_came m_boxes m_single m_rows) sz) := by
  refine Met.ofW (cc := k_Mod_makeRow) (maxL := 4) (ret := none) (by decide) rfl ?_
  intro p e s m args below meth c s₁ B hml hv
  obtain ⟨rfl, hsz, hP, hK, hD0, hG⟩ := hv
  have hx := B.exec
  have hb := B.bytes
  have hr := B.returns
  have hts := atoms_spec (ws := (w_Mod_makeRow)) B.pre
  have hB : ∀ w ∈ BIG, w.before _ s = true := fun w h9 => hts w (List.mem_cons_of_mem _ h9)
  have hown : s.vm.findClass R_Mod = some m.cls := findClass_of_methodNamed B.named
  have hlocks := B.notSynchronized
  subst hsz
  have hD := hD0.self (sz := s.heap.size)
  generalize hAe : va_A (x_Mod ad cs m_thrown m_kind m_steps m_size m_ran m_parts m_taken m_lacked m_decodings m_failures m_at m_end m_many m_wrong m_bytes m_heads m_numbers m_codes m_sizes m_guessed m_results m_values m_states m_came m_boxes m_single m_rows) s.heap.size = A at hD hG ⊢
  have hA : ∀ q : Nat, s.heap.size ≤ q → A q := fun q h => by rw [← hAe]; exact Or.inr h
  have hS : va_S A s.heap s.heap [] := va_S.rf
  have hl := lv_entry ([.ref (ad 0), .int x1, .int x2]) (n := 4) (Nat.le_of_ble_eq_true rfl)
  rw [lg_entry_eq]
  generalize (lg_sl ([.ref (ad 0), .int x1, .int x2]) ++ List.replicate (4 - (lg_sl ([.ref (ad 0), .int x1, .int x2])).length) Slot.unset).toArray = ls at hl ⊢
  have hl : lv_has ls 4 [(0, .ref (ad 0)), (1, .int x1), (2, .int x2)] := hl
  unfold d_Mod_makeRow at h
  refine lv_iload_n hx hb d_Mod_makeRow_0 rfl (lv_at hl 2 rfl) ?_
  refine lv_if_ge (tgt := 10) hx hb d_Mod_makeRow_1 (by decide) (fun c_1 => ?_) (fun c_1 => ?_)
  · have h := (if_pos c_1).symm.trans h
    refine lv_aload_n hx hb d_Mod_makeRow_10 rfl (lv_at hl 0 rfl) ?_
    refine va_get (D := (dC, dI)) (ci := 4) (v := .ref (ad 11)) (C := R_Mod) (T := T_Mod) (N := 27) hx hb hB in_Mod hown hK hP 0 rfl rfl 24 (by decide) (hB _ wd_262) (fun _ h9 => h9) rfl d_Mod_makeRow_11 ?_
    refine lv_iload_n hx hb d_Mod_makeRow_14 rfl (lv_at hl 1 rfl) ?_
    refine lv_iload_n hx hb d_Mod_makeRow_15 rfl (lv_at hl 2 rfl) ?_
    obtain ⟨b_2, h⟩ := gI_some h
    refine va_iast hx hb hK hP hD hS 11 10 rfl rfl b_2 d_Mod_makeRow_16 (fun H locs hP hD hS => ?_)
    have hP : va_P (dC, dI) vwCl (x_Mod ad cs m_thrown m_kind m_steps m_size m_ran m_parts m_taken m_lacked m_decodings m_failures m_at m_end m_many m_wrong m_bytes m_heads m_numbers m_codes m_sizes m_guessed m_results m_values m_states m_came (upd m_boxes x1.toNatClampNeg x2) m_single m_rows) H := hP
    have hD : va_D A (x_Mod ad cs m_thrown m_kind m_steps m_size m_ran m_parts m_taken m_lacked m_decodings m_failures m_at m_end m_many m_wrong m_bytes m_heads m_numbers m_codes m_sizes m_guessed m_results m_values m_states m_came (upd m_boxes x1.toNatClampNeg x2) m_single m_rows) := hD
    refine lv_iconst (v := 0) hx hb d_Mod_makeRow_17 (by decide) ?_
    refine lv_istore_n (lv' := [(3, .int (0 : Int32)), (0, .ref (ad 0)), (1, .int x1), (2, .int x2)]) hx hb d_Mod_makeRow_18 rfl hl (by decide) rfl (fun ls hl => ?_)
    obtain ⟨s19, hs19, h⟩ := Option.bind_eq_some_iff.mp h
    have X19 : ∀ (H : Heap) (locs : List Loc) (ls : Array Slot), lv_has ls 4 [] → va_P (dC, dI) vwCl (x_Mod ad cs m_thrown m_kind m_steps m_size m_ran m_parts m_taken m_lacked m_decodings m_failures m_at m_end m_many s19.1 m_bytes m_heads m_numbers m_codes m_sizes m_guessed m_results m_values m_states m_came s19.2.1 m_single s19.2.2) H → va_D A (x_Mod ad cs m_thrown m_kind m_steps m_size m_ran m_parts m_taken m_lacked m_decodings m_failures m_at m_end m_many s19.1 m_bytes m_heads m_numbers m_codes m_sizes m_guessed m_results m_values m_states m_came s19.2.1 m_single s19.2.2) → va_S A s.heap H locs → W p l e (headSpec (w_Mod_makeRow) rm_Mod_makeRow).room s m ([.ref (ad 0), .int x1, .int x2] : List Value).toArray below meth c H locs 0 0 (MQ below (va_Qv (fun (_ : Unit) => True) (fun _ => AftW (dC, dI) [((cs 1), .int), ((cs 2), .int), ((cs 3), .int), ((cs 4), .int), ((cs 5), .int), ((cs 6), .boolean), ((cs 7), .int), ((cs 8), .int), ((cs 9), .int), ((cs 10), .int), ((cs 11), .int), ((cs 12), .int), ((cs 13), .int)] A (x_Mod ad cs m_thrown m_kind m_steps m_size m_ran m_parts m_taken m_lacked m_decodings m_failures m_at m_end m_many out.1 m_bytes m_heads m_numbers m_codes m_sizes m_guessed m_results m_values m_states m_came out.2.1 m_single out.2.2)) A) ([.ref (ad 0), .int x1, .int x2] : List Value).toArray s 0 0 A) (F0 m 43 ls []) := by
      intro H locs ls hl hP hD hS
      have h := Option.some.inj h
      subst h
      exact W.vret hx hb hr (fun t ht hW => ⟨⟨(), rfl, trivial, AftW_mk hK hP hD ht hW⟩, hS.F ht⟩) hS.2.2 d_Mod_makeRow_43
    have L19 : ∀ (n : Nat) (y19_3 : Int32) (m_wrong_19 : Int32) (m_boxes_19 : Nat → Int32) (m_rows_19 : Nat → Int32) (H : Heap) (locs : List Loc) (ls : Array Slot), lv_has ls 4 [(0, .ref (ad 0)), (1, .int x1), (3, .int y19_3)] → va_P (dC, dI) vwCl (x_Mod ad cs m_thrown m_kind m_steps m_size m_ran m_parts m_taken m_lacked m_decodings m_failures m_at m_end m_many m_wrong_19 m_bytes m_heads m_numbers m_codes m_sizes m_guessed m_results m_values m_states m_came m_boxes_19 m_single m_rows_19) H → va_D A (x_Mod ad cs m_thrown m_kind m_steps m_size m_ran m_parts m_taken m_lacked m_decodings m_failures m_at m_end m_many m_wrong_19 m_bytes m_heads m_numbers m_codes m_sizes m_guessed m_results m_values m_states m_came m_boxes_19 m_single m_rows_19) → va_S A s.heap H locs → d_Mod_makeRow_L19 N x1 n y19_3 m_wrong_19 m_boxes_19 m_rows_19 = some s19 → W p l e (headSpec (w_Mod_makeRow) rm_Mod_makeRow).room s m ([.ref (ad 0), .int x1, .int x2] : List Value).toArray below meth c H locs 0 0 (MQ below (va_Qv (fun (_ : Unit) => True) (fun _ => AftW (dC, dI) [((cs 1), .int), ((cs 2), .int), ((cs 3), .int), ((cs 4), .int), ((cs 5), .int), ((cs 6), .boolean), ((cs 7), .int), ((cs 8), .int), ((cs 9), .int), ((cs 10), .int), ((cs 11), .int), ((cs 12), .int), ((cs 13), .int)] A (x_Mod ad cs m_thrown m_kind m_steps m_size m_ran m_parts m_taken m_lacked m_decodings m_failures m_at m_end m_many out.1 m_bytes m_heads m_numbers m_codes m_sizes m_guessed m_results m_values m_states m_came out.2.1 m_single out.2.2)) A) ([.ref (ad 0), .int x1, .int x2] : List Value).toArray s 0 0 A) (F0 m 19 ls []) := by
      intro n
      induction n with
      | zero =>
        intro y19_3 m_wrong_19 m_boxes_19 m_rows_19 H locs ls hl hP hD hS h
        rw [d_Mod_makeRow_L19] at h
        cases h
      | succ n ih =>
        intro y19_3 m_wrong_19 m_boxes_19 m_rows_19 H locs ls hl hP hD hS h
        rw [d_Mod_makeRow_L19] at h
        refine lv_iload_n hx hb d_Mod_makeRow_19 rfl (lv_at hl 2 rfl) ?_
        refine lv_bipush (v := 8) hx hb d_Mod_makeRow_20 (by decide) ?_
        refine lv_icmp_ge (tgt := 43) hx hb d_Mod_makeRow_22 (by decide) (fun c_3 => ?_) (fun c_3 => ?_)
        · have h := (if_pos c_3).symm.trans h
          have h := Option.some.inj h
          subst h
          exact X19 H locs ls (lv_sub hl [] rfl) hP hD hS
        · have h := (if_neg c_3).symm.trans h
          refine lv_aload_n hx hb d_Mod_makeRow_25 rfl (lv_at hl 0 rfl) ?_
          refine va_get (D := (dC, dI)) (ci := 4) (v := .ref (ad 13)) (C := R_Mod) (T := T_Mod) (N := 27) hx hb hB in_Mod hown hK hP 0 rfl rfl 26 (by decide) (hB _ wd_263) (fun _ h9 => h9) rfl d_Mod_makeRow_26 ?_
          refine lv_bipush (v := 8) hx hb d_Mod_makeRow_29 (by decide) ?_
          refine lv_iload_n hx hb d_Mod_makeRow_31 rfl (lv_at hl 1 rfl) ?_
          refine lv_imul hx hb d_Mod_makeRow_32 ?_
          refine lv_iload_n hx hb d_Mod_makeRow_33 rfl (lv_at hl 2 rfl) ?_
          refine lv_iadd hx hb d_Mod_makeRow_34 ?_
          refine lv_iconst (v := 0) hx hb d_Mod_makeRow_35 (by decide) ?_
          obtain ⟨b_4, h⟩ := gI_some h
          refine va_iast hx hb hK hP hD hS 13 12 rfl rfl b_4 d_Mod_makeRow_36 (fun H locs hP hD hS => ?_)
          have hP : va_P (dC, dI) vwCl (x_Mod ad cs m_thrown m_kind m_steps m_size m_ran m_parts m_taken m_lacked m_decodings m_failures m_at m_end m_many m_wrong_19 m_bytes m_heads m_numbers m_codes m_sizes m_guessed m_results m_values m_states m_came m_boxes_19 m_single (upd m_rows_19 (((8 : Int32) * x1) + y19_3).toNatClampNeg (0 : Int32))) H := hP
          have hD : va_D A (x_Mod ad cs m_thrown m_kind m_steps m_size m_ran m_parts m_taken m_lacked m_decodings m_failures m_at m_end m_many m_wrong_19 m_bytes m_heads m_numbers m_codes m_sizes m_guessed m_results m_values m_states m_came m_boxes_19 m_single (upd m_rows_19 (((8 : Int32) * x1) + y19_3).toNatClampNeg (0 : Int32))) := hD
          refine lv_iinc (v := y19_3 + 1) (lv' := [(3, .int (y19_3 + 1)), (0, .ref (ad 0)), (1, .int x1)]) hx hb d_Mod_makeRow_37 hl (k := 2) rfl rfl (by decide) rfl (fun ls hl => ?_)
          refine lv_goto (tgt := 19) hx hb d_Mod_makeRow_40 (by decide) ?_
          exact ih (y19_3 + 1) m_wrong_19 m_boxes_19 (upd m_rows_19 (((8 : Int32) * x1) + y19_3).toNatClampNeg (0 : Int32)) H locs ls (lv_sub hl [1, 2, 0] rfl) hP hD hS h
    exact L19 N (0 : Int32) m_wrong (upd m_boxes x1.toNatClampNeg x2) m_rows _ _ ls (lv_sub hl [1, 2, 0] rfl) hP hD hS hs19
  · have h := (if_neg c_1).symm.trans h
    refine lv_aload_n hx hb d_Mod_makeRow_4 rfl (lv_at hl 0 rfl) ?_
    refine lv_iconst (v := 5) hx hb d_Mod_makeRow_5 (by decide) ?_
    obtain ⟨o5, ho5, h⟩ := Option.bind_eq_some_iff.mp h
    have hKc := hK.sub (tys' := [((cs 1), .int), ((cs 2), .int), ((cs 3), .int), ((cs 4), .int), ((cs 5), .int), ((cs 6), .boolean), ((cs 7), .int), ((cs 8), .int), ((cs 9), .int), ((cs 10), .int), ((cs 11), .int), ((cs 12), .int), ((cs 13), .int)]) [0, 1, 2, 3, 4, 5, 6, 7, 8, 9, 10, 11, 12] rfl
    have hPc := hP.sub (ws' := x_Mod ad cs m_thrown m_kind m_steps m_size m_ran m_parts m_taken m_lacked m_decodings m_failures m_at m_end m_many m_wrong m_bytes m_heads m_numbers m_codes m_sizes m_guessed m_results m_values m_states m_came m_boxes m_single m_rows) [0, 1, 2, 3, 4, 5, 6, 7, 8, 9, 10, 11, 12, 13] rfl
    have hDc := hD.sub (ws' := x_Mod ad cs m_thrown m_kind m_steps m_size m_ran m_parts m_taken m_lacked m_decodings m_failures m_at m_end m_many m_wrong m_bytes m_heads m_numbers m_codes m_sizes m_guessed m_results m_values m_states m_came m_boxes m_single m_rows) [0, 1, 2, 3, 4, 5, 6, 7, 8, 9, 10, 11, 12, 13] (by decide) rfl
    have hFc := va_free (wc := x_Mod ad cs m_thrown m_kind m_steps m_size m_ran m_parts m_taken m_lacked m_decodings m_failures m_at m_end m_many m_wrong m_bytes m_heads m_numbers m_codes m_sizes m_guessed m_results m_values m_states m_came m_boxes m_single m_rows) hD hS hA [0, 1, 2, 3, 4, 5, 6, 7, 8, 9, 10, 11, 12, 13] rfl
    refine va_callv (va_runV (As := [.int (5 : Int32)]) (rest := []) ⟨hx, hb, hml, hown, hB⟩ (c_Mod_fail l dC dI tt ad cs s.heap.size N (5 : Int32) m_thrown m_kind m_steps m_size m_ran m_parts m_taken m_lacked m_decodings m_failures m_at m_end m_many m_wrong m_bytes m_heads m_numbers m_codes m_sizes m_guessed m_results m_values m_states m_came m_boxes m_single m_rows o5 ho5) (cwV 1 hB (gV wd_247 wd_245 wd_244 wd_226 wd_246) rfl rfl rfl (by decide +kernel) ⟨Nat.le_of_ble_eq_true rfl, Nat.le_of_ble_eq_true rfl⟩) ⟨PreW_blind, va_recv hKc hPc (ci := 4) (q0 := 0) rfl rfl, PreW_mk hKc hPc hDc hG hS hFc⟩ rfl rfl hl.1 rfl (lv_room (Nat.le_of_ble_eq_true rfl)) d_Mod_makeRow_6 ⟨Nat.le_of_ble_eq_true rfl, Nat.le_of_ble_eq_true rfl⟩) hS (fun q _ h => hFc q h) hFc (fun u_5 t H1 locs ht hvm hw hB hz1 hk1 hS => ?_)
    obtain ⟨hP1, hK1, hD1⟩ := hB
    rw [ht] at hP1
    obtain ⟨hP, hD⟩ := va_join (wr := pick (x_Mod ad cs m_thrown m_kind m_steps m_size m_ran m_parts m_taken m_lacked m_decodings m_failures m_at m_end m_many m_wrong m_bytes m_heads m_numbers m_codes m_sizes m_guessed m_results m_values m_states m_came m_boxes m_single m_rows) []) hP hD [0, 1, 2, 3, 4, 5, 6, 7, 8, 9, 10, 11, 12, 13] [] rfl rfl (by decide) (by decide) hk1 hFc hP1 hD1
    generalize H1 = H at hP hS ⊢
    have hP : va_P (dC, dI) vwCl (x_Mod ad cs m_thrown m_kind m_steps m_size m_ran m_parts m_taken m_lacked m_decodings m_failures m_at m_end m_many o5 m_bytes m_heads m_numbers m_codes m_sizes m_guessed m_results m_values m_states m_came m_boxes m_single m_rows) H := hP.sub [0, 1, 2, 3, 4, 5, 6, 7, 8, 9, 10, 11, 12, 13] rfl
    have hD : va_D A (x_Mod ad cs m_thrown m_kind m_steps m_size m_ran m_parts m_taken m_lacked m_decodings m_failures m_at m_end m_many o5 m_bytes m_heads m_numbers m_codes m_sizes m_guessed m_results m_values m_states m_came m_boxes m_single m_rows) := hD.sub [0, 1, 2, 3, 4, 5, 6, 7, 8, 9, 10, 11, 12, 13] (by decide) rfl
    have h := Option.some.inj h
    subst h
    exact W.vret hx hb hr (fun t ht hW => ⟨⟨(), rfl, trivial, AftW_mk hK hP hD ht hW⟩, hS.F ht⟩) hS.2.2 d_Mod_makeRow_9
