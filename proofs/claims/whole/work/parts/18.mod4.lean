def d_Mod_run_L39 (N : Nat) (m_kind : Int32) (m_steps : Int32) (m_size : Int32) (m_bytes : Nat → Int32) : Nat → Int32 → Int32 → Int32 → Int32 → Int32 → Int32 → (Nat → Int32) → (Nat → Int32) → (Nat → Int32) → (Nat → Int32) → (Nat → Int32) → (Nat → Int32) → (Nat → Int32) → Option (Int32 × Int32 × Int32 × Int32 × Int32 × Int32 × (Nat → Int32) × (Nat → Int32) × (Nat → Int32) × (Nat → Int32) × (Nat → Int32) × (Nat → Int32) × (Nat → Int32))
  | 0, _, _, _, _, _, _, _, _, _, _, _, _, _ => none
  | n + 1, y39_1, m_thrown_39, m_ran_39, m_parts_39, m_taken_39, m_lacked_39, m_heads_39, m_numbers_39, m_codes_39, m_sizes_39, m_guessed_39, m_results_39, m_states_39 => if m_size ≤ y39_1 then some (y39_1, m_thrown_39, m_ran_39, m_parts_39, m_taken_39, m_lacked_39, m_heads_39, m_numbers_39, m_codes_39, m_sizes_39, m_guessed_39, m_results_39, m_states_39) else if m_steps ≤ m_taken_39 then some (y39_1, m_thrown_39, m_ran_39, m_parts_39, m_taken_39, m_lacked_39, m_heads_39, m_numbers_39, m_codes_39, m_sizes_39, m_guessed_39, m_results_39, m_states_39) else if (16 : Int32) ≤ m_parts_39 then some (y39_1, m_thrown_39, m_ran_39, m_parts_39, m_taken_39, m_lacked_39, m_heads_39, m_numbers_39, m_codes_39, m_sizes_39, m_guessed_39, m_results_39, m_states_39) else (d_Mod_isHead N y39_1 m_kind m_size m_bytes).bind (fun o40004 => if o40004 = 0 then (d_Mod_isHead N y39_1 m_kind m_size m_bytes).bind (fun o40006 => if o40006 = 0 then d_Mod_run_L39 N m_kind m_steps m_size m_bytes n (y39_1 + 1) m_thrown_39 m_ran_39 m_parts_39 (m_taken_39 + (1 : Int32)) m_lacked_39 m_heads_39 m_numbers_39 m_codes_39 m_sizes_39 m_guessed_39 m_results_39 m_states_39 else if m_parts_39 ≤ 0 then d_Mod_run_L39 N m_kind m_steps m_size m_bytes n (y39_1 + 1) m_thrown_39 m_ran_39 m_parts_39 (m_taken_39 + (1 : Int32)) m_lacked_39 m_heads_39 m_numbers_39 m_codes_39 m_sizes_39 m_guessed_39 m_results_39 m_states_39 else (d_Mod_guess N y39_1 m_kind m_steps m_size m_parts_39 (m_taken_39 + (1 : Int32)) m_bytes m_heads_39 m_numbers_39 m_codes_39 m_sizes_39 m_guessed_39 m_results_39).bind (fun o40009 => d_Mod_run_L39 N m_kind m_steps m_size m_bytes n o40009.1 m_thrown_39 m_ran_39 o40009.2.1 o40009.2.2.1 m_lacked_39 o40009.2.2.2.1 o40009.2.2.2.2.1 o40009.2.2.2.2.2.1 o40009.2.2.2.2.2.2.1 o40009.2.2.2.2.2.2.2.1 o40009.2.2.2.2.2.2.2.2 m_states_39)) else (d_Mod_isRight N y39_1 m_size m_bytes).bind (fun o40010 => if o40010 = 0 then (d_Mod_isHead N y39_1 m_kind m_size m_bytes).bind (fun o40012 => if o40012 = 0 then d_Mod_run_L39 N m_kind m_steps m_size m_bytes n (y39_1 + 1) m_thrown_39 m_ran_39 m_parts_39 (m_taken_39 + (1 : Int32)) m_lacked_39 m_heads_39 m_numbers_39 m_codes_39 m_sizes_39 m_guessed_39 m_results_39 m_states_39 else if m_parts_39 ≤ 0 then d_Mod_run_L39 N m_kind m_steps m_size m_bytes n (y39_1 + 1) m_thrown_39 m_ran_39 m_parts_39 (m_taken_39 + (1 : Int32)) m_lacked_39 m_heads_39 m_numbers_39 m_codes_39 m_sizes_39 m_guessed_39 m_results_39 m_states_39 else (d_Mod_guess N y39_1 m_kind m_steps m_size m_parts_39 (m_taken_39 + (1 : Int32)) m_bytes m_heads_39 m_numbers_39 m_codes_39 m_sizes_39 m_guessed_39 m_results_39).bind (fun o40015 => d_Mod_run_L39 N m_kind m_steps m_size m_bytes n o40015.1 m_thrown_39 m_ran_39 o40015.2.1 o40015.2.2.1 m_lacked_39 o40015.2.2.2.1 o40015.2.2.2.2.1 o40015.2.2.2.2.2.1 o40015.2.2.2.2.2.2.1 o40015.2.2.2.2.2.2.2.1 o40015.2.2.2.2.2.2.2.2 m_states_39)) else gI (y39_1 + (2 : Int32)) 1200 (gI (y39_1 + (3 : Int32)) 1200 (gI (y39_1 + (4 : Int32)) 1200 ((d_Mod_add N y39_1 (m_bytes (y39_1 + (2 : Int32)).toNatClampNeg) (m_bytes (y39_1 + (3 : Int32)).toNatClampNeg) (m_bytes (y39_1 + (4 : Int32)).toNatClampNeg) (0 : Int32) m_parts_39 m_heads_39 m_numbers_39 m_codes_39 m_sizes_39 m_guessed_39 m_results_39).bind (fun o40019 => gI (o40019.1 - (1 : Int32)) 16 (d_Mod_run_L39 N m_kind m_steps m_size m_bytes n ((y39_1 + (6 : Int32)) + (o40019.2.2.2.2.1 (o40019.1 - (1 : Int32)).toNatClampNeg)) m_thrown_39 m_ran_39 o40019.1 (m_taken_39 + (1 : Int32)) m_lacked_39 o40019.2.1 o40019.2.2.1 o40019.2.2.2.1 o40019.2.2.2.2.1 o40019.2.2.2.2.2.1 o40019.2.2.2.2.2.2 m_states_39)))))))
def d_Mod_run_L7 (N : Nat) (m_kind : Int32) (m_steps : Int32) (m_size : Int32) (m_bytes : Nat → Int32) : Nat → Int32 → Int32 → Int32 → Int32 → Int32 → Int32 → (Nat → Int32) → (Nat → Int32) → (Nat → Int32) → (Nat → Int32) → (Nat → Int32) → (Nat → Int32) → (Nat → Int32) → Option (Int32 × Int32 × Int32 × Int32 × Int32 × (Nat → Int32) × (Nat → Int32) × (Nat → Int32) × (Nat → Int32) × (Nat → Int32) × (Nat → Int32) × (Nat → Int32))
  | 0, _, _, _, _, _, _, _, _, _, _, _, _, _ => none
  | n + 1, y7_1, m_thrown_7, m_ran_7, m_parts_7, m_taken_7, m_lacked_7, m_heads_7, m_numbers_7, m_codes_7, m_sizes_7, m_guessed_7, m_results_7, m_states_7 => if (256 : Int32) ≤ y7_1 then some (m_thrown_7, m_ran_7, m_parts_7, m_taken_7, m_lacked_7, m_heads_7, m_numbers_7, m_codes_7, m_sizes_7, m_guessed_7, m_results_7, m_states_7) else gI y7_1 256 (d_Mod_run_L7 N m_kind m_steps m_size m_bytes n (y7_1 + 1) m_thrown_7 m_ran_7 m_parts_7 m_taken_7 m_lacked_7 m_heads_7 m_numbers_7 m_codes_7 m_sizes_7 m_guessed_7 m_results_7 (upd m_states_7 y7_1.toNatClampNeg (0 : Int32)))
def d_Mod_run (N : Nat) (m_thrown : Int32) (m_kind : Int32) (m_steps : Int32) (m_size : Int32) (m_ran : Int32) (m_parts : Int32) (m_taken : Int32) (m_lacked : Int32) (m_bytes : Nat → Int32) (m_heads : Nat → Int32) (m_numbers : Nat → Int32) (m_codes : Nat → Int32) (m_sizes : Nat → Int32) (m_guessed : Nat → Int32) (m_results : Nat → Int32) (m_states : Nat → Int32) : Option (Int32 × Int32 × Int32 × Int32 × Int32 × Int32 × (Nat → Int32) × (Nat → Int32) × (Nat → Int32) × (Nat → Int32) × (Nat → Int32) × (Nat → Int32) × (Nat → Int32)) :=
 (d_Mod_run_L7 N m_kind m_steps m_size m_bytes N (0 : Int32) (0 : Int32) m_ran m_parts m_taken m_lacked m_heads m_numbers m_codes m_sizes m_guessed m_results m_states).bind (fun s7 => (d_Mod_run_L39 N m_kind m_steps m_size m_bytes N (0 : Int32) s7.1 s7.2.1 (0 : Int32) (0 : Int32) s7.2.2.2.2.1 s7.2.2.2.2.2.1 s7.2.2.2.2.2.2.1 s7.2.2.2.2.2.2.2.1 s7.2.2.2.2.2.2.2.2.1 s7.2.2.2.2.2.2.2.2.2.1 s7.2.2.2.2.2.2.2.2.2.2.1 s7.2.2.2.2.2.2.2.2.2.2.2).bind (fun s39 => if m_size ≤ s39.1 then some (s39.2.2.2.1, s39.2.1, (1 : Int32), s39.2.2.2.1, s39.2.2.2.2.1, (0 : Int32), s39.2.2.2.2.2.2.1, s39.2.2.2.2.2.2.2.1, s39.2.2.2.2.2.2.2.2.1, s39.2.2.2.2.2.2.2.2.2.1, s39.2.2.2.2.2.2.2.2.2.2.1, s39.2.2.2.2.2.2.2.2.2.2.2.1, s39.2.2.2.2.2.2.2.2.2.2.2.2) else if (16 : Int32) ≤ s39.2.2.2.1 then some (s39.2.2.2.1, s39.2.1, (1 : Int32), s39.2.2.2.1, s39.2.2.2.2.1, (0 : Int32), s39.2.2.2.2.2.2.1, s39.2.2.2.2.2.2.2.1, s39.2.2.2.2.2.2.2.2.1, s39.2.2.2.2.2.2.2.2.2.1, s39.2.2.2.2.2.2.2.2.2.2.1, s39.2.2.2.2.2.2.2.2.2.2.2.1, s39.2.2.2.2.2.2.2.2.2.2.2.2) else some (s39.2.2.2.1, s39.2.1, (1 : Int32), s39.2.2.2.1, s39.2.2.2.2.1, (1 : Int32), s39.2.2.2.2.2.2.1, s39.2.2.2.2.2.2.2.1, s39.2.2.2.2.2.2.2.2.1, s39.2.2.2.2.2.2.2.2.2.1, s39.2.2.2.2.2.2.2.2.2.2.1, s39.2.2.2.2.2.2.2.2.2.2.2.1, s39.2.2.2.2.2.2.2.2.2.2.2.2)))
abbrev rm_Mod_run : Room := { frames := 2, cells := 0, slots := 0, locals := 47 }
set_option maxHeartbeats 4000000 in
set_option maxRecDepth 100000 in
theorem c_Mod_run (l : Launch) (dC : Nat → ClassId) (dI : Nat → Nat → Nat) (tt : Nat → Nat) (ad : Nat → Nat) (cs : Nat → ClassId) (sz N : Nat) (m_thrown : Int32) (m_kind : Int32) (m_steps : Int32) (m_size : Int32) (m_ran : Int32) (m_parts : Int32) (m_taken : Int32) (m_lacked : Int32) (m_decodings : Int32) (m_failures : Int32) (m_at : Int32) (m_end : Int32) (m_many : Int32) (m_wrong : Int32) (m_bytes : Nat → Int32) (m_heads : Nat → Int32) (m_numbers : Nat → Int32) (m_codes : Nat → Int32) (m_sizes : Nat → Int32) (m_guessed : Nat → Int32) (m_results : Nat → Int32) (m_values : Nat → Int32) (m_states : Nat → Int32) (m_came : Nat → Int32) (m_boxes : Nat → Int32) (m_single : Nat → Int32) (m_rows : Nat → Int32) (out : Int32 × Int32 × Int32 × Int32 × Int32 × Int32 × (Nat → Int32) × (Nat → Int32) × (Nat → Int32) × (Nat → Int32) × (Nat → Int32) × (Nat → Int32) × (Nat → Int32)) (h : d_Mod_run N m_thrown m_kind m_steps m_size m_ran m_parts m_taken m_lacked m_bytes m_heads m_numbers m_codes m_sizes m_guessed m_results m_states = some out) :
    Met l y_Mod_run (w_Mod_run) rm_Mod_run (va_Pc [.ref (ad 0)] (PreW (dC, dI) [((cs 1), .int), ((cs 2), .int), ((cs 3), .int), ((cs 4), .int), ((cs 5), .int), ((cs 6), .boolean), ((cs 7), .int), ((cs 8), .int), ((cs 9), .int), ((cs 10), .int), ((cs 11), .int), ((cs 12), .int), ((cs 13), .int)] (x_Mod ad cs m_thrown m_kind m_steps m_size m_ran m_parts m_taken m_lacked m_decodings m_failures m_at m_end m_many m_wrong m_bytes m_heads m_numbers m_codes m_sizes m_guessed m_results m_values m_states m_came m_boxes m_single m_rows) sz tt)) (va_Qi (fun (r : Int32) (_ : Unit) => r = out.1) (fun _ => AftW (dC, dI) [((cs 1), .int), ((cs 2), .int), ((cs 3), .int), ((cs 4), .int), ((cs 5), .int), ((cs 6), .boolean), ((cs 7), .int), ((cs 8), .int), ((cs 9), .int), ((cs 10), .int), ((cs 11), .int), ((cs 12), .int), ((cs 13), .int)] (va_A (x_Mod ad cs m_thrown m_kind m_steps m_size m_ran m_parts m_taken m_lacked m_decodings m_failures m_at m_end m_many m_wrong m_bytes m_heads m_numbers m_codes m_sizes m_guessed m_results m_values m_states m_came m_boxes m_single m_rows) sz) (x_Mod ad cs out.2.1 m_kind m_steps m_size out.2.2.1 out.2.2.2.1 out.2.2.2.2.1 out.2.2.2.2.2.1 m_decodings m_failures m_at m_end m_many m_wrong m_bytes out.2.2.2.2.2.2.1 out.2.2.2.2.2.2.2.1 out.2.2.2.2.2.2.2.2.1 out.2.2.2.2.2.2.2.2.2.1 out.2.2.2.2.2.2.2.2.2.2.1 out.2.2.2.2.2.2.2.2.2.2.2.1 m_values out.2.2.2.2.2.2.2.2.2.2.2.2 m_came m_boxes m_single m_rows)) (va_A (x_Mod ad cs m_thrown m_kind m_steps m_size m_ran m_parts m_taken m_lacked m_decodings m_failures m_at m_end m_many m_wrong m_bytes m_heads m_numbers m_codes m_sizes m_guessed m_results m_values m_states m_came m_boxes m_single m_rows) sz)) 0 0 (va_A (x_Mod ad cs m_thrown m_kind m_steps m_size m_ran m_parts m_taken m_lacked m_decodings m_failures m_at m_end m_many m_wrong m_bytes m_heads m_numbers m_codes m_sizes m_guessed m_results m_values m_states m_came m_boxes m_single m_rows) sz) := by
  refine Met.ofW (cc := k_Mod_run) (maxL := 2) (ret := (some .int)) (by decide) rfl ?_
  intro p e s m args below meth c s₁ B hml hv
  obtain ⟨rfl, hsz, hP, hK, hD0, hG⟩ := hv
  have hx := B.exec
  have hb := B.bytes
  have hr := B.returns
  have hts := atoms_spec (ws := (w_Mod_run)) B.pre
  have hB : ∀ w ∈ BIG, w.before _ s = true := fun w h9 => hts w (List.mem_cons_of_mem _ h9)
  have hown : s.vm.findClass R_Mod = some m.cls := findClass_of_methodNamed B.named
  have hlocks := B.notSynchronized
  subst hsz
  have hD := hD0.self (sz := s.heap.size)
  generalize hAe : va_A (x_Mod ad cs m_thrown m_kind m_steps m_size m_ran m_parts m_taken m_lacked m_decodings m_failures m_at m_end m_many m_wrong m_bytes m_heads m_numbers m_codes m_sizes m_guessed m_results m_values m_states m_came m_boxes m_single m_rows) s.heap.size = A at hD hG ⊢
  have hA : ∀ q : Nat, s.heap.size ≤ q → A q := fun q h => by rw [← hAe]; exact Or.inr h
  have hS : va_S A s.heap s.heap [] := va_S.rf
  have hl := lv_entry ([.ref (ad 0)]) (n := 2) (Nat.le_of_ble_eq_true rfl)
  rw [lg_entry_eq]
  generalize (lg_sl ([.ref (ad 0)]) ++ List.replicate (2 - (lg_sl ([.ref (ad 0)])).length) Slot.unset).toArray = ls at hl ⊢
  have hl : lv_has ls 2 [(0, .ref (ad 0))] := hl
  unfold d_Mod_run at h
  refine lv_aload_n hx hb d_Mod_run_0 rfl (lv_at hl 0 rfl) ?_
  refine lv_iconst (v := 0) hx hb d_Mod_run_1 (by decide) ?_
  refine va_put (D := (dC, dI)) (ci := 4) (v := .int (0 : Int32)) (ty := .int) (C := R_Mod) (T := T_Mod) (N := 27) hx hb hB in_Mod ty_Mod tyok_Mod nd_Mod hown hK hP hD hS 0 rfl rfl 0 (by decide) (hB _ wd_218) (fun _ h9 => h9) rfl (by decide +kernel) rfl rfl (Nat.le_of_ble_eq_true rfl) d_Mod_run_2 (fun H locs hP hD hS => ?_)
  have hP : va_P (dC, dI) vwCl (x_Mod ad cs (0 : Int32) m_kind m_steps m_size m_ran m_parts m_taken m_lacked m_decodings m_failures m_at m_end m_many m_wrong m_bytes m_heads m_numbers m_codes m_sizes m_guessed m_results m_values m_states m_came m_boxes m_single m_rows) H := hP
  have hD : va_D A (x_Mod ad cs (0 : Int32) m_kind m_steps m_size m_ran m_parts m_taken m_lacked m_decodings m_failures m_at m_end m_many m_wrong m_bytes m_heads m_numbers m_codes m_sizes m_guessed m_results m_values m_states m_came m_boxes m_single m_rows) := hD
  refine lv_iconst (v := 0) hx hb d_Mod_run_5 (by decide) ?_
  refine lv_istore_n (lv' := [(1, .int (0 : Int32)), (0, .ref (ad 0))]) hx hb d_Mod_run_6 rfl hl (by decide) rfl (fun ls hl => ?_)
  obtain ⟨s7, hs7, h⟩ := Option.bind_eq_some_iff.mp h
  have X7 : ∀ (H : Heap) (locs : List Loc) (ls : Array Slot), lv_has ls 2 [(0, .ref (ad 0))] → va_P (dC, dI) vwCl (x_Mod ad cs s7.1 m_kind m_steps m_size s7.2.1 s7.2.2.1 s7.2.2.2.1 s7.2.2.2.2.1 m_decodings m_failures m_at m_end m_many m_wrong m_bytes s7.2.2.2.2.2.1 s7.2.2.2.2.2.2.1 s7.2.2.2.2.2.2.2.1 s7.2.2.2.2.2.2.2.2.1 s7.2.2.2.2.2.2.2.2.2.1 s7.2.2.2.2.2.2.2.2.2.2.1 m_values s7.2.2.2.2.2.2.2.2.2.2.2 m_came m_boxes m_single m_rows) H → va_D A (x_Mod ad cs s7.1 m_kind m_steps m_size s7.2.1 s7.2.2.1 s7.2.2.2.1 s7.2.2.2.2.1 m_decodings m_failures m_at m_end m_many m_wrong m_bytes s7.2.2.2.2.2.1 s7.2.2.2.2.2.2.1 s7.2.2.2.2.2.2.2.1 s7.2.2.2.2.2.2.2.2.1 s7.2.2.2.2.2.2.2.2.2.1 s7.2.2.2.2.2.2.2.2.2.2.1 m_values s7.2.2.2.2.2.2.2.2.2.2.2 m_came m_boxes m_single m_rows) → va_S A s.heap H locs → W p l e (headSpec (w_Mod_run) rm_Mod_run).room s m ([.ref (ad 0)] : List Value).toArray below meth c H locs 0 0 (MQ below (va_Qi (fun (r : Int32) (_ : Unit) => r = out.1) (fun _ => AftW (dC, dI) [((cs 1), .int), ((cs 2), .int), ((cs 3), .int), ((cs 4), .int), ((cs 5), .int), ((cs 6), .boolean), ((cs 7), .int), ((cs 8), .int), ((cs 9), .int), ((cs 10), .int), ((cs 11), .int), ((cs 12), .int), ((cs 13), .int)] A (x_Mod ad cs out.2.1 m_kind m_steps m_size out.2.2.1 out.2.2.2.1 out.2.2.2.2.1 out.2.2.2.2.2.1 m_decodings m_failures m_at m_end m_many m_wrong m_bytes out.2.2.2.2.2.2.1 out.2.2.2.2.2.2.2.1 out.2.2.2.2.2.2.2.2.1 out.2.2.2.2.2.2.2.2.2.1 out.2.2.2.2.2.2.2.2.2.2.1 out.2.2.2.2.2.2.2.2.2.2.2.1 m_values out.2.2.2.2.2.2.2.2.2.2.2.2 m_came m_boxes m_single m_rows)) A) ([.ref (ad 0)] : List Value).toArray s 0 0 A) (F0 m 27 ls []) := by
    intro H locs ls hl hP hD hS
    refine lv_aload_n hx hb d_Mod_run_27 rfl (lv_at hl 0 rfl) ?_
    refine lv_iconst (v := 0) hx hb d_Mod_run_28 (by decide) ?_
    refine va_put (D := (dC, dI)) (ci := 4) (v := .int (0 : Int32)) (ty := .int) (C := R_Mod) (T := T_Mod) (N := 27) hx hb hB in_Mod ty_Mod tyok_Mod nd_Mod hown hK hP hD hS 0 rfl rfl 6 (by decide) (hB _ wd_220) (fun _ h9 => h9) rfl (by decide +kernel) rfl rfl (Nat.le_of_ble_eq_true rfl) d_Mod_run_29 (fun H locs hP hD hS => ?_)
    have hP : va_P (dC, dI) vwCl (x_Mod ad cs s7.1 m_kind m_steps m_size s7.2.1 (0 : Int32) s7.2.2.2.1 s7.2.2.2.2.1 m_decodings m_failures m_at m_end m_many m_wrong m_bytes s7.2.2.2.2.2.1 s7.2.2.2.2.2.2.1 s7.2.2.2.2.2.2.2.1 s7.2.2.2.2.2.2.2.2.1 s7.2.2.2.2.2.2.2.2.2.1 s7.2.2.2.2.2.2.2.2.2.2.1 m_values s7.2.2.2.2.2.2.2.2.2.2.2 m_came m_boxes m_single m_rows) H := hP
    have hD : va_D A (x_Mod ad cs s7.1 m_kind m_steps m_size s7.2.1 (0 : Int32) s7.2.2.2.1 s7.2.2.2.2.1 m_decodings m_failures m_at m_end m_many m_wrong m_bytes s7.2.2.2.2.2.1 s7.2.2.2.2.2.2.1 s7.2.2.2.2.2.2.2.1 s7.2.2.2.2.2.2.2.2.1 s7.2.2.2.2.2.2.2.2.2.1 s7.2.2.2.2.2.2.2.2.2.2.1 m_values s7.2.2.2.2.2.2.2.2.2.2.2 m_came m_boxes m_single m_rows) := hD
    refine lv_aload_n hx hb d_Mod_run_32 rfl (lv_at hl 0 rfl) ?_
    refine lv_iconst (v := 0) hx hb d_Mod_run_33 (by decide) ?_
    refine va_put (D := (dC, dI)) (ci := 4) (v := .int (0 : Int32)) (ty := .int) (C := R_Mod) (T := T_Mod) (N := 27) hx hb hB in_Mod ty_Mod tyok_Mod nd_Mod hown hK hP hD hS 0 rfl rfl 13 (by decide) (hB _ wd_239) (fun _ h9 => h9) rfl (by decide +kernel) rfl rfl (Nat.le_of_ble_eq_true rfl) d_Mod_run_34 (fun H locs hP hD hS => ?_)
    have hP : va_P (dC, dI) vwCl (x_Mod ad cs s7.1 m_kind m_steps m_size s7.2.1 (0 : Int32) (0 : Int32) s7.2.2.2.2.1 m_decodings m_failures m_at m_end m_many m_wrong m_bytes s7.2.2.2.2.2.1 s7.2.2.2.2.2.2.1 s7.2.2.2.2.2.2.2.1 s7.2.2.2.2.2.2.2.2.1 s7.2.2.2.2.2.2.2.2.2.1 s7.2.2.2.2.2.2.2.2.2.2.1 m_values s7.2.2.2.2.2.2.2.2.2.2.2 m_came m_boxes m_single m_rows) H := hP
    have hD : va_D A (x_Mod ad cs s7.1 m_kind m_steps m_size s7.2.1 (0 : Int32) (0 : Int32) s7.2.2.2.2.1 m_decodings m_failures m_at m_end m_many m_wrong m_bytes s7.2.2.2.2.2.1 s7.2.2.2.2.2.2.1 s7.2.2.2.2.2.2.2.1 s7.2.2.2.2.2.2.2.2.1 s7.2.2.2.2.2.2.2.2.2.1 s7.2.2.2.2.2.2.2.2.2.2.1 m_values s7.2.2.2.2.2.2.2.2.2.2.2 m_came m_boxes m_single m_rows) := hD
    refine lv_iconst (v := 0) hx hb d_Mod_run_37 (by decide) ?_
    refine lv_istore_n (lv' := [(1, .int (0 : Int32)), (0, .ref (ad 0))]) hx hb d_Mod_run_38 rfl hl (by decide) rfl (fun ls hl => ?_)
    obtain ⟨s39, hs39, h⟩ := Option.bind_eq_some_iff.mp h
    have X39 : ∀ (H : Heap) (locs : List Loc) (ls : Array Slot), lv_has ls 2 [(0, .ref (ad 0)), (1, .int s39.1)] → va_P (dC, dI) vwCl (x_Mod ad cs s39.2.1 m_kind m_steps m_size s39.2.2.1 s39.2.2.2.1 s39.2.2.2.2.1 s39.2.2.2.2.2.1 m_decodings m_failures m_at m_end m_many m_wrong m_bytes s39.2.2.2.2.2.2.1 s39.2.2.2.2.2.2.2.1 s39.2.2.2.2.2.2.2.2.1 s39.2.2.2.2.2.2.2.2.2.1 s39.2.2.2.2.2.2.2.2.2.2.1 s39.2.2.2.2.2.2.2.2.2.2.2.1 m_values s39.2.2.2.2.2.2.2.2.2.2.2.2 m_came m_boxes m_single m_rows) H → va_D A (x_Mod ad cs s39.2.1 m_kind m_steps m_size s39.2.2.1 s39.2.2.2.1 s39.2.2.2.2.1 s39.2.2.2.2.2.1 m_decodings m_failures m_at m_end m_many m_wrong m_bytes s39.2.2.2.2.2.2.1 s39.2.2.2.2.2.2.2.1 s39.2.2.2.2.2.2.2.2.1 s39.2.2.2.2.2.2.2.2.2.1 s39.2.2.2.2.2.2.2.2.2.2.1 s39.2.2.2.2.2.2.2.2.2.2.2.1 m_values s39.2.2.2.2.2.2.2.2.2.2.2.2 m_came m_boxes m_single m_rows) → va_S A s.heap H locs → W p l e (headSpec (w_Mod_run) rm_Mod_run).room s m ([.ref (ad 0)] : List Value).toArray below meth c H locs 0 0 (MQ below (va_Qi (fun (r : Int32) (_ : Unit) => r = out.1) (fun _ => AftW (dC, dI) [((cs 1), .int), ((cs 2), .int), ((cs 3), .int), ((cs 4), .int), ((cs 5), .int), ((cs 6), .boolean), ((cs 7), .int), ((cs 8), .int), ((cs 9), .int), ((cs 10), .int), ((cs 11), .int), ((cs 12), .int), ((cs 13), .int)] A (x_Mod ad cs out.2.1 m_kind m_steps m_size out.2.2.1 out.2.2.2.1 out.2.2.2.2.1 out.2.2.2.2.2.1 m_decodings m_failures m_at m_end m_many m_wrong m_bytes out.2.2.2.2.2.2.1 out.2.2.2.2.2.2.2.1 out.2.2.2.2.2.2.2.2.1 out.2.2.2.2.2.2.2.2.2.1 out.2.2.2.2.2.2.2.2.2.2.1 out.2.2.2.2.2.2.2.2.2.2.2.1 m_values out.2.2.2.2.2.2.2.2.2.2.2.2 m_came m_boxes m_single m_rows)) A) ([.ref (ad 0)] : List Value).toArray s 0 0 A) (F0 m 173 ls []) := by
      intro H locs ls hl hP hD hS
      refine lv_aload_n hx hb d_Mod_run_173 rfl (lv_at hl 0 rfl) ?_
      refine lv_iload_n hx hb d_Mod_run_174 rfl (lv_at hl 1 rfl) ?_
      refine lv_aload_n hx hb d_Mod_run_175 rfl (lv_at hl 0 rfl) ?_
      refine va_get (D := (dC, dI)) (ci := 4) (v := .int m_size) (C := R_Mod) (T := T_Mod) (N := 27) hx hb hB in_Mod hown hK hP 0 rfl rfl 4 (by decide) (hB _ wd_222) (fun _ h9 => h9) rfl d_Mod_run_176 ?_
      refine lv_icmp_ge (tgt := 195) hx hb d_Mod_run_179 (by decide) (fun c_1 => ?_) (fun c_1 => ?_)
      · have h := (if_pos c_1).symm.trans h
        refine lv_iconst (v := 0) hx hb d_Mod_run_195 (by decide) ?_
        refine va_put (D := (dC, dI)) (ci := 4) (v := .int (0 : Int32)) (ty := .boolean) (C := R_Mod) (T := T_Mod) (N := 27) hx hb hB in_Mod ty_Mod tyok_Mod nd_Mod hown hK hP hD hS 0 rfl rfl 14 (by decide) (hB _ wd_294) (fun _ h9 => h9) rfl (by decide +kernel) rfl rfl (Nat.le_of_ble_eq_true rfl) d_Mod_run_196 (fun H locs hP hD hS => ?_)
        have hP : va_P (dC, dI) vwCl (x_Mod ad cs s39.2.1 m_kind m_steps m_size s39.2.2.1 s39.2.2.2.1 s39.2.2.2.2.1 (0 : Int32) m_decodings m_failures m_at m_end m_many m_wrong m_bytes s39.2.2.2.2.2.2.1 s39.2.2.2.2.2.2.2.1 s39.2.2.2.2.2.2.2.2.1 s39.2.2.2.2.2.2.2.2.2.1 s39.2.2.2.2.2.2.2.2.2.2.1 s39.2.2.2.2.2.2.2.2.2.2.2.1 m_values s39.2.2.2.2.2.2.2.2.2.2.2.2 m_came m_boxes m_single m_rows) H := hP
        have hD : va_D A (x_Mod ad cs s39.2.1 m_kind m_steps m_size s39.2.2.1 s39.2.2.2.1 s39.2.2.2.2.1 (0 : Int32) m_decodings m_failures m_at m_end m_many m_wrong m_bytes s39.2.2.2.2.2.2.1 s39.2.2.2.2.2.2.2.1 s39.2.2.2.2.2.2.2.2.1 s39.2.2.2.2.2.2.2.2.2.1 s39.2.2.2.2.2.2.2.2.2.2.1 s39.2.2.2.2.2.2.2.2.2.2.2.1 m_values s39.2.2.2.2.2.2.2.2.2.2.2.2 m_came m_boxes m_single m_rows) := hD
        refine lv_aload_n hx hb d_Mod_run_199 rfl (lv_at hl 0 rfl) ?_
        refine lv_iconst (v := 1) hx hb d_Mod_run_200 (by decide) ?_
        refine va_put (D := (dC, dI)) (ci := 4) (v := .int (1 : Int32)) (ty := .boolean) (C := R_Mod) (T := T_Mod) (N := 27) hx hb hB in_Mod ty_Mod tyok_Mod nd_Mod hown hK hP hD hS 0 rfl rfl 5 (by decide) (hB _ wd_219) (fun _ h9 => h9) rfl (by decide +kernel) rfl rfl (Nat.le_of_ble_eq_true rfl) d_Mod_run_201 (fun H locs hP hD hS => ?_)
        have hP : va_P (dC, dI) vwCl (x_Mod ad cs s39.2.1 m_kind m_steps m_size (1 : Int32) s39.2.2.2.1 s39.2.2.2.2.1 (0 : Int32) m_decodings m_failures m_at m_end m_many m_wrong m_bytes s39.2.2.2.2.2.2.1 s39.2.2.2.2.2.2.2.1 s39.2.2.2.2.2.2.2.2.1 s39.2.2.2.2.2.2.2.2.2.1 s39.2.2.2.2.2.2.2.2.2.2.1 s39.2.2.2.2.2.2.2.2.2.2.2.1 m_values s39.2.2.2.2.2.2.2.2.2.2.2.2 m_came m_boxes m_single m_rows) H := hP
        have hD : va_D A (x_Mod ad cs s39.2.1 m_kind m_steps m_size (1 : Int32) s39.2.2.2.1 s39.2.2.2.2.1 (0 : Int32) m_decodings m_failures m_at m_end m_many m_wrong m_bytes s39.2.2.2.2.2.2.1 s39.2.2.2.2.2.2.2.1 s39.2.2.2.2.2.2.2.2.1 s39.2.2.2.2.2.2.2.2.2.1 s39.2.2.2.2.2.2.2.2.2.2.1 s39.2.2.2.2.2.2.2.2.2.2.2.1 m_values s39.2.2.2.2.2.2.2.2.2.2.2.2 m_came m_boxes m_single m_rows) := hD
        refine lv_aload_n hx hb d_Mod_run_204 rfl (lv_at hl 0 rfl) ?_
        refine va_get (D := (dC, dI)) (ci := 4) (v := .int s39.2.2.2.1) (C := R_Mod) (T := T_Mod) (N := 27) hx hb hB in_Mod hown hK hP 0 rfl rfl 6 (by decide) (hB _ wd_220) (fun _ h9 => h9) rfl d_Mod_run_205 ?_
        have h := Option.some.inj h
        subst h
        exact W.iret hx hb hr (fun t ht hW => ⟨⟨_, (), rfl, rfl, AftW_mk hK hP hD ht hW⟩, hS.F ht⟩) hS.2.2 d_Mod_run_208
      · have h := (if_neg c_1).symm.trans h
        refine lv_aload_n hx hb d_Mod_run_182 rfl (lv_at hl 0 rfl) ?_
        refine va_get (D := (dC, dI)) (ci := 4) (v := .int s39.2.2.2.1) (C := R_Mod) (T := T_Mod) (N := 27) hx hb hB in_Mod hown hK hP 0 rfl rfl 6 (by decide) (hB _ wd_220) (fun _ h9 => h9) rfl d_Mod_run_183 ?_
        refine lv_bipush (v := 16) hx hb d_Mod_run_186 (by decide) ?_
        refine lv_icmp_ge (tgt := 195) hx hb d_Mod_run_188 (by decide) (fun c_2 => ?_) (fun c_2 => ?_)
        · have h := (if_pos c_2).symm.trans h
          refine lv_iconst (v := 0) hx hb d_Mod_run_195 (by decide) ?_
          refine va_put (D := (dC, dI)) (ci := 4) (v := .int (0 : Int32)) (ty := .boolean) (C := R_Mod) (T := T_Mod) (N := 27) hx hb hB in_Mod ty_Mod tyok_Mod nd_Mod hown hK hP hD hS 0 rfl rfl 14 (by decide) (hB _ wd_294) (fun _ h9 => h9) rfl (by decide +kernel) rfl rfl (Nat.le_of_ble_eq_true rfl) d_Mod_run_196 (fun H locs hP hD hS => ?_)
          have hP : va_P (dC, dI) vwCl (x_Mod ad cs s39.2.1 m_kind m_steps m_size s39.2.2.1 s39.2.2.2.1 s39.2.2.2.2.1 (0 : Int32) m_decodings m_failures m_at m_end m_many m_wrong m_bytes s39.2.2.2.2.2.2.1 s39.2.2.2.2.2.2.2.1 s39.2.2.2.2.2.2.2.2.1 s39.2.2.2.2.2.2.2.2.2.1 s39.2.2.2.2.2.2.2.2.2.2.1 s39.2.2.2.2.2.2.2.2.2.2.2.1 m_values s39.2.2.2.2.2.2.2.2.2.2.2.2 m_came m_boxes m_single m_rows) H := hP
          have hD : va_D A (x_Mod ad cs s39.2.1 m_kind m_steps m_size s39.2.2.1 s39.2.2.2.1 s39.2.2.2.2.1 (0 : Int32) m_decodings m_failures m_at m_end m_many m_wrong m_bytes s39.2.2.2.2.2.2.1 s39.2.2.2.2.2.2.2.1 s39.2.2.2.2.2.2.2.2.1 s39.2.2.2.2.2.2.2.2.2.1 s39.2.2.2.2.2.2.2.2.2.2.1 s39.2.2.2.2.2.2.2.2.2.2.2.1 m_values s39.2.2.2.2.2.2.2.2.2.2.2.2 m_came m_boxes m_single m_rows) := hD
          refine lv_aload_n hx hb d_Mod_run_199 rfl (lv_at hl 0 rfl) ?_
          refine lv_iconst (v := 1) hx hb d_Mod_run_200 (by decide) ?_
          refine va_put (D := (dC, dI)) (ci := 4) (v := .int (1 : Int32)) (ty := .boolean) (C := R_Mod) (T := T_Mod) (N := 27) hx hb hB in_Mod ty_Mod tyok_Mod nd_Mod hown hK hP hD hS 0 rfl rfl 5 (by decide) (hB _ wd_219) (fun _ h9 => h9) rfl (by decide +kernel) rfl rfl (Nat.le_of_ble_eq_true rfl) d_Mod_run_201 (fun H locs hP hD hS => ?_)
          have hP : va_P (dC, dI) vwCl (x_Mod ad cs s39.2.1 m_kind m_steps m_size (1 : Int32) s39.2.2.2.1 s39.2.2.2.2.1 (0 : Int32) m_decodings m_failures m_at m_end m_many m_wrong m_bytes s39.2.2.2.2.2.2.1 s39.2.2.2.2.2.2.2.1 s39.2.2.2.2.2.2.2.2.1 s39.2.2.2.2.2.2.2.2.2.1 s39.2.2.2.2.2.2.2.2.2.2.1 s39.2.2.2.2.2.2.2.2.2.2.2.1 m_values s39.2.2.2.2.2.2.2.2.2.2.2.2 m_came m_boxes m_single m_rows) H := hP
          have hD : va_D A (x_Mod ad cs s39.2.1 m_kind m_steps m_size (1 : Int32) s39.2.2.2.1 s39.2.2.2.2.1 (0 : Int32) m_decodings m_failures m_at m_end m_many m_wrong m_bytes s39.2.2.2.2.2.2.1 s39.2.2.2.2.2.2.2.1 s39.2.2.2.2.2.2.2.2.1 s39.2.2.2.2.2.2.2.2.2.1 s39.2.2.2.2.2.2.2.2.2.2.1 s39.2.2.2.2.2.2.2.2.2.2.2.1 m_values s39.2.2.2.2.2.2.2.2.2.2.2.2 m_came m_boxes m_single m_rows) := hD
          refine lv_aload_n hx hb d_Mod_run_204 rfl (lv_at hl 0 rfl) ?_
          refine va_get (D := (dC, dI)) (ci := 4) (v := .int s39.2.2.2.1) (C := R_Mod) (T := T_Mod) (N := 27) hx hb hB in_Mod hown hK hP 0 rfl rfl 6 (by decide) (hB _ wd_220) (fun _ h9 => h9) rfl d_Mod_run_205 ?_
          have h := Option.some.inj h
          subst h
          exact W.iret hx hb hr (fun t ht hW => ⟨⟨_, (), rfl, rfl, AftW_mk hK hP hD ht hW⟩, hS.F ht⟩) hS.2.2 d_Mod_run_208
        · have h := (if_neg c_2).symm.trans h
          refine lv_iconst (v := 1) hx hb d_Mod_run_191 (by decide) ?_
          refine lv_goto (tgt := 196) hx hb d_Mod_run_192 (by decide) ?_
          refine va_put (D := (dC, dI)) (ci := 4) (v := .int (1 : Int32)) (ty := .boolean) (C := R_Mod) (T := T_Mod) (N := 27) hx hb hB in_Mod ty_Mod tyok_Mod nd_Mod hown hK hP hD hS 0 rfl rfl 14 (by decide) (hB _ wd_294) (fun _ h9 => h9) rfl (by decide +kernel) rfl rfl (Nat.le_of_ble_eq_true rfl) d_Mod_run_196 (fun H locs hP hD hS => ?_)
          have hP : va_P (dC, dI) vwCl (x_Mod ad cs s39.2.1 m_kind m_steps m_size s39.2.2.1 s39.2.2.2.1 s39.2.2.2.2.1 (1 : Int32) m_decodings m_failures m_at m_end m_many m_wrong m_bytes s39.2.2.2.2.2.2.1 s39.2.2.2.2.2.2.2.1 s39.2.2.2.2.2.2.2.2.1 s39.2.2.2.2.2.2.2.2.2.1 s39.2.2.2.2.2.2.2.2.2.2.1 s39.2.2.2.2.2.2.2.2.2.2.2.1 m_values s39.2.2.2.2.2.2.2.2.2.2.2.2 m_came m_boxes m_single m_rows) H := hP
          have hD : va_D A (x_Mod ad cs s39.2.1 m_kind m_steps m_size s39.2.2.1 s39.2.2.2.1 s39.2.2.2.2.1 (1 : Int32) m_decodings m_failures m_at m_end m_many m_wrong m_bytes s39.2.2.2.2.2.2.1 s39.2.2.2.2.2.2.2.1 s39.2.2.2.2.2.2.2.2.1 s39.2.2.2.2.2.2.2.2.2.1 s39.2.2.2.2.2.2.2.2.2.2.1 s39.2.2.2.2.2.2.2.2.2.2.2.1 m_values s39.2.2.2.2.2.2.2.2.2.2.2.2 m_came m_boxes m_single m_rows) := hD
          refine lv_aload_n hx hb d_Mod_run_199 rfl (lv_at hl 0 rfl) ?_
          refine lv_iconst (v := 1) hx hb d_Mod_run_200 (by decide) ?_
          refine va_put (D := (dC, dI)) (ci := 4) (v := .int (1 : Int32)) (ty := .boolean) (C := R_Mod) (T := T_Mod) (N := 27) hx hb hB in_Mod ty_Mod tyok_Mod nd_Mod hown hK hP hD hS 0 rfl rfl 5 (by decide) (hB _ wd_219) (fun _ h9 => h9) rfl (by decide +kernel) rfl rfl (Nat.le_of_ble_eq_true rfl) d_Mod_run_201 (fun H locs hP hD hS => ?_)
          have hP : va_P (dC, dI) vwCl (x_Mod ad cs s39.2.1 m_kind m_steps m_size (1 : Int32) s39.2.2.2.1 s39.2.2.2.2.1 (1 : Int32) m_decodings m_failures m_at m_end m_many m_wrong m_bytes s39.2.2.2.2.2.2.1 s39.2.2.2.2.2.2.2.1 s39.2.2.2.2.2.2.2.2.1 s39.2.2.2.2.2.2.2.2.2.1 s39.2.2.2.2.2.2.2.2.2.2.1 s39.2.2.2.2.2.2.2.2.2.2.2.1 m_values s39.2.2.2.2.2.2.2.2.2.2.2.2 m_came m_boxes m_single m_rows) H := hP
          have hD : va_D A (x_Mod ad cs s39.2.1 m_kind m_steps m_size (1 : Int32) s39.2.2.2.1 s39.2.2.2.2.1 (1 : Int32) m_decodings m_failures m_at m_end m_many m_wrong m_bytes s39.2.2.2.2.2.2.1 s39.2.2.2.2.2.2.2.1 s39.2.2.2.2.2.2.2.2.1 s39.2.2.2.2.2.2.2.2.2.1 s39.2.2.2.2.2.2.2.2.2.2.1 s39.2.2.2.2.2.2.2.2.2.2.2.1 m_values s39.2.2.2.2.2.2.2.2.2.2.2.2 m_came m_boxes m_single m_rows) := hD
          refine lv_aload_n hx hb d_Mod_run_204 rfl (lv_at hl 0 rfl) ?_
          refine va_get (D := (dC, dI)) (ci := 4) (v := .int s39.2.2.2.1) (C := R_Mod) (T := T_Mod) (N := 27) hx hb hB in_Mod hown hK hP 0 rfl rfl 6 (by decide) (hB _ wd_220) (fun _ h9 => h9) rfl d_Mod_run_205 ?_
          have h := Option.some.inj h
          subst h
          exact W.iret hx hb hr (fun t ht hW => ⟨⟨_, (), rfl, rfl, AftW_mk hK hP hD ht hW⟩, hS.F ht⟩) hS.2.2 d_Mod_run_208
    have L39 : ∀ (n : Nat) (y39_1 : Int32) (m_thrown_39 : Int32) (m_ran_39 : Int32) (m_parts_39 : Int32) (m_taken_39 : Int32) (m_lacked_39 : Int32) (m_heads_39 : Nat → Int32) (m_numbers_39 : Nat → Int32) (m_codes_39 : Nat → Int32) (m_sizes_39 : Nat → Int32) (m_guessed_39 : Nat → Int32) (m_results_39 : Nat → Int32) (m_states_39 : Nat → Int32) (H : Heap) (locs : List Loc) (ls : Array Slot), lv_has ls 2 [(0, .ref (ad 0)), (1, .int y39_1)] → va_P (dC, dI) vwCl (x_Mod ad cs m_thrown_39 m_kind m_steps m_size m_ran_39 m_parts_39 m_taken_39 m_lacked_39 m_decodings m_failures m_at m_end m_many m_wrong m_bytes m_heads_39 m_numbers_39 m_codes_39 m_sizes_39 m_guessed_39 m_results_39 m_values m_states_39 m_came m_boxes m_single m_rows) H → va_D A (x_Mod ad cs m_thrown_39 m_kind m_steps m_size m_ran_39 m_parts_39 m_taken_39 m_lacked_39 m_decodings m_failures m_at m_end m_many m_wrong m_bytes m_heads_39 m_numbers_39 m_codes_39 m_sizes_39 m_guessed_39 m_results_39 m_values m_states_39 m_came m_boxes m_single m_rows) → va_S A s.heap H locs → d_Mod_run_L39 N m_kind m_steps m_size m_bytes n y39_1 m_thrown_39 m_ran_39 m_parts_39 m_taken_39 m_lacked_39 m_heads_39 m_numbers_39 m_codes_39 m_sizes_39 m_guessed_39 m_results_39 m_states_39 = some s39 → W p l e (headSpec (w_Mod_run) rm_Mod_run).room s m ([.ref (ad 0)] : List Value).toArray below meth c H locs 0 0 (MQ below (va_Qi (fun (r : Int32) (_ : Unit) => r = out.1) (fun _ => AftW (dC, dI) [((cs 1), .int), ((cs 2), .int), ((cs 3), .int), ((cs 4), .int), ((cs 5), .int), ((cs 6), .boolean), ((cs 7), .int), ((cs 8), .int), ((cs 9), .int), ((cs 10), .int), ((cs 11), .int), ((cs 12), .int), ((cs 13), .int)] A (x_Mod ad cs out.2.1 m_kind m_steps m_size out.2.2.1 out.2.2.2.1 out.2.2.2.2.1 out.2.2.2.2.2.1 m_decodings m_failures m_at m_end m_many m_wrong m_bytes out.2.2.2.2.2.2.1 out.2.2.2.2.2.2.2.1 out.2.2.2.2.2.2.2.2.1 out.2.2.2.2.2.2.2.2.2.1 out.2.2.2.2.2.2.2.2.2.2.1 out.2.2.2.2.2.2.2.2.2.2.2.1 m_values out.2.2.2.2.2.2.2.2.2.2.2.2 m_came m_boxes m_single m_rows)) A) ([.ref (ad 0)] : List Value).toArray s 0 0 A) (F0 m 39 ls []) := by
      intro n
      induction n with
      | zero =>
        intro y39_1 m_thrown_39 m_ran_39 m_parts_39 m_taken_39 m_lacked_39 m_heads_39 m_numbers_39 m_codes_39 m_sizes_39 m_guessed_39 m_results_39 m_states_39 H locs ls hl hP hD hS h
        rw [d_Mod_run_L39] at h
        cases h
      | succ n ih =>
        intro y39_1 m_thrown_39 m_ran_39 m_parts_39 m_taken_39 m_lacked_39 m_heads_39 m_numbers_39 m_codes_39 m_sizes_39 m_guessed_39 m_results_39 m_states_39 H locs ls hl hP hD hS h
        rw [d_Mod_run_L39] at h
        refine lv_iload_n hx hb d_Mod_run_39 rfl (lv_at hl 1 rfl) ?_
        refine lv_aload_n hx hb d_Mod_run_40 rfl (lv_at hl 0 rfl) ?_
        refine va_get (D := (dC, dI)) (ci := 4) (v := .int m_size) (C := R_Mod) (T := T_Mod) (N := 27) hx hb hB in_Mod hown hK hP 0 rfl rfl 4 (by decide) (hB _ wd_222) (fun _ h9 => h9) rfl d_Mod_run_41 ?_
        refine lv_icmp_ge (tgt := 173) hx hb d_Mod_run_44 (by decide) (fun c_3 => ?_) (fun c_3 => ?_)
        · have h := (if_pos c_3).symm.trans h
          have h := Option.some.inj h
          subst h
          exact X39 H locs ls (lv_sub hl [0, 1] rfl) hP hD hS
        · have h := (if_neg c_3).symm.trans h
          refine lv_aload_n hx hb d_Mod_run_47 rfl (lv_at hl 0 rfl) ?_
          refine va_get (D := (dC, dI)) (ci := 4) (v := .int m_taken_39) (C := R_Mod) (T := T_Mod) (N := 27) hx hb hB in_Mod hown hK hP 0 rfl rfl 13 (by decide) (hB _ wd_239) (fun _ h9 => h9) rfl d_Mod_run_48 ?_
          refine lv_aload_n hx hb d_Mod_run_51 rfl (lv_at hl 0 rfl) ?_
          refine va_get (D := (dC, dI)) (ci := 4) (v := .int m_steps) (C := R_Mod) (T := T_Mod) (N := 27) hx hb hB in_Mod hown hK hP 0 rfl rfl 2 (by decide) (hB _ wd_240) (fun _ h9 => h9) rfl d_Mod_run_52 ?_
          refine lv_icmp_ge (tgt := 173) hx hb d_Mod_run_55 (by decide) (fun c_4 => ?_) (fun c_4 => ?_)
          · have h := (if_pos c_4).symm.trans h
            have h := Option.some.inj h
            subst h
            exact X39 H locs ls (lv_sub hl [0, 1] rfl) hP hD hS
          · have h := (if_neg c_4).symm.trans h
            refine lv_aload_n hx hb d_Mod_run_58 rfl (lv_at hl 0 rfl) ?_
            refine va_get (D := (dC, dI)) (ci := 4) (v := .int m_parts_39) (C := R_Mod) (T := T_Mod) (N := 27) hx hb hB in_Mod hown hK hP 0 rfl rfl 6 (by decide) (hB _ wd_220) (fun _ h9 => h9) rfl d_Mod_run_59 ?_
            refine lv_bipush (v := 16) hx hb d_Mod_run_62 (by decide) ?_
            refine lv_icmp_ge (tgt := 173) hx hb d_Mod_run_64 (by decide) (fun c_5 => ?_) (fun c_5 => ?_)
            · have h := (if_pos c_5).symm.trans h
              have h := Option.some.inj h
              subst h
              exact X39 H locs ls (lv_sub hl [0, 1] rfl) hP hD hS
            · have h := (if_neg c_5).symm.trans h
              refine lv_aload_n hx hb d_Mod_run_67 rfl (lv_at hl 0 rfl) ?_
              refine lv_dup hx hb d_Mod_run_68 rfl ?_
              refine va_get (D := (dC, dI)) (ci := 4) (v := .int m_taken_39) (C := R_Mod) (T := T_Mod) (N := 27) hx hb hB in_Mod hown hK hP 0 rfl rfl 13 (by decide) (hB _ wd_239) (fun _ h9 => h9) rfl d_Mod_run_69 ?_
              refine lv_iconst (v := 1) hx hb d_Mod_run_72 (by decide) ?_
              refine lv_iadd hx hb d_Mod_run_73 ?_
              refine va_put (D := (dC, dI)) (ci := 4) (v := .int (m_taken_39 + (1 : Int32))) (ty := .int) (C := R_Mod) (T := T_Mod) (N := 27) hx hb hB in_Mod ty_Mod tyok_Mod nd_Mod hown hK hP hD hS 0 rfl rfl 13 (by decide) (hB _ wd_239) (fun _ h9 => h9) rfl (by decide +kernel) rfl rfl (Nat.le_of_ble_eq_true rfl) d_Mod_run_74 (fun H locs hP hD hS => ?_)
              have hP : va_P (dC, dI) vwCl (x_Mod ad cs m_thrown_39 m_kind m_steps m_size m_ran_39 m_parts_39 (m_taken_39 + (1 : Int32)) m_lacked_39 m_decodings m_failures m_at m_end m_many m_wrong m_bytes m_heads_39 m_numbers_39 m_codes_39 m_sizes_39 m_guessed_39 m_results_39 m_values m_states_39 m_came m_boxes m_single m_rows) H := hP
              have hD : va_D A (x_Mod ad cs m_thrown_39 m_kind m_steps m_size m_ran_39 m_parts_39 (m_taken_39 + (1 : Int32)) m_lacked_39 m_decodings m_failures m_at m_end m_many m_wrong m_bytes m_heads_39 m_numbers_39 m_codes_39 m_sizes_39 m_guessed_39 m_results_39 m_values m_states_39 m_came m_boxes m_single m_rows) := hD
              refine lv_aload_n hx hb d_Mod_run_77 rfl (lv_at hl 0 rfl) ?_
              refine lv_iload_n hx hb d_Mod_run_78 rfl (lv_at hl 1 rfl) ?_
              obtain ⟨o6, ho6, h⟩ := Option.bind_eq_some_iff.mp h
              have hKc := hK.sub (tys' := [((cs 1), .int), ((cs 2), .int), ((cs 3), .int), ((cs 4), .int), ((cs 5), .int), ((cs 6), .boolean), ((cs 7), .int), ((cs 8), .int), ((cs 9), .int), ((cs 10), .int), ((cs 11), .int), ((cs 12), .int), ((cs 13), .int)]) [0, 1, 2, 3, 4, 5, 6, 7, 8, 9, 10, 11, 12] rfl
              have hPc := hP.sub (ws' := x_Mod ad cs m_thrown_39 m_kind m_steps m_size m_ran_39 m_parts_39 (m_taken_39 + (1 : Int32)) m_lacked_39 m_decodings m_failures m_at m_end m_many m_wrong m_bytes m_heads_39 m_numbers_39 m_codes_39 m_sizes_39 m_guessed_39 m_results_39 m_values m_states_39 m_came m_boxes m_single m_rows) [0, 1, 2, 3, 4, 5, 6, 7, 8, 9, 10, 11, 12, 13] rfl
              have hDc := hD.sub (ws' := x_Mod ad cs m_thrown_39 m_kind m_steps m_size m_ran_39 m_parts_39 (m_taken_39 + (1 : Int32)) m_lacked_39 m_decodings m_failures m_at m_end m_many m_wrong m_bytes m_heads_39 m_numbers_39 m_codes_39 m_sizes_39 m_guessed_39 m_results_39 m_values m_states_39 m_came m_boxes m_single m_rows) [0, 1, 2, 3, 4, 5, 6, 7, 8, 9, 10, 11, 12, 13] (by decide) rfl
              have hFc := va_free (wc := x_Mod ad cs m_thrown_39 m_kind m_steps m_size m_ran_39 m_parts_39 (m_taken_39 + (1 : Int32)) m_lacked_39 m_decodings m_failures m_at m_end m_many m_wrong m_bytes m_heads_39 m_numbers_39 m_codes_39 m_sizes_39 m_guessed_39 m_results_39 m_values m_states_39 m_came m_boxes m_single m_rows) hD hS hA [0, 1, 2, 3, 4, 5, 6, 7, 8, 9, 10, 11, 12, 13] rfl
              refine va_calli (va_runV (As := [.int y39_1]) (rest := []) ⟨hx, hb, hml, hown, hB⟩ (c_Mod_isHead l dC dI tt ad cs H.size N y39_1 m_thrown_39 m_kind m_steps m_size m_ran_39 m_parts_39 (m_taken_39 + (1 : Int32)) m_lacked_39 m_decodings m_failures m_at m_end m_many m_wrong m_bytes m_heads_39 m_numbers_39 m_codes_39 m_sizes_39 m_guessed_39 m_results_39 m_values m_states_39 m_came m_boxes m_single m_rows o6 ho6) (cwV 1 hB (gV wd_298 wd_296 wd_295 wd_226 wd_297) rfl rfl rfl (by decide +kernel) ⟨Nat.le_of_ble_eq_true rfl, Nat.le_of_ble_eq_true rfl⟩) ⟨PreW_blind, va_recv hKc hPc (ci := 4) (q0 := 0) rfl rfl, PreW_mk hKc hPc hDc hG hS hFc⟩ rfl rfl hl.1 rfl (lv_room (Nat.le_of_ble_eq_true rfl)) d_Mod_run_79 ⟨Nat.le_of_ble_eq_true rfl, Nat.le_of_ble_eq_true rfl⟩) hS (fun q _ h => hFc q h) hFc (fun r_6 u_6 t H1 locs ht hvm hw hB hz1 hk1 hS => ?_)
              have hw := hw.symm
              subst hw
              obtain ⟨hP1, hK1, hD1⟩ := hB
              rw [ht] at hP1
              obtain ⟨hP, hD⟩ := va_join (wr := pick (x_Mod ad cs m_thrown_39 m_kind m_steps m_size m_ran_39 m_parts_39 (m_taken_39 + (1 : Int32)) m_lacked_39 m_decodings m_failures m_at m_end m_many m_wrong m_bytes m_heads_39 m_numbers_39 m_codes_39 m_sizes_39 m_guessed_39 m_results_39 m_values m_states_39 m_came m_boxes m_single m_rows) []) hP hD [0, 1, 2, 3, 4, 5, 6, 7, 8, 9, 10, 11, 12, 13] [] rfl rfl (by decide) (by decide) hk1 hFc hP1 hD1
              generalize H1 = H at hP hS ⊢
              have hP : va_P (dC, dI) vwCl (x_Mod ad cs m_thrown_39 m_kind m_steps m_size m_ran_39 m_parts_39 (m_taken_39 + (1 : Int32)) m_lacked_39 m_decodings m_failures m_at m_end m_many m_wrong m_bytes m_heads_39 m_numbers_39 m_codes_39 m_sizes_39 m_guessed_39 m_results_39 m_values m_states_39 m_came m_boxes m_single m_rows) H := hP.sub [0, 1, 2, 3, 4, 5, 6, 7, 8, 9, 10, 11, 12, 13] rfl
              have hD : va_D A (x_Mod ad cs m_thrown_39 m_kind m_steps m_size m_ran_39 m_parts_39 (m_taken_39 + (1 : Int32)) m_lacked_39 m_decodings m_failures m_at m_end m_many m_wrong m_bytes m_heads_39 m_numbers_39 m_codes_39 m_sizes_39 m_guessed_39 m_results_39 m_values m_states_39 m_came m_boxes m_single m_rows) := hD.sub [0, 1, 2, 3, 4, 5, 6, 7, 8, 9, 10, 11, 12, 13] (by decide) rfl
              refine lv_if_eq (tgt := 143) hx hb d_Mod_run_82 (by decide) (fun c_7 => ?_) (fun c_7 => ?_)
              · have h := (if_pos c_7).symm.trans h
                refine lv_aload_n hx hb d_Mod_run_143 rfl (lv_at hl 0 rfl) ?_
                refine lv_iload_n hx hb d_Mod_run_144 rfl (lv_at hl 1 rfl) ?_
                obtain ⟨o8, ho8, h⟩ := Option.bind_eq_some_iff.mp h
                have hKc := hK.sub (tys' := [((cs 1), .int), ((cs 2), .int), ((cs 3), .int), ((cs 4), .int), ((cs 5), .int), ((cs 6), .boolean), ((cs 7), .int), ((cs 8), .int), ((cs 9), .int), ((cs 10), .int), ((cs 11), .int), ((cs 12), .int), ((cs 13), .int)]) [0, 1, 2, 3, 4, 5, 6, 7, 8, 9, 10, 11, 12] rfl
                have hPc := hP.sub (ws' := x_Mod ad cs m_thrown_39 m_kind m_steps m_size m_ran_39 m_parts_39 (m_taken_39 + (1 : Int32)) m_lacked_39 m_decodings m_failures m_at m_end m_many m_wrong m_bytes m_heads_39 m_numbers_39 m_codes_39 m_sizes_39 m_guessed_39 m_results_39 m_values m_states_39 m_came m_boxes m_single m_rows) [0, 1, 2, 3, 4, 5, 6, 7, 8, 9, 10, 11, 12, 13] rfl
                have hDc := hD.sub (ws' := x_Mod ad cs m_thrown_39 m_kind m_steps m_size m_ran_39 m_parts_39 (m_taken_39 + (1 : Int32)) m_lacked_39 m_decodings m_failures m_at m_end m_many m_wrong m_bytes m_heads_39 m_numbers_39 m_codes_39 m_sizes_39 m_guessed_39 m_results_39 m_values m_states_39 m_came m_boxes m_single m_rows) [0, 1, 2, 3, 4, 5, 6, 7, 8, 9, 10, 11, 12, 13] (by decide) rfl
                have hFc := va_free (wc := x_Mod ad cs m_thrown_39 m_kind m_steps m_size m_ran_39 m_parts_39 (m_taken_39 + (1 : Int32)) m_lacked_39 m_decodings m_failures m_at m_end m_many m_wrong m_bytes m_heads_39 m_numbers_39 m_codes_39 m_sizes_39 m_guessed_39 m_results_39 m_values m_states_39 m_came m_boxes m_single m_rows) hD hS hA [0, 1, 2, 3, 4, 5, 6, 7, 8, 9, 10, 11, 12, 13] rfl
                refine va_calli (va_runV (As := [.int y39_1]) (rest := []) ⟨hx, hb, hml, hown, hB⟩ (c_Mod_isHead l dC dI tt ad cs H.size N y39_1 m_thrown_39 m_kind m_steps m_size m_ran_39 m_parts_39 (m_taken_39 + (1 : Int32)) m_lacked_39 m_decodings m_failures m_at m_end m_many m_wrong m_bytes m_heads_39 m_numbers_39 m_codes_39 m_sizes_39 m_guessed_39 m_results_39 m_values m_states_39 m_came m_boxes m_single m_rows o8 ho8) (cwV 1 hB (gV wd_298 wd_296 wd_295 wd_226 wd_297) rfl rfl rfl (by decide +kernel) ⟨Nat.le_of_ble_eq_true rfl, Nat.le_of_ble_eq_true rfl⟩) ⟨PreW_blind, va_recv hKc hPc (ci := 4) (q0 := 0) rfl rfl, PreW_mk hKc hPc hDc hG hS hFc⟩ rfl rfl hl.1 rfl (lv_room (Nat.le_of_ble_eq_true rfl)) d_Mod_run_145 ⟨Nat.le_of_ble_eq_true rfl, Nat.le_of_ble_eq_true rfl⟩) hS (fun q _ h => hFc q h) hFc (fun r_8 u_8 t H1 locs ht hvm hw hB hz1 hk1 hS => ?_)
                have hw := hw.symm
                subst hw
                obtain ⟨hP1, hK1, hD1⟩ := hB
                rw [ht] at hP1
                obtain ⟨hP, hD⟩ := va_join (wr := pick (x_Mod ad cs m_thrown_39 m_kind m_steps m_size m_ran_39 m_parts_39 (m_taken_39 + (1 : Int32)) m_lacked_39 m_decodings m_failures m_at m_end m_many m_wrong m_bytes m_heads_39 m_numbers_39 m_codes_39 m_sizes_39 m_guessed_39 m_results_39 m_values m_states_39 m_came m_boxes m_single m_rows) []) hP hD [0, 1, 2, 3, 4, 5, 6, 7, 8, 9, 10, 11, 12, 13] [] rfl rfl (by decide) (by decide) hk1 hFc hP1 hD1
                generalize H1 = H at hP hS ⊢
                have hP : va_P (dC, dI) vwCl (x_Mod ad cs m_thrown_39 m_kind m_steps m_size m_ran_39 m_parts_39 (m_taken_39 + (1 : Int32)) m_lacked_39 m_decodings m_failures m_at m_end m_many m_wrong m_bytes m_heads_39 m_numbers_39 m_codes_39 m_sizes_39 m_guessed_39 m_results_39 m_values m_states_39 m_came m_boxes m_single m_rows) H := hP.sub [0, 1, 2, 3, 4, 5, 6, 7, 8, 9, 10, 11, 12, 13] rfl
                have hD : va_D A (x_Mod ad cs m_thrown_39 m_kind m_steps m_size m_ran_39 m_parts_39 (m_taken_39 + (1 : Int32)) m_lacked_39 m_decodings m_failures m_at m_end m_many m_wrong m_bytes m_heads_39 m_numbers_39 m_codes_39 m_sizes_39 m_guessed_39 m_results_39 m_values m_states_39 m_came m_boxes m_single m_rows) := hD.sub [0, 1, 2, 3, 4, 5, 6, 7, 8, 9, 10, 11, 12, 13] (by decide) rfl
                refine lv_if_eq (tgt := 167) hx hb d_Mod_run_148 (by decide) (fun c_9 => ?_) (fun c_9 => ?_)
                · have h := (if_pos c_9).symm.trans h
                  refine lv_iinc (v := y39_1 + 1) (lv' := [(1, .int (y39_1 + 1)), (0, .ref (ad 0))]) hx hb d_Mod_run_167 hl (k := 1) rfl rfl (by decide) rfl (fun ls hl => ?_)
                  refine lv_goto (tgt := 39) hx hb d_Mod_run_170 (by decide) ?_
                  exact ih (y39_1 + 1) m_thrown_39 m_ran_39 m_parts_39 (m_taken_39 + (1 : Int32)) m_lacked_39 m_heads_39 m_numbers_39 m_codes_39 m_sizes_39 m_guessed_39 m_results_39 m_states_39 H locs ls (lv_sub hl [1, 0] rfl) hP hD hS h
                · have h := (if_neg c_9).symm.trans h
                  refine lv_aload_n hx hb d_Mod_run_151 rfl (lv_at hl 0 rfl) ?_
                  refine va_get (D := (dC, dI)) (ci := 4) (v := .int m_parts_39) (C := R_Mod) (T := T_Mod) (N := 27) hx hb hB in_Mod hown hK hP 0 rfl rfl 6 (by decide) (hB _ wd_220) (fun _ h9 => h9) rfl d_Mod_run_152 ?_
                  refine lv_if_le (tgt := 167) hx hb d_Mod_run_155 (by decide) (fun c_10 => ?_) (fun c_10 => ?_)
                  · have h := (if_pos c_10).symm.trans h
                    refine lv_iinc (v := y39_1 + 1) (lv' := [(1, .int (y39_1 + 1)), (0, .ref (ad 0))]) hx hb d_Mod_run_167 hl (k := 1) rfl rfl (by decide) rfl (fun ls hl => ?_)
                    refine lv_goto (tgt := 39) hx hb d_Mod_run_170 (by decide) ?_
                    exact ih (y39_1 + 1) m_thrown_39 m_ran_39 m_parts_39 (m_taken_39 + (1 : Int32)) m_lacked_39 m_heads_39 m_numbers_39 m_codes_39 m_sizes_39 m_guessed_39 m_results_39 m_states_39 H locs ls (lv_sub hl [1, 0] rfl) hP hD hS h
                  · have h := (if_neg c_10).symm.trans h
                    refine lv_aload_n hx hb d_Mod_run_158 rfl (lv_at hl 0 rfl) ?_
                    refine lv_iload_n hx hb d_Mod_run_159 rfl (lv_at hl 1 rfl) ?_
                    obtain ⟨o11, ho11, h⟩ := Option.bind_eq_some_iff.mp h
                    have hKc := hK.sub (tys' := [((cs 1), .int), ((cs 2), .int), ((cs 3), .int), ((cs 4), .int), ((cs 5), .int), ((cs 6), .boolean), ((cs 7), .int), ((cs 8), .int), ((cs 9), .int), ((cs 10), .int), ((cs 11), .int), ((cs 12), .int), ((cs 13), .int)]) [0, 1, 2, 3, 4, 5, 6, 7, 8, 9, 10, 11, 12] rfl
                    have hPc := hP.sub (ws' := x_Mod ad cs m_thrown_39 m_kind m_steps m_size m_ran_39 m_parts_39 (m_taken_39 + (1 : Int32)) m_lacked_39 m_decodings m_failures m_at m_end m_many m_wrong m_bytes m_heads_39 m_numbers_39 m_codes_39 m_sizes_39 m_guessed_39 m_results_39 m_values m_states_39 m_came m_boxes m_single m_rows) [0, 1, 2, 3, 4, 5, 6, 7, 8, 9, 10, 11, 12, 13] rfl
                    have hDc := hD.sub (ws' := x_Mod ad cs m_thrown_39 m_kind m_steps m_size m_ran_39 m_parts_39 (m_taken_39 + (1 : Int32)) m_lacked_39 m_decodings m_failures m_at m_end m_many m_wrong m_bytes m_heads_39 m_numbers_39 m_codes_39 m_sizes_39 m_guessed_39 m_results_39 m_values m_states_39 m_came m_boxes m_single m_rows) [0, 1, 2, 3, 4, 5, 6, 7, 8, 9, 10, 11, 12, 13] (by decide) rfl
                    have hFc := va_free (wc := x_Mod ad cs m_thrown_39 m_kind m_steps m_size m_ran_39 m_parts_39 (m_taken_39 + (1 : Int32)) m_lacked_39 m_decodings m_failures m_at m_end m_many m_wrong m_bytes m_heads_39 m_numbers_39 m_codes_39 m_sizes_39 m_guessed_39 m_results_39 m_values m_states_39 m_came m_boxes m_single m_rows) hD hS hA [0, 1, 2, 3, 4, 5, 6, 7, 8, 9, 10, 11, 12, 13] rfl
                    refine va_calli (va_runV (As := [.int y39_1]) (rest := []) ⟨hx, hb, hml, hown, hB⟩ (c_Mod_guess l dC dI tt ad cs H.size N y39_1 m_thrown_39 m_kind m_steps m_size m_ran_39 m_parts_39 (m_taken_39 + (1 : Int32)) m_lacked_39 m_decodings m_failures m_at m_end m_many m_wrong m_bytes m_heads_39 m_numbers_39 m_codes_39 m_sizes_39 m_guessed_39 m_results_39 m_values m_states_39 m_came m_boxes m_single m_rows o11 ho11) (cwV 1 hB (gV wd_302 wd_300 wd_299 wd_226 wd_301) rfl rfl rfl (by decide +kernel) ⟨Nat.le_of_ble_eq_true rfl, Nat.le_of_ble_eq_true rfl⟩) ⟨PreW_blind, va_recv hKc hPc (ci := 4) (q0 := 0) rfl rfl, PreW_mk hKc hPc hDc hG hS hFc⟩ rfl rfl hl.1 rfl (lv_room (Nat.le_of_ble_eq_true rfl)) d_Mod_run_160 ⟨Nat.le_of_ble_eq_true rfl, Nat.le_of_ble_eq_true rfl⟩) hS (fun q _ h => hFc q h) hFc (fun r_11 u_11 t H1 locs ht hvm hw hB hz1 hk1 hS => ?_)
                    have hw := hw.symm
                    subst hw
                    obtain ⟨hP1, hK1, hD1⟩ := hB
                    rw [ht] at hP1
                    obtain ⟨hP, hD⟩ := va_join (wr := pick (x_Mod ad cs m_thrown_39 m_kind m_steps m_size m_ran_39 m_parts_39 (m_taken_39 + (1 : Int32)) m_lacked_39 m_decodings m_failures m_at m_end m_many m_wrong m_bytes m_heads_39 m_numbers_39 m_codes_39 m_sizes_39 m_guessed_39 m_results_39 m_values m_states_39 m_came m_boxes m_single m_rows) []) hP hD [0, 1, 2, 3, 4, 5, 6, 7, 8, 9, 10, 11, 12, 13] [] rfl rfl (by decide) (by decide) hk1 hFc hP1 hD1
                    generalize H1 = H at hP hS ⊢
                    have hP : va_P (dC, dI) vwCl (x_Mod ad cs m_thrown_39 m_kind m_steps m_size m_ran_39 o11.2.1 o11.2.2.1 m_lacked_39 m_decodings m_failures m_at m_end m_many m_wrong m_bytes o11.2.2.2.1 o11.2.2.2.2.1 o11.2.2.2.2.2.1 o11.2.2.2.2.2.2.1 o11.2.2.2.2.2.2.2.1 o11.2.2.2.2.2.2.2.2 m_values m_states_39 m_came m_boxes m_single m_rows) H := hP.sub [0, 1, 2, 3, 4, 5, 6, 7, 8, 9, 10, 11, 12, 13] rfl
                    have hD : va_D A (x_Mod ad cs m_thrown_39 m_kind m_steps m_size m_ran_39 o11.2.1 o11.2.2.1 m_lacked_39 m_decodings m_failures m_at m_end m_many m_wrong m_bytes o11.2.2.2.1 o11.2.2.2.2.1 o11.2.2.2.2.2.1 o11.2.2.2.2.2.2.1 o11.2.2.2.2.2.2.2.1 o11.2.2.2.2.2.2.2.2 m_values m_states_39 m_came m_boxes m_single m_rows) := hD.sub [0, 1, 2, 3, 4, 5, 6, 7, 8, 9, 10, 11, 12, 13] (by decide) rfl
                    refine lv_istore_n (lv' := [(1, .int o11.1), (0, .ref (ad 0))]) hx hb d_Mod_run_163 rfl hl (by decide) rfl (fun ls hl => ?_)
                    refine lv_goto (tgt := 39) hx hb d_Mod_run_164 (by decide) ?_
                    exact ih o11.1 m_thrown_39 m_ran_39 o11.2.1 o11.2.2.1 m_lacked_39 o11.2.2.2.1 o11.2.2.2.2.1 o11.2.2.2.2.2.1 o11.2.2.2.2.2.2.1 o11.2.2.2.2.2.2.2.1 o11.2.2.2.2.2.2.2.2 m_states_39 H locs ls (lv_sub hl [1, 0] rfl) hP hD hS h
              · have h := (if_neg c_7).symm.trans h
                refine lv_aload_n hx hb d_Mod_run_85 rfl (lv_at hl 0 rfl) ?_
                refine lv_iload_n hx hb d_Mod_run_86 rfl (lv_at hl 1 rfl) ?_
                obtain ⟨o12, ho12, h⟩ := Option.bind_eq_some_iff.mp h
                have hKc := hK.sub (tys' := [((cs 1), .int), ((cs 2), .int), ((cs 3), .int), ((cs 4), .int), ((cs 5), .int), ((cs 6), .boolean), ((cs 7), .int), ((cs 8), .int), ((cs 9), .int), ((cs 10), .int), ((cs 11), .int), ((cs 12), .int), ((cs 13), .int)]) [0, 1, 2, 3, 4, 5, 6, 7, 8, 9, 10, 11, 12] rfl
                have hPc := hP.sub (ws' := x_Mod ad cs m_thrown_39 m_kind m_steps m_size m_ran_39 m_parts_39 (m_taken_39 + (1 : Int32)) m_lacked_39 m_decodings m_failures m_at m_end m_many m_wrong m_bytes m_heads_39 m_numbers_39 m_codes_39 m_sizes_39 m_guessed_39 m_results_39 m_values m_states_39 m_came m_boxes m_single m_rows) [0, 1, 2, 3, 4, 5, 6, 7, 8, 9, 10, 11, 12, 13] rfl
                have hDc := hD.sub (ws' := x_Mod ad cs m_thrown_39 m_kind m_steps m_size m_ran_39 m_parts_39 (m_taken_39 + (1 : Int32)) m_lacked_39 m_decodings m_failures m_at m_end m_many m_wrong m_bytes m_heads_39 m_numbers_39 m_codes_39 m_sizes_39 m_guessed_39 m_results_39 m_values m_states_39 m_came m_boxes m_single m_rows) [0, 1, 2, 3, 4, 5, 6, 7, 8, 9, 10, 11, 12, 13] (by decide) rfl
                have hFc := va_free (wc := x_Mod ad cs m_thrown_39 m_kind m_steps m_size m_ran_39 m_parts_39 (m_taken_39 + (1 : Int32)) m_lacked_39 m_decodings m_failures m_at m_end m_many m_wrong m_bytes m_heads_39 m_numbers_39 m_codes_39 m_sizes_39 m_guessed_39 m_results_39 m_values m_states_39 m_came m_boxes m_single m_rows) hD hS hA [0, 1, 2, 3, 4, 5, 6, 7, 8, 9, 10, 11, 12, 13] rfl
                refine va_calli (va_runV (As := [.int y39_1]) (rest := []) ⟨hx, hb, hml, hown, hB⟩ (c_Mod_isRight l dC dI tt ad cs H.size N y39_1 m_thrown_39 m_kind m_steps m_size m_ran_39 m_parts_39 (m_taken_39 + (1 : Int32)) m_lacked_39 m_decodings m_failures m_at m_end m_many m_wrong m_bytes m_heads_39 m_numbers_39 m_codes_39 m_sizes_39 m_guessed_39 m_results_39 m_values m_states_39 m_came m_boxes m_single m_rows o12 ho12) (cwV 1 hB (gV wd_306 wd_304 wd_303 wd_226 wd_305) rfl rfl rfl (by decide +kernel) ⟨Nat.le_of_ble_eq_true rfl, Nat.le_of_ble_eq_true rfl⟩) ⟨PreW_blind, va_recv hKc hPc (ci := 4) (q0 := 0) rfl rfl, PreW_mk hKc hPc hDc hG hS hFc⟩ rfl rfl hl.1 rfl (lv_room (Nat.le_of_ble_eq_true rfl)) d_Mod_run_87 ⟨Nat.le_of_ble_eq_true rfl, Nat.le_of_ble_eq_true rfl⟩) hS (fun q _ h => hFc q h) hFc (fun r_12 u_12 t H1 locs ht hvm hw hB hz1 hk1 hS => ?_)
                have hw := hw.symm
                subst hw
                obtain ⟨hP1, hK1, hD1⟩ := hB
                rw [ht] at hP1
                obtain ⟨hP, hD⟩ := va_join (wr := pick (x_Mod ad cs m_thrown_39 m_kind m_steps m_size m_ran_39 m_parts_39 (m_taken_39 + (1 : Int32)) m_lacked_39 m_decodings m_failures m_at m_end m_many m_wrong m_bytes m_heads_39 m_numbers_39 m_codes_39 m_sizes_39 m_guessed_39 m_results_39 m_values m_states_39 m_came m_boxes m_single m_rows) []) hP hD [0, 1, 2, 3, 4, 5, 6, 7, 8, 9, 10, 11, 12, 13] [] rfl rfl (by decide) (by decide) hk1 hFc hP1 hD1
                generalize H1 = H at hP hS ⊢
                have hP : va_P (dC, dI) vwCl (x_Mod ad cs m_thrown_39 m_kind m_steps m_size m_ran_39 m_parts_39 (m_taken_39 + (1 : Int32)) m_lacked_39 m_decodings m_failures m_at m_end m_many m_wrong m_bytes m_heads_39 m_numbers_39 m_codes_39 m_sizes_39 m_guessed_39 m_results_39 m_values m_states_39 m_came m_boxes m_single m_rows) H := hP.sub [0, 1, 2, 3, 4, 5, 6, 7, 8, 9, 10, 11, 12, 13] rfl
                have hD : va_D A (x_Mod ad cs m_thrown_39 m_kind m_steps m_size m_ran_39 m_parts_39 (m_taken_39 + (1 : Int32)) m_lacked_39 m_decodings m_failures m_at m_end m_many m_wrong m_bytes m_heads_39 m_numbers_39 m_codes_39 m_sizes_39 m_guessed_39 m_results_39 m_values m_states_39 m_came m_boxes m_single m_rows) := hD.sub [0, 1, 2, 3, 4, 5, 6, 7, 8, 9, 10, 11, 12, 13] (by decide) rfl
                refine lv_if_eq (tgt := 143) hx hb d_Mod_run_90 (by decide) (fun c_13 => ?_) (fun c_13 => ?_)
                · have h := (if_pos c_13).symm.trans h
                  refine lv_aload_n hx hb d_Mod_run_143 rfl (lv_at hl 0 rfl) ?_
                  refine lv_iload_n hx hb d_Mod_run_144 rfl (lv_at hl 1 rfl) ?_
                  obtain ⟨o14, ho14, h⟩ := Option.bind_eq_some_iff.mp h
                  have hKc := hK.sub (tys' := [((cs 1), .int), ((cs 2), .int), ((cs 3), .int), ((cs 4), .int), ((cs 5), .int), ((cs 6), .boolean), ((cs 7), .int), ((cs 8), .int), ((cs 9), .int), ((cs 10), .int), ((cs 11), .int), ((cs 12), .int), ((cs 13), .int)]) [0, 1, 2, 3, 4, 5, 6, 7, 8, 9, 10, 11, 12] rfl
                  have hPc := hP.sub (ws' := x_Mod ad cs m_thrown_39 m_kind m_steps m_size m_ran_39 m_parts_39 (m_taken_39 + (1 : Int32)) m_lacked_39 m_decodings m_failures m_at m_end m_many m_wrong m_bytes m_heads_39 m_numbers_39 m_codes_39 m_sizes_39 m_guessed_39 m_results_39 m_values m_states_39 m_came m_boxes m_single m_rows) [0, 1, 2, 3, 4, 5, 6, 7, 8, 9, 10, 11, 12, 13] rfl
                  have hDc := hD.sub (ws' := x_Mod ad cs m_thrown_39 m_kind m_steps m_size m_ran_39 m_parts_39 (m_taken_39 + (1 : Int32)) m_lacked_39 m_decodings m_failures m_at m_end m_many m_wrong m_bytes m_heads_39 m_numbers_39 m_codes_39 m_sizes_39 m_guessed_39 m_results_39 m_values m_states_39 m_came m_boxes m_single m_rows) [0, 1, 2, 3, 4, 5, 6, 7, 8, 9, 10, 11, 12, 13] (by decide) rfl
                  have hFc := va_free (wc := x_Mod ad cs m_thrown_39 m_kind m_steps m_size m_ran_39 m_parts_39 (m_taken_39 + (1 : Int32)) m_lacked_39 m_decodings m_failures m_at m_end m_many m_wrong m_bytes m_heads_39 m_numbers_39 m_codes_39 m_sizes_39 m_guessed_39 m_results_39 m_values m_states_39 m_came m_boxes m_single m_rows) hD hS hA [0, 1, 2, 3, 4, 5, 6, 7, 8, 9, 10, 11, 12, 13] rfl
                  refine va_calli (va_runV (As := [.int y39_1]) (rest := []) ⟨hx, hb, hml, hown, hB⟩ (c_Mod_isHead l dC dI tt ad cs H.size N y39_1 m_thrown_39 m_kind m_steps m_size m_ran_39 m_parts_39 (m_taken_39 + (1 : Int32)) m_lacked_39 m_decodings m_failures m_at m_end m_many m_wrong m_bytes m_heads_39 m_numbers_39 m_codes_39 m_sizes_39 m_guessed_39 m_results_39 m_values m_states_39 m_came m_boxes m_single m_rows o14 ho14) (cwV 1 hB (gV wd_298 wd_296 wd_295 wd_226 wd_297) rfl rfl rfl (by decide +kernel) ⟨Nat.le_of_ble_eq_true rfl, Nat.le_of_ble_eq_true rfl⟩) ⟨PreW_blind, va_recv hKc hPc (ci := 4) (q0 := 0) rfl rfl, PreW_mk hKc hPc hDc hG hS hFc⟩ rfl rfl hl.1 rfl (lv_room (Nat.le_of_ble_eq_true rfl)) d_Mod_run_145 ⟨Nat.le_of_ble_eq_true rfl, Nat.le_of_ble_eq_true rfl⟩) hS (fun q _ h => hFc q h) hFc (fun r_14 u_14 t H1 locs ht hvm hw hB hz1 hk1 hS => ?_)
                  have hw := hw.symm
                  subst hw
                  obtain ⟨hP1, hK1, hD1⟩ := hB
                  rw [ht] at hP1
                  obtain ⟨hP, hD⟩ := va_join (wr := pick (x_Mod ad cs m_thrown_39 m_kind m_steps m_size m_ran_39 m_parts_39 (m_taken_39 + (1 : Int32)) m_lacked_39 m_decodings m_failures m_at m_end m_many m_wrong m_bytes m_heads_39 m_numbers_39 m_codes_39 m_sizes_39 m_guessed_39 m_results_39 m_values m_states_39 m_came m_boxes m_single m_rows) []) hP hD [0, 1, 2, 3, 4, 5, 6, 7, 8, 9, 10, 11, 12, 13] [] rfl rfl (by decide) (by decide) hk1 hFc hP1 hD1
                  generalize H1 = H at hP hS ⊢
                  have hP : va_P (dC, dI) vwCl (x_Mod ad cs m_thrown_39 m_kind m_steps m_size m_ran_39 m_parts_39 (m_taken_39 + (1 : Int32)) m_lacked_39 m_decodings m_failures m_at m_end m_many m_wrong m_bytes m_heads_39 m_numbers_39 m_codes_39 m_sizes_39 m_guessed_39 m_results_39 m_values m_states_39 m_came m_boxes m_single m_rows) H := hP.sub [0, 1, 2, 3, 4, 5, 6, 7, 8, 9, 10, 11, 12, 13] rfl
                  have hD : va_D A (x_Mod ad cs m_thrown_39 m_kind m_steps m_size m_ran_39 m_parts_39 (m_taken_39 + (1 : Int32)) m_lacked_39 m_decodings m_failures m_at m_end m_many m_wrong m_bytes m_heads_39 m_numbers_39 m_codes_39 m_sizes_39 m_guessed_39 m_results_39 m_values m_states_39 m_came m_boxes m_single m_rows) := hD.sub [0, 1, 2, 3, 4, 5, 6, 7, 8, 9, 10, 11, 12, 13] (by decide) rfl
                  refine lv_if_eq (tgt := 167) hx hb d_Mod_run_148 (by decide) (fun c_15 => ?_) (fun c_15 => ?_)
                  · have h := (if_pos c_15).symm.trans h
                    refine lv_iinc (v := y39_1 + 1) (lv' := [(1, .int (y39_1 + 1)), (0, .ref (ad 0))]) hx hb d_Mod_run_167 hl (k := 1) rfl rfl (by decide) rfl (fun ls hl => ?_)
                    refine lv_goto (tgt := 39) hx hb d_Mod_run_170 (by decide) ?_
                    exact ih (y39_1 + 1) m_thrown_39 m_ran_39 m_parts_39 (m_taken_39 + (1 : Int32)) m_lacked_39 m_heads_39 m_numbers_39 m_codes_39 m_sizes_39 m_guessed_39 m_results_39 m_states_39 H locs ls (lv_sub hl [1, 0] rfl) hP hD hS h
                  · have h := (if_neg c_15).symm.trans h
                    refine lv_aload_n hx hb d_Mod_run_151 rfl (lv_at hl 0 rfl) ?_
                    refine va_get (D := (dC, dI)) (ci := 4) (v := .int m_parts_39) (C := R_Mod) (T := T_Mod) (N := 27) hx hb hB in_Mod hown hK hP 0 rfl rfl 6 (by decide) (hB _ wd_220) (fun _ h9 => h9) rfl d_Mod_run_152 ?_
                    refine lv_if_le (tgt := 167) hx hb d_Mod_run_155 (by decide) (fun c_16 => ?_) (fun c_16 => ?_)
                    · have h := (if_pos c_16).symm.trans h
                      refine lv_iinc (v := y39_1 + 1) (lv' := [(1, .int (y39_1 + 1)), (0, .ref (ad 0))]) hx hb d_Mod_run_167 hl (k := 1) rfl rfl (by decide) rfl (fun ls hl => ?_)
                      refine lv_goto (tgt := 39) hx hb d_Mod_run_170 (by decide) ?_
                      exact ih (y39_1 + 1) m_thrown_39 m_ran_39 m_parts_39 (m_taken_39 + (1 : Int32)) m_lacked_39 m_heads_39 m_numbers_39 m_codes_39 m_sizes_39 m_guessed_39 m_results_39 m_states_39 H locs ls (lv_sub hl [1, 0] rfl) hP hD hS h
                    · have h := (if_neg c_16).symm.trans h
                      refine lv_aload_n hx hb d_Mod_run_158 rfl (lv_at hl 0 rfl) ?_
                      refine lv_iload_n hx hb d_Mod_run_159 rfl (lv_at hl 1 rfl) ?_
                      obtain ⟨o17, ho17, h⟩ := Option.bind_eq_some_iff.mp h
                      have hKc := hK.sub (tys' := [((cs 1), .int), ((cs 2), .int), ((cs 3), .int), ((cs 4), .int), ((cs 5), .int), ((cs 6), .boolean), ((cs 7), .int), ((cs 8), .int), ((cs 9), .int), ((cs 10), .int), ((cs 11), .int), ((cs 12), .int), ((cs 13), .int)]) [0, 1, 2, 3, 4, 5, 6, 7, 8, 9, 10, 11, 12] rfl
                      have hPc := hP.sub (ws' := x_Mod ad cs m_thrown_39 m_kind m_steps m_size m_ran_39 m_parts_39 (m_taken_39 + (1 : Int32)) m_lacked_39 m_decodings m_failures m_at m_end m_many m_wrong m_bytes m_heads_39 m_numbers_39 m_codes_39 m_sizes_39 m_guessed_39 m_results_39 m_values m_states_39 m_came m_boxes m_single m_rows) [0, 1, 2, 3, 4, 5, 6, 7, 8, 9, 10, 11, 12, 13] rfl
                      have hDc := hD.sub (ws' := x_Mod ad cs m_thrown_39 m_kind m_steps m_size m_ran_39 m_parts_39 (m_taken_39 + (1 : Int32)) m_lacked_39 m_decodings m_failures m_at m_end m_many m_wrong m_bytes m_heads_39 m_numbers_39 m_codes_39 m_sizes_39 m_guessed_39 m_results_39 m_values m_states_39 m_came m_boxes m_single m_rows) [0, 1, 2, 3, 4, 5, 6, 7, 8, 9, 10, 11, 12, 13] (by decide) rfl
                      have hFc := va_free (wc := x_Mod ad cs m_thrown_39 m_kind m_steps m_size m_ran_39 m_parts_39 (m_taken_39 + (1 : Int32)) m_lacked_39 m_decodings m_failures m_at m_end m_many m_wrong m_bytes m_heads_39 m_numbers_39 m_codes_39 m_sizes_39 m_guessed_39 m_results_39 m_values m_states_39 m_came m_boxes m_single m_rows) hD hS hA [0, 1, 2, 3, 4, 5, 6, 7, 8, 9, 10, 11, 12, 13] rfl
                      refine va_calli (va_runV (As := [.int y39_1]) (rest := []) ⟨hx, hb, hml, hown, hB⟩ (c_Mod_guess l dC dI tt ad cs H.size N y39_1 m_thrown_39 m_kind m_steps m_size m_ran_39 m_parts_39 (m_taken_39 + (1 : Int32)) m_lacked_39 m_decodings m_failures m_at m_end m_many m_wrong m_bytes m_heads_39 m_numbers_39 m_codes_39 m_sizes_39 m_guessed_39 m_results_39 m_values m_states_39 m_came m_boxes m_single m_rows o17 ho17) (cwV 1 hB (gV wd_302 wd_300 wd_299 wd_226 wd_301) rfl rfl rfl (by decide +kernel) ⟨Nat.le_of_ble_eq_true rfl, Nat.le_of_ble_eq_true rfl⟩) ⟨PreW_blind, va_recv hKc hPc (ci := 4) (q0 := 0) rfl rfl, PreW_mk hKc hPc hDc hG hS hFc⟩ rfl rfl hl.1 rfl (lv_room (Nat.le_of_ble_eq_true rfl)) d_Mod_run_160 ⟨Nat.le_of_ble_eq_true rfl, Nat.le_of_ble_eq_true rfl⟩) hS (fun q _ h => hFc q h) hFc (fun r_17 u_17 t H1 locs ht hvm hw hB hz1 hk1 hS => ?_)
                      have hw := hw.symm
                      subst hw
                      obtain ⟨hP1, hK1, hD1⟩ := hB
                      rw [ht] at hP1
                      obtain ⟨hP, hD⟩ := va_join (wr := pick (x_Mod ad cs m_thrown_39 m_kind m_steps m_size m_ran_39 m_parts_39 (m_taken_39 + (1 : Int32)) m_lacked_39 m_decodings m_failures m_at m_end m_many m_wrong m_bytes m_heads_39 m_numbers_39 m_codes_39 m_sizes_39 m_guessed_39 m_results_39 m_values m_states_39 m_came m_boxes m_single m_rows) []) hP hD [0, 1, 2, 3, 4, 5, 6, 7, 8, 9, 10, 11, 12, 13] [] rfl rfl (by decide) (by decide) hk1 hFc hP1 hD1
                      generalize H1 = H at hP hS ⊢
                      have hP : va_P (dC, dI) vwCl (x_Mod ad cs m_thrown_39 m_kind m_steps m_size m_ran_39 o17.2.1 o17.2.2.1 m_lacked_39 m_decodings m_failures m_at m_end m_many m_wrong m_bytes o17.2.2.2.1 o17.2.2.2.2.1 o17.2.2.2.2.2.1 o17.2.2.2.2.2.2.1 o17.2.2.2.2.2.2.2.1 o17.2.2.2.2.2.2.2.2 m_values m_states_39 m_came m_boxes m_single m_rows) H := hP.sub [0, 1, 2, 3, 4, 5, 6, 7, 8, 9, 10, 11, 12, 13] rfl
                      have hD : va_D A (x_Mod ad cs m_thrown_39 m_kind m_steps m_size m_ran_39 o17.2.1 o17.2.2.1 m_lacked_39 m_decodings m_failures m_at m_end m_many m_wrong m_bytes o17.2.2.2.1 o17.2.2.2.2.1 o17.2.2.2.2.2.1 o17.2.2.2.2.2.2.1 o17.2.2.2.2.2.2.2.1 o17.2.2.2.2.2.2.2.2 m_values m_states_39 m_came m_boxes m_single m_rows) := hD.sub [0, 1, 2, 3, 4, 5, 6, 7, 8, 9, 10, 11, 12, 13] (by decide) rfl
                      refine lv_istore_n (lv' := [(1, .int o17.1), (0, .ref (ad 0))]) hx hb d_Mod_run_163 rfl hl (by decide) rfl (fun ls hl => ?_)
                      refine lv_goto (tgt := 39) hx hb d_Mod_run_164 (by decide) ?_
                      exact ih o17.1 m_thrown_39 m_ran_39 o17.2.1 o17.2.2.1 m_lacked_39 o17.2.2.2.1 o17.2.2.2.2.1 o17.2.2.2.2.2.1 o17.2.2.2.2.2.2.1 o17.2.2.2.2.2.2.2.1 o17.2.2.2.2.2.2.2.2 m_states_39 H locs ls (lv_sub hl [1, 0] rfl) hP hD hS h
                · have h := (if_neg c_13).symm.trans h
                  refine lv_aload_n hx hb d_Mod_run_93 rfl (lv_at hl 0 rfl) ?_
                  refine lv_iload_n hx hb d_Mod_run_94 rfl (lv_at hl 1 rfl) ?_
                  refine lv_aload_n hx hb d_Mod_run_95 rfl (lv_at hl 0 rfl) ?_
                  refine va_get (D := (dC, dI)) (ci := 4) (v := .ref (ad 1)) (C := R_Mod) (T := T_Mod) (N := 27) hx hb hB in_Mod hown hK hP 0 rfl rfl 3 (by decide) (hB _ wd_223) (fun _ h9 => h9) rfl d_Mod_run_96 ?_
                  refine lv_iload_n hx hb d_Mod_run_99 rfl (lv_at hl 1 rfl) ?_
                  refine lv_iconst (v := 2) hx hb d_Mod_run_100 (by decide) ?_
                  refine lv_iadd hx hb d_Mod_run_101 ?_
                  obtain ⟨b_18, h⟩ := gI_some h
                  refine va_iald hx hb hK hP 1 0 rfl rfl b_18 d_Mod_run_102 ?_
                  refine lv_aload_n hx hb d_Mod_run_103 rfl (lv_at hl 0 rfl) ?_
                  refine va_get (D := (dC, dI)) (ci := 4) (v := .ref (ad 1)) (C := R_Mod) (T := T_Mod) (N := 27) hx hb hB in_Mod hown hK hP 0 rfl rfl 3 (by decide) (hB _ wd_223) (fun _ h9 => h9) rfl d_Mod_run_104 ?_
                  refine lv_iload_n hx hb d_Mod_run_107 rfl (lv_at hl 1 rfl) ?_
                  refine lv_iconst (v := 3) hx hb d_Mod_run_108 (by decide) ?_
                  refine lv_iadd hx hb d_Mod_run_109 ?_
                  obtain ⟨b_19, h⟩ := gI_some h
                  refine va_iald hx hb hK hP 1 0 rfl rfl b_19 d_Mod_run_110 ?_
                  refine lv_aload_n hx hb d_Mod_run_111 rfl (lv_at hl 0 rfl) ?_
                  refine va_get (D := (dC, dI)) (ci := 4) (v := .ref (ad 1)) (C := R_Mod) (T := T_Mod) (N := 27) hx hb hB in_Mod hown hK hP 0 rfl rfl 3 (by decide) (hB _ wd_223) (fun _ h9 => h9) rfl d_Mod_run_112 ?_
                  refine lv_iload_n hx hb d_Mod_run_115 rfl (lv_at hl 1 rfl) ?_
                  refine lv_iconst (v := 4) hx hb d_Mod_run_116 (by decide) ?_
                  refine lv_iadd hx hb d_Mod_run_117 ?_
                  obtain ⟨b_20, h⟩ := gI_some h
                  refine va_iald hx hb hK hP 1 0 rfl rfl b_20 d_Mod_run_118 ?_
                  refine lv_iconst (v := 0) hx hb d_Mod_run_119 (by decide) ?_
                  obtain ⟨o21, ho21, h⟩ := Option.bind_eq_some_iff.mp h
                  have hKc := hK.sub (tys' := [((cs 1), .int), ((cs 2), .int), ((cs 3), .int), ((cs 4), .int), ((cs 5), .int), ((cs 6), .boolean), ((cs 7), .int), ((cs 8), .int), ((cs 9), .int), ((cs 10), .int), ((cs 11), .int), ((cs 12), .int), ((cs 13), .int)]) [0, 1, 2, 3, 4, 5, 6, 7, 8, 9, 10, 11, 12] rfl
                  have hPc := hP.sub (ws' := x_Mod ad cs m_thrown_39 m_kind m_steps m_size m_ran_39 m_parts_39 (m_taken_39 + (1 : Int32)) m_lacked_39 m_decodings m_failures m_at m_end m_many m_wrong m_bytes m_heads_39 m_numbers_39 m_codes_39 m_sizes_39 m_guessed_39 m_results_39 m_values m_states_39 m_came m_boxes m_single m_rows) [0, 1, 2, 3, 4, 5, 6, 7, 8, 9, 10, 11, 12, 13] rfl
                  have hDc := hD.sub (ws' := x_Mod ad cs m_thrown_39 m_kind m_steps m_size m_ran_39 m_parts_39 (m_taken_39 + (1 : Int32)) m_lacked_39 m_decodings m_failures m_at m_end m_many m_wrong m_bytes m_heads_39 m_numbers_39 m_codes_39 m_sizes_39 m_guessed_39 m_results_39 m_values m_states_39 m_came m_boxes m_single m_rows) [0, 1, 2, 3, 4, 5, 6, 7, 8, 9, 10, 11, 12, 13] (by decide) rfl
                  have hFc := va_free (wc := x_Mod ad cs m_thrown_39 m_kind m_steps m_size m_ran_39 m_parts_39 (m_taken_39 + (1 : Int32)) m_lacked_39 m_decodings m_failures m_at m_end m_many m_wrong m_bytes m_heads_39 m_numbers_39 m_codes_39 m_sizes_39 m_guessed_39 m_results_39 m_values m_states_39 m_came m_boxes m_single m_rows) hD hS hA [0, 1, 2, 3, 4, 5, 6, 7, 8, 9, 10, 11, 12, 13] rfl
                  refine va_callv (va_runV (As := [.int y39_1, .int (m_bytes (y39_1 + (2 : Int32)).toNatClampNeg), .int (m_bytes (y39_1 + (3 : Int32)).toNatClampNeg), .int (m_bytes (y39_1 + (4 : Int32)).toNatClampNeg), .int (0 : Int32)]) (rest := []) ⟨hx, hb, hml, hown, hB⟩ (c_Mod_add l dC dI tt ad cs H.size N y39_1 (m_bytes (y39_1 + (2 : Int32)).toNatClampNeg) (m_bytes (y39_1 + (3 : Int32)).toNatClampNeg) (m_bytes (y39_1 + (4 : Int32)).toNatClampNeg) (0 : Int32) m_thrown_39 m_kind m_steps m_size m_ran_39 m_parts_39 (m_taken_39 + (1 : Int32)) m_lacked_39 m_decodings m_failures m_at m_end m_many m_wrong m_bytes m_heads_39 m_numbers_39 m_codes_39 m_sizes_39 m_guessed_39 m_results_39 m_values m_states_39 m_came m_boxes m_single m_rows o21 ho21) (cwV 5 hB (gV wd_238 wd_236 wd_235 wd_226 wd_237) rfl rfl rfl (by decide +kernel) ⟨Nat.le_of_ble_eq_true rfl, Nat.le_of_ble_eq_true rfl⟩) ⟨PreW_blind, va_recv hKc hPc (ci := 4) (q0 := 0) rfl rfl, PreW_mk hKc hPc hDc hG hS hFc⟩ rfl rfl hl.1 rfl (lv_room (Nat.le_of_ble_eq_true rfl)) d_Mod_run_120 ⟨Nat.le_of_ble_eq_true rfl, Nat.le_of_ble_eq_true rfl⟩) hS (fun q _ h => hFc q h) hFc (fun u_21 t H1 locs ht hvm hw hB hz1 hk1 hS => ?_)
                  obtain ⟨hP1, hK1, hD1⟩ := hB
                  rw [ht] at hP1
                  obtain ⟨hP, hD⟩ := va_join (wr := pick (x_Mod ad cs m_thrown_39 m_kind m_steps m_size m_ran_39 m_parts_39 (m_taken_39 + (1 : Int32)) m_lacked_39 m_decodings m_failures m_at m_end m_many m_wrong m_bytes m_heads_39 m_numbers_39 m_codes_39 m_sizes_39 m_guessed_39 m_results_39 m_values m_states_39 m_came m_boxes m_single m_rows) []) hP hD [0, 1, 2, 3, 4, 5, 6, 7, 8, 9, 10, 11, 12, 13] [] rfl rfl (by decide) (by decide) hk1 hFc hP1 hD1
                  generalize H1 = H at hP hS ⊢
                  have hP : va_P (dC, dI) vwCl (x_Mod ad cs m_thrown_39 m_kind m_steps m_size m_ran_39 o21.1 (m_taken_39 + (1 : Int32)) m_lacked_39 m_decodings m_failures m_at m_end m_many m_wrong m_bytes o21.2.1 o21.2.2.1 o21.2.2.2.1 o21.2.2.2.2.1 o21.2.2.2.2.2.1 o21.2.2.2.2.2.2 m_values m_states_39 m_came m_boxes m_single m_rows) H := hP.sub [0, 1, 2, 3, 4, 5, 6, 7, 8, 9, 10, 11, 12, 13] rfl
                  have hD : va_D A (x_Mod ad cs m_thrown_39 m_kind m_steps m_size m_ran_39 o21.1 (m_taken_39 + (1 : Int32)) m_lacked_39 m_decodings m_failures m_at m_end m_many m_wrong m_bytes o21.2.1 o21.2.2.1 o21.2.2.2.1 o21.2.2.2.2.1 o21.2.2.2.2.2.1 o21.2.2.2.2.2.2 m_values m_states_39 m_came m_boxes m_single m_rows) := hD.sub [0, 1, 2, 3, 4, 5, 6, 7, 8, 9, 10, 11, 12, 13] (by decide) rfl
                  refine lv_iload_n hx hb d_Mod_run_123 rfl (lv_at hl 1 rfl) ?_
                  refine lv_bipush (v := 6) hx hb d_Mod_run_124 (by decide) ?_
                  refine lv_iadd hx hb d_Mod_run_126 ?_
                  refine lv_aload_n hx hb d_Mod_run_127 rfl (lv_at hl 0 rfl) ?_
                  refine va_get (D := (dC, dI)) (ci := 4) (v := .ref (ad 5)) (C := R_Mod) (T := T_Mod) (N := 27) hx hb hB in_Mod hown hK hP 0 rfl rfl 10 (by decide) (hB _ wd_232) (fun _ h9 => h9) rfl d_Mod_run_128 ?_
                  refine lv_aload_n hx hb d_Mod_run_131 rfl (lv_at hl 0 rfl) ?_
                  refine va_get (D := (dC, dI)) (ci := 4) (v := .int o21.1) (C := R_Mod) (T := T_Mod) (N := 27) hx hb hB in_Mod hown hK hP 0 rfl rfl 6 (by decide) (hB _ wd_220) (fun _ h9 => h9) rfl d_Mod_run_132 ?_
                  refine lv_iconst (v := 1) hx hb d_Mod_run_135 (by decide) ?_
                  refine lv_isub hx hb d_Mod_run_136 ?_
                  obtain ⟨b_22, h⟩ := gI_some h
                  refine va_iald hx hb hK hP 5 4 rfl rfl b_22 d_Mod_run_137 ?_
                  refine lv_iadd hx hb d_Mod_run_138 ?_
                  refine lv_istore_n (lv' := [(1, .int ((y39_1 + (6 : Int32)) + (o21.2.2.2.2.1 (o21.1 - (1 : Int32)).toNatClampNeg))), (0, .ref (ad 0))]) hx hb d_Mod_run_139 rfl hl (by decide) rfl (fun ls hl => ?_)
                  refine lv_goto (tgt := 39) hx hb d_Mod_run_140 (by decide) ?_
                  exact ih ((y39_1 + (6 : Int32)) + (o21.2.2.2.2.1 (o21.1 - (1 : Int32)).toNatClampNeg)) m_thrown_39 m_ran_39 o21.1 (m_taken_39 + (1 : Int32)) m_lacked_39 o21.2.1 o21.2.2.1 o21.2.2.2.1 o21.2.2.2.2.1 o21.2.2.2.2.2.1 o21.2.2.2.2.2.2 m_states_39 H locs ls (lv_sub hl [1, 0] rfl) hP hD hS h
    exact L39 N (0 : Int32) s7.1 s7.2.1 (0 : Int32) (0 : Int32) s7.2.2.2.2.1 s7.2.2.2.2.2.1 s7.2.2.2.2.2.2.1 s7.2.2.2.2.2.2.2.1 s7.2.2.2.2.2.2.2.2.1 s7.2.2.2.2.2.2.2.2.2.1 s7.2.2.2.2.2.2.2.2.2.2.1 s7.2.2.2.2.2.2.2.2.2.2.2 _ _ ls (lv_sub hl [1, 0] rfl) hP hD hS hs39
  have L7 : ∀ (n : Nat) (y7_1 : Int32) (m_thrown_7 : Int32) (m_ran_7 : Int32) (m_parts_7 : Int32) (m_taken_7 : Int32) (m_lacked_7 : Int32) (m_heads_7 : Nat → Int32) (m_numbers_7 : Nat → Int32) (m_codes_7 : Nat → Int32) (m_sizes_7 : Nat → Int32) (m_guessed_7 : Nat → Int32) (m_results_7 : Nat → Int32) (m_states_7 : Nat → Int32) (H : Heap) (locs : List Loc) (ls : Array Slot), lv_has ls 2 [(0, .ref (ad 0)), (1, .int y7_1)] → va_P (dC, dI) vwCl (x_Mod ad cs m_thrown_7 m_kind m_steps m_size m_ran_7 m_parts_7 m_taken_7 m_lacked_7 m_decodings m_failures m_at m_end m_many m_wrong m_bytes m_heads_7 m_numbers_7 m_codes_7 m_sizes_7 m_guessed_7 m_results_7 m_values m_states_7 m_came m_boxes m_single m_rows) H → va_D A (x_Mod ad cs m_thrown_7 m_kind m_steps m_size m_ran_7 m_parts_7 m_taken_7 m_lacked_7 m_decodings m_failures m_at m_end m_many m_wrong m_bytes m_heads_7 m_numbers_7 m_codes_7 m_sizes_7 m_guessed_7 m_results_7 m_values m_states_7 m_came m_boxes m_single m_rows) → va_S A s.heap H locs → d_Mod_run_L7 N m_kind m_steps m_size m_bytes n y7_1 m_thrown_7 m_ran_7 m_parts_7 m_taken_7 m_lacked_7 m_heads_7 m_numbers_7 m_codes_7 m_sizes_7 m_guessed_7 m_results_7 m_states_7 = some s7 → W p l e (headSpec (w_Mod_run) rm_Mod_run).room s m ([.ref (ad 0)] : List Value).toArray below meth c H locs 0 0 (MQ below (va_Qi (fun (r : Int32) (_ : Unit) => r = out.1) (fun _ => AftW (dC, dI) [((cs 1), .int), ((cs 2), .int), ((cs 3), .int), ((cs 4), .int), ((cs 5), .int), ((cs 6), .boolean), ((cs 7), .int), ((cs 8), .int), ((cs 9), .int), ((cs 10), .int), ((cs 11), .int), ((cs 12), .int), ((cs 13), .int)] A (x_Mod ad cs out.2.1 m_kind m_steps m_size out.2.2.1 out.2.2.2.1 out.2.2.2.2.1 out.2.2.2.2.2.1 m_decodings m_failures m_at m_end m_many m_wrong m_bytes out.2.2.2.2.2.2.1 out.2.2.2.2.2.2.2.1 out.2.2.2.2.2.2.2.2.1 out.2.2.2.2.2.2.2.2.2.1 out.2.2.2.2.2.2.2.2.2.2.1 out.2.2.2.2.2.2.2.2.2.2.2.1 m_values out.2.2.2.2.2.2.2.2.2.2.2.2 m_came m_boxes m_single m_rows)) A) ([.ref (ad 0)] : List Value).toArray s 0 0 A) (F0 m 7 ls []) := by
    intro n
    induction n with
    | zero =>
      intro y7_1 m_thrown_7 m_ran_7 m_parts_7 m_taken_7 m_lacked_7 m_heads_7 m_numbers_7 m_codes_7 m_sizes_7 m_guessed_7 m_results_7 m_states_7 H locs ls hl hP hD hS h
      rw [d_Mod_run_L7] at h
      cases h
    | succ n ih =>
      intro y7_1 m_thrown_7 m_ran_7 m_parts_7 m_taken_7 m_lacked_7 m_heads_7 m_numbers_7 m_codes_7 m_sizes_7 m_guessed_7 m_results_7 m_states_7 H locs ls hl hP hD hS h
      rw [d_Mod_run_L7] at h
      refine lv_iload_n hx hb d_Mod_run_7 rfl (lv_at hl 1 rfl) ?_
      refine lv_sipush (v := 256) hx hb d_Mod_run_8 (by decide) ?_
      refine lv_icmp_ge (tgt := 27) hx hb d_Mod_run_11 (by decide) (fun c_23 => ?_) (fun c_23 => ?_)
      · have h := (if_pos c_23).symm.trans h
        have h := Option.some.inj h
        subst h
        exact X7 H locs ls (lv_sub hl [0] rfl) hP hD hS
      · have h := (if_neg c_23).symm.trans h
        refine lv_aload_n hx hb d_Mod_run_14 rfl (lv_at hl 0 rfl) ?_
        refine va_get (D := (dC, dI)) (ci := 4) (v := .ref (ad 9)) (C := R_Mod) (T := T_Mod) (N := 27) hx hb hB in_Mod hown hK hP 0 rfl rfl 18 (by decide) (hB _ wd_272) (fun _ h9 => h9) rfl d_Mod_run_15 ?_
        refine lv_iload_n hx hb d_Mod_run_18 rfl (lv_at hl 1 rfl) ?_
        refine lv_iconst (v := 0) hx hb d_Mod_run_19 (by decide) ?_
        obtain ⟨b_24, h⟩ := gI_some h
        refine va_iast hx hb hK hP hD hS 9 8 rfl rfl b_24 d_Mod_run_20 (fun H locs hP hD hS => ?_)
        have hP : va_P (dC, dI) vwCl (x_Mod ad cs m_thrown_7 m_kind m_steps m_size m_ran_7 m_parts_7 m_taken_7 m_lacked_7 m_decodings m_failures m_at m_end m_many m_wrong m_bytes m_heads_7 m_numbers_7 m_codes_7 m_sizes_7 m_guessed_7 m_results_7 m_values (upd m_states_7 y7_1.toNatClampNeg (0 : Int32)) m_came m_boxes m_single m_rows) H := hP
        have hD : va_D A (x_Mod ad cs m_thrown_7 m_kind m_steps m_size m_ran_7 m_parts_7 m_taken_7 m_lacked_7 m_decodings m_failures m_at m_end m_many m_wrong m_bytes m_heads_7 m_numbers_7 m_codes_7 m_sizes_7 m_guessed_7 m_results_7 m_values (upd m_states_7 y7_1.toNatClampNeg (0 : Int32)) m_came m_boxes m_single m_rows) := hD
        refine lv_iinc (v := y7_1 + 1) (lv' := [(1, .int (y7_1 + 1)), (0, .ref (ad 0))]) hx hb d_Mod_run_21 hl (k := 1) rfl rfl (by decide) rfl (fun ls hl => ?_)
        refine lv_goto (tgt := 7) hx hb d_Mod_run_24 (by decide) ?_
        exact ih (y7_1 + 1) m_thrown_7 m_ran_7 m_parts_7 m_taken_7 m_lacked_7 m_heads_7 m_numbers_7 m_codes_7 m_sizes_7 m_guessed_7 m_results_7 (upd m_states_7 y7_1.toNatClampNeg (0 : Int32)) H locs ls (lv_sub hl [1, 0] rfl) hP hD hS h
  exact L7 N (0 : Int32) (0 : Int32) m_ran m_parts m_taken m_lacked m_heads m_numbers m_codes m_sizes m_guessed m_results m_states _ _ ls (lv_sub hl [1, 0] rfl) hP hD hS hs7
def d_Mod_part (N : Nat) (x1 : Int32) (x2 : Int32) (m_thrown : Int32) (m_ran : Int32) (m_parts : Int32) (m_heads : Nat → Int32) (m_numbers : Nat → Int32) (m_codes : Nat → Int32) (m_sizes : Nat → Int32) (m_guessed : Nat → Int32) (m_results : Nat → Int32) : Option (Int32 × Int32) :=
 (d_Mod_partCode N x1 m_ran m_parts).bind (fun o1 => if o1 ≤ 0 then if x2 = 0 then gI x1 16 (some (m_heads x1.toNatClampNeg, o1)) else if x2 = 1 then gI x1 16 (some (m_numbers x1.toNatClampNeg, o1)) else if x2 = 2 then gI x1 16 (some (m_codes x1.toNatClampNeg, o1)) else if x2 = 3 then gI x1 16 (some (m_sizes x1.toNatClampNeg, o1)) else if x2 = 4 then gI x1 16 (if (m_guessed x1.toNatClampNeg) = 0 then some ((0 : Int32), o1) else some ((1 : Int32), o1)) else if x2 = 5 then gI x1 16 (some (m_results x1.toNatClampNeg, o1)) else some ((-1 : Int32), o1) else some ((0 : Int32), o1))
abbrev rm_Mod_part : Room := { frames := 1, cells := 0, slots := 0, locals := 21 }
set_option maxHeartbeats 4000000 in
set_option maxRecDepth 100000 in
theorem c_Mod_part (l : Launch) (dC : Nat → ClassId) (dI : Nat → Nat → Nat) (tt : Nat → Nat) (ad : Nat → Nat) (cs : Nat → ClassId) (sz N : Nat) (x1 : Int32) (x2 : Int32) (m_thrown : Int32) (m_kind : Int32) (m_steps : Int32) (m_size : Int32) (m_ran : Int32) (m_parts : Int32) (m_taken : Int32) (m_lacked : Int32) (m_decodings : Int32) (m_failures : Int32) (m_at : Int32) (m_end : Int32) (m_many : Int32) (m_wrong : Int32) (m_bytes : Nat → Int32) (m_heads : Nat → Int32) (m_numbers : Nat → Int32) (m_codes : Nat → Int32) (m_sizes : Nat → Int32) (m_guessed : Nat → Int32) (m_results : Nat → Int32) (m_values : Nat → Int32) (m_states : Nat → Int32) (m_came : Nat → Int32) (m_boxes : Nat → Int32) (m_single : Nat → Int32) (m_rows : Nat → Int32) (out : Int32 × Int32) (h : d_Mod_part N x1 x2 m_thrown m_ran m_parts m_heads m_numbers m_codes m_sizes m_guessed m_results = some out) :
    Met l y_Mod_part (w_Mod_part) rm_Mod_part (va_Pc [.ref (ad 0), .int x1, .int x2] (PreW (dC, dI) [((cs 1), .int), ((cs 2), .int), ((cs 3), .int), ((cs 4), .int), ((cs 5), .int), ((cs 6), .boolean), ((cs 7), .int), ((cs 8), .int), ((cs 9), .int), ((cs 10), .int), ((cs 11), .int), ((cs 12), .int), ((cs 13), .int)] (x_Mod ad cs m_thrown m_kind m_steps m_size m_ran m_parts m_taken m_lacked m_decodings m_failures m_at m_end m_many m_wrong m_bytes m_heads m_numbers m_codes m_sizes m_guessed m_results m_values m_states m_came m_boxes m_single m_rows) sz tt)) (va_Qi (fun (r : Int32) (_ : Unit) => r = out.1) (fun _ => AftW (dC, dI) [((cs 1), .int), ((cs 2), .int), ((cs 3), .int), ((cs 4), .int), ((cs 5), .int), ((cs 6), .boolean), ((cs 7), .int), ((cs 8), .int), ((cs 9), .int), ((cs 10), .int), ((cs 11), .int), ((cs 12), .int), ((cs 13), .int)] (va_A (x_Mod ad cs m_thrown m_kind m_steps m_size m_ran m_parts m_taken m_lacked m_decodings m_failures m_at m_end m_many m_wrong m_bytes m_heads m_numbers m_codes m_sizes m_guessed m_results m_values m_states m_came m_boxes m_single m_rows) sz) (x_Mod ad cs out.2 m_kind m_steps m_size m_ran m_parts m_taken m_lacked m_decodings m_failures m_at m_end m_many m_wrong m_bytes m_heads m_numbers m_codes m_sizes m_guessed m_results m_values m_states m_came m_boxes m_single m_rows)) (va_A (x_Mod ad cs m_thrown m_kind m_steps m_size m_ran m_parts m_taken m_lacked m_decodings m_failures m_at m_end m_many m_wrong m_bytes m_heads m_numbers m_codes m_sizes m_guessed m_results m_values m_states m_came m_boxes m_single m_rows) sz)) 0 0 (va_A (x_Mod ad cs m_thrown m_kind m_steps m_size m_ran m_parts m_taken m_lacked m_decodings m_failures m_at m_end m_many m_wrong m_bytes m_heads m_numbers m_codes m_sizes m_guessed m_results m_values m_states m_came m_boxes m_single m_rows) sz) := by
  refine Met.ofW (cc := k_Mod_part) (maxL := 3) (ret := (some .int)) (by decide) rfl ?_
  intro p e s m args below meth c s₁ B hml hv
  obtain ⟨rfl, hsz, hP, hK, hD0, hG⟩ := hv
  have hx := B.exec
  have hb := B.bytes
  have hr := B.returns
  have hts := atoms_spec (ws := (w_Mod_part)) B.pre
  have hB : ∀ w ∈ BIG, w.before _ s = true := fun w h9 => hts w (List.mem_cons_of_mem _ h9)
  have hown : s.vm.findClass R_Mod = some m.cls := findClass_of_methodNamed B.named
  have hlocks := B.notSynchronized
  subst hsz
  have hD := hD0.self (sz := s.heap.size)
  generalize hAe : va_A (x_Mod ad cs m_thrown m_kind m_steps m_size m_ran m_parts m_taken m_lacked m_decodings m_failures m_at m_end m_many m_wrong m_bytes m_heads m_numbers m_codes m_sizes m_guessed m_results m_values m_states m_came m_boxes m_single m_rows) s.heap.size = A at hD hG ⊢
  have hA : ∀ q : Nat, s.heap.size ≤ q → A q := fun q h => by rw [← hAe]; exact Or.inr h
  have hS : va_S A s.heap s.heap [] := va_S.rf
  have hl := lv_entry ([.ref (ad 0), .int x1, .int x2]) (n := 3) (Nat.le_of_ble_eq_true rfl)
  rw [lg_entry_eq]
  generalize (lg_sl ([.ref (ad 0), .int x1, .int x2]) ++ List.replicate (3 - (lg_sl ([.ref (ad 0), .int x1, .int x2])).length) Slot.unset).toArray = ls at hl ⊢
  have hl : lv_has ls 3 [(0, .ref (ad 0)), (1, .int x1), (2, .int x2)] := hl
  unfold d_Mod_part at h
  refine lv_aload_n hx hb d_Mod_part_0 rfl (lv_at hl 0 rfl) ?_
  refine lv_aload_n hx hb d_Mod_part_1 rfl (lv_at hl 0 rfl) ?_
  refine lv_iload_n hx hb d_Mod_part_2 rfl (lv_at hl 1 rfl) ?_
  obtain ⟨o1, ho1, h⟩ := Option.bind_eq_some_iff.mp h
  have hKc := hK.sub (tys' := [((cs 1), .int), ((cs 2), .int), ((cs 3), .int), ((cs 4), .int), ((cs 5), .int), ((cs 6), .boolean), ((cs 7), .int), ((cs 8), .int), ((cs 9), .int), ((cs 10), .int), ((cs 11), .int), ((cs 12), .int), ((cs 13), .int)]) [0, 1, 2, 3, 4, 5, 6, 7, 8, 9, 10, 11, 12] rfl
  have hPc := hP.sub (ws' := x_Mod ad cs m_thrown m_kind m_steps m_size m_ran m_parts m_taken m_lacked m_decodings m_failures m_at m_end m_many m_wrong m_bytes m_heads m_numbers m_codes m_sizes m_guessed m_results m_values m_states m_came m_boxes m_single m_rows) [0, 1, 2, 3, 4, 5, 6, 7, 8, 9, 10, 11, 12, 13] rfl
  have hDc := hD.sub (ws' := x_Mod ad cs m_thrown m_kind m_steps m_size m_ran m_parts m_taken m_lacked m_decodings m_failures m_at m_end m_many m_wrong m_bytes m_heads m_numbers m_codes m_sizes m_guessed m_results m_values m_states m_came m_boxes m_single m_rows) [0, 1, 2, 3, 4, 5, 6, 7, 8, 9, 10, 11, 12, 13] (by decide) rfl
  have hFc := va_free (wc := x_Mod ad cs m_thrown m_kind m_steps m_size m_ran m_parts m_taken m_lacked m_decodings m_failures m_at m_end m_many m_wrong m_bytes m_heads m_numbers m_codes m_sizes m_guessed m_results m_values m_states m_came m_boxes m_single m_rows) hD hS hA [0, 1, 2, 3, 4, 5, 6, 7, 8, 9, 10, 11, 12, 13] rfl
  refine va_calli (va_runV (As := [.int x1]) (rest := [.ref (ad 0)]) ⟨hx, hb, hml, hown, hB⟩ (c_Mod_partCode l dC dI tt ad cs s.heap.size N x1 m_thrown m_kind m_steps m_size m_ran m_parts m_taken m_lacked m_decodings m_failures m_at m_end m_many m_wrong m_bytes m_heads m_numbers m_codes m_sizes m_guessed m_results m_values m_states m_came m_boxes m_single m_rows o1 ho1) (cwV 1 hB (gV wd_310 wd_308 wd_307 wd_226 wd_309) rfl rfl rfl (by decide +kernel) ⟨Nat.le_of_ble_eq_true rfl, Nat.le_of_ble_eq_true rfl⟩) ⟨PreW_blind, va_recv hKc hPc (ci := 4) (q0 := 0) rfl rfl, PreW_mk hKc hPc hDc hG hS hFc⟩ rfl rfl hl.1 rfl (lv_room (Nat.le_of_ble_eq_true rfl)) d_Mod_part_3 ⟨Nat.le_of_ble_eq_true rfl, Nat.le_of_ble_eq_true rfl⟩) hS (fun q _ h => hFc q h) hFc (fun r_1 u_1 t H1 locs ht hvm hw hB hz1 hk1 hS => ?_)
  have hw := hw.symm
  subst hw
  obtain ⟨hP1, hK1, hD1⟩ := hB
  rw [ht] at hP1
  obtain ⟨hP, hD⟩ := va_join (wr := pick (x_Mod ad cs m_thrown m_kind m_steps m_size m_ran m_parts m_taken m_lacked m_decodings m_failures m_at m_end m_many m_wrong m_bytes m_heads m_numbers m_codes m_sizes m_guessed m_results m_values m_states m_came m_boxes m_single m_rows) []) hP hD [0, 1, 2, 3, 4, 5, 6, 7, 8, 9, 10, 11, 12, 13] [] rfl rfl (by decide) (by decide) hk1 hFc hP1 hD1
  generalize H1 = H at hP hS ⊢
  have hP : va_P (dC, dI) vwCl (x_Mod ad cs m_thrown m_kind m_steps m_size m_ran m_parts m_taken m_lacked m_decodings m_failures m_at m_end m_many m_wrong m_bytes m_heads m_numbers m_codes m_sizes m_guessed m_results m_values m_states m_came m_boxes m_single m_rows) H := hP.sub [0, 1, 2, 3, 4, 5, 6, 7, 8, 9, 10, 11, 12, 13] rfl
  have hD : va_D A (x_Mod ad cs m_thrown m_kind m_steps m_size m_ran m_parts m_taken m_lacked m_decodings m_failures m_at m_end m_many m_wrong m_bytes m_heads m_numbers m_codes m_sizes m_guessed m_results m_values m_states m_came m_boxes m_single m_rows) := hD.sub [0, 1, 2, 3, 4, 5, 6, 7, 8, 9, 10, 11, 12, 13] (by decide) rfl
  refine va_put (D := (dC, dI)) (ci := 4) (v := .int o1) (ty := .int) (C := R_Mod) (T := T_Mod) (N := 27) hx hb hB in_Mod ty_Mod tyok_Mod nd_Mod hown hK hP hD hS 0 rfl rfl 0 (by decide) (hB _ wd_218) (fun _ h9 => h9) rfl (by decide +kernel) rfl rfl (Nat.le_of_ble_eq_true rfl) d_Mod_part_6 (fun H locs hP hD hS => ?_)
  have hP : va_P (dC, dI) vwCl (x_Mod ad cs o1 m_kind m_steps m_size m_ran m_parts m_taken m_lacked m_decodings m_failures m_at m_end m_many m_wrong m_bytes m_heads m_numbers m_codes m_sizes m_guessed m_results m_values m_states m_came m_boxes m_single m_rows) H := hP
  have hD : va_D A (x_Mod ad cs o1 m_kind m_steps m_size m_ran m_parts m_taken m_lacked m_decodings m_failures m_at m_end m_many m_wrong m_bytes m_heads m_numbers m_codes m_sizes m_guessed m_results m_values m_states m_came m_boxes m_single m_rows) := hD
  refine lv_aload_n hx hb d_Mod_part_9 rfl (lv_at hl 0 rfl) ?_
  refine va_get (D := (dC, dI)) (ci := 4) (v := .int o1) (C := R_Mod) (T := T_Mod) (N := 27) hx hb hB in_Mod hown hK hP 0 rfl rfl 0 (by decide) (hB _ wd_218) (fun _ h9 => h9) rfl d_Mod_part_10 ?_
  refine lv_if_le (tgt := 18) hx hb d_Mod_part_13 (by decide) (fun c_2 => ?_) (fun c_2 => ?_)
  · have h := (if_pos c_2).symm.trans h
    refine lv_iload_n hx hb d_Mod_part_18 rfl (lv_at hl 2 rfl) ?_
    by_cases c_3 : x2 = 0
    · have h := (if_pos c_3).symm.trans h
      refine lv_tableIn (tgt := 56) hx hb d_Mod_part_19 (by rw [c_3]; decide) (by rw [c_3]; decide) (by first | (rw [c_3]; done) | (rw [c_3]; rfl)) (by decide) ?_
      refine lv_aload_n hx hb d_Mod_part_56 rfl (lv_at hl 0 rfl) ?_
      refine va_get (D := (dC, dI)) (ci := 4) (v := .ref (ad 2)) (C := R_Mod) (T := T_Mod) (N := 27) hx hb hB in_Mod hown hK hP 0 rfl rfl 7 (by decide) (hB _ wd_229) (fun _ h9 => h9) rfl d_Mod_part_57 ?_
      refine lv_iload_n hx hb d_Mod_part_60 rfl (lv_at hl 1 rfl) ?_
      obtain ⟨b_4, h⟩ := gI_some h
      refine va_iald hx hb hK hP 2 1 rfl rfl b_4 d_Mod_part_61 ?_
      have h := Option.some.inj h
      subst h
      exact W.iret hx hb hr (fun t ht hW => ⟨⟨_, (), rfl, rfl, AftW_mk hK hP hD ht hW⟩, hS.F ht⟩) hS.2.2 d_Mod_part_62
    have h := (if_neg c_3).symm.trans h
    by_cases c_5 : x2 = 1
    · have h := (if_pos c_5).symm.trans h
      refine lv_tableIn (tgt := 63) hx hb d_Mod_part_19 (by rw [c_5]; decide) (by rw [c_5]; decide) (by first | (rw [c_5]; done) | (rw [c_5]; rfl)) (by decide) ?_
      refine lv_aload_n hx hb d_Mod_part_63 rfl (lv_at hl 0 rfl) ?_
      refine va_get (D := (dC, dI)) (ci := 4) (v := .ref (ad 3)) (C := R_Mod) (T := T_Mod) (N := 27) hx hb hB in_Mod hown hK hP 0 rfl rfl 8 (by decide) (hB _ wd_230) (fun _ h9 => h9) rfl d_Mod_part_64 ?_
      refine lv_iload_n hx hb d_Mod_part_67 rfl (lv_at hl 1 rfl) ?_
      obtain ⟨b_6, h⟩ := gI_some h
      refine va_iald hx hb hK hP 3 2 rfl rfl b_6 d_Mod_part_68 ?_
      have h := Option.some.inj h
      subst h
      exact W.iret hx hb hr (fun t ht hW => ⟨⟨_, (), rfl, rfl, AftW_mk hK hP hD ht hW⟩, hS.F ht⟩) hS.2.2 d_Mod_part_69
    have h := (if_neg c_5).symm.trans h
    by_cases c_7 : x2 = 2
    · have h := (if_pos c_7).symm.trans h
      refine lv_tableIn (tgt := 70) hx hb d_Mod_part_19 (by rw [c_7]; decide) (by rw [c_7]; decide) (by first | (rw [c_7]; done) | (rw [c_7]; rfl)) (by decide) ?_
      refine lv_aload_n hx hb d_Mod_part_70 rfl (lv_at hl 0 rfl) ?_
      refine va_get (D := (dC, dI)) (ci := 4) (v := .ref (ad 4)) (C := R_Mod) (T := T_Mod) (N := 27) hx hb hB in_Mod hown hK hP 0 rfl rfl 9 (by decide) (hB _ wd_231) (fun _ h9 => h9) rfl d_Mod_part_71 ?_
      refine lv_iload_n hx hb d_Mod_part_74 rfl (lv_at hl 1 rfl) ?_
      obtain ⟨b_8, h⟩ := gI_some h
      refine va_iald hx hb hK hP 4 3 rfl rfl b_8 d_Mod_part_75 ?_
      have h := Option.some.inj h
      subst h
      exact W.iret hx hb hr (fun t ht hW => ⟨⟨_, (), rfl, rfl, AftW_mk hK hP hD ht hW⟩, hS.F ht⟩) hS.2.2 d_Mod_part_76
    have h := (if_neg c_7).symm.trans h
    by_cases c_9 : x2 = 3
    · have h := (if_pos c_9).symm.trans h
      refine lv_tableIn (tgt := 77) hx hb d_Mod_part_19 (by rw [c_9]; decide) (by rw [c_9]; decide) (by first | (rw [c_9]; done) | (rw [c_9]; rfl)) (by decide) ?_
      refine lv_aload_n hx hb d_Mod_part_77 rfl (lv_at hl 0 rfl) ?_
      refine va_get (D := (dC, dI)) (ci := 4) (v := .ref (ad 5)) (C := R_Mod) (T := T_Mod) (N := 27) hx hb hB in_Mod hown hK hP 0 rfl rfl 10 (by decide) (hB _ wd_232) (fun _ h9 => h9) rfl d_Mod_part_78 ?_
      refine lv_iload_n hx hb d_Mod_part_81 rfl (lv_at hl 1 rfl) ?_
      obtain ⟨b_10, h⟩ := gI_some h
      refine va_iald hx hb hK hP 5 4 rfl rfl b_10 d_Mod_part_82 ?_
      have h := Option.some.inj h
      subst h
      exact W.iret hx hb hr (fun t ht hW => ⟨⟨_, (), rfl, rfl, AftW_mk hK hP hD ht hW⟩, hS.F ht⟩) hS.2.2 d_Mod_part_83
    have h := (if_neg c_9).symm.trans h
    by_cases c_11 : x2 = 4
    · have h := (if_pos c_11).symm.trans h
      refine lv_tableIn (tgt := 84) hx hb d_Mod_part_19 (by rw [c_11]; decide) (by rw [c_11]; decide) (by first | (rw [c_11]; done) | (rw [c_11]; rfl)) (by decide) ?_
      refine lv_aload_n hx hb d_Mod_part_84 rfl (lv_at hl 0 rfl) ?_
      refine va_get (D := (dC, dI)) (ci := 4) (v := .ref (ad 6)) (C := R_Mod) (T := T_Mod) (N := 27) hx hb hB in_Mod hown hK hP 0 rfl rfl 11 (by decide) (hB _ wd_233) (fun _ h9 => h9) rfl d_Mod_part_85 ?_
      refine lv_iload_n hx hb d_Mod_part_88 rfl (lv_at hl 1 rfl) ?_
      obtain ⟨b_12, h⟩ := gI_some h
      refine va_zald hx hb hK hP 6 5 rfl rfl b_12 d_Mod_part_89 ?_
      refine lv_if_eq (tgt := 97) hx hb d_Mod_part_90 (by decide) (fun c_13 => ?_) (fun c_13 => ?_)
      · have h := (if_pos c_13).symm.trans h
        refine lv_iconst (v := 0) hx hb d_Mod_part_97 (by decide) ?_
        have h := Option.some.inj h
        subst h
        exact W.iret hx hb hr (fun t ht hW => ⟨⟨_, (), rfl, rfl, AftW_mk hK hP hD ht hW⟩, hS.F ht⟩) hS.2.2 d_Mod_part_98
      · have h := (if_neg c_13).symm.trans h
        refine lv_iconst (v := 1) hx hb d_Mod_part_93 (by decide) ?_
        refine lv_goto (tgt := 98) hx hb d_Mod_part_94 (by decide) ?_
        have h := Option.some.inj h
        subst h
        exact W.iret hx hb hr (fun t ht hW => ⟨⟨_, (), rfl, rfl, AftW_mk hK hP hD ht hW⟩, hS.F ht⟩) hS.2.2 d_Mod_part_98
    have h := (if_neg c_11).symm.trans h
    by_cases c_14 : x2 = 5
    · have h := (if_pos c_14).symm.trans h
      refine lv_tableIn (tgt := 99) hx hb d_Mod_part_19 (by rw [c_14]; decide) (by rw [c_14]; decide) (by first | (rw [c_14]; done) | (rw [c_14]; rfl)) (by decide) ?_
      refine lv_aload_n hx hb d_Mod_part_99 rfl (lv_at hl 0 rfl) ?_
      refine va_get (D := (dC, dI)) (ci := 4) (v := .ref (ad 7)) (C := R_Mod) (T := T_Mod) (N := 27) hx hb hB in_Mod hown hK hP 0 rfl rfl 12 (by decide) (hB _ wd_234) (fun _ h9 => h9) rfl d_Mod_part_100 ?_
      refine lv_iload_n hx hb d_Mod_part_103 rfl (lv_at hl 1 rfl) ?_
      obtain ⟨b_15, h⟩ := gI_some h
      refine va_iald hx hb hK hP 7 6 rfl rfl b_15 d_Mod_part_104 ?_
      have h := Option.some.inj h
      subst h
      exact W.iret hx hb hr (fun t ht hW => ⟨⟨_, (), rfl, rfl, AftW_mk hK hP hD ht hW⟩, hS.F ht⟩) hS.2.2 d_Mod_part_105
    have h := (if_neg c_14).symm.trans h
    refine lv_tableOut (tgt := 106) hx hb d_Mod_part_19 (by have e0 := lv_neT (a := 0) c_3 (by decide); have e1 := lv_neT (a := 1) c_5 (by decide); have e2 := lv_neT (a := 2) c_7 (by decide); have e3 := lv_neT (a := 3) c_9 (by decide); have e4 := lv_neT (a := 4) c_11 (by decide); have e5 := lv_neT (a := 5) c_14 (by decide); omega) (by decide) ?_
    refine lv_iconst (v := (-1)) hx hb d_Mod_part_106 (by decide) ?_
    have h := Option.some.inj h
    subst h
    exact W.iret hx hb hr (fun t ht hW => ⟨⟨_, (), rfl, rfl, AftW_mk hK hP hD ht hW⟩, hS.F ht⟩) hS.2.2 d_Mod_part_107
  · have h := (if_neg c_2).symm.trans h
    refine lv_iconst (v := 0) hx hb d_Mod_part_16 (by decide) ?_
    have h := Option.some.inj h
    subst h
    exact W.iret hx hb hr (fun t ht hW => ⟨⟨_, (), rfl, rfl, AftW_mk hK hP hD ht hW⟩, hS.F ht⟩) hS.2.2 d_Mod_part_17
def d_Mod_decode (N : Nat) (x1 : Int32) (m_thrown : Int32) (m_ran : Int32) (m_parts : Int32) (m_decodings : Int32) (m_failures : Int32) (m_at : Int32) (m_end : Int32) (m_many : Int32) (m_wrong : Int32) (m_bytes : Nat → Int32) (m_heads : Nat → Int32) (m_numbers : Nat → Int32) (m_codes : Nat → Int32) (m_sizes : Nat → Int32) (m_guessed : Nat → Int32) (m_results : Nat → Int32) (m_values : Nat → Int32) (m_states : Nat → Int32) (m_came : Nat → Int32) (m_boxes : Nat → Int32) (m_single : Nat → Int32) (m_rows : Nat → Int32) : Option (Int32 × Int32 × Int32 × Int32 × Int32 × Int32 × Int32 × Int32 × (Nat → Int32) × (Nat → Int32) × (Nat → Int32) × (Nat → Int32) × (Nat → Int32) × (Nat → Int32) × (Nat → Int32)) :=
 (d_Mod_partCode N x1 m_ran m_parts).bind (fun o1 => if o1 ≤ 0 then (d_Mod_open N x1 m_decodings m_failures m_at m_end m_many m_wrong m_bytes m_heads m_numbers m_codes m_sizes m_guessed m_results m_values m_states m_came m_boxes m_single m_rows).bind (fun o3 => some (o3.1, o1, o3.2.1, o3.2.2.1, o3.2.2.2.1, o3.2.2.2.2.1, o3.2.2.2.2.2.1, o3.2.2.2.2.2.2.1, o3.2.2.2.2.2.2.2.1, o3.2.2.2.2.2.2.2.2.1, o3.2.2.2.2.2.2.2.2.2.1, o3.2.2.2.2.2.2.2.2.2.2.1, o3.2.2.2.2.2.2.2.2.2.2.2.1, o3.2.2.2.2.2.2.2.2.2.2.2.2.1, o3.2.2.2.2.2.2.2.2.2.2.2.2.2)) else some ((0 : Int32), o1, m_decodings, m_failures, m_at, m_end, m_many, m_wrong, m_results, m_values, m_states, m_came, m_boxes, m_single, m_rows))
abbrev rm_Mod_decode : Room := { frames := 4, cells := 0, slots := 0, locals := 91 }
set_option maxHeartbeats 4000000 in
set_option maxRecDepth 100000 in
theorem c_Mod_decode (l : Launch) (dC : Nat → ClassId) (dI : Nat → Nat → Nat) (tt : Nat → Nat) (ad : Nat → Nat) (cs : Nat → ClassId) (sz N : Nat) (x1 : Int32) (m_thrown : Int32) (m_kind : Int32) (m_steps : Int32) (m_size : Int32) (m_ran : Int32) (m_parts : Int32) (m_taken : Int32) (m_lacked : Int32) (m_decodings : Int32) (m_failures : Int32) (m_at : Int32) (m_end : Int32) (m_many : Int32) (m_wrong : Int32) (m_bytes : Nat → Int32) (m_heads : Nat → Int32) (m_numbers : Nat → Int32) (m_codes : Nat → Int32) (m_sizes : Nat → Int32) (m_guessed : Nat → Int32) (m_results : Nat → Int32) (m_values : Nat → Int32) (m_states : Nat → Int32) (m_came : Nat → Int32) (m_boxes : Nat → Int32) (m_single : Nat → Int32) (m_rows : Nat → Int32) (out : Int32 × Int32 × Int32 × Int32 × Int32 × Int32 × Int32 × Int32 × (Nat → Int32) × (Nat → Int32) × (Nat → Int32) × (Nat → Int32) × (Nat → Int32) × (Nat → Int32) × (Nat → Int32)) (h : d_Mod_decode N x1 m_thrown m_ran m_parts m_decodings m_failures m_at m_end m_many m_wrong m_bytes m_heads m_numbers m_codes m_sizes m_guessed m_results m_values m_states m_came m_boxes m_single m_rows = some out) :
    Met l y_Mod_decode (w_Mod_decode) rm_Mod_decode (va_Pc [.ref (ad 0), .int x1] (PreW (dC, dI) [((cs 1), .int), ((cs 2), .int), ((cs 3), .int), ((cs 4), .int), ((cs 5), .int), ((cs 6), .boolean), ((cs 7), .int), ((cs 8), .int), ((cs 9), .int), ((cs 10), .int), ((cs 11), .int), ((cs 12), .int), ((cs 13), .int)] (x_Mod ad cs m_thrown m_kind m_steps m_size m_ran m_parts m_taken m_lacked m_decodings m_failures m_at m_end m_many m_wrong m_bytes m_heads m_numbers m_codes m_sizes m_guessed m_results m_values m_states m_came m_boxes m_single m_rows) sz tt)) (va_Qi (fun (r : Int32) (_ : Unit) => r = out.1) (fun _ => AftW (dC, dI) [((cs 1), .int), ((cs 2), .int), ((cs 3), .int), ((cs 4), .int), ((cs 5), .int), ((cs 6), .boolean), ((cs 7), .int), ((cs 8), .int), ((cs 9), .int), ((cs 10), .int), ((cs 11), .int), ((cs 12), .int), ((cs 13), .int)] (va_A (x_Mod ad cs m_thrown m_kind m_steps m_size m_ran m_parts m_taken m_lacked m_decodings m_failures m_at m_end m_many m_wrong m_bytes m_heads m_numbers m_codes m_sizes m_guessed m_results m_values m_states m_came m_boxes m_single m_rows) sz) (x_Mod ad cs out.2.1 m_kind m_steps m_size m_ran m_parts m_taken m_lacked out.2.2.1 out.2.2.2.1 out.2.2.2.2.1 out.2.2.2.2.2.1 out.2.2.2.2.2.2.1 out.2.2.2.2.2.2.2.1 m_bytes m_heads m_numbers m_codes m_sizes m_guessed out.2.2.2.2.2.2.2.2.1 out.2.2.2.2.2.2.2.2.2.1 out.2.2.2.2.2.2.2.2.2.2.1 out.2.2.2.2.2.2.2.2.2.2.2.1 out.2.2.2.2.2.2.2.2.2.2.2.2.1 out.2.2.2.2.2.2.2.2.2.2.2.2.2.1 out.2.2.2.2.2.2.2.2.2.2.2.2.2.2)) (va_A (x_Mod ad cs m_thrown m_kind m_steps m_size m_ran m_parts m_taken m_lacked m_decodings m_failures m_at m_end m_many m_wrong m_bytes m_heads m_numbers m_codes m_sizes m_guessed m_results m_values m_states m_came m_boxes m_single m_rows) sz)) 0 0 (va_A (x_Mod ad cs m_thrown m_kind m_steps m_size m_ran m_parts m_taken m_lacked m_decodings m_failures m_at m_end m_many m_wrong m_bytes m_heads m_numbers m_codes m_sizes m_guessed m_results m_values m_states m_came m_boxes m_single m_rows) sz) := by
  refine Met.ofW (cc := k_Mod_decode) (maxL := 2) (ret := (some .int)) (by decide) rfl ?_
  intro p e s m args below meth c s₁ B hml hv
  obtain ⟨rfl, hsz, hP, hK, hD0, hG⟩ := hv
  have hx := B.exec
  have hb := B.bytes
  have hr := B.returns
  have hts := atoms_spec (ws := (w_Mod_decode)) B.pre
  have hB : ∀ w ∈ BIG, w.before _ s = true := fun w h9 => hts w (List.mem_cons_of_mem _ h9)
  have hown : s.vm.findClass R_Mod = some m.cls := findClass_of_methodNamed B.named
  have hlocks := B.notSynchronized
  subst hsz
  have hD := hD0.self (sz := s.heap.size)
  generalize hAe : va_A (x_Mod ad cs m_thrown m_kind m_steps m_size m_ran m_parts m_taken m_lacked m_decodings m_failures m_at m_end m_many m_wrong m_bytes m_heads m_numbers m_codes m_sizes m_guessed m_results m_values m_states m_came m_boxes m_single m_rows) s.heap.size = A at hD hG ⊢
  have hA : ∀ q : Nat, s.heap.size ≤ q → A q := fun q h => by rw [← hAe]; exact Or.inr h
  have hS : va_S A s.heap s.heap [] := va_S.rf
  have hl := lv_entry ([.ref (ad 0), .int x1]) (n := 2) (Nat.le_of_ble_eq_true rfl)
  rw [lg_entry_eq]
  generalize (lg_sl ([.ref (ad 0), .int x1]) ++ List.replicate (2 - (lg_sl ([.ref (ad 0), .int x1])).length) Slot.unset).toArray = ls at hl ⊢
  have hl : lv_has ls 2 [(0, .ref (ad 0)), (1, .int x1)] := hl
  unfold d_Mod_decode at h
  refine lv_aload_n hx hb d_Mod_decode_0 rfl (lv_at hl 0 rfl) ?_
  refine lv_aload_n hx hb d_Mod_decode_1 rfl (lv_at hl 0 rfl) ?_
  refine lv_iload_n hx hb d_Mod_decode_2 rfl (lv_at hl 1 rfl) ?_
  obtain ⟨o1, ho1, h⟩ := Option.bind_eq_some_iff.mp h
  have hKc := hK.sub (tys' := [((cs 1), .int), ((cs 2), .int), ((cs 3), .int), ((cs 4), .int), ((cs 5), .int), ((cs 6), .boolean), ((cs 7), .int), ((cs 8), .int), ((cs 9), .int), ((cs 10), .int), ((cs 11), .int), ((cs 12), .int), ((cs 13), .int)]) [0, 1, 2, 3, 4, 5, 6, 7, 8, 9, 10, 11, 12] rfl
  have hPc := hP.sub (ws' := x_Mod ad cs m_thrown m_kind m_steps m_size m_ran m_parts m_taken m_lacked m_decodings m_failures m_at m_end m_many m_wrong m_bytes m_heads m_numbers m_codes m_sizes m_guessed m_results m_values m_states m_came m_boxes m_single m_rows) [0, 1, 2, 3, 4, 5, 6, 7, 8, 9, 10, 11, 12, 13] rfl
  have hDc := hD.sub (ws' := x_Mod ad cs m_thrown m_kind m_steps m_size m_ran m_parts m_taken m_lacked m_decodings m_failures m_at m_end m_many m_wrong m_bytes m_heads m_numbers m_codes m_sizes m_guessed m_results m_values m_states m_came m_boxes m_single m_rows) [0, 1, 2, 3, 4, 5, 6, 7, 8, 9, 10, 11, 12, 13] (by decide) rfl
  have hFc := va_free (wc := x_Mod ad cs m_thrown m_kind m_steps m_size m_ran m_parts m_taken m_lacked m_decodings m_failures m_at m_end m_many m_wrong m_bytes m_heads m_numbers m_codes m_sizes m_guessed m_results m_values m_states m_came m_boxes m_single m_rows) hD hS hA [0, 1, 2, 3, 4, 5, 6, 7, 8, 9, 10, 11, 12, 13] rfl
  refine va_calli (va_runV (As := [.int x1]) (rest := [.ref (ad 0)]) ⟨hx, hb, hml, hown, hB⟩ (c_Mod_partCode l dC dI tt ad cs s.heap.size N x1 m_thrown m_kind m_steps m_size m_ran m_parts m_taken m_lacked m_decodings m_failures m_at m_end m_many m_wrong m_bytes m_heads m_numbers m_codes m_sizes m_guessed m_results m_values m_states m_came m_boxes m_single m_rows o1 ho1) (cwV 1 hB (gV wd_310 wd_308 wd_307 wd_226 wd_309) rfl rfl rfl (by decide +kernel) ⟨Nat.le_of_ble_eq_true rfl, Nat.le_of_ble_eq_true rfl⟩) ⟨PreW_blind, va_recv hKc hPc (ci := 4) (q0 := 0) rfl rfl, PreW_mk hKc hPc hDc hG hS hFc⟩ rfl rfl hl.1 rfl (lv_room (Nat.le_of_ble_eq_true rfl)) d_Mod_decode_3 ⟨Nat.le_of_ble_eq_true rfl, Nat.le_of_ble_eq_true rfl⟩) hS (fun q _ h => hFc q h) hFc (fun r_1 u_1 t H1 locs ht hvm hw hB hz1 hk1 hS => ?_)
  have hw := hw.symm
  subst hw
  obtain ⟨hP1, hK1, hD1⟩ := hB
  rw [ht] at hP1
  obtain ⟨hP, hD⟩ := va_join (wr := pick (x_Mod ad cs m_thrown m_kind m_steps m_size m_ran m_parts m_taken m_lacked m_decodings m_failures m_at m_end m_many m_wrong m_bytes m_heads m_numbers m_codes m_sizes m_guessed m_results m_values m_states m_came m_boxes m_single m_rows) []) hP hD [0, 1, 2, 3, 4, 5, 6, 7, 8, 9, 10, 11, 12, 13] [] rfl rfl (by decide) (by decide) hk1 hFc hP1 hD1
  generalize H1 = H at hP hS ⊢
  have hP : va_P (dC, dI) vwCl (x_Mod ad cs m_thrown m_kind m_steps m_size m_ran m_parts m_taken m_lacked m_decodings m_failures m_at m_end m_many m_wrong m_bytes m_heads m_numbers m_codes m_sizes m_guessed m_results m_values m_states m_came m_boxes m_single m_rows) H := hP.sub [0, 1, 2, 3, 4, 5, 6, 7, 8, 9, 10, 11, 12, 13] rfl
  have hD : va_D A (x_Mod ad cs m_thrown m_kind m_steps m_size m_ran m_parts m_taken m_lacked m_decodings m_failures m_at m_end m_many m_wrong m_bytes m_heads m_numbers m_codes m_sizes m_guessed m_results m_values m_states m_came m_boxes m_single m_rows) := hD.sub [0, 1, 2, 3, 4, 5, 6, 7, 8, 9, 10, 11, 12, 13] (by decide) rfl
  refine va_put (D := (dC, dI)) (ci := 4) (v := .int o1) (ty := .int) (C := R_Mod) (T := T_Mod) (N := 27) hx hb hB in_Mod ty_Mod tyok_Mod nd_Mod hown hK hP hD hS 0 rfl rfl 0 (by decide) (hB _ wd_218) (fun _ h9 => h9) rfl (by decide +kernel) rfl rfl (Nat.le_of_ble_eq_true rfl) d_Mod_decode_6 (fun H locs hP hD hS => ?_)
  have hP : va_P (dC, dI) vwCl (x_Mod ad cs o1 m_kind m_steps m_size m_ran m_parts m_taken m_lacked m_decodings m_failures m_at m_end m_many m_wrong m_bytes m_heads m_numbers m_codes m_sizes m_guessed m_results m_values m_states m_came m_boxes m_single m_rows) H := hP
  have hD : va_D A (x_Mod ad cs o1 m_kind m_steps m_size m_ran m_parts m_taken m_lacked m_decodings m_failures m_at m_end m_many m_wrong m_bytes m_heads m_numbers m_codes m_sizes m_guessed m_results m_values m_states m_came m_boxes m_single m_rows) := hD
  refine lv_aload_n hx hb d_Mod_decode_9 rfl (lv_at hl 0 rfl) ?_
  refine va_get (D := (dC, dI)) (ci := 4) (v := .int o1) (C := R_Mod) (T := T_Mod) (N := 27) hx hb hB in_Mod hown hK hP 0 rfl rfl 0 (by decide) (hB _ wd_218) (fun _ h9 => h9) rfl d_Mod_decode_10 ?_
  refine lv_if_le (tgt := 20) hx hb d_Mod_decode_13 (by decide) (fun c_2 => ?_) (fun c_2 => ?_)
  · have h := (if_pos c_2).symm.trans h
    refine lv_aload_n hx hb d_Mod_decode_20 rfl (lv_at hl 0 rfl) ?_
    refine lv_iload_n hx hb d_Mod_decode_21 rfl (lv_at hl 1 rfl) ?_
    obtain ⟨o3, ho3, h⟩ := Option.bind_eq_some_iff.mp h
    have hKc := hK.sub (tys' := [((cs 1), .int), ((cs 2), .int), ((cs 3), .int), ((cs 4), .int), ((cs 5), .int), ((cs 6), .boolean), ((cs 7), .int), ((cs 8), .int), ((cs 9), .int), ((cs 10), .int), ((cs 11), .int), ((cs 12), .int), ((cs 13), .int)]) [0, 1, 2, 3, 4, 5, 6, 7, 8, 9, 10, 11, 12] rfl
    have hPc := hP.sub (ws' := x_Mod ad cs o1 m_kind m_steps m_size m_ran m_parts m_taken m_lacked m_decodings m_failures m_at m_end m_many m_wrong m_bytes m_heads m_numbers m_codes m_sizes m_guessed m_results m_values m_states m_came m_boxes m_single m_rows) [0, 1, 2, 3, 4, 5, 6, 7, 8, 9, 10, 11, 12, 13] rfl
    have hDc := hD.sub (ws' := x_Mod ad cs o1 m_kind m_steps m_size m_ran m_parts m_taken m_lacked m_decodings m_failures m_at m_end m_many m_wrong m_bytes m_heads m_numbers m_codes m_sizes m_guessed m_results m_values m_states m_came m_boxes m_single m_rows) [0, 1, 2, 3, 4, 5, 6, 7, 8, 9, 10, 11, 12, 13] (by decide) rfl
    have hFc := va_free (wc := x_Mod ad cs o1 m_kind m_steps m_size m_ran m_parts m_taken m_lacked m_decodings m_failures m_at m_end m_many m_wrong m_bytes m_heads m_numbers m_codes m_sizes m_guessed m_results m_values m_states m_came m_boxes m_single m_rows) hD hS hA [0, 1, 2, 3, 4, 5, 6, 7, 8, 9, 10, 11, 12, 13] rfl
    refine va_calli (va_runV (As := [.int x1]) (rest := []) ⟨hx, hb, hml, hown, hB⟩ (c_Mod_open l dC dI tt ad cs H.size N x1 o1 m_kind m_steps m_size m_ran m_parts m_taken m_lacked m_decodings m_failures m_at m_end m_many m_wrong m_bytes m_heads m_numbers m_codes m_sizes m_guessed m_results m_values m_states m_came m_boxes m_single m_rows o3 ho3) (cwV 1 hB (gV wd_314 wd_312 wd_311 wd_226 wd_313) rfl rfl rfl (by decide +kernel) ⟨Nat.le_of_ble_eq_true rfl, Nat.le_of_ble_eq_true rfl⟩) ⟨PreW_blind, va_recv hKc hPc (ci := 4) (q0 := 0) rfl rfl, PreW_mk hKc hPc hDc hG hS hFc⟩ rfl rfl hl.1 rfl (lv_room (Nat.le_of_ble_eq_true rfl)) d_Mod_decode_22 ⟨Nat.le_of_ble_eq_true rfl, Nat.le_of_ble_eq_true rfl⟩) hS (fun q _ h => hFc q h) hFc (fun r_3 u_3 t H1 locs ht hvm hw hB hz1 hk1 hS => ?_)
    have hw := hw.symm
    subst hw
    obtain ⟨hP1, hK1, hD1⟩ := hB
    rw [ht] at hP1
    obtain ⟨hP, hD⟩ := va_join (wr := pick (x_Mod ad cs o1 m_kind m_steps m_size m_ran m_parts m_taken m_lacked m_decodings m_failures m_at m_end m_many m_wrong m_bytes m_heads m_numbers m_codes m_sizes m_guessed m_results m_values m_states m_came m_boxes m_single m_rows) []) hP hD [0, 1, 2, 3, 4, 5, 6, 7, 8, 9, 10, 11, 12, 13] [] rfl rfl (by decide) (by decide) hk1 hFc hP1 hD1
    generalize H1 = H at hP hS ⊢
    have hP : va_P (dC, dI) vwCl (x_Mod ad cs o1 m_kind m_steps m_size m_ran m_parts m_taken m_lacked o3.2.1 o3.2.2.1 o3.2.2.2.1 o3.2.2.2.2.1 o3.2.2.2.2.2.1 o3.2.2.2.2.2.2.1 m_bytes m_heads m_numbers m_codes m_sizes m_guessed o3.2.2.2.2.2.2.2.1 o3.2.2.2.2.2.2.2.2.1 o3.2.2.2.2.2.2.2.2.2.1 o3.2.2.2.2.2.2.2.2.2.2.1 o3.2.2.2.2.2.2.2.2.2.2.2.1 o3.2.2.2.2.2.2.2.2.2.2.2.2.1 o3.2.2.2.2.2.2.2.2.2.2.2.2.2) H := hP.sub [0, 1, 2, 3, 4, 5, 6, 7, 8, 9, 10, 11, 12, 13] rfl
    have hD : va_D A (x_Mod ad cs o1 m_kind m_steps m_size m_ran m_parts m_taken m_lacked o3.2.1 o3.2.2.1 o3.2.2.2.1 o3.2.2.2.2.1 o3.2.2.2.2.2.1 o3.2.2.2.2.2.2.1 m_bytes m_heads m_numbers m_codes m_sizes m_guessed o3.2.2.2.2.2.2.2.1 o3.2.2.2.2.2.2.2.2.1 o3.2.2.2.2.2.2.2.2.2.1 o3.2.2.2.2.2.2.2.2.2.2.1 o3.2.2.2.2.2.2.2.2.2.2.2.1 o3.2.2.2.2.2.2.2.2.2.2.2.2.1 o3.2.2.2.2.2.2.2.2.2.2.2.2.2) := hD.sub [0, 1, 2, 3, 4, 5, 6, 7, 8, 9, 10, 11, 12, 13] (by decide) rfl
    have h := Option.some.inj h
    subst h
    exact W.iret hx hb hr (fun t ht hW => ⟨⟨_, (), rfl, rfl, AftW_mk hK hP hD ht hW⟩, hS.F ht⟩) hS.2.2 d_Mod_decode_25
  · have h := (if_neg c_2).symm.trans h
    refine lv_iconst (v := 0) hx hb d_Mod_decode_16 (by decide) ?_
    refine lv_goto (tgt := 25) hx hb d_Mod_decode_17 (by decide) ?_
    have h := Option.some.inj h
    subst h
    exact W.iret hx hb hr (fun t ht hW => ⟨⟨_, (), rfl, rfl, AftW_mk hK hP hD ht hW⟩, hS.F ht⟩) hS.2.2 d_Mod_decode_25
def d_Mod_decodeAll_L20 (N : Nat) (m_ran : Int32) (m_parts : Int32) (m_bytes : Nat → Int32) (m_heads : Nat → Int32) (m_numbers : Nat → Int32) (m_codes : Nat → Int32) (m_sizes : Nat → Int32) (m_guessed : Nat → Int32) : Nat → Int32 → Int32 → Int32 → Int32 → Int32 → Int32 → Int32 → Int32 → Int32 → (Nat → Int32) → (Nat → Int32) → (Nat → Int32) → (Nat → Int32) → (Nat → Int32) → (Nat → Int32) → (Nat → Int32) → Option (Int32 × Int32 × Int32 × Int32 × Int32 × Int32 × Int32 × Int32 × (Nat → Int32) × (Nat → Int32) × (Nat → Int32) × (Nat → Int32) × (Nat → Int32) × (Nat → Int32) × (Nat → Int32))
  | 0, _, _, _, _, _, _, _, _, _, _, _, _, _, _, _, _ => none
  | n + 1, y20_1, y20_2, m_thrown_20, m_decodings_20, m_failures_20, m_at_20, m_end_20, m_many_20, m_wrong_20, m_results_20, m_values_20, m_states_20, m_came_20, m_boxes_20, m_single_20, m_rows_20 => if m_parts ≤ y20_2 then some (y20_1, m_thrown_20, m_decodings_20, m_failures_20, m_at_20, m_end_20, m_many_20, m_wrong_20, m_results_20, m_values_20, m_states_20, m_came_20, m_boxes_20, m_single_20, m_rows_20) else if m_thrown_20 = 0 then (d_Mod_open N y20_2 m_decodings_20 m_failures_20 m_at_20 m_end_20 m_many_20 m_wrong_20 m_bytes m_heads m_numbers m_codes m_sizes m_guessed m_results_20 m_values_20 m_states_20 m_came_20 m_boxes_20 m_single_20 m_rows_20).bind (fun o21003 => if o21003.1 ≤ 0 then d_Mod_decodeAll_L20 N m_ran m_parts m_bytes m_heads m_numbers m_codes m_sizes m_guessed n y20_1 (y20_2 + 1) m_thrown_20 o21003.2.1 o21003.2.2.1 o21003.2.2.2.1 o21003.2.2.2.2.1 o21003.2.2.2.2.2.1 o21003.2.2.2.2.2.2.1 o21003.2.2.2.2.2.2.2.1 o21003.2.2.2.2.2.2.2.2.1 o21003.2.2.2.2.2.2.2.2.2.1 o21003.2.2.2.2.2.2.2.2.2.2.1 o21003.2.2.2.2.2.2.2.2.2.2.2.1 o21003.2.2.2.2.2.2.2.2.2.2.2.2.1 o21003.2.2.2.2.2.2.2.2.2.2.2.2.2 else d_Mod_decodeAll_L20 N m_ran m_parts m_bytes m_heads m_numbers m_codes m_sizes m_guessed n (y20_1 + (1 : Int32)) (y20_2 + 1) m_thrown_20 o21003.2.1 o21003.2.2.1 o21003.2.2.2.1 o21003.2.2.2.2.1 o21003.2.2.2.2.2.1 o21003.2.2.2.2.2.2.1 o21003.2.2.2.2.2.2.2.1 o21003.2.2.2.2.2.2.2.2.1 o21003.2.2.2.2.2.2.2.2.2.1 o21003.2.2.2.2.2.2.2.2.2.2.1 o21003.2.2.2.2.2.2.2.2.2.2.2.1 o21003.2.2.2.2.2.2.2.2.2.2.2.2.1 o21003.2.2.2.2.2.2.2.2.2.2.2.2.2) else some (y20_1, m_thrown_20, m_decodings_20, m_failures_20, m_at_20, m_end_20, m_many_20, m_wrong_20, m_results_20, m_values_20, m_states_20, m_came_20, m_boxes_20, m_single_20, m_rows_20)
def d_Mod_decodeAll (N : Nat) (m_thrown : Int32) (m_ran : Int32) (m_parts : Int32) (m_decodings : Int32) (m_failures : Int32) (m_at : Int32) (m_end : Int32) (m_many : Int32) (m_wrong : Int32) (m_bytes : Nat → Int32) (m_heads : Nat → Int32) (m_numbers : Nat → Int32) (m_codes : Nat → Int32) (m_sizes : Nat → Int32) (m_guessed : Nat → Int32) (m_results : Nat → Int32) (m_values : Nat → Int32) (m_states : Nat → Int32) (m_came : Nat → Int32) (m_boxes : Nat → Int32) (m_single : Nat → Int32) (m_rows : Nat → Int32) : Option (Int32 × Int32 × Int32 × Int32 × Int32 × Int32 × Int32 × Int32 × (Nat → Int32) × (Nat → Int32) × (Nat → Int32) × (Nat → Int32) × (Nat → Int32) × (Nat → Int32) × (Nat → Int32)) :=
 if m_ran = 0 then (d_Mod_decodeAll_L20 N m_ran m_parts m_bytes m_heads m_numbers m_codes m_sizes m_guessed N (0 : Int32) (0 : Int32) (1 : Int32) m_decodings m_failures m_at m_end m_many m_wrong m_results m_values m_states m_came m_boxes m_single m_rows).bind (fun s20 => some (s20.1, s20.2.1, s20.2.2.1, s20.2.2.2.1, s20.2.2.2.2.1, s20.2.2.2.2.2.1, s20.2.2.2.2.2.2.1, s20.2.2.2.2.2.2.2.1, s20.2.2.2.2.2.2.2.2.1, s20.2.2.2.2.2.2.2.2.2.1, s20.2.2.2.2.2.2.2.2.2.2.1, s20.2.2.2.2.2.2.2.2.2.2.2.1, s20.2.2.2.2.2.2.2.2.2.2.2.2.1, s20.2.2.2.2.2.2.2.2.2.2.2.2.2.1, s20.2.2.2.2.2.2.2.2.2.2.2.2.2.2)) else (d_Mod_decodeAll_L20 N m_ran m_parts m_bytes m_heads m_numbers m_codes m_sizes m_guessed N (0 : Int32) (0 : Int32) (0 : Int32) m_decodings m_failures m_at m_end m_many m_wrong m_results m_values m_states m_came m_boxes m_single m_rows).bind (fun s20 => some (s20.1, s20.2.1, s20.2.2.1, s20.2.2.2.1, s20.2.2.2.2.1, s20.2.2.2.2.2.1, s20.2.2.2.2.2.2.1, s20.2.2.2.2.2.2.2.1, s20.2.2.2.2.2.2.2.2.1, s20.2.2.2.2.2.2.2.2.2.1, s20.2.2.2.2.2.2.2.2.2.2.1, s20.2.2.2.2.2.2.2.2.2.2.2.1, s20.2.2.2.2.2.2.2.2.2.2.2.2.1, s20.2.2.2.2.2.2.2.2.2.2.2.2.2.1, s20.2.2.2.2.2.2.2.2.2.2.2.2.2.2))
abbrev rm_Mod_decodeAll : Room := { frames := 4, cells := 0, slots := 0, locals := 91 }
set_option maxHeartbeats 4000000 in
set_option maxRecDepth 100000 in
theorem c_Mod_decodeAll (l : Launch) (dC : Nat → ClassId) (dI : Nat → Nat → Nat) (tt : Nat → Nat) (ad : Nat → Nat) (cs : Nat → ClassId) (sz N : Nat) (m_thrown : Int32) (m_kind : Int32) (m_steps : Int32) (m_size : Int32) (m_ran : Int32) (m_parts : Int32) (m_taken : Int32) (m_lacked : Int32) (m_decodings : Int32) (m_failures : Int32) (m_at : Int32) (m_end : Int32) (m_many : Int32) (m_wrong : Int32) (m_bytes : Nat → Int32) (m_heads : Nat → Int32) (m_numbers : Nat → Int32) (m_codes : Nat → Int32) (m_sizes : Nat → Int32) (m_guessed : Nat → Int32) (m_results : Nat → Int32) (m_values : Nat → Int32) (m_states : Nat → Int32) (m_came : Nat → Int32) (m_boxes : Nat → Int32) (m_single : Nat → Int32) (m_rows : Nat → Int32) (out : Int32 × Int32 × Int32 × Int32 × Int32 × Int32 × Int32 × Int32 × (Nat → Int32) × (Nat → Int32) × (Nat → Int32) × (Nat → Int32) × (Nat → Int32) × (Nat → Int32) × (Nat → Int32)) (h : d_Mod_decodeAll N m_thrown m_ran m_parts m_decodings m_failures m_at m_end m_many m_wrong m_bytes m_heads m_numbers m_codes m_sizes m_guessed m_results m_values m_states m_came m_boxes m_single m_rows = some out) :
    Met l y_Mod_decodeAll (w_Mod_decodeAll) rm_Mod_decodeAll (va_Pc [.ref (ad 0)] (PreW (dC, dI) [((cs 1), .int), ((cs 2), .int), ((cs 3), .int), ((cs 4), .int), ((cs 5), .int), ((cs 6), .boolean), ((cs 7), .int), ((cs 8), .int), ((cs 9), .int), ((cs 10), .int), ((cs 11), .int), ((cs 12), .int), ((cs 13), .int)] (x_Mod ad cs m_thrown m_kind m_steps m_size m_ran m_parts m_taken m_lacked m_decodings m_failures m_at m_end m_many m_wrong m_bytes m_heads m_numbers m_codes m_sizes m_guessed m_results m_values m_states m_came m_boxes m_single m_rows) sz tt)) (va_Qi (fun (r : Int32) (_ : Unit) => r = out.1) (fun _ => AftW (dC, dI) [((cs 1), .int), ((cs 2), .int), ((cs 3), .int), ((cs 4), .int), ((cs 5), .int), ((cs 6), .boolean), ((cs 7), .int), ((cs 8), .int), ((cs 9), .int), ((cs 10), .int), ((cs 11), .int), ((cs 12), .int), ((cs 13), .int)] (va_A (x_Mod ad cs m_thrown m_kind m_steps m_size m_ran m_parts m_taken m_lacked m_decodings m_failures m_at m_end m_many m_wrong m_bytes m_heads m_numbers m_codes m_sizes m_guessed m_results m_values m_states m_came m_boxes m_single m_rows) sz) (x_Mod ad cs out.2.1 m_kind m_steps m_size m_ran m_parts m_taken m_lacked out.2.2.1 out.2.2.2.1 out.2.2.2.2.1 out.2.2.2.2.2.1 out.2.2.2.2.2.2.1 out.2.2.2.2.2.2.2.1 m_bytes m_heads m_numbers m_codes m_sizes m_guessed out.2.2.2.2.2.2.2.2.1 out.2.2.2.2.2.2.2.2.2.1 out.2.2.2.2.2.2.2.2.2.2.1 out.2.2.2.2.2.2.2.2.2.2.2.1 out.2.2.2.2.2.2.2.2.2.2.2.2.1 out.2.2.2.2.2.2.2.2.2.2.2.2.2.1 out.2.2.2.2.2.2.2.2.2.2.2.2.2.2)) (va_A (x_Mod ad cs m_thrown m_kind m_steps m_size m_ran m_parts m_taken m_lacked m_decodings m_failures m_at m_end m_many m_wrong m_bytes m_heads m_numbers m_codes m_sizes m_guessed m_results m_values m_states m_came m_boxes m_single m_rows) sz)) 0 0 (va_A (x_Mod ad cs m_thrown m_kind m_steps m_size m_ran m_parts m_taken m_lacked m_decodings m_failures m_at m_end m_many m_wrong m_bytes m_heads m_numbers m_codes m_sizes m_guessed m_results m_values m_states m_came m_boxes m_single m_rows) sz) := by
  refine Met.ofW (cc := k_Mod_decodeAll) (maxL := 3) (ret := (some .int)) (by decide) rfl ?_
  intro p e s m args below meth c s₁ B hml hv
  obtain ⟨rfl, hsz, hP, hK, hD0, hG⟩ := hv
  have hx := B.exec
  have hb := B.bytes
  have hr := B.returns
  have hts := atoms_spec (ws := (w_Mod_decodeAll)) B.pre
  have hB : ∀ w ∈ BIG, w.before _ s = true := fun w h9 => hts w (List.mem_cons_of_mem _ h9)
  have hown : s.vm.findClass R_Mod = some m.cls := findClass_of_methodNamed B.named
  have hlocks := B.notSynchronized
  subst hsz
  have hD := hD0.self (sz := s.heap.size)
  generalize hAe : va_A (x_Mod ad cs m_thrown m_kind m_steps m_size m_ran m_parts m_taken m_lacked m_decodings m_failures m_at m_end m_many m_wrong m_bytes m_heads m_numbers m_codes m_sizes m_guessed m_results m_values m_states m_came m_boxes m_single m_rows) s.heap.size = A at hD hG ⊢
  have hA : ∀ q : Nat, s.heap.size ≤ q → A q := fun q h => by rw [← hAe]; exact Or.inr h
  have hS : va_S A s.heap s.heap [] := va_S.rf
  have hl := lv_entry ([.ref (ad 0)]) (n := 3) (Nat.le_of_ble_eq_true rfl)
  rw [lg_entry_eq]
  generalize (lg_sl ([.ref (ad 0)]) ++ List.replicate (3 - (lg_sl ([.ref (ad 0)])).length) Slot.unset).toArray = ls at hl ⊢
  have hl : lv_has ls 3 [(0, .ref (ad 0))] := hl
  unfold d_Mod_decodeAll at h
  refine lv_aload_n hx hb d_Mod_decodeAll_0 rfl (lv_at hl 0 rfl) ?_
  refine lv_aload_n hx hb d_Mod_decodeAll_1 rfl (lv_at hl 0 rfl) ?_
  refine va_get (D := (dC, dI)) (ci := 4) (v := .int m_ran) (C := R_Mod) (T := T_Mod) (N := 27) hx hb hB in_Mod hown hK hP 0 rfl rfl 5 (by decide) (hB _ wd_219) (fun _ h9 => h9) rfl d_Mod_decodeAll_2 ?_
  refine lv_if_eq (tgt := 12) hx hb d_Mod_decodeAll_5 (by decide) (fun c_1 => ?_) (fun c_1 => ?_)
  · have h := (if_pos c_1).symm.trans h
    refine lv_iconst (v := 1) hx hb d_Mod_decodeAll_12 (by decide) ?_
    refine va_put (D := (dC, dI)) (ci := 4) (v := .int (1 : Int32)) (ty := .int) (C := R_Mod) (T := T_Mod) (N := 27) hx hb hB in_Mod ty_Mod tyok_Mod nd_Mod hown hK hP hD hS 0 rfl rfl 0 (by decide) (hB _ wd_218) (fun _ h9 => h9) rfl (by decide +kernel) rfl rfl (Nat.le_of_ble_eq_true rfl) d_Mod_decodeAll_13 (fun H locs hP hD hS => ?_)
    have hP : va_P (dC, dI) vwCl (x_Mod ad cs (1 : Int32) m_kind m_steps m_size m_ran m_parts m_taken m_lacked m_decodings m_failures m_at m_end m_many m_wrong m_bytes m_heads m_numbers m_codes m_sizes m_guessed m_results m_values m_states m_came m_boxes m_single m_rows) H := hP
    have hD : va_D A (x_Mod ad cs (1 : Int32) m_kind m_steps m_size m_ran m_parts m_taken m_lacked m_decodings m_failures m_at m_end m_many m_wrong m_bytes m_heads m_numbers m_codes m_sizes m_guessed m_results m_values m_states m_came m_boxes m_single m_rows) := hD
    refine lv_iconst (v := 0) hx hb d_Mod_decodeAll_16 (by decide) ?_
    refine lv_istore_n (lv' := [(1, .int (0 : Int32)), (0, .ref (ad 0))]) hx hb d_Mod_decodeAll_17 rfl hl (by decide) rfl (fun ls hl => ?_)
    refine lv_iconst (v := 0) hx hb d_Mod_decodeAll_18 (by decide) ?_
    refine lv_istore_n (lv' := [(2, .int (0 : Int32)), (1, .int (0 : Int32)), (0, .ref (ad 0))]) hx hb d_Mod_decodeAll_19 rfl hl (by decide) rfl (fun ls hl => ?_)
    obtain ⟨s20, hs20, h⟩ := Option.bind_eq_some_iff.mp h
    have X20 : ∀ (H : Heap) (locs : List Loc) (ls : Array Slot), lv_has ls 3 [(1, .int s20.1)] → va_P (dC, dI) vwCl (x_Mod ad cs s20.2.1 m_kind m_steps m_size m_ran m_parts m_taken m_lacked s20.2.2.1 s20.2.2.2.1 s20.2.2.2.2.1 s20.2.2.2.2.2.1 s20.2.2.2.2.2.2.1 s20.2.2.2.2.2.2.2.1 m_bytes m_heads m_numbers m_codes m_sizes m_guessed s20.2.2.2.2.2.2.2.2.1 s20.2.2.2.2.2.2.2.2.2.1 s20.2.2.2.2.2.2.2.2.2.2.1 s20.2.2.2.2.2.2.2.2.2.2.2.1 s20.2.2.2.2.2.2.2.2.2.2.2.2.1 s20.2.2.2.2.2.2.2.2.2.2.2.2.2.1 s20.2.2.2.2.2.2.2.2.2.2.2.2.2.2) H → va_D A (x_Mod ad cs s20.2.1 m_kind m_steps m_size m_ran m_parts m_taken m_lacked s20.2.2.1 s20.2.2.2.1 s20.2.2.2.2.1 s20.2.2.2.2.2.1 s20.2.2.2.2.2.2.1 s20.2.2.2.2.2.2.2.1 m_bytes m_heads m_numbers m_codes m_sizes m_guessed s20.2.2.2.2.2.2.2.2.1 s20.2.2.2.2.2.2.2.2.2.1 s20.2.2.2.2.2.2.2.2.2.2.1 s20.2.2.2.2.2.2.2.2.2.2.2.1 s20.2.2.2.2.2.2.2.2.2.2.2.2.1 s20.2.2.2.2.2.2.2.2.2.2.2.2.2.1 s20.2.2.2.2.2.2.2.2.2.2.2.2.2.2) → va_S A s.heap H locs → W p l e (headSpec (w_Mod_decodeAll) rm_Mod_decodeAll).room s m ([.ref (ad 0)] : List Value).toArray below meth c H locs 0 0 (MQ below (va_Qi (fun (r : Int32) (_ : Unit) => r = out.1) (fun _ => AftW (dC, dI) [((cs 1), .int), ((cs 2), .int), ((cs 3), .int), ((cs 4), .int), ((cs 5), .int), ((cs 6), .boolean), ((cs 7), .int), ((cs 8), .int), ((cs 9), .int), ((cs 10), .int), ((cs 11), .int), ((cs 12), .int), ((cs 13), .int)] A (x_Mod ad cs out.2.1 m_kind m_steps m_size m_ran m_parts m_taken m_lacked out.2.2.1 out.2.2.2.1 out.2.2.2.2.1 out.2.2.2.2.2.1 out.2.2.2.2.2.2.1 out.2.2.2.2.2.2.2.1 m_bytes m_heads m_numbers m_codes m_sizes m_guessed out.2.2.2.2.2.2.2.2.1 out.2.2.2.2.2.2.2.2.2.1 out.2.2.2.2.2.2.2.2.2.2.1 out.2.2.2.2.2.2.2.2.2.2.2.1 out.2.2.2.2.2.2.2.2.2.2.2.2.1 out.2.2.2.2.2.2.2.2.2.2.2.2.2.1 out.2.2.2.2.2.2.2.2.2.2.2.2.2.2)) A) ([.ref (ad 0)] : List Value).toArray s 0 0 A) (F0 m 57 ls []) := by
      intro H locs ls hl hP hD hS
      refine lv_iload_n hx hb d_Mod_decodeAll_57 rfl (lv_at hl 0 rfl) ?_
      have h := Option.some.inj h
      subst h
      exact W.iret hx hb hr (fun t ht hW => ⟨⟨_, (), rfl, rfl, AftW_mk hK hP hD ht hW⟩, hS.F ht⟩) hS.2.2 d_Mod_decodeAll_58
    have L20 : ∀ (n : Nat) (y20_1 : Int32) (y20_2 : Int32) (m_thrown_20 : Int32) (m_decodings_20 : Int32) (m_failures_20 : Int32) (m_at_20 : Int32) (m_end_20 : Int32) (m_many_20 : Int32) (m_wrong_20 : Int32) (m_results_20 : Nat → Int32) (m_values_20 : Nat → Int32) (m_states_20 : Nat → Int32) (m_came_20 : Nat → Int32) (m_boxes_20 : Nat → Int32) (m_single_20 : Nat → Int32) (m_rows_20 : Nat → Int32) (H : Heap) (locs : List Loc) (ls : Array Slot), lv_has ls 3 [(0, .ref (ad 0)), (1, .int y20_1), (2, .int y20_2)] → va_P (dC, dI) vwCl (x_Mod ad cs m_thrown_20 m_kind m_steps m_size m_ran m_parts m_taken m_lacked m_decodings_20 m_failures_20 m_at_20 m_end_20 m_many_20 m_wrong_20 m_bytes m_heads m_numbers m_codes m_sizes m_guessed m_results_20 m_values_20 m_states_20 m_came_20 m_boxes_20 m_single_20 m_rows_20) H → va_D A (x_Mod ad cs m_thrown_20 m_kind m_steps m_size m_ran m_parts m_taken m_lacked m_decodings_20 m_failures_20 m_at_20 m_end_20 m_many_20 m_wrong_20 m_bytes m_heads m_numbers m_codes m_sizes m_guessed m_results_20 m_values_20 m_states_20 m_came_20 m_boxes_20 m_single_20 m_rows_20) → va_S A s.heap H locs → d_Mod_decodeAll_L20 N m_ran m_parts m_bytes m_heads m_numbers m_codes m_sizes m_guessed n y20_1 y20_2 m_thrown_20 m_decodings_20 m_failures_20 m_at_20 m_end_20 m_many_20 m_wrong_20 m_results_20 m_values_20 m_states_20 m_came_20 m_boxes_20 m_single_20 m_rows_20 = some s20 → W p l e (headSpec (w_Mod_decodeAll) rm_Mod_decodeAll).room s m ([.ref (ad 0)] : List Value).toArray below meth c H locs 0 0 (MQ below (va_Qi (fun (r : Int32) (_ : Unit) => r = out.1) (fun _ => AftW (dC, dI) [((cs 1), .int), ((cs 2), .int), ((cs 3), .int), ((cs 4), .int), ((cs 5), .int), ((cs 6), .boolean), ((cs 7), .int), ((cs 8), .int), ((cs 9), .int), ((cs 10), .int), ((cs 11), .int), ((cs 12), .int), ((cs 13), .int)] A (x_Mod ad cs out.2.1 m_kind m_steps m_size m_ran m_parts m_taken m_lacked out.2.2.1 out.2.2.2.1 out.2.2.2.2.1 out.2.2.2.2.2.1 out.2.2.2.2.2.2.1 out.2.2.2.2.2.2.2.1 m_bytes m_heads m_numbers m_codes m_sizes m_guessed out.2.2.2.2.2.2.2.2.1 out.2.2.2.2.2.2.2.2.2.1 out.2.2.2.2.2.2.2.2.2.2.1 out.2.2.2.2.2.2.2.2.2.2.2.1 out.2.2.2.2.2.2.2.2.2.2.2.2.1 out.2.2.2.2.2.2.2.2.2.2.2.2.2.1 out.2.2.2.2.2.2.2.2.2.2.2.2.2.2)) A) ([.ref (ad 0)] : List Value).toArray s 0 0 A) (F0 m 20 ls []) := by
      intro n
      induction n with
      | zero =>
        intro y20_1 y20_2 m_thrown_20 m_decodings_20 m_failures_20 m_at_20 m_end_20 m_many_20 m_wrong_20 m_results_20 m_values_20 m_states_20 m_came_20 m_boxes_20 m_single_20 m_rows_20 H locs ls hl hP hD hS h
        rw [d_Mod_decodeAll_L20] at h
        cases h
      | succ n ih =>
        intro y20_1 y20_2 m_thrown_20 m_decodings_20 m_failures_20 m_at_20 m_end_20 m_many_20 m_wrong_20 m_results_20 m_values_20 m_states_20 m_came_20 m_boxes_20 m_single_20 m_rows_20 H locs ls hl hP hD hS h
        rw [d_Mod_decodeAll_L20] at h
        refine lv_iload_n hx hb d_Mod_decodeAll_20 rfl (lv_at hl 2 rfl) ?_
        refine lv_aload_n hx hb d_Mod_decodeAll_21 rfl (lv_at hl 0 rfl) ?_
        refine va_get (D := (dC, dI)) (ci := 4) (v := .int m_parts) (C := R_Mod) (T := T_Mod) (N := 27) hx hb hB in_Mod hown hK hP 0 rfl rfl 6 (by decide) (hB _ wd_220) (fun _ h9 => h9) rfl d_Mod_decodeAll_22 ?_
        refine lv_icmp_ge (tgt := 57) hx hb d_Mod_decodeAll_25 (by decide) (fun c_2 => ?_) (fun c_2 => ?_)
        · have h := (if_pos c_2).symm.trans h
          have h := Option.some.inj h
          subst h
          exact X20 H locs ls (lv_sub hl [1] rfl) hP hD hS
        · have h := (if_neg c_2).symm.trans h
          refine lv_aload_n hx hb d_Mod_decodeAll_28 rfl (lv_at hl 0 rfl) ?_
          refine va_get (D := (dC, dI)) (ci := 4) (v := .int m_thrown_20) (C := R_Mod) (T := T_Mod) (N := 27) hx hb hB in_Mod hown hK hP 0 rfl rfl 0 (by decide) (hB _ wd_218) (fun _ h9 => h9) rfl d_Mod_decodeAll_29 ?_
          refine lv_if_ne (tgt := 57) hx hb d_Mod_decodeAll_32 (by decide) (fun c_3 => ?_) (fun c_3 => ?_)
          · have h := (if_neg c_3).symm.trans h
            have h := Option.some.inj h
            subst h
            exact X20 H locs ls (lv_sub hl [1] rfl) hP hD hS
          · have h := (if_pos c_3).symm.trans h
            refine lv_aload_n hx hb d_Mod_decodeAll_35 rfl (lv_at hl 0 rfl) ?_
            refine lv_iload_n hx hb d_Mod_decodeAll_36 rfl (lv_at hl 2 rfl) ?_
            obtain ⟨o4, ho4, h⟩ := Option.bind_eq_some_iff.mp h
            have hKc := hK.sub (tys' := [((cs 1), .int), ((cs 2), .int), ((cs 3), .int), ((cs 4), .int), ((cs 5), .int), ((cs 6), .boolean), ((cs 7), .int), ((cs 8), .int), ((cs 9), .int), ((cs 10), .int), ((cs 11), .int), ((cs 12), .int), ((cs 13), .int)]) [0, 1, 2, 3, 4, 5, 6, 7, 8, 9, 10, 11, 12] rfl
            have hPc := hP.sub (ws' := x_Mod ad cs m_thrown_20 m_kind m_steps m_size m_ran m_parts m_taken m_lacked m_decodings_20 m_failures_20 m_at_20 m_end_20 m_many_20 m_wrong_20 m_bytes m_heads m_numbers m_codes m_sizes m_guessed m_results_20 m_values_20 m_states_20 m_came_20 m_boxes_20 m_single_20 m_rows_20) [0, 1, 2, 3, 4, 5, 6, 7, 8, 9, 10, 11, 12, 13] rfl
            have hDc := hD.sub (ws' := x_Mod ad cs m_thrown_20 m_kind m_steps m_size m_ran m_parts m_taken m_lacked m_decodings_20 m_failures_20 m_at_20 m_end_20 m_many_20 m_wrong_20 m_bytes m_heads m_numbers m_codes m_sizes m_guessed m_results_20 m_values_20 m_states_20 m_came_20 m_boxes_20 m_single_20 m_rows_20) [0, 1, 2, 3, 4, 5, 6, 7, 8, 9, 10, 11, 12, 13] (by decide) rfl
            have hFc := va_free (wc := x_Mod ad cs m_thrown_20 m_kind m_steps m_size m_ran m_parts m_taken m_lacked m_decodings_20 m_failures_20 m_at_20 m_end_20 m_many_20 m_wrong_20 m_bytes m_heads m_numbers m_codes m_sizes m_guessed m_results_20 m_values_20 m_states_20 m_came_20 m_boxes_20 m_single_20 m_rows_20) hD hS hA [0, 1, 2, 3, 4, 5, 6, 7, 8, 9, 10, 11, 12, 13] rfl
            refine va_calli (va_runV (As := [.int y20_2]) (rest := []) ⟨hx, hb, hml, hown, hB⟩ (c_Mod_open l dC dI tt ad cs H.size N y20_2 m_thrown_20 m_kind m_steps m_size m_ran m_parts m_taken m_lacked m_decodings_20 m_failures_20 m_at_20 m_end_20 m_many_20 m_wrong_20 m_bytes m_heads m_numbers m_codes m_sizes m_guessed m_results_20 m_values_20 m_states_20 m_came_20 m_boxes_20 m_single_20 m_rows_20 o4 ho4) (cwV 1 hB (gV wd_314 wd_312 wd_311 wd_226 wd_313) rfl rfl rfl (by decide +kernel) ⟨Nat.le_of_ble_eq_true rfl, Nat.le_of_ble_eq_true rfl⟩) ⟨PreW_blind, va_recv hKc hPc (ci := 4) (q0 := 0) rfl rfl, PreW_mk hKc hPc hDc hG hS hFc⟩ rfl rfl hl.1 rfl (lv_room (Nat.le_of_ble_eq_true rfl)) d_Mod_decodeAll_37 ⟨Nat.le_of_ble_eq_true rfl, Nat.le_of_ble_eq_true rfl⟩) hS (fun q _ h => hFc q h) hFc (fun r_4 u_4 t H1 locs ht hvm hw hB hz1 hk1 hS => ?_)
            have hw := hw.symm
            subst hw
            obtain ⟨hP1, hK1, hD1⟩ := hB
            rw [ht] at hP1
            obtain ⟨hP, hD⟩ := va_join (wr := pick (x_Mod ad cs m_thrown_20 m_kind m_steps m_size m_ran m_parts m_taken m_lacked m_decodings_20 m_failures_20 m_at_20 m_end_20 m_many_20 m_wrong_20 m_bytes m_heads m_numbers m_codes m_sizes m_guessed m_results_20 m_values_20 m_states_20 m_came_20 m_boxes_20 m_single_20 m_rows_20) []) hP hD [0, 1, 2, 3, 4, 5, 6, 7, 8, 9, 10, 11, 12, 13] [] rfl rfl (by decide) (by decide) hk1 hFc hP1 hD1
            generalize H1 = H at hP hS ⊢
            have hP : va_P (dC, dI) vwCl (x_Mod ad cs m_thrown_20 m_kind m_steps m_size m_ran m_parts m_taken m_lacked o4.2.1 o4.2.2.1 o4.2.2.2.1 o4.2.2.2.2.1 o4.2.2.2.2.2.1 o4.2.2.2.2.2.2.1 m_bytes m_heads m_numbers m_codes m_sizes m_guessed o4.2.2.2.2.2.2.2.1 o4.2.2.2.2.2.2.2.2.1 o4.2.2.2.2.2.2.2.2.2.1 o4.2.2.2.2.2.2.2.2.2.2.1 o4.2.2.2.2.2.2.2.2.2.2.2.1 o4.2.2.2.2.2.2.2.2.2.2.2.2.1 o4.2.2.2.2.2.2.2.2.2.2.2.2.2) H := hP.sub [0, 1, 2, 3, 4, 5, 6, 7, 8, 9, 10, 11, 12, 13] rfl
            have hD : va_D A (x_Mod ad cs m_thrown_20 m_kind m_steps m_size m_ran m_parts m_taken m_lacked o4.2.1 o4.2.2.1 o4.2.2.2.1 o4.2.2.2.2.1 o4.2.2.2.2.2.1 o4.2.2.2.2.2.2.1 m_bytes m_heads m_numbers m_codes m_sizes m_guessed o4.2.2.2.2.2.2.2.1 o4.2.2.2.2.2.2.2.2.1 o4.2.2.2.2.2.2.2.2.2.1 o4.2.2.2.2.2.2.2.2.2.2.1 o4.2.2.2.2.2.2.2.2.2.2.2.1 o4.2.2.2.2.2.2.2.2.2.2.2.2.1 o4.2.2.2.2.2.2.2.2.2.2.2.2.2) := hD.sub [0, 1, 2, 3, 4, 5, 6, 7, 8, 9, 10, 11, 12, 13] (by decide) rfl
            refine lv_if_le (tgt := 49) hx hb d_Mod_decodeAll_40 (by decide) (fun c_5 => ?_) (fun c_5 => ?_)
            · have h := (if_pos c_5).symm.trans h
              refine lv_iload_n hx hb d_Mod_decodeAll_49 rfl (lv_at hl 1 rfl) ?_
              refine lv_istore_n (lv' := [(1, .int y20_1), (0, .ref (ad 0)), (2, .int y20_2)]) hx hb d_Mod_decodeAll_50 rfl hl (by decide) rfl (fun ls hl => ?_)
              refine lv_iinc (v := y20_2 + 1) (lv' := [(2, .int (y20_2 + 1)), (1, .int y20_1), (0, .ref (ad 0))]) hx hb d_Mod_decodeAll_51 hl (k := 2) rfl rfl (by decide) rfl (fun ls hl => ?_)
              refine lv_goto (tgt := 20) hx hb d_Mod_decodeAll_54 (by decide) ?_
              exact ih y20_1 (y20_2 + 1) m_thrown_20 o4.2.1 o4.2.2.1 o4.2.2.2.1 o4.2.2.2.2.1 o4.2.2.2.2.2.1 o4.2.2.2.2.2.2.1 o4.2.2.2.2.2.2.2.1 o4.2.2.2.2.2.2.2.2.1 o4.2.2.2.2.2.2.2.2.2.1 o4.2.2.2.2.2.2.2.2.2.2.1 o4.2.2.2.2.2.2.2.2.2.2.2.1 o4.2.2.2.2.2.2.2.2.2.2.2.2.1 o4.2.2.2.2.2.2.2.2.2.2.2.2.2 H locs ls (lv_sub hl [2, 1, 0] rfl) hP hD hS h
            · have h := (if_neg c_5).symm.trans h
              refine lv_iload_n hx hb d_Mod_decodeAll_43 rfl (lv_at hl 1 rfl) ?_
              refine lv_iconst (v := 1) hx hb d_Mod_decodeAll_44 (by decide) ?_
              refine lv_iadd hx hb d_Mod_decodeAll_45 ?_
              refine lv_goto (tgt := 50) hx hb d_Mod_decodeAll_46 (by decide) ?_
              refine lv_istore_n (lv' := [(1, .int (y20_1 + (1 : Int32))), (0, .ref (ad 0)), (2, .int y20_2)]) hx hb d_Mod_decodeAll_50 rfl hl (by decide) rfl (fun ls hl => ?_)
              refine lv_iinc (v := y20_2 + 1) (lv' := [(2, .int (y20_2 + 1)), (1, .int (y20_1 + (1 : Int32))), (0, .ref (ad 0))]) hx hb d_Mod_decodeAll_51 hl (k := 2) rfl rfl (by decide) rfl (fun ls hl => ?_)
              refine lv_goto (tgt := 20) hx hb d_Mod_decodeAll_54 (by decide) ?_
              exact ih (y20_1 + (1 : Int32)) (y20_2 + 1) m_thrown_20 o4.2.1 o4.2.2.1 o4.2.2.2.1 o4.2.2.2.2.1 o4.2.2.2.2.2.1 o4.2.2.2.2.2.2.1 o4.2.2.2.2.2.2.2.1 o4.2.2.2.2.2.2.2.2.1 o4.2.2.2.2.2.2.2.2.2.1 o4.2.2.2.2.2.2.2.2.2.2.1 o4.2.2.2.2.2.2.2.2.2.2.2.1 o4.2.2.2.2.2.2.2.2.2.2.2.2.1 o4.2.2.2.2.2.2.2.2.2.2.2.2.2 H locs ls (lv_sub hl [2, 1, 0] rfl) hP hD hS h
    exact L20 N (0 : Int32) (0 : Int32) (1 : Int32) m_decodings m_failures m_at m_end m_many m_wrong m_results m_values m_states m_came m_boxes m_single m_rows _ _ ls (lv_sub hl [2, 1, 0] rfl) hP hD hS hs20
  · have h := (if_neg c_1).symm.trans h
    refine lv_iconst (v := 0) hx hb d_Mod_decodeAll_8 (by decide) ?_
    refine lv_goto (tgt := 13) hx hb d_Mod_decodeAll_9 (by decide) ?_
    refine va_put (D := (dC, dI)) (ci := 4) (v := .int (0 : Int32)) (ty := .int) (C := R_Mod) (T := T_Mod) (N := 27) hx hb hB in_Mod ty_Mod tyok_Mod nd_Mod hown hK hP hD hS 0 rfl rfl 0 (by decide) (hB _ wd_218) (fun _ h9 => h9) rfl (by decide +kernel) rfl rfl (Nat.le_of_ble_eq_true rfl) d_Mod_decodeAll_13 (fun H locs hP hD hS => ?_)
    have hP : va_P (dC, dI) vwCl (x_Mod ad cs (0 : Int32) m_kind m_steps m_size m_ran m_parts m_taken m_lacked m_decodings m_failures m_at m_end m_many m_wrong m_bytes m_heads m_numbers m_codes m_sizes m_guessed m_results m_values m_states m_came m_boxes m_single m_rows) H := hP
    have hD : va_D A (x_Mod ad cs (0 : Int32) m_kind m_steps m_size m_ran m_parts m_taken m_lacked m_decodings m_failures m_at m_end m_many m_wrong m_bytes m_heads m_numbers m_codes m_sizes m_guessed m_results m_values m_states m_came m_boxes m_single m_rows) := hD
    refine lv_iconst (v := 0) hx hb d_Mod_decodeAll_16 (by decide) ?_
    refine lv_istore_n (lv' := [(1, .int (0 : Int32)), (0, .ref (ad 0))]) hx hb d_Mod_decodeAll_17 rfl hl (by decide) rfl (fun ls hl => ?_)
    refine lv_iconst (v := 0) hx hb d_Mod_decodeAll_18 (by decide) ?_
    refine lv_istore_n (lv' := [(2, .int (0 : Int32)), (1, .int (0 : Int32)), (0, .ref (ad 0))]) hx hb d_Mod_decodeAll_19 rfl hl (by decide) rfl (fun ls hl => ?_)
    obtain ⟨s20, hs20, h⟩ := Option.bind_eq_some_iff.mp h
    have X20 : ∀ (H : Heap) (locs : List Loc) (ls : Array Slot), lv_has ls 3 [(1, .int s20.1)] → va_P (dC, dI) vwCl (x_Mod ad cs s20.2.1 m_kind m_steps m_size m_ran m_parts m_taken m_lacked s20.2.2.1 s20.2.2.2.1 s20.2.2.2.2.1 s20.2.2.2.2.2.1 s20.2.2.2.2.2.2.1 s20.2.2.2.2.2.2.2.1 m_bytes m_heads m_numbers m_codes m_sizes m_guessed s20.2.2.2.2.2.2.2.2.1 s20.2.2.2.2.2.2.2.2.2.1 s20.2.2.2.2.2.2.2.2.2.2.1 s20.2.2.2.2.2.2.2.2.2.2.2.1 s20.2.2.2.2.2.2.2.2.2.2.2.2.1 s20.2.2.2.2.2.2.2.2.2.2.2.2.2.1 s20.2.2.2.2.2.2.2.2.2.2.2.2.2.2) H → va_D A (x_Mod ad cs s20.2.1 m_kind m_steps m_size m_ran m_parts m_taken m_lacked s20.2.2.1 s20.2.2.2.1 s20.2.2.2.2.1 s20.2.2.2.2.2.1 s20.2.2.2.2.2.2.1 s20.2.2.2.2.2.2.2.1 m_bytes m_heads m_numbers m_codes m_sizes m_guessed s20.2.2.2.2.2.2.2.2.1 s20.2.2.2.2.2.2.2.2.2.1 s20.2.2.2.2.2.2.2.2.2.2.1 s20.2.2.2.2.2.2.2.2.2.2.2.1 s20.2.2.2.2.2.2.2.2.2.2.2.2.1 s20.2.2.2.2.2.2.2.2.2.2.2.2.2.1 s20.2.2.2.2.2.2.2.2.2.2.2.2.2.2) → va_S A s.heap H locs → W p l e (headSpec (w_Mod_decodeAll) rm_Mod_decodeAll).room s m ([.ref (ad 0)] : List Value).toArray below meth c H locs 0 0 (MQ below (va_Qi (fun (r : Int32) (_ : Unit) => r = out.1) (fun _ => AftW (dC, dI) [((cs 1), .int), ((cs 2), .int), ((cs 3), .int), ((cs 4), .int), ((cs 5), .int), ((cs 6), .boolean), ((cs 7), .int), ((cs 8), .int), ((cs 9), .int), ((cs 10), .int), ((cs 11), .int), ((cs 12), .int), ((cs 13), .int)] A (x_Mod ad cs out.2.1 m_kind m_steps m_size m_ran m_parts m_taken m_lacked out.2.2.1 out.2.2.2.1 out.2.2.2.2.1 out.2.2.2.2.2.1 out.2.2.2.2.2.2.1 out.2.2.2.2.2.2.2.1 m_bytes m_heads m_numbers m_codes m_sizes m_guessed out.2.2.2.2.2.2.2.2.1 out.2.2.2.2.2.2.2.2.2.1 out.2.2.2.2.2.2.2.2.2.2.1 out.2.2.2.2.2.2.2.2.2.2.2.1 out.2.2.2.2.2.2.2.2.2.2.2.2.1 out.2.2.2.2.2.2.2.2.2.2.2.2.2.1 out.2.2.2.2.2.2.2.2.2.2.2.2.2.2)) A) ([.ref (ad 0)] : List Value).toArray s 0 0 A) (F0 m 57 ls []) := by
      intro H locs ls hl hP hD hS
      refine lv_iload_n hx hb d_Mod_decodeAll_57 rfl (lv_at hl 0 rfl) ?_
      have h := Option.some.inj h
      subst h
      exact W.iret hx hb hr (fun t ht hW => ⟨⟨_, (), rfl, rfl, AftW_mk hK hP hD ht hW⟩, hS.F ht⟩) hS.2.2 d_Mod_decodeAll_58
    have L20 : ∀ (n : Nat) (y20_1 : Int32) (y20_2 : Int32) (m_thrown_20 : Int32) (m_decodings_20 : Int32) (m_failures_20 : Int32) (m_at_20 : Int32) (m_end_20 : Int32) (m_many_20 : Int32) (m_wrong_20 : Int32) (m_results_20 : Nat → Int32) (m_values_20 : Nat → Int32) (m_states_20 : Nat → Int32) (m_came_20 : Nat → Int32) (m_boxes_20 : Nat → Int32) (m_single_20 : Nat → Int32) (m_rows_20 : Nat → Int32) (H : Heap) (locs : List Loc) (ls : Array Slot), lv_has ls 3 [(0, .ref (ad 0)), (1, .int y20_1), (2, .int y20_2)] → va_P (dC, dI) vwCl (x_Mod ad cs m_thrown_20 m_kind m_steps m_size m_ran m_parts m_taken m_lacked m_decodings_20 m_failures_20 m_at_20 m_end_20 m_many_20 m_wrong_20 m_bytes m_heads m_numbers m_codes m_sizes m_guessed m_results_20 m_values_20 m_states_20 m_came_20 m_boxes_20 m_single_20 m_rows_20) H → va_D A (x_Mod ad cs m_thrown_20 m_kind m_steps m_size m_ran m_parts m_taken m_lacked m_decodings_20 m_failures_20 m_at_20 m_end_20 m_many_20 m_wrong_20 m_bytes m_heads m_numbers m_codes m_sizes m_guessed m_results_20 m_values_20 m_states_20 m_came_20 m_boxes_20 m_single_20 m_rows_20) → va_S A s.heap H locs → d_Mod_decodeAll_L20 N m_ran m_parts m_bytes m_heads m_numbers m_codes m_sizes m_guessed n y20_1 y20_2 m_thrown_20 m_decodings_20 m_failures_20 m_at_20 m_end_20 m_many_20 m_wrong_20 m_results_20 m_values_20 m_states_20 m_came_20 m_boxes_20 m_single_20 m_rows_20 = some s20 → W p l e (headSpec (w_Mod_decodeAll) rm_Mod_decodeAll).room s m ([.ref (ad 0)] : List Value).toArray below meth c H locs 0 0 (MQ below (va_Qi (fun (r : Int32) (_ : Unit) => r = out.1) (fun _ => AftW (dC, dI) [((cs 1), .int), ((cs 2), .int), ((cs 3), .int), ((cs 4), .int), ((cs 5), .int), ((cs 6), .boolean), ((cs 7), .int), ((cs 8), .int), ((cs 9), .int), ((cs 10), .int), ((cs 11), .int), ((cs 12), .int), ((cs 13), .int)] A (x_Mod ad cs out.2.1 m_kind m_steps m_size m_ran m_parts m_taken m_lacked out.2.2.1 out.2.2.2.1 out.2.2.2.2.1 out.2.2.2.2.2.1 out.2.2.2.2.2.2.1 out.2.2.2.2.2.2.2.1 m_bytes m_heads m_numbers m_codes m_sizes m_guessed out.2.2.2.2.2.2.2.2.1 out.2.2.2.2.2.2.2.2.2.1 out.2.2.2.2.2.2.2.2.2.2.1 out.2.2.2.2.2.2.2.2.2.2.2.1 out.2.2.2.2.2.2.2.2.2.2.2.2.1 out.2.2.2.2.2.2.2.2.2.2.2.2.2.1 out.2.2.2.2.2.2.2.2.2.2.2.2.2.2)) A) ([.ref (ad 0)] : List Value).toArray s 0 0 A) (F0 m 20 ls []) := by
      intro n
      induction n with
      | zero =>
        intro y20_1 y20_2 m_thrown_20 m_decodings_20 m_failures_20 m_at_20 m_end_20 m_many_20 m_wrong_20 m_results_20 m_values_20 m_states_20 m_came_20 m_boxes_20 m_single_20 m_rows_20 H locs ls hl hP hD hS h
        rw [d_Mod_decodeAll_L20] at h
        cases h
      | succ n ih =>
        intro y20_1 y20_2 m_thrown_20 m_decodings_20 m_failures_20 m_at_20 m_end_20 m_many_20 m_wrong_20 m_results_20 m_values_20 m_states_20 m_came_20 m_boxes_20 m_single_20 m_rows_20 H locs ls hl hP hD hS h
        rw [d_Mod_decodeAll_L20] at h
        refine lv_iload_n hx hb d_Mod_decodeAll_20 rfl (lv_at hl 2 rfl) ?_
        refine lv_aload_n hx hb d_Mod_decodeAll_21 rfl (lv_at hl 0 rfl) ?_
        refine va_get (D := (dC, dI)) (ci := 4) (v := .int m_parts) (C := R_Mod) (T := T_Mod) (N := 27) hx hb hB in_Mod hown hK hP 0 rfl rfl 6 (by decide) (hB _ wd_220) (fun _ h9 => h9) rfl d_Mod_decodeAll_22 ?_
        refine lv_icmp_ge (tgt := 57) hx hb d_Mod_decodeAll_25 (by decide) (fun c_6 => ?_) (fun c_6 => ?_)
        · have h := (if_pos c_6).symm.trans h
          have h := Option.some.inj h
          subst h
          exact X20 H locs ls (lv_sub hl [1] rfl) hP hD hS
        · have h := (if_neg c_6).symm.trans h
          refine lv_aload_n hx hb d_Mod_decodeAll_28 rfl (lv_at hl 0 rfl) ?_
          refine va_get (D := (dC, dI)) (ci := 4) (v := .int m_thrown_20) (C := R_Mod) (T := T_Mod) (N := 27) hx hb hB in_Mod hown hK hP 0 rfl rfl 0 (by decide) (hB _ wd_218) (fun _ h9 => h9) rfl d_Mod_decodeAll_29 ?_
          refine lv_if_ne (tgt := 57) hx hb d_Mod_decodeAll_32 (by decide) (fun c_7 => ?_) (fun c_7 => ?_)
          · have h := (if_neg c_7).symm.trans h
            have h := Option.some.inj h
            subst h
            exact X20 H locs ls (lv_sub hl [1] rfl) hP hD hS
          · have h := (if_pos c_7).symm.trans h
            refine lv_aload_n hx hb d_Mod_decodeAll_35 rfl (lv_at hl 0 rfl) ?_
            refine lv_iload_n hx hb d_Mod_decodeAll_36 rfl (lv_at hl 2 rfl) ?_
            obtain ⟨o8, ho8, h⟩ := Option.bind_eq_some_iff.mp h
            have hKc := hK.sub (tys' := [((cs 1), .int), ((cs 2), .int), ((cs 3), .int), ((cs 4), .int), ((cs 5), .int), ((cs 6), .boolean), ((cs 7), .int), ((cs 8), .int), ((cs 9), .int), ((cs 10), .int), ((cs 11), .int), ((cs 12), .int), ((cs 13), .int)]) [0, 1, 2, 3, 4, 5, 6, 7, 8, 9, 10, 11, 12] rfl
            have hPc := hP.sub (ws' := x_Mod ad cs m_thrown_20 m_kind m_steps m_size m_ran m_parts m_taken m_lacked m_decodings_20 m_failures_20 m_at_20 m_end_20 m_many_20 m_wrong_20 m_bytes m_heads m_numbers m_codes m_sizes m_guessed m_results_20 m_values_20 m_states_20 m_came_20 m_boxes_20 m_single_20 m_rows_20) [0, 1, 2, 3, 4, 5, 6, 7, 8, 9, 10, 11, 12, 13] rfl
            have hDc := hD.sub (ws' := x_Mod ad cs m_thrown_20 m_kind m_steps m_size m_ran m_parts m_taken m_lacked m_decodings_20 m_failures_20 m_at_20 m_end_20 m_many_20 m_wrong_20 m_bytes m_heads m_numbers m_codes m_sizes m_guessed m_results_20 m_values_20 m_states_20 m_came_20 m_boxes_20 m_single_20 m_rows_20) [0, 1, 2, 3, 4, 5, 6, 7, 8, 9, 10, 11, 12, 13] (by decide) rfl
            have hFc := va_free (wc := x_Mod ad cs m_thrown_20 m_kind m_steps m_size m_ran m_parts m_taken m_lacked m_decodings_20 m_failures_20 m_at_20 m_end_20 m_many_20 m_wrong_20 m_bytes m_heads m_numbers m_codes m_sizes m_guessed m_results_20 m_values_20 m_states_20 m_came_20 m_boxes_20 m_single_20 m_rows_20) hD hS hA [0, 1, 2, 3, 4, 5, 6, 7, 8, 9, 10, 11, 12, 13] rfl
            refine va_calli (va_runV (As := [.int y20_2]) (rest := []) ⟨hx, hb, hml, hown, hB⟩ (c_Mod_open l dC dI tt ad cs H.size N y20_2 m_thrown_20 m_kind m_steps m_size m_ran m_parts m_taken m_lacked m_decodings_20 m_failures_20 m_at_20 m_end_20 m_many_20 m_wrong_20 m_bytes m_heads m_numbers m_codes m_sizes m_guessed m_results_20 m_values_20 m_states_20 m_came_20 m_boxes_20 m_single_20 m_rows_20 o8 ho8) (cwV 1 hB (gV wd_314 wd_312 wd_311 wd_226 wd_313) rfl rfl rfl (by decide +kernel) ⟨Nat.le_of_ble_eq_true rfl, Nat.le_of_ble_eq_true rfl⟩) ⟨PreW_blind, va_recv hKc hPc (ci := 4) (q0 := 0) rfl rfl, PreW_mk hKc hPc hDc hG hS hFc⟩ rfl rfl hl.1 rfl (lv_room (Nat.le_of_ble_eq_true rfl)) d_Mod_decodeAll_37 ⟨Nat.le_of_ble_eq_true rfl, Nat.le_of_ble_eq_true rfl⟩) hS (fun q _ h => hFc q h) hFc (fun r_8 u_8 t H1 locs ht hvm hw hB hz1 hk1 hS => ?_)
            have hw := hw.symm
            subst hw
            obtain ⟨hP1, hK1, hD1⟩ := hB
            rw [ht] at hP1
            obtain ⟨hP, hD⟩ := va_join (wr := pick (x_Mod ad cs m_thrown_20 m_kind m_steps m_size m_ran m_parts m_taken m_lacked m_decodings_20 m_failures_20 m_at_20 m_end_20 m_many_20 m_wrong_20 m_bytes m_heads m_numbers m_codes m_sizes m_guessed m_results_20 m_values_20 m_states_20 m_came_20 m_boxes_20 m_single_20 m_rows_20) []) hP hD [0, 1, 2, 3, 4, 5, 6, 7, 8, 9, 10, 11, 12, 13] [] rfl rfl (by decide) (by decide) hk1 hFc hP1 hD1
            generalize H1 = H at hP hS ⊢
            have hP : va_P (dC, dI) vwCl (x_Mod ad cs m_thrown_20 m_kind m_steps m_size m_ran m_parts m_taken m_lacked o8.2.1 o8.2.2.1 o8.2.2.2.1 o8.2.2.2.2.1 o8.2.2.2.2.2.1 o8.2.2.2.2.2.2.1 m_bytes m_heads m_numbers m_codes m_sizes m_guessed o8.2.2.2.2.2.2.2.1 o8.2.2.2.2.2.2.2.2.1 o8.2.2.2.2.2.2.2.2.2.1 o8.2.2.2.2.2.2.2.2.2.2.1 o8.2.2.2.2.2.2.2.2.2.2.2.1 o8.2.2.2.2.2.2.2.2.2.2.2.2.1 o8.2.2.2.2.2.2.2.2.2.2.2.2.2) H := hP.sub [0, 1, 2, 3, 4, 5, 6, 7, 8, 9, 10, 11, 12, 13] rfl
            have hD : va_D A (x_Mod ad cs m_thrown_20 m_kind m_steps m_size m_ran m_parts m_taken m_lacked o8.2.1 o8.2.2.1 o8.2.2.2.1 o8.2.2.2.2.1 o8.2.2.2.2.2.1 o8.2.2.2.2.2.2.1 m_bytes m_heads m_numbers m_codes m_sizes m_guessed o8.2.2.2.2.2.2.2.1 o8.2.2.2.2.2.2.2.2.1 o8.2.2.2.2.2.2.2.2.2.1 o8.2.2.2.2.2.2.2.2.2.2.1 o8.2.2.2.2.2.2.2.2.2.2.2.1 o8.2.2.2.2.2.2.2.2.2.2.2.2.1 o8.2.2.2.2.2.2.2.2.2.2.2.2.2) := hD.sub [0, 1, 2, 3, 4, 5, 6, 7, 8, 9, 10, 11, 12, 13] (by decide) rfl
            refine lv_if_le (tgt := 49) hx hb d_Mod_decodeAll_40 (by decide) (fun c_9 => ?_) (fun c_9 => ?_)
            · have h := (if_pos c_9).symm.trans h
              refine lv_iload_n hx hb d_Mod_decodeAll_49 rfl (lv_at hl 1 rfl) ?_
              refine lv_istore_n (lv' := [(1, .int y20_1), (0, .ref (ad 0)), (2, .int y20_2)]) hx hb d_Mod_decodeAll_50 rfl hl (by decide) rfl (fun ls hl => ?_)
              refine lv_iinc (v := y20_2 + 1) (lv' := [(2, .int (y20_2 + 1)), (1, .int y20_1), (0, .ref (ad 0))]) hx hb d_Mod_decodeAll_51 hl (k := 2) rfl rfl (by decide) rfl (fun ls hl => ?_)
              refine lv_goto (tgt := 20) hx hb d_Mod_decodeAll_54 (by decide) ?_
              exact ih y20_1 (y20_2 + 1) m_thrown_20 o8.2.1 o8.2.2.1 o8.2.2.2.1 o8.2.2.2.2.1 o8.2.2.2.2.2.1 o8.2.2.2.2.2.2.1 o8.2.2.2.2.2.2.2.1 o8.2.2.2.2.2.2.2.2.1 o8.2.2.2.2.2.2.2.2.2.1 o8.2.2.2.2.2.2.2.2.2.2.1 o8.2.2.2.2.2.2.2.2.2.2.2.1 o8.2.2.2.2.2.2.2.2.2.2.2.2.1 o8.2.2.2.2.2.2.2.2.2.2.2.2.2 H locs ls (lv_sub hl [2, 1, 0] rfl) hP hD hS h
            · have h := (if_neg c_9).symm.trans h
              refine lv_iload_n hx hb d_Mod_decodeAll_43 rfl (lv_at hl 1 rfl) ?_
              refine lv_iconst (v := 1) hx hb d_Mod_decodeAll_44 (by decide) ?_
              refine lv_iadd hx hb d_Mod_decodeAll_45 ?_
              refine lv_goto (tgt := 50) hx hb d_Mod_decodeAll_46 (by decide) ?_
              refine lv_istore_n (lv' := [(1, .int (y20_1 + (1 : Int32))), (0, .ref (ad 0)), (2, .int y20_2)]) hx hb d_Mod_decodeAll_50 rfl hl (by decide) rfl (fun ls hl => ?_)
              refine lv_iinc (v := y20_2 + 1) (lv' := [(2, .int (y20_2 + 1)), (1, .int (y20_1 + (1 : Int32))), (0, .ref (ad 0))]) hx hb d_Mod_decodeAll_51 hl (k := 2) rfl rfl (by decide) rfl (fun ls hl => ?_)
              refine lv_goto (tgt := 20) hx hb d_Mod_decodeAll_54 (by decide) ?_
              exact ih (y20_1 + (1 : Int32)) (y20_2 + 1) m_thrown_20 o8.2.1 o8.2.2.1 o8.2.2.2.1 o8.2.2.2.2.1 o8.2.2.2.2.2.1 o8.2.2.2.2.2.2.1 o8.2.2.2.2.2.2.2.1 o8.2.2.2.2.2.2.2.2.1 o8.2.2.2.2.2.2.2.2.2.1 o8.2.2.2.2.2.2.2.2.2.2.1 o8.2.2.2.2.2.2.2.2.2.2.2.1 o8.2.2.2.2.2.2.2.2.2.2.2.2.1 o8.2.2.2.2.2.2.2.2.2.2.2.2.2 H locs ls (lv_sub hl [2, 1, 0] rfl) hP hD hS h
    exact L20 N (0 : Int32) (0 : Int32) (0 : Int32) m_decodings m_failures m_at m_end m_many m_wrong m_results m_values m_states m_came m_boxes m_single m_rows _ _ ls (lv_sub hl [2, 1, 0] rfl) hP hD hS hs20
def d_Mod_at (N : Nat) (x1 : Int32) (m_thrown : Int32) (m_values : Nat → Int32) (m_states : Nat → Int32) : Option (Int32 × Int32) :=
 if x1 < 0 then some ((0 : Int32), (1 : Int32)) else if (256 : Int32) ≤ x1 then some ((0 : Int32), (1 : Int32)) else gI x1 256 (if (m_states x1.toNatClampNeg) = 0 then some ((-1 : Int32), (0 : Int32)) else some (m_values x1.toNatClampNeg, (0 : Int32)))
abbrev rm_Mod_at : Room := { frames := 0, cells := 0, slots := 0, locals := 0 }
set_option maxHeartbeats 4000000 in
set_option maxRecDepth 100000 in
theorem c_Mod_at (l : Launch) (dC : Nat → ClassId) (dI : Nat → Nat → Nat) (tt : Nat → Nat) (ad : Nat → Nat) (cs : Nat → ClassId) (sz N : Nat) (x1 : Int32) (m_thrown : Int32) (m_kind : Int32) (m_steps : Int32) (m_size : Int32) (m_ran : Int32) (m_parts : Int32) (m_taken : Int32) (m_lacked : Int32) (m_decodings : Int32) (m_failures : Int32) (m_at : Int32) (m_end : Int32) (m_many : Int32) (m_wrong : Int32) (m_bytes : Nat → Int32) (m_heads : Nat → Int32) (m_numbers : Nat → Int32) (m_codes : Nat → Int32) (m_sizes : Nat → Int32) (m_guessed : Nat → Int32) (m_results : Nat → Int32) (m_values : Nat → Int32) (m_states : Nat → Int32) (m_came : Nat → Int32) (m_boxes : Nat → Int32) (m_single : Nat → Int32) (m_rows : Nat → Int32) (out : Int32 × Int32) (h : d_Mod_at N x1 m_thrown m_values m_states = some out) :
    Met l y_Mod_at (w_Mod_at) rm_Mod_at (va_Pc [.ref (ad 0), .int x1] (PreW (dC, dI) [((cs 1), .int), ((cs 2), .int), ((cs 3), .int), ((cs 4), .int), ((cs 5), .int), ((cs 6), .boolean), ((cs 7), .int), ((cs 8), .int), ((cs 9), .int), ((cs 10), .int), ((cs 11), .int), ((cs 12), .int), ((cs 13), .int)] (x_Mod ad cs m_thrown m_kind m_steps m_size m_ran m_parts m_taken m_lacked m_decodings m_failures m_at m_end m_many m_wrong m_bytes m_heads m_numbers m_codes m_sizes m_guessed m_results m_values m_states m_came m_boxes m_single m_rows) sz tt)) (va_Qi (fun (r : Int32) (_ : Unit) => r = out.1) (fun _ => AftW (dC, dI) [((cs 1), .int), ((cs 2), .int), ((cs 3), .int), ((cs 4), .int), ((cs 5), .int), ((cs 6), .boolean), ((cs 7), .int), ((cs 8), .int), ((cs 9), .int), ((cs 10), .int), ((cs 11), .int), ((cs 12), .int), ((cs 13), .int)] (va_A (x_Mod ad cs m_thrown m_kind m_steps m_size m_ran m_parts m_taken m_lacked m_decodings m_failures m_at m_end m_many m_wrong m_bytes m_heads m_numbers m_codes m_sizes m_guessed m_results m_values m_states m_came m_boxes m_single m_rows) sz) (x_Mod ad cs out.2 m_kind m_steps m_size m_ran m_parts m_taken m_lacked m_decodings m_failures m_at m_end m_many m_wrong m_bytes m_heads m_numbers m_codes m_sizes m_guessed m_results m_values m_states m_came m_boxes m_single m_rows)) (va_A (x_Mod ad cs m_thrown m_kind m_steps m_size m_ran m_parts m_taken m_lacked m_decodings m_failures m_at m_end m_many m_wrong m_bytes m_heads m_numbers m_codes m_sizes m_guessed m_results m_values m_states m_came m_boxes m_single m_rows) sz)) 0 0 (va_A (x_Mod ad cs m_thrown m_kind m_steps m_size m_ran m_parts m_taken m_lacked m_decodings m_failures m_at m_end m_many m_wrong m_bytes m_heads m_numbers m_codes m_sizes m_guessed m_results m_values m_states m_came m_boxes m_single m_rows) sz) := by
  refine Met.ofW (cc := k_Mod_at) (maxL := 2) (ret := (some .int)) (by decide) rfl ?_
  intro p e s m args below meth c s₁ B hml hv
  obtain ⟨rfl, hsz, hP, hK, hD0, hG⟩ := hv
  have hx := B.exec
  have hb := B.bytes
  have hr := B.returns
  have hts := atoms_spec (ws := (w_Mod_at)) B.pre
  have hB : ∀ w ∈ BIG, w.before _ s = true := fun w h9 => hts w (List.mem_cons_of_mem _ h9)
  have hown : s.vm.findClass R_Mod = some m.cls := findClass_of_methodNamed B.named
  have hlocks := B.notSynchronized
  subst hsz
  have hD := hD0.self (sz := s.heap.size)
  generalize hAe : va_A (x_Mod ad cs m_thrown m_kind m_steps m_size m_ran m_parts m_taken m_lacked m_decodings m_failures m_at m_end m_many m_wrong m_bytes m_heads m_numbers m_codes m_sizes m_guessed m_results m_values m_states m_came m_boxes m_single m_rows) s.heap.size = A at hD hG ⊢
  have hA : ∀ q : Nat, s.heap.size ≤ q → A q := fun q h => by rw [← hAe]; exact Or.inr h
  have hS : va_S A s.heap s.heap [] := va_S.rf
  have hl := lv_entry ([.ref (ad 0), .int x1]) (n := 2) (Nat.le_of_ble_eq_true rfl)
  rw [lg_entry_eq]
  generalize (lg_sl ([.ref (ad 0), .int x1]) ++ List.replicate (2 - (lg_sl ([.ref (ad 0), .int x1])).length) Slot.unset).toArray = ls at hl ⊢
  have hl : lv_has ls 2 [(0, .ref (ad 0)), (1, .int x1)] := hl
  unfold d_Mod_at at h
  refine lv_aload_n hx hb d_Mod_at_0 rfl (lv_at hl 0 rfl) ?_
  refine lv_iload_n hx hb d_Mod_at_1 rfl (lv_at hl 1 rfl) ?_
  refine lv_if_lt (tgt := 16) hx hb d_Mod_at_2 (by decide) (fun c_1 => ?_) (fun c_1 => ?_)
  · have h := (if_pos c_1).symm.trans h
    refine lv_iconst (v := 1) hx hb d_Mod_at_16 (by decide) ?_
    refine va_put (D := (dC, dI)) (ci := 4) (v := .int (1 : Int32)) (ty := .int) (C := R_Mod) (T := T_Mod) (N := 27) hx hb hB in_Mod ty_Mod tyok_Mod nd_Mod hown hK hP hD hS 0 rfl rfl 0 (by decide) (hB _ wd_218) (fun _ h9 => h9) rfl (by decide +kernel) rfl rfl (Nat.le_of_ble_eq_true rfl) d_Mod_at_17 (fun H locs hP hD hS => ?_)
    have hP : va_P (dC, dI) vwCl (x_Mod ad cs (1 : Int32) m_kind m_steps m_size m_ran m_parts m_taken m_lacked m_decodings m_failures m_at m_end m_many m_wrong m_bytes m_heads m_numbers m_codes m_sizes m_guessed m_results m_values m_states m_came m_boxes m_single m_rows) H := hP
    have hD : va_D A (x_Mod ad cs (1 : Int32) m_kind m_steps m_size m_ran m_parts m_taken m_lacked m_decodings m_failures m_at m_end m_many m_wrong m_bytes m_heads m_numbers m_codes m_sizes m_guessed m_results m_values m_states m_came m_boxes m_single m_rows) := hD
    refine lv_aload_n hx hb d_Mod_at_20 rfl (lv_at hl 0 rfl) ?_
    refine va_get (D := (dC, dI)) (ci := 4) (v := .int (1 : Int32)) (C := R_Mod) (T := T_Mod) (N := 27) hx hb hB in_Mod hown hK hP 0 rfl rfl 0 (by decide) (hB _ wd_218) (fun _ h9 => h9) rfl d_Mod_at_21 ?_
    refine lv_if_le (tgt := 31) hx hb d_Mod_at_24 (by decide) (fun c9 => absurd c9 (by decide)) (fun _ => ?_)
    refine lv_iconst (v := 0) hx hb d_Mod_at_27 (by decide) ?_
    refine lv_goto (tgt := 50) hx hb d_Mod_at_28 (by decide) ?_
    have h := Option.some.inj h
    subst h
    exact W.iret hx hb hr (fun t ht hW => ⟨⟨_, (), rfl, rfl, AftW_mk hK hP hD ht hW⟩, hS.F ht⟩) hS.2.2 d_Mod_at_50
  · have h := (if_neg c_1).symm.trans h
    refine lv_iload_n hx hb d_Mod_at_5 rfl (lv_at hl 1 rfl) ?_
    refine lv_sipush (v := 256) hx hb d_Mod_at_6 (by decide) ?_
    refine lv_icmp_ge (tgt := 16) hx hb d_Mod_at_9 (by decide) (fun c_3 => ?_) (fun c_3 => ?_)
    · have h := (if_pos c_3).symm.trans h
      refine lv_iconst (v := 1) hx hb d_Mod_at_16 (by decide) ?_
      refine va_put (D := (dC, dI)) (ci := 4) (v := .int (1 : Int32)) (ty := .int) (C := R_Mod) (T := T_Mod) (N := 27) hx hb hB in_Mod ty_Mod tyok_Mod nd_Mod hown hK hP hD hS 0 rfl rfl 0 (by decide) (hB _ wd_218) (fun _ h9 => h9) rfl (by decide +kernel) rfl rfl (Nat.le_of_ble_eq_true rfl) d_Mod_at_17 (fun H locs hP hD hS => ?_)
      have hP : va_P (dC, dI) vwCl (x_Mod ad cs (1 : Int32) m_kind m_steps m_size m_ran m_parts m_taken m_lacked m_decodings m_failures m_at m_end m_many m_wrong m_bytes m_heads m_numbers m_codes m_sizes m_guessed m_results m_values m_states m_came m_boxes m_single m_rows) H := hP
      have hD : va_D A (x_Mod ad cs (1 : Int32) m_kind m_steps m_size m_ran m_parts m_taken m_lacked m_decodings m_failures m_at m_end m_many m_wrong m_bytes m_heads m_numbers m_codes m_sizes m_guessed m_results m_values m_states m_came m_boxes m_single m_rows) := hD
      refine lv_aload_n hx hb d_Mod_at_20 rfl (lv_at hl 0 rfl) ?_
      refine va_get (D := (dC, dI)) (ci := 4) (v := .int (1 : Int32)) (C := R_Mod) (T := T_Mod) (N := 27) hx hb hB in_Mod hown hK hP 0 rfl rfl 0 (by decide) (hB _ wd_218) (fun _ h9 => h9) rfl d_Mod_at_21 ?_
      refine lv_if_le (tgt := 31) hx hb d_Mod_at_24 (by decide) (fun c9 => absurd c9 (by decide)) (fun _ => ?_)
      refine lv_iconst (v := 0) hx hb d_Mod_at_27 (by decide) ?_
      refine lv_goto (tgt := 50) hx hb d_Mod_at_28 (by decide) ?_
      have h := Option.some.inj h
      subst h
      exact W.iret hx hb hr (fun t ht hW => ⟨⟨_, (), rfl, rfl, AftW_mk hK hP hD ht hW⟩, hS.F ht⟩) hS.2.2 d_Mod_at_50
    · have h := (if_neg c_3).symm.trans h
      refine lv_iconst (v := 0) hx hb d_Mod_at_12 (by decide) ?_
      refine lv_goto (tgt := 17) hx hb d_Mod_at_13 (by decide) ?_
      refine va_put (D := (dC, dI)) (ci := 4) (v := .int (0 : Int32)) (ty := .int) (C := R_Mod) (T := T_Mod) (N := 27) hx hb hB in_Mod ty_Mod tyok_Mod nd_Mod hown hK hP hD hS 0 rfl rfl 0 (by decide) (hB _ wd_218) (fun _ h9 => h9) rfl (by decide +kernel) rfl rfl (Nat.le_of_ble_eq_true rfl) d_Mod_at_17 (fun H locs hP hD hS => ?_)
      have hP : va_P (dC, dI) vwCl (x_Mod ad cs (0 : Int32) m_kind m_steps m_size m_ran m_parts m_taken m_lacked m_decodings m_failures m_at m_end m_many m_wrong m_bytes m_heads m_numbers m_codes m_sizes m_guessed m_results m_values m_states m_came m_boxes m_single m_rows) H := hP
      have hD : va_D A (x_Mod ad cs (0 : Int32) m_kind m_steps m_size m_ran m_parts m_taken m_lacked m_decodings m_failures m_at m_end m_many m_wrong m_bytes m_heads m_numbers m_codes m_sizes m_guessed m_results m_values m_states m_came m_boxes m_single m_rows) := hD
      refine lv_aload_n hx hb d_Mod_at_20 rfl (lv_at hl 0 rfl) ?_
      refine va_get (D := (dC, dI)) (ci := 4) (v := .int (0 : Int32)) (C := R_Mod) (T := T_Mod) (N := 27) hx hb hB in_Mod hown hK hP 0 rfl rfl 0 (by decide) (hB _ wd_218) (fun _ h9 => h9) rfl d_Mod_at_21 ?_
      refine lv_if_le (tgt := 31) hx hb d_Mod_at_24 (by decide) (fun _ => ?_) (fun c9 => absurd c9 (by decide))
      refine lv_aload_n hx hb d_Mod_at_31 rfl (lv_at hl 0 rfl) ?_
      refine va_get (D := (dC, dI)) (ci := 4) (v := .ref (ad 9)) (C := R_Mod) (T := T_Mod) (N := 27) hx hb hB in_Mod hown hK hP 0 rfl rfl 18 (by decide) (hB _ wd_272) (fun _ h9 => h9) rfl d_Mod_at_32 ?_
      refine lv_iload_n hx hb d_Mod_at_35 rfl (lv_at hl 1 rfl) ?_
      obtain ⟨b_6, h⟩ := gI_some h
      refine va_iald hx hb hK hP 9 8 rfl rfl b_6 d_Mod_at_36 ?_
      refine lv_if_ne (tgt := 44) hx hb d_Mod_at_37 (by decide) (fun c_7 => ?_) (fun c_7 => ?_)
      · have h := (if_neg c_7).symm.trans h
        refine lv_aload_n hx hb d_Mod_at_44 rfl (lv_at hl 0 rfl) ?_
        refine va_get (D := (dC, dI)) (ci := 4) (v := .ref (ad 8)) (C := R_Mod) (T := T_Mod) (N := 27) hx hb hB in_Mod hown hK hP 0 rfl rfl 17 (by decide) (hB _ wd_271) (fun _ h9 => h9) rfl d_Mod_at_45 ?_
        refine lv_iload_n hx hb d_Mod_at_48 rfl (lv_at hl 1 rfl) ?_
        refine va_iald hx hb hK hP 8 7 rfl rfl b_6 d_Mod_at_49 ?_
        have h := Option.some.inj h
        subst h
        exact W.iret hx hb hr (fun t ht hW => ⟨⟨_, (), rfl, rfl, AftW_mk hK hP hD ht hW⟩, hS.F ht⟩) hS.2.2 d_Mod_at_50
      · have h := (if_pos c_7).symm.trans h
        refine lv_iconst (v := (-1)) hx hb d_Mod_at_40 (by decide) ?_
        refine lv_goto (tgt := 50) hx hb d_Mod_at_41 (by decide) ?_
        have h := Option.some.inj h
        subst h
        exact W.iret hx hb hr (fun t ht hW => ⟨⟨_, (), rfl, rfl, AftW_mk hK hP hD ht hW⟩, hS.F ht⟩) hS.2.2 d_Mod_at_50
def d_Mod_state (N : Nat) (x1 : Int32) (m_thrown : Int32) (m_states : Nat → Int32) : Option (Int32 × Int32) :=
 if x1 < 0 then some ((0 : Int32), (1 : Int32)) else if (256 : Int32) ≤ x1 then some ((0 : Int32), (1 : Int32)) else gI x1 256 (some (m_states x1.toNatClampNeg, (0 : Int32)))
abbrev rm_Mod_state : Room := { frames := 0, cells := 0, slots := 0, locals := 0 }
set_option maxHeartbeats 4000000 in
set_option maxRecDepth 100000 in
theorem c_Mod_state (l : Launch) (dC : Nat → ClassId) (dI : Nat → Nat → Nat) (tt : Nat → Nat) (ad : Nat → Nat) (cs : Nat → ClassId) (sz N : Nat) (x1 : Int32) (m_thrown : Int32) (m_kind : Int32) (m_steps : Int32) (m_size : Int32) (m_ran : Int32) (m_parts : Int32) (m_taken : Int32) (m_lacked : Int32) (m_decodings : Int32) (m_failures : Int32) (m_at : Int32) (m_end : Int32) (m_many : Int32) (m_wrong : Int32) (m_bytes : Nat → Int32) (m_heads : Nat → Int32) (m_numbers : Nat → Int32) (m_codes : Nat → Int32) (m_sizes : Nat → Int32) (m_guessed : Nat → Int32) (m_results : Nat → Int32) (m_values : Nat → Int32) (m_states : Nat → Int32) (m_came : Nat → Int32) (m_boxes : Nat → Int32) (m_single : Nat → Int32) (m_rows : Nat → Int32) (out : Int32 × Int32) (h : d_Mod_state N x1 m_thrown m_states = some out) :
    Met l y_Mod_state (w_Mod_state) rm_Mod_state (va_Pc [.ref (ad 0), .int x1] (PreW (dC, dI) [((cs 1), .int), ((cs 2), .int), ((cs 3), .int), ((cs 4), .int), ((cs 5), .int), ((cs 6), .boolean), ((cs 7), .int), ((cs 8), .int), ((cs 9), .int), ((cs 10), .int), ((cs 11), .int), ((cs 12), .int), ((cs 13), .int)] (x_Mod ad cs m_thrown m_kind m_steps m_size m_ran m_parts m_taken m_lacked m_decodings m_failures m_at m_end m_many m_wrong m_bytes m_heads m_numbers m_codes m_sizes m_guessed m_results m_values m_states m_came m_boxes m_single m_rows) sz tt)) (va_Qi (fun (r : Int32) (_ : Unit) => r = out.1) (fun _ => AftW (dC, dI) [((cs 1), .int), ((cs 2), .int), ((cs 3), .int), ((cs 4), .int), ((cs 5), .int), ((cs 6), .boolean), ((cs 7), .int), ((cs 8), .int), ((cs 9), .int), ((cs 10), .int), ((cs 11), .int), ((cs 12), .int), ((cs 13), .int)] (va_A (x_Mod ad cs m_thrown m_kind m_steps m_size m_ran m_parts m_taken m_lacked m_decodings m_failures m_at m_end m_many m_wrong m_bytes m_heads m_numbers m_codes m_sizes m_guessed m_results m_values m_states m_came m_boxes m_single m_rows) sz) (x_Mod ad cs out.2 m_kind m_steps m_size m_ran m_parts m_taken m_lacked m_decodings m_failures m_at m_end m_many m_wrong m_bytes m_heads m_numbers m_codes m_sizes m_guessed m_results m_values m_states m_came m_boxes m_single m_rows)) (va_A (x_Mod ad cs m_thrown m_kind m_steps m_size m_ran m_parts m_taken m_lacked m_decodings m_failures m_at m_end m_many m_wrong m_bytes m_heads m_numbers m_codes m_sizes m_guessed m_results m_values m_states m_came m_boxes m_single m_rows) sz)) 0 0 (va_A (x_Mod ad cs m_thrown m_kind m_steps m_size m_ran m_parts m_taken m_lacked m_decodings m_failures m_at m_end m_many m_wrong m_bytes m_heads m_numbers m_codes m_sizes m_guessed m_results m_values m_states m_came m_boxes m_single m_rows) sz) := by
  refine Met.ofW (cc := k_Mod_state) (maxL := 2) (ret := (some .int)) (by decide) rfl ?_
  intro p e s m args below meth c s₁ B hml hv
  obtain ⟨rfl, hsz, hP, hK, hD0, hG⟩ := hv
  have hx := B.exec
  have hb := B.bytes
  have hr := B.returns
  have hts := atoms_spec (ws := (w_Mod_state)) B.pre
  have hB : ∀ w ∈ BIG, w.before _ s = true := fun w h9 => hts w (List.mem_cons_of_mem _ h9)
  have hown : s.vm.findClass R_Mod = some m.cls := findClass_of_methodNamed B.named
  have hlocks := B.notSynchronized
  subst hsz
  have hD := hD0.self (sz := s.heap.size)
  generalize hAe : va_A (x_Mod ad cs m_thrown m_kind m_steps m_size m_ran m_parts m_taken m_lacked m_decodings m_failures m_at m_end m_many m_wrong m_bytes m_heads m_numbers m_codes m_sizes m_guessed m_results m_values m_states m_came m_boxes m_single m_rows) s.heap.size = A at hD hG ⊢
  have hA : ∀ q : Nat, s.heap.size ≤ q → A q := fun q h => by rw [← hAe]; exact Or.inr h
  have hS : va_S A s.heap s.heap [] := va_S.rf
  have hl := lv_entry ([.ref (ad 0), .int x1]) (n := 2) (Nat.le_of_ble_eq_true rfl)
  rw [lg_entry_eq]
  generalize (lg_sl ([.ref (ad 0), .int x1]) ++ List.replicate (2 - (lg_sl ([.ref (ad 0), .int x1])).length) Slot.unset).toArray = ls at hl ⊢
  have hl : lv_has ls 2 [(0, .ref (ad 0)), (1, .int x1)] := hl
  unfold d_Mod_state at h
  refine lv_aload_n hx hb d_Mod_state_0 rfl (lv_at hl 0 rfl) ?_
  refine lv_iload_n hx hb d_Mod_state_1 rfl (lv_at hl 1 rfl) ?_
  refine lv_if_lt (tgt := 16) hx hb d_Mod_state_2 (by decide) (fun c_1 => ?_) (fun c_1 => ?_)
  · have h := (if_pos c_1).symm.trans h
    refine lv_iconst (v := 1) hx hb d_Mod_state_16 (by decide) ?_
    refine va_put (D := (dC, dI)) (ci := 4) (v := .int (1 : Int32)) (ty := .int) (C := R_Mod) (T := T_Mod) (N := 27) hx hb hB in_Mod ty_Mod tyok_Mod nd_Mod hown hK hP hD hS 0 rfl rfl 0 (by decide) (hB _ wd_218) (fun _ h9 => h9) rfl (by decide +kernel) rfl rfl (Nat.le_of_ble_eq_true rfl) d_Mod_state_17 (fun H locs hP hD hS => ?_)
    have hP : va_P (dC, dI) vwCl (x_Mod ad cs (1 : Int32) m_kind m_steps m_size m_ran m_parts m_taken m_lacked m_decodings m_failures m_at m_end m_many m_wrong m_bytes m_heads m_numbers m_codes m_sizes m_guessed m_results m_values m_states m_came m_boxes m_single m_rows) H := hP
    have hD : va_D A (x_Mod ad cs (1 : Int32) m_kind m_steps m_size m_ran m_parts m_taken m_lacked m_decodings m_failures m_at m_end m_many m_wrong m_bytes m_heads m_numbers m_codes m_sizes m_guessed m_results m_values m_states m_came m_boxes m_single m_rows) := hD
    refine lv_aload_n hx hb d_Mod_state_20 rfl (lv_at hl 0 rfl) ?_
    refine va_get (D := (dC, dI)) (ci := 4) (v := .int (1 : Int32)) (C := R_Mod) (T := T_Mod) (N := 27) hx hb hB in_Mod hown hK hP 0 rfl rfl 0 (by decide) (hB _ wd_218) (fun _ h9 => h9) rfl d_Mod_state_21 ?_
    refine lv_if_le (tgt := 31) hx hb d_Mod_state_24 (by decide) (fun c9 => absurd c9 (by decide)) (fun _ => ?_)
    refine lv_iconst (v := 0) hx hb d_Mod_state_27 (by decide) ?_
    refine lv_goto (tgt := 37) hx hb d_Mod_state_28 (by decide) ?_
    have h := Option.some.inj h
    subst h
    exact W.iret hx hb hr (fun t ht hW => ⟨⟨_, (), rfl, rfl, AftW_mk hK hP hD ht hW⟩, hS.F ht⟩) hS.2.2 d_Mod_state_37
  · have h := (if_neg c_1).symm.trans h
    refine lv_iload_n hx hb d_Mod_state_5 rfl (lv_at hl 1 rfl) ?_
    refine lv_sipush (v := 256) hx hb d_Mod_state_6 (by decide) ?_
    refine lv_icmp_ge (tgt := 16) hx hb d_Mod_state_9 (by decide) (fun c_3 => ?_) (fun c_3 => ?_)
    · have h := (if_pos c_3).symm.trans h
      refine lv_iconst (v := 1) hx hb d_Mod_state_16 (by decide) ?_
      refine va_put (D := (dC, dI)) (ci := 4) (v := .int (1 : Int32)) (ty := .int) (C := R_Mod) (T := T_Mod) (N := 27) hx hb hB in_Mod ty_Mod tyok_Mod nd_Mod hown hK hP hD hS 0 rfl rfl 0 (by decide) (hB _ wd_218) (fun _ h9 => h9) rfl (by decide +kernel) rfl rfl (Nat.le_of_ble_eq_true rfl) d_Mod_state_17 (fun H locs hP hD hS => ?_)
      have hP : va_P (dC, dI) vwCl (x_Mod ad cs (1 : Int32) m_kind m_steps m_size m_ran m_parts m_taken m_lacked m_decodings m_failures m_at m_end m_many m_wrong m_bytes m_heads m_numbers m_codes m_sizes m_guessed m_results m_values m_states m_came m_boxes m_single m_rows) H := hP
      have hD : va_D A (x_Mod ad cs (1 : Int32) m_kind m_steps m_size m_ran m_parts m_taken m_lacked m_decodings m_failures m_at m_end m_many m_wrong m_bytes m_heads m_numbers m_codes m_sizes m_guessed m_results m_values m_states m_came m_boxes m_single m_rows) := hD
      refine lv_aload_n hx hb d_Mod_state_20 rfl (lv_at hl 0 rfl) ?_
      refine va_get (D := (dC, dI)) (ci := 4) (v := .int (1 : Int32)) (C := R_Mod) (T := T_Mod) (N := 27) hx hb hB in_Mod hown hK hP 0 rfl rfl 0 (by decide) (hB _ wd_218) (fun _ h9 => h9) rfl d_Mod_state_21 ?_
      refine lv_if_le (tgt := 31) hx hb d_Mod_state_24 (by decide) (fun c9 => absurd c9 (by decide)) (fun _ => ?_)
      refine lv_iconst (v := 0) hx hb d_Mod_state_27 (by decide) ?_
      refine lv_goto (tgt := 37) hx hb d_Mod_state_28 (by decide) ?_
      have h := Option.some.inj h
      subst h
      exact W.iret hx hb hr (fun t ht hW => ⟨⟨_, (), rfl, rfl, AftW_mk hK hP hD ht hW⟩, hS.F ht⟩) hS.2.2 d_Mod_state_37
    · have h := (if_neg c_3).symm.trans h
      refine lv_iconst (v := 0) hx hb d_Mod_state_12 (by decide) ?_
      refine lv_goto (tgt := 17) hx hb d_Mod_state_13 (by decide) ?_
      refine va_put (D := (dC, dI)) (ci := 4) (v := .int (0 : Int32)) (ty := .int) (C := R_Mod) (T := T_Mod) (N := 27) hx hb hB in_Mod ty_Mod tyok_Mod nd_Mod hown hK hP hD hS 0 rfl rfl 0 (by decide) (hB _ wd_218) (fun _ h9 => h9) rfl (by decide +kernel) rfl rfl (Nat.le_of_ble_eq_true rfl) d_Mod_state_17 (fun H locs hP hD hS => ?_)
      have hP : va_P (dC, dI) vwCl (x_Mod ad cs (0 : Int32) m_kind m_steps m_size m_ran m_parts m_taken m_lacked m_decodings m_failures m_at m_end m_many m_wrong m_bytes m_heads m_numbers m_codes m_sizes m_guessed m_results m_values m_states m_came m_boxes m_single m_rows) H := hP
      have hD : va_D A (x_Mod ad cs (0 : Int32) m_kind m_steps m_size m_ran m_parts m_taken m_lacked m_decodings m_failures m_at m_end m_many m_wrong m_bytes m_heads m_numbers m_codes m_sizes m_guessed m_results m_values m_states m_came m_boxes m_single m_rows) := hD
      refine lv_aload_n hx hb d_Mod_state_20 rfl (lv_at hl 0 rfl) ?_
      refine va_get (D := (dC, dI)) (ci := 4) (v := .int (0 : Int32)) (C := R_Mod) (T := T_Mod) (N := 27) hx hb hB in_Mod hown hK hP 0 rfl rfl 0 (by decide) (hB _ wd_218) (fun _ h9 => h9) rfl d_Mod_state_21 ?_
      refine lv_if_le (tgt := 31) hx hb d_Mod_state_24 (by decide) (fun _ => ?_) (fun c9 => absurd c9 (by decide))
      refine lv_aload_n hx hb d_Mod_state_31 rfl (lv_at hl 0 rfl) ?_
      refine va_get (D := (dC, dI)) (ci := 4) (v := .ref (ad 9)) (C := R_Mod) (T := T_Mod) (N := 27) hx hb hB in_Mod hown hK hP 0 rfl rfl 18 (by decide) (hB _ wd_272) (fun _ h9 => h9) rfl d_Mod_state_32 ?_
      refine lv_iload_n hx hb d_Mod_state_35 rfl (lv_at hl 1 rfl) ?_
      obtain ⟨b_6, h⟩ := gI_some h
      refine va_iald hx hb hK hP 9 8 rfl rfl b_6 d_Mod_state_36 ?_
      have h := Option.some.inj h
      subst h
      exact W.iret hx hb hr (fun t ht hW => ⟨⟨_, (), rfl, rfl, AftW_mk hK hP hD ht hW⟩, hS.F ht⟩) hS.2.2 d_Mod_state_37
def d_Mod_fill_L22 (N : Nat) (y22_1 : Int32) : Nat → Int32 → Int32 → Int32 → (Nat → Int32) → (Nat → Int32) → Option (Int32 × Int32 × (Nat → Int32) × (Nat → Int32))
  | 0, _, _, _, _, _ => none
  | n + 1, y22_2, y22_3, m_thrown_22, m_values_22, m_states_22 => if (256 : Int32) ≤ y22_3 then some (y22_2, m_thrown_22, m_values_22, m_states_22) else if m_thrown_22 = 0 then gI y22_3 256 (if (m_states_22 y22_3.toNatClampNeg) = 0 then if y22_1 = 0 then (d_Mod_meant N y22_3 m_values_22).bind (fun o23009 => d_Mod_fill_L22 N y22_1 n (y22_2 + 1) (y22_3 + 1) m_thrown_22 (upd m_values_22 y22_3.toNatClampNeg o23009) (upd m_states_22 y22_3.toNatClampNeg (3 : Int32))) else if y22_1 = (1 : Int32) then d_Mod_fill_L22 N y22_1 n (y22_2 + 1) (y22_3 + 1) m_thrown_22 (upd m_values_22 y22_3.toNatClampNeg (255 : Int32)) (upd m_states_22 y22_3.toNatClampNeg (3 : Int32)) else if (16 : Int32) ≤ y22_3 then gI (y22_3 - (16 : Int32)) 256 (d_Mod_fill_L22 N y22_1 n (y22_2 + 1) (y22_3 + 1) m_thrown_22 (upd m_values_22 y22_3.toNatClampNeg (m_values_22 (y22_3 - (16 : Int32)).toNatClampNeg)) (upd m_states_22 y22_3.toNatClampNeg (3 : Int32))) else d_Mod_fill_L22 N y22_1 n (y22_2 + 1) (y22_3 + 1) m_thrown_22 (upd m_values_22 y22_3.toNatClampNeg (255 : Int32)) (upd m_states_22 y22_3.toNatClampNeg (3 : Int32)) else if (m_states_22 y22_3.toNatClampNeg) = (3 : Int32) then if y22_1 = 0 then (d_Mod_meant N y22_3 m_values_22).bind (fun o23015 => d_Mod_fill_L22 N y22_1 n (y22_2 + 1) (y22_3 + 1) m_thrown_22 (upd m_values_22 y22_3.toNatClampNeg o23015) (upd m_states_22 y22_3.toNatClampNeg (3 : Int32))) else if y22_1 = (1 : Int32) then d_Mod_fill_L22 N y22_1 n (y22_2 + 1) (y22_3 + 1) m_thrown_22 (upd m_values_22 y22_3.toNatClampNeg (255 : Int32)) (upd m_states_22 y22_3.toNatClampNeg (3 : Int32)) else if (16 : Int32) ≤ y22_3 then gI (y22_3 - (16 : Int32)) 256 (d_Mod_fill_L22 N y22_1 n (y22_2 + 1) (y22_3 + 1) m_thrown_22 (upd m_values_22 y22_3.toNatClampNeg (m_values_22 (y22_3 - (16 : Int32)).toNatClampNeg)) (upd m_states_22 y22_3.toNatClampNeg (3 : Int32))) else d_Mod_fill_L22 N y22_1 n (y22_2 + 1) (y22_3 + 1) m_thrown_22 (upd m_values_22 y22_3.toNatClampNeg (255 : Int32)) (upd m_states_22 y22_3.toNatClampNeg (3 : Int32)) else d_Mod_fill_L22 N y22_1 n y22_2 (y22_3 + 1) m_thrown_22 m_values_22 m_states_22) else some (y22_2, m_thrown_22, m_values_22, m_states_22)
def d_Mod_fill (N : Nat) (x1 : Int32) (m_thrown : Int32) (m_values : Nat → Int32) (m_states : Nat → Int32) : Option (Int32 × Int32 × (Nat → Int32) × (Nat → Int32)) :=
 if x1 < 0 then (d_Mod_fill_L22 N x1 N (0 : Int32) (0 : Int32) (1 : Int32) m_values m_states).bind (fun s22 => some (s22.1, s22.2.1, s22.2.2.1, s22.2.2.2)) else if (2 : Int32) < x1 then (d_Mod_fill_L22 N x1 N (0 : Int32) (0 : Int32) (1 : Int32) m_values m_states).bind (fun s22 => some (s22.1, s22.2.1, s22.2.2.1, s22.2.2.2)) else (d_Mod_fill_L22 N x1 N (0 : Int32) (0 : Int32) (0 : Int32) m_values m_states).bind (fun s22 => some (s22.1, s22.2.1, s22.2.2.1, s22.2.2.2))
abbrev rm_Mod_fill : Room := { frames := 1, cells := 0, slots := 0, locals := 24 }
set_option maxHeartbeats 4000000 in
set_option maxRecDepth 100000 in
theorem c_Mod_fill (l : Launch) (dC : Nat → ClassId) (dI : Nat → Nat → Nat) (tt : Nat → Nat) (ad : Nat → Nat) (cs : Nat → ClassId) (sz N : Nat) (x1 : Int32) (m_thrown : Int32) (m_kind : Int32) (m_steps : Int32) (m_size : Int32) (m_ran : Int32) (m_parts : Int32) (m_taken : Int32) (m_lacked : Int32) (m_decodings : Int32) (m_failures : Int32) (m_at : Int32) (m_end : Int32) (m_many : Int32) (m_wrong : Int32) (m_bytes : Nat → Int32) (m_heads : Nat → Int32) (m_numbers : Nat → Int32) (m_codes : Nat → Int32) (m_sizes : Nat → Int32) (m_guessed : Nat → Int32) (m_results : Nat → Int32) (m_values : Nat → Int32) (m_states : Nat → Int32) (m_came : Nat → Int32) (m_boxes : Nat → Int32) (m_single : Nat → Int32) (m_rows : Nat → Int32) (out : Int32 × Int32 × (Nat → Int32) × (Nat → Int32)) (h : d_Mod_fill N x1 m_thrown m_values m_states = some out) :
    Met l y_Mod_fill (w_Mod_fill) rm_Mod_fill (va_Pc [.ref (ad 0), .int x1] (PreW (dC, dI) [((cs 1), .int), ((cs 2), .int), ((cs 3), .int), ((cs 4), .int), ((cs 5), .int), ((cs 6), .boolean), ((cs 7), .int), ((cs 8), .int), ((cs 9), .int), ((cs 10), .int), ((cs 11), .int), ((cs 12), .int), ((cs 13), .int)] (x_Mod ad cs m_thrown m_kind m_steps m_size m_ran m_parts m_taken m_lacked m_decodings m_failures m_at m_end m_many m_wrong m_bytes m_heads m_numbers m_codes m_sizes m_guessed m_results m_values m_states m_came m_boxes m_single m_rows) sz tt)) (va_Qi (fun (r : Int32) (_ : Unit) => r = out.1) (fun _ => AftW (dC, dI) [((cs 1), .int), ((cs 2), .int), ((cs 3), .int), ((cs 4), .int), ((cs 5), .int), ((cs 6), .boolean), ((cs 7), .int), ((cs 8), .int), ((cs 9), .int), ((cs 10), .int), ((cs 11), .int), ((cs 12), .int), ((cs 13), .int)] (va_A (x_Mod ad cs m_thrown m_kind m_steps m_size m_ran m_parts m_taken m_lacked m_decodings m_failures m_at m_end m_many m_wrong m_bytes m_heads m_numbers m_codes m_sizes m_guessed m_results m_values m_states m_came m_boxes m_single m_rows) sz) (x_Mod ad cs out.2.1 m_kind m_steps m_size m_ran m_parts m_taken m_lacked m_decodings m_failures m_at m_end m_many m_wrong m_bytes m_heads m_numbers m_codes m_sizes m_guessed m_results out.2.2.1 out.2.2.2 m_came m_boxes m_single m_rows)) (va_A (x_Mod ad cs m_thrown m_kind m_steps m_size m_ran m_parts m_taken m_lacked m_decodings m_failures m_at m_end m_many m_wrong m_bytes m_heads m_numbers m_codes m_sizes m_guessed m_results m_values m_states m_came m_boxes m_single m_rows) sz)) 0 0 (va_A (x_Mod ad cs m_thrown m_kind m_steps m_size m_ran m_parts m_taken m_lacked m_decodings m_failures m_at m_end m_many m_wrong m_bytes m_heads m_numbers m_codes m_sizes m_guessed m_results m_values m_states m_came m_boxes m_single m_rows) sz) := by
  refine Met.ofW (cc := k_Mod_fill) (maxL := 4) (ret := (some .int)) (by decide) rfl ?_
  intro p e s m args below meth c s₁ B hml hv
  obtain ⟨rfl, hsz, hP, hK, hD0, hG⟩ := hv
  have hx := B.exec
  have hb := B.bytes
  have hr := B.returns
  have hts := atoms_spec (ws := (w_Mod_fill)) B.pre
  have hB : ∀ w ∈ BIG, w.before _ s = true := fun w h9 => hts w (List.mem_cons_of_mem _ h9)
  have hown : s.vm.findClass R_Mod = some m.cls := findClass_of_methodNamed B.named
  have hlocks := B.notSynchronized
  subst hsz
  have hD := hD0.self (sz := s.heap.size)
  generalize hAe : va_A (x_Mod ad cs m_thrown m_kind m_steps m_size m_ran m_parts m_taken m_lacked m_decodings m_failures m_at m_end m_many m_wrong m_bytes m_heads m_numbers m_codes m_sizes m_guessed m_results m_values m_states m_came m_boxes m_single m_rows) s.heap.size = A at hD hG ⊢
  have hA : ∀ q : Nat, s.heap.size ≤ q → A q := fun q h => by rw [← hAe]; exact Or.inr h
  have hS : va_S A s.heap s.heap [] := va_S.rf
  have hl := lv_entry ([.ref (ad 0), .int x1]) (n := 4) (Nat.le_of_ble_eq_true rfl)
  rw [lg_entry_eq]
  generalize (lg_sl ([.ref (ad 0), .int x1]) ++ List.replicate (4 - (lg_sl ([.ref (ad 0), .int x1])).length) Slot.unset).toArray = ls at hl ⊢
  have hl : lv_has ls 4 [(0, .ref (ad 0)), (1, .int x1)] := hl
  unfold d_Mod_fill at h
  refine lv_aload_n hx hb d_Mod_fill_0 rfl (lv_at hl 0 rfl) ?_
  refine lv_iload_n hx hb d_Mod_fill_1 rfl (lv_at hl 1 rfl) ?_
  refine lv_if_lt (tgt := 14) hx hb d_Mod_fill_2 (by decide) (fun c_1 => ?_) (fun c_1 => ?_)
  · have h := (if_pos c_1).symm.trans h
    refine lv_iconst (v := 1) hx hb d_Mod_fill_14 (by decide) ?_
    refine va_put (D := (dC, dI)) (ci := 4) (v := .int (1 : Int32)) (ty := .int) (C := R_Mod) (T := T_Mod) (N := 27) hx hb hB in_Mod ty_Mod tyok_Mod nd_Mod hown hK hP hD hS 0 rfl rfl 0 (by decide) (hB _ wd_218) (fun _ h9 => h9) rfl (by decide +kernel) rfl rfl (Nat.le_of_ble_eq_true rfl) d_Mod_fill_15 (fun H locs hP hD hS => ?_)
    have hP : va_P (dC, dI) vwCl (x_Mod ad cs (1 : Int32) m_kind m_steps m_size m_ran m_parts m_taken m_lacked m_decodings m_failures m_at m_end m_many m_wrong m_bytes m_heads m_numbers m_codes m_sizes m_guessed m_results m_values m_states m_came m_boxes m_single m_rows) H := hP
    have hD : va_D A (x_Mod ad cs (1 : Int32) m_kind m_steps m_size m_ran m_parts m_taken m_lacked m_decodings m_failures m_at m_end m_many m_wrong m_bytes m_heads m_numbers m_codes m_sizes m_guessed m_results m_values m_states m_came m_boxes m_single m_rows) := hD
    refine lv_iconst (v := 0) hx hb d_Mod_fill_18 (by decide) ?_
    refine lv_istore_n (lv' := [(2, .int (0 : Int32)), (0, .ref (ad 0)), (1, .int x1)]) hx hb d_Mod_fill_19 rfl hl (by decide) rfl (fun ls hl => ?_)
    refine lv_iconst (v := 0) hx hb d_Mod_fill_20 (by decide) ?_
    refine lv_istore_n (lv' := [(3, .int (0 : Int32)), (2, .int (0 : Int32)), (0, .ref (ad 0)), (1, .int x1)]) hx hb d_Mod_fill_21 rfl hl (by decide) rfl (fun ls hl => ?_)
    obtain ⟨s22, hs22, h⟩ := Option.bind_eq_some_iff.mp h
    have X22 : ∀ (H : Heap) (locs : List Loc) (ls : Array Slot), lv_has ls 4 [(2, .int s22.1)] → va_P (dC, dI) vwCl (x_Mod ad cs s22.2.1 m_kind m_steps m_size m_ran m_parts m_taken m_lacked m_decodings m_failures m_at m_end m_many m_wrong m_bytes m_heads m_numbers m_codes m_sizes m_guessed m_results s22.2.2.1 s22.2.2.2 m_came m_boxes m_single m_rows) H → va_D A (x_Mod ad cs s22.2.1 m_kind m_steps m_size m_ran m_parts m_taken m_lacked m_decodings m_failures m_at m_end m_many m_wrong m_bytes m_heads m_numbers m_codes m_sizes m_guessed m_results s22.2.2.1 s22.2.2.2 m_came m_boxes m_single m_rows) → va_S A s.heap H locs → W p l e (headSpec (w_Mod_fill) rm_Mod_fill).room s m ([.ref (ad 0), .int x1] : List Value).toArray below meth c H locs 0 0 (MQ below (va_Qi (fun (r : Int32) (_ : Unit) => r = out.1) (fun _ => AftW (dC, dI) [((cs 1), .int), ((cs 2), .int), ((cs 3), .int), ((cs 4), .int), ((cs 5), .int), ((cs 6), .boolean), ((cs 7), .int), ((cs 8), .int), ((cs 9), .int), ((cs 10), .int), ((cs 11), .int), ((cs 12), .int), ((cs 13), .int)] A (x_Mod ad cs out.2.1 m_kind m_steps m_size m_ran m_parts m_taken m_lacked m_decodings m_failures m_at m_end m_many m_wrong m_bytes m_heads m_numbers m_codes m_sizes m_guessed m_results out.2.2.1 out.2.2.2 m_came m_boxes m_single m_rows)) A) ([.ref (ad 0), .int x1] : List Value).toArray s 0 0 A) (F0 m 115 ls []) := by
      intro H locs ls hl hP hD hS
      refine lv_iload_n hx hb d_Mod_fill_115 rfl (lv_at hl 0 rfl) ?_
      have h := Option.some.inj h
      subst h
      exact W.iret hx hb hr (fun t ht hW => ⟨⟨_, (), rfl, rfl, AftW_mk hK hP hD ht hW⟩, hS.F ht⟩) hS.2.2 d_Mod_fill_116
    have L22 : ∀ (n : Nat) (y22_2 : Int32) (y22_3 : Int32) (m_thrown_22 : Int32) (m_values_22 : Nat → Int32) (m_states_22 : Nat → Int32) (H : Heap) (locs : List Loc) (ls : Array Slot), lv_has ls 4 [(0, .ref (ad 0)), (1, .int x1), (2, .int y22_2), (3, .int y22_3)] → va_P (dC, dI) vwCl (x_Mod ad cs m_thrown_22 m_kind m_steps m_size m_ran m_parts m_taken m_lacked m_decodings m_failures m_at m_end m_many m_wrong m_bytes m_heads m_numbers m_codes m_sizes m_guessed m_results m_values_22 m_states_22 m_came m_boxes m_single m_rows) H → va_D A (x_Mod ad cs m_thrown_22 m_kind m_steps m_size m_ran m_parts m_taken m_lacked m_decodings m_failures m_at m_end m_many m_wrong m_bytes m_heads m_numbers m_codes m_sizes m_guessed m_results m_values_22 m_states_22 m_came m_boxes m_single m_rows) → va_S A s.heap H locs → d_Mod_fill_L22 N x1 n y22_2 y22_3 m_thrown_22 m_values_22 m_states_22 = some s22 → W p l e (headSpec (w_Mod_fill) rm_Mod_fill).room s m ([.ref (ad 0), .int x1] : List Value).toArray below meth c H locs 0 0 (MQ below (va_Qi (fun (r : Int32) (_ : Unit) => r = out.1) (fun _ => AftW (dC, dI) [((cs 1), .int), ((cs 2), .int), ((cs 3), .int), ((cs 4), .int), ((cs 5), .int), ((cs 6), .boolean), ((cs 7), .int), ((cs 8), .int), ((cs 9), .int), ((cs 10), .int), ((cs 11), .int), ((cs 12), .int), ((cs 13), .int)] A (x_Mod ad cs out.2.1 m_kind m_steps m_size m_ran m_parts m_taken m_lacked m_decodings m_failures m_at m_end m_many m_wrong m_bytes m_heads m_numbers m_codes m_sizes m_guessed m_results out.2.2.1 out.2.2.2 m_came m_boxes m_single m_rows)) A) ([.ref (ad 0), .int x1] : List Value).toArray s 0 0 A) (F0 m 22 ls []) := by
      intro n
      induction n with
      | zero =>
        intro y22_2 y22_3 m_thrown_22 m_values_22 m_states_22 H locs ls hl hP hD hS h
        rw [d_Mod_fill_L22] at h
        cases h
      | succ n ih =>
        intro y22_2 y22_3 m_thrown_22 m_values_22 m_states_22 H locs ls hl hP hD hS h
        rw [d_Mod_fill_L22] at h
        refine lv_iload_n hx hb d_Mod_fill_22 rfl (lv_at hl 3 rfl) ?_
        refine lv_sipush (v := 256) hx hb d_Mod_fill_23 (by decide) ?_
        refine lv_icmp_ge (tgt := 115) hx hb d_Mod_fill_26 (by decide) (fun c_2 => ?_) (fun c_2 => ?_)
        · have h := (if_pos c_2).symm.trans h
          have h := Option.some.inj h
          subst h
          exact X22 H locs ls (lv_sub hl [2] rfl) hP hD hS
        · have h := (if_neg c_2).symm.trans h
          refine lv_aload_n hx hb d_Mod_fill_29 rfl (lv_at hl 0 rfl) ?_
          refine va_get (D := (dC, dI)) (ci := 4) (v := .int m_thrown_22) (C := R_Mod) (T := T_Mod) (N := 27) hx hb hB in_Mod hown hK hP 0 rfl rfl 0 (by decide) (hB _ wd_218) (fun _ h9 => h9) rfl d_Mod_fill_30 ?_
          refine lv_if_ne (tgt := 115) hx hb d_Mod_fill_33 (by decide) (fun c_3 => ?_) (fun c_3 => ?_)
          · have h := (if_neg c_3).symm.trans h
            have h := Option.some.inj h
            subst h
            exact X22 H locs ls (lv_sub hl [2] rfl) hP hD hS
          · have h := (if_pos c_3).symm.trans h
            refine lv_aload_n hx hb d_Mod_fill_36 rfl (lv_at hl 0 rfl) ?_
            refine va_get (D := (dC, dI)) (ci := 4) (v := .ref (ad 9)) (C := R_Mod) (T := T_Mod) (N := 27) hx hb hB in_Mod hown hK hP 0 rfl rfl 18 (by decide) (hB _ wd_272) (fun _ h9 => h9) rfl d_Mod_fill_37 ?_
            refine lv_iload_n hx hb d_Mod_fill_40 rfl (lv_at hl 3 rfl) ?_
            obtain ⟨b_4, h⟩ := gI_some h
            refine va_iald hx hb hK hP 9 8 rfl rfl b_4 d_Mod_fill_41 ?_
            refine lv_if_eq (tgt := 55) hx hb d_Mod_fill_42 (by decide) (fun c_5 => ?_) (fun c_5 => ?_)
            · have h := (if_pos c_5).symm.trans h
              refine lv_aload_n hx hb d_Mod_fill_55 rfl (lv_at hl 0 rfl) ?_
              refine va_get (D := (dC, dI)) (ci := 4) (v := .ref (ad 8)) (C := R_Mod) (T := T_Mod) (N := 27) hx hb hB in_Mod hown hK hP 0 rfl rfl 17 (by decide) (hB _ wd_271) (fun _ h9 => h9) rfl d_Mod_fill_56 ?_
              refine lv_iload_n hx hb d_Mod_fill_59 rfl (lv_at hl 3 rfl) ?_
              refine lv_iload_n hx hb d_Mod_fill_60 rfl (lv_at hl 1 rfl) ?_
              refine lv_if_ne (tgt := 72) hx hb d_Mod_fill_61 (by decide) (fun c_6 => ?_) (fun c_6 => ?_)
              · have h := (if_neg c_6).symm.trans h
                refine lv_iload_n hx hb d_Mod_fill_72 rfl (lv_at hl 1 rfl) ?_
                refine lv_iconst (v := 1) hx hb d_Mod_fill_73 (by decide) ?_
                refine lv_icmp_eq (tgt := 83) hx hb d_Mod_fill_74 (by decide) (fun c_7 => ?_) (fun c_7 => ?_)
                · have h := (if_pos c_7).symm.trans h
                  refine lv_sipush (v := 255) hx hb d_Mod_fill_83 (by decide) ?_
                  refine lv_goto (tgt := 98) hx hb d_Mod_fill_86 (by decide) ?_
                  refine va_iast hx hb hK hP hD hS 8 7 rfl rfl b_4 d_Mod_fill_98 (fun H locs hP hD hS => ?_)
                  have hP : va_P (dC, dI) vwCl (x_Mod ad cs m_thrown_22 m_kind m_steps m_size m_ran m_parts m_taken m_lacked m_decodings m_failures m_at m_end m_many m_wrong m_bytes m_heads m_numbers m_codes m_sizes m_guessed m_results (upd m_values_22 y22_3.toNatClampNeg (255 : Int32)) m_states_22 m_came m_boxes m_single m_rows) H := hP
                  have hD : va_D A (x_Mod ad cs m_thrown_22 m_kind m_steps m_size m_ran m_parts m_taken m_lacked m_decodings m_failures m_at m_end m_many m_wrong m_bytes m_heads m_numbers m_codes m_sizes m_guessed m_results (upd m_values_22 y22_3.toNatClampNeg (255 : Int32)) m_states_22 m_came m_boxes m_single m_rows) := hD
                  refine lv_aload_n hx hb d_Mod_fill_99 rfl (lv_at hl 0 rfl) ?_
                  refine va_get (D := (dC, dI)) (ci := 4) (v := .ref (ad 9)) (C := R_Mod) (T := T_Mod) (N := 27) hx hb hB in_Mod hown hK hP 0 rfl rfl 18 (by decide) (hB _ wd_272) (fun _ h9 => h9) rfl d_Mod_fill_100 ?_
                  refine lv_iload_n hx hb d_Mod_fill_103 rfl (lv_at hl 3 rfl) ?_
                  refine lv_iconst (v := 3) hx hb d_Mod_fill_104 (by decide) ?_
                  refine va_iast hx hb hK hP hD hS 9 8 rfl rfl b_4 d_Mod_fill_105 (fun H locs hP hD hS => ?_)
                  have hP : va_P (dC, dI) vwCl (x_Mod ad cs m_thrown_22 m_kind m_steps m_size m_ran m_parts m_taken m_lacked m_decodings m_failures m_at m_end m_many m_wrong m_bytes m_heads m_numbers m_codes m_sizes m_guessed m_results (upd m_values_22 y22_3.toNatClampNeg (255 : Int32)) (upd m_states_22 y22_3.toNatClampNeg (3 : Int32)) m_came m_boxes m_single m_rows) H := hP
                  have hD : va_D A (x_Mod ad cs m_thrown_22 m_kind m_steps m_size m_ran m_parts m_taken m_lacked m_decodings m_failures m_at m_end m_many m_wrong m_bytes m_heads m_numbers m_codes m_sizes m_guessed m_results (upd m_values_22 y22_3.toNatClampNeg (255 : Int32)) (upd m_states_22 y22_3.toNatClampNeg (3 : Int32)) m_came m_boxes m_single m_rows) := hD
                  refine lv_iinc (v := y22_2 + 1) (lv' := [(2, .int (y22_2 + 1)), (0, .ref (ad 0)), (1, .int x1), (3, .int y22_3)]) hx hb d_Mod_fill_106 hl (k := 2) rfl rfl (by decide) rfl (fun ls hl => ?_)
                  refine lv_iinc (v := y22_3 + 1) (lv' := [(3, .int (y22_3 + 1)), (2, .int (y22_2 + 1)), (0, .ref (ad 0)), (1, .int x1)]) hx hb d_Mod_fill_109 hl (k := 3) rfl rfl (by decide) rfl (fun ls hl => ?_)
                  refine lv_goto (tgt := 22) hx hb d_Mod_fill_112 (by decide) ?_
                  exact ih (y22_2 + 1) (y22_3 + 1) m_thrown_22 (upd m_values_22 y22_3.toNatClampNeg (255 : Int32)) (upd m_states_22 y22_3.toNatClampNeg (3 : Int32)) H locs ls (lv_sub hl [2, 3, 1, 0] rfl) hP hD hS h
                · have h := (if_neg c_7).symm.trans h
                  refine lv_iload_n hx hb d_Mod_fill_77 rfl (lv_at hl 3 rfl) ?_
                  refine lv_bipush (v := 16) hx hb d_Mod_fill_78 (by decide) ?_
                  refine lv_icmp_ge (tgt := 89) hx hb d_Mod_fill_80 (by decide) (fun c_8 => ?_) (fun c_8 => ?_)
                  · have h := (if_pos c_8).symm.trans h
                    refine lv_aload_n hx hb d_Mod_fill_89 rfl (lv_at hl 0 rfl) ?_
                    refine va_get (D := (dC, dI)) (ci := 4) (v := .ref (ad 8)) (C := R_Mod) (T := T_Mod) (N := 27) hx hb hB in_Mod hown hK hP 0 rfl rfl 17 (by decide) (hB _ wd_271) (fun _ h9 => h9) rfl d_Mod_fill_90 ?_
                    refine lv_iload_n hx hb d_Mod_fill_93 rfl (lv_at hl 3 rfl) ?_
                    refine lv_bipush (v := 16) hx hb d_Mod_fill_94 (by decide) ?_
                    refine lv_isub hx hb d_Mod_fill_96 ?_
                    obtain ⟨b_9, h⟩ := gI_some h
                    refine va_iald hx hb hK hP 8 7 rfl rfl b_9 d_Mod_fill_97 ?_
                    refine va_iast hx hb hK hP hD hS 8 7 rfl rfl b_4 d_Mod_fill_98 (fun H locs hP hD hS => ?_)
                    have hP : va_P (dC, dI) vwCl (x_Mod ad cs m_thrown_22 m_kind m_steps m_size m_ran m_parts m_taken m_lacked m_decodings m_failures m_at m_end m_many m_wrong m_bytes m_heads m_numbers m_codes m_sizes m_guessed m_results (upd m_values_22 y22_3.toNatClampNeg (m_values_22 (y22_3 - (16 : Int32)).toNatClampNeg)) m_states_22 m_came m_boxes m_single m_rows) H := hP
                    have hD : va_D A (x_Mod ad cs m_thrown_22 m_kind m_steps m_size m_ran m_parts m_taken m_lacked m_decodings m_failures m_at m_end m_many m_wrong m_bytes m_heads m_numbers m_codes m_sizes m_guessed m_results (upd m_values_22 y22_3.toNatClampNeg (m_values_22 (y22_3 - (16 : Int32)).toNatClampNeg)) m_states_22 m_came m_boxes m_single m_rows) := hD
                    refine lv_aload_n hx hb d_Mod_fill_99 rfl (lv_at hl 0 rfl) ?_
                    refine va_get (D := (dC, dI)) (ci := 4) (v := .ref (ad 9)) (C := R_Mod) (T := T_Mod) (N := 27) hx hb hB in_Mod hown hK hP 0 rfl rfl 18 (by decide) (hB _ wd_272) (fun _ h9 => h9) rfl d_Mod_fill_100 ?_
                    refine lv_iload_n hx hb d_Mod_fill_103 rfl (lv_at hl 3 rfl) ?_
                    refine lv_iconst (v := 3) hx hb d_Mod_fill_104 (by decide) ?_
                    refine va_iast hx hb hK hP hD hS 9 8 rfl rfl b_4 d_Mod_fill_105 (fun H locs hP hD hS => ?_)
                    have hP : va_P (dC, dI) vwCl (x_Mod ad cs m_thrown_22 m_kind m_steps m_size m_ran m_parts m_taken m_lacked m_decodings m_failures m_at m_end m_many m_wrong m_bytes m_heads m_numbers m_codes m_sizes m_guessed m_results (upd m_values_22 y22_3.toNatClampNeg (m_values_22 (y22_3 - (16 : Int32)).toNatClampNeg)) (upd m_states_22 y22_3.toNatClampNeg (3 : Int32)) m_came m_boxes m_single m_rows) H := hP
                    have hD : va_D A (x_Mod ad cs m_thrown_22 m_kind m_steps m_size m_ran m_parts m_taken m_lacked m_decodings m_failures m_at m_end m_many m_wrong m_bytes m_heads m_numbers m_codes m_sizes m_guessed m_results (upd m_values_22 y22_3.toNatClampNeg (m_values_22 (y22_3 - (16 : Int32)).toNatClampNeg)) (upd m_states_22 y22_3.toNatClampNeg (3 : Int32)) m_came m_boxes m_single m_rows) := hD
                    refine lv_iinc (v := y22_2 + 1) (lv' := [(2, .int (y22_2 + 1)), (0, .ref (ad 0)), (1, .int x1), (3, .int y22_3)]) hx hb d_Mod_fill_106 hl (k := 2) rfl rfl (by decide) rfl (fun ls hl => ?_)
                    refine lv_iinc (v := y22_3 + 1) (lv' := [(3, .int (y22_3 + 1)), (2, .int (y22_2 + 1)), (0, .ref (ad 0)), (1, .int x1)]) hx hb d_Mod_fill_109 hl (k := 3) rfl rfl (by decide) rfl (fun ls hl => ?_)
                    refine lv_goto (tgt := 22) hx hb d_Mod_fill_112 (by decide) ?_
                    exact ih (y22_2 + 1) (y22_3 + 1) m_thrown_22 (upd m_values_22 y22_3.toNatClampNeg (m_values_22 (y22_3 - (16 : Int32)).toNatClampNeg)) (upd m_states_22 y22_3.toNatClampNeg (3 : Int32)) H locs ls (lv_sub hl [2, 3, 1, 0] rfl) hP hD hS h
                  · have h := (if_neg c_8).symm.trans h
                    refine lv_sipush (v := 255) hx hb d_Mod_fill_83 (by decide) ?_
                    refine lv_goto (tgt := 98) hx hb d_Mod_fill_86 (by decide) ?_
                    refine va_iast hx hb hK hP hD hS 8 7 rfl rfl b_4 d_Mod_fill_98 (fun H locs hP hD hS => ?_)
                    have hP : va_P (dC, dI) vwCl (x_Mod ad cs m_thrown_22 m_kind m_steps m_size m_ran m_parts m_taken m_lacked m_decodings m_failures m_at m_end m_many m_wrong m_bytes m_heads m_numbers m_codes m_sizes m_guessed m_results (upd m_values_22 y22_3.toNatClampNeg (255 : Int32)) m_states_22 m_came m_boxes m_single m_rows) H := hP
                    have hD : va_D A (x_Mod ad cs m_thrown_22 m_kind m_steps m_size m_ran m_parts m_taken m_lacked m_decodings m_failures m_at m_end m_many m_wrong m_bytes m_heads m_numbers m_codes m_sizes m_guessed m_results (upd m_values_22 y22_3.toNatClampNeg (255 : Int32)) m_states_22 m_came m_boxes m_single m_rows) := hD
                    refine lv_aload_n hx hb d_Mod_fill_99 rfl (lv_at hl 0 rfl) ?_
                    refine va_get (D := (dC, dI)) (ci := 4) (v := .ref (ad 9)) (C := R_Mod) (T := T_Mod) (N := 27) hx hb hB in_Mod hown hK hP 0 rfl rfl 18 (by decide) (hB _ wd_272) (fun _ h9 => h9) rfl d_Mod_fill_100 ?_
                    refine lv_iload_n hx hb d_Mod_fill_103 rfl (lv_at hl 3 rfl) ?_
                    refine lv_iconst (v := 3) hx hb d_Mod_fill_104 (by decide) ?_
                    refine va_iast hx hb hK hP hD hS 9 8 rfl rfl b_4 d_Mod_fill_105 (fun H locs hP hD hS => ?_)
                    have hP : va_P (dC, dI) vwCl (x_Mod ad cs m_thrown_22 m_kind m_steps m_size m_ran m_parts m_taken m_lacked m_decodings m_failures m_at m_end m_many m_wrong m_bytes m_heads m_numbers m_codes m_sizes m_guessed m_results (upd m_values_22 y22_3.toNatClampNeg (255 : Int32)) (upd m_states_22 y22_3.toNatClampNeg (3 : Int32)) m_came m_boxes m_single m_rows) H := hP
                    have hD : va_D A (x_Mod ad cs m_thrown_22 m_kind m_steps m_size m_ran m_parts m_taken m_lacked m_decodings m_failures m_at m_end m_many m_wrong m_bytes m_heads m_numbers m_codes m_sizes m_guessed m_results (upd m_values_22 y22_3.toNatClampNeg (255 : Int32)) (upd m_states_22 y22_3.toNatClampNeg (3 : Int32)) m_came m_boxes m_single m_rows) := hD
                    refine lv_iinc (v := y22_2 + 1) (lv' := [(2, .int (y22_2 + 1)), (0, .ref (ad 0)), (1, .int x1), (3, .int y22_3)]) hx hb d_Mod_fill_106 hl (k := 2) rfl rfl (by decide) rfl (fun ls hl => ?_)
                    refine lv_iinc (v := y22_3 + 1) (lv' := [(3, .int (y22_3 + 1)), (2, .int (y22_2 + 1)), (0, .ref (ad 0)), (1, .int x1)]) hx hb d_Mod_fill_109 hl (k := 3) rfl rfl (by decide) rfl (fun ls hl => ?_)
                    refine lv_goto (tgt := 22) hx hb d_Mod_fill_112 (by decide) ?_
                    exact ih (y22_2 + 1) (y22_3 + 1) m_thrown_22 (upd m_values_22 y22_3.toNatClampNeg (255 : Int32)) (upd m_states_22 y22_3.toNatClampNeg (3 : Int32)) H locs ls (lv_sub hl [2, 3, 1, 0] rfl) hP hD hS h
              · have h := (if_pos c_6).symm.trans h
                refine lv_aload_n hx hb d_Mod_fill_64 rfl (lv_at hl 0 rfl) ?_
                refine lv_iload_n hx hb d_Mod_fill_65 rfl (lv_at hl 3 rfl) ?_
                obtain ⟨o10, ho10, h⟩ := Option.bind_eq_some_iff.mp h
                have hKc := hK.sub (tys' := [((cs 1), .int), ((cs 2), .int), ((cs 3), .int), ((cs 4), .int), ((cs 5), .int), ((cs 6), .boolean), ((cs 7), .int), ((cs 8), .int), ((cs 9), .int), ((cs 10), .int), ((cs 11), .int), ((cs 12), .int), ((cs 13), .int)]) [0, 1, 2, 3, 4, 5, 6, 7, 8, 9, 10, 11, 12] rfl
                have hPc := hP.sub (ws' := x_Mod ad cs m_thrown_22 m_kind m_steps m_size m_ran m_parts m_taken m_lacked m_decodings m_failures m_at m_end m_many m_wrong m_bytes m_heads m_numbers m_codes m_sizes m_guessed m_results m_values_22 m_states_22 m_came m_boxes m_single m_rows) [0, 1, 2, 3, 4, 5, 6, 7, 8, 9, 10, 11, 12, 13] rfl
                have hDc := hD.sub (ws' := x_Mod ad cs m_thrown_22 m_kind m_steps m_size m_ran m_parts m_taken m_lacked m_decodings m_failures m_at m_end m_many m_wrong m_bytes m_heads m_numbers m_codes m_sizes m_guessed m_results m_values_22 m_states_22 m_came m_boxes m_single m_rows) [0, 1, 2, 3, 4, 5, 6, 7, 8, 9, 10, 11, 12, 13] (by decide) rfl
                have hFc := va_free (wc := x_Mod ad cs m_thrown_22 m_kind m_steps m_size m_ran m_parts m_taken m_lacked m_decodings m_failures m_at m_end m_many m_wrong m_bytes m_heads m_numbers m_codes m_sizes m_guessed m_results m_values_22 m_states_22 m_came m_boxes m_single m_rows) hD hS hA [0, 1, 2, 3, 4, 5, 6, 7, 8, 9, 10, 11, 12, 13] rfl
                refine va_calli (va_runV (As := [.int y22_3]) (rest := [.int y22_3, .ref (ad 8)]) ⟨hx, hb, hml, hown, hB⟩ (c_Mod_meant l dC dI tt ad cs H.size N y22_3 m_thrown_22 m_kind m_steps m_size m_ran m_parts m_taken m_lacked m_decodings m_failures m_at m_end m_many m_wrong m_bytes m_heads m_numbers m_codes m_sizes m_guessed m_results m_values_22 m_states_22 m_came m_boxes m_single m_rows o10 ho10) (cwV 1 hB (gV wd_318 wd_316 wd_315 wd_226 wd_317) rfl rfl rfl (by decide +kernel) ⟨Nat.le_of_ble_eq_true rfl, Nat.le_of_ble_eq_true rfl⟩) ⟨PreW_blind, va_recv hKc hPc (ci := 4) (q0 := 0) rfl rfl, PreW_mk hKc hPc hDc hG hS hFc⟩ rfl rfl hl.1 rfl (lv_room (Nat.le_of_ble_eq_true rfl)) d_Mod_fill_66 ⟨Nat.le_of_ble_eq_true rfl, Nat.le_of_ble_eq_true rfl⟩) hS (fun q _ h => hFc q h) hFc (fun r_10 u_10 t H1 locs ht hvm hw hB hz1 hk1 hS => ?_)
                have hw := hw.symm
                subst hw
                obtain ⟨hP1, hK1, hD1⟩ := hB
                rw [ht] at hP1
                obtain ⟨hP, hD⟩ := va_join (wr := pick (x_Mod ad cs m_thrown_22 m_kind m_steps m_size m_ran m_parts m_taken m_lacked m_decodings m_failures m_at m_end m_many m_wrong m_bytes m_heads m_numbers m_codes m_sizes m_guessed m_results m_values_22 m_states_22 m_came m_boxes m_single m_rows) []) hP hD [0, 1, 2, 3, 4, 5, 6, 7, 8, 9, 10, 11, 12, 13] [] rfl rfl (by decide) (by decide) hk1 hFc hP1 hD1
                generalize H1 = H at hP hS ⊢
                have hP : va_P (dC, dI) vwCl (x_Mod ad cs m_thrown_22 m_kind m_steps m_size m_ran m_parts m_taken m_lacked m_decodings m_failures m_at m_end m_many m_wrong m_bytes m_heads m_numbers m_codes m_sizes m_guessed m_results m_values_22 m_states_22 m_came m_boxes m_single m_rows) H := hP.sub [0, 1, 2, 3, 4, 5, 6, 7, 8, 9, 10, 11, 12, 13] rfl
                have hD : va_D A (x_Mod ad cs m_thrown_22 m_kind m_steps m_size m_ran m_parts m_taken m_lacked m_decodings m_failures m_at m_end m_many m_wrong m_bytes m_heads m_numbers m_codes m_sizes m_guessed m_results m_values_22 m_states_22 m_came m_boxes m_single m_rows) := hD.sub [0, 1, 2, 3, 4, 5, 6, 7, 8, 9, 10, 11, 12, 13] (by decide) rfl
                refine lv_goto (tgt := 98) hx hb d_Mod_fill_69 (by decide) ?_
                refine va_iast hx hb hK hP hD hS 8 7 rfl rfl b_4 d_Mod_fill_98 (fun H locs hP hD hS => ?_)
                have hP : va_P (dC, dI) vwCl (x_Mod ad cs m_thrown_22 m_kind m_steps m_size m_ran m_parts m_taken m_lacked m_decodings m_failures m_at m_end m_many m_wrong m_bytes m_heads m_numbers m_codes m_sizes m_guessed m_results (upd m_values_22 y22_3.toNatClampNeg o10) m_states_22 m_came m_boxes m_single m_rows) H := hP
                have hD : va_D A (x_Mod ad cs m_thrown_22 m_kind m_steps m_size m_ran m_parts m_taken m_lacked m_decodings m_failures m_at m_end m_many m_wrong m_bytes m_heads m_numbers m_codes m_sizes m_guessed m_results (upd m_values_22 y22_3.toNatClampNeg o10) m_states_22 m_came m_boxes m_single m_rows) := hD
                refine lv_aload_n hx hb d_Mod_fill_99 rfl (lv_at hl 0 rfl) ?_
                refine va_get (D := (dC, dI)) (ci := 4) (v := .ref (ad 9)) (C := R_Mod) (T := T_Mod) (N := 27) hx hb hB in_Mod hown hK hP 0 rfl rfl 18 (by decide) (hB _ wd_272) (fun _ h9 => h9) rfl d_Mod_fill_100 ?_
                refine lv_iload_n hx hb d_Mod_fill_103 rfl (lv_at hl 3 rfl) ?_
                refine lv_iconst (v := 3) hx hb d_Mod_fill_104 (by decide) ?_
                refine va_iast hx hb hK hP hD hS 9 8 rfl rfl b_4 d_Mod_fill_105 (fun H locs hP hD hS => ?_)
                have hP : va_P (dC, dI) vwCl (x_Mod ad cs m_thrown_22 m_kind m_steps m_size m_ran m_parts m_taken m_lacked m_decodings m_failures m_at m_end m_many m_wrong m_bytes m_heads m_numbers m_codes m_sizes m_guessed m_results (upd m_values_22 y22_3.toNatClampNeg o10) (upd m_states_22 y22_3.toNatClampNeg (3 : Int32)) m_came m_boxes m_single m_rows) H := hP
                have hD : va_D A (x_Mod ad cs m_thrown_22 m_kind m_steps m_size m_ran m_parts m_taken m_lacked m_decodings m_failures m_at m_end m_many m_wrong m_bytes m_heads m_numbers m_codes m_sizes m_guessed m_results (upd m_values_22 y22_3.toNatClampNeg o10) (upd m_states_22 y22_3.toNatClampNeg (3 : Int32)) m_came m_boxes m_single m_rows) := hD
                refine lv_iinc (v := y22_2 + 1) (lv' := [(2, .int (y22_2 + 1)), (0, .ref (ad 0)), (1, .int x1), (3, .int y22_3)]) hx hb d_Mod_fill_106 hl (k := 2) rfl rfl (by decide) rfl (fun ls hl => ?_)
                refine lv_iinc (v := y22_3 + 1) (lv' := [(3, .int (y22_3 + 1)), (2, .int (y22_2 + 1)), (0, .ref (ad 0)), (1, .int x1)]) hx hb d_Mod_fill_109 hl (k := 3) rfl rfl (by decide) rfl (fun ls hl => ?_)
                refine lv_goto (tgt := 22) hx hb d_Mod_fill_112 (by decide) ?_
                exact ih (y22_2 + 1) (y22_3 + 1) m_thrown_22 (upd m_values_22 y22_3.toNatClampNeg o10) (upd m_states_22 y22_3.toNatClampNeg (3 : Int32)) H locs ls (lv_sub hl [2, 3, 1, 0] rfl) hP hD hS h
            · have h := (if_neg c_5).symm.trans h
              refine lv_aload_n hx hb d_Mod_fill_45 rfl (lv_at hl 0 rfl) ?_
              refine va_get (D := (dC, dI)) (ci := 4) (v := .ref (ad 9)) (C := R_Mod) (T := T_Mod) (N := 27) hx hb hB in_Mod hown hK hP 0 rfl rfl 18 (by decide) (hB _ wd_272) (fun _ h9 => h9) rfl d_Mod_fill_46 ?_
              refine lv_iload_n hx hb d_Mod_fill_49 rfl (lv_at hl 3 rfl) ?_
              refine va_iald hx hb hK hP 9 8 rfl rfl b_4 d_Mod_fill_50 ?_
              refine lv_iconst (v := 3) hx hb d_Mod_fill_51 (by decide) ?_
              refine lv_icmp_ne (tgt := 109) hx hb d_Mod_fill_52 (by decide) (fun c_11 => ?_) (fun c_11 => ?_)
              · have h := (if_neg c_11).symm.trans h
                refine lv_iinc (v := y22_3 + 1) (lv' := [(3, .int (y22_3 + 1)), (0, .ref (ad 0)), (1, .int x1), (2, .int y22_2)]) hx hb d_Mod_fill_109 hl (k := 3) rfl rfl (by decide) rfl (fun ls hl => ?_)
                refine lv_goto (tgt := 22) hx hb d_Mod_fill_112 (by decide) ?_
                exact ih y22_2 (y22_3 + 1) m_thrown_22 m_values_22 m_states_22 H locs ls (lv_sub hl [1, 2, 3, 0] rfl) hP hD hS h
              · have h := (if_pos c_11).symm.trans h
                refine lv_aload_n hx hb d_Mod_fill_55 rfl (lv_at hl 0 rfl) ?_
                refine va_get (D := (dC, dI)) (ci := 4) (v := .ref (ad 8)) (C := R_Mod) (T := T_Mod) (N := 27) hx hb hB in_Mod hown hK hP 0 rfl rfl 17 (by decide) (hB _ wd_271) (fun _ h9 => h9) rfl d_Mod_fill_56 ?_
                refine lv_iload_n hx hb d_Mod_fill_59 rfl (lv_at hl 3 rfl) ?_
                refine lv_iload_n hx hb d_Mod_fill_60 rfl (lv_at hl 1 rfl) ?_
                refine lv_if_ne (tgt := 72) hx hb d_Mod_fill_61 (by decide) (fun c_12 => ?_) (fun c_12 => ?_)
                · have h := (if_neg c_12).symm.trans h
                  refine lv_iload_n hx hb d_Mod_fill_72 rfl (lv_at hl 1 rfl) ?_
                  refine lv_iconst (v := 1) hx hb d_Mod_fill_73 (by decide) ?_
                  refine lv_icmp_eq (tgt := 83) hx hb d_Mod_fill_74 (by decide) (fun c_13 => ?_) (fun c_13 => ?_)
                  · have h := (if_pos c_13).symm.trans h
                    refine lv_sipush (v := 255) hx hb d_Mod_fill_83 (by decide) ?_
                    refine lv_goto (tgt := 98) hx hb d_Mod_fill_86 (by decide) ?_
                    refine va_iast hx hb hK hP hD hS 8 7 rfl rfl b_4 d_Mod_fill_98 (fun H locs hP hD hS => ?_)
                    have hP : va_P (dC, dI) vwCl (x_Mod ad cs m_thrown_22 m_kind m_steps m_size m_ran m_parts m_taken m_lacked m_decodings m_failures m_at m_end m_many m_wrong m_bytes m_heads m_numbers m_codes m_sizes m_guessed m_results (upd m_values_22 y22_3.toNatClampNeg (255 : Int32)) m_states_22 m_came m_boxes m_single m_rows) H := hP
                    have hD : va_D A (x_Mod ad cs m_thrown_22 m_kind m_steps m_size m_ran m_parts m_taken m_lacked m_decodings m_failures m_at m_end m_many m_wrong m_bytes m_heads m_numbers m_codes m_sizes m_guessed m_results (upd m_values_22 y22_3.toNatClampNeg (255 : Int32)) m_states_22 m_came m_boxes m_single m_rows) := hD
                    refine lv_aload_n hx hb d_Mod_fill_99 rfl (lv_at hl 0 rfl) ?_
                    refine va_get (D := (dC, dI)) (ci := 4) (v := .ref (ad 9)) (C := R_Mod) (T := T_Mod) (N := 27) hx hb hB in_Mod hown hK hP 0 rfl rfl 18 (by decide) (hB _ wd_272) (fun _ h9 => h9) rfl d_Mod_fill_100 ?_
                    refine lv_iload_n hx hb d_Mod_fill_103 rfl (lv_at hl 3 rfl) ?_
                    refine lv_iconst (v := 3) hx hb d_Mod_fill_104 (by decide) ?_
                    refine va_iast hx hb hK hP hD hS 9 8 rfl rfl b_4 d_Mod_fill_105 (fun H locs hP hD hS => ?_)
                    have hP : va_P (dC, dI) vwCl (x_Mod ad cs m_thrown_22 m_kind m_steps m_size m_ran m_parts m_taken m_lacked m_decodings m_failures m_at m_end m_many m_wrong m_bytes m_heads m_numbers m_codes m_sizes m_guessed m_results (upd m_values_22 y22_3.toNatClampNeg (255 : Int32)) (upd m_states_22 y22_3.toNatClampNeg (3 : Int32)) m_came m_boxes m_single m_rows) H := hP
                    have hD : va_D A (x_Mod ad cs m_thrown_22 m_kind m_steps m_size m_ran m_parts m_taken m_lacked m_decodings m_failures m_at m_end m_many m_wrong m_bytes m_heads m_numbers m_codes m_sizes m_guessed m_results (upd m_values_22 y22_3.toNatClampNeg (255 : Int32)) (upd m_states_22 y22_3.toNatClampNeg (3 : Int32)) m_came m_boxes m_single m_rows) := hD
                    refine lv_iinc (v := y22_2 + 1) (lv' := [(2, .int (y22_2 + 1)), (0, .ref (ad 0)), (1, .int x1), (3, .int y22_3)]) hx hb d_Mod_fill_106 hl (k := 2) rfl rfl (by decide) rfl (fun ls hl => ?_)
                    refine lv_iinc (v := y22_3 + 1) (lv' := [(3, .int (y22_3 + 1)), (2, .int (y22_2 + 1)), (0, .ref (ad 0)), (1, .int x1)]) hx hb d_Mod_fill_109 hl (k := 3) rfl rfl (by decide) rfl (fun ls hl => ?_)
                    refine lv_goto (tgt := 22) hx hb d_Mod_fill_112 (by decide) ?_
                    exact ih (y22_2 + 1) (y22_3 + 1) m_thrown_22 (upd m_values_22 y22_3.toNatClampNeg (255 : Int32)) (upd m_states_22 y22_3.toNatClampNeg (3 : Int32)) H locs ls (lv_sub hl [2, 3, 1, 0] rfl) hP hD hS h
                  · have h := (if_neg c_13).symm.trans h
                    refine lv_iload_n hx hb d_Mod_fill_77 rfl (lv_at hl 3 rfl) ?_
                    refine lv_bipush (v := 16) hx hb d_Mod_fill_78 (by decide) ?_
                    refine lv_icmp_ge (tgt := 89) hx hb d_Mod_fill_80 (by decide) (fun c_14 => ?_) (fun c_14 => ?_)
                    · have h := (if_pos c_14).symm.trans h
                      refine lv_aload_n hx hb d_Mod_fill_89 rfl (lv_at hl 0 rfl) ?_
                      refine va_get (D := (dC, dI)) (ci := 4) (v := .ref (ad 8)) (C := R_Mod) (T := T_Mod) (N := 27) hx hb hB in_Mod hown hK hP 0 rfl rfl 17 (by decide) (hB _ wd_271) (fun _ h9 => h9) rfl d_Mod_fill_90 ?_
                      refine lv_iload_n hx hb d_Mod_fill_93 rfl (lv_at hl 3 rfl) ?_
                      refine lv_bipush (v := 16) hx hb d_Mod_fill_94 (by decide) ?_
                      refine lv_isub hx hb d_Mod_fill_96 ?_
                      obtain ⟨b_15, h⟩ := gI_some h
                      refine va_iald hx hb hK hP 8 7 rfl rfl b_15 d_Mod_fill_97 ?_
                      refine va_iast hx hb hK hP hD hS 8 7 rfl rfl b_4 d_Mod_fill_98 (fun H locs hP hD hS => ?_)
                      have hP : va_P (dC, dI) vwCl (x_Mod ad cs m_thrown_22 m_kind m_steps m_size m_ran m_parts m_taken m_lacked m_decodings m_failures m_at m_end m_many m_wrong m_bytes m_heads m_numbers m_codes m_sizes m_guessed m_results (upd m_values_22 y22_3.toNatClampNeg (m_values_22 (y22_3 - (16 : Int32)).toNatClampNeg)) m_states_22 m_came m_boxes m_single m_rows) H := hP
                      have hD : va_D A (x_Mod ad cs m_thrown_22 m_kind m_steps m_size m_ran m_parts m_taken m_lacked m_decodings m_failures m_at m_end m_many m_wrong m_bytes m_heads m_numbers m_codes m_sizes m_guessed m_results (upd m_values_22 y22_3.toNatClampNeg (m_values_22 (y22_3 - (16 : Int32)).toNatClampNeg)) m_states_22 m_came m_boxes m_single m_rows) := hD
                      refine lv_aload_n hx hb d_Mod_fill_99 rfl (lv_at hl 0 rfl) ?_
                      refine va_get (D := (dC, dI)) (ci := 4) (v := .ref (ad 9)) (C := R_Mod) (T := T_Mod) (N := 27) hx hb hB in_Mod hown hK hP 0 rfl rfl 18 (by decide) (hB _ wd_272) (fun _ h9 => h9) rfl d_Mod_fill_100 ?_
                      refine lv_iload_n hx hb d_Mod_fill_103 rfl (lv_at hl 3 rfl) ?_
                      refine lv_iconst (v := 3) hx hb d_Mod_fill_104 (by decide) ?_
                      refine va_iast hx hb hK hP hD hS 9 8 rfl rfl b_4 d_Mod_fill_105 (fun H locs hP hD hS => ?_)
                      have hP : va_P (dC, dI) vwCl (x_Mod ad cs m_thrown_22 m_kind m_steps m_size m_ran m_parts m_taken m_lacked m_decodings m_failures m_at m_end m_many m_wrong m_bytes m_heads m_numbers m_codes m_sizes m_guessed m_results (upd m_values_22 y22_3.toNatClampNeg (m_values_22 (y22_3 - (16 : Int32)).toNatClampNeg)) (upd m_states_22 y22_3.toNatClampNeg (3 : Int32)) m_came m_boxes m_single m_rows) H := hP
                      have hD : va_D A (x_Mod ad cs m_thrown_22 m_kind m_steps m_size m_ran m_parts m_taken m_lacked m_decodings m_failures m_at m_end m_many m_wrong m_bytes m_heads m_numbers m_codes m_sizes m_guessed m_results (upd m_values_22 y22_3.toNatClampNeg (m_values_22 (y22_3 - (16 : Int32)).toNatClampNeg)) (upd m_states_22 y22_3.toNatClampNeg (3 : Int32)) m_came m_boxes m_single m_rows) := hD
                      refine lv_iinc (v := y22_2 + 1) (lv' := [(2, .int (y22_2 + 1)), (0, .ref (ad 0)), (1, .int x1), (3, .int y22_3)]) hx hb d_Mod_fill_106 hl (k := 2) rfl rfl (by decide) rfl (fun ls hl => ?_)
                      refine lv_iinc (v := y22_3 + 1) (lv' := [(3, .int (y22_3 + 1)), (2, .int (y22_2 + 1)), (0, .ref (ad 0)), (1, .int x1)]) hx hb d_Mod_fill_109 hl (k := 3) rfl rfl (by decide) rfl (fun ls hl => ?_)
                      refine lv_goto (tgt := 22) hx hb d_Mod_fill_112 (by decide) ?_
                      exact ih (y22_2 + 1) (y22_3 + 1) m_thrown_22 (upd m_values_22 y22_3.toNatClampNeg (m_values_22 (y22_3 - (16 : Int32)).toNatClampNeg)) (upd m_states_22 y22_3.toNatClampNeg (3 : Int32)) H locs ls (lv_sub hl [2, 3, 1, 0] rfl) hP hD hS h
                    · have h := (if_neg c_14).symm.trans h
                      refine lv_sipush (v := 255) hx hb d_Mod_fill_83 (by decide) ?_
                      refine lv_goto (tgt := 98) hx hb d_Mod_fill_86 (by decide) ?_
                      refine va_iast hx hb hK hP hD hS 8 7 rfl rfl b_4 d_Mod_fill_98 (fun H locs hP hD hS => ?_)
                      have hP : va_P (dC, dI) vwCl (x_Mod ad cs m_thrown_22 m_kind m_steps m_size m_ran m_parts m_taken m_lacked m_decodings m_failures m_at m_end m_many m_wrong m_bytes m_heads m_numbers m_codes m_sizes m_guessed m_results (upd m_values_22 y22_3.toNatClampNeg (255 : Int32)) m_states_22 m_came m_boxes m_single m_rows) H := hP
                      have hD : va_D A (x_Mod ad cs m_thrown_22 m_kind m_steps m_size m_ran m_parts m_taken m_lacked m_decodings m_failures m_at m_end m_many m_wrong m_bytes m_heads m_numbers m_codes m_sizes m_guessed m_results (upd m_values_22 y22_3.toNatClampNeg (255 : Int32)) m_states_22 m_came m_boxes m_single m_rows) := hD
                      refine lv_aload_n hx hb d_Mod_fill_99 rfl (lv_at hl 0 rfl) ?_
                      refine va_get (D := (dC, dI)) (ci := 4) (v := .ref (ad 9)) (C := R_Mod) (T := T_Mod) (N := 27) hx hb hB in_Mod hown hK hP 0 rfl rfl 18 (by decide) (hB _ wd_272) (fun _ h9 => h9) rfl d_Mod_fill_100 ?_
                      refine lv_iload_n hx hb d_Mod_fill_103 rfl (lv_at hl 3 rfl) ?_
                      refine lv_iconst (v := 3) hx hb d_Mod_fill_104 (by decide) ?_
                      refine va_iast hx hb hK hP hD hS 9 8 rfl rfl b_4 d_Mod_fill_105 (fun H locs hP hD hS => ?_)
                      have hP : va_P (dC, dI) vwCl (x_Mod ad cs m_thrown_22 m_kind m_steps m_size m_ran m_parts m_taken m_lacked m_decodings m_failures m_at m_end m_many m_wrong m_bytes m_heads m_numbers m_codes m_sizes m_guessed m_results (upd m_values_22 y22_3.toNatClampNeg (255 : Int32)) (upd m_states_22 y22_3.toNatClampNeg (3 : Int32)) m_came m_boxes m_single m_rows) H := hP
                      have hD : va_D A (x_Mod ad cs m_thrown_22 m_kind m_steps m_size m_ran m_parts m_taken m_lacked m_decodings m_failures m_at m_end m_many m_wrong m_bytes m_heads m_numbers m_codes m_sizes m_guessed m_results (upd m_values_22 y22_3.toNatClampNeg (255 : Int32)) (upd m_states_22 y22_3.toNatClampNeg (3 : Int32)) m_came m_boxes m_single m_rows) := hD
                      refine lv_iinc (v := y22_2 + 1) (lv' := [(2, .int (y22_2 + 1)), (0, .ref (ad 0)), (1, .int x1), (3, .int y22_3)]) hx hb d_Mod_fill_106 hl (k := 2) rfl rfl (by decide) rfl (fun ls hl => ?_)
                      refine lv_iinc (v := y22_3 + 1) (lv' := [(3, .int (y22_3 + 1)), (2, .int (y22_2 + 1)), (0, .ref (ad 0)), (1, .int x1)]) hx hb d_Mod_fill_109 hl (k := 3) rfl rfl (by decide) rfl (fun ls hl => ?_)
                      refine lv_goto (tgt := 22) hx hb d_Mod_fill_112 (by decide) ?_
                      exact ih (y22_2 + 1) (y22_3 + 1) m_thrown_22 (upd m_values_22 y22_3.toNatClampNeg (255 : Int32)) (upd m_states_22 y22_3.toNatClampNeg (3 : Int32)) H locs ls (lv_sub hl [2, 3, 1, 0] rfl) hP hD hS h
                · have h := (if_pos c_12).symm.trans h
                  refine lv_aload_n hx hb d_Mod_fill_64 rfl (lv_at hl 0 rfl) ?_
                  refine lv_iload_n hx hb d_Mod_fill_65 rfl (lv_at hl 3 rfl) ?_
                  obtain ⟨o16, ho16, h⟩ := Option.bind_eq_some_iff.mp h
                  have hKc := hK.sub (tys' := [((cs 1), .int), ((cs 2), .int), ((cs 3), .int), ((cs 4), .int), ((cs 5), .int), ((cs 6), .boolean), ((cs 7), .int), ((cs 8), .int), ((cs 9), .int), ((cs 10), .int), ((cs 11), .int), ((cs 12), .int), ((cs 13), .int)]) [0, 1, 2, 3, 4, 5, 6, 7, 8, 9, 10, 11, 12] rfl
                  have hPc := hP.sub (ws' := x_Mod ad cs m_thrown_22 m_kind m_steps m_size m_ran m_parts m_taken m_lacked m_decodings m_failures m_at m_end m_many m_wrong m_bytes m_heads m_numbers m_codes m_sizes m_guessed m_results m_values_22 m_states_22 m_came m_boxes m_single m_rows) [0, 1, 2, 3, 4, 5, 6, 7, 8, 9, 10, 11, 12, 13] rfl
                  have hDc := hD.sub (ws' := x_Mod ad cs m_thrown_22 m_kind m_steps m_size m_ran m_parts m_taken m_lacked m_decodings m_failures m_at m_end m_many m_wrong m_bytes m_heads m_numbers m_codes m_sizes m_guessed m_results m_values_22 m_states_22 m_came m_boxes m_single m_rows) [0, 1, 2, 3, 4, 5, 6, 7, 8, 9, 10, 11, 12, 13] (by decide) rfl
                  have hFc := va_free (wc := x_Mod ad cs m_thrown_22 m_kind m_steps m_size m_ran m_parts m_taken m_lacked m_decodings m_failures m_at m_end m_many m_wrong m_bytes m_heads m_numbers m_codes m_sizes m_guessed m_results m_values_22 m_states_22 m_came m_boxes m_single m_rows) hD hS hA [0, 1, 2, 3, 4, 5, 6, 7, 8, 9, 10, 11, 12, 13] rfl
                  refine va_calli (va_runV (As := [.int y22_3]) (rest := [.int y22_3, .ref (ad 8)]) ⟨hx, hb, hml, hown, hB⟩ (c_Mod_meant l dC dI tt ad cs H.size N y22_3 m_thrown_22 m_kind m_steps m_size m_ran m_parts m_taken m_lacked m_decodings m_failures m_at m_end m_many m_wrong m_bytes m_heads m_numbers m_codes m_sizes m_guessed m_results m_values_22 m_states_22 m_came m_boxes m_single m_rows o16 ho16) (cwV 1 hB (gV wd_318 wd_316 wd_315 wd_226 wd_317) rfl rfl rfl (by decide +kernel) ⟨Nat.le_of_ble_eq_true rfl, Nat.le_of_ble_eq_true rfl⟩) ⟨PreW_blind, va_recv hKc hPc (ci := 4) (q0 := 0) rfl rfl, PreW_mk hKc hPc hDc hG hS hFc⟩ rfl rfl hl.1 rfl (lv_room (Nat.le_of_ble_eq_true rfl)) d_Mod_fill_66 ⟨Nat.le_of_ble_eq_true rfl, Nat.le_of_ble_eq_true rfl⟩) hS (fun q _ h => hFc q h) hFc (fun r_16 u_16 t H1 locs ht hvm hw hB hz1 hk1 hS => ?_)
                  have hw := hw.symm
                  subst hw
                  obtain ⟨hP1, hK1, hD1⟩ := hB
                  rw [ht] at hP1
                  obtain ⟨hP, hD⟩ := va_join (wr := pick (x_Mod ad cs m_thrown_22 m_kind m_steps m_size m_ran m_parts m_taken m_lacked m_decodings m_failures m_at m_end m_many m_wrong m_bytes m_heads m_numbers m_codes m_sizes m_guessed m_results m_values_22 m_states_22 m_came m_boxes m_single m_rows) []) hP hD [0, 1, 2, 3, 4, 5, 6, 7, 8, 9, 10, 11, 12, 13] [] rfl rfl (by decide) (by decide) hk1 hFc hP1 hD1
                  generalize H1 = H at hP hS ⊢
                  have hP : va_P (dC, dI) vwCl (x_Mod ad cs m_thrown_22 m_kind m_steps m_size m_ran m_parts m_taken m_lacked m_decodings m_failures m_at m_end m_many m_wrong m_bytes m_heads m_numbers m_codes m_sizes m_guessed m_results m_values_22 m_states_22 m_came m_boxes m_single m_rows) H := hP.sub [0, 1, 2, 3, 4, 5, 6, 7, 8, 9, 10, 11, 12, 13] rfl
                  have hD : va_D A (x_Mod ad cs m_thrown_22 m_kind m_steps m_size m_ran m_parts m_taken m_lacked m_decodings m_failures m_at m_end m_many m_wrong m_bytes m_heads m_numbers m_codes m_sizes m_guessed m_results m_values_22 m_states_22 m_came m_boxes m_single m_rows) := hD.sub [0, 1, 2, 3, 4, 5, 6, 7, 8, 9, 10, 11, 12, 13] (by decide) rfl
                  refine lv_goto (tgt := 98) hx hb d_Mod_fill_69 (by decide) ?_
                  refine va_iast hx hb hK hP hD hS 8 7 rfl rfl b_4 d_Mod_fill_98 (fun H locs hP hD hS => ?_)
                  have hP : va_P (dC, dI) vwCl (x_Mod ad cs m_thrown_22 m_kind m_steps m_size m_ran m_parts m_taken m_lacked m_decodings m_failures m_at m_end m_many m_wrong m_bytes m_heads m_numbers m_codes m_sizes m_guessed m_results (upd m_values_22 y22_3.toNatClampNeg o16) m_states_22 m_came m_boxes m_single m_rows) H := hP
                  have hD : va_D A (x_Mod ad cs m_thrown_22 m_kind m_steps m_size m_ran m_parts m_taken m_lacked m_decodings m_failures m_at m_end m_many m_wrong m_bytes m_heads m_numbers m_codes m_sizes m_guessed m_results (upd m_values_22 y22_3.toNatClampNeg o16) m_states_22 m_came m_boxes m_single m_rows) := hD
                  refine lv_aload_n hx hb d_Mod_fill_99 rfl (lv_at hl 0 rfl) ?_
                  refine va_get (D := (dC, dI)) (ci := 4) (v := .ref (ad 9)) (C := R_Mod) (T := T_Mod) (N := 27) hx hb hB in_Mod hown hK hP 0 rfl rfl 18 (by decide) (hB _ wd_272) (fun _ h9 => h9) rfl d_Mod_fill_100 ?_
                  refine lv_iload_n hx hb d_Mod_fill_103 rfl (lv_at hl 3 rfl) ?_
                  refine lv_iconst (v := 3) hx hb d_Mod_fill_104 (by decide) ?_
                  refine va_iast hx hb hK hP hD hS 9 8 rfl rfl b_4 d_Mod_fill_105 (fun H locs hP hD hS => ?_)
                  have hP : va_P (dC, dI) vwCl (x_Mod ad cs m_thrown_22 m_kind m_steps m_size m_ran m_parts m_taken m_lacked m_decodings m_failures m_at m_end m_many m_wrong m_bytes m_heads m_numbers m_codes m_sizes m_guessed m_results (upd m_values_22 y22_3.toNatClampNeg o16) (upd m_states_22 y22_3.toNatClampNeg (3 : Int32)) m_came m_boxes m_single m_rows) H := hP
                  have hD : va_D A (x_Mod ad cs m_thrown_22 m_kind m_steps m_size m_ran m_parts m_taken m_lacked m_decodings m_failures m_at m_end m_many m_wrong m_bytes m_heads m_numbers m_codes m_sizes m_guessed m_results (upd m_values_22 y22_3.toNatClampNeg o16) (upd m_states_22 y22_3.toNatClampNeg (3 : Int32)) m_came m_boxes m_single m_rows) := hD
                  refine lv_iinc (v := y22_2 + 1) (lv' := [(2, .int (y22_2 + 1)), (0, .ref (ad 0)), (1, .int x1), (3, .int y22_3)]) hx hb d_Mod_fill_106 hl (k := 2) rfl rfl (by decide) rfl (fun ls hl => ?_)
                  refine lv_iinc (v := y22_3 + 1) (lv' := [(3, .int (y22_3 + 1)), (2, .int (y22_2 + 1)), (0, .ref (ad 0)), (1, .int x1)]) hx hb d_Mod_fill_109 hl (k := 3) rfl rfl (by decide) rfl (fun ls hl => ?_)
                  refine lv_goto (tgt := 22) hx hb d_Mod_fill_112 (by decide) ?_
                  exact ih (y22_2 + 1) (y22_3 + 1) m_thrown_22 (upd m_values_22 y22_3.toNatClampNeg o16) (upd m_states_22 y22_3.toNatClampNeg (3 : Int32)) H locs ls (lv_sub hl [2, 3, 1, 0] rfl) hP hD hS h
    exact L22 N (0 : Int32) (0 : Int32) (1 : Int32) m_values m_states _ _ ls (lv_sub hl [2, 3, 1, 0] rfl) hP hD hS hs22
  · have h := (if_neg c_1).symm.trans h
    refine lv_iload_n hx hb d_Mod_fill_5 rfl (lv_at hl 1 rfl) ?_
    refine lv_iconst (v := 2) hx hb d_Mod_fill_6 (by decide) ?_
    refine lv_icmp_gt (tgt := 14) hx hb d_Mod_fill_7 (by decide) (fun c_17 => ?_) (fun c_17 => ?_)
    · have h := (if_pos c_17).symm.trans h
      refine lv_iconst (v := 1) hx hb d_Mod_fill_14 (by decide) ?_
      refine va_put (D := (dC, dI)) (ci := 4) (v := .int (1 : Int32)) (ty := .int) (C := R_Mod) (T := T_Mod) (N := 27) hx hb hB in_Mod ty_Mod tyok_Mod nd_Mod hown hK hP hD hS 0 rfl rfl 0 (by decide) (hB _ wd_218) (fun _ h9 => h9) rfl (by decide +kernel) rfl rfl (Nat.le_of_ble_eq_true rfl) d_Mod_fill_15 (fun H locs hP hD hS => ?_)
      have hP : va_P (dC, dI) vwCl (x_Mod ad cs (1 : Int32) m_kind m_steps m_size m_ran m_parts m_taken m_lacked m_decodings m_failures m_at m_end m_many m_wrong m_bytes m_heads m_numbers m_codes m_sizes m_guessed m_results m_values m_states m_came m_boxes m_single m_rows) H := hP
      have hD : va_D A (x_Mod ad cs (1 : Int32) m_kind m_steps m_size m_ran m_parts m_taken m_lacked m_decodings m_failures m_at m_end m_many m_wrong m_bytes m_heads m_numbers m_codes m_sizes m_guessed m_results m_values m_states m_came m_boxes m_single m_rows) := hD
      refine lv_iconst (v := 0) hx hb d_Mod_fill_18 (by decide) ?_
      refine lv_istore_n (lv' := [(2, .int (0 : Int32)), (0, .ref (ad 0)), (1, .int x1)]) hx hb d_Mod_fill_19 rfl hl (by decide) rfl (fun ls hl => ?_)
      refine lv_iconst (v := 0) hx hb d_Mod_fill_20 (by decide) ?_
      refine lv_istore_n (lv' := [(3, .int (0 : Int32)), (2, .int (0 : Int32)), (0, .ref (ad 0)), (1, .int x1)]) hx hb d_Mod_fill_21 rfl hl (by decide) rfl (fun ls hl => ?_)
      obtain ⟨s22, hs22, h⟩ := Option.bind_eq_some_iff.mp h
      have X22 : ∀ (H : Heap) (locs : List Loc) (ls : Array Slot), lv_has ls 4 [(2, .int s22.1)] → va_P (dC, dI) vwCl (x_Mod ad cs s22.2.1 m_kind m_steps m_size m_ran m_parts m_taken m_lacked m_decodings m_failures m_at m_end m_many m_wrong m_bytes m_heads m_numbers m_codes m_sizes m_guessed m_results s22.2.2.1 s22.2.2.2 m_came m_boxes m_single m_rows) H → va_D A (x_Mod ad cs s22.2.1 m_kind m_steps m_size m_ran m_parts m_taken m_lacked m_decodings m_failures m_at m_end m_many m_wrong m_bytes m_heads m_numbers m_codes m_sizes m_guessed m_results s22.2.2.1 s22.2.2.2 m_came m_boxes m_single m_rows) → va_S A s.heap H locs → W p l e (headSpec (w_Mod_fill) rm_Mod_fill).room s m ([.ref (ad 0), .int x1] : List Value).toArray below meth c H locs 0 0 (MQ below (va_Qi (fun (r : Int32) (_ : Unit) => r = out.1) (fun _ => AftW (dC, dI) [((cs 1), .int), ((cs 2), .int), ((cs 3), .int), ((cs 4), .int), ((cs 5), .int), ((cs 6), .boolean), ((cs 7), .int), ((cs 8), .int), ((cs 9), .int), ((cs 10), .int), ((cs 11), .int), ((cs 12), .int), ((cs 13), .int)] A (x_Mod ad cs out.2.1 m_kind m_steps m_size m_ran m_parts m_taken m_lacked m_decodings m_failures m_at m_end m_many m_wrong m_bytes m_heads m_numbers m_codes m_sizes m_guessed m_results out.2.2.1 out.2.2.2 m_came m_boxes m_single m_rows)) A) ([.ref (ad 0), .int x1] : List Value).toArray s 0 0 A) (F0 m 115 ls []) := by
        intro H locs ls hl hP hD hS
        refine lv_iload_n hx hb d_Mod_fill_115 rfl (lv_at hl 0 rfl) ?_
        have h := Option.some.inj h
        subst h
        exact W.iret hx hb hr (fun t ht hW => ⟨⟨_, (), rfl, rfl, AftW_mk hK hP hD ht hW⟩, hS.F ht⟩) hS.2.2 d_Mod_fill_116
      have L22 : ∀ (n : Nat) (y22_2 : Int32) (y22_3 : Int32) (m_thrown_22 : Int32) (m_values_22 : Nat → Int32) (m_states_22 : Nat → Int32) (H : Heap) (locs : List Loc) (ls : Array Slot), lv_has ls 4 [(0, .ref (ad 0)), (1, .int x1), (2, .int y22_2), (3, .int y22_3)] → va_P (dC, dI) vwCl (x_Mod ad cs m_thrown_22 m_kind m_steps m_size m_ran m_parts m_taken m_lacked m_decodings m_failures m_at m_end m_many m_wrong m_bytes m_heads m_numbers m_codes m_sizes m_guessed m_results m_values_22 m_states_22 m_came m_boxes m_single m_rows) H → va_D A (x_Mod ad cs m_thrown_22 m_kind m_steps m_size m_ran m_parts m_taken m_lacked m_decodings m_failures m_at m_end m_many m_wrong m_bytes m_heads m_numbers m_codes m_sizes m_guessed m_results m_values_22 m_states_22 m_came m_boxes m_single m_rows) → va_S A s.heap H locs → d_Mod_fill_L22 N x1 n y22_2 y22_3 m_thrown_22 m_values_22 m_states_22 = some s22 → W p l e (headSpec (w_Mod_fill) rm_Mod_fill).room s m ([.ref (ad 0), .int x1] : List Value).toArray below meth c H locs 0 0 (MQ below (va_Qi (fun (r : Int32) (_ : Unit) => r = out.1) (fun _ => AftW (dC, dI) [((cs 1), .int), ((cs 2), .int), ((cs 3), .int), ((cs 4), .int), ((cs 5), .int), ((cs 6), .boolean), ((cs 7), .int), ((cs 8), .int), ((cs 9), .int), ((cs 10), .int), ((cs 11), .int), ((cs 12), .int), ((cs 13), .int)] A (x_Mod ad cs out.2.1 m_kind m_steps m_size m_ran m_parts m_taken m_lacked m_decodings m_failures m_at m_end m_many m_wrong m_bytes m_heads m_numbers m_codes m_sizes m_guessed m_results out.2.2.1 out.2.2.2 m_came m_boxes m_single m_rows)) A) ([.ref (ad 0), .int x1] : List Value).toArray s 0 0 A) (F0 m 22 ls []) := by
        intro n
        induction n with
        | zero =>
          intro y22_2 y22_3 m_thrown_22 m_values_22 m_states_22 H locs ls hl hP hD hS h
          rw [d_Mod_fill_L22] at h
          cases h
        | succ n ih =>
          intro y22_2 y22_3 m_thrown_22 m_values_22 m_states_22 H locs ls hl hP hD hS h
          rw [d_Mod_fill_L22] at h
          refine lv_iload_n hx hb d_Mod_fill_22 rfl (lv_at hl 3 rfl) ?_
          refine lv_sipush (v := 256) hx hb d_Mod_fill_23 (by decide) ?_
          refine lv_icmp_ge (tgt := 115) hx hb d_Mod_fill_26 (by decide) (fun c_18 => ?_) (fun c_18 => ?_)
          · have h := (if_pos c_18).symm.trans h
            have h := Option.some.inj h
            subst h
            exact X22 H locs ls (lv_sub hl [2] rfl) hP hD hS
          · have h := (if_neg c_18).symm.trans h
            refine lv_aload_n hx hb d_Mod_fill_29 rfl (lv_at hl 0 rfl) ?_
            refine va_get (D := (dC, dI)) (ci := 4) (v := .int m_thrown_22) (C := R_Mod) (T := T_Mod) (N := 27) hx hb hB in_Mod hown hK hP 0 rfl rfl 0 (by decide) (hB _ wd_218) (fun _ h9 => h9) rfl d_Mod_fill_30 ?_
            refine lv_if_ne (tgt := 115) hx hb d_Mod_fill_33 (by decide) (fun c_19 => ?_) (fun c_19 => ?_)
            · have h := (if_neg c_19).symm.trans h
              have h := Option.some.inj h
              subst h
              exact X22 H locs ls (lv_sub hl [2] rfl) hP hD hS
            · have h := (if_pos c_19).symm.trans h
              refine lv_aload_n hx hb d_Mod_fill_36 rfl (lv_at hl 0 rfl) ?_
              refine va_get (D := (dC, dI)) (ci := 4) (v := .ref (ad 9)) (C := R_Mod) (T := T_Mod) (N := 27) hx hb hB in_Mod hown hK hP 0 rfl rfl 18 (by decide) (hB _ wd_272) (fun _ h9 => h9) rfl d_Mod_fill_37 ?_
              refine lv_iload_n hx hb d_Mod_fill_40 rfl (lv_at hl 3 rfl) ?_
              obtain ⟨b_20, h⟩ := gI_some h
              refine va_iald hx hb hK hP 9 8 rfl rfl b_20 d_Mod_fill_41 ?_
              refine lv_if_eq (tgt := 55) hx hb d_Mod_fill_42 (by decide) (fun c_21 => ?_) (fun c_21 => ?_)
              · have h := (if_pos c_21).symm.trans h
                refine lv_aload_n hx hb d_Mod_fill_55 rfl (lv_at hl 0 rfl) ?_
                refine va_get (D := (dC, dI)) (ci := 4) (v := .ref (ad 8)) (C := R_Mod) (T := T_Mod) (N := 27) hx hb hB in_Mod hown hK hP 0 rfl rfl 17 (by decide) (hB _ wd_271) (fun _ h9 => h9) rfl d_Mod_fill_56 ?_
                refine lv_iload_n hx hb d_Mod_fill_59 rfl (lv_at hl 3 rfl) ?_
                refine lv_iload_n hx hb d_Mod_fill_60 rfl (lv_at hl 1 rfl) ?_
                refine lv_if_ne (tgt := 72) hx hb d_Mod_fill_61 (by decide) (fun c_22 => ?_) (fun c_22 => ?_)
                · have h := (if_neg c_22).symm.trans h
                  refine lv_iload_n hx hb d_Mod_fill_72 rfl (lv_at hl 1 rfl) ?_
                  refine lv_iconst (v := 1) hx hb d_Mod_fill_73 (by decide) ?_
                  refine lv_icmp_eq (tgt := 83) hx hb d_Mod_fill_74 (by decide) (fun c_23 => ?_) (fun c_23 => ?_)
                  · have h := (if_pos c_23).symm.trans h
                    refine lv_sipush (v := 255) hx hb d_Mod_fill_83 (by decide) ?_
                    refine lv_goto (tgt := 98) hx hb d_Mod_fill_86 (by decide) ?_
                    refine va_iast hx hb hK hP hD hS 8 7 rfl rfl b_20 d_Mod_fill_98 (fun H locs hP hD hS => ?_)
                    have hP : va_P (dC, dI) vwCl (x_Mod ad cs m_thrown_22 m_kind m_steps m_size m_ran m_parts m_taken m_lacked m_decodings m_failures m_at m_end m_many m_wrong m_bytes m_heads m_numbers m_codes m_sizes m_guessed m_results (upd m_values_22 y22_3.toNatClampNeg (255 : Int32)) m_states_22 m_came m_boxes m_single m_rows) H := hP
                    have hD : va_D A (x_Mod ad cs m_thrown_22 m_kind m_steps m_size m_ran m_parts m_taken m_lacked m_decodings m_failures m_at m_end m_many m_wrong m_bytes m_heads m_numbers m_codes m_sizes m_guessed m_results (upd m_values_22 y22_3.toNatClampNeg (255 : Int32)) m_states_22 m_came m_boxes m_single m_rows) := hD
                    refine lv_aload_n hx hb d_Mod_fill_99 rfl (lv_at hl 0 rfl) ?_
                    refine va_get (D := (dC, dI)) (ci := 4) (v := .ref (ad 9)) (C := R_Mod) (T := T_Mod) (N := 27) hx hb hB in_Mod hown hK hP 0 rfl rfl 18 (by decide) (hB _ wd_272) (fun _ h9 => h9) rfl d_Mod_fill_100 ?_
                    refine lv_iload_n hx hb d_Mod_fill_103 rfl (lv_at hl 3 rfl) ?_
                    refine lv_iconst (v := 3) hx hb d_Mod_fill_104 (by decide) ?_
                    refine va_iast hx hb hK hP hD hS 9 8 rfl rfl b_20 d_Mod_fill_105 (fun H locs hP hD hS => ?_)
                    have hP : va_P (dC, dI) vwCl (x_Mod ad cs m_thrown_22 m_kind m_steps m_size m_ran m_parts m_taken m_lacked m_decodings m_failures m_at m_end m_many m_wrong m_bytes m_heads m_numbers m_codes m_sizes m_guessed m_results (upd m_values_22 y22_3.toNatClampNeg (255 : Int32)) (upd m_states_22 y22_3.toNatClampNeg (3 : Int32)) m_came m_boxes m_single m_rows) H := hP
                    have hD : va_D A (x_Mod ad cs m_thrown_22 m_kind m_steps m_size m_ran m_parts m_taken m_lacked m_decodings m_failures m_at m_end m_many m_wrong m_bytes m_heads m_numbers m_codes m_sizes m_guessed m_results (upd m_values_22 y22_3.toNatClampNeg (255 : Int32)) (upd m_states_22 y22_3.toNatClampNeg (3 : Int32)) m_came m_boxes m_single m_rows) := hD
                    refine lv_iinc (v := y22_2 + 1) (lv' := [(2, .int (y22_2 + 1)), (0, .ref (ad 0)), (1, .int x1), (3, .int y22_3)]) hx hb d_Mod_fill_106 hl (k := 2) rfl rfl (by decide) rfl (fun ls hl => ?_)
                    refine lv_iinc (v := y22_3 + 1) (lv' := [(3, .int (y22_3 + 1)), (2, .int (y22_2 + 1)), (0, .ref (ad 0)), (1, .int x1)]) hx hb d_Mod_fill_109 hl (k := 3) rfl rfl (by decide) rfl (fun ls hl => ?_)
                    refine lv_goto (tgt := 22) hx hb d_Mod_fill_112 (by decide) ?_
                    exact ih (y22_2 + 1) (y22_3 + 1) m_thrown_22 (upd m_values_22 y22_3.toNatClampNeg (255 : Int32)) (upd m_states_22 y22_3.toNatClampNeg (3 : Int32)) H locs ls (lv_sub hl [2, 3, 1, 0] rfl) hP hD hS h
                  · have h := (if_neg c_23).symm.trans h
                    refine lv_iload_n hx hb d_Mod_fill_77 rfl (lv_at hl 3 rfl) ?_
                    refine lv_bipush (v := 16) hx hb d_Mod_fill_78 (by decide) ?_
                    refine lv_icmp_ge (tgt := 89) hx hb d_Mod_fill_80 (by decide) (fun c_24 => ?_) (fun c_24 => ?_)
                    · have h := (if_pos c_24).symm.trans h
                      refine lv_aload_n hx hb d_Mod_fill_89 rfl (lv_at hl 0 rfl) ?_
                      refine va_get (D := (dC, dI)) (ci := 4) (v := .ref (ad 8)) (C := R_Mod) (T := T_Mod) (N := 27) hx hb hB in_Mod hown hK hP 0 rfl rfl 17 (by decide) (hB _ wd_271) (fun _ h9 => h9) rfl d_Mod_fill_90 ?_
                      refine lv_iload_n hx hb d_Mod_fill_93 rfl (lv_at hl 3 rfl) ?_
                      refine lv_bipush (v := 16) hx hb d_Mod_fill_94 (by decide) ?_
                      refine lv_isub hx hb d_Mod_fill_96 ?_
                      obtain ⟨b_25, h⟩ := gI_some h
                      refine va_iald hx hb hK hP 8 7 rfl rfl b_25 d_Mod_fill_97 ?_
                      refine va_iast hx hb hK hP hD hS 8 7 rfl rfl b_20 d_Mod_fill_98 (fun H locs hP hD hS => ?_)
                      have hP : va_P (dC, dI) vwCl (x_Mod ad cs m_thrown_22 m_kind m_steps m_size m_ran m_parts m_taken m_lacked m_decodings m_failures m_at m_end m_many m_wrong m_bytes m_heads m_numbers m_codes m_sizes m_guessed m_results (upd m_values_22 y22_3.toNatClampNeg (m_values_22 (y22_3 - (16 : Int32)).toNatClampNeg)) m_states_22 m_came m_boxes m_single m_rows) H := hP
                      have hD : va_D A (x_Mod ad cs m_thrown_22 m_kind m_steps m_size m_ran m_parts m_taken m_lacked m_decodings m_failures m_at m_end m_many m_wrong m_bytes m_heads m_numbers m_codes m_sizes m_guessed m_results (upd m_values_22 y22_3.toNatClampNeg (m_values_22 (y22_3 - (16 : Int32)).toNatClampNeg)) m_states_22 m_came m_boxes m_single m_rows) := hD
                      refine lv_aload_n hx hb d_Mod_fill_99 rfl (lv_at hl 0 rfl) ?_
                      refine va_get (D := (dC, dI)) (ci := 4) (v := .ref (ad 9)) (C := R_Mod) (T := T_Mod) (N := 27) hx hb hB in_Mod hown hK hP 0 rfl rfl 18 (by decide) (hB _ wd_272) (fun _ h9 => h9) rfl d_Mod_fill_100 ?_
                      refine lv_iload_n hx hb d_Mod_fill_103 rfl (lv_at hl 3 rfl) ?_
                      refine lv_iconst (v := 3) hx hb d_Mod_fill_104 (by decide) ?_
                      refine va_iast hx hb hK hP hD hS 9 8 rfl rfl b_20 d_Mod_fill_105 (fun H locs hP hD hS => ?_)
                      have hP : va_P (dC, dI) vwCl (x_Mod ad cs m_thrown_22 m_kind m_steps m_size m_ran m_parts m_taken m_lacked m_decodings m_failures m_at m_end m_many m_wrong m_bytes m_heads m_numbers m_codes m_sizes m_guessed m_results (upd m_values_22 y22_3.toNatClampNeg (m_values_22 (y22_3 - (16 : Int32)).toNatClampNeg)) (upd m_states_22 y22_3.toNatClampNeg (3 : Int32)) m_came m_boxes m_single m_rows) H := hP
                      have hD : va_D A (x_Mod ad cs m_thrown_22 m_kind m_steps m_size m_ran m_parts m_taken m_lacked m_decodings m_failures m_at m_end m_many m_wrong m_bytes m_heads m_numbers m_codes m_sizes m_guessed m_results (upd m_values_22 y22_3.toNatClampNeg (m_values_22 (y22_3 - (16 : Int32)).toNatClampNeg)) (upd m_states_22 y22_3.toNatClampNeg (3 : Int32)) m_came m_boxes m_single m_rows) := hD
                      refine lv_iinc (v := y22_2 + 1) (lv' := [(2, .int (y22_2 + 1)), (0, .ref (ad 0)), (1, .int x1), (3, .int y22_3)]) hx hb d_Mod_fill_106 hl (k := 2) rfl rfl (by decide) rfl (fun ls hl => ?_)
                      refine lv_iinc (v := y22_3 + 1) (lv' := [(3, .int (y22_3 + 1)), (2, .int (y22_2 + 1)), (0, .ref (ad 0)), (1, .int x1)]) hx hb d_Mod_fill_109 hl (k := 3) rfl rfl (by decide) rfl (fun ls hl => ?_)
                      refine lv_goto (tgt := 22) hx hb d_Mod_fill_112 (by decide) ?_
                      exact ih (y22_2 + 1) (y22_3 + 1) m_thrown_22 (upd m_values_22 y22_3.toNatClampNeg (m_values_22 (y22_3 - (16 : Int32)).toNatClampNeg)) (upd m_states_22 y22_3.toNatClampNeg (3 : Int32)) H locs ls (lv_sub hl [2, 3, 1, 0] rfl) hP hD hS h
                    · have h := (if_neg c_24).symm.trans h
                      refine lv_sipush (v := 255) hx hb d_Mod_fill_83 (by decide) ?_
                      refine lv_goto (tgt := 98) hx hb d_Mod_fill_86 (by decide) ?_
                      refine va_iast hx hb hK hP hD hS 8 7 rfl rfl b_20 d_Mod_fill_98 (fun H locs hP hD hS => ?_)
                      have hP : va_P (dC, dI) vwCl (x_Mod ad cs m_thrown_22 m_kind m_steps m_size m_ran m_parts m_taken m_lacked m_decodings m_failures m_at m_end m_many m_wrong m_bytes m_heads m_numbers m_codes m_sizes m_guessed m_results (upd m_values_22 y22_3.toNatClampNeg (255 : Int32)) m_states_22 m_came m_boxes m_single m_rows) H := hP
                      have hD : va_D A (x_Mod ad cs m_thrown_22 m_kind m_steps m_size m_ran m_parts m_taken m_lacked m_decodings m_failures m_at m_end m_many m_wrong m_bytes m_heads m_numbers m_codes m_sizes m_guessed m_results (upd m_values_22 y22_3.toNatClampNeg (255 : Int32)) m_states_22 m_came m_boxes m_single m_rows) := hD
                      refine lv_aload_n hx hb d_Mod_fill_99 rfl (lv_at hl 0 rfl) ?_
                      refine va_get (D := (dC, dI)) (ci := 4) (v := .ref (ad 9)) (C := R_Mod) (T := T_Mod) (N := 27) hx hb hB in_Mod hown hK hP 0 rfl rfl 18 (by decide) (hB _ wd_272) (fun _ h9 => h9) rfl d_Mod_fill_100 ?_
                      refine lv_iload_n hx hb d_Mod_fill_103 rfl (lv_at hl 3 rfl) ?_
                      refine lv_iconst (v := 3) hx hb d_Mod_fill_104 (by decide) ?_
                      refine va_iast hx hb hK hP hD hS 9 8 rfl rfl b_20 d_Mod_fill_105 (fun H locs hP hD hS => ?_)
                      have hP : va_P (dC, dI) vwCl (x_Mod ad cs m_thrown_22 m_kind m_steps m_size m_ran m_parts m_taken m_lacked m_decodings m_failures m_at m_end m_many m_wrong m_bytes m_heads m_numbers m_codes m_sizes m_guessed m_results (upd m_values_22 y22_3.toNatClampNeg (255 : Int32)) (upd m_states_22 y22_3.toNatClampNeg (3 : Int32)) m_came m_boxes m_single m_rows) H := hP
                      have hD : va_D A (x_Mod ad cs m_thrown_22 m_kind m_steps m_size m_ran m_parts m_taken m_lacked m_decodings m_failures m_at m_end m_many m_wrong m_bytes m_heads m_numbers m_codes m_sizes m_guessed m_results (upd m_values_22 y22_3.toNatClampNeg (255 : Int32)) (upd m_states_22 y22_3.toNatClampNeg (3 : Int32)) m_came m_boxes m_single m_rows) := hD
                      refine lv_iinc (v := y22_2 + 1) (lv' := [(2, .int (y22_2 + 1)), (0, .ref (ad 0)), (1, .int x1), (3, .int y22_3)]) hx hb d_Mod_fill_106 hl (k := 2) rfl rfl (by decide) rfl (fun ls hl => ?_)
                      refine lv_iinc (v := y22_3 + 1) (lv' := [(3, .int (y22_3 + 1)), (2, .int (y22_2 + 1)), (0, .ref (ad 0)), (1, .int x1)]) hx hb d_Mod_fill_109 hl (k := 3) rfl rfl (by decide) rfl (fun ls hl => ?_)
                      refine lv_goto (tgt := 22) hx hb d_Mod_fill_112 (by decide) ?_
                      exact ih (y22_2 + 1) (y22_3 + 1) m_thrown_22 (upd m_values_22 y22_3.toNatClampNeg (255 : Int32)) (upd m_states_22 y22_3.toNatClampNeg (3 : Int32)) H locs ls (lv_sub hl [2, 3, 1, 0] rfl) hP hD hS h
                · have h := (if_pos c_22).symm.trans h
                  refine lv_aload_n hx hb d_Mod_fill_64 rfl (lv_at hl 0 rfl) ?_
                  refine lv_iload_n hx hb d_Mod_fill_65 rfl (lv_at hl 3 rfl) ?_
                  obtain ⟨o26, ho26, h⟩ := Option.bind_eq_some_iff.mp h
                  have hKc := hK.sub (tys' := [((cs 1), .int), ((cs 2), .int), ((cs 3), .int), ((cs 4), .int), ((cs 5), .int), ((cs 6), .boolean), ((cs 7), .int), ((cs 8), .int), ((cs 9), .int), ((cs 10), .int), ((cs 11), .int), ((cs 12), .int), ((cs 13), .int)]) [0, 1, 2, 3, 4, 5, 6, 7, 8, 9, 10, 11, 12] rfl
                  have hPc := hP.sub (ws' := x_Mod ad cs m_thrown_22 m_kind m_steps m_size m_ran m_parts m_taken m_lacked m_decodings m_failures m_at m_end m_many m_wrong m_bytes m_heads m_numbers m_codes m_sizes m_guessed m_results m_values_22 m_states_22 m_came m_boxes m_single m_rows) [0, 1, 2, 3, 4, 5, 6, 7, 8, 9, 10, 11, 12, 13] rfl
                  have hDc := hD.sub (ws' := x_Mod ad cs m_thrown_22 m_kind m_steps m_size m_ran m_parts m_taken m_lacked m_decodings m_failures m_at m_end m_many m_wrong m_bytes m_heads m_numbers m_codes m_sizes m_guessed m_results m_values_22 m_states_22 m_came m_boxes m_single m_rows) [0, 1, 2, 3, 4, 5, 6, 7, 8, 9, 10, 11, 12, 13] (by decide) rfl
                  have hFc := va_free (wc := x_Mod ad cs m_thrown_22 m_kind m_steps m_size m_ran m_parts m_taken m_lacked m_decodings m_failures m_at m_end m_many m_wrong m_bytes m_heads m_numbers m_codes m_sizes m_guessed m_results m_values_22 m_states_22 m_came m_boxes m_single m_rows) hD hS hA [0, 1, 2, 3, 4, 5, 6, 7, 8, 9, 10, 11, 12, 13] rfl
                  refine va_calli (va_runV (As := [.int y22_3]) (rest := [.int y22_3, .ref (ad 8)]) ⟨hx, hb, hml, hown, hB⟩ (c_Mod_meant l dC dI tt ad cs H.size N y22_3 m_thrown_22 m_kind m_steps m_size m_ran m_parts m_taken m_lacked m_decodings m_failures m_at m_end m_many m_wrong m_bytes m_heads m_numbers m_codes m_sizes m_guessed m_results m_values_22 m_states_22 m_came m_boxes m_single m_rows o26 ho26) (cwV 1 hB (gV wd_318 wd_316 wd_315 wd_226 wd_317) rfl rfl rfl (by decide +kernel) ⟨Nat.le_of_ble_eq_true rfl, Nat.le_of_ble_eq_true rfl⟩) ⟨PreW_blind, va_recv hKc hPc (ci := 4) (q0 := 0) rfl rfl, PreW_mk hKc hPc hDc hG hS hFc⟩ rfl rfl hl.1 rfl (lv_room (Nat.le_of_ble_eq_true rfl)) d_Mod_fill_66 ⟨Nat.le_of_ble_eq_true rfl, Nat.le_of_ble_eq_true rfl⟩) hS (fun q _ h => hFc q h) hFc (fun r_26 u_26 t H1 locs ht hvm hw hB hz1 hk1 hS => ?_)
                  have hw := hw.symm
                  subst hw
                  obtain ⟨hP1, hK1, hD1⟩ := hB
                  rw [ht] at hP1
                  obtain ⟨hP, hD⟩ := va_join (wr := pick (x_Mod ad cs m_thrown_22 m_kind m_steps m_size m_ran m_parts m_taken m_lacked m_decodings m_failures m_at m_end m_many m_wrong m_bytes m_heads m_numbers m_codes m_sizes m_guessed m_results m_values_22 m_states_22 m_came m_boxes m_single m_rows) []) hP hD [0, 1, 2, 3, 4, 5, 6, 7, 8, 9, 10, 11, 12, 13] [] rfl rfl (by decide) (by decide) hk1 hFc hP1 hD1
                  generalize H1 = H at hP hS ⊢
                  have hP : va_P (dC, dI) vwCl (x_Mod ad cs m_thrown_22 m_kind m_steps m_size m_ran m_parts m_taken m_lacked m_decodings m_failures m_at m_end m_many m_wrong m_bytes m_heads m_numbers m_codes m_sizes m_guessed m_results m_values_22 m_states_22 m_came m_boxes m_single m_rows) H := hP.sub [0, 1, 2, 3, 4, 5, 6, 7, 8, 9, 10, 11, 12, 13] rfl
                  have hD : va_D A (x_Mod ad cs m_thrown_22 m_kind m_steps m_size m_ran m_parts m_taken m_lacked m_decodings m_failures m_at m_end m_many m_wrong m_bytes m_heads m_numbers m_codes m_sizes m_guessed m_results m_values_22 m_states_22 m_came m_boxes m_single m_rows) := hD.sub [0, 1, 2, 3, 4, 5, 6, 7, 8, 9, 10, 11, 12, 13] (by decide) rfl
                  refine lv_goto (tgt := 98) hx hb d_Mod_fill_69 (by decide) ?_
                  refine va_iast hx hb hK hP hD hS 8 7 rfl rfl b_20 d_Mod_fill_98 (fun H locs hP hD hS => ?_)
                  have hP : va_P (dC, dI) vwCl (x_Mod ad cs m_thrown_22 m_kind m_steps m_size m_ran m_parts m_taken m_lacked m_decodings m_failures m_at m_end m_many m_wrong m_bytes m_heads m_numbers m_codes m_sizes m_guessed m_results (upd m_values_22 y22_3.toNatClampNeg o26) m_states_22 m_came m_boxes m_single m_rows) H := hP
                  have hD : va_D A (x_Mod ad cs m_thrown_22 m_kind m_steps m_size m_ran m_parts m_taken m_lacked m_decodings m_failures m_at m_end m_many m_wrong m_bytes m_heads m_numbers m_codes m_sizes m_guessed m_results (upd m_values_22 y22_3.toNatClampNeg o26) m_states_22 m_came m_boxes m_single m_rows) := hD
                  refine lv_aload_n hx hb d_Mod_fill_99 rfl (lv_at hl 0 rfl) ?_
                  refine va_get (D := (dC, dI)) (ci := 4) (v := .ref (ad 9)) (C := R_Mod) (T := T_Mod) (N := 27) hx hb hB in_Mod hown hK hP 0 rfl rfl 18 (by decide) (hB _ wd_272) (fun _ h9 => h9) rfl d_Mod_fill_100 ?_
                  refine lv_iload_n hx hb d_Mod_fill_103 rfl (lv_at hl 3 rfl) ?_
                  refine lv_iconst (v := 3) hx hb d_Mod_fill_104 (by decide) ?_
                  refine va_iast hx hb hK hP hD hS 9 8 rfl rfl b_20 d_Mod_fill_105 (fun H locs hP hD hS => ?_)
                  have hP : va_P (dC, dI) vwCl (x_Mod ad cs m_thrown_22 m_kind m_steps m_size m_ran m_parts m_taken m_lacked m_decodings m_failures m_at m_end m_many m_wrong m_bytes m_heads m_numbers m_codes m_sizes m_guessed m_results (upd m_values_22 y22_3.toNatClampNeg o26) (upd m_states_22 y22_3.toNatClampNeg (3 : Int32)) m_came m_boxes m_single m_rows) H := hP
                  have hD : va_D A (x_Mod ad cs m_thrown_22 m_kind m_steps m_size m_ran m_parts m_taken m_lacked m_decodings m_failures m_at m_end m_many m_wrong m_bytes m_heads m_numbers m_codes m_sizes m_guessed m_results (upd m_values_22 y22_3.toNatClampNeg o26) (upd m_states_22 y22_3.toNatClampNeg (3 : Int32)) m_came m_boxes m_single m_rows) := hD
                  refine lv_iinc (v := y22_2 + 1) (lv' := [(2, .int (y22_2 + 1)), (0, .ref (ad 0)), (1, .int x1), (3, .int y22_3)]) hx hb d_Mod_fill_106 hl (k := 2) rfl rfl (by decide) rfl (fun ls hl => ?_)
                  refine lv_iinc (v := y22_3 + 1) (lv' := [(3, .int (y22_3 + 1)), (2, .int (y22_2 + 1)), (0, .ref (ad 0)), (1, .int x1)]) hx hb d_Mod_fill_109 hl (k := 3) rfl rfl (by decide) rfl (fun ls hl => ?_)
                  refine lv_goto (tgt := 22) hx hb d_Mod_fill_112 (by decide) ?_
                  exact ih (y22_2 + 1) (y22_3 + 1) m_thrown_22 (upd m_values_22 y22_3.toNatClampNeg o26) (upd m_states_22 y22_3.toNatClampNeg (3 : Int32)) H locs ls (lv_sub hl [2, 3, 1, 0] rfl) hP hD hS h
              · have h := (if_neg c_21).symm.trans h
                refine lv_aload_n hx hb d_Mod_fill_45 rfl (lv_at hl 0 rfl) ?_
                refine va_get (D := (dC, dI)) (ci := 4) (v := .ref (ad 9)) (C := R_Mod) (T := T_Mod) (N := 27) hx hb hB in_Mod hown hK hP 0 rfl rfl 18 (by decide) (hB _ wd_272) (fun _ h9 => h9) rfl d_Mod_fill_46 ?_
                refine lv_iload_n hx hb d_Mod_fill_49 rfl (lv_at hl 3 rfl) ?_
                refine va_iald hx hb hK hP 9 8 rfl rfl b_20 d_Mod_fill_50 ?_
                refine lv_iconst (v := 3) hx hb d_Mod_fill_51 (by decide) ?_
                refine lv_icmp_ne (tgt := 109) hx hb d_Mod_fill_52 (by decide) (fun c_27 => ?_) (fun c_27 => ?_)
                · have h := (if_neg c_27).symm.trans h
                  refine lv_iinc (v := y22_3 + 1) (lv' := [(3, .int (y22_3 + 1)), (0, .ref (ad 0)), (1, .int x1), (2, .int y22_2)]) hx hb d_Mod_fill_109 hl (k := 3) rfl rfl (by decide) rfl (fun ls hl => ?_)
                  refine lv_goto (tgt := 22) hx hb d_Mod_fill_112 (by decide) ?_
                  exact ih y22_2 (y22_3 + 1) m_thrown_22 m_values_22 m_states_22 H locs ls (lv_sub hl [1, 2, 3, 0] rfl) hP hD hS h
                · have h := (if_pos c_27).symm.trans h
                  refine lv_aload_n hx hb d_Mod_fill_55 rfl (lv_at hl 0 rfl) ?_
                  refine va_get (D := (dC, dI)) (ci := 4) (v := .ref (ad 8)) (C := R_Mod) (T := T_Mod) (N := 27) hx hb hB in_Mod hown hK hP 0 rfl rfl 17 (by decide) (hB _ wd_271) (fun _ h9 => h9) rfl d_Mod_fill_56 ?_
                  refine lv_iload_n hx hb d_Mod_fill_59 rfl (lv_at hl 3 rfl) ?_
                  refine lv_iload_n hx hb d_Mod_fill_60 rfl (lv_at hl 1 rfl) ?_
                  refine lv_if_ne (tgt := 72) hx hb d_Mod_fill_61 (by decide) (fun c_28 => ?_) (fun c_28 => ?_)
                  · have h := (if_neg c_28).symm.trans h
                    refine lv_iload_n hx hb d_Mod_fill_72 rfl (lv_at hl 1 rfl) ?_
                    refine lv_iconst (v := 1) hx hb d_Mod_fill_73 (by decide) ?_
                    refine lv_icmp_eq (tgt := 83) hx hb d_Mod_fill_74 (by decide) (fun c_29 => ?_) (fun c_29 => ?_)
                    · have h := (if_pos c_29).symm.trans h
                      refine lv_sipush (v := 255) hx hb d_Mod_fill_83 (by decide) ?_
                      refine lv_goto (tgt := 98) hx hb d_Mod_fill_86 (by decide) ?_
                      refine va_iast hx hb hK hP hD hS 8 7 rfl rfl b_20 d_Mod_fill_98 (fun H locs hP hD hS => ?_)
                      have hP : va_P (dC, dI) vwCl (x_Mod ad cs m_thrown_22 m_kind m_steps m_size m_ran m_parts m_taken m_lacked m_decodings m_failures m_at m_end m_many m_wrong m_bytes m_heads m_numbers m_codes m_sizes m_guessed m_results (upd m_values_22 y22_3.toNatClampNeg (255 : Int32)) m_states_22 m_came m_boxes m_single m_rows) H := hP
                      have hD : va_D A (x_Mod ad cs m_thrown_22 m_kind m_steps m_size m_ran m_parts m_taken m_lacked m_decodings m_failures m_at m_end m_many m_wrong m_bytes m_heads m_numbers m_codes m_sizes m_guessed m_results (upd m_values_22 y22_3.toNatClampNeg (255 : Int32)) m_states_22 m_came m_boxes m_single m_rows) := hD
                      refine lv_aload_n hx hb d_Mod_fill_99 rfl (lv_at hl 0 rfl) ?_
                      refine va_get (D := (dC, dI)) (ci := 4) (v := .ref (ad 9)) (C := R_Mod) (T := T_Mod) (N := 27) hx hb hB in_Mod hown hK hP 0 rfl rfl 18 (by decide) (hB _ wd_272) (fun _ h9 => h9) rfl d_Mod_fill_100 ?_
                      refine lv_iload_n hx hb d_Mod_fill_103 rfl (lv_at hl 3 rfl) ?_
                      refine lv_iconst (v := 3) hx hb d_Mod_fill_104 (by decide) ?_
                      refine va_iast hx hb hK hP hD hS 9 8 rfl rfl b_20 d_Mod_fill_105 (fun H locs hP hD hS => ?_)
                      have hP : va_P (dC, dI) vwCl (x_Mod ad cs m_thrown_22 m_kind m_steps m_size m_ran m_parts m_taken m_lacked m_decodings m_failures m_at m_end m_many m_wrong m_bytes m_heads m_numbers m_codes m_sizes m_guessed m_results (upd m_values_22 y22_3.toNatClampNeg (255 : Int32)) (upd m_states_22 y22_3.toNatClampNeg (3 : Int32)) m_came m_boxes m_single m_rows) H := hP
                      have hD : va_D A (x_Mod ad cs m_thrown_22 m_kind m_steps m_size m_ran m_parts m_taken m_lacked m_decodings m_failures m_at m_end m_many m_wrong m_bytes m_heads m_numbers m_codes m_sizes m_guessed m_results (upd m_values_22 y22_3.toNatClampNeg (255 : Int32)) (upd m_states_22 y22_3.toNatClampNeg (3 : Int32)) m_came m_boxes m_single m_rows) := hD
                      refine lv_iinc (v := y22_2 + 1) (lv' := [(2, .int (y22_2 + 1)), (0, .ref (ad 0)), (1, .int x1), (3, .int y22_3)]) hx hb d_Mod_fill_106 hl (k := 2) rfl rfl (by decide) rfl (fun ls hl => ?_)
                      refine lv_iinc (v := y22_3 + 1) (lv' := [(3, .int (y22_3 + 1)), (2, .int (y22_2 + 1)), (0, .ref (ad 0)), (1, .int x1)]) hx hb d_Mod_fill_109 hl (k := 3) rfl rfl (by decide) rfl (fun ls hl => ?_)
                      refine lv_goto (tgt := 22) hx hb d_Mod_fill_112 (by decide) ?_
                      exact ih (y22_2 + 1) (y22_3 + 1) m_thrown_22 (upd m_values_22 y22_3.toNatClampNeg (255 : Int32)) (upd m_states_22 y22_3.toNatClampNeg (3 : Int32)) H locs ls (lv_sub hl [2, 3, 1, 0] rfl) hP hD hS h
                    · have h := (if_neg c_29).symm.trans h
                      refine lv_iload_n hx hb d_Mod_fill_77 rfl (lv_at hl 3 rfl) ?_
                      refine lv_bipush (v := 16) hx hb d_Mod_fill_78 (by decide) ?_
                      refine lv_icmp_ge (tgt := 89) hx hb d_Mod_fill_80 (by decide) (fun c_30 => ?_) (fun c_30 => ?_)
                      · have h := (if_pos c_30).symm.trans h
                        refine lv_aload_n hx hb d_Mod_fill_89 rfl (lv_at hl 0 rfl) ?_
                        refine va_get (D := (dC, dI)) (ci := 4) (v := .ref (ad 8)) (C := R_Mod) (T := T_Mod) (N := 27) hx hb hB in_Mod hown hK hP 0 rfl rfl 17 (by decide) (hB _ wd_271) (fun _ h9 => h9) rfl d_Mod_fill_90 ?_
                        refine lv_iload_n hx hb d_Mod_fill_93 rfl (lv_at hl 3 rfl) ?_
                        refine lv_bipush (v := 16) hx hb d_Mod_fill_94 (by decide) ?_
                        refine lv_isub hx hb d_Mod_fill_96 ?_
                        obtain ⟨b_31, h⟩ := gI_some h
                        refine va_iald hx hb hK hP 8 7 rfl rfl b_31 d_Mod_fill_97 ?_
                        refine va_iast hx hb hK hP hD hS 8 7 rfl rfl b_20 d_Mod_fill_98 (fun H locs hP hD hS => ?_)
                        have hP : va_P (dC, dI) vwCl (x_Mod ad cs m_thrown_22 m_kind m_steps m_size m_ran m_parts m_taken m_lacked m_decodings m_failures m_at m_end m_many m_wrong m_bytes m_heads m_numbers m_codes m_sizes m_guessed m_results (upd m_values_22 y22_3.toNatClampNeg (m_values_22 (y22_3 - (16 : Int32)).toNatClampNeg)) m_states_22 m_came m_boxes m_single m_rows) H := hP
                        have hD : va_D A (x_Mod ad cs m_thrown_22 m_kind m_steps m_size m_ran m_parts m_taken m_lacked m_decodings m_failures m_at m_end m_many m_wrong m_bytes m_heads m_numbers m_codes m_sizes m_guessed m_results (upd m_values_22 y22_3.toNatClampNeg (m_values_22 (y22_3 - (16 : Int32)).toNatClampNeg)) m_states_22 m_came m_boxes m_single m_rows) := hD
                        refine lv_aload_n hx hb d_Mod_fill_99 rfl (lv_at hl 0 rfl) ?_
                        refine va_get (D := (dC, dI)) (ci := 4) (v := .ref (ad 9)) (C := R_Mod) (T := T_Mod) (N := 27) hx hb hB in_Mod hown hK hP 0 rfl rfl 18 (by decide) (hB _ wd_272) (fun _ h9 => h9) rfl d_Mod_fill_100 ?_
                        refine lv_iload_n hx hb d_Mod_fill_103 rfl (lv_at hl 3 rfl) ?_
                        refine lv_iconst (v := 3) hx hb d_Mod_fill_104 (by decide) ?_
                        refine va_iast hx hb hK hP hD hS 9 8 rfl rfl b_20 d_Mod_fill_105 (fun H locs hP hD hS => ?_)
                        have hP : va_P (dC, dI) vwCl (x_Mod ad cs m_thrown_22 m_kind m_steps m_size m_ran m_parts m_taken m_lacked m_decodings m_failures m_at m_end m_many m_wrong m_bytes m_heads m_numbers m_codes m_sizes m_guessed m_results (upd m_values_22 y22_3.toNatClampNeg (m_values_22 (y22_3 - (16 : Int32)).toNatClampNeg)) (upd m_states_22 y22_3.toNatClampNeg (3 : Int32)) m_came m_boxes m_single m_rows) H := hP
                        have hD : va_D A (x_Mod ad cs m_thrown_22 m_kind m_steps m_size m_ran m_parts m_taken m_lacked m_decodings m_failures m_at m_end m_many m_wrong m_bytes m_heads m_numbers m_codes m_sizes m_guessed m_results (upd m_values_22 y22_3.toNatClampNeg (m_values_22 (y22_3 - (16 : Int32)).toNatClampNeg)) (upd m_states_22 y22_3.toNatClampNeg (3 : Int32)) m_came m_boxes m_single m_rows) := hD
                        refine lv_iinc (v := y22_2 + 1) (lv' := [(2, .int (y22_2 + 1)), (0, .ref (ad 0)), (1, .int x1), (3, .int y22_3)]) hx hb d_Mod_fill_106 hl (k := 2) rfl rfl (by decide) rfl (fun ls hl => ?_)
                        refine lv_iinc (v := y22_3 + 1) (lv' := [(3, .int (y22_3 + 1)), (2, .int (y22_2 + 1)), (0, .ref (ad 0)), (1, .int x1)]) hx hb d_Mod_fill_109 hl (k := 3) rfl rfl (by decide) rfl (fun ls hl => ?_)
                        refine lv_goto (tgt := 22) hx hb d_Mod_fill_112 (by decide) ?_
                        exact ih (y22_2 + 1) (y22_3 + 1) m_thrown_22 (upd m_values_22 y22_3.toNatClampNeg (m_values_22 (y22_3 - (16 : Int32)).toNatClampNeg)) (upd m_states_22 y22_3.toNatClampNeg (3 : Int32)) H locs ls (lv_sub hl [2, 3, 1, 0] rfl) hP hD hS h
                      · have h := (if_neg c_30).symm.trans h
                        refine lv_sipush (v := 255) hx hb d_Mod_fill_83 (by decide) ?_
                        refine lv_goto (tgt := 98) hx hb d_Mod_fill_86 (by decide) ?_
                        refine va_iast hx hb hK hP hD hS 8 7 rfl rfl b_20 d_Mod_fill_98 (fun H locs hP hD hS => ?_)
                        have hP : va_P (dC, dI) vwCl (x_Mod ad cs m_thrown_22 m_kind m_steps m_size m_ran m_parts m_taken m_lacked m_decodings m_failures m_at m_end m_many m_wrong m_bytes m_heads m_numbers m_codes m_sizes m_guessed m_results (upd m_values_22 y22_3.toNatClampNeg (255 : Int32)) m_states_22 m_came m_boxes m_single m_rows) H := hP
                        have hD : va_D A (x_Mod ad cs m_thrown_22 m_kind m_steps m_size m_ran m_parts m_taken m_lacked m_decodings m_failures m_at m_end m_many m_wrong m_bytes m_heads m_numbers m_codes m_sizes m_guessed m_results (upd m_values_22 y22_3.toNatClampNeg (255 : Int32)) m_states_22 m_came m_boxes m_single m_rows) := hD
                        refine lv_aload_n hx hb d_Mod_fill_99 rfl (lv_at hl 0 rfl) ?_
                        refine va_get (D := (dC, dI)) (ci := 4) (v := .ref (ad 9)) (C := R_Mod) (T := T_Mod) (N := 27) hx hb hB in_Mod hown hK hP 0 rfl rfl 18 (by decide) (hB _ wd_272) (fun _ h9 => h9) rfl d_Mod_fill_100 ?_
                        refine lv_iload_n hx hb d_Mod_fill_103 rfl (lv_at hl 3 rfl) ?_
                        refine lv_iconst (v := 3) hx hb d_Mod_fill_104 (by decide) ?_
                        refine va_iast hx hb hK hP hD hS 9 8 rfl rfl b_20 d_Mod_fill_105 (fun H locs hP hD hS => ?_)
                        have hP : va_P (dC, dI) vwCl (x_Mod ad cs m_thrown_22 m_kind m_steps m_size m_ran m_parts m_taken m_lacked m_decodings m_failures m_at m_end m_many m_wrong m_bytes m_heads m_numbers m_codes m_sizes m_guessed m_results (upd m_values_22 y22_3.toNatClampNeg (255 : Int32)) (upd m_states_22 y22_3.toNatClampNeg (3 : Int32)) m_came m_boxes m_single m_rows) H := hP
                        have hD : va_D A (x_Mod ad cs m_thrown_22 m_kind m_steps m_size m_ran m_parts m_taken m_lacked m_decodings m_failures m_at m_end m_many m_wrong m_bytes m_heads m_numbers m_codes m_sizes m_guessed m_results (upd m_values_22 y22_3.toNatClampNeg (255 : Int32)) (upd m_states_22 y22_3.toNatClampNeg (3 : Int32)) m_came m_boxes m_single m_rows) := hD
                        refine lv_iinc (v := y22_2 + 1) (lv' := [(2, .int (y22_2 + 1)), (0, .ref (ad 0)), (1, .int x1), (3, .int y22_3)]) hx hb d_Mod_fill_106 hl (k := 2) rfl rfl (by decide) rfl (fun ls hl => ?_)
                        refine lv_iinc (v := y22_3 + 1) (lv' := [(3, .int (y22_3 + 1)), (2, .int (y22_2 + 1)), (0, .ref (ad 0)), (1, .int x1)]) hx hb d_Mod_fill_109 hl (k := 3) rfl rfl (by decide) rfl (fun ls hl => ?_)
                        refine lv_goto (tgt := 22) hx hb d_Mod_fill_112 (by decide) ?_
                        exact ih (y22_2 + 1) (y22_3 + 1) m_thrown_22 (upd m_values_22 y22_3.toNatClampNeg (255 : Int32)) (upd m_states_22 y22_3.toNatClampNeg (3 : Int32)) H locs ls (lv_sub hl [2, 3, 1, 0] rfl) hP hD hS h
                  · have h := (if_pos c_28).symm.trans h
                    refine lv_aload_n hx hb d_Mod_fill_64 rfl (lv_at hl 0 rfl) ?_
                    refine lv_iload_n hx hb d_Mod_fill_65 rfl (lv_at hl 3 rfl) ?_
                    obtain ⟨o32, ho32, h⟩ := Option.bind_eq_some_iff.mp h
                    have hKc := hK.sub (tys' := [((cs 1), .int), ((cs 2), .int), ((cs 3), .int), ((cs 4), .int), ((cs 5), .int), ((cs 6), .boolean), ((cs 7), .int), ((cs 8), .int), ((cs 9), .int), ((cs 10), .int), ((cs 11), .int), ((cs 12), .int), ((cs 13), .int)]) [0, 1, 2, 3, 4, 5, 6, 7, 8, 9, 10, 11, 12] rfl
                    have hPc := hP.sub (ws' := x_Mod ad cs m_thrown_22 m_kind m_steps m_size m_ran m_parts m_taken m_lacked m_decodings m_failures m_at m_end m_many m_wrong m_bytes m_heads m_numbers m_codes m_sizes m_guessed m_results m_values_22 m_states_22 m_came m_boxes m_single m_rows) [0, 1, 2, 3, 4, 5, 6, 7, 8, 9, 10, 11, 12, 13] rfl
                    have hDc := hD.sub (ws' := x_Mod ad cs m_thrown_22 m_kind m_steps m_size m_ran m_parts m_taken m_lacked m_decodings m_failures m_at m_end m_many m_wrong m_bytes m_heads m_numbers m_codes m_sizes m_guessed m_results m_values_22 m_states_22 m_came m_boxes m_single m_rows) [0, 1, 2, 3, 4, 5, 6, 7, 8, 9, 10, 11, 12, 13] (by decide) rfl
                    have hFc := va_free (wc := x_Mod ad cs m_thrown_22 m_kind m_steps m_size m_ran m_parts m_taken m_lacked m_decodings m_failures m_at m_end m_many m_wrong m_bytes m_heads m_numbers m_codes m_sizes m_guessed m_results m_values_22 m_states_22 m_came m_boxes m_single m_rows) hD hS hA [0, 1, 2, 3, 4, 5, 6, 7, 8, 9, 10, 11, 12, 13] rfl
                    refine va_calli (va_runV (As := [.int y22_3]) (rest := [.int y22_3, .ref (ad 8)]) ⟨hx, hb, hml, hown, hB⟩ (c_Mod_meant l dC dI tt ad cs H.size N y22_3 m_thrown_22 m_kind m_steps m_size m_ran m_parts m_taken m_lacked m_decodings m_failures m_at m_end m_many m_wrong m_bytes m_heads m_numbers m_codes m_sizes m_guessed m_results m_values_22 m_states_22 m_came m_boxes m_single m_rows o32 ho32) (cwV 1 hB (gV wd_318 wd_316 wd_315 wd_226 wd_317) rfl rfl rfl (by decide +kernel) ⟨Nat.le_of_ble_eq_true rfl, Nat.le_of_ble_eq_true rfl⟩) ⟨PreW_blind, va_recv hKc hPc (ci := 4) (q0 := 0) rfl rfl, PreW_mk hKc hPc hDc hG hS hFc⟩ rfl rfl hl.1 rfl (lv_room (Nat.le_of_ble_eq_true rfl)) d_Mod_fill_66 ⟨Nat.le_of_ble_eq_true rfl, Nat.le_of_ble_eq_true rfl⟩) hS (fun q _ h => hFc q h) hFc (fun r_32 u_32 t H1 locs ht hvm hw hB hz1 hk1 hS => ?_)
                    have hw := hw.symm
                    subst hw
                    obtain ⟨hP1, hK1, hD1⟩ := hB
                    rw [ht] at hP1
                    obtain ⟨hP, hD⟩ := va_join (wr := pick (x_Mod ad cs m_thrown_22 m_kind m_steps m_size m_ran m_parts m_taken m_lacked m_decodings m_failures m_at m_end m_many m_wrong m_bytes m_heads m_numbers m_codes m_sizes m_guessed m_results m_values_22 m_states_22 m_came m_boxes m_single m_rows) []) hP hD [0, 1, 2, 3, 4, 5, 6, 7, 8, 9, 10, 11, 12, 13] [] rfl rfl (by decide) (by decide) hk1 hFc hP1 hD1
                    generalize H1 = H at hP hS ⊢
                    have hP : va_P (dC, dI) vwCl (x_Mod ad cs m_thrown_22 m_kind m_steps m_size m_ran m_parts m_taken m_lacked m_decodings m_failures m_at m_end m_many m_wrong m_bytes m_heads m_numbers m_codes m_sizes m_guessed m_results m_values_22 m_states_22 m_came m_boxes m_single m_rows) H := hP.sub [0, 1, 2, 3, 4, 5, 6, 7, 8, 9, 10, 11, 12, 13] rfl
                    have hD : va_D A (x_Mod ad cs m_thrown_22 m_kind m_steps m_size m_ran m_parts m_taken m_lacked m_decodings m_failures m_at m_end m_many m_wrong m_bytes m_heads m_numbers m_codes m_sizes m_guessed m_results m_values_22 m_states_22 m_came m_boxes m_single m_rows) := hD.sub [0, 1, 2, 3, 4, 5, 6, 7, 8, 9, 10, 11, 12, 13] (by decide) rfl
                    refine lv_goto (tgt := 98) hx hb d_Mod_fill_69 (by decide) ?_
                    refine va_iast hx hb hK hP hD hS 8 7 rfl rfl b_20 d_Mod_fill_98 (fun H locs hP hD hS => ?_)
                    have hP : va_P (dC, dI) vwCl (x_Mod ad cs m_thrown_22 m_kind m_steps m_size m_ran m_parts m_taken m_lacked m_decodings m_failures m_at m_end m_many m_wrong m_bytes m_heads m_numbers m_codes m_sizes m_guessed m_results (upd m_values_22 y22_3.toNatClampNeg o32) m_states_22 m_came m_boxes m_single m_rows) H := hP
                    have hD : va_D A (x_Mod ad cs m_thrown_22 m_kind m_steps m_size m_ran m_parts m_taken m_lacked m_decodings m_failures m_at m_end m_many m_wrong m_bytes m_heads m_numbers m_codes m_sizes m_guessed m_results (upd m_values_22 y22_3.toNatClampNeg o32) m_states_22 m_came m_boxes m_single m_rows) := hD
                    refine lv_aload_n hx hb d_Mod_fill_99 rfl (lv_at hl 0 rfl) ?_
                    refine va_get (D := (dC, dI)) (ci := 4) (v := .ref (ad 9)) (C := R_Mod) (T := T_Mod) (N := 27) hx hb hB in_Mod hown hK hP 0 rfl rfl 18 (by decide) (hB _ wd_272) (fun _ h9 => h9) rfl d_Mod_fill_100 ?_
                    refine lv_iload_n hx hb d_Mod_fill_103 rfl (lv_at hl 3 rfl) ?_
                    refine lv_iconst (v := 3) hx hb d_Mod_fill_104 (by decide) ?_
                    refine va_iast hx hb hK hP hD hS 9 8 rfl rfl b_20 d_Mod_fill_105 (fun H locs hP hD hS => ?_)
                    have hP : va_P (dC, dI) vwCl (x_Mod ad cs m_thrown_22 m_kind m_steps m_size m_ran m_parts m_taken m_lacked m_decodings m_failures m_at m_end m_many m_wrong m_bytes m_heads m_numbers m_codes m_sizes m_guessed m_results (upd m_values_22 y22_3.toNatClampNeg o32) (upd m_states_22 y22_3.toNatClampNeg (3 : Int32)) m_came m_boxes m_single m_rows) H := hP
                    have hD : va_D A (x_Mod ad cs m_thrown_22 m_kind m_steps m_size m_ran m_parts m_taken m_lacked m_decodings m_failures m_at m_end m_many m_wrong m_bytes m_heads m_numbers m_codes m_sizes m_guessed m_results (upd m_values_22 y22_3.toNatClampNeg o32) (upd m_states_22 y22_3.toNatClampNeg (3 : Int32)) m_came m_boxes m_single m_rows) := hD
                    refine lv_iinc (v := y22_2 + 1) (lv' := [(2, .int (y22_2 + 1)), (0, .ref (ad 0)), (1, .int x1), (3, .int y22_3)]) hx hb d_Mod_fill_106 hl (k := 2) rfl rfl (by decide) rfl (fun ls hl => ?_)
                    refine lv_iinc (v := y22_3 + 1) (lv' := [(3, .int (y22_3 + 1)), (2, .int (y22_2 + 1)), (0, .ref (ad 0)), (1, .int x1)]) hx hb d_Mod_fill_109 hl (k := 3) rfl rfl (by decide) rfl (fun ls hl => ?_)
                    refine lv_goto (tgt := 22) hx hb d_Mod_fill_112 (by decide) ?_
                    exact ih (y22_2 + 1) (y22_3 + 1) m_thrown_22 (upd m_values_22 y22_3.toNatClampNeg o32) (upd m_states_22 y22_3.toNatClampNeg (3 : Int32)) H locs ls (lv_sub hl [2, 3, 1, 0] rfl) hP hD hS h
      exact L22 N (0 : Int32) (0 : Int32) (1 : Int32) m_values m_states _ _ ls (lv_sub hl [2, 3, 1, 0] rfl) hP hD hS hs22
    · have h := (if_neg c_17).symm.trans h
      refine lv_iconst (v := 0) hx hb d_Mod_fill_10 (by decide) ?_
      refine lv_goto (tgt := 15) hx hb d_Mod_fill_11 (by decide) ?_
      refine va_put (D := (dC, dI)) (ci := 4) (v := .int (0 : Int32)) (ty := .int) (C := R_Mod) (T := T_Mod) (N := 27) hx hb hB in_Mod ty_Mod tyok_Mod nd_Mod hown hK hP hD hS 0 rfl rfl 0 (by decide) (hB _ wd_218) (fun _ h9 => h9) rfl (by decide +kernel) rfl rfl (Nat.le_of_ble_eq_true rfl) d_Mod_fill_15 (fun H locs hP hD hS => ?_)
      have hP : va_P (dC, dI) vwCl (x_Mod ad cs (0 : Int32) m_kind m_steps m_size m_ran m_parts m_taken m_lacked m_decodings m_failures m_at m_end m_many m_wrong m_bytes m_heads m_numbers m_codes m_sizes m_guessed m_results m_values m_states m_came m_boxes m_single m_rows) H := hP
      have hD : va_D A (x_Mod ad cs (0 : Int32) m_kind m_steps m_size m_ran m_parts m_taken m_lacked m_decodings m_failures m_at m_end m_many m_wrong m_bytes m_heads m_numbers m_codes m_sizes m_guessed m_results m_values m_states m_came m_boxes m_single m_rows) := hD
      refine lv_iconst (v := 0) hx hb d_Mod_fill_18 (by decide) ?_
      refine lv_istore_n (lv' := [(2, .int (0 : Int32)), (0, .ref (ad 0)), (1, .int x1)]) hx hb d_Mod_fill_19 rfl hl (by decide) rfl (fun ls hl => ?_)
      refine lv_iconst (v := 0) hx hb d_Mod_fill_20 (by decide) ?_
      refine lv_istore_n (lv' := [(3, .int (0 : Int32)), (2, .int (0 : Int32)), (0, .ref (ad 0)), (1, .int x1)]) hx hb d_Mod_fill_21 rfl hl (by decide) rfl (fun ls hl => ?_)
      obtain ⟨s22, hs22, h⟩ := Option.bind_eq_some_iff.mp h
      have X22 : ∀ (H : Heap) (locs : List Loc) (ls : Array Slot), lv_has ls 4 [(2, .int s22.1)] → va_P (dC, dI) vwCl (x_Mod ad cs s22.2.1 m_kind m_steps m_size m_ran m_parts m_taken m_lacked m_decodings m_failures m_at m_end m_many m_wrong m_bytes m_heads m_numbers m_codes m_sizes m_guessed m_results s22.2.2.1 s22.2.2.2 m_came m_boxes m_single m_rows) H → va_D A (x_Mod ad cs s22.2.1 m_kind m_steps m_size m_ran m_parts m_taken m_lacked m_decodings m_failures m_at m_end m_many m_wrong m_bytes m_heads m_numbers m_codes m_sizes m_guessed m_results s22.2.2.1 s22.2.2.2 m_came m_boxes m_single m_rows) → va_S A s.heap H locs → W p l e (headSpec (w_Mod_fill) rm_Mod_fill).room s m ([.ref (ad 0), .int x1] : List Value).toArray below meth c H locs 0 0 (MQ below (va_Qi (fun (r : Int32) (_ : Unit) => r = out.1) (fun _ => AftW (dC, dI) [((cs 1), .int), ((cs 2), .int), ((cs 3), .int), ((cs 4), .int), ((cs 5), .int), ((cs 6), .boolean), ((cs 7), .int), ((cs 8), .int), ((cs 9), .int), ((cs 10), .int), ((cs 11), .int), ((cs 12), .int), ((cs 13), .int)] A (x_Mod ad cs out.2.1 m_kind m_steps m_size m_ran m_parts m_taken m_lacked m_decodings m_failures m_at m_end m_many m_wrong m_bytes m_heads m_numbers m_codes m_sizes m_guessed m_results out.2.2.1 out.2.2.2 m_came m_boxes m_single m_rows)) A) ([.ref (ad 0), .int x1] : List Value).toArray s 0 0 A) (F0 m 115 ls []) := by
        intro H locs ls hl hP hD hS
        refine lv_iload_n hx hb d_Mod_fill_115 rfl (lv_at hl 0 rfl) ?_
        have h := Option.some.inj h
        subst h
        exact W.iret hx hb hr (fun t ht hW => ⟨⟨_, (), rfl, rfl, AftW_mk hK hP hD ht hW⟩, hS.F ht⟩) hS.2.2 d_Mod_fill_116
      have L22 : ∀ (n : Nat) (y22_2 : Int32) (y22_3 : Int32) (m_thrown_22 : Int32) (m_values_22 : Nat → Int32) (m_states_22 : Nat → Int32) (H : Heap) (locs : List Loc) (ls : Array Slot), lv_has ls 4 [(0, .ref (ad 0)), (1, .int x1), (2, .int y22_2), (3, .int y22_3)] → va_P (dC, dI) vwCl (x_Mod ad cs m_thrown_22 m_kind m_steps m_size m_ran m_parts m_taken m_lacked m_decodings m_failures m_at m_end m_many m_wrong m_bytes m_heads m_numbers m_codes m_sizes m_guessed m_results m_values_22 m_states_22 m_came m_boxes m_single m_rows) H → va_D A (x_Mod ad cs m_thrown_22 m_kind m_steps m_size m_ran m_parts m_taken m_lacked m_decodings m_failures m_at m_end m_many m_wrong m_bytes m_heads m_numbers m_codes m_sizes m_guessed m_results m_values_22 m_states_22 m_came m_boxes m_single m_rows) → va_S A s.heap H locs → d_Mod_fill_L22 N x1 n y22_2 y22_3 m_thrown_22 m_values_22 m_states_22 = some s22 → W p l e (headSpec (w_Mod_fill) rm_Mod_fill).room s m ([.ref (ad 0), .int x1] : List Value).toArray below meth c H locs 0 0 (MQ below (va_Qi (fun (r : Int32) (_ : Unit) => r = out.1) (fun _ => AftW (dC, dI) [((cs 1), .int), ((cs 2), .int), ((cs 3), .int), ((cs 4), .int), ((cs 5), .int), ((cs 6), .boolean), ((cs 7), .int), ((cs 8), .int), ((cs 9), .int), ((cs 10), .int), ((cs 11), .int), ((cs 12), .int), ((cs 13), .int)] A (x_Mod ad cs out.2.1 m_kind m_steps m_size m_ran m_parts m_taken m_lacked m_decodings m_failures m_at m_end m_many m_wrong m_bytes m_heads m_numbers m_codes m_sizes m_guessed m_results out.2.2.1 out.2.2.2 m_came m_boxes m_single m_rows)) A) ([.ref (ad 0), .int x1] : List Value).toArray s 0 0 A) (F0 m 22 ls []) := by
        intro n
        induction n with
        | zero =>
          intro y22_2 y22_3 m_thrown_22 m_values_22 m_states_22 H locs ls hl hP hD hS h
          rw [d_Mod_fill_L22] at h
          cases h
        | succ n ih =>
          intro y22_2 y22_3 m_thrown_22 m_values_22 m_states_22 H locs ls hl hP hD hS h
          rw [d_Mod_fill_L22] at h
          refine lv_iload_n hx hb d_Mod_fill_22 rfl (lv_at hl 3 rfl) ?_
          refine lv_sipush (v := 256) hx hb d_Mod_fill_23 (by decide) ?_
          refine lv_icmp_ge (tgt := 115) hx hb d_Mod_fill_26 (by decide) (fun c_33 => ?_) (fun c_33 => ?_)
          · have h := (if_pos c_33).symm.trans h
            have h := Option.some.inj h
            subst h
            exact X22 H locs ls (lv_sub hl [2] rfl) hP hD hS
          · have h := (if_neg c_33).symm.trans h
            refine lv_aload_n hx hb d_Mod_fill_29 rfl (lv_at hl 0 rfl) ?_
            refine va_get (D := (dC, dI)) (ci := 4) (v := .int m_thrown_22) (C := R_Mod) (T := T_Mod) (N := 27) hx hb hB in_Mod hown hK hP 0 rfl rfl 0 (by decide) (hB _ wd_218) (fun _ h9 => h9) rfl d_Mod_fill_30 ?_
            refine lv_if_ne (tgt := 115) hx hb d_Mod_fill_33 (by decide) (fun c_34 => ?_) (fun c_34 => ?_)
            · have h := (if_neg c_34).symm.trans h
              have h := Option.some.inj h
              subst h
              exact X22 H locs ls (lv_sub hl [2] rfl) hP hD hS
            · have h := (if_pos c_34).symm.trans h
              refine lv_aload_n hx hb d_Mod_fill_36 rfl (lv_at hl 0 rfl) ?_
              refine va_get (D := (dC, dI)) (ci := 4) (v := .ref (ad 9)) (C := R_Mod) (T := T_Mod) (N := 27) hx hb hB in_Mod hown hK hP 0 rfl rfl 18 (by decide) (hB _ wd_272) (fun _ h9 => h9) rfl d_Mod_fill_37 ?_
              refine lv_iload_n hx hb d_Mod_fill_40 rfl (lv_at hl 3 rfl) ?_
              obtain ⟨b_35, h⟩ := gI_some h
              refine va_iald hx hb hK hP 9 8 rfl rfl b_35 d_Mod_fill_41 ?_
              refine lv_if_eq (tgt := 55) hx hb d_Mod_fill_42 (by decide) (fun c_36 => ?_) (fun c_36 => ?_)
              · have h := (if_pos c_36).symm.trans h
                refine lv_aload_n hx hb d_Mod_fill_55 rfl (lv_at hl 0 rfl) ?_
                refine va_get (D := (dC, dI)) (ci := 4) (v := .ref (ad 8)) (C := R_Mod) (T := T_Mod) (N := 27) hx hb hB in_Mod hown hK hP 0 rfl rfl 17 (by decide) (hB _ wd_271) (fun _ h9 => h9) rfl d_Mod_fill_56 ?_
                refine lv_iload_n hx hb d_Mod_fill_59 rfl (lv_at hl 3 rfl) ?_
                refine lv_iload_n hx hb d_Mod_fill_60 rfl (lv_at hl 1 rfl) ?_
                refine lv_if_ne (tgt := 72) hx hb d_Mod_fill_61 (by decide) (fun c_37 => ?_) (fun c_37 => ?_)
                · have h := (if_neg c_37).symm.trans h
                  refine lv_iload_n hx hb d_Mod_fill_72 rfl (lv_at hl 1 rfl) ?_
                  refine lv_iconst (v := 1) hx hb d_Mod_fill_73 (by decide) ?_
                  refine lv_icmp_eq (tgt := 83) hx hb d_Mod_fill_74 (by decide) (fun c_38 => ?_) (fun c_38 => ?_)
                  · have h := (if_pos c_38).symm.trans h
                    refine lv_sipush (v := 255) hx hb d_Mod_fill_83 (by decide) ?_
                    refine lv_goto (tgt := 98) hx hb d_Mod_fill_86 (by decide) ?_
                    refine va_iast hx hb hK hP hD hS 8 7 rfl rfl b_35 d_Mod_fill_98 (fun H locs hP hD hS => ?_)
                    have hP : va_P (dC, dI) vwCl (x_Mod ad cs m_thrown_22 m_kind m_steps m_size m_ran m_parts m_taken m_lacked m_decodings m_failures m_at m_end m_many m_wrong m_bytes m_heads m_numbers m_codes m_sizes m_guessed m_results (upd m_values_22 y22_3.toNatClampNeg (255 : Int32)) m_states_22 m_came m_boxes m_single m_rows) H := hP
                    have hD : va_D A (x_Mod ad cs m_thrown_22 m_kind m_steps m_size m_ran m_parts m_taken m_lacked m_decodings m_failures m_at m_end m_many m_wrong m_bytes m_heads m_numbers m_codes m_sizes m_guessed m_results (upd m_values_22 y22_3.toNatClampNeg (255 : Int32)) m_states_22 m_came m_boxes m_single m_rows) := hD
                    refine lv_aload_n hx hb d_Mod_fill_99 rfl (lv_at hl 0 rfl) ?_
                    refine va_get (D := (dC, dI)) (ci := 4) (v := .ref (ad 9)) (C := R_Mod) (T := T_Mod) (N := 27) hx hb hB in_Mod hown hK hP 0 rfl rfl 18 (by decide) (hB _ wd_272) (fun _ h9 => h9) rfl d_Mod_fill_100 ?_
                    refine lv_iload_n hx hb d_Mod_fill_103 rfl (lv_at hl 3 rfl) ?_
                    refine lv_iconst (v := 3) hx hb d_Mod_fill_104 (by decide) ?_
                    refine va_iast hx hb hK hP hD hS 9 8 rfl rfl b_35 d_Mod_fill_105 (fun H locs hP hD hS => ?_)
                    have hP : va_P (dC, dI) vwCl (x_Mod ad cs m_thrown_22 m_kind m_steps m_size m_ran m_parts m_taken m_lacked m_decodings m_failures m_at m_end m_many m_wrong m_bytes m_heads m_numbers m_codes m_sizes m_guessed m_results (upd m_values_22 y22_3.toNatClampNeg (255 : Int32)) (upd m_states_22 y22_3.toNatClampNeg (3 : Int32)) m_came m_boxes m_single m_rows) H := hP
                    have hD : va_D A (x_Mod ad cs m_thrown_22 m_kind m_steps m_size m_ran m_parts m_taken m_lacked m_decodings m_failures m_at m_end m_many m_wrong m_bytes m_heads m_numbers m_codes m_sizes m_guessed m_results (upd m_values_22 y22_3.toNatClampNeg (255 : Int32)) (upd m_states_22 y22_3.toNatClampNeg (3 : Int32)) m_came m_boxes m_single m_rows) := hD
                    refine lv_iinc (v := y22_2 + 1) (lv' := [(2, .int (y22_2 + 1)), (0, .ref (ad 0)), (1, .int x1), (3, .int y22_3)]) hx hb d_Mod_fill_106 hl (k := 2) rfl rfl (by decide) rfl (fun ls hl => ?_)
                    refine lv_iinc (v := y22_3 + 1) (lv' := [(3, .int (y22_3 + 1)), (2, .int (y22_2 + 1)), (0, .ref (ad 0)), (1, .int x1)]) hx hb d_Mod_fill_109 hl (k := 3) rfl rfl (by decide) rfl (fun ls hl => ?_)
                    refine lv_goto (tgt := 22) hx hb d_Mod_fill_112 (by decide) ?_
                    exact ih (y22_2 + 1) (y22_3 + 1) m_thrown_22 (upd m_values_22 y22_3.toNatClampNeg (255 : Int32)) (upd m_states_22 y22_3.toNatClampNeg (3 : Int32)) H locs ls (lv_sub hl [2, 3, 1, 0] rfl) hP hD hS h
                  · have h := (if_neg c_38).symm.trans h
                    refine lv_iload_n hx hb d_Mod_fill_77 rfl (lv_at hl 3 rfl) ?_
                    refine lv_bipush (v := 16) hx hb d_Mod_fill_78 (by decide) ?_
                    refine lv_icmp_ge (tgt := 89) hx hb d_Mod_fill_80 (by decide) (fun c_39 => ?_) (fun c_39 => ?_)
                    · have h := (if_pos c_39).symm.trans h
                      refine lv_aload_n hx hb d_Mod_fill_89 rfl (lv_at hl 0 rfl) ?_
                      refine va_get (D := (dC, dI)) (ci := 4) (v := .ref (ad 8)) (C := R_Mod) (T := T_Mod) (N := 27) hx hb hB in_Mod hown hK hP 0 rfl rfl 17 (by decide) (hB _ wd_271) (fun _ h9 => h9) rfl d_Mod_fill_90 ?_
                      refine lv_iload_n hx hb d_Mod_fill_93 rfl (lv_at hl 3 rfl) ?_
                      refine lv_bipush (v := 16) hx hb d_Mod_fill_94 (by decide) ?_
                      refine lv_isub hx hb d_Mod_fill_96 ?_
                      obtain ⟨b_40, h⟩ := gI_some h
                      refine va_iald hx hb hK hP 8 7 rfl rfl b_40 d_Mod_fill_97 ?_
                      refine va_iast hx hb hK hP hD hS 8 7 rfl rfl b_35 d_Mod_fill_98 (fun H locs hP hD hS => ?_)
                      have hP : va_P (dC, dI) vwCl (x_Mod ad cs m_thrown_22 m_kind m_steps m_size m_ran m_parts m_taken m_lacked m_decodings m_failures m_at m_end m_many m_wrong m_bytes m_heads m_numbers m_codes m_sizes m_guessed m_results (upd m_values_22 y22_3.toNatClampNeg (m_values_22 (y22_3 - (16 : Int32)).toNatClampNeg)) m_states_22 m_came m_boxes m_single m_rows) H := hP
                      have hD : va_D A (x_Mod ad cs m_thrown_22 m_kind m_steps m_size m_ran m_parts m_taken m_lacked m_decodings m_failures m_at m_end m_many m_wrong m_bytes m_heads m_numbers m_codes m_sizes m_guessed m_results (upd m_values_22 y22_3.toNatClampNeg (m_values_22 (y22_3 - (16 : Int32)).toNatClampNeg)) m_states_22 m_came m_boxes m_single m_rows) := hD
                      refine lv_aload_n hx hb d_Mod_fill_99 rfl (lv_at hl 0 rfl) ?_
                      refine va_get (D := (dC, dI)) (ci := 4) (v := .ref (ad 9)) (C := R_Mod) (T := T_Mod) (N := 27) hx hb hB in_Mod hown hK hP 0 rfl rfl 18 (by decide) (hB _ wd_272) (fun _ h9 => h9) rfl d_Mod_fill_100 ?_
                      refine lv_iload_n hx hb d_Mod_fill_103 rfl (lv_at hl 3 rfl) ?_
                      refine lv_iconst (v := 3) hx hb d_Mod_fill_104 (by decide) ?_
                      refine va_iast hx hb hK hP hD hS 9 8 rfl rfl b_35 d_Mod_fill_105 (fun H locs hP hD hS => ?_)
                      have hP : va_P (dC, dI) vwCl (x_Mod ad cs m_thrown_22 m_kind m_steps m_size m_ran m_parts m_taken m_lacked m_decodings m_failures m_at m_end m_many m_wrong m_bytes m_heads m_numbers m_codes m_sizes m_guessed m_results (upd m_values_22 y22_3.toNatClampNeg (m_values_22 (y22_3 - (16 : Int32)).toNatClampNeg)) (upd m_states_22 y22_3.toNatClampNeg (3 : Int32)) m_came m_boxes m_single m_rows) H := hP
                      have hD : va_D A (x_Mod ad cs m_thrown_22 m_kind m_steps m_size m_ran m_parts m_taken m_lacked m_decodings m_failures m_at m_end m_many m_wrong m_bytes m_heads m_numbers m_codes m_sizes m_guessed m_results (upd m_values_22 y22_3.toNatClampNeg (m_values_22 (y22_3 - (16 : Int32)).toNatClampNeg)) (upd m_states_22 y22_3.toNatClampNeg (3 : Int32)) m_came m_boxes m_single m_rows) := hD
                      refine lv_iinc (v := y22_2 + 1) (lv' := [(2, .int (y22_2 + 1)), (0, .ref (ad 0)), (1, .int x1), (3, .int y22_3)]) hx hb d_Mod_fill_106 hl (k := 2) rfl rfl (by decide) rfl (fun ls hl => ?_)
                      refine lv_iinc (v := y22_3 + 1) (lv' := [(3, .int (y22_3 + 1)), (2, .int (y22_2 + 1)), (0, .ref (ad 0)), (1, .int x1)]) hx hb d_Mod_fill_109 hl (k := 3) rfl rfl (by decide) rfl (fun ls hl => ?_)
                      refine lv_goto (tgt := 22) hx hb d_Mod_fill_112 (by decide) ?_
                      exact ih (y22_2 + 1) (y22_3 + 1) m_thrown_22 (upd m_values_22 y22_3.toNatClampNeg (m_values_22 (y22_3 - (16 : Int32)).toNatClampNeg)) (upd m_states_22 y22_3.toNatClampNeg (3 : Int32)) H locs ls (lv_sub hl [2, 3, 1, 0] rfl) hP hD hS h
                    · have h := (if_neg c_39).symm.trans h
                      refine lv_sipush (v := 255) hx hb d_Mod_fill_83 (by decide) ?_
                      refine lv_goto (tgt := 98) hx hb d_Mod_fill_86 (by decide) ?_
                      refine va_iast hx hb hK hP hD hS 8 7 rfl rfl b_35 d_Mod_fill_98 (fun H locs hP hD hS => ?_)
                      have hP : va_P (dC, dI) vwCl (x_Mod ad cs m_thrown_22 m_kind m_steps m_size m_ran m_parts m_taken m_lacked m_decodings m_failures m_at m_end m_many m_wrong m_bytes m_heads m_numbers m_codes m_sizes m_guessed m_results (upd m_values_22 y22_3.toNatClampNeg (255 : Int32)) m_states_22 m_came m_boxes m_single m_rows) H := hP
                      have hD : va_D A (x_Mod ad cs m_thrown_22 m_kind m_steps m_size m_ran m_parts m_taken m_lacked m_decodings m_failures m_at m_end m_many m_wrong m_bytes m_heads m_numbers m_codes m_sizes m_guessed m_results (upd m_values_22 y22_3.toNatClampNeg (255 : Int32)) m_states_22 m_came m_boxes m_single m_rows) := hD
                      refine lv_aload_n hx hb d_Mod_fill_99 rfl (lv_at hl 0 rfl) ?_
                      refine va_get (D := (dC, dI)) (ci := 4) (v := .ref (ad 9)) (C := R_Mod) (T := T_Mod) (N := 27) hx hb hB in_Mod hown hK hP 0 rfl rfl 18 (by decide) (hB _ wd_272) (fun _ h9 => h9) rfl d_Mod_fill_100 ?_
                      refine lv_iload_n hx hb d_Mod_fill_103 rfl (lv_at hl 3 rfl) ?_
                      refine lv_iconst (v := 3) hx hb d_Mod_fill_104 (by decide) ?_
                      refine va_iast hx hb hK hP hD hS 9 8 rfl rfl b_35 d_Mod_fill_105 (fun H locs hP hD hS => ?_)
                      have hP : va_P (dC, dI) vwCl (x_Mod ad cs m_thrown_22 m_kind m_steps m_size m_ran m_parts m_taken m_lacked m_decodings m_failures m_at m_end m_many m_wrong m_bytes m_heads m_numbers m_codes m_sizes m_guessed m_results (upd m_values_22 y22_3.toNatClampNeg (255 : Int32)) (upd m_states_22 y22_3.toNatClampNeg (3 : Int32)) m_came m_boxes m_single m_rows) H := hP
                      have hD : va_D A (x_Mod ad cs m_thrown_22 m_kind m_steps m_size m_ran m_parts m_taken m_lacked m_decodings m_failures m_at m_end m_many m_wrong m_bytes m_heads m_numbers m_codes m_sizes m_guessed m_results (upd m_values_22 y22_3.toNatClampNeg (255 : Int32)) (upd m_states_22 y22_3.toNatClampNeg (3 : Int32)) m_came m_boxes m_single m_rows) := hD
                      refine lv_iinc (v := y22_2 + 1) (lv' := [(2, .int (y22_2 + 1)), (0, .ref (ad 0)), (1, .int x1), (3, .int y22_3)]) hx hb d_Mod_fill_106 hl (k := 2) rfl rfl (by decide) rfl (fun ls hl => ?_)
                      refine lv_iinc (v := y22_3 + 1) (lv' := [(3, .int (y22_3 + 1)), (2, .int (y22_2 + 1)), (0, .ref (ad 0)), (1, .int x1)]) hx hb d_Mod_fill_109 hl (k := 3) rfl rfl (by decide) rfl (fun ls hl => ?_)
                      refine lv_goto (tgt := 22) hx hb d_Mod_fill_112 (by decide) ?_
                      exact ih (y22_2 + 1) (y22_3 + 1) m_thrown_22 (upd m_values_22 y22_3.toNatClampNeg (255 : Int32)) (upd m_states_22 y22_3.toNatClampNeg (3 : Int32)) H locs ls (lv_sub hl [2, 3, 1, 0] rfl) hP hD hS h
                · have h := (if_pos c_37).symm.trans h
                  refine lv_aload_n hx hb d_Mod_fill_64 rfl (lv_at hl 0 rfl) ?_
                  refine lv_iload_n hx hb d_Mod_fill_65 rfl (lv_at hl 3 rfl) ?_
                  obtain ⟨o41, ho41, h⟩ := Option.bind_eq_some_iff.mp h
                  have hKc := hK.sub (tys' := [((cs 1), .int), ((cs 2), .int), ((cs 3), .int), ((cs 4), .int), ((cs 5), .int), ((cs 6), .boolean), ((cs 7), .int), ((cs 8), .int), ((cs 9), .int), ((cs 10), .int), ((cs 11), .int), ((cs 12), .int), ((cs 13), .int)]) [0, 1, 2, 3, 4, 5, 6, 7, 8, 9, 10, 11, 12] rfl
                  have hPc := hP.sub (ws' := x_Mod ad cs m_thrown_22 m_kind m_steps m_size m_ran m_parts m_taken m_lacked m_decodings m_failures m_at m_end m_many m_wrong m_bytes m_heads m_numbers m_codes m_sizes m_guessed m_results m_values_22 m_states_22 m_came m_boxes m_single m_rows) [0, 1, 2, 3, 4, 5, 6, 7, 8, 9, 10, 11, 12, 13] rfl
                  have hDc := hD.sub (ws' := x_Mod ad cs m_thrown_22 m_kind m_steps m_size m_ran m_parts m_taken m_lacked m_decodings m_failures m_at m_end m_many m_wrong m_bytes m_heads m_numbers m_codes m_sizes m_guessed m_results m_values_22 m_states_22 m_came m_boxes m_single m_rows) [0, 1, 2, 3, 4, 5, 6, 7, 8, 9, 10, 11, 12, 13] (by decide) rfl
                  have hFc := va_free (wc := x_Mod ad cs m_thrown_22 m_kind m_steps m_size m_ran m_parts m_taken m_lacked m_decodings m_failures m_at m_end m_many m_wrong m_bytes m_heads m_numbers m_codes m_sizes m_guessed m_results m_values_22 m_states_22 m_came m_boxes m_single m_rows) hD hS hA [0, 1, 2, 3, 4, 5, 6, 7, 8, 9, 10, 11, 12, 13] rfl
                  refine va_calli (va_runV (As := [.int y22_3]) (rest := [.int y22_3, .ref (ad 8)]) ⟨hx, hb, hml, hown, hB⟩ (c_Mod_meant l dC dI tt ad cs H.size N y22_3 m_thrown_22 m_kind m_steps m_size m_ran m_parts m_taken m_lacked m_decodings m_failures m_at m_end m_many m_wrong m_bytes m_heads m_numbers m_codes m_sizes m_guessed m_results m_values_22 m_states_22 m_came m_boxes m_single m_rows o41 ho41) (cwV 1 hB (gV wd_318 wd_316 wd_315 wd_226 wd_317) rfl rfl rfl (by decide +kernel) ⟨Nat.le_of_ble_eq_true rfl, Nat.le_of_ble_eq_true rfl⟩) ⟨PreW_blind, va_recv hKc hPc (ci := 4) (q0 := 0) rfl rfl, PreW_mk hKc hPc hDc hG hS hFc⟩ rfl rfl hl.1 rfl (lv_room (Nat.le_of_ble_eq_true rfl)) d_Mod_fill_66 ⟨Nat.le_of_ble_eq_true rfl, Nat.le_of_ble_eq_true rfl⟩) hS (fun q _ h => hFc q h) hFc (fun r_41 u_41 t H1 locs ht hvm hw hB hz1 hk1 hS => ?_)
                  have hw := hw.symm
                  subst hw
                  obtain ⟨hP1, hK1, hD1⟩ := hB
                  rw [ht] at hP1
                  obtain ⟨hP, hD⟩ := va_join (wr := pick (x_Mod ad cs m_thrown_22 m_kind m_steps m_size m_ran m_parts m_taken m_lacked m_decodings m_failures m_at m_end m_many m_wrong m_bytes m_heads m_numbers m_codes m_sizes m_guessed m_results m_values_22 m_states_22 m_came m_boxes m_single m_rows) []) hP hD [0, 1, 2, 3, 4, 5, 6, 7, 8, 9, 10, 11, 12, 13] [] rfl rfl (by decide) (by decide) hk1 hFc hP1 hD1
                  generalize H1 = H at hP hS ⊢
                  have hP : va_P (dC, dI) vwCl (x_Mod ad cs m_thrown_22 m_kind m_steps m_size m_ran m_parts m_taken m_lacked m_decodings m_failures m_at m_end m_many m_wrong m_bytes m_heads m_numbers m_codes m_sizes m_guessed m_results m_values_22 m_states_22 m_came m_boxes m_single m_rows) H := hP.sub [0, 1, 2, 3, 4, 5, 6, 7, 8, 9, 10, 11, 12, 13] rfl
                  have hD : va_D A (x_Mod ad cs m_thrown_22 m_kind m_steps m_size m_ran m_parts m_taken m_lacked m_decodings m_failures m_at m_end m_many m_wrong m_bytes m_heads m_numbers m_codes m_sizes m_guessed m_results m_values_22 m_states_22 m_came m_boxes m_single m_rows) := hD.sub [0, 1, 2, 3, 4, 5, 6, 7, 8, 9, 10, 11, 12, 13] (by decide) rfl
                  refine lv_goto (tgt := 98) hx hb d_Mod_fill_69 (by decide) ?_
                  refine va_iast hx hb hK hP hD hS 8 7 rfl rfl b_35 d_Mod_fill_98 (fun H locs hP hD hS => ?_)
                  have hP : va_P (dC, dI) vwCl (x_Mod ad cs m_thrown_22 m_kind m_steps m_size m_ran m_parts m_taken m_lacked m_decodings m_failures m_at m_end m_many m_wrong m_bytes m_heads m_numbers m_codes m_sizes m_guessed m_results (upd m_values_22 y22_3.toNatClampNeg o41) m_states_22 m_came m_boxes m_single m_rows) H := hP
                  have hD : va_D A (x_Mod ad cs m_thrown_22 m_kind m_steps m_size m_ran m_parts m_taken m_lacked m_decodings m_failures m_at m_end m_many m_wrong m_bytes m_heads m_numbers m_codes m_sizes m_guessed m_results (upd m_values_22 y22_3.toNatClampNeg o41) m_states_22 m_came m_boxes m_single m_rows) := hD
                  refine lv_aload_n hx hb d_Mod_fill_99 rfl (lv_at hl 0 rfl) ?_
                  refine va_get (D := (dC, dI)) (ci := 4) (v := .ref (ad 9)) (C := R_Mod) (T := T_Mod) (N := 27) hx hb hB in_Mod hown hK hP 0 rfl rfl 18 (by decide) (hB _ wd_272) (fun _ h9 => h9) rfl d_Mod_fill_100 ?_
                  refine lv_iload_n hx hb d_Mod_fill_103 rfl (lv_at hl 3 rfl) ?_
                  refine lv_iconst (v := 3) hx hb d_Mod_fill_104 (by decide) ?_
                  refine va_iast hx hb hK hP hD hS 9 8 rfl rfl b_35 d_Mod_fill_105 (fun H locs hP hD hS => ?_)
                  have hP : va_P (dC, dI) vwCl (x_Mod ad cs m_thrown_22 m_kind m_steps m_size m_ran m_parts m_taken m_lacked m_decodings m_failures m_at m_end m_many m_wrong m_bytes m_heads m_numbers m_codes m_sizes m_guessed m_results (upd m_values_22 y22_3.toNatClampNeg o41) (upd m_states_22 y22_3.toNatClampNeg (3 : Int32)) m_came m_boxes m_single m_rows) H := hP
                  have hD : va_D A (x_Mod ad cs m_thrown_22 m_kind m_steps m_size m_ran m_parts m_taken m_lacked m_decodings m_failures m_at m_end m_many m_wrong m_bytes m_heads m_numbers m_codes m_sizes m_guessed m_results (upd m_values_22 y22_3.toNatClampNeg o41) (upd m_states_22 y22_3.toNatClampNeg (3 : Int32)) m_came m_boxes m_single m_rows) := hD
                  refine lv_iinc (v := y22_2 + 1) (lv' := [(2, .int (y22_2 + 1)), (0, .ref (ad 0)), (1, .int x1), (3, .int y22_3)]) hx hb d_Mod_fill_106 hl (k := 2) rfl rfl (by decide) rfl (fun ls hl => ?_)
                  refine lv_iinc (v := y22_3 + 1) (lv' := [(3, .int (y22_3 + 1)), (2, .int (y22_2 + 1)), (0, .ref (ad 0)), (1, .int x1)]) hx hb d_Mod_fill_109 hl (k := 3) rfl rfl (by decide) rfl (fun ls hl => ?_)
                  refine lv_goto (tgt := 22) hx hb d_Mod_fill_112 (by decide) ?_
                  exact ih (y22_2 + 1) (y22_3 + 1) m_thrown_22 (upd m_values_22 y22_3.toNatClampNeg o41) (upd m_states_22 y22_3.toNatClampNeg (3 : Int32)) H locs ls (lv_sub hl [2, 3, 1, 0] rfl) hP hD hS h
              · have h := (if_neg c_36).symm.trans h
                refine lv_aload_n hx hb d_Mod_fill_45 rfl (lv_at hl 0 rfl) ?_
                refine va_get (D := (dC, dI)) (ci := 4) (v := .ref (ad 9)) (C := R_Mod) (T := T_Mod) (N := 27) hx hb hB in_Mod hown hK hP 0 rfl rfl 18 (by decide) (hB _ wd_272) (fun _ h9 => h9) rfl d_Mod_fill_46 ?_
                refine lv_iload_n hx hb d_Mod_fill_49 rfl (lv_at hl 3 rfl) ?_
                refine va_iald hx hb hK hP 9 8 rfl rfl b_35 d_Mod_fill_50 ?_
                refine lv_iconst (v := 3) hx hb d_Mod_fill_51 (by decide) ?_
                refine lv_icmp_ne (tgt := 109) hx hb d_Mod_fill_52 (by decide) (fun c_42 => ?_) (fun c_42 => ?_)
                · have h := (if_neg c_42).symm.trans h
                  refine lv_iinc (v := y22_3 + 1) (lv' := [(3, .int (y22_3 + 1)), (0, .ref (ad 0)), (1, .int x1), (2, .int y22_2)]) hx hb d_Mod_fill_109 hl (k := 3) rfl rfl (by decide) rfl (fun ls hl => ?_)
                  refine lv_goto (tgt := 22) hx hb d_Mod_fill_112 (by decide) ?_
                  exact ih y22_2 (y22_3 + 1) m_thrown_22 m_values_22 m_states_22 H locs ls (lv_sub hl [1, 2, 3, 0] rfl) hP hD hS h
                · have h := (if_pos c_42).symm.trans h
                  refine lv_aload_n hx hb d_Mod_fill_55 rfl (lv_at hl 0 rfl) ?_
                  refine va_get (D := (dC, dI)) (ci := 4) (v := .ref (ad 8)) (C := R_Mod) (T := T_Mod) (N := 27) hx hb hB in_Mod hown hK hP 0 rfl rfl 17 (by decide) (hB _ wd_271) (fun _ h9 => h9) rfl d_Mod_fill_56 ?_
                  refine lv_iload_n hx hb d_Mod_fill_59 rfl (lv_at hl 3 rfl) ?_
                  refine lv_iload_n hx hb d_Mod_fill_60 rfl (lv_at hl 1 rfl) ?_
                  refine lv_if_ne (tgt := 72) hx hb d_Mod_fill_61 (by decide) (fun c_43 => ?_) (fun c_43 => ?_)
                  · have h := (if_neg c_43).symm.trans h
                    refine lv_iload_n hx hb d_Mod_fill_72 rfl (lv_at hl 1 rfl) ?_
                    refine lv_iconst (v := 1) hx hb d_Mod_fill_73 (by decide) ?_
                    refine lv_icmp_eq (tgt := 83) hx hb d_Mod_fill_74 (by decide) (fun c_44 => ?_) (fun c_44 => ?_)
                    · have h := (if_pos c_44).symm.trans h
                      refine lv_sipush (v := 255) hx hb d_Mod_fill_83 (by decide) ?_
                      refine lv_goto (tgt := 98) hx hb d_Mod_fill_86 (by decide) ?_
                      refine va_iast hx hb hK hP hD hS 8 7 rfl rfl b_35 d_Mod_fill_98 (fun H locs hP hD hS => ?_)
                      have hP : va_P (dC, dI) vwCl (x_Mod ad cs m_thrown_22 m_kind m_steps m_size m_ran m_parts m_taken m_lacked m_decodings m_failures m_at m_end m_many m_wrong m_bytes m_heads m_numbers m_codes m_sizes m_guessed m_results (upd m_values_22 y22_3.toNatClampNeg (255 : Int32)) m_states_22 m_came m_boxes m_single m_rows) H := hP
                      have hD : va_D A (x_Mod ad cs m_thrown_22 m_kind m_steps m_size m_ran m_parts m_taken m_lacked m_decodings m_failures m_at m_end m_many m_wrong m_bytes m_heads m_numbers m_codes m_sizes m_guessed m_results (upd m_values_22 y22_3.toNatClampNeg (255 : Int32)) m_states_22 m_came m_boxes m_single m_rows) := hD
                      refine lv_aload_n hx hb d_Mod_fill_99 rfl (lv_at hl 0 rfl) ?_
                      refine va_get (D := (dC, dI)) (ci := 4) (v := .ref (ad 9)) (C := R_Mod) (T := T_Mod) (N := 27) hx hb hB in_Mod hown hK hP 0 rfl rfl 18 (by decide) (hB _ wd_272) (fun _ h9 => h9) rfl d_Mod_fill_100 ?_
                      refine lv_iload_n hx hb d_Mod_fill_103 rfl (lv_at hl 3 rfl) ?_
                      refine lv_iconst (v := 3) hx hb d_Mod_fill_104 (by decide) ?_
                      refine va_iast hx hb hK hP hD hS 9 8 rfl rfl b_35 d_Mod_fill_105 (fun H locs hP hD hS => ?_)
                      have hP : va_P (dC, dI) vwCl (x_Mod ad cs m_thrown_22 m_kind m_steps m_size m_ran m_parts m_taken m_lacked m_decodings m_failures m_at m_end m_many m_wrong m_bytes m_heads m_numbers m_codes m_sizes m_guessed m_results (upd m_values_22 y22_3.toNatClampNeg (255 : Int32)) (upd m_states_22 y22_3.toNatClampNeg (3 : Int32)) m_came m_boxes m_single m_rows) H := hP
                      have hD : va_D A (x_Mod ad cs m_thrown_22 m_kind m_steps m_size m_ran m_parts m_taken m_lacked m_decodings m_failures m_at m_end m_many m_wrong m_bytes m_heads m_numbers m_codes m_sizes m_guessed m_results (upd m_values_22 y22_3.toNatClampNeg (255 : Int32)) (upd m_states_22 y22_3.toNatClampNeg (3 : Int32)) m_came m_boxes m_single m_rows) := hD
                      refine lv_iinc (v := y22_2 + 1) (lv' := [(2, .int (y22_2 + 1)), (0, .ref (ad 0)), (1, .int x1), (3, .int y22_3)]) hx hb d_Mod_fill_106 hl (k := 2) rfl rfl (by decide) rfl (fun ls hl => ?_)
                      refine lv_iinc (v := y22_3 + 1) (lv' := [(3, .int (y22_3 + 1)), (2, .int (y22_2 + 1)), (0, .ref (ad 0)), (1, .int x1)]) hx hb d_Mod_fill_109 hl (k := 3) rfl rfl (by decide) rfl (fun ls hl => ?_)
                      refine lv_goto (tgt := 22) hx hb d_Mod_fill_112 (by decide) ?_
                      exact ih (y22_2 + 1) (y22_3 + 1) m_thrown_22 (upd m_values_22 y22_3.toNatClampNeg (255 : Int32)) (upd m_states_22 y22_3.toNatClampNeg (3 : Int32)) H locs ls (lv_sub hl [2, 3, 1, 0] rfl) hP hD hS h
                    · have h := (if_neg c_44).symm.trans h
                      refine lv_iload_n hx hb d_Mod_fill_77 rfl (lv_at hl 3 rfl) ?_
                      refine lv_bipush (v := 16) hx hb d_Mod_fill_78 (by decide) ?_
                      refine lv_icmp_ge (tgt := 89) hx hb d_Mod_fill_80 (by decide) (fun c_45 => ?_) (fun c_45 => ?_)
                      · have h := (if_pos c_45).symm.trans h
                        refine lv_aload_n hx hb d_Mod_fill_89 rfl (lv_at hl 0 rfl) ?_
                        refine va_get (D := (dC, dI)) (ci := 4) (v := .ref (ad 8)) (C := R_Mod) (T := T_Mod) (N := 27) hx hb hB in_Mod hown hK hP 0 rfl rfl 17 (by decide) (hB _ wd_271) (fun _ h9 => h9) rfl d_Mod_fill_90 ?_
                        refine lv_iload_n hx hb d_Mod_fill_93 rfl (lv_at hl 3 rfl) ?_
                        refine lv_bipush (v := 16) hx hb d_Mod_fill_94 (by decide) ?_
                        refine lv_isub hx hb d_Mod_fill_96 ?_
                        obtain ⟨b_46, h⟩ := gI_some h
                        refine va_iald hx hb hK hP 8 7 rfl rfl b_46 d_Mod_fill_97 ?_
                        refine va_iast hx hb hK hP hD hS 8 7 rfl rfl b_35 d_Mod_fill_98 (fun H locs hP hD hS => ?_)
                        have hP : va_P (dC, dI) vwCl (x_Mod ad cs m_thrown_22 m_kind m_steps m_size m_ran m_parts m_taken m_lacked m_decodings m_failures m_at m_end m_many m_wrong m_bytes m_heads m_numbers m_codes m_sizes m_guessed m_results (upd m_values_22 y22_3.toNatClampNeg (m_values_22 (y22_3 - (16 : Int32)).toNatClampNeg)) m_states_22 m_came m_boxes m_single m_rows) H := hP
                        have hD : va_D A (x_Mod ad cs m_thrown_22 m_kind m_steps m_size m_ran m_parts m_taken m_lacked m_decodings m_failures m_at m_end m_many m_wrong m_bytes m_heads m_numbers m_codes m_sizes m_guessed m_results (upd m_values_22 y22_3.toNatClampNeg (m_values_22 (y22_3 - (16 : Int32)).toNatClampNeg)) m_states_22 m_came m_boxes m_single m_rows) := hD
                        refine lv_aload_n hx hb d_Mod_fill_99 rfl (lv_at hl 0 rfl) ?_
                        refine va_get (D := (dC, dI)) (ci := 4) (v := .ref (ad 9)) (C := R_Mod) (T := T_Mod) (N := 27) hx hb hB in_Mod hown hK hP 0 rfl rfl 18 (by decide) (hB _ wd_272) (fun _ h9 => h9) rfl d_Mod_fill_100 ?_
                        refine lv_iload_n hx hb d_Mod_fill_103 rfl (lv_at hl 3 rfl) ?_
                        refine lv_iconst (v := 3) hx hb d_Mod_fill_104 (by decide) ?_
                        refine va_iast hx hb hK hP hD hS 9 8 rfl rfl b_35 d_Mod_fill_105 (fun H locs hP hD hS => ?_)
                        have hP : va_P (dC, dI) vwCl (x_Mod ad cs m_thrown_22 m_kind m_steps m_size m_ran m_parts m_taken m_lacked m_decodings m_failures m_at m_end m_many m_wrong m_bytes m_heads m_numbers m_codes m_sizes m_guessed m_results (upd m_values_22 y22_3.toNatClampNeg (m_values_22 (y22_3 - (16 : Int32)).toNatClampNeg)) (upd m_states_22 y22_3.toNatClampNeg (3 : Int32)) m_came m_boxes m_single m_rows) H := hP
                        have hD : va_D A (x_Mod ad cs m_thrown_22 m_kind m_steps m_size m_ran m_parts m_taken m_lacked m_decodings m_failures m_at m_end m_many m_wrong m_bytes m_heads m_numbers m_codes m_sizes m_guessed m_results (upd m_values_22 y22_3.toNatClampNeg (m_values_22 (y22_3 - (16 : Int32)).toNatClampNeg)) (upd m_states_22 y22_3.toNatClampNeg (3 : Int32)) m_came m_boxes m_single m_rows) := hD
                        refine lv_iinc (v := y22_2 + 1) (lv' := [(2, .int (y22_2 + 1)), (0, .ref (ad 0)), (1, .int x1), (3, .int y22_3)]) hx hb d_Mod_fill_106 hl (k := 2) rfl rfl (by decide) rfl (fun ls hl => ?_)
                        refine lv_iinc (v := y22_3 + 1) (lv' := [(3, .int (y22_3 + 1)), (2, .int (y22_2 + 1)), (0, .ref (ad 0)), (1, .int x1)]) hx hb d_Mod_fill_109 hl (k := 3) rfl rfl (by decide) rfl (fun ls hl => ?_)
                        refine lv_goto (tgt := 22) hx hb d_Mod_fill_112 (by decide) ?_
                        exact ih (y22_2 + 1) (y22_3 + 1) m_thrown_22 (upd m_values_22 y22_3.toNatClampNeg (m_values_22 (y22_3 - (16 : Int32)).toNatClampNeg)) (upd m_states_22 y22_3.toNatClampNeg (3 : Int32)) H locs ls (lv_sub hl [2, 3, 1, 0] rfl) hP hD hS h
                      · have h := (if_neg c_45).symm.trans h
                        refine lv_sipush (v := 255) hx hb d_Mod_fill_83 (by decide) ?_
                        refine lv_goto (tgt := 98) hx hb d_Mod_fill_86 (by decide) ?_
                        refine va_iast hx hb hK hP hD hS 8 7 rfl rfl b_35 d_Mod_fill_98 (fun H locs hP hD hS => ?_)
                        have hP : va_P (dC, dI) vwCl (x_Mod ad cs m_thrown_22 m_kind m_steps m_size m_ran m_parts m_taken m_lacked m_decodings m_failures m_at m_end m_many m_wrong m_bytes m_heads m_numbers m_codes m_sizes m_guessed m_results (upd m_values_22 y22_3.toNatClampNeg (255 : Int32)) m_states_22 m_came m_boxes m_single m_rows) H := hP
                        have hD : va_D A (x_Mod ad cs m_thrown_22 m_kind m_steps m_size m_ran m_parts m_taken m_lacked m_decodings m_failures m_at m_end m_many m_wrong m_bytes m_heads m_numbers m_codes m_sizes m_guessed m_results (upd m_values_22 y22_3.toNatClampNeg (255 : Int32)) m_states_22 m_came m_boxes m_single m_rows) := hD
                        refine lv_aload_n hx hb d_Mod_fill_99 rfl (lv_at hl 0 rfl) ?_
                        refine va_get (D := (dC, dI)) (ci := 4) (v := .ref (ad 9)) (C := R_Mod) (T := T_Mod) (N := 27) hx hb hB in_Mod hown hK hP 0 rfl rfl 18 (by decide) (hB _ wd_272) (fun _ h9 => h9) rfl d_Mod_fill_100 ?_
                        refine lv_iload_n hx hb d_Mod_fill_103 rfl (lv_at hl 3 rfl) ?_
                        refine lv_iconst (v := 3) hx hb d_Mod_fill_104 (by decide) ?_
                        refine va_iast hx hb hK hP hD hS 9 8 rfl rfl b_35 d_Mod_fill_105 (fun H locs hP hD hS => ?_)
                        have hP : va_P (dC, dI) vwCl (x_Mod ad cs m_thrown_22 m_kind m_steps m_size m_ran m_parts m_taken m_lacked m_decodings m_failures m_at m_end m_many m_wrong m_bytes m_heads m_numbers m_codes m_sizes m_guessed m_results (upd m_values_22 y22_3.toNatClampNeg (255 : Int32)) (upd m_states_22 y22_3.toNatClampNeg (3 : Int32)) m_came m_boxes m_single m_rows) H := hP
                        have hD : va_D A (x_Mod ad cs m_thrown_22 m_kind m_steps m_size m_ran m_parts m_taken m_lacked m_decodings m_failures m_at m_end m_many m_wrong m_bytes m_heads m_numbers m_codes m_sizes m_guessed m_results (upd m_values_22 y22_3.toNatClampNeg (255 : Int32)) (upd m_states_22 y22_3.toNatClampNeg (3 : Int32)) m_came m_boxes m_single m_rows) := hD
                        refine lv_iinc (v := y22_2 + 1) (lv' := [(2, .int (y22_2 + 1)), (0, .ref (ad 0)), (1, .int x1), (3, .int y22_3)]) hx hb d_Mod_fill_106 hl (k := 2) rfl rfl (by decide) rfl (fun ls hl => ?_)
                        refine lv_iinc (v := y22_3 + 1) (lv' := [(3, .int (y22_3 + 1)), (2, .int (y22_2 + 1)), (0, .ref (ad 0)), (1, .int x1)]) hx hb d_Mod_fill_109 hl (k := 3) rfl rfl (by decide) rfl (fun ls hl => ?_)
                        refine lv_goto (tgt := 22) hx hb d_Mod_fill_112 (by decide) ?_
                        exact ih (y22_2 + 1) (y22_3 + 1) m_thrown_22 (upd m_values_22 y22_3.toNatClampNeg (255 : Int32)) (upd m_states_22 y22_3.toNatClampNeg (3 : Int32)) H locs ls (lv_sub hl [2, 3, 1, 0] rfl) hP hD hS h
                  · have h := (if_pos c_43).symm.trans h
                    refine lv_aload_n hx hb d_Mod_fill_64 rfl (lv_at hl 0 rfl) ?_
                    refine lv_iload_n hx hb d_Mod_fill_65 rfl (lv_at hl 3 rfl) ?_
                    obtain ⟨o47, ho47, h⟩ := Option.bind_eq_some_iff.mp h
                    have hKc := hK.sub (tys' := [((cs 1), .int), ((cs 2), .int), ((cs 3), .int), ((cs 4), .int), ((cs 5), .int), ((cs 6), .boolean), ((cs 7), .int), ((cs 8), .int), ((cs 9), .int), ((cs 10), .int), ((cs 11), .int), ((cs 12), .int), ((cs 13), .int)]) [0, 1, 2, 3, 4, 5, 6, 7, 8, 9, 10, 11, 12] rfl
                    have hPc := hP.sub (ws' := x_Mod ad cs m_thrown_22 m_kind m_steps m_size m_ran m_parts m_taken m_lacked m_decodings m_failures m_at m_end m_many m_wrong m_bytes m_heads m_numbers m_codes m_sizes m_guessed m_results m_values_22 m_states_22 m_came m_boxes m_single m_rows) [0, 1, 2, 3, 4, 5, 6, 7, 8, 9, 10, 11, 12, 13] rfl
                    have hDc := hD.sub (ws' := x_Mod ad cs m_thrown_22 m_kind m_steps m_size m_ran m_parts m_taken m_lacked m_decodings m_failures m_at m_end m_many m_wrong m_bytes m_heads m_numbers m_codes m_sizes m_guessed m_results m_values_22 m_states_22 m_came m_boxes m_single m_rows) [0, 1, 2, 3, 4, 5, 6, 7, 8, 9, 10, 11, 12, 13] (by decide) rfl
                    have hFc := va_free (wc := x_Mod ad cs m_thrown_22 m_kind m_steps m_size m_ran m_parts m_taken m_lacked m_decodings m_failures m_at m_end m_many m_wrong m_bytes m_heads m_numbers m_codes m_sizes m_guessed m_results m_values_22 m_states_22 m_came m_boxes m_single m_rows) hD hS hA [0, 1, 2, 3, 4, 5, 6, 7, 8, 9, 10, 11, 12, 13] rfl
                    refine va_calli (va_runV (As := [.int y22_3]) (rest := [.int y22_3, .ref (ad 8)]) ⟨hx, hb, hml, hown, hB⟩ (c_Mod_meant l dC dI tt ad cs H.size N y22_3 m_thrown_22 m_kind m_steps m_size m_ran m_parts m_taken m_lacked m_decodings m_failures m_at m_end m_many m_wrong m_bytes m_heads m_numbers m_codes m_sizes m_guessed m_results m_values_22 m_states_22 m_came m_boxes m_single m_rows o47 ho47) (cwV 1 hB (gV wd_318 wd_316 wd_315 wd_226 wd_317) rfl rfl rfl (by decide +kernel) ⟨Nat.le_of_ble_eq_true rfl, Nat.le_of_ble_eq_true rfl⟩) ⟨PreW_blind, va_recv hKc hPc (ci := 4) (q0 := 0) rfl rfl, PreW_mk hKc hPc hDc hG hS hFc⟩ rfl rfl hl.1 rfl (lv_room (Nat.le_of_ble_eq_true rfl)) d_Mod_fill_66 ⟨Nat.le_of_ble_eq_true rfl, Nat.le_of_ble_eq_true rfl⟩) hS (fun q _ h => hFc q h) hFc (fun r_47 u_47 t H1 locs ht hvm hw hB hz1 hk1 hS => ?_)
                    have hw := hw.symm
                    subst hw
                    obtain ⟨hP1, hK1, hD1⟩ := hB
                    rw [ht] at hP1
                    obtain ⟨hP, hD⟩ := va_join (wr := pick (x_Mod ad cs m_thrown_22 m_kind m_steps m_size m_ran m_parts m_taken m_lacked m_decodings m_failures m_at m_end m_many m_wrong m_bytes m_heads m_numbers m_codes m_sizes m_guessed m_results m_values_22 m_states_22 m_came m_boxes m_single m_rows) []) hP hD [0, 1, 2, 3, 4, 5, 6, 7, 8, 9, 10, 11, 12, 13] [] rfl rfl (by decide) (by decide) hk1 hFc hP1 hD1
                    generalize H1 = H at hP hS ⊢
                    have hP : va_P (dC, dI) vwCl (x_Mod ad cs m_thrown_22 m_kind m_steps m_size m_ran m_parts m_taken m_lacked m_decodings m_failures m_at m_end m_many m_wrong m_bytes m_heads m_numbers m_codes m_sizes m_guessed m_results m_values_22 m_states_22 m_came m_boxes m_single m_rows) H := hP.sub [0, 1, 2, 3, 4, 5, 6, 7, 8, 9, 10, 11, 12, 13] rfl
                    have hD : va_D A (x_Mod ad cs m_thrown_22 m_kind m_steps m_size m_ran m_parts m_taken m_lacked m_decodings m_failures m_at m_end m_many m_wrong m_bytes m_heads m_numbers m_codes m_sizes m_guessed m_results m_values_22 m_states_22 m_came m_boxes m_single m_rows) := hD.sub [0, 1, 2, 3, 4, 5, 6, 7, 8, 9, 10, 11, 12, 13] (by decide) rfl
                    refine lv_goto (tgt := 98) hx hb d_Mod_fill_69 (by decide) ?_
                    refine va_iast hx hb hK hP hD hS 8 7 rfl rfl b_35 d_Mod_fill_98 (fun H locs hP hD hS => ?_)
                    have hP : va_P (dC, dI) vwCl (x_Mod ad cs m_thrown_22 m_kind m_steps m_size m_ran m_parts m_taken m_lacked m_decodings m_failures m_at m_end m_many m_wrong m_bytes m_heads m_numbers m_codes m_sizes m_guessed m_results (upd m_values_22 y22_3.toNatClampNeg o47) m_states_22 m_came m_boxes m_single m_rows) H := hP
                    have hD : va_D A (x_Mod ad cs m_thrown_22 m_kind m_steps m_size m_ran m_parts m_taken m_lacked m_decodings m_failures m_at m_end m_many m_wrong m_bytes m_heads m_numbers m_codes m_sizes m_guessed m_results (upd m_values_22 y22_3.toNatClampNeg o47) m_states_22 m_came m_boxes m_single m_rows) := hD
                    refine lv_aload_n hx hb d_Mod_fill_99 rfl (lv_at hl 0 rfl) ?_
                    refine va_get (D := (dC, dI)) (ci := 4) (v := .ref (ad 9)) (C := R_Mod) (T := T_Mod) (N := 27) hx hb hB in_Mod hown hK hP 0 rfl rfl 18 (by decide) (hB _ wd_272) (fun _ h9 => h9) rfl d_Mod_fill_100 ?_
                    refine lv_iload_n hx hb d_Mod_fill_103 rfl (lv_at hl 3 rfl) ?_
                    refine lv_iconst (v := 3) hx hb d_Mod_fill_104 (by decide) ?_
                    refine va_iast hx hb hK hP hD hS 9 8 rfl rfl b_35 d_Mod_fill_105 (fun H locs hP hD hS => ?_)
                    have hP : va_P (dC, dI) vwCl (x_Mod ad cs m_thrown_22 m_kind m_steps m_size m_ran m_parts m_taken m_lacked m_decodings m_failures m_at m_end m_many m_wrong m_bytes m_heads m_numbers m_codes m_sizes m_guessed m_results (upd m_values_22 y22_3.toNatClampNeg o47) (upd m_states_22 y22_3.toNatClampNeg (3 : Int32)) m_came m_boxes m_single m_rows) H := hP
                    have hD : va_D A (x_Mod ad cs m_thrown_22 m_kind m_steps m_size m_ran m_parts m_taken m_lacked m_decodings m_failures m_at m_end m_many m_wrong m_bytes m_heads m_numbers m_codes m_sizes m_guessed m_results (upd m_values_22 y22_3.toNatClampNeg o47) (upd m_states_22 y22_3.toNatClampNeg (3 : Int32)) m_came m_boxes m_single m_rows) := hD
                    refine lv_iinc (v := y22_2 + 1) (lv' := [(2, .int (y22_2 + 1)), (0, .ref (ad 0)), (1, .int x1), (3, .int y22_3)]) hx hb d_Mod_fill_106 hl (k := 2) rfl rfl (by decide) rfl (fun ls hl => ?_)
                    refine lv_iinc (v := y22_3 + 1) (lv' := [(3, .int (y22_3 + 1)), (2, .int (y22_2 + 1)), (0, .ref (ad 0)), (1, .int x1)]) hx hb d_Mod_fill_109 hl (k := 3) rfl rfl (by decide) rfl (fun ls hl => ?_)
                    refine lv_goto (tgt := 22) hx hb d_Mod_fill_112 (by decide) ?_
                    exact ih (y22_2 + 1) (y22_3 + 1) m_thrown_22 (upd m_values_22 y22_3.toNatClampNeg o47) (upd m_states_22 y22_3.toNatClampNeg (3 : Int32)) H locs ls (lv_sub hl [2, 3, 1, 0] rfl) hP hD hS h
      exact L22 N (0 : Int32) (0 : Int32) (0 : Int32) m_values m_states _ _ ls (lv_sub hl [2, 3, 1, 0] rfl) hP hD hS hs22
def d_Mod_told (N : Nat) (x1 : Int32) (m_thrown : Int32) (m_kind : Int32) (m_steps : Int32) (m_size : Int32) (m_parts : Int32) (m_taken : Int32) (m_lacked : Int32) (m_decodings : Int32) (m_failures : Int32) (m_states : Nat → Int32) : Option (Int32 × Int32) :=
 if x1 = 0 then some (m_kind, (0 : Int32)) else if x1 = 1 then some (m_steps, (0 : Int32)) else if x1 = 2 then some (m_size, (0 : Int32)) else if x1 = 3 then some (m_parts, (0 : Int32)) else if x1 = 4 then some (m_taken, (0 : Int32)) else if x1 = 5 then if m_lacked = 0 then some ((0 : Int32), (0 : Int32)) else some ((1 : Int32), (0 : Int32)) else if x1 = 6 then some (m_decodings, (0 : Int32)) else if x1 = 7 then some (m_failures, (0 : Int32)) else if x1 = 8 then (d_Mod_sure N m_states).bind (fun o11 => some (o11, (0 : Int32))) else some ((-1 : Int32), (0 : Int32))
abbrev rm_Mod_told : Room := { frames := 1, cells := 0, slots := 0, locals := 22 }
set_option maxHeartbeats 4000000 in
set_option maxRecDepth 100000 in
theorem c_Mod_told (l : Launch) (dC : Nat → ClassId) (dI : Nat → Nat → Nat) (tt : Nat → Nat) (ad : Nat → Nat) (cs : Nat → ClassId) (sz N : Nat) (x1 : Int32) (m_thrown : Int32) (m_kind : Int32) (m_steps : Int32) (m_size : Int32) (m_ran : Int32) (m_parts : Int32) (m_taken : Int32) (m_lacked : Int32) (m_decodings : Int32) (m_failures : Int32) (m_at : Int32) (m_end : Int32) (m_many : Int32) (m_wrong : Int32) (m_bytes : Nat → Int32) (m_heads : Nat → Int32) (m_numbers : Nat → Int32) (m_codes : Nat → Int32) (m_sizes : Nat → Int32) (m_guessed : Nat → Int32) (m_results : Nat → Int32) (m_values : Nat → Int32) (m_states : Nat → Int32) (m_came : Nat → Int32) (m_boxes : Nat → Int32) (m_single : Nat → Int32) (m_rows : Nat → Int32) (out : Int32 × Int32) (h : d_Mod_told N x1 m_thrown m_kind m_steps m_size m_parts m_taken m_lacked m_decodings m_failures m_states = some out) :
    Met l y_Mod_told (w_Mod_told) rm_Mod_told (va_Pc [.ref (ad 0), .int x1] (PreW (dC, dI) [((cs 1), .int), ((cs 2), .int), ((cs 3), .int), ((cs 4), .int), ((cs 5), .int), ((cs 6), .boolean), ((cs 7), .int), ((cs 8), .int), ((cs 9), .int), ((cs 10), .int), ((cs 11), .int), ((cs 12), .int), ((cs 13), .int)] (x_Mod ad cs m_thrown m_kind m_steps m_size m_ran m_parts m_taken m_lacked m_decodings m_failures m_at m_end m_many m_wrong m_bytes m_heads m_numbers m_codes m_sizes m_guessed m_results m_values m_states m_came m_boxes m_single m_rows) sz tt)) (va_Qi (fun (r : Int32) (_ : Unit) => r = out.1) (fun _ => AftW (dC, dI) [((cs 1), .int), ((cs 2), .int), ((cs 3), .int), ((cs 4), .int), ((cs 5), .int), ((cs 6), .boolean), ((cs 7), .int), ((cs 8), .int), ((cs 9), .int), ((cs 10), .int), ((cs 11), .int), ((cs 12), .int), ((cs 13), .int)] (va_A (x_Mod ad cs m_thrown m_kind m_steps m_size m_ran m_parts m_taken m_lacked m_decodings m_failures m_at m_end m_many m_wrong m_bytes m_heads m_numbers m_codes m_sizes m_guessed m_results m_values m_states m_came m_boxes m_single m_rows) sz) (x_Mod ad cs out.2 m_kind m_steps m_size m_ran m_parts m_taken m_lacked m_decodings m_failures m_at m_end m_many m_wrong m_bytes m_heads m_numbers m_codes m_sizes m_guessed m_results m_values m_states m_came m_boxes m_single m_rows)) (va_A (x_Mod ad cs m_thrown m_kind m_steps m_size m_ran m_parts m_taken m_lacked m_decodings m_failures m_at m_end m_many m_wrong m_bytes m_heads m_numbers m_codes m_sizes m_guessed m_results m_values m_states m_came m_boxes m_single m_rows) sz)) 0 0 (va_A (x_Mod ad cs m_thrown m_kind m_steps m_size m_ran m_parts m_taken m_lacked m_decodings m_failures m_at m_end m_many m_wrong m_bytes m_heads m_numbers m_codes m_sizes m_guessed m_results m_values m_states m_came m_boxes m_single m_rows) sz) := by
  refine Met.ofW (cc := k_Mod_told) (maxL := 2) (ret := (some .int)) (by decide) rfl ?_
  intro p e s m args below meth c s₁ B hml hv
  obtain ⟨rfl, hsz, hP, hK, hD0, hG⟩ := hv
  have hx := B.exec
  have hb := B.bytes
  have hr := B.returns
  have hts := atoms_spec (ws := (w_Mod_told)) B.pre
  have hB : ∀ w ∈ BIG, w.before _ s = true := fun w h9 => hts w (List.mem_cons_of_mem _ h9)
  have hown : s.vm.findClass R_Mod = some m.cls := findClass_of_methodNamed B.named
  have hlocks := B.notSynchronized
  subst hsz
  have hD := hD0.self (sz := s.heap.size)
  generalize hAe : va_A (x_Mod ad cs m_thrown m_kind m_steps m_size m_ran m_parts m_taken m_lacked m_decodings m_failures m_at m_end m_many m_wrong m_bytes m_heads m_numbers m_codes m_sizes m_guessed m_results m_values m_states m_came m_boxes m_single m_rows) s.heap.size = A at hD hG ⊢
  have hA : ∀ q : Nat, s.heap.size ≤ q → A q := fun q h => by rw [← hAe]; exact Or.inr h
  have hS : va_S A s.heap s.heap [] := va_S.rf
  have hl := lv_entry ([.ref (ad 0), .int x1]) (n := 2) (Nat.le_of_ble_eq_true rfl)
  rw [lg_entry_eq]
  generalize (lg_sl ([.ref (ad 0), .int x1]) ++ List.replicate (2 - (lg_sl ([.ref (ad 0), .int x1])).length) Slot.unset).toArray = ls at hl ⊢
  have hl : lv_has ls 2 [(0, .ref (ad 0)), (1, .int x1)] := hl
  unfold d_Mod_told at h
  refine lv_aload_n hx hb d_Mod_told_0 rfl (lv_at hl 0 rfl) ?_
  refine lv_iconst (v := 0) hx hb d_Mod_told_1 (by decide) ?_
  refine va_put (D := (dC, dI)) (ci := 4) (v := .int (0 : Int32)) (ty := .int) (C := R_Mod) (T := T_Mod) (N := 27) hx hb hB in_Mod ty_Mod tyok_Mod nd_Mod hown hK hP hD hS 0 rfl rfl 0 (by decide) (hB _ wd_218) (fun _ h9 => h9) rfl (by decide +kernel) rfl rfl (Nat.le_of_ble_eq_true rfl) d_Mod_told_2 (fun H locs hP hD hS => ?_)
  have hP : va_P (dC, dI) vwCl (x_Mod ad cs (0 : Int32) m_kind m_steps m_size m_ran m_parts m_taken m_lacked m_decodings m_failures m_at m_end m_many m_wrong m_bytes m_heads m_numbers m_codes m_sizes m_guessed m_results m_values m_states m_came m_boxes m_single m_rows) H := hP
  have hD : va_D A (x_Mod ad cs (0 : Int32) m_kind m_steps m_size m_ran m_parts m_taken m_lacked m_decodings m_failures m_at m_end m_many m_wrong m_bytes m_heads m_numbers m_codes m_sizes m_guessed m_results m_values m_states m_came m_boxes m_single m_rows) := hD
  refine lv_iload_n hx hb d_Mod_told_5 rfl (lv_at hl 1 rfl) ?_
  by_cases c_1 : x1 = 0
  · have h := (if_pos c_1).symm.trans h
    refine lv_tableIn (tgt := 56) hx hb d_Mod_told_6 (by rw [c_1]; decide) (by rw [c_1]; decide) (by first | (rw [c_1]; done) | (rw [c_1]; rfl)) (by decide) ?_
    refine lv_aload_n hx hb d_Mod_told_56 rfl (lv_at hl 0 rfl) ?_
    refine va_get (D := (dC, dI)) (ci := 4) (v := .int m_kind) (C := R_Mod) (T := T_Mod) (N := 27) hx hb hB in_Mod hown hK hP 0 rfl rfl 1 (by decide) (hB _ wd_221) (fun _ h9 => h9) rfl d_Mod_told_57 ?_
    have h := Option.some.inj h
    subst h
    exact W.iret hx hb hr (fun t ht hW => ⟨⟨_, (), rfl, rfl, AftW_mk hK hP hD ht hW⟩, hS.F ht⟩) hS.2.2 d_Mod_told_60
  have h := (if_neg c_1).symm.trans h
  by_cases c_2 : x1 = 1
  · have h := (if_pos c_2).symm.trans h
    refine lv_tableIn (tgt := 61) hx hb d_Mod_told_6 (by rw [c_2]; decide) (by rw [c_2]; decide) (by first | (rw [c_2]; done) | (rw [c_2]; rfl)) (by decide) ?_
    refine lv_aload_n hx hb d_Mod_told_61 rfl (lv_at hl 0 rfl) ?_
    refine va_get (D := (dC, dI)) (ci := 4) (v := .int m_steps) (C := R_Mod) (T := T_Mod) (N := 27) hx hb hB in_Mod hown hK hP 0 rfl rfl 2 (by decide) (hB _ wd_240) (fun _ h9 => h9) rfl d_Mod_told_62 ?_
    have h := Option.some.inj h
    subst h
    exact W.iret hx hb hr (fun t ht hW => ⟨⟨_, (), rfl, rfl, AftW_mk hK hP hD ht hW⟩, hS.F ht⟩) hS.2.2 d_Mod_told_65
  have h := (if_neg c_2).symm.trans h
  by_cases c_3 : x1 = 2
  · have h := (if_pos c_3).symm.trans h
    refine lv_tableIn (tgt := 66) hx hb d_Mod_told_6 (by rw [c_3]; decide) (by rw [c_3]; decide) (by first | (rw [c_3]; done) | (rw [c_3]; rfl)) (by decide) ?_
    refine lv_aload_n hx hb d_Mod_told_66 rfl (lv_at hl 0 rfl) ?_
    refine va_get (D := (dC, dI)) (ci := 4) (v := .int m_size) (C := R_Mod) (T := T_Mod) (N := 27) hx hb hB in_Mod hown hK hP 0 rfl rfl 4 (by decide) (hB _ wd_222) (fun _ h9 => h9) rfl d_Mod_told_67 ?_
    have h := Option.some.inj h
    subst h
    exact W.iret hx hb hr (fun t ht hW => ⟨⟨_, (), rfl, rfl, AftW_mk hK hP hD ht hW⟩, hS.F ht⟩) hS.2.2 d_Mod_told_70
  have h := (if_neg c_3).symm.trans h
  by_cases c_4 : x1 = 3
  · have h := (if_pos c_4).symm.trans h
    refine lv_tableIn (tgt := 71) hx hb d_Mod_told_6 (by rw [c_4]; decide) (by rw [c_4]; decide) (by first | (rw [c_4]; done) | (rw [c_4]; rfl)) (by decide) ?_
    refine lv_aload_n hx hb d_Mod_told_71 rfl (lv_at hl 0 rfl) ?_
    refine va_get (D := (dC, dI)) (ci := 4) (v := .int m_parts) (C := R_Mod) (T := T_Mod) (N := 27) hx hb hB in_Mod hown hK hP 0 rfl rfl 6 (by decide) (hB _ wd_220) (fun _ h9 => h9) rfl d_Mod_told_72 ?_
    have h := Option.some.inj h
    subst h
    exact W.iret hx hb hr (fun t ht hW => ⟨⟨_, (), rfl, rfl, AftW_mk hK hP hD ht hW⟩, hS.F ht⟩) hS.2.2 d_Mod_told_75
  have h := (if_neg c_4).symm.trans h
  by_cases c_5 : x1 = 4
  · have h := (if_pos c_5).symm.trans h
    refine lv_tableIn (tgt := 76) hx hb d_Mod_told_6 (by rw [c_5]; decide) (by rw [c_5]; decide) (by first | (rw [c_5]; done) | (rw [c_5]; rfl)) (by decide) ?_
    refine lv_aload_n hx hb d_Mod_told_76 rfl (lv_at hl 0 rfl) ?_
    refine va_get (D := (dC, dI)) (ci := 4) (v := .int m_taken) (C := R_Mod) (T := T_Mod) (N := 27) hx hb hB in_Mod hown hK hP 0 rfl rfl 13 (by decide) (hB _ wd_239) (fun _ h9 => h9) rfl d_Mod_told_77 ?_
    have h := Option.some.inj h
    subst h
    exact W.iret hx hb hr (fun t ht hW => ⟨⟨_, (), rfl, rfl, AftW_mk hK hP hD ht hW⟩, hS.F ht⟩) hS.2.2 d_Mod_told_80
  have h := (if_neg c_5).symm.trans h
  by_cases c_6 : x1 = 5
  · have h := (if_pos c_6).symm.trans h
    refine lv_tableIn (tgt := 81) hx hb d_Mod_told_6 (by rw [c_6]; decide) (by rw [c_6]; decide) (by first | (rw [c_6]; done) | (rw [c_6]; rfl)) (by decide) ?_
    refine lv_aload_n hx hb d_Mod_told_81 rfl (lv_at hl 0 rfl) ?_
    refine va_get (D := (dC, dI)) (ci := 4) (v := .int m_lacked) (C := R_Mod) (T := T_Mod) (N := 27) hx hb hB in_Mod hown hK hP 0 rfl rfl 14 (by decide) (hB _ wd_294) (fun _ h9 => h9) rfl d_Mod_told_82 ?_
    refine lv_if_eq (tgt := 92) hx hb d_Mod_told_85 (by decide) (fun c_7 => ?_) (fun c_7 => ?_)
    · have h := (if_pos c_7).symm.trans h
      refine lv_iconst (v := 0) hx hb d_Mod_told_92 (by decide) ?_
      have h := Option.some.inj h
      subst h
      exact W.iret hx hb hr (fun t ht hW => ⟨⟨_, (), rfl, rfl, AftW_mk hK hP hD ht hW⟩, hS.F ht⟩) hS.2.2 d_Mod_told_93
    · have h := (if_neg c_7).symm.trans h
      refine lv_iconst (v := 1) hx hb d_Mod_told_88 (by decide) ?_
      refine lv_goto (tgt := 93) hx hb d_Mod_told_89 (by decide) ?_
      have h := Option.some.inj h
      subst h
      exact W.iret hx hb hr (fun t ht hW => ⟨⟨_, (), rfl, rfl, AftW_mk hK hP hD ht hW⟩, hS.F ht⟩) hS.2.2 d_Mod_told_93
  have h := (if_neg c_6).symm.trans h
  by_cases c_8 : x1 = 6
  · have h := (if_pos c_8).symm.trans h
    refine lv_tableIn (tgt := 94) hx hb d_Mod_told_6 (by rw [c_8]; decide) (by rw [c_8]; decide) (by first | (rw [c_8]; done) | (rw [c_8]; rfl)) (by decide) ?_
    refine lv_aload_n hx hb d_Mod_told_94 rfl (lv_at hl 0 rfl) ?_
    refine va_get (D := (dC, dI)) (ci := 4) (v := .int m_decodings) (C := R_Mod) (T := T_Mod) (N := 27) hx hb hB in_Mod hown hK hP 0 rfl rfl 15 (by decide) (hB _ wd_269) (fun _ h9 => h9) rfl d_Mod_told_95 ?_
    have h := Option.some.inj h
    subst h
    exact W.iret hx hb hr (fun t ht hW => ⟨⟨_, (), rfl, rfl, AftW_mk hK hP hD ht hW⟩, hS.F ht⟩) hS.2.2 d_Mod_told_98
  have h := (if_neg c_8).symm.trans h
  by_cases c_9 : x1 = 7
  · have h := (if_pos c_9).symm.trans h
    refine lv_tableIn (tgt := 99) hx hb d_Mod_told_6 (by rw [c_9]; decide) (by rw [c_9]; decide) (by first | (rw [c_9]; done) | (rw [c_9]; rfl)) (by decide) ?_
    refine lv_aload_n hx hb d_Mod_told_99 rfl (lv_at hl 0 rfl) ?_
    refine va_get (D := (dC, dI)) (ci := 4) (v := .int m_failures) (C := R_Mod) (T := T_Mod) (N := 27) hx hb hB in_Mod hown hK hP 0 rfl rfl 16 (by decide) (hB _ wd_270) (fun _ h9 => h9) rfl d_Mod_told_100 ?_
    have h := Option.some.inj h
    subst h
    exact W.iret hx hb hr (fun t ht hW => ⟨⟨_, (), rfl, rfl, AftW_mk hK hP hD ht hW⟩, hS.F ht⟩) hS.2.2 d_Mod_told_103
  have h := (if_neg c_9).symm.trans h
  by_cases c_10 : x1 = 8
  · have h := (if_pos c_10).symm.trans h
    refine lv_tableIn (tgt := 104) hx hb d_Mod_told_6 (by rw [c_10]; decide) (by rw [c_10]; decide) (by first | (rw [c_10]; done) | (rw [c_10]; rfl)) (by decide) ?_
    refine lv_aload_n hx hb d_Mod_told_104 rfl (lv_at hl 0 rfl) ?_
    obtain ⟨o11, ho11, h⟩ := Option.bind_eq_some_iff.mp h
    have hKc := hK.sub (tys' := [((cs 1), .int), ((cs 2), .int), ((cs 3), .int), ((cs 4), .int), ((cs 5), .int), ((cs 6), .boolean), ((cs 7), .int), ((cs 8), .int), ((cs 9), .int), ((cs 10), .int), ((cs 11), .int), ((cs 12), .int), ((cs 13), .int)]) [0, 1, 2, 3, 4, 5, 6, 7, 8, 9, 10, 11, 12] rfl
    have hPc := hP.sub (ws' := x_Mod ad cs (0 : Int32) m_kind m_steps m_size m_ran m_parts m_taken m_lacked m_decodings m_failures m_at m_end m_many m_wrong m_bytes m_heads m_numbers m_codes m_sizes m_guessed m_results m_values m_states m_came m_boxes m_single m_rows) [0, 1, 2, 3, 4, 5, 6, 7, 8, 9, 10, 11, 12, 13] rfl
    have hDc := hD.sub (ws' := x_Mod ad cs (0 : Int32) m_kind m_steps m_size m_ran m_parts m_taken m_lacked m_decodings m_failures m_at m_end m_many m_wrong m_bytes m_heads m_numbers m_codes m_sizes m_guessed m_results m_values m_states m_came m_boxes m_single m_rows) [0, 1, 2, 3, 4, 5, 6, 7, 8, 9, 10, 11, 12, 13] (by decide) rfl
    have hFc := va_free (wc := x_Mod ad cs (0 : Int32) m_kind m_steps m_size m_ran m_parts m_taken m_lacked m_decodings m_failures m_at m_end m_many m_wrong m_bytes m_heads m_numbers m_codes m_sizes m_guessed m_results m_values m_states m_came m_boxes m_single m_rows) hD hS hA [0, 1, 2, 3, 4, 5, 6, 7, 8, 9, 10, 11, 12, 13] rfl
    refine va_calli (va_runV (As := []) (rest := []) ⟨hx, hb, hml, hown, hB⟩ (c_Mod_sure l dC dI tt ad cs H.size N (0 : Int32) m_kind m_steps m_size m_ran m_parts m_taken m_lacked m_decodings m_failures m_at m_end m_many m_wrong m_bytes m_heads m_numbers m_codes m_sizes m_guessed m_results m_values m_states m_came m_boxes m_single m_rows o11 ho11) (cwV 0 hB (gV wd_322 wd_320 wd_319 wd_226 wd_321) rfl rfl rfl (by decide +kernel) ⟨Nat.le_of_ble_eq_true rfl, Nat.le_of_ble_eq_true rfl⟩) ⟨PreW_blind, va_recv hKc hPc (ci := 4) (q0 := 0) rfl rfl, PreW_mk hKc hPc hDc hG hS hFc⟩ rfl rfl hl.1 rfl (lv_room (Nat.le_of_ble_eq_true rfl)) d_Mod_told_105 ⟨Nat.le_of_ble_eq_true rfl, Nat.le_of_ble_eq_true rfl⟩) hS (fun q _ h => hFc q h) hFc (fun r_11 u_11 t H1 locs ht hvm hw hB hz1 hk1 hS => ?_)
    have hw := hw.symm
    subst hw
    obtain ⟨hP1, hK1, hD1⟩ := hB
    rw [ht] at hP1
    obtain ⟨hP, hD⟩ := va_join (wr := pick (x_Mod ad cs (0 : Int32) m_kind m_steps m_size m_ran m_parts m_taken m_lacked m_decodings m_failures m_at m_end m_many m_wrong m_bytes m_heads m_numbers m_codes m_sizes m_guessed m_results m_values m_states m_came m_boxes m_single m_rows) []) hP hD [0, 1, 2, 3, 4, 5, 6, 7, 8, 9, 10, 11, 12, 13] [] rfl rfl (by decide) (by decide) hk1 hFc hP1 hD1
    generalize H1 = H at hP hS ⊢
    have hP : va_P (dC, dI) vwCl (x_Mod ad cs (0 : Int32) m_kind m_steps m_size m_ran m_parts m_taken m_lacked m_decodings m_failures m_at m_end m_many m_wrong m_bytes m_heads m_numbers m_codes m_sizes m_guessed m_results m_values m_states m_came m_boxes m_single m_rows) H := hP.sub [0, 1, 2, 3, 4, 5, 6, 7, 8, 9, 10, 11, 12, 13] rfl
    have hD : va_D A (x_Mod ad cs (0 : Int32) m_kind m_steps m_size m_ran m_parts m_taken m_lacked m_decodings m_failures m_at m_end m_many m_wrong m_bytes m_heads m_numbers m_codes m_sizes m_guessed m_results m_values m_states m_came m_boxes m_single m_rows) := hD.sub [0, 1, 2, 3, 4, 5, 6, 7, 8, 9, 10, 11, 12, 13] (by decide) rfl
    have h := Option.some.inj h
    subst h
    exact W.iret hx hb hr (fun t ht hW => ⟨⟨_, (), rfl, rfl, AftW_mk hK hP hD ht hW⟩, hS.F ht⟩) hS.2.2 d_Mod_told_108
  have h := (if_neg c_10).symm.trans h
  refine lv_tableOut (tgt := 109) hx hb d_Mod_told_6 (by have e0 := lv_neT (a := 0) c_1 (by decide); have e1 := lv_neT (a := 1) c_2 (by decide); have e2 := lv_neT (a := 2) c_3 (by decide); have e3 := lv_neT (a := 3) c_4 (by decide); have e4 := lv_neT (a := 4) c_5 (by decide); have e5 := lv_neT (a := 5) c_6 (by decide); have e6 := lv_neT (a := 6) c_8 (by decide); have e7 := lv_neT (a := 7) c_9 (by decide); have e8 := lv_neT (a := 8) c_10 (by decide); omega) (by decide) ?_
  refine lv_iconst (v := (-1)) hx hb d_Mod_told_109 (by decide) ?_
  have h := Option.some.inj h
  subst h
  exact W.iret hx hb hr (fun t ht hW => ⟨⟨_, (), rfl, rfl, AftW_mk hK hP hD ht hW⟩, hS.F ht⟩) hS.2.2 d_Mod_told_110
def d_Mod_clear_L26 (N : Nat) : Nat → Int32 → Int32 → Int32 → Int32 → Int32 → Int32 → Int32 → (Nat → Int32) → Option (Int32 × Int32 × Int32 × Int32 × Int32 × Int32 × (Nat → Int32))
  | 0, _, _, _, _, _, _, _, _ => none
  | n + 1, y26_1, m_thrown_26, m_size_26, m_ran_26, m_parts_26, m_taken_26, m_lacked_26, m_states_26 => if (256 : Int32) ≤ y26_1 then some (m_thrown_26, m_size_26, m_ran_26, m_parts_26, m_taken_26, m_lacked_26, m_states_26) else gI y26_1 256 (d_Mod_clear_L26 N n (y26_1 + 1) m_thrown_26 m_size_26 m_ran_26 m_parts_26 m_taken_26 m_lacked_26 (upd m_states_26 y26_1.toNatClampNeg (0 : Int32)))
def d_Mod_clear (N : Nat) (m_thrown : Int32) (m_size : Int32) (m_ran : Int32) (m_parts : Int32) (m_taken : Int32) (m_lacked : Int32) (m_states : Nat → Int32) : Option (Int32 × Int32 × Int32 × Int32 × Int32 × Int32 × (Nat → Int32)) :=
 (d_Mod_lose N m_ran m_parts).bind (fun o1 => (d_Mod_clear_L26 N N (0 : Int32) (0 : Int32) (0 : Int32) o1.1 o1.2 (0 : Int32) (0 : Int32) m_states).bind (fun s26 => some (s26.1, s26.2.1, s26.2.2.1, s26.2.2.2.1, s26.2.2.2.2.1, s26.2.2.2.2.2.1, s26.2.2.2.2.2.2)))
abbrev rm_Mod_clear : Room := { frames := 1, cells := 0, slots := 0, locals := 20 }
set_option maxHeartbeats 4000000 in
set_option maxRecDepth 100000 in
theorem c_Mod_clear (l : Launch) (dC : Nat → ClassId) (dI : Nat → Nat → Nat) (tt : Nat → Nat) (ad : Nat → Nat) (cs : Nat → ClassId) (sz N : Nat) (m_thrown : Int32) (m_kind : Int32) (m_steps : Int32) (m_size : Int32) (m_ran : Int32) (m_parts : Int32) (m_taken : Int32) (m_lacked : Int32) (m_decodings : Int32) (m_failures : Int32) (m_at : Int32) (m_end : Int32) (m_many : Int32) (m_wrong : Int32) (m_bytes : Nat → Int32) (m_heads : Nat → Int32) (m_numbers : Nat → Int32) (m_codes : Nat → Int32) (m_sizes : Nat → Int32) (m_guessed : Nat → Int32) (m_results : Nat → Int32) (m_values : Nat → Int32) (m_states : Nat → Int32) (m_came : Nat → Int32) (m_boxes : Nat → Int32) (m_single : Nat → Int32) (m_rows : Nat → Int32) (out : Int32 × Int32 × Int32 × Int32 × Int32 × Int32 × (Nat → Int32)) (h : d_Mod_clear N m_thrown m_size m_ran m_parts m_taken m_lacked m_states = some out) :
    Met l y_Mod_clear (w_Mod_clear) rm_Mod_clear (va_Pc [.ref (ad 0)] (PreW (dC, dI) [((cs 1), .int), ((cs 2), .int), ((cs 3), .int), ((cs 4), .int), ((cs 5), .int), ((cs 6), .boolean), ((cs 7), .int), ((cs 8), .int), ((cs 9), .int), ((cs 10), .int), ((cs 11), .int), ((cs 12), .int), ((cs 13), .int)] (x_Mod ad cs m_thrown m_kind m_steps m_size m_ran m_parts m_taken m_lacked m_decodings m_failures m_at m_end m_many m_wrong m_bytes m_heads m_numbers m_codes m_sizes m_guessed m_results m_values m_states m_came m_boxes m_single m_rows) sz tt)) (va_Qv (fun (_ : Unit) => True) (fun _ => AftW (dC, dI) [((cs 1), .int), ((cs 2), .int), ((cs 3), .int), ((cs 4), .int), ((cs 5), .int), ((cs 6), .boolean), ((cs 7), .int), ((cs 8), .int), ((cs 9), .int), ((cs 10), .int), ((cs 11), .int), ((cs 12), .int), ((cs 13), .int)] (va_A (x_Mod ad cs m_thrown m_kind m_steps m_size m_ran m_parts m_taken m_lacked m_decodings m_failures m_at m_end m_many m_wrong m_bytes m_heads m_numbers m_codes m_sizes m_guessed m_results m_values m_states m_came m_boxes m_single m_rows) sz) (x_Mod ad cs out.1 m_kind m_steps out.2.1 out.2.2.1 out.2.2.2.1 out.2.2.2.2.1 out.2.2.2.2.2.1 m_decodings m_failures m_at m_end m_many m_wrong m_bytes m_heads m_numbers m_codes m_sizes m_guessed m_results m_values out.2.2.2.2.2.2 m_came m_boxes m_single m_rows)) (va_A (x_Mod ad cs m_thrown m_kind m_steps m_size m_ran m_parts m_taken m_lacked m_decodings m_failures m_at m_end m_many m_wrong m_bytes m_heads m_numbers m_codes m_sizes m_guessed m_results m_values m_states m_came m_boxes m_single m_rows) sz)) 0 0 (va_A (x_Mod ad cs m_thrown m_kind m_steps m_size m_ran m_parts m_taken m_lacked m_decodings m_failures m_at m_end m_many m_wrong m_bytes m_heads m_numbers m_codes m_sizes m_guessed m_results m_values m_states m_came m_boxes m_single m_rows) sz) := by
  refine Met.ofW (cc := k_Mod_clear) (maxL := 2) (ret := none) (by decide) rfl ?_
  intro p e s m args below meth c s₁ B hml hv
  obtain ⟨rfl, hsz, hP, hK, hD0, hG⟩ := hv
  have hx := B.exec
  have hb := B.bytes
  have hr := B.returns
  have hts := atoms_spec (ws := (w_Mod_clear)) B.pre
  have hB : ∀ w ∈ BIG, w.before _ s = true := fun w h9 => hts w (List.mem_cons_of_mem _ h9)
  have hown : s.vm.findClass R_Mod = some m.cls := findClass_of_methodNamed B.named
  have hlocks := B.notSynchronized
  subst hsz
  have hD := hD0.self (sz := s.heap.size)
  generalize hAe : va_A (x_Mod ad cs m_thrown m_kind m_steps m_size m_ran m_parts m_taken m_lacked m_decodings m_failures m_at m_end m_many m_wrong m_bytes m_heads m_numbers m_codes m_sizes m_guessed m_results m_values m_states m_came m_boxes m_single m_rows) s.heap.size = A at hD hG ⊢
  have hA : ∀ q : Nat, s.heap.size ≤ q → A q := fun q h => by rw [← hAe]; exact Or.inr h
  have hS : va_S A s.heap s.heap [] := va_S.rf
  have hl := lv_entry ([.ref (ad 0)]) (n := 2) (Nat.le_of_ble_eq_true rfl)
  rw [lg_entry_eq]
  generalize (lg_sl ([.ref (ad 0)]) ++ List.replicate (2 - (lg_sl ([.ref (ad 0)])).length) Slot.unset).toArray = ls at hl ⊢
  have hl : lv_has ls 2 [(0, .ref (ad 0))] := hl
  unfold d_Mod_clear at h
  refine lv_aload_n hx hb d_Mod_clear_0 rfl (lv_at hl 0 rfl) ?_
  refine lv_iconst (v := 0) hx hb d_Mod_clear_1 (by decide) ?_
  refine va_put (D := (dC, dI)) (ci := 4) (v := .int (0 : Int32)) (ty := .int) (C := R_Mod) (T := T_Mod) (N := 27) hx hb hB in_Mod ty_Mod tyok_Mod nd_Mod hown hK hP hD hS 0 rfl rfl 0 (by decide) (hB _ wd_218) (fun _ h9 => h9) rfl (by decide +kernel) rfl rfl (Nat.le_of_ble_eq_true rfl) d_Mod_clear_2 (fun H locs hP hD hS => ?_)
  have hP : va_P (dC, dI) vwCl (x_Mod ad cs (0 : Int32) m_kind m_steps m_size m_ran m_parts m_taken m_lacked m_decodings m_failures m_at m_end m_many m_wrong m_bytes m_heads m_numbers m_codes m_sizes m_guessed m_results m_values m_states m_came m_boxes m_single m_rows) H := hP
  have hD : va_D A (x_Mod ad cs (0 : Int32) m_kind m_steps m_size m_ran m_parts m_taken m_lacked m_decodings m_failures m_at m_end m_many m_wrong m_bytes m_heads m_numbers m_codes m_sizes m_guessed m_results m_values m_states m_came m_boxes m_single m_rows) := hD
  refine lv_aload_n hx hb d_Mod_clear_5 rfl (lv_at hl 0 rfl) ?_
  refine lv_iconst (v := 0) hx hb d_Mod_clear_6 (by decide) ?_
  refine va_put (D := (dC, dI)) (ci := 4) (v := .int (0 : Int32)) (ty := .int) (C := R_Mod) (T := T_Mod) (N := 27) hx hb hB in_Mod ty_Mod tyok_Mod nd_Mod hown hK hP hD hS 0 rfl rfl 4 (by decide) (hB _ wd_222) (fun _ h9 => h9) rfl (by decide +kernel) rfl rfl (Nat.le_of_ble_eq_true rfl) d_Mod_clear_7 (fun H locs hP hD hS => ?_)
  have hP : va_P (dC, dI) vwCl (x_Mod ad cs (0 : Int32) m_kind m_steps (0 : Int32) m_ran m_parts m_taken m_lacked m_decodings m_failures m_at m_end m_many m_wrong m_bytes m_heads m_numbers m_codes m_sizes m_guessed m_results m_values m_states m_came m_boxes m_single m_rows) H := hP
  have hD : va_D A (x_Mod ad cs (0 : Int32) m_kind m_steps (0 : Int32) m_ran m_parts m_taken m_lacked m_decodings m_failures m_at m_end m_many m_wrong m_bytes m_heads m_numbers m_codes m_sizes m_guessed m_results m_values m_states m_came m_boxes m_single m_rows) := hD
  refine lv_aload_n hx hb d_Mod_clear_10 rfl (lv_at hl 0 rfl) ?_
  refine lv_iconst (v := 0) hx hb d_Mod_clear_11 (by decide) ?_
  refine va_put (D := (dC, dI)) (ci := 4) (v := .int (0 : Int32)) (ty := .int) (C := R_Mod) (T := T_Mod) (N := 27) hx hb hB in_Mod ty_Mod tyok_Mod nd_Mod hown hK hP hD hS 0 rfl rfl 13 (by decide) (hB _ wd_239) (fun _ h9 => h9) rfl (by decide +kernel) rfl rfl (Nat.le_of_ble_eq_true rfl) d_Mod_clear_12 (fun H locs hP hD hS => ?_)
  have hP : va_P (dC, dI) vwCl (x_Mod ad cs (0 : Int32) m_kind m_steps (0 : Int32) m_ran m_parts (0 : Int32) m_lacked m_decodings m_failures m_at m_end m_many m_wrong m_bytes m_heads m_numbers m_codes m_sizes m_guessed m_results m_values m_states m_came m_boxes m_single m_rows) H := hP
  have hD : va_D A (x_Mod ad cs (0 : Int32) m_kind m_steps (0 : Int32) m_ran m_parts (0 : Int32) m_lacked m_decodings m_failures m_at m_end m_many m_wrong m_bytes m_heads m_numbers m_codes m_sizes m_guessed m_results m_values m_states m_came m_boxes m_single m_rows) := hD
  refine lv_aload_n hx hb d_Mod_clear_15 rfl (lv_at hl 0 rfl) ?_
  refine lv_iconst (v := 0) hx hb d_Mod_clear_16 (by decide) ?_
  refine va_put (D := (dC, dI)) (ci := 4) (v := .int (0 : Int32)) (ty := .boolean) (C := R_Mod) (T := T_Mod) (N := 27) hx hb hB in_Mod ty_Mod tyok_Mod nd_Mod hown hK hP hD hS 0 rfl rfl 14 (by decide) (hB _ wd_294) (fun _ h9 => h9) rfl (by decide +kernel) rfl rfl (Nat.le_of_ble_eq_true rfl) d_Mod_clear_17 (fun H locs hP hD hS => ?_)
  have hP : va_P (dC, dI) vwCl (x_Mod ad cs (0 : Int32) m_kind m_steps (0 : Int32) m_ran m_parts (0 : Int32) (0 : Int32) m_decodings m_failures m_at m_end m_many m_wrong m_bytes m_heads m_numbers m_codes m_sizes m_guessed m_results m_values m_states m_came m_boxes m_single m_rows) H := hP
  have hD : va_D A (x_Mod ad cs (0 : Int32) m_kind m_steps (0 : Int32) m_ran m_parts (0 : Int32) (0 : Int32) m_decodings m_failures m_at m_end m_many m_wrong m_bytes m_heads m_numbers m_codes m_sizes m_guessed m_results m_values m_states m_came m_boxes m_single m_rows) := hD
  refine lv_aload_n hx hb d_Mod_clear_20 rfl (lv_at hl 0 rfl) ?_
  obtain ⟨o1, ho1, h⟩ := Option.bind_eq_some_iff.mp h
  have hKc := hK.sub (tys' := [((cs 1), .int), ((cs 2), .int), ((cs 3), .int), ((cs 4), .int), ((cs 5), .int), ((cs 6), .boolean), ((cs 7), .int), ((cs 8), .int), ((cs 9), .int), ((cs 10), .int), ((cs 11), .int), ((cs 12), .int), ((cs 13), .int)]) [0, 1, 2, 3, 4, 5, 6, 7, 8, 9, 10, 11, 12] rfl
  have hPc := hP.sub (ws' := x_Mod ad cs (0 : Int32) m_kind m_steps (0 : Int32) m_ran m_parts (0 : Int32) (0 : Int32) m_decodings m_failures m_at m_end m_many m_wrong m_bytes m_heads m_numbers m_codes m_sizes m_guessed m_results m_values m_states m_came m_boxes m_single m_rows) [0, 1, 2, 3, 4, 5, 6, 7, 8, 9, 10, 11, 12, 13] rfl
  have hDc := hD.sub (ws' := x_Mod ad cs (0 : Int32) m_kind m_steps (0 : Int32) m_ran m_parts (0 : Int32) (0 : Int32) m_decodings m_failures m_at m_end m_many m_wrong m_bytes m_heads m_numbers m_codes m_sizes m_guessed m_results m_values m_states m_came m_boxes m_single m_rows) [0, 1, 2, 3, 4, 5, 6, 7, 8, 9, 10, 11, 12, 13] (by decide) rfl
  have hFc := va_free (wc := x_Mod ad cs (0 : Int32) m_kind m_steps (0 : Int32) m_ran m_parts (0 : Int32) (0 : Int32) m_decodings m_failures m_at m_end m_many m_wrong m_bytes m_heads m_numbers m_codes m_sizes m_guessed m_results m_values m_states m_came m_boxes m_single m_rows) hD hS hA [0, 1, 2, 3, 4, 5, 6, 7, 8, 9, 10, 11, 12, 13] rfl
  refine va_callv (va_runV (As := []) (rest := []) ⟨hx, hb, hml, hown, hB⟩ (c_Mod_lose l dC dI tt ad cs H.size N (0 : Int32) m_kind m_steps (0 : Int32) m_ran m_parts (0 : Int32) (0 : Int32) m_decodings m_failures m_at m_end m_many m_wrong m_bytes m_heads m_numbers m_codes m_sizes m_guessed m_results m_values m_states m_came m_boxes m_single m_rows o1 ho1) (cwV 0 hB (gV wd_292 wd_290 wd_289 wd_226 wd_291) rfl rfl rfl (by decide +kernel) ⟨Nat.le_of_ble_eq_true rfl, Nat.le_of_ble_eq_true rfl⟩) ⟨PreW_blind, va_recv hKc hPc (ci := 4) (q0 := 0) rfl rfl, PreW_mk hKc hPc hDc hG hS hFc⟩ rfl rfl hl.1 rfl (lv_room (Nat.le_of_ble_eq_true rfl)) d_Mod_clear_21 ⟨Nat.le_of_ble_eq_true rfl, Nat.le_of_ble_eq_true rfl⟩) hS (fun q _ h => hFc q h) hFc (fun u_1 t H1 locs ht hvm hw hB hz1 hk1 hS => ?_)
  obtain ⟨hP1, hK1, hD1⟩ := hB
  rw [ht] at hP1
  obtain ⟨hP, hD⟩ := va_join (wr := pick (x_Mod ad cs (0 : Int32) m_kind m_steps (0 : Int32) m_ran m_parts (0 : Int32) (0 : Int32) m_decodings m_failures m_at m_end m_many m_wrong m_bytes m_heads m_numbers m_codes m_sizes m_guessed m_results m_values m_states m_came m_boxes m_single m_rows) []) hP hD [0, 1, 2, 3, 4, 5, 6, 7, 8, 9, 10, 11, 12, 13] [] rfl rfl (by decide) (by decide) hk1 hFc hP1 hD1
  generalize H1 = H at hP hS ⊢
  have hP : va_P (dC, dI) vwCl (x_Mod ad cs (0 : Int32) m_kind m_steps (0 : Int32) o1.1 o1.2 (0 : Int32) (0 : Int32) m_decodings m_failures m_at m_end m_many m_wrong m_bytes m_heads m_numbers m_codes m_sizes m_guessed m_results m_values m_states m_came m_boxes m_single m_rows) H := hP.sub [0, 1, 2, 3, 4, 5, 6, 7, 8, 9, 10, 11, 12, 13] rfl
  have hD : va_D A (x_Mod ad cs (0 : Int32) m_kind m_steps (0 : Int32) o1.1 o1.2 (0 : Int32) (0 : Int32) m_decodings m_failures m_at m_end m_many m_wrong m_bytes m_heads m_numbers m_codes m_sizes m_guessed m_results m_values m_states m_came m_boxes m_single m_rows) := hD.sub [0, 1, 2, 3, 4, 5, 6, 7, 8, 9, 10, 11, 12, 13] (by decide) rfl
  refine lv_iconst (v := 0) hx hb d_Mod_clear_24 (by decide) ?_
  refine lv_istore_n (lv' := [(1, .int (0 : Int32)), (0, .ref (ad 0))]) hx hb d_Mod_clear_25 rfl hl (by decide) rfl (fun ls hl => ?_)
  obtain ⟨s26, hs26, h⟩ := Option.bind_eq_some_iff.mp h
  have X26 : ∀ (H : Heap) (locs : List Loc) (ls : Array Slot), lv_has ls 2 [] → va_P (dC, dI) vwCl (x_Mod ad cs s26.1 m_kind m_steps s26.2.1 s26.2.2.1 s26.2.2.2.1 s26.2.2.2.2.1 s26.2.2.2.2.2.1 m_decodings m_failures m_at m_end m_many m_wrong m_bytes m_heads m_numbers m_codes m_sizes m_guessed m_results m_values s26.2.2.2.2.2.2 m_came m_boxes m_single m_rows) H → va_D A (x_Mod ad cs s26.1 m_kind m_steps s26.2.1 s26.2.2.1 s26.2.2.2.1 s26.2.2.2.2.1 s26.2.2.2.2.2.1 m_decodings m_failures m_at m_end m_many m_wrong m_bytes m_heads m_numbers m_codes m_sizes m_guessed m_results m_values s26.2.2.2.2.2.2 m_came m_boxes m_single m_rows) → va_S A s.heap H locs → W p l e (headSpec (w_Mod_clear) rm_Mod_clear).room s m ([.ref (ad 0)] : List Value).toArray below meth c H locs 0 0 (MQ below (va_Qv (fun (_ : Unit) => True) (fun _ => AftW (dC, dI) [((cs 1), .int), ((cs 2), .int), ((cs 3), .int), ((cs 4), .int), ((cs 5), .int), ((cs 6), .boolean), ((cs 7), .int), ((cs 8), .int), ((cs 9), .int), ((cs 10), .int), ((cs 11), .int), ((cs 12), .int), ((cs 13), .int)] A (x_Mod ad cs out.1 m_kind m_steps out.2.1 out.2.2.1 out.2.2.2.1 out.2.2.2.2.1 out.2.2.2.2.2.1 m_decodings m_failures m_at m_end m_many m_wrong m_bytes m_heads m_numbers m_codes m_sizes m_guessed m_results m_values out.2.2.2.2.2.2 m_came m_boxes m_single m_rows)) A) ([.ref (ad 0)] : List Value).toArray s 0 0 A) (F0 m 46 ls []) := by
    intro H locs ls hl hP hD hS
    have h := Option.some.inj h
    subst h
    exact W.vret hx hb hr (fun t ht hW => ⟨⟨(), rfl, trivial, AftW_mk hK hP hD ht hW⟩, hS.F ht⟩) hS.2.2 d_Mod_clear_46
  have L26 : ∀ (n : Nat) (y26_1 : Int32) (m_thrown_26 : Int32) (m_size_26 : Int32) (m_ran_26 : Int32) (m_parts_26 : Int32) (m_taken_26 : Int32) (m_lacked_26 : Int32) (m_states_26 : Nat → Int32) (H : Heap) (locs : List Loc) (ls : Array Slot), lv_has ls 2 [(0, .ref (ad 0)), (1, .int y26_1)] → va_P (dC, dI) vwCl (x_Mod ad cs m_thrown_26 m_kind m_steps m_size_26 m_ran_26 m_parts_26 m_taken_26 m_lacked_26 m_decodings m_failures m_at m_end m_many m_wrong m_bytes m_heads m_numbers m_codes m_sizes m_guessed m_results m_values m_states_26 m_came m_boxes m_single m_rows) H → va_D A (x_Mod ad cs m_thrown_26 m_kind m_steps m_size_26 m_ran_26 m_parts_26 m_taken_26 m_lacked_26 m_decodings m_failures m_at m_end m_many m_wrong m_bytes m_heads m_numbers m_codes m_sizes m_guessed m_results m_values m_states_26 m_came m_boxes m_single m_rows) → va_S A s.heap H locs → d_Mod_clear_L26 N n y26_1 m_thrown_26 m_size_26 m_ran_26 m_parts_26 m_taken_26 m_lacked_26 m_states_26 = some s26 → W p l e (headSpec (w_Mod_clear) rm_Mod_clear).room s m ([.ref (ad 0)] : List Value).toArray below meth c H locs 0 0 (MQ below (va_Qv (fun (_ : Unit) => True) (fun _ => AftW (dC, dI) [((cs 1), .int), ((cs 2), .int), ((cs 3), .int), ((cs 4), .int), ((cs 5), .int), ((cs 6), .boolean), ((cs 7), .int), ((cs 8), .int), ((cs 9), .int), ((cs 10), .int), ((cs 11), .int), ((cs 12), .int), ((cs 13), .int)] A (x_Mod ad cs out.1 m_kind m_steps out.2.1 out.2.2.1 out.2.2.2.1 out.2.2.2.2.1 out.2.2.2.2.2.1 m_decodings m_failures m_at m_end m_many m_wrong m_bytes m_heads m_numbers m_codes m_sizes m_guessed m_results m_values out.2.2.2.2.2.2 m_came m_boxes m_single m_rows)) A) ([.ref (ad 0)] : List Value).toArray s 0 0 A) (F0 m 26 ls []) := by
    intro n
    induction n with
    | zero =>
      intro y26_1 m_thrown_26 m_size_26 m_ran_26 m_parts_26 m_taken_26 m_lacked_26 m_states_26 H locs ls hl hP hD hS h
      rw [d_Mod_clear_L26] at h
      cases h
    | succ n ih =>
      intro y26_1 m_thrown_26 m_size_26 m_ran_26 m_parts_26 m_taken_26 m_lacked_26 m_states_26 H locs ls hl hP hD hS h
      rw [d_Mod_clear_L26] at h
      refine lv_iload_n hx hb d_Mod_clear_26 rfl (lv_at hl 1 rfl) ?_
      refine lv_sipush (v := 256) hx hb d_Mod_clear_27 (by decide) ?_
      refine lv_icmp_ge (tgt := 46) hx hb d_Mod_clear_30 (by decide) (fun c_2 => ?_) (fun c_2 => ?_)
      · have h := (if_pos c_2).symm.trans h
        have h := Option.some.inj h
        subst h
        exact X26 H locs ls (lv_sub hl [] rfl) hP hD hS
      · have h := (if_neg c_2).symm.trans h
        refine lv_aload_n hx hb d_Mod_clear_33 rfl (lv_at hl 0 rfl) ?_
        refine va_get (D := (dC, dI)) (ci := 4) (v := .ref (ad 9)) (C := R_Mod) (T := T_Mod) (N := 27) hx hb hB in_Mod hown hK hP 0 rfl rfl 18 (by decide) (hB _ wd_272) (fun _ h9 => h9) rfl d_Mod_clear_34 ?_
        refine lv_iload_n hx hb d_Mod_clear_37 rfl (lv_at hl 1 rfl) ?_
        refine lv_iconst (v := 0) hx hb d_Mod_clear_38 (by decide) ?_
        obtain ⟨b_3, h⟩ := gI_some h
        refine va_iast hx hb hK hP hD hS 9 8 rfl rfl b_3 d_Mod_clear_39 (fun H locs hP hD hS => ?_)
        have hP : va_P (dC, dI) vwCl (x_Mod ad cs m_thrown_26 m_kind m_steps m_size_26 m_ran_26 m_parts_26 m_taken_26 m_lacked_26 m_decodings m_failures m_at m_end m_many m_wrong m_bytes m_heads m_numbers m_codes m_sizes m_guessed m_results m_values (upd m_states_26 y26_1.toNatClampNeg (0 : Int32)) m_came m_boxes m_single m_rows) H := hP
        have hD : va_D A (x_Mod ad cs m_thrown_26 m_kind m_steps m_size_26 m_ran_26 m_parts_26 m_taken_26 m_lacked_26 m_decodings m_failures m_at m_end m_many m_wrong m_bytes m_heads m_numbers m_codes m_sizes m_guessed m_results m_values (upd m_states_26 y26_1.toNatClampNeg (0 : Int32)) m_came m_boxes m_single m_rows) := hD
        refine lv_iinc (v := y26_1 + 1) (lv' := [(1, .int (y26_1 + 1)), (0, .ref (ad 0))]) hx hb d_Mod_clear_40 hl (k := 1) rfl rfl (by decide) rfl (fun ls hl => ?_)
        refine lv_goto (tgt := 26) hx hb d_Mod_clear_43 (by decide) ?_
        exact ih (y26_1 + 1) m_thrown_26 m_size_26 m_ran_26 m_parts_26 m_taken_26 m_lacked_26 (upd m_states_26 y26_1.toNatClampNeg (0 : Int32)) H locs ls (lv_sub hl [1, 0] rfl) hP hD hS h
  exact L26 N (0 : Int32) (0 : Int32) (0 : Int32) o1.1 o1.2 (0 : Int32) (0 : Int32) m_states _ _ ls (lv_sub hl [1, 0] rfl) hP hD hS hs26
