def d_Mod_differing (N : Nat) (m_at : Int32) (m_end : Int32) (m_many : Int32) (m_wrong : Int32) (m_bytes : Nat → Int32) (m_came : Nat → Int32) : Option (Int32 × Int32 × Int32 × (Nat → Int32)) :=
 (d_Mod_take N m_at m_end m_wrong m_bytes).bind (fun o1 => if m_many = 0 then if o1.1 < 0 then (d_Mod_fail N (6 : Int32) o1.2.2).bind (fun o20 => (d_Mod_give N o1.1 m_many o20 m_came).bind (fun o21 => some (o1.2.1, o21.1, o20, o21.2))) else if o1.1 ≤ (255 : Int32) then (d_Mod_give N o1.1 m_many o1.2.2 m_came).bind (fun o23 => some (o1.2.1, o23.1, o1.2.2, o23.2)) else (d_Mod_fail N (6 : Int32) o1.2.2).bind (fun o24 => (d_Mod_give N o1.1 m_many o24 m_came).bind (fun o25 => some (o1.2.1, o25.1, o24, o25.2))) else gI (m_many - (1 : Int32)) 16 (if o1.1 ≤ (127 : Int32) then if ((m_came (m_many - (1 : Int32)).toNatClampNeg) + o1.1) < 0 then (d_Mod_fail N (6 : Int32) o1.2.2).bind (fun o6 => (d_Mod_give N ((m_came (m_many - (1 : Int32)).toNatClampNeg) + o1.1) m_many o6 m_came).bind (fun o7 => some (o1.2.1, o7.1, o6, o7.2))) else if ((m_came (m_many - (1 : Int32)).toNatClampNeg) + o1.1) ≤ (255 : Int32) then (d_Mod_give N ((m_came (m_many - (1 : Int32)).toNatClampNeg) + o1.1) m_many o1.2.2 m_came).bind (fun o9 => some (o1.2.1, o9.1, o1.2.2, o9.2)) else (d_Mod_fail N (6 : Int32) o1.2.2).bind (fun o10 => (d_Mod_give N ((m_came (m_many - (1 : Int32)).toNatClampNeg) + o1.1) m_many o10 m_came).bind (fun o11 => some (o1.2.1, o11.1, o10, o11.2))) else if ((m_came (m_many - (1 : Int32)).toNatClampNeg) + (o1.1 - (256 : Int32))) < 0 then (d_Mod_fail N (6 : Int32) o1.2.2).bind (fun o13 => (d_Mod_give N ((m_came (m_many - (1 : Int32)).toNatClampNeg) + (o1.1 - (256 : Int32))) m_many o13 m_came).bind (fun o14 => some (o1.2.1, o14.1, o13, o14.2))) else if ((m_came (m_many - (1 : Int32)).toNatClampNeg) + (o1.1 - (256 : Int32))) ≤ (255 : Int32) then (d_Mod_give N ((m_came (m_many - (1 : Int32)).toNatClampNeg) + (o1.1 - (256 : Int32))) m_many o1.2.2 m_came).bind (fun o16 => some (o1.2.1, o16.1, o1.2.2, o16.2)) else (d_Mod_fail N (6 : Int32) o1.2.2).bind (fun o17 => (d_Mod_give N ((m_came (m_many - (1 : Int32)).toNatClampNeg) + (o1.1 - (256 : Int32))) m_many o17 m_came).bind (fun o18 => some (o1.2.1, o18.1, o17, o18.2)))))
abbrev rm_Mod_differing : Room := { frames := 2, cells := 0, slots := 0, locals := 41 }
set_option maxHeartbeats 4000000 in
set_option maxRecDepth 100000 in
theorem c_Mod_differing (l : Launch) (dC : Nat → ClassId) (dI : Nat → Nat → Nat) (tt : Nat → Nat) (ad : Nat → Nat) (cs : Nat → ClassId) (sz N : Nat) (m_thrown : Int32) (m_kind : Int32) (m_steps : Int32) (m_size : Int32) (m_ran : Int32) (m_parts : Int32) (m_taken : Int32) (m_lacked : Int32) (m_decodings : Int32) (m_failures : Int32) (m_at : Int32) (m_end : Int32) (m_many : Int32) (m_wrong : Int32) (m_bytes : Nat → Int32) (m_heads : Nat → Int32) (m_numbers : Nat → Int32) (m_codes : Nat → Int32) (m_sizes : Nat → Int32) (m_guessed : Nat → Int32) (m_results : Nat → Int32) (m_values : Nat → Int32) (m_states : Nat → Int32) (m_came : Nat → Int32) (m_boxes : Nat → Int32) (m_single : Nat → Int32) (m_rows : Nat → Int32) (out : Int32 × Int32 × Int32 × (Nat → Int32)) (h : d_Mod_differing N m_at m_end m_many m_wrong m_bytes m_came = some out) :
    Met l y_Mod_differing (w_Mod_differing) rm_Mod_differing (va_Pc [.ref (ad 0)] (PreW (dC, dI) [((cs 1), .int), ((cs 2), .int), ((cs 3), .int), ((cs 4), .int), ((cs 5), .int), ((cs 6), .boolean), ((cs 7), .int), ((cs 8), .int), ((cs 9), .int), ((cs 10), .int), ((cs 11), .int), ((cs 12), .int), ((cs 13), .int)] (x_Mod ad cs m_thrown m_kind m_steps m_size m_ran m_parts m_taken m_lacked m_decodings m_failures m_at m_end m_many m_wrong m_bytes m_heads m_numbers m_codes m_sizes m_guessed m_results m_values m_states m_came m_boxes m_single m_rows) sz tt)) (va_Qv (fun (_ : Unit) => True) (fun _ => AftW (dC, dI) [((cs 1), .int), ((cs 2), .int), ((cs 3), .int), ((cs 4), .int), ((cs 5), .int), ((cs 6), .boolean), ((cs 7), .int), ((cs 8), .int), ((cs 9), .int), ((cs 10), .int), ((cs 11), .int), ((cs 12), .int), ((cs 13), .int)] (va_A (x_Mod ad cs m_thrown m_kind m_steps m_size m_ran m_parts m_taken m_lacked m_decodings m_failures m_at m_end m_many m_wrong m_bytes m_heads m_numbers m_codes m_sizes m_guessed m_results m_values m_states m_came m_boxes m_single m_rows) sz) (x_Mod ad cs m_thrown m_kind m_steps m_size m_ran m_parts m_taken m_lacked m_decodings m_failures out.1 m_end out.2.1 out.2.2.1 m_bytes m_heads m_numbers m_codes m_sizes m_guessed m_results m_values m_states out.2.2.2 m_boxes m_single m_rows)) (va_A (x_Mod ad cs m_thrown m_kind m_steps m_size m_ran m_parts m_taken m_lacked m_decodings m_failures m_at m_end m_many m_wrong m_bytes m_heads m_numbers m_codes m_sizes m_guessed m_results m_values m_states m_came m_boxes m_single m_rows) sz)) 0 0 (va_A (x_Mod ad cs m_thrown m_kind m_steps m_size m_ran m_parts m_taken m_lacked m_decodings m_failures m_at m_end m_many m_wrong m_bytes m_heads m_numbers m_codes m_sizes m_guessed m_results m_values m_states m_came m_boxes m_single m_rows) sz) := by
  refine Met.ofW (cc := k_Mod_differing) (maxL := 3) (ret := none) (by decide) rfl ?_
  intro p e s m args below meth c s₁ B hml hv
  obtain ⟨rfl, hsz, hP, hK, hD0, hG⟩ := hv
  have hx := B.exec
  have hb := B.bytes
  have hr := B.returns
  have hts := atoms_spec (ws := (w_Mod_differing)) B.pre
  have hB : ∀ w ∈ BIG, w.before _ s = true := fun w h9 => hts w (List.mem_cons_of_mem _ h9)
  have hown : s.vm.findClass R_Mod = some m.cls := findClass_of_methodNamed B.named
  have hlocks := B.notSynchronized
  subst hsz
  have hD := hD0.self (sz := s.heap.size)
  generalize hAe : va_A (x_Mod ad cs m_thrown m_kind m_steps m_size m_ran m_parts m_taken m_lacked m_decodings m_failures m_at m_end m_many m_wrong m_bytes m_heads m_numbers m_codes m_sizes m_guessed m_results m_values m_states m_came m_boxes m_single m_rows) s.heap.size = A at hD hG ⊢
  have hA : ∀ q : Nat, s.heap.size ≤ q → A q := fun q h => by rw [← hAe]; exact Or.inr h
  have hS : va_S A s.heap s.heap [] := va_S.rf
  have hl := lv_entry ([.ref (ad 0)]) (n := 3) (Nat.le_of_ble_eq_true rfl)
  rw [lg_entry_eq]
  generalize (lg_sl ([.ref (ad 0)]) ++ List.replicate (3 - (lg_sl ([.ref (ad 0)])).length) Slot.unset).toArray = ls at hl ⊢
  have hl : lv_has ls 3 [(0, .ref (ad 0))] := hl
  unfold d_Mod_differing at h
  refine lv_aload_n hx hb d_Mod_differing_0 rfl (lv_at hl 0 rfl) ?_
  obtain ⟨o1, ho1, h⟩ := Option.bind_eq_some_iff.mp h
  have hKc := hK.sub (tys' := [((cs 1), .int), ((cs 2), .int), ((cs 3), .int), ((cs 4), .int), ((cs 5), .int), ((cs 6), .boolean), ((cs 7), .int), ((cs 8), .int), ((cs 9), .int), ((cs 10), .int), ((cs 11), .int), ((cs 12), .int), ((cs 13), .int)]) [0, 1, 2, 3, 4, 5, 6, 7, 8, 9, 10, 11, 12] rfl
  have hPc := hP.sub (ws' := x_Mod ad cs m_thrown m_kind m_steps m_size m_ran m_parts m_taken m_lacked m_decodings m_failures m_at m_end m_many m_wrong m_bytes m_heads m_numbers m_codes m_sizes m_guessed m_results m_values m_states m_came m_boxes m_single m_rows) [0, 1, 2, 3, 4, 5, 6, 7, 8, 9, 10, 11, 12, 13] rfl
  have hDc := hD.sub (ws' := x_Mod ad cs m_thrown m_kind m_steps m_size m_ran m_parts m_taken m_lacked m_decodings m_failures m_at m_end m_many m_wrong m_bytes m_heads m_numbers m_codes m_sizes m_guessed m_results m_values m_states m_came m_boxes m_single m_rows) [0, 1, 2, 3, 4, 5, 6, 7, 8, 9, 10, 11, 12, 13] (by decide) rfl
  have hFc := va_free (wc := x_Mod ad cs m_thrown m_kind m_steps m_size m_ran m_parts m_taken m_lacked m_decodings m_failures m_at m_end m_many m_wrong m_bytes m_heads m_numbers m_codes m_sizes m_guessed m_results m_values m_states m_came m_boxes m_single m_rows) hD hS hA [0, 1, 2, 3, 4, 5, 6, 7, 8, 9, 10, 11, 12, 13] rfl
  refine va_calli (va_runV (As := []) (rest := []) ⟨hx, hb, hml, hown, hB⟩ (c_Mod_take l dC dI tt ad cs s.heap.size N m_thrown m_kind m_steps m_size m_ran m_parts m_taken m_lacked m_decodings m_failures m_at m_end m_many m_wrong m_bytes m_heads m_numbers m_codes m_sizes m_guessed m_results m_values m_states m_came m_boxes m_single m_rows o1 ho1) (cwV 0 hB (gV wd_253 wd_251 wd_250 wd_226 wd_252) rfl rfl rfl (by decide +kernel) ⟨Nat.le_of_ble_eq_true rfl, Nat.le_of_ble_eq_true rfl⟩) ⟨PreW_blind, va_recv hKc hPc (ci := 4) (q0 := 0) rfl rfl, PreW_mk hKc hPc hDc hG hS hFc⟩ rfl rfl hl.1 rfl (lv_room (Nat.le_of_ble_eq_true rfl)) d_Mod_differing_1 ⟨Nat.le_of_ble_eq_true rfl, Nat.le_of_ble_eq_true rfl⟩) hS (fun q _ h => hFc q h) hFc (fun r_1 u_1 t H1 locs ht hvm hw hB hz1 hk1 hS => ?_)
  have hw := hw.symm
  subst hw
  obtain ⟨hP1, hK1, hD1⟩ := hB
  rw [ht] at hP1
  obtain ⟨hP, hD⟩ := va_join (wr := pick (x_Mod ad cs m_thrown m_kind m_steps m_size m_ran m_parts m_taken m_lacked m_decodings m_failures m_at m_end m_many m_wrong m_bytes m_heads m_numbers m_codes m_sizes m_guessed m_results m_values m_states m_came m_boxes m_single m_rows) []) hP hD [0, 1, 2, 3, 4, 5, 6, 7, 8, 9, 10, 11, 12, 13] [] rfl rfl (by decide) (by decide) hk1 hFc hP1 hD1
  generalize H1 = H at hP hS ⊢
  have hP : va_P (dC, dI) vwCl (x_Mod ad cs m_thrown m_kind m_steps m_size m_ran m_parts m_taken m_lacked m_decodings m_failures o1.2.1 m_end m_many o1.2.2 m_bytes m_heads m_numbers m_codes m_sizes m_guessed m_results m_values m_states m_came m_boxes m_single m_rows) H := hP.sub [0, 1, 2, 3, 4, 5, 6, 7, 8, 9, 10, 11, 12, 13] rfl
  have hD : va_D A (x_Mod ad cs m_thrown m_kind m_steps m_size m_ran m_parts m_taken m_lacked m_decodings m_failures o1.2.1 m_end m_many o1.2.2 m_bytes m_heads m_numbers m_codes m_sizes m_guessed m_results m_values m_states m_came m_boxes m_single m_rows) := hD.sub [0, 1, 2, 3, 4, 5, 6, 7, 8, 9, 10, 11, 12, 13] (by decide) rfl
  refine lv_istore_n (lv' := [(1, .int o1.1), (0, .ref (ad 0))]) hx hb d_Mod_differing_4 rfl hl (by decide) rfl (fun ls hl => ?_)
  refine lv_aload_n hx hb d_Mod_differing_5 rfl (lv_at hl 1 rfl) ?_
  refine va_get (D := (dC, dI)) (ci := 4) (v := .int m_many) (C := R_Mod) (T := T_Mod) (N := 27) hx hb hB in_Mod hown hK hP 0 rfl rfl 21 (by decide) (hB _ wd_249) (fun _ h9 => h9) rfl d_Mod_differing_6 ?_
  refine lv_if_ne (tgt := 16) hx hb d_Mod_differing_9 (by decide) (fun c_2 => ?_) (fun c_2 => ?_)
  · have h := (if_neg c_2).symm.trans h
    refine lv_aload_n hx hb d_Mod_differing_16 rfl (lv_at hl 1 rfl) ?_
    refine va_get (D := (dC, dI)) (ci := 4) (v := .ref (ad 10)) (C := R_Mod) (T := T_Mod) (N := 27) hx hb hB in_Mod hown hK hP 0 rfl rfl 22 (by decide) (hB _ wd_248) (fun _ h9 => h9) rfl d_Mod_differing_17 ?_
    refine lv_aload_n hx hb d_Mod_differing_20 rfl (lv_at hl 1 rfl) ?_
    refine va_get (D := (dC, dI)) (ci := 4) (v := .int m_many) (C := R_Mod) (T := T_Mod) (N := 27) hx hb hB in_Mod hown hK hP 0 rfl rfl 21 (by decide) (hB _ wd_249) (fun _ h9 => h9) rfl d_Mod_differing_21 ?_
    refine lv_iconst (v := 1) hx hb d_Mod_differing_24 (by decide) ?_
    refine lv_isub hx hb d_Mod_differing_25 ?_
    obtain ⟨b_3, h⟩ := gI_some h
    refine va_iald hx hb hK hP 10 9 rfl rfl b_3 d_Mod_differing_26 ?_
    refine lv_iload_n hx hb d_Mod_differing_27 rfl (lv_at hl 0 rfl) ?_
    refine lv_bipush (v := 127) hx hb d_Mod_differing_28 (by decide) ?_
    refine lv_icmp_le (tgt := 41) hx hb d_Mod_differing_30 (by decide) (fun c_4 => ?_) (fun c_4 => ?_)
    · have h := (if_pos c_4).symm.trans h
      refine lv_iload_n hx hb d_Mod_differing_41 rfl (lv_at hl 0 rfl) ?_
      refine lv_iadd hx hb d_Mod_differing_42 ?_
      refine lv_istore_n (lv' := [(2, .int ((m_came (m_many - (1 : Int32)).toNatClampNeg) + o1.1)), (1, .int o1.1), (0, .ref (ad 0))]) hx hb d_Mod_differing_43 rfl hl (by decide) rfl (fun ls hl => ?_)
      refine lv_iload_n hx hb d_Mod_differing_44 rfl (lv_at hl 0 rfl) ?_
      refine lv_if_lt (tgt := 55) hx hb d_Mod_differing_45 (by decide) (fun c_5 => ?_) (fun c_5 => ?_)
      · have h := (if_pos c_5).symm.trans h
        refine lv_aload_n hx hb d_Mod_differing_55 rfl (lv_at hl 2 rfl) ?_
        refine lv_bipush (v := 6) hx hb d_Mod_differing_56 (by decide) ?_
        obtain ⟨o6, ho6, h⟩ := Option.bind_eq_some_iff.mp h
        have hKc := hK.sub (tys' := [((cs 1), .int), ((cs 2), .int), ((cs 3), .int), ((cs 4), .int), ((cs 5), .int), ((cs 6), .boolean), ((cs 7), .int), ((cs 8), .int), ((cs 9), .int), ((cs 10), .int), ((cs 11), .int), ((cs 12), .int), ((cs 13), .int)]) [0, 1, 2, 3, 4, 5, 6, 7, 8, 9, 10, 11, 12] rfl
        have hPc := hP.sub (ws' := x_Mod ad cs m_thrown m_kind m_steps m_size m_ran m_parts m_taken m_lacked m_decodings m_failures o1.2.1 m_end m_many o1.2.2 m_bytes m_heads m_numbers m_codes m_sizes m_guessed m_results m_values m_states m_came m_boxes m_single m_rows) [0, 1, 2, 3, 4, 5, 6, 7, 8, 9, 10, 11, 12, 13] rfl
        have hDc := hD.sub (ws' := x_Mod ad cs m_thrown m_kind m_steps m_size m_ran m_parts m_taken m_lacked m_decodings m_failures o1.2.1 m_end m_many o1.2.2 m_bytes m_heads m_numbers m_codes m_sizes m_guessed m_results m_values m_states m_came m_boxes m_single m_rows) [0, 1, 2, 3, 4, 5, 6, 7, 8, 9, 10, 11, 12, 13] (by decide) rfl
        have hFc := va_free (wc := x_Mod ad cs m_thrown m_kind m_steps m_size m_ran m_parts m_taken m_lacked m_decodings m_failures o1.2.1 m_end m_many o1.2.2 m_bytes m_heads m_numbers m_codes m_sizes m_guessed m_results m_values m_states m_came m_boxes m_single m_rows) hD hS hA [0, 1, 2, 3, 4, 5, 6, 7, 8, 9, 10, 11, 12, 13] rfl
        refine va_callv (va_runV (As := [.int (6 : Int32)]) (rest := []) ⟨hx, hb, hml, hown, hB⟩ (c_Mod_fail l dC dI tt ad cs H.size N (6 : Int32) m_thrown m_kind m_steps m_size m_ran m_parts m_taken m_lacked m_decodings m_failures o1.2.1 m_end m_many o1.2.2 m_bytes m_heads m_numbers m_codes m_sizes m_guessed m_results m_values m_states m_came m_boxes m_single m_rows o6 ho6) (cwV 1 hB (gV wd_247 wd_245 wd_244 wd_226 wd_246) rfl rfl rfl (by decide +kernel) ⟨Nat.le_of_ble_eq_true rfl, Nat.le_of_ble_eq_true rfl⟩) ⟨PreW_blind, va_recv hKc hPc (ci := 4) (q0 := 0) rfl rfl, PreW_mk hKc hPc hDc hG hS hFc⟩ rfl rfl hl.1 rfl (lv_room (Nat.le_of_ble_eq_true rfl)) d_Mod_differing_58 ⟨Nat.le_of_ble_eq_true rfl, Nat.le_of_ble_eq_true rfl⟩) hS (fun q _ h => hFc q h) hFc (fun u_6 t H1 locs ht hvm hw hB hz1 hk1 hS => ?_)
        obtain ⟨hP1, hK1, hD1⟩ := hB
        rw [ht] at hP1
        obtain ⟨hP, hD⟩ := va_join (wr := pick (x_Mod ad cs m_thrown m_kind m_steps m_size m_ran m_parts m_taken m_lacked m_decodings m_failures o1.2.1 m_end m_many o1.2.2 m_bytes m_heads m_numbers m_codes m_sizes m_guessed m_results m_values m_states m_came m_boxes m_single m_rows) []) hP hD [0, 1, 2, 3, 4, 5, 6, 7, 8, 9, 10, 11, 12, 13] [] rfl rfl (by decide) (by decide) hk1 hFc hP1 hD1
        generalize H1 = H at hP hS ⊢
        have hP : va_P (dC, dI) vwCl (x_Mod ad cs m_thrown m_kind m_steps m_size m_ran m_parts m_taken m_lacked m_decodings m_failures o1.2.1 m_end m_many o6 m_bytes m_heads m_numbers m_codes m_sizes m_guessed m_results m_values m_states m_came m_boxes m_single m_rows) H := hP.sub [0, 1, 2, 3, 4, 5, 6, 7, 8, 9, 10, 11, 12, 13] rfl
        have hD : va_D A (x_Mod ad cs m_thrown m_kind m_steps m_size m_ran m_parts m_taken m_lacked m_decodings m_failures o1.2.1 m_end m_many o6 m_bytes m_heads m_numbers m_codes m_sizes m_guessed m_results m_values m_states m_came m_boxes m_single m_rows) := hD.sub [0, 1, 2, 3, 4, 5, 6, 7, 8, 9, 10, 11, 12, 13] (by decide) rfl
        refine lv_aload_n hx hb d_Mod_differing_61 rfl (lv_at hl 2 rfl) ?_
        refine lv_iload_n hx hb d_Mod_differing_62 rfl (lv_at hl 0 rfl) ?_
        obtain ⟨o7, ho7, h⟩ := Option.bind_eq_some_iff.mp h
        have hKc := hK.sub (tys' := [((cs 1), .int), ((cs 2), .int), ((cs 3), .int), ((cs 4), .int), ((cs 5), .int), ((cs 6), .boolean), ((cs 7), .int), ((cs 8), .int), ((cs 9), .int), ((cs 10), .int), ((cs 11), .int), ((cs 12), .int), ((cs 13), .int)]) [0, 1, 2, 3, 4, 5, 6, 7, 8, 9, 10, 11, 12] rfl
        have hPc := hP.sub (ws' := x_Mod ad cs m_thrown m_kind m_steps m_size m_ran m_parts m_taken m_lacked m_decodings m_failures o1.2.1 m_end m_many o6 m_bytes m_heads m_numbers m_codes m_sizes m_guessed m_results m_values m_states m_came m_boxes m_single m_rows) [0, 1, 2, 3, 4, 5, 6, 7, 8, 9, 10, 11, 12, 13] rfl
        have hDc := hD.sub (ws' := x_Mod ad cs m_thrown m_kind m_steps m_size m_ran m_parts m_taken m_lacked m_decodings m_failures o1.2.1 m_end m_many o6 m_bytes m_heads m_numbers m_codes m_sizes m_guessed m_results m_values m_states m_came m_boxes m_single m_rows) [0, 1, 2, 3, 4, 5, 6, 7, 8, 9, 10, 11, 12, 13] (by decide) rfl
        have hFc := va_free (wc := x_Mod ad cs m_thrown m_kind m_steps m_size m_ran m_parts m_taken m_lacked m_decodings m_failures o1.2.1 m_end m_many o6 m_bytes m_heads m_numbers m_codes m_sizes m_guessed m_results m_values m_states m_came m_boxes m_single m_rows) hD hS hA [0, 1, 2, 3, 4, 5, 6, 7, 8, 9, 10, 11, 12, 13] rfl
        refine va_callv (va_runV (As := [.int ((m_came (m_many - (1 : Int32)).toNatClampNeg) + o1.1)]) (rest := []) ⟨hx, hb, hml, hown, hB⟩ (c_Mod_give l dC dI tt ad cs H.size N ((m_came (m_many - (1 : Int32)).toNatClampNeg) + o1.1) m_thrown m_kind m_steps m_size m_ran m_parts m_taken m_lacked m_decodings m_failures o1.2.1 m_end m_many o6 m_bytes m_heads m_numbers m_codes m_sizes m_guessed m_results m_values m_states m_came m_boxes m_single m_rows o7 ho7) (cwV 1 hB (gV wd_261 wd_259 wd_258 wd_226 wd_260) rfl rfl rfl (by decide +kernel) ⟨Nat.le_of_ble_eq_true rfl, Nat.le_of_ble_eq_true rfl⟩) ⟨PreW_blind, va_recv hKc hPc (ci := 4) (q0 := 0) rfl rfl, PreW_mk hKc hPc hDc hG hS hFc⟩ rfl rfl hl.1 rfl (lv_room (Nat.le_of_ble_eq_true rfl)) d_Mod_differing_63 ⟨Nat.le_of_ble_eq_true rfl, Nat.le_of_ble_eq_true rfl⟩) hS (fun q _ h => hFc q h) hFc (fun u_7 t H1 locs ht hvm hw hB hz1 hk1 hS => ?_)
        obtain ⟨hP1, hK1, hD1⟩ := hB
        rw [ht] at hP1
        obtain ⟨hP, hD⟩ := va_join (wr := pick (x_Mod ad cs m_thrown m_kind m_steps m_size m_ran m_parts m_taken m_lacked m_decodings m_failures o1.2.1 m_end m_many o6 m_bytes m_heads m_numbers m_codes m_sizes m_guessed m_results m_values m_states m_came m_boxes m_single m_rows) []) hP hD [0, 1, 2, 3, 4, 5, 6, 7, 8, 9, 10, 11, 12, 13] [] rfl rfl (by decide) (by decide) hk1 hFc hP1 hD1
        generalize H1 = H at hP hS ⊢
        have hP : va_P (dC, dI) vwCl (x_Mod ad cs m_thrown m_kind m_steps m_size m_ran m_parts m_taken m_lacked m_decodings m_failures o1.2.1 m_end o7.1 o6 m_bytes m_heads m_numbers m_codes m_sizes m_guessed m_results m_values m_states o7.2 m_boxes m_single m_rows) H := hP.sub [0, 1, 2, 3, 4, 5, 6, 7, 8, 9, 10, 11, 12, 13] rfl
        have hD : va_D A (x_Mod ad cs m_thrown m_kind m_steps m_size m_ran m_parts m_taken m_lacked m_decodings m_failures o1.2.1 m_end o7.1 o6 m_bytes m_heads m_numbers m_codes m_sizes m_guessed m_results m_values m_states o7.2 m_boxes m_single m_rows) := hD.sub [0, 1, 2, 3, 4, 5, 6, 7, 8, 9, 10, 11, 12, 13] (by decide) rfl
        have h := Option.some.inj h
        subst h
        exact W.vret hx hb hr (fun t ht hW => ⟨⟨(), rfl, trivial, AftW_mk hK hP hD ht hW⟩, hS.F ht⟩) hS.2.2 d_Mod_differing_66
      · have h := (if_neg c_5).symm.trans h
        refine lv_iload_n hx hb d_Mod_differing_48 rfl (lv_at hl 0 rfl) ?_
        refine lv_sipush (v := 255) hx hb d_Mod_differing_49 (by decide) ?_
        refine lv_icmp_le (tgt := 61) hx hb d_Mod_differing_52 (by decide) (fun c_8 => ?_) (fun c_8 => ?_)
        · have h := (if_pos c_8).symm.trans h
          refine lv_aload_n hx hb d_Mod_differing_61 rfl (lv_at hl 2 rfl) ?_
          refine lv_iload_n hx hb d_Mod_differing_62 rfl (lv_at hl 0 rfl) ?_
          obtain ⟨o9, ho9, h⟩ := Option.bind_eq_some_iff.mp h
          have hKc := hK.sub (tys' := [((cs 1), .int), ((cs 2), .int), ((cs 3), .int), ((cs 4), .int), ((cs 5), .int), ((cs 6), .boolean), ((cs 7), .int), ((cs 8), .int), ((cs 9), .int), ((cs 10), .int), ((cs 11), .int), ((cs 12), .int), ((cs 13), .int)]) [0, 1, 2, 3, 4, 5, 6, 7, 8, 9, 10, 11, 12] rfl
          have hPc := hP.sub (ws' := x_Mod ad cs m_thrown m_kind m_steps m_size m_ran m_parts m_taken m_lacked m_decodings m_failures o1.2.1 m_end m_many o1.2.2 m_bytes m_heads m_numbers m_codes m_sizes m_guessed m_results m_values m_states m_came m_boxes m_single m_rows) [0, 1, 2, 3, 4, 5, 6, 7, 8, 9, 10, 11, 12, 13] rfl
          have hDc := hD.sub (ws' := x_Mod ad cs m_thrown m_kind m_steps m_size m_ran m_parts m_taken m_lacked m_decodings m_failures o1.2.1 m_end m_many o1.2.2 m_bytes m_heads m_numbers m_codes m_sizes m_guessed m_results m_values m_states m_came m_boxes m_single m_rows) [0, 1, 2, 3, 4, 5, 6, 7, 8, 9, 10, 11, 12, 13] (by decide) rfl
          have hFc := va_free (wc := x_Mod ad cs m_thrown m_kind m_steps m_size m_ran m_parts m_taken m_lacked m_decodings m_failures o1.2.1 m_end m_many o1.2.2 m_bytes m_heads m_numbers m_codes m_sizes m_guessed m_results m_values m_states m_came m_boxes m_single m_rows) hD hS hA [0, 1, 2, 3, 4, 5, 6, 7, 8, 9, 10, 11, 12, 13] rfl
          refine va_callv (va_runV (As := [.int ((m_came (m_many - (1 : Int32)).toNatClampNeg) + o1.1)]) (rest := []) ⟨hx, hb, hml, hown, hB⟩ (c_Mod_give l dC dI tt ad cs H.size N ((m_came (m_many - (1 : Int32)).toNatClampNeg) + o1.1) m_thrown m_kind m_steps m_size m_ran m_parts m_taken m_lacked m_decodings m_failures o1.2.1 m_end m_many o1.2.2 m_bytes m_heads m_numbers m_codes m_sizes m_guessed m_results m_values m_states m_came m_boxes m_single m_rows o9 ho9) (cwV 1 hB (gV wd_261 wd_259 wd_258 wd_226 wd_260) rfl rfl rfl (by decide +kernel) ⟨Nat.le_of_ble_eq_true rfl, Nat.le_of_ble_eq_true rfl⟩) ⟨PreW_blind, va_recv hKc hPc (ci := 4) (q0 := 0) rfl rfl, PreW_mk hKc hPc hDc hG hS hFc⟩ rfl rfl hl.1 rfl (lv_room (Nat.le_of_ble_eq_true rfl)) d_Mod_differing_63 ⟨Nat.le_of_ble_eq_true rfl, Nat.le_of_ble_eq_true rfl⟩) hS (fun q _ h => hFc q h) hFc (fun u_9 t H1 locs ht hvm hw hB hz1 hk1 hS => ?_)
          obtain ⟨hP1, hK1, hD1⟩ := hB
          rw [ht] at hP1
          obtain ⟨hP, hD⟩ := va_join (wr := pick (x_Mod ad cs m_thrown m_kind m_steps m_size m_ran m_parts m_taken m_lacked m_decodings m_failures o1.2.1 m_end m_many o1.2.2 m_bytes m_heads m_numbers m_codes m_sizes m_guessed m_results m_values m_states m_came m_boxes m_single m_rows) []) hP hD [0, 1, 2, 3, 4, 5, 6, 7, 8, 9, 10, 11, 12, 13] [] rfl rfl (by decide) (by decide) hk1 hFc hP1 hD1
          generalize H1 = H at hP hS ⊢
          have hP : va_P (dC, dI) vwCl (x_Mod ad cs m_thrown m_kind m_steps m_size m_ran m_parts m_taken m_lacked m_decodings m_failures o1.2.1 m_end o9.1 o1.2.2 m_bytes m_heads m_numbers m_codes m_sizes m_guessed m_results m_values m_states o9.2 m_boxes m_single m_rows) H := hP.sub [0, 1, 2, 3, 4, 5, 6, 7, 8, 9, 10, 11, 12, 13] rfl
          have hD : va_D A (x_Mod ad cs m_thrown m_kind m_steps m_size m_ran m_parts m_taken m_lacked m_decodings m_failures o1.2.1 m_end o9.1 o1.2.2 m_bytes m_heads m_numbers m_codes m_sizes m_guessed m_results m_values m_states o9.2 m_boxes m_single m_rows) := hD.sub [0, 1, 2, 3, 4, 5, 6, 7, 8, 9, 10, 11, 12, 13] (by decide) rfl
          have h := Option.some.inj h
          subst h
          exact W.vret hx hb hr (fun t ht hW => ⟨⟨(), rfl, trivial, AftW_mk hK hP hD ht hW⟩, hS.F ht⟩) hS.2.2 d_Mod_differing_66
        · have h := (if_neg c_8).symm.trans h
          refine lv_aload_n hx hb d_Mod_differing_55 rfl (lv_at hl 2 rfl) ?_
          refine lv_bipush (v := 6) hx hb d_Mod_differing_56 (by decide) ?_
          obtain ⟨o10, ho10, h⟩ := Option.bind_eq_some_iff.mp h
          have hKc := hK.sub (tys' := [((cs 1), .int), ((cs 2), .int), ((cs 3), .int), ((cs 4), .int), ((cs 5), .int), ((cs 6), .boolean), ((cs 7), .int), ((cs 8), .int), ((cs 9), .int), ((cs 10), .int), ((cs 11), .int), ((cs 12), .int), ((cs 13), .int)]) [0, 1, 2, 3, 4, 5, 6, 7, 8, 9, 10, 11, 12] rfl
          have hPc := hP.sub (ws' := x_Mod ad cs m_thrown m_kind m_steps m_size m_ran m_parts m_taken m_lacked m_decodings m_failures o1.2.1 m_end m_many o1.2.2 m_bytes m_heads m_numbers m_codes m_sizes m_guessed m_results m_values m_states m_came m_boxes m_single m_rows) [0, 1, 2, 3, 4, 5, 6, 7, 8, 9, 10, 11, 12, 13] rfl
          have hDc := hD.sub (ws' := x_Mod ad cs m_thrown m_kind m_steps m_size m_ran m_parts m_taken m_lacked m_decodings m_failures o1.2.1 m_end m_many o1.2.2 m_bytes m_heads m_numbers m_codes m_sizes m_guessed m_results m_values m_states m_came m_boxes m_single m_rows) [0, 1, 2, 3, 4, 5, 6, 7, 8, 9, 10, 11, 12, 13] (by decide) rfl
          have hFc := va_free (wc := x_Mod ad cs m_thrown m_kind m_steps m_size m_ran m_parts m_taken m_lacked m_decodings m_failures o1.2.1 m_end m_many o1.2.2 m_bytes m_heads m_numbers m_codes m_sizes m_guessed m_results m_values m_states m_came m_boxes m_single m_rows) hD hS hA [0, 1, 2, 3, 4, 5, 6, 7, 8, 9, 10, 11, 12, 13] rfl
          refine va_callv (va_runV (As := [.int (6 : Int32)]) (rest := []) ⟨hx, hb, hml, hown, hB⟩ (c_Mod_fail l dC dI tt ad cs H.size N (6 : Int32) m_thrown m_kind m_steps m_size m_ran m_parts m_taken m_lacked m_decodings m_failures o1.2.1 m_end m_many o1.2.2 m_bytes m_heads m_numbers m_codes m_sizes m_guessed m_results m_values m_states m_came m_boxes m_single m_rows o10 ho10) (cwV 1 hB (gV wd_247 wd_245 wd_244 wd_226 wd_246) rfl rfl rfl (by decide +kernel) ⟨Nat.le_of_ble_eq_true rfl, Nat.le_of_ble_eq_true rfl⟩) ⟨PreW_blind, va_recv hKc hPc (ci := 4) (q0 := 0) rfl rfl, PreW_mk hKc hPc hDc hG hS hFc⟩ rfl rfl hl.1 rfl (lv_room (Nat.le_of_ble_eq_true rfl)) d_Mod_differing_58 ⟨Nat.le_of_ble_eq_true rfl, Nat.le_of_ble_eq_true rfl⟩) hS (fun q _ h => hFc q h) hFc (fun u_10 t H1 locs ht hvm hw hB hz1 hk1 hS => ?_)
          obtain ⟨hP1, hK1, hD1⟩ := hB
          rw [ht] at hP1
          obtain ⟨hP, hD⟩ := va_join (wr := pick (x_Mod ad cs m_thrown m_kind m_steps m_size m_ran m_parts m_taken m_lacked m_decodings m_failures o1.2.1 m_end m_many o1.2.2 m_bytes m_heads m_numbers m_codes m_sizes m_guessed m_results m_values m_states m_came m_boxes m_single m_rows) []) hP hD [0, 1, 2, 3, 4, 5, 6, 7, 8, 9, 10, 11, 12, 13] [] rfl rfl (by decide) (by decide) hk1 hFc hP1 hD1
          generalize H1 = H at hP hS ⊢
          have hP : va_P (dC, dI) vwCl (x_Mod ad cs m_thrown m_kind m_steps m_size m_ran m_parts m_taken m_lacked m_decodings m_failures o1.2.1 m_end m_many o10 m_bytes m_heads m_numbers m_codes m_sizes m_guessed m_results m_values m_states m_came m_boxes m_single m_rows) H := hP.sub [0, 1, 2, 3, 4, 5, 6, 7, 8, 9, 10, 11, 12, 13] rfl
          have hD : va_D A (x_Mod ad cs m_thrown m_kind m_steps m_size m_ran m_parts m_taken m_lacked m_decodings m_failures o1.2.1 m_end m_many o10 m_bytes m_heads m_numbers m_codes m_sizes m_guessed m_results m_values m_states m_came m_boxes m_single m_rows) := hD.sub [0, 1, 2, 3, 4, 5, 6, 7, 8, 9, 10, 11, 12, 13] (by decide) rfl
          refine lv_aload_n hx hb d_Mod_differing_61 rfl (lv_at hl 2 rfl) ?_
          refine lv_iload_n hx hb d_Mod_differing_62 rfl (lv_at hl 0 rfl) ?_
          obtain ⟨o11, ho11, h⟩ := Option.bind_eq_some_iff.mp h
          have hKc := hK.sub (tys' := [((cs 1), .int), ((cs 2), .int), ((cs 3), .int), ((cs 4), .int), ((cs 5), .int), ((cs 6), .boolean), ((cs 7), .int), ((cs 8), .int), ((cs 9), .int), ((cs 10), .int), ((cs 11), .int), ((cs 12), .int), ((cs 13), .int)]) [0, 1, 2, 3, 4, 5, 6, 7, 8, 9, 10, 11, 12] rfl
          have hPc := hP.sub (ws' := x_Mod ad cs m_thrown m_kind m_steps m_size m_ran m_parts m_taken m_lacked m_decodings m_failures o1.2.1 m_end m_many o10 m_bytes m_heads m_numbers m_codes m_sizes m_guessed m_results m_values m_states m_came m_boxes m_single m_rows) [0, 1, 2, 3, 4, 5, 6, 7, 8, 9, 10, 11, 12, 13] rfl
          have hDc := hD.sub (ws' := x_Mod ad cs m_thrown m_kind m_steps m_size m_ran m_parts m_taken m_lacked m_decodings m_failures o1.2.1 m_end m_many o10 m_bytes m_heads m_numbers m_codes m_sizes m_guessed m_results m_values m_states m_came m_boxes m_single m_rows) [0, 1, 2, 3, 4, 5, 6, 7, 8, 9, 10, 11, 12, 13] (by decide) rfl
          have hFc := va_free (wc := x_Mod ad cs m_thrown m_kind m_steps m_size m_ran m_parts m_taken m_lacked m_decodings m_failures o1.2.1 m_end m_many o10 m_bytes m_heads m_numbers m_codes m_sizes m_guessed m_results m_values m_states m_came m_boxes m_single m_rows) hD hS hA [0, 1, 2, 3, 4, 5, 6, 7, 8, 9, 10, 11, 12, 13] rfl
          refine va_callv (va_runV (As := [.int ((m_came (m_many - (1 : Int32)).toNatClampNeg) + o1.1)]) (rest := []) ⟨hx, hb, hml, hown, hB⟩ (c_Mod_give l dC dI tt ad cs H.size N ((m_came (m_many - (1 : Int32)).toNatClampNeg) + o1.1) m_thrown m_kind m_steps m_size m_ran m_parts m_taken m_lacked m_decodings m_failures o1.2.1 m_end m_many o10 m_bytes m_heads m_numbers m_codes m_sizes m_guessed m_results m_values m_states m_came m_boxes m_single m_rows o11 ho11) (cwV 1 hB (gV wd_261 wd_259 wd_258 wd_226 wd_260) rfl rfl rfl (by decide +kernel) ⟨Nat.le_of_ble_eq_true rfl, Nat.le_of_ble_eq_true rfl⟩) ⟨PreW_blind, va_recv hKc hPc (ci := 4) (q0 := 0) rfl rfl, PreW_mk hKc hPc hDc hG hS hFc⟩ rfl rfl hl.1 rfl (lv_room (Nat.le_of_ble_eq_true rfl)) d_Mod_differing_63 ⟨Nat.le_of_ble_eq_true rfl, Nat.le_of_ble_eq_true rfl⟩) hS (fun q _ h => hFc q h) hFc (fun u_11 t H1 locs ht hvm hw hB hz1 hk1 hS => ?_)
          obtain ⟨hP1, hK1, hD1⟩ := hB
          rw [ht] at hP1
          obtain ⟨hP, hD⟩ := va_join (wr := pick (x_Mod ad cs m_thrown m_kind m_steps m_size m_ran m_parts m_taken m_lacked m_decodings m_failures o1.2.1 m_end m_many o10 m_bytes m_heads m_numbers m_codes m_sizes m_guessed m_results m_values m_states m_came m_boxes m_single m_rows) []) hP hD [0, 1, 2, 3, 4, 5, 6, 7, 8, 9, 10, 11, 12, 13] [] rfl rfl (by decide) (by decide) hk1 hFc hP1 hD1
          generalize H1 = H at hP hS ⊢
          have hP : va_P (dC, dI) vwCl (x_Mod ad cs m_thrown m_kind m_steps m_size m_ran m_parts m_taken m_lacked m_decodings m_failures o1.2.1 m_end o11.1 o10 m_bytes m_heads m_numbers m_codes m_sizes m_guessed m_results m_values m_states o11.2 m_boxes m_single m_rows) H := hP.sub [0, 1, 2, 3, 4, 5, 6, 7, 8, 9, 10, 11, 12, 13] rfl
          have hD : va_D A (x_Mod ad cs m_thrown m_kind m_steps m_size m_ran m_parts m_taken m_lacked m_decodings m_failures o1.2.1 m_end o11.1 o10 m_bytes m_heads m_numbers m_codes m_sizes m_guessed m_results m_values m_states o11.2 m_boxes m_single m_rows) := hD.sub [0, 1, 2, 3, 4, 5, 6, 7, 8, 9, 10, 11, 12, 13] (by decide) rfl
          have h := Option.some.inj h
          subst h
          exact W.vret hx hb hr (fun t ht hW => ⟨⟨(), rfl, trivial, AftW_mk hK hP hD ht hW⟩, hS.F ht⟩) hS.2.2 d_Mod_differing_66
    · have h := (if_neg c_4).symm.trans h
      refine lv_iload_n hx hb d_Mod_differing_33 rfl (lv_at hl 0 rfl) ?_
      refine lv_sipush (v := 256) hx hb d_Mod_differing_34 (by decide) ?_
      refine lv_isub hx hb d_Mod_differing_37 ?_
      refine lv_goto (tgt := 42) hx hb d_Mod_differing_38 (by decide) ?_
      refine lv_iadd hx hb d_Mod_differing_42 ?_
      refine lv_istore_n (lv' := [(2, .int ((m_came (m_many - (1 : Int32)).toNatClampNeg) + (o1.1 - (256 : Int32)))), (1, .int o1.1), (0, .ref (ad 0))]) hx hb d_Mod_differing_43 rfl hl (by decide) rfl (fun ls hl => ?_)
      refine lv_iload_n hx hb d_Mod_differing_44 rfl (lv_at hl 0 rfl) ?_
      refine lv_if_lt (tgt := 55) hx hb d_Mod_differing_45 (by decide) (fun c_12 => ?_) (fun c_12 => ?_)
      · have h := (if_pos c_12).symm.trans h
        refine lv_aload_n hx hb d_Mod_differing_55 rfl (lv_at hl 2 rfl) ?_
        refine lv_bipush (v := 6) hx hb d_Mod_differing_56 (by decide) ?_
        obtain ⟨o13, ho13, h⟩ := Option.bind_eq_some_iff.mp h
        have hKc := hK.sub (tys' := [((cs 1), .int), ((cs 2), .int), ((cs 3), .int), ((cs 4), .int), ((cs 5), .int), ((cs 6), .boolean), ((cs 7), .int), ((cs 8), .int), ((cs 9), .int), ((cs 10), .int), ((cs 11), .int), ((cs 12), .int), ((cs 13), .int)]) [0, 1, 2, 3, 4, 5, 6, 7, 8, 9, 10, 11, 12] rfl
        have hPc := hP.sub (ws' := x_Mod ad cs m_thrown m_kind m_steps m_size m_ran m_parts m_taken m_lacked m_decodings m_failures o1.2.1 m_end m_many o1.2.2 m_bytes m_heads m_numbers m_codes m_sizes m_guessed m_results m_values m_states m_came m_boxes m_single m_rows) [0, 1, 2, 3, 4, 5, 6, 7, 8, 9, 10, 11, 12, 13] rfl
        have hDc := hD.sub (ws' := x_Mod ad cs m_thrown m_kind m_steps m_size m_ran m_parts m_taken m_lacked m_decodings m_failures o1.2.1 m_end m_many o1.2.2 m_bytes m_heads m_numbers m_codes m_sizes m_guessed m_results m_values m_states m_came m_boxes m_single m_rows) [0, 1, 2, 3, 4, 5, 6, 7, 8, 9, 10, 11, 12, 13] (by decide) rfl
        have hFc := va_free (wc := x_Mod ad cs m_thrown m_kind m_steps m_size m_ran m_parts m_taken m_lacked m_decodings m_failures o1.2.1 m_end m_many o1.2.2 m_bytes m_heads m_numbers m_codes m_sizes m_guessed m_results m_values m_states m_came m_boxes m_single m_rows) hD hS hA [0, 1, 2, 3, 4, 5, 6, 7, 8, 9, 10, 11, 12, 13] rfl
        refine va_callv (va_runV (As := [.int (6 : Int32)]) (rest := []) ⟨hx, hb, hml, hown, hB⟩ (c_Mod_fail l dC dI tt ad cs H.size N (6 : Int32) m_thrown m_kind m_steps m_size m_ran m_parts m_taken m_lacked m_decodings m_failures o1.2.1 m_end m_many o1.2.2 m_bytes m_heads m_numbers m_codes m_sizes m_guessed m_results m_values m_states m_came m_boxes m_single m_rows o13 ho13) (cwV 1 hB (gV wd_247 wd_245 wd_244 wd_226 wd_246) rfl rfl rfl (by decide +kernel) ⟨Nat.le_of_ble_eq_true rfl, Nat.le_of_ble_eq_true rfl⟩) ⟨PreW_blind, va_recv hKc hPc (ci := 4) (q0 := 0) rfl rfl, PreW_mk hKc hPc hDc hG hS hFc⟩ rfl rfl hl.1 rfl (lv_room (Nat.le_of_ble_eq_true rfl)) d_Mod_differing_58 ⟨Nat.le_of_ble_eq_true rfl, Nat.le_of_ble_eq_true rfl⟩) hS (fun q _ h => hFc q h) hFc (fun u_13 t H1 locs ht hvm hw hB hz1 hk1 hS => ?_)
        obtain ⟨hP1, hK1, hD1⟩ := hB
        rw [ht] at hP1
        obtain ⟨hP, hD⟩ := va_join (wr := pick (x_Mod ad cs m_thrown m_kind m_steps m_size m_ran m_parts m_taken m_lacked m_decodings m_failures o1.2.1 m_end m_many o1.2.2 m_bytes m_heads m_numbers m_codes m_sizes m_guessed m_results m_values m_states m_came m_boxes m_single m_rows) []) hP hD [0, 1, 2, 3, 4, 5, 6, 7, 8, 9, 10, 11, 12, 13] [] rfl rfl (by decide) (by decide) hk1 hFc hP1 hD1
        generalize H1 = H at hP hS ⊢
        have hP : va_P (dC, dI) vwCl (x_Mod ad cs m_thrown m_kind m_steps m_size m_ran m_parts m_taken m_lacked m_decodings m_failures o1.2.1 m_end m_many o13 m_bytes m_heads m_numbers m_codes m_sizes m_guessed m_results m_values m_states m_came m_boxes m_single m_rows) H := hP.sub [0, 1, 2, 3, 4, 5, 6, 7, 8, 9, 10, 11, 12, 13] rfl
        have hD : va_D A (x_Mod ad cs m_thrown m_kind m_steps m_size m_ran m_parts m_taken m_lacked m_decodings m_failures o1.2.1 m_end m_many o13 m_bytes m_heads m_numbers m_codes m_sizes m_guessed m_results m_values m_states m_came m_boxes m_single m_rows) := hD.sub [0, 1, 2, 3, 4, 5, 6, 7, 8, 9, 10, 11, 12, 13] (by decide) rfl
        refine lv_aload_n hx hb d_Mod_differing_61 rfl (lv_at hl 2 rfl) ?_
        refine lv_iload_n hx hb d_Mod_differing_62 rfl (lv_at hl 0 rfl) ?_
        obtain ⟨o14, ho14, h⟩ := Option.bind_eq_some_iff.mp h
        have hKc := hK.sub (tys' := [((cs 1), .int), ((cs 2), .int), ((cs 3), .int), ((cs 4), .int), ((cs 5), .int), ((cs 6), .boolean), ((cs 7), .int), ((cs 8), .int), ((cs 9), .int), ((cs 10), .int), ((cs 11), .int), ((cs 12), .int), ((cs 13), .int)]) [0, 1, 2, 3, 4, 5, 6, 7, 8, 9, 10, 11, 12] rfl
        have hPc := hP.sub (ws' := x_Mod ad cs m_thrown m_kind m_steps m_size m_ran m_parts m_taken m_lacked m_decodings m_failures o1.2.1 m_end m_many o13 m_bytes m_heads m_numbers m_codes m_sizes m_guessed m_results m_values m_states m_came m_boxes m_single m_rows) [0, 1, 2, 3, 4, 5, 6, 7, 8, 9, 10, 11, 12, 13] rfl
        have hDc := hD.sub (ws' := x_Mod ad cs m_thrown m_kind m_steps m_size m_ran m_parts m_taken m_lacked m_decodings m_failures o1.2.1 m_end m_many o13 m_bytes m_heads m_numbers m_codes m_sizes m_guessed m_results m_values m_states m_came m_boxes m_single m_rows) [0, 1, 2, 3, 4, 5, 6, 7, 8, 9, 10, 11, 12, 13] (by decide) rfl
        have hFc := va_free (wc := x_Mod ad cs m_thrown m_kind m_steps m_size m_ran m_parts m_taken m_lacked m_decodings m_failures o1.2.1 m_end m_many o13 m_bytes m_heads m_numbers m_codes m_sizes m_guessed m_results m_values m_states m_came m_boxes m_single m_rows) hD hS hA [0, 1, 2, 3, 4, 5, 6, 7, 8, 9, 10, 11, 12, 13] rfl
        refine va_callv (va_runV (As := [.int ((m_came (m_many - (1 : Int32)).toNatClampNeg) + (o1.1 - (256 : Int32)))]) (rest := []) ⟨hx, hb, hml, hown, hB⟩ (c_Mod_give l dC dI tt ad cs H.size N ((m_came (m_many - (1 : Int32)).toNatClampNeg) + (o1.1 - (256 : Int32))) m_thrown m_kind m_steps m_size m_ran m_parts m_taken m_lacked m_decodings m_failures o1.2.1 m_end m_many o13 m_bytes m_heads m_numbers m_codes m_sizes m_guessed m_results m_values m_states m_came m_boxes m_single m_rows o14 ho14) (cwV 1 hB (gV wd_261 wd_259 wd_258 wd_226 wd_260) rfl rfl rfl (by decide +kernel) ⟨Nat.le_of_ble_eq_true rfl, Nat.le_of_ble_eq_true rfl⟩) ⟨PreW_blind, va_recv hKc hPc (ci := 4) (q0 := 0) rfl rfl, PreW_mk hKc hPc hDc hG hS hFc⟩ rfl rfl hl.1 rfl (lv_room (Nat.le_of_ble_eq_true rfl)) d_Mod_differing_63 ⟨Nat.le_of_ble_eq_true rfl, Nat.le_of_ble_eq_true rfl⟩) hS (fun q _ h => hFc q h) hFc (fun u_14 t H1 locs ht hvm hw hB hz1 hk1 hS => ?_)
        obtain ⟨hP1, hK1, hD1⟩ := hB
        rw [ht] at hP1
        obtain ⟨hP, hD⟩ := va_join (wr := pick (x_Mod ad cs m_thrown m_kind m_steps m_size m_ran m_parts m_taken m_lacked m_decodings m_failures o1.2.1 m_end m_many o13 m_bytes m_heads m_numbers m_codes m_sizes m_guessed m_results m_values m_states m_came m_boxes m_single m_rows) []) hP hD [0, 1, 2, 3, 4, 5, 6, 7, 8, 9, 10, 11, 12, 13] [] rfl rfl (by decide) (by decide) hk1 hFc hP1 hD1
        generalize H1 = H at hP hS ⊢
        have hP : va_P (dC, dI) vwCl (x_Mod ad cs m_thrown m_kind m_steps m_size m_ran m_parts m_taken m_lacked m_decodings m_failures o1.2.1 m_end o14.1 o13 m_bytes m_heads m_numbers m_codes m_sizes m_guessed m_results m_values m_states o14.2 m_boxes m_single m_rows) H := hP.sub [0, 1, 2, 3, 4, 5, 6, 7, 8, 9, 10, 11, 12, 13] rfl
        have hD : va_D A (x_Mod ad cs m_thrown m_kind m_steps m_size m_ran m_parts m_taken m_lacked m_decodings m_failures o1.2.1 m_end o14.1 o13 m_bytes m_heads m_numbers m_codes m_sizes m_guessed m_results m_values m_states o14.2 m_boxes m_single m_rows) := hD.sub [0, 1, 2, 3, 4, 5, 6, 7, 8, 9, 10, 11, 12, 13] (by decide) rfl
        have h := Option.some.inj h
        subst h
        exact W.vret hx hb hr (fun t ht hW => ⟨⟨(), rfl, trivial, AftW_mk hK hP hD ht hW⟩, hS.F ht⟩) hS.2.2 d_Mod_differing_66
      · have h := (if_neg c_12).symm.trans h
        refine lv_iload_n hx hb d_Mod_differing_48 rfl (lv_at hl 0 rfl) ?_
        refine lv_sipush (v := 255) hx hb d_Mod_differing_49 (by decide) ?_
        refine lv_icmp_le (tgt := 61) hx hb d_Mod_differing_52 (by decide) (fun c_15 => ?_) (fun c_15 => ?_)
        · have h := (if_pos c_15).symm.trans h
          refine lv_aload_n hx hb d_Mod_differing_61 rfl (lv_at hl 2 rfl) ?_
          refine lv_iload_n hx hb d_Mod_differing_62 rfl (lv_at hl 0 rfl) ?_
          obtain ⟨o16, ho16, h⟩ := Option.bind_eq_some_iff.mp h
          have hKc := hK.sub (tys' := [((cs 1), .int), ((cs 2), .int), ((cs 3), .int), ((cs 4), .int), ((cs 5), .int), ((cs 6), .boolean), ((cs 7), .int), ((cs 8), .int), ((cs 9), .int), ((cs 10), .int), ((cs 11), .int), ((cs 12), .int), ((cs 13), .int)]) [0, 1, 2, 3, 4, 5, 6, 7, 8, 9, 10, 11, 12] rfl
          have hPc := hP.sub (ws' := x_Mod ad cs m_thrown m_kind m_steps m_size m_ran m_parts m_taken m_lacked m_decodings m_failures o1.2.1 m_end m_many o1.2.2 m_bytes m_heads m_numbers m_codes m_sizes m_guessed m_results m_values m_states m_came m_boxes m_single m_rows) [0, 1, 2, 3, 4, 5, 6, 7, 8, 9, 10, 11, 12, 13] rfl
          have hDc := hD.sub (ws' := x_Mod ad cs m_thrown m_kind m_steps m_size m_ran m_parts m_taken m_lacked m_decodings m_failures o1.2.1 m_end m_many o1.2.2 m_bytes m_heads m_numbers m_codes m_sizes m_guessed m_results m_values m_states m_came m_boxes m_single m_rows) [0, 1, 2, 3, 4, 5, 6, 7, 8, 9, 10, 11, 12, 13] (by decide) rfl
          have hFc := va_free (wc := x_Mod ad cs m_thrown m_kind m_steps m_size m_ran m_parts m_taken m_lacked m_decodings m_failures o1.2.1 m_end m_many o1.2.2 m_bytes m_heads m_numbers m_codes m_sizes m_guessed m_results m_values m_states m_came m_boxes m_single m_rows) hD hS hA [0, 1, 2, 3, 4, 5, 6, 7, 8, 9, 10, 11, 12, 13] rfl
          refine va_callv (va_runV (As := [.int ((m_came (m_many - (1 : Int32)).toNatClampNeg) + (o1.1 - (256 : Int32)))]) (rest := []) ⟨hx, hb, hml, hown, hB⟩ (c_Mod_give l dC dI tt ad cs H.size N ((m_came (m_many - (1 : Int32)).toNatClampNeg) + (o1.1 - (256 : Int32))) m_thrown m_kind m_steps m_size m_ran m_parts m_taken m_lacked m_decodings m_failures o1.2.1 m_end m_many o1.2.2 m_bytes m_heads m_numbers m_codes m_sizes m_guessed m_results m_values m_states m_came m_boxes m_single m_rows o16 ho16) (cwV 1 hB (gV wd_261 wd_259 wd_258 wd_226 wd_260) rfl rfl rfl (by decide +kernel) ⟨Nat.le_of_ble_eq_true rfl, Nat.le_of_ble_eq_true rfl⟩) ⟨PreW_blind, va_recv hKc hPc (ci := 4) (q0 := 0) rfl rfl, PreW_mk hKc hPc hDc hG hS hFc⟩ rfl rfl hl.1 rfl (lv_room (Nat.le_of_ble_eq_true rfl)) d_Mod_differing_63 ⟨Nat.le_of_ble_eq_true rfl, Nat.le_of_ble_eq_true rfl⟩) hS (fun q _ h => hFc q h) hFc (fun u_16 t H1 locs ht hvm hw hB hz1 hk1 hS => ?_)
          obtain ⟨hP1, hK1, hD1⟩ := hB
          rw [ht] at hP1
          obtain ⟨hP, hD⟩ := va_join (wr := pick (x_Mod ad cs m_thrown m_kind m_steps m_size m_ran m_parts m_taken m_lacked m_decodings m_failures o1.2.1 m_end m_many o1.2.2 m_bytes m_heads m_numbers m_codes m_sizes m_guessed m_results m_values m_states m_came m_boxes m_single m_rows) []) hP hD [0, 1, 2, 3, 4, 5, 6, 7, 8, 9, 10, 11, 12, 13] [] rfl rfl (by decide) (by decide) hk1 hFc hP1 hD1
          generalize H1 = H at hP hS ⊢
          have hP : va_P (dC, dI) vwCl (x_Mod ad cs m_thrown m_kind m_steps m_size m_ran m_parts m_taken m_lacked m_decodings m_failures o1.2.1 m_end o16.1 o1.2.2 m_bytes m_heads m_numbers m_codes m_sizes m_guessed m_results m_values m_states o16.2 m_boxes m_single m_rows) H := hP.sub [0, 1, 2, 3, 4, 5, 6, 7, 8, 9, 10, 11, 12, 13] rfl
          have hD : va_D A (x_Mod ad cs m_thrown m_kind m_steps m_size m_ran m_parts m_taken m_lacked m_decodings m_failures o1.2.1 m_end o16.1 o1.2.2 m_bytes m_heads m_numbers m_codes m_sizes m_guessed m_results m_values m_states o16.2 m_boxes m_single m_rows) := hD.sub [0, 1, 2, 3, 4, 5, 6, 7, 8, 9, 10, 11, 12, 13] (by decide) rfl
          have h := Option.some.inj h
          subst h
          exact W.vret hx hb hr (fun t ht hW => ⟨⟨(), rfl, trivial, AftW_mk hK hP hD ht hW⟩, hS.F ht⟩) hS.2.2 d_Mod_differing_66
        · have h := (if_neg c_15).symm.trans h
          refine lv_aload_n hx hb d_Mod_differing_55 rfl (lv_at hl 2 rfl) ?_
          refine lv_bipush (v := 6) hx hb d_Mod_differing_56 (by decide) ?_
          obtain ⟨o17, ho17, h⟩ := Option.bind_eq_some_iff.mp h
          have hKc := hK.sub (tys' := [((cs 1), .int), ((cs 2), .int), ((cs 3), .int), ((cs 4), .int), ((cs 5), .int), ((cs 6), .boolean), ((cs 7), .int), ((cs 8), .int), ((cs 9), .int), ((cs 10), .int), ((cs 11), .int), ((cs 12), .int), ((cs 13), .int)]) [0, 1, 2, 3, 4, 5, 6, 7, 8, 9, 10, 11, 12] rfl
          have hPc := hP.sub (ws' := x_Mod ad cs m_thrown m_kind m_steps m_size m_ran m_parts m_taken m_lacked m_decodings m_failures o1.2.1 m_end m_many o1.2.2 m_bytes m_heads m_numbers m_codes m_sizes m_guessed m_results m_values m_states m_came m_boxes m_single m_rows) [0, 1, 2, 3, 4, 5, 6, 7, 8, 9, 10, 11, 12, 13] rfl
          have hDc := hD.sub (ws' := x_Mod ad cs m_thrown m_kind m_steps m_size m_ran m_parts m_taken m_lacked m_decodings m_failures o1.2.1 m_end m_many o1.2.2 m_bytes m_heads m_numbers m_codes m_sizes m_guessed m_results m_values m_states m_came m_boxes m_single m_rows) [0, 1, 2, 3, 4, 5, 6, 7, 8, 9, 10, 11, 12, 13] (by decide) rfl
          have hFc := va_free (wc := x_Mod ad cs m_thrown m_kind m_steps m_size m_ran m_parts m_taken m_lacked m_decodings m_failures o1.2.1 m_end m_many o1.2.2 m_bytes m_heads m_numbers m_codes m_sizes m_guessed m_results m_values m_states m_came m_boxes m_single m_rows) hD hS hA [0, 1, 2, 3, 4, 5, 6, 7, 8, 9, 10, 11, 12, 13] rfl
          refine va_callv (va_runV (As := [.int (6 : Int32)]) (rest := []) ⟨hx, hb, hml, hown, hB⟩ (c_Mod_fail l dC dI tt ad cs H.size N (6 : Int32) m_thrown m_kind m_steps m_size m_ran m_parts m_taken m_lacked m_decodings m_failures o1.2.1 m_end m_many o1.2.2 m_bytes m_heads m_numbers m_codes m_sizes m_guessed m_results m_values m_states m_came m_boxes m_single m_rows o17 ho17) (cwV 1 hB (gV wd_247 wd_245 wd_244 wd_226 wd_246) rfl rfl rfl (by decide +kernel) ⟨Nat.le_of_ble_eq_true rfl, Nat.le_of_ble_eq_true rfl⟩) ⟨PreW_blind, va_recv hKc hPc (ci := 4) (q0 := 0) rfl rfl, PreW_mk hKc hPc hDc hG hS hFc⟩ rfl rfl hl.1 rfl (lv_room (Nat.le_of_ble_eq_true rfl)) d_Mod_differing_58 ⟨Nat.le_of_ble_eq_true rfl, Nat.le_of_ble_eq_true rfl⟩) hS (fun q _ h => hFc q h) hFc (fun u_17 t H1 locs ht hvm hw hB hz1 hk1 hS => ?_)
          obtain ⟨hP1, hK1, hD1⟩ := hB
          rw [ht] at hP1
          obtain ⟨hP, hD⟩ := va_join (wr := pick (x_Mod ad cs m_thrown m_kind m_steps m_size m_ran m_parts m_taken m_lacked m_decodings m_failures o1.2.1 m_end m_many o1.2.2 m_bytes m_heads m_numbers m_codes m_sizes m_guessed m_results m_values m_states m_came m_boxes m_single m_rows) []) hP hD [0, 1, 2, 3, 4, 5, 6, 7, 8, 9, 10, 11, 12, 13] [] rfl rfl (by decide) (by decide) hk1 hFc hP1 hD1
          generalize H1 = H at hP hS ⊢
          have hP : va_P (dC, dI) vwCl (x_Mod ad cs m_thrown m_kind m_steps m_size m_ran m_parts m_taken m_lacked m_decodings m_failures o1.2.1 m_end m_many o17 m_bytes m_heads m_numbers m_codes m_sizes m_guessed m_results m_values m_states m_came m_boxes m_single m_rows) H := hP.sub [0, 1, 2, 3, 4, 5, 6, 7, 8, 9, 10, 11, 12, 13] rfl
          have hD : va_D A (x_Mod ad cs m_thrown m_kind m_steps m_size m_ran m_parts m_taken m_lacked m_decodings m_failures o1.2.1 m_end m_many o17 m_bytes m_heads m_numbers m_codes m_sizes m_guessed m_results m_values m_states m_came m_boxes m_single m_rows) := hD.sub [0, 1, 2, 3, 4, 5, 6, 7, 8, 9, 10, 11, 12, 13] (by decide) rfl
          refine lv_aload_n hx hb d_Mod_differing_61 rfl (lv_at hl 2 rfl) ?_
          refine lv_iload_n hx hb d_Mod_differing_62 rfl (lv_at hl 0 rfl) ?_
          obtain ⟨o18, ho18, h⟩ := Option.bind_eq_some_iff.mp h
          have hKc := hK.sub (tys' := [((cs 1), .int), ((cs 2), .int), ((cs 3), .int), ((cs 4), .int), ((cs 5), .int), ((cs 6), .boolean), ((cs 7), .int), ((cs 8), .int), ((cs 9), .int), ((cs 10), .int), ((cs 11), .int), ((cs 12), .int), ((cs 13), .int)]) [0, 1, 2, 3, 4, 5, 6, 7, 8, 9, 10, 11, 12] rfl
          have hPc := hP.sub (ws' := x_Mod ad cs m_thrown m_kind m_steps m_size m_ran m_parts m_taken m_lacked m_decodings m_failures o1.2.1 m_end m_many o17 m_bytes m_heads m_numbers m_codes m_sizes m_guessed m_results m_values m_states m_came m_boxes m_single m_rows) [0, 1, 2, 3, 4, 5, 6, 7, 8, 9, 10, 11, 12, 13] rfl
          have hDc := hD.sub (ws' := x_Mod ad cs m_thrown m_kind m_steps m_size m_ran m_parts m_taken m_lacked m_decodings m_failures o1.2.1 m_end m_many o17 m_bytes m_heads m_numbers m_codes m_sizes m_guessed m_results m_values m_states m_came m_boxes m_single m_rows) [0, 1, 2, 3, 4, 5, 6, 7, 8, 9, 10, 11, 12, 13] (by decide) rfl
          have hFc := va_free (wc := x_Mod ad cs m_thrown m_kind m_steps m_size m_ran m_parts m_taken m_lacked m_decodings m_failures o1.2.1 m_end m_many o17 m_bytes m_heads m_numbers m_codes m_sizes m_guessed m_results m_values m_states m_came m_boxes m_single m_rows) hD hS hA [0, 1, 2, 3, 4, 5, 6, 7, 8, 9, 10, 11, 12, 13] rfl
          refine va_callv (va_runV (As := [.int ((m_came (m_many - (1 : Int32)).toNatClampNeg) + (o1.1 - (256 : Int32)))]) (rest := []) ⟨hx, hb, hml, hown, hB⟩ (c_Mod_give l dC dI tt ad cs H.size N ((m_came (m_many - (1 : Int32)).toNatClampNeg) + (o1.1 - (256 : Int32))) m_thrown m_kind m_steps m_size m_ran m_parts m_taken m_lacked m_decodings m_failures o1.2.1 m_end m_many o17 m_bytes m_heads m_numbers m_codes m_sizes m_guessed m_results m_values m_states m_came m_boxes m_single m_rows o18 ho18) (cwV 1 hB (gV wd_261 wd_259 wd_258 wd_226 wd_260) rfl rfl rfl (by decide +kernel) ⟨Nat.le_of_ble_eq_true rfl, Nat.le_of_ble_eq_true rfl⟩) ⟨PreW_blind, va_recv hKc hPc (ci := 4) (q0 := 0) rfl rfl, PreW_mk hKc hPc hDc hG hS hFc⟩ rfl rfl hl.1 rfl (lv_room (Nat.le_of_ble_eq_true rfl)) d_Mod_differing_63 ⟨Nat.le_of_ble_eq_true rfl, Nat.le_of_ble_eq_true rfl⟩) hS (fun q _ h => hFc q h) hFc (fun u_18 t H1 locs ht hvm hw hB hz1 hk1 hS => ?_)
          obtain ⟨hP1, hK1, hD1⟩ := hB
          rw [ht] at hP1
          obtain ⟨hP, hD⟩ := va_join (wr := pick (x_Mod ad cs m_thrown m_kind m_steps m_size m_ran m_parts m_taken m_lacked m_decodings m_failures o1.2.1 m_end m_many o17 m_bytes m_heads m_numbers m_codes m_sizes m_guessed m_results m_values m_states m_came m_boxes m_single m_rows) []) hP hD [0, 1, 2, 3, 4, 5, 6, 7, 8, 9, 10, 11, 12, 13] [] rfl rfl (by decide) (by decide) hk1 hFc hP1 hD1
          generalize H1 = H at hP hS ⊢
          have hP : va_P (dC, dI) vwCl (x_Mod ad cs m_thrown m_kind m_steps m_size m_ran m_parts m_taken m_lacked m_decodings m_failures o1.2.1 m_end o18.1 o17 m_bytes m_heads m_numbers m_codes m_sizes m_guessed m_results m_values m_states o18.2 m_boxes m_single m_rows) H := hP.sub [0, 1, 2, 3, 4, 5, 6, 7, 8, 9, 10, 11, 12, 13] rfl
          have hD : va_D A (x_Mod ad cs m_thrown m_kind m_steps m_size m_ran m_parts m_taken m_lacked m_decodings m_failures o1.2.1 m_end o18.1 o17 m_bytes m_heads m_numbers m_codes m_sizes m_guessed m_results m_values m_states o18.2 m_boxes m_single m_rows) := hD.sub [0, 1, 2, 3, 4, 5, 6, 7, 8, 9, 10, 11, 12, 13] (by decide) rfl
          have h := Option.some.inj h
          subst h
          exact W.vret hx hb hr (fun t ht hW => ⟨⟨(), rfl, trivial, AftW_mk hK hP hD ht hW⟩, hS.F ht⟩) hS.2.2 d_Mod_differing_66
  · have h := (if_pos c_2).symm.trans h
    refine lv_iload_n hx hb d_Mod_differing_12 rfl (lv_at hl 0 rfl) ?_
    refine lv_goto (tgt := 43) hx hb d_Mod_differing_13 (by decide) ?_
    refine lv_istore_n (lv' := [(2, .int o1.1), (1, .int o1.1), (0, .ref (ad 0))]) hx hb d_Mod_differing_43 rfl hl (by decide) rfl (fun ls hl => ?_)
    refine lv_iload_n hx hb d_Mod_differing_44 rfl (lv_at hl 0 rfl) ?_
    refine lv_if_lt (tgt := 55) hx hb d_Mod_differing_45 (by decide) (fun c_19 => ?_) (fun c_19 => ?_)
    · have h := (if_pos c_19).symm.trans h
      refine lv_aload_n hx hb d_Mod_differing_55 rfl (lv_at hl 2 rfl) ?_
      refine lv_bipush (v := 6) hx hb d_Mod_differing_56 (by decide) ?_
      obtain ⟨o20, ho20, h⟩ := Option.bind_eq_some_iff.mp h
      have hKc := hK.sub (tys' := [((cs 1), .int), ((cs 2), .int), ((cs 3), .int), ((cs 4), .int), ((cs 5), .int), ((cs 6), .boolean), ((cs 7), .int), ((cs 8), .int), ((cs 9), .int), ((cs 10), .int), ((cs 11), .int), ((cs 12), .int), ((cs 13), .int)]) [0, 1, 2, 3, 4, 5, 6, 7, 8, 9, 10, 11, 12] rfl
      have hPc := hP.sub (ws' := x_Mod ad cs m_thrown m_kind m_steps m_size m_ran m_parts m_taken m_lacked m_decodings m_failures o1.2.1 m_end m_many o1.2.2 m_bytes m_heads m_numbers m_codes m_sizes m_guessed m_results m_values m_states m_came m_boxes m_single m_rows) [0, 1, 2, 3, 4, 5, 6, 7, 8, 9, 10, 11, 12, 13] rfl
      have hDc := hD.sub (ws' := x_Mod ad cs m_thrown m_kind m_steps m_size m_ran m_parts m_taken m_lacked m_decodings m_failures o1.2.1 m_end m_many o1.2.2 m_bytes m_heads m_numbers m_codes m_sizes m_guessed m_results m_values m_states m_came m_boxes m_single m_rows) [0, 1, 2, 3, 4, 5, 6, 7, 8, 9, 10, 11, 12, 13] (by decide) rfl
      have hFc := va_free (wc := x_Mod ad cs m_thrown m_kind m_steps m_size m_ran m_parts m_taken m_lacked m_decodings m_failures o1.2.1 m_end m_many o1.2.2 m_bytes m_heads m_numbers m_codes m_sizes m_guessed m_results m_values m_states m_came m_boxes m_single m_rows) hD hS hA [0, 1, 2, 3, 4, 5, 6, 7, 8, 9, 10, 11, 12, 13] rfl
      refine va_callv (va_runV (As := [.int (6 : Int32)]) (rest := []) ⟨hx, hb, hml, hown, hB⟩ (c_Mod_fail l dC dI tt ad cs H.size N (6 : Int32) m_thrown m_kind m_steps m_size m_ran m_parts m_taken m_lacked m_decodings m_failures o1.2.1 m_end m_many o1.2.2 m_bytes m_heads m_numbers m_codes m_sizes m_guessed m_results m_values m_states m_came m_boxes m_single m_rows o20 ho20) (cwV 1 hB (gV wd_247 wd_245 wd_244 wd_226 wd_246) rfl rfl rfl (by decide +kernel) ⟨Nat.le_of_ble_eq_true rfl, Nat.le_of_ble_eq_true rfl⟩) ⟨PreW_blind, va_recv hKc hPc (ci := 4) (q0 := 0) rfl rfl, PreW_mk hKc hPc hDc hG hS hFc⟩ rfl rfl hl.1 rfl (lv_room (Nat.le_of_ble_eq_true rfl)) d_Mod_differing_58 ⟨Nat.le_of_ble_eq_true rfl, Nat.le_of_ble_eq_true rfl⟩) hS (fun q _ h => hFc q h) hFc (fun u_20 t H1 locs ht hvm hw hB hz1 hk1 hS => ?_)
      obtain ⟨hP1, hK1, hD1⟩ := hB
      rw [ht] at hP1
      obtain ⟨hP, hD⟩ := va_join (wr := pick (x_Mod ad cs m_thrown m_kind m_steps m_size m_ran m_parts m_taken m_lacked m_decodings m_failures o1.2.1 m_end m_many o1.2.2 m_bytes m_heads m_numbers m_codes m_sizes m_guessed m_results m_values m_states m_came m_boxes m_single m_rows) []) hP hD [0, 1, 2, 3, 4, 5, 6, 7, 8, 9, 10, 11, 12, 13] [] rfl rfl (by decide) (by decide) hk1 hFc hP1 hD1
      generalize H1 = H at hP hS ⊢
      have hP : va_P (dC, dI) vwCl (x_Mod ad cs m_thrown m_kind m_steps m_size m_ran m_parts m_taken m_lacked m_decodings m_failures o1.2.1 m_end m_many o20 m_bytes m_heads m_numbers m_codes m_sizes m_guessed m_results m_values m_states m_came m_boxes m_single m_rows) H := hP.sub [0, 1, 2, 3, 4, 5, 6, 7, 8, 9, 10, 11, 12, 13] rfl
      have hD : va_D A (x_Mod ad cs m_thrown m_kind m_steps m_size m_ran m_parts m_taken m_lacked m_decodings m_failures o1.2.1 m_end m_many o20 m_bytes m_heads m_numbers m_codes m_sizes m_guessed m_results m_values m_states m_came m_boxes m_single m_rows) := hD.sub [0, 1, 2, 3, 4, 5, 6, 7, 8, 9, 10, 11, 12, 13] (by decide) rfl
      refine lv_aload_n hx hb d_Mod_differing_61 rfl (lv_at hl 2 rfl) ?_
      refine lv_iload_n hx hb d_Mod_differing_62 rfl (lv_at hl 0 rfl) ?_
      obtain ⟨o21, ho21, h⟩ := Option.bind_eq_some_iff.mp h
      have hKc := hK.sub (tys' := [((cs 1), .int), ((cs 2), .int), ((cs 3), .int), ((cs 4), .int), ((cs 5), .int), ((cs 6), .boolean), ((cs 7), .int), ((cs 8), .int), ((cs 9), .int), ((cs 10), .int), ((cs 11), .int), ((cs 12), .int), ((cs 13), .int)]) [0, 1, 2, 3, 4, 5, 6, 7, 8, 9, 10, 11, 12] rfl
      have hPc := hP.sub (ws' := x_Mod ad cs m_thrown m_kind m_steps m_size m_ran m_parts m_taken m_lacked m_decodings m_failures o1.2.1 m_end m_many o20 m_bytes m_heads m_numbers m_codes m_sizes m_guessed m_results m_values m_states m_came m_boxes m_single m_rows) [0, 1, 2, 3, 4, 5, 6, 7, 8, 9, 10, 11, 12, 13] rfl
      have hDc := hD.sub (ws' := x_Mod ad cs m_thrown m_kind m_steps m_size m_ran m_parts m_taken m_lacked m_decodings m_failures o1.2.1 m_end m_many o20 m_bytes m_heads m_numbers m_codes m_sizes m_guessed m_results m_values m_states m_came m_boxes m_single m_rows) [0, 1, 2, 3, 4, 5, 6, 7, 8, 9, 10, 11, 12, 13] (by decide) rfl
      have hFc := va_free (wc := x_Mod ad cs m_thrown m_kind m_steps m_size m_ran m_parts m_taken m_lacked m_decodings m_failures o1.2.1 m_end m_many o20 m_bytes m_heads m_numbers m_codes m_sizes m_guessed m_results m_values m_states m_came m_boxes m_single m_rows) hD hS hA [0, 1, 2, 3, 4, 5, 6, 7, 8, 9, 10, 11, 12, 13] rfl
      refine va_callv (va_runV (As := [.int o1.1]) (rest := []) ⟨hx, hb, hml, hown, hB⟩ (c_Mod_give l dC dI tt ad cs H.size N o1.1 m_thrown m_kind m_steps m_size m_ran m_parts m_taken m_lacked m_decodings m_failures o1.2.1 m_end m_many o20 m_bytes m_heads m_numbers m_codes m_sizes m_guessed m_results m_values m_states m_came m_boxes m_single m_rows o21 ho21) (cwV 1 hB (gV wd_261 wd_259 wd_258 wd_226 wd_260) rfl rfl rfl (by decide +kernel) ⟨Nat.le_of_ble_eq_true rfl, Nat.le_of_ble_eq_true rfl⟩) ⟨PreW_blind, va_recv hKc hPc (ci := 4) (q0 := 0) rfl rfl, PreW_mk hKc hPc hDc hG hS hFc⟩ rfl rfl hl.1 rfl (lv_room (Nat.le_of_ble_eq_true rfl)) d_Mod_differing_63 ⟨Nat.le_of_ble_eq_true rfl, Nat.le_of_ble_eq_true rfl⟩) hS (fun q _ h => hFc q h) hFc (fun u_21 t H1 locs ht hvm hw hB hz1 hk1 hS => ?_)
      obtain ⟨hP1, hK1, hD1⟩ := hB
      rw [ht] at hP1
      obtain ⟨hP, hD⟩ := va_join (wr := pick (x_Mod ad cs m_thrown m_kind m_steps m_size m_ran m_parts m_taken m_lacked m_decodings m_failures o1.2.1 m_end m_many o20 m_bytes m_heads m_numbers m_codes m_sizes m_guessed m_results m_values m_states m_came m_boxes m_single m_rows) []) hP hD [0, 1, 2, 3, 4, 5, 6, 7, 8, 9, 10, 11, 12, 13] [] rfl rfl (by decide) (by decide) hk1 hFc hP1 hD1
      generalize H1 = H at hP hS ⊢
      have hP : va_P (dC, dI) vwCl (x_Mod ad cs m_thrown m_kind m_steps m_size m_ran m_parts m_taken m_lacked m_decodings m_failures o1.2.1 m_end o21.1 o20 m_bytes m_heads m_numbers m_codes m_sizes m_guessed m_results m_values m_states o21.2 m_boxes m_single m_rows) H := hP.sub [0, 1, 2, 3, 4, 5, 6, 7, 8, 9, 10, 11, 12, 13] rfl
      have hD : va_D A (x_Mod ad cs m_thrown m_kind m_steps m_size m_ran m_parts m_taken m_lacked m_decodings m_failures o1.2.1 m_end o21.1 o20 m_bytes m_heads m_numbers m_codes m_sizes m_guessed m_results m_values m_states o21.2 m_boxes m_single m_rows) := hD.sub [0, 1, 2, 3, 4, 5, 6, 7, 8, 9, 10, 11, 12, 13] (by decide) rfl
      have h := Option.some.inj h
      subst h
      exact W.vret hx hb hr (fun t ht hW => ⟨⟨(), rfl, trivial, AftW_mk hK hP hD ht hW⟩, hS.F ht⟩) hS.2.2 d_Mod_differing_66
    · have h := (if_neg c_19).symm.trans h
      refine lv_iload_n hx hb d_Mod_differing_48 rfl (lv_at hl 0 rfl) ?_
      refine lv_sipush (v := 255) hx hb d_Mod_differing_49 (by decide) ?_
      refine lv_icmp_le (tgt := 61) hx hb d_Mod_differing_52 (by decide) (fun c_22 => ?_) (fun c_22 => ?_)
      · have h := (if_pos c_22).symm.trans h
        refine lv_aload_n hx hb d_Mod_differing_61 rfl (lv_at hl 2 rfl) ?_
        refine lv_iload_n hx hb d_Mod_differing_62 rfl (lv_at hl 0 rfl) ?_
        obtain ⟨o23, ho23, h⟩ := Option.bind_eq_some_iff.mp h
        have hKc := hK.sub (tys' := [((cs 1), .int), ((cs 2), .int), ((cs 3), .int), ((cs 4), .int), ((cs 5), .int), ((cs 6), .boolean), ((cs 7), .int), ((cs 8), .int), ((cs 9), .int), ((cs 10), .int), ((cs 11), .int), ((cs 12), .int), ((cs 13), .int)]) [0, 1, 2, 3, 4, 5, 6, 7, 8, 9, 10, 11, 12] rfl
        have hPc := hP.sub (ws' := x_Mod ad cs m_thrown m_kind m_steps m_size m_ran m_parts m_taken m_lacked m_decodings m_failures o1.2.1 m_end m_many o1.2.2 m_bytes m_heads m_numbers m_codes m_sizes m_guessed m_results m_values m_states m_came m_boxes m_single m_rows) [0, 1, 2, 3, 4, 5, 6, 7, 8, 9, 10, 11, 12, 13] rfl
        have hDc := hD.sub (ws' := x_Mod ad cs m_thrown m_kind m_steps m_size m_ran m_parts m_taken m_lacked m_decodings m_failures o1.2.1 m_end m_many o1.2.2 m_bytes m_heads m_numbers m_codes m_sizes m_guessed m_results m_values m_states m_came m_boxes m_single m_rows) [0, 1, 2, 3, 4, 5, 6, 7, 8, 9, 10, 11, 12, 13] (by decide) rfl
        have hFc := va_free (wc := x_Mod ad cs m_thrown m_kind m_steps m_size m_ran m_parts m_taken m_lacked m_decodings m_failures o1.2.1 m_end m_many o1.2.2 m_bytes m_heads m_numbers m_codes m_sizes m_guessed m_results m_values m_states m_came m_boxes m_single m_rows) hD hS hA [0, 1, 2, 3, 4, 5, 6, 7, 8, 9, 10, 11, 12, 13] rfl
        refine va_callv (va_runV (As := [.int o1.1]) (rest := []) ⟨hx, hb, hml, hown, hB⟩ (c_Mod_give l dC dI tt ad cs H.size N o1.1 m_thrown m_kind m_steps m_size m_ran m_parts m_taken m_lacked m_decodings m_failures o1.2.1 m_end m_many o1.2.2 m_bytes m_heads m_numbers m_codes m_sizes m_guessed m_results m_values m_states m_came m_boxes m_single m_rows o23 ho23) (cwV 1 hB (gV wd_261 wd_259 wd_258 wd_226 wd_260) rfl rfl rfl (by decide +kernel) ⟨Nat.le_of_ble_eq_true rfl, Nat.le_of_ble_eq_true rfl⟩) ⟨PreW_blind, va_recv hKc hPc (ci := 4) (q0 := 0) rfl rfl, PreW_mk hKc hPc hDc hG hS hFc⟩ rfl rfl hl.1 rfl (lv_room (Nat.le_of_ble_eq_true rfl)) d_Mod_differing_63 ⟨Nat.le_of_ble_eq_true rfl, Nat.le_of_ble_eq_true rfl⟩) hS (fun q _ h => hFc q h) hFc (fun u_23 t H1 locs ht hvm hw hB hz1 hk1 hS => ?_)
        obtain ⟨hP1, hK1, hD1⟩ := hB
        rw [ht] at hP1
        obtain ⟨hP, hD⟩ := va_join (wr := pick (x_Mod ad cs m_thrown m_kind m_steps m_size m_ran m_parts m_taken m_lacked m_decodings m_failures o1.2.1 m_end m_many o1.2.2 m_bytes m_heads m_numbers m_codes m_sizes m_guessed m_results m_values m_states m_came m_boxes m_single m_rows) []) hP hD [0, 1, 2, 3, 4, 5, 6, 7, 8, 9, 10, 11, 12, 13] [] rfl rfl (by decide) (by decide) hk1 hFc hP1 hD1
        generalize H1 = H at hP hS ⊢
        have hP : va_P (dC, dI) vwCl (x_Mod ad cs m_thrown m_kind m_steps m_size m_ran m_parts m_taken m_lacked m_decodings m_failures o1.2.1 m_end o23.1 o1.2.2 m_bytes m_heads m_numbers m_codes m_sizes m_guessed m_results m_values m_states o23.2 m_boxes m_single m_rows) H := hP.sub [0, 1, 2, 3, 4, 5, 6, 7, 8, 9, 10, 11, 12, 13] rfl
        have hD : va_D A (x_Mod ad cs m_thrown m_kind m_steps m_size m_ran m_parts m_taken m_lacked m_decodings m_failures o1.2.1 m_end o23.1 o1.2.2 m_bytes m_heads m_numbers m_codes m_sizes m_guessed m_results m_values m_states o23.2 m_boxes m_single m_rows) := hD.sub [0, 1, 2, 3, 4, 5, 6, 7, 8, 9, 10, 11, 12, 13] (by decide) rfl
        have h := Option.some.inj h
        subst h
        exact W.vret hx hb hr (fun t ht hW => ⟨⟨(), rfl, trivial, AftW_mk hK hP hD ht hW⟩, hS.F ht⟩) hS.2.2 d_Mod_differing_66
      · have h := (if_neg c_22).symm.trans h
        refine lv_aload_n hx hb d_Mod_differing_55 rfl (lv_at hl 2 rfl) ?_
        refine lv_bipush (v := 6) hx hb d_Mod_differing_56 (by decide) ?_
        obtain ⟨o24, ho24, h⟩ := Option.bind_eq_some_iff.mp h
        have hKc := hK.sub (tys' := [((cs 1), .int), ((cs 2), .int), ((cs 3), .int), ((cs 4), .int), ((cs 5), .int), ((cs 6), .boolean), ((cs 7), .int), ((cs 8), .int), ((cs 9), .int), ((cs 10), .int), ((cs 11), .int), ((cs 12), .int), ((cs 13), .int)]) [0, 1, 2, 3, 4, 5, 6, 7, 8, 9, 10, 11, 12] rfl
        have hPc := hP.sub (ws' := x_Mod ad cs m_thrown m_kind m_steps m_size m_ran m_parts m_taken m_lacked m_decodings m_failures o1.2.1 m_end m_many o1.2.2 m_bytes m_heads m_numbers m_codes m_sizes m_guessed m_results m_values m_states m_came m_boxes m_single m_rows) [0, 1, 2, 3, 4, 5, 6, 7, 8, 9, 10, 11, 12, 13] rfl
        have hDc := hD.sub (ws' := x_Mod ad cs m_thrown m_kind m_steps m_size m_ran m_parts m_taken m_lacked m_decodings m_failures o1.2.1 m_end m_many o1.2.2 m_bytes m_heads m_numbers m_codes m_sizes m_guessed m_results m_values m_states m_came m_boxes m_single m_rows) [0, 1, 2, 3, 4, 5, 6, 7, 8, 9, 10, 11, 12, 13] (by decide) rfl
        have hFc := va_free (wc := x_Mod ad cs m_thrown m_kind m_steps m_size m_ran m_parts m_taken m_lacked m_decodings m_failures o1.2.1 m_end m_many o1.2.2 m_bytes m_heads m_numbers m_codes m_sizes m_guessed m_results m_values m_states m_came m_boxes m_single m_rows) hD hS hA [0, 1, 2, 3, 4, 5, 6, 7, 8, 9, 10, 11, 12, 13] rfl
        refine va_callv (va_runV (As := [.int (6 : Int32)]) (rest := []) ⟨hx, hb, hml, hown, hB⟩ (c_Mod_fail l dC dI tt ad cs H.size N (6 : Int32) m_thrown m_kind m_steps m_size m_ran m_parts m_taken m_lacked m_decodings m_failures o1.2.1 m_end m_many o1.2.2 m_bytes m_heads m_numbers m_codes m_sizes m_guessed m_results m_values m_states m_came m_boxes m_single m_rows o24 ho24) (cwV 1 hB (gV wd_247 wd_245 wd_244 wd_226 wd_246) rfl rfl rfl (by decide +kernel) ⟨Nat.le_of_ble_eq_true rfl, Nat.le_of_ble_eq_true rfl⟩) ⟨PreW_blind, va_recv hKc hPc (ci := 4) (q0 := 0) rfl rfl, PreW_mk hKc hPc hDc hG hS hFc⟩ rfl rfl hl.1 rfl (lv_room (Nat.le_of_ble_eq_true rfl)) d_Mod_differing_58 ⟨Nat.le_of_ble_eq_true rfl, Nat.le_of_ble_eq_true rfl⟩) hS (fun q _ h => hFc q h) hFc (fun u_24 t H1 locs ht hvm hw hB hz1 hk1 hS => ?_)
        obtain ⟨hP1, hK1, hD1⟩ := hB
        rw [ht] at hP1
        obtain ⟨hP, hD⟩ := va_join (wr := pick (x_Mod ad cs m_thrown m_kind m_steps m_size m_ran m_parts m_taken m_lacked m_decodings m_failures o1.2.1 m_end m_many o1.2.2 m_bytes m_heads m_numbers m_codes m_sizes m_guessed m_results m_values m_states m_came m_boxes m_single m_rows) []) hP hD [0, 1, 2, 3, 4, 5, 6, 7, 8, 9, 10, 11, 12, 13] [] rfl rfl (by decide) (by decide) hk1 hFc hP1 hD1
        generalize H1 = H at hP hS ⊢
        have hP : va_P (dC, dI) vwCl (x_Mod ad cs m_thrown m_kind m_steps m_size m_ran m_parts m_taken m_lacked m_decodings m_failures o1.2.1 m_end m_many o24 m_bytes m_heads m_numbers m_codes m_sizes m_guessed m_results m_values m_states m_came m_boxes m_single m_rows) H := hP.sub [0, 1, 2, 3, 4, 5, 6, 7, 8, 9, 10, 11, 12, 13] rfl
        have hD : va_D A (x_Mod ad cs m_thrown m_kind m_steps m_size m_ran m_parts m_taken m_lacked m_decodings m_failures o1.2.1 m_end m_many o24 m_bytes m_heads m_numbers m_codes m_sizes m_guessed m_results m_values m_states m_came m_boxes m_single m_rows) := hD.sub [0, 1, 2, 3, 4, 5, 6, 7, 8, 9, 10, 11, 12, 13] (by decide) rfl
        refine lv_aload_n hx hb d_Mod_differing_61 rfl (lv_at hl 2 rfl) ?_
        refine lv_iload_n hx hb d_Mod_differing_62 rfl (lv_at hl 0 rfl) ?_
        obtain ⟨o25, ho25, h⟩ := Option.bind_eq_some_iff.mp h
        have hKc := hK.sub (tys' := [((cs 1), .int), ((cs 2), .int), ((cs 3), .int), ((cs 4), .int), ((cs 5), .int), ((cs 6), .boolean), ((cs 7), .int), ((cs 8), .int), ((cs 9), .int), ((cs 10), .int), ((cs 11), .int), ((cs 12), .int), ((cs 13), .int)]) [0, 1, 2, 3, 4, 5, 6, 7, 8, 9, 10, 11, 12] rfl
        have hPc := hP.sub (ws' := x_Mod ad cs m_thrown m_kind m_steps m_size m_ran m_parts m_taken m_lacked m_decodings m_failures o1.2.1 m_end m_many o24 m_bytes m_heads m_numbers m_codes m_sizes m_guessed m_results m_values m_states m_came m_boxes m_single m_rows) [0, 1, 2, 3, 4, 5, 6, 7, 8, 9, 10, 11, 12, 13] rfl
        have hDc := hD.sub (ws' := x_Mod ad cs m_thrown m_kind m_steps m_size m_ran m_parts m_taken m_lacked m_decodings m_failures o1.2.1 m_end m_many o24 m_bytes m_heads m_numbers m_codes m_sizes m_guessed m_results m_values m_states m_came m_boxes m_single m_rows) [0, 1, 2, 3, 4, 5, 6, 7, 8, 9, 10, 11, 12, 13] (by decide) rfl
        have hFc := va_free (wc := x_Mod ad cs m_thrown m_kind m_steps m_size m_ran m_parts m_taken m_lacked m_decodings m_failures o1.2.1 m_end m_many o24 m_bytes m_heads m_numbers m_codes m_sizes m_guessed m_results m_values m_states m_came m_boxes m_single m_rows) hD hS hA [0, 1, 2, 3, 4, 5, 6, 7, 8, 9, 10, 11, 12, 13] rfl
        refine va_callv (va_runV (As := [.int o1.1]) (rest := []) ⟨hx, hb, hml, hown, hB⟩ (c_Mod_give l dC dI tt ad cs H.size N o1.1 m_thrown m_kind m_steps m_size m_ran m_parts m_taken m_lacked m_decodings m_failures o1.2.1 m_end m_many o24 m_bytes m_heads m_numbers m_codes m_sizes m_guessed m_results m_values m_states m_came m_boxes m_single m_rows o25 ho25) (cwV 1 hB (gV wd_261 wd_259 wd_258 wd_226 wd_260) rfl rfl rfl (by decide +kernel) ⟨Nat.le_of_ble_eq_true rfl, Nat.le_of_ble_eq_true rfl⟩) ⟨PreW_blind, va_recv hKc hPc (ci := 4) (q0 := 0) rfl rfl, PreW_mk hKc hPc hDc hG hS hFc⟩ rfl rfl hl.1 rfl (lv_room (Nat.le_of_ble_eq_true rfl)) d_Mod_differing_63 ⟨Nat.le_of_ble_eq_true rfl, Nat.le_of_ble_eq_true rfl⟩) hS (fun q _ h => hFc q h) hFc (fun u_25 t H1 locs ht hvm hw hB hz1 hk1 hS => ?_)
        obtain ⟨hP1, hK1, hD1⟩ := hB
        rw [ht] at hP1
        obtain ⟨hP, hD⟩ := va_join (wr := pick (x_Mod ad cs m_thrown m_kind m_steps m_size m_ran m_parts m_taken m_lacked m_decodings m_failures o1.2.1 m_end m_many o24 m_bytes m_heads m_numbers m_codes m_sizes m_guessed m_results m_values m_states m_came m_boxes m_single m_rows) []) hP hD [0, 1, 2, 3, 4, 5, 6, 7, 8, 9, 10, 11, 12, 13] [] rfl rfl (by decide) (by decide) hk1 hFc hP1 hD1
        generalize H1 = H at hP hS ⊢
        have hP : va_P (dC, dI) vwCl (x_Mod ad cs m_thrown m_kind m_steps m_size m_ran m_parts m_taken m_lacked m_decodings m_failures o1.2.1 m_end o25.1 o24 m_bytes m_heads m_numbers m_codes m_sizes m_guessed m_results m_values m_states o25.2 m_boxes m_single m_rows) H := hP.sub [0, 1, 2, 3, 4, 5, 6, 7, 8, 9, 10, 11, 12, 13] rfl
        have hD : va_D A (x_Mod ad cs m_thrown m_kind m_steps m_size m_ran m_parts m_taken m_lacked m_decodings m_failures o1.2.1 m_end o25.1 o24 m_bytes m_heads m_numbers m_codes m_sizes m_guessed m_results m_values m_states o25.2 m_boxes m_single m_rows) := hD.sub [0, 1, 2, 3, 4, 5, 6, 7, 8, 9, 10, 11, 12, 13] (by decide) rfl
        have h := Option.some.inj h
        subst h
        exact W.vret hx hb hr (fun t ht hW => ⟨⟨(), rfl, trivial, AftW_mk hK hP hD ht hW⟩, hS.F ht⟩) hS.2.2 d_Mod_differing_66
def d_Mod_open_L189 (N : Nat) (y189_1 : Int32) (m_bytes : Nat → Int32) (m_heads : Nat → Int32) (m_numbers : Nat → Int32) (m_codes : Nat → Int32) (m_sizes : Nat → Int32) (m_guessed : Nat → Int32) : Nat → Int32 → Int32 → Int32 → Int32 → Int32 → Int32 → Int32 → (Nat → Int32) → (Nat → Int32) → (Nat → Int32) → (Nat → Int32) → (Nat → Int32) → (Nat → Int32) → (Nat → Int32) → Option (Int32 × Int32 × Int32 × Int32 × Int32 × Int32 × (Nat → Int32) × (Nat → Int32) × (Nat → Int32) × (Nat → Int32) × (Nat → Int32) × (Nat → Int32) × (Nat → Int32))
  | 0, _, _, _, _, _, _, _, _, _, _, _, _, _, _ => none
  | n + 1, y189_2, m_decodings_189, m_failures_189, m_at_189, m_end_189, m_many_189, m_wrong_189, m_results_189, m_values_189, m_states_189, m_came_189, m_boxes_189, m_single_189, m_rows_189 => if (16 : Int32) ≤ y189_2 then some (m_decodings_189, m_failures_189, m_at_189, m_end_189, m_many_189, m_wrong_189, m_results_189, m_values_189, m_states_189, m_came_189, m_boxes_189, m_single_189, m_rows_189) else if m_wrong_189 = 0 then gI y189_1 16 (if (m_guessed y189_1.toNatClampNeg) = 0 then gI y189_2 16 (gI (((16 : Int32) * (m_numbers y189_1.toNatClampNeg)) + y189_2) 256 (if (m_guessed y189_1.toNatClampNeg) = 0 then d_Mod_open_L189 N y189_1 m_bytes m_heads m_numbers m_codes m_sizes m_guessed n (y189_2 + 1) m_decodings_189 m_failures_189 m_at_189 m_end_189 m_many_189 m_wrong_189 m_results_189 (upd m_values_189 (((16 : Int32) * (m_numbers y189_1.toNatClampNeg)) + y189_2).toNatClampNeg (m_came_189 y189_2.toNatClampNeg)) (upd m_states_189 (((16 : Int32) * (m_numbers y189_1.toNatClampNeg)) + y189_2).toNatClampNeg (1 : Int32)) m_came_189 m_boxes_189 m_single_189 m_rows_189 else d_Mod_open_L189 N y189_1 m_bytes m_heads m_numbers m_codes m_sizes m_guessed n (y189_2 + 1) m_decodings_189 m_failures_189 m_at_189 m_end_189 m_many_189 m_wrong_189 m_results_189 (upd m_values_189 (((16 : Int32) * (m_numbers y189_1.toNatClampNeg)) + y189_2).toNatClampNeg (m_came_189 y189_2.toNatClampNeg)) (upd m_states_189 (((16 : Int32) * (m_numbers y189_1.toNatClampNeg)) + y189_2).toNatClampNeg (2 : Int32)) m_came_189 m_boxes_189 m_single_189 m_rows_189)) else gI (((16 : Int32) * (m_numbers y189_1.toNatClampNeg)) + y189_2) 256 (if (m_states_189 (((16 : Int32) * (m_numbers y189_1.toNatClampNeg)) + y189_2).toNatClampNeg) = (1 : Int32) then d_Mod_open_L189 N y189_1 m_bytes m_heads m_numbers m_codes m_sizes m_guessed n (y189_2 + 1) m_decodings_189 m_failures_189 m_at_189 m_end_189 m_many_189 m_wrong_189 m_results_189 m_values_189 m_states_189 m_came_189 m_boxes_189 m_single_189 m_rows_189 else gI y189_2 16 (if (m_guessed y189_1.toNatClampNeg) = 0 then d_Mod_open_L189 N y189_1 m_bytes m_heads m_numbers m_codes m_sizes m_guessed n (y189_2 + 1) m_decodings_189 m_failures_189 m_at_189 m_end_189 m_many_189 m_wrong_189 m_results_189 (upd m_values_189 (((16 : Int32) * (m_numbers y189_1.toNatClampNeg)) + y189_2).toNatClampNeg (m_came_189 y189_2.toNatClampNeg)) (upd m_states_189 (((16 : Int32) * (m_numbers y189_1.toNatClampNeg)) + y189_2).toNatClampNeg (1 : Int32)) m_came_189 m_boxes_189 m_single_189 m_rows_189 else d_Mod_open_L189 N y189_1 m_bytes m_heads m_numbers m_codes m_sizes m_guessed n (y189_2 + 1) m_decodings_189 m_failures_189 m_at_189 m_end_189 m_many_189 m_wrong_189 m_results_189 (upd m_values_189 (((16 : Int32) * (m_numbers y189_1.toNatClampNeg)) + y189_2).toNatClampNeg (m_came_189 y189_2.toNatClampNeg)) (upd m_states_189 (((16 : Int32) * (m_numbers y189_1.toNatClampNeg)) + y189_2).toNatClampNeg (2 : Int32)) m_came_189 m_boxes_189 m_single_189 m_rows_189))) else some (m_decodings_189, m_failures_189, m_at_189, m_end_189, m_many_189, m_wrong_189, m_results_189, m_values_189, m_states_189, m_came_189, m_boxes_189, m_single_189, m_rows_189)
def d_Mod_open_L60 (N : Nat) (y60_1 : Int32) (m_bytes : Nat → Int32) (m_heads : Nat → Int32) (m_numbers : Nat → Int32) (m_codes : Nat → Int32) (m_sizes : Nat → Int32) (m_guessed : Nat → Int32) : Nat → Int32 → Int32 → Int32 → Int32 → Int32 → Int32 → (Nat → Int32) → (Nat → Int32) → (Nat → Int32) → (Nat → Int32) → (Nat → Int32) → (Nat → Int32) → (Nat → Int32) → Option (Int32 × Int32 × Int32 × Int32 × Int32 × Int32 × (Nat → Int32) × (Nat → Int32) × (Nat → Int32) × (Nat → Int32) × (Nat → Int32) × (Nat → Int32) × (Nat → Int32))
  | 0, _, _, _, _, _, _, _, _, _, _, _, _, _ => none
  | n + 1, m_decodings_60, m_failures_60, m_at_60, m_end_60, m_many_60, m_wrong_60, m_results_60, m_values_60, m_states_60, m_came_60, m_boxes_60, m_single_60, m_rows_60 => (d_Mod_goes N m_many_60 m_wrong_60).bind (fun o61001 => if o61001 = 0 then some (m_decodings_60, m_failures_60, m_at_60, m_end_60, m_many_60, m_wrong_60, m_results_60, m_values_60, m_states_60, m_came_60, m_boxes_60, m_single_60, m_rows_60) else gI y60_1 16 (if (m_codes y60_1.toNatClampNeg) = 0 then (d_Mod_take N m_at_60 m_end_60 m_wrong_60 m_bytes).bind (fun o61005 => (d_Mod_give N o61005.1 m_many_60 o61005.2.2 m_came_60).bind (fun o61006 => d_Mod_open_L60 N y60_1 m_bytes m_heads m_numbers m_codes m_sizes m_guessed n m_decodings_60 m_failures_60 o61005.2.1 m_end_60 o61006.1 o61005.2.2 m_results_60 m_values_60 m_states_60 o61006.2 m_boxes_60 m_single_60 m_rows_60)) else if (m_codes y60_1.toNatClampNeg) = 1 then (d_Mod_repeated N m_at_60 m_end_60 m_many_60 m_wrong_60 m_bytes m_came_60).bind (fun o61008 => d_Mod_open_L60 N y60_1 m_bytes m_heads m_numbers m_codes m_sizes m_guessed n m_decodings_60 m_failures_60 o61008.1 m_end_60 o61008.2.1 o61008.2.2.1 m_results_60 m_values_60 m_states_60 o61008.2.2.2 m_boxes_60 m_single_60 m_rows_60) else if (m_codes y60_1.toNatClampNeg) = 2 then (d_Mod_divided N m_at_60 m_end_60 m_many_60 m_wrong_60 m_bytes m_came_60).bind (fun o61010 => d_Mod_open_L60 N y60_1 m_bytes m_heads m_numbers m_codes m_sizes m_guessed n m_decodings_60 m_failures_60 o61010.1 m_end_60 o61010.2.1 o61010.2.2.1 m_results_60 m_values_60 m_states_60 o61010.2.2.2 m_boxes_60 m_single_60 m_rows_60) else if (m_codes y60_1.toNatClampNeg) = 3 then (d_Mod_boxed N m_at_60 m_end_60 m_many_60 m_wrong_60 m_bytes m_came_60 m_boxes_60 m_single_60 m_rows_60).bind (fun o61012 => d_Mod_open_L60 N y60_1 m_bytes m_heads m_numbers m_codes m_sizes m_guessed n m_decodings_60 m_failures_60 o61012.1 m_end_60 o61012.2.1 o61012.2.2.1 m_results_60 m_values_60 m_states_60 o61012.2.2.2.1 o61012.2.2.2.2.1 o61012.2.2.2.2.2.1 o61012.2.2.2.2.2.2) else (d_Mod_differing N m_at_60 m_end_60 m_many_60 m_wrong_60 m_bytes m_came_60).bind (fun o61013 => d_Mod_open_L60 N y60_1 m_bytes m_heads m_numbers m_codes m_sizes m_guessed n m_decodings_60 m_failures_60 o61013.1 m_end_60 o61013.2.1 o61013.2.2.1 m_results_60 m_values_60 m_states_60 o61013.2.2.2 m_boxes_60 m_single_60 m_rows_60)))
def d_Mod_open_L40 (N : Nat) (y40_1 : Int32) (m_bytes : Nat → Int32) (m_heads : Nat → Int32) (m_numbers : Nat → Int32) (m_codes : Nat → Int32) (m_sizes : Nat → Int32) (m_guessed : Nat → Int32) : Nat → Int32 → Int32 → Int32 → Int32 → Int32 → Int32 → Int32 → (Nat → Int32) → (Nat → Int32) → (Nat → Int32) → (Nat → Int32) → (Nat → Int32) → (Nat → Int32) → (Nat → Int32) → Option (Int32 × Int32 × Int32 × Int32 × Int32 × Int32 × (Nat → Int32) × (Nat → Int32) × (Nat → Int32) × (Nat → Int32) × (Nat → Int32) × (Nat → Int32) × (Nat → Int32))
  | 0, _, _, _, _, _, _, _, _, _, _, _, _, _, _ => none
  | n + 1, y40_2, m_decodings_40, m_failures_40, m_at_40, m_end_40, m_many_40, m_wrong_40, m_results_40, m_values_40, m_states_40, m_came_40, m_boxes_40, m_single_40, m_rows_40 => if (8 : Int32) ≤ y40_2 then some (m_decodings_40, m_failures_40, m_at_40, m_end_40, m_many_40, m_wrong_40, m_results_40, m_values_40, m_states_40, m_came_40, m_boxes_40, m_single_40, m_rows_40) else gI y40_2 8 (d_Mod_open_L40 N y40_1 m_bytes m_heads m_numbers m_codes m_sizes m_guessed n (y40_2 + 1) m_decodings_40 m_failures_40 m_at_40 m_end_40 m_many_40 m_wrong_40 m_results_40 m_values_40 m_states_40 m_came_40 (upd m_boxes_40 y40_2.toNatClampNeg (-2 : Int32)) m_single_40 m_rows_40)
def d_Mod_open (N : Nat) (x1 : Int32) (m_decodings : Int32) (m_failures : Int32) (m_at : Int32) (m_end : Int32) (m_many : Int32) (m_wrong : Int32) (m_bytes : Nat → Int32) (m_heads : Nat → Int32) (m_numbers : Nat → Int32) (m_codes : Nat → Int32) (m_sizes : Nat → Int32) (m_guessed : Nat → Int32) (m_results : Nat → Int32) (m_values : Nat → Int32) (m_states : Nat → Int32) (m_came : Nat → Int32) (m_boxes : Nat → Int32) (m_single : Nat → Int32) (m_rows : Nat → Int32) : Option (Int32 × Int32 × Int32 × Int32 × Int32 × Int32 × Int32 × (Nat → Int32) × (Nat → Int32) × (Nat → Int32) × (Nat → Int32) × (Nat → Int32) × (Nat → Int32) × (Nat → Int32)) :=
 gI x1 16 ((d_Mod_open_L40 N x1 m_bytes m_heads m_numbers m_codes m_sizes m_guessed N (0 : Int32) m_decodings m_failures ((m_heads x1.toNatClampNeg) + (6 : Int32)) (((m_heads x1.toNatClampNeg) + (6 : Int32)) + (m_sizes x1.toNatClampNeg)) (0 : Int32) (0 : Int32) m_results m_values m_states m_came m_boxes m_single m_rows).bind (fun s40 => (d_Mod_open_L60 N x1 m_bytes m_heads m_numbers m_codes m_sizes m_guessed N s40.1 s40.2.1 s40.2.2.1 s40.2.2.2.1 s40.2.2.2.2.1 s40.2.2.2.2.2.1 s40.2.2.2.2.2.2.1 s40.2.2.2.2.2.2.2.1 s40.2.2.2.2.2.2.2.2.1 s40.2.2.2.2.2.2.2.2.2.1 s40.2.2.2.2.2.2.2.2.2.2.1 s40.2.2.2.2.2.2.2.2.2.2.2.1 s40.2.2.2.2.2.2.2.2.2.2.2.2).bind (fun s60 => if s60.2.2.2.2.2.1 ≤ 0 then gI x1 16 ((d_Mod_open_L189 N x1 m_bytes m_heads m_numbers m_codes m_sizes m_guessed N (0 : Int32) (s60.1 + (1 : Int32)) s60.2.1 s60.2.2.1 s60.2.2.2.1 s60.2.2.2.2.1 s60.2.2.2.2.2.1 (upd s60.2.2.2.2.2.2.1 x1.toNatClampNeg s60.2.2.2.2.2.1) s60.2.2.2.2.2.2.2.1 s60.2.2.2.2.2.2.2.2.1 s60.2.2.2.2.2.2.2.2.2.1 s60.2.2.2.2.2.2.2.2.2.2.1 s60.2.2.2.2.2.2.2.2.2.2.2.1 s60.2.2.2.2.2.2.2.2.2.2.2.2).bind (fun s189 => some (s189.2.2.2.2.2.1, s189.1, s189.2.1, s189.2.2.1, s189.2.2.2.1, s189.2.2.2.2.1, s189.2.2.2.2.2.1, s189.2.2.2.2.2.2.1, s189.2.2.2.2.2.2.2.1, s189.2.2.2.2.2.2.2.2.1, s189.2.2.2.2.2.2.2.2.2.1, s189.2.2.2.2.2.2.2.2.2.2.1, s189.2.2.2.2.2.2.2.2.2.2.2.1, s189.2.2.2.2.2.2.2.2.2.2.2.2))) else gI x1 16 ((d_Mod_open_L189 N x1 m_bytes m_heads m_numbers m_codes m_sizes m_guessed N (0 : Int32) (s60.1 + (1 : Int32)) (s60.2.1 + (1 : Int32)) s60.2.2.1 s60.2.2.2.1 s60.2.2.2.2.1 s60.2.2.2.2.2.1 (upd s60.2.2.2.2.2.2.1 x1.toNatClampNeg s60.2.2.2.2.2.1) s60.2.2.2.2.2.2.2.1 s60.2.2.2.2.2.2.2.2.1 s60.2.2.2.2.2.2.2.2.2.1 s60.2.2.2.2.2.2.2.2.2.2.1 s60.2.2.2.2.2.2.2.2.2.2.2.1 s60.2.2.2.2.2.2.2.2.2.2.2.2).bind (fun s189 => some (s189.2.2.2.2.2.1, s189.1, s189.2.1, s189.2.2.1, s189.2.2.2.1, s189.2.2.2.2.1, s189.2.2.2.2.2.1, s189.2.2.2.2.2.2.1, s189.2.2.2.2.2.2.2.1, s189.2.2.2.2.2.2.2.2.1, s189.2.2.2.2.2.2.2.2.2.1, s189.2.2.2.2.2.2.2.2.2.2.1, s189.2.2.2.2.2.2.2.2.2.2.2.1, s189.2.2.2.2.2.2.2.2.2.2.2.2))))))
abbrev rm_Mod_open : Room := { frames := 3, cells := 0, slots := 0, locals := 68 }
set_option maxHeartbeats 4000000 in
set_option maxRecDepth 100000 in
theorem c_Mod_open (l : Launch) (dC : Nat → ClassId) (dI : Nat → Nat → Nat) (tt : Nat → Nat) (ad : Nat → Nat) (cs : Nat → ClassId) (sz N : Nat) (x1 : Int32) (m_thrown : Int32) (m_kind : Int32) (m_steps : Int32) (m_size : Int32) (m_ran : Int32) (m_parts : Int32) (m_taken : Int32) (m_lacked : Int32) (m_decodings : Int32) (m_failures : Int32) (m_at : Int32) (m_end : Int32) (m_many : Int32) (m_wrong : Int32) (m_bytes : Nat → Int32) (m_heads : Nat → Int32) (m_numbers : Nat → Int32) (m_codes : Nat → Int32) (m_sizes : Nat → Int32) (m_guessed : Nat → Int32) (m_results : Nat → Int32) (m_values : Nat → Int32) (m_states : Nat → Int32) (m_came : Nat → Int32) (m_boxes : Nat → Int32) (m_single : Nat → Int32) (m_rows : Nat → Int32) (out : Int32 × Int32 × Int32 × Int32 × Int32 × Int32 × Int32 × (Nat → Int32) × (Nat → Int32) × (Nat → Int32) × (Nat → Int32) × (Nat → Int32) × (Nat → Int32) × (Nat → Int32)) (h : d_Mod_open N x1 m_decodings m_failures m_at m_end m_many m_wrong m_bytes m_heads m_numbers m_codes m_sizes m_guessed m_results m_values m_states m_came m_boxes m_single m_rows = some out) :
    Met l y_Mod_open (w_Mod_open) rm_Mod_open (va_Pc [.ref (ad 0), .int x1] (PreW (dC, dI) [((cs 1), .int), ((cs 2), .int), ((cs 3), .int), ((cs 4), .int), ((cs 5), .int), ((cs 6), .boolean), ((cs 7), .int), ((cs 8), .int), ((cs 9), .int), ((cs 10), .int), ((cs 11), .int), ((cs 12), .int), ((cs 13), .int)] (x_Mod ad cs m_thrown m_kind m_steps m_size m_ran m_parts m_taken m_lacked m_decodings m_failures m_at m_end m_many m_wrong m_bytes m_heads m_numbers m_codes m_sizes m_guessed m_results m_values m_states m_came m_boxes m_single m_rows) sz tt)) (va_Qi (fun (r : Int32) (_ : Unit) => r = out.1) (fun _ => AftW (dC, dI) [((cs 1), .int), ((cs 2), .int), ((cs 3), .int), ((cs 4), .int), ((cs 5), .int), ((cs 6), .boolean), ((cs 7), .int), ((cs 8), .int), ((cs 9), .int), ((cs 10), .int), ((cs 11), .int), ((cs 12), .int), ((cs 13), .int)] (va_A (x_Mod ad cs m_thrown m_kind m_steps m_size m_ran m_parts m_taken m_lacked m_decodings m_failures m_at m_end m_many m_wrong m_bytes m_heads m_numbers m_codes m_sizes m_guessed m_results m_values m_states m_came m_boxes m_single m_rows) sz) (x_Mod ad cs m_thrown m_kind m_steps m_size m_ran m_parts m_taken m_lacked out.2.1 out.2.2.1 out.2.2.2.1 out.2.2.2.2.1 out.2.2.2.2.2.1 out.2.2.2.2.2.2.1 m_bytes m_heads m_numbers m_codes m_sizes m_guessed out.2.2.2.2.2.2.2.1 out.2.2.2.2.2.2.2.2.1 out.2.2.2.2.2.2.2.2.2.1 out.2.2.2.2.2.2.2.2.2.2.1 out.2.2.2.2.2.2.2.2.2.2.2.1 out.2.2.2.2.2.2.2.2.2.2.2.2.1 out.2.2.2.2.2.2.2.2.2.2.2.2.2)) (va_A (x_Mod ad cs m_thrown m_kind m_steps m_size m_ran m_parts m_taken m_lacked m_decodings m_failures m_at m_end m_many m_wrong m_bytes m_heads m_numbers m_codes m_sizes m_guessed m_results m_values m_states m_came m_boxes m_single m_rows) sz)) 0 0 (va_A (x_Mod ad cs m_thrown m_kind m_steps m_size m_ran m_parts m_taken m_lacked m_decodings m_failures m_at m_end m_many m_wrong m_bytes m_heads m_numbers m_codes m_sizes m_guessed m_results m_values m_states m_came m_boxes m_single m_rows) sz) := by
  refine Met.ofW (cc := k_Mod_open) (maxL := 4) (ret := (some .int)) (by decide) rfl ?_
  intro p e s m args below meth c s₁ B hml hv
  obtain ⟨rfl, hsz, hP, hK, hD0, hG⟩ := hv
  have hx := B.exec
  have hb := B.bytes
  have hr := B.returns
  have hts := atoms_spec (ws := (w_Mod_open)) B.pre
  have hB : ∀ w ∈ BIG, w.before _ s = true := fun w h9 => hts w (List.mem_cons_of_mem _ h9)
  have hown : s.vm.findClass R_Mod = some m.cls := findClass_of_methodNamed B.named
  have hlocks := B.notSynchronized
  subst hsz
  have hD := hD0.self (sz := s.heap.size)
  generalize hAe : va_A (x_Mod ad cs m_thrown m_kind m_steps m_size m_ran m_parts m_taken m_lacked m_decodings m_failures m_at m_end m_many m_wrong m_bytes m_heads m_numbers m_codes m_sizes m_guessed m_results m_values m_states m_came m_boxes m_single m_rows) s.heap.size = A at hD hG ⊢
  have hA : ∀ q : Nat, s.heap.size ≤ q → A q := fun q h => by rw [← hAe]; exact Or.inr h
  have hS : va_S A s.heap s.heap [] := va_S.rf
  have hl := lv_entry ([.ref (ad 0), .int x1]) (n := 4) (Nat.le_of_ble_eq_true rfl)
  rw [lg_entry_eq]
  generalize (lg_sl ([.ref (ad 0), .int x1]) ++ List.replicate (4 - (lg_sl ([.ref (ad 0), .int x1])).length) Slot.unset).toArray = ls at hl ⊢
  have hl : lv_has ls 4 [(0, .ref (ad 0)), (1, .int x1)] := hl
  unfold d_Mod_open at h
  refine lv_aload_n hx hb d_Mod_open_0 rfl (lv_at hl 0 rfl) ?_
  refine lv_aload_n hx hb d_Mod_open_1 rfl (lv_at hl 0 rfl) ?_
  refine va_get (D := (dC, dI)) (ci := 4) (v := .ref (ad 2)) (C := R_Mod) (T := T_Mod) (N := 27) hx hb hB in_Mod hown hK hP 0 rfl rfl 7 (by decide) (hB _ wd_229) (fun _ h9 => h9) rfl d_Mod_open_2 ?_
  refine lv_iload_n hx hb d_Mod_open_5 rfl (lv_at hl 1 rfl) ?_
  obtain ⟨b_1, h⟩ := gI_some h
  refine va_iald hx hb hK hP 2 1 rfl rfl b_1 d_Mod_open_6 ?_
  refine lv_bipush (v := 6) hx hb d_Mod_open_7 (by decide) ?_
  refine lv_iadd hx hb d_Mod_open_9 ?_
  refine va_put (D := (dC, dI)) (ci := 4) (v := .int ((m_heads x1.toNatClampNeg) + (6 : Int32))) (ty := .int) (C := R_Mod) (T := T_Mod) (N := 27) hx hb hB in_Mod ty_Mod tyok_Mod nd_Mod hown hK hP hD hS 0 rfl rfl 19 (by decide) (hB _ wd_242) (fun _ h9 => h9) rfl (by decide +kernel) rfl rfl (Nat.le_of_ble_eq_true rfl) d_Mod_open_10 (fun H locs hP hD hS => ?_)
  have hP : va_P (dC, dI) vwCl (x_Mod ad cs m_thrown m_kind m_steps m_size m_ran m_parts m_taken m_lacked m_decodings m_failures ((m_heads x1.toNatClampNeg) + (6 : Int32)) m_end m_many m_wrong m_bytes m_heads m_numbers m_codes m_sizes m_guessed m_results m_values m_states m_came m_boxes m_single m_rows) H := hP
  have hD : va_D A (x_Mod ad cs m_thrown m_kind m_steps m_size m_ran m_parts m_taken m_lacked m_decodings m_failures ((m_heads x1.toNatClampNeg) + (6 : Int32)) m_end m_many m_wrong m_bytes m_heads m_numbers m_codes m_sizes m_guessed m_results m_values m_states m_came m_boxes m_single m_rows) := hD
  refine lv_aload_n hx hb d_Mod_open_13 rfl (lv_at hl 0 rfl) ?_
  refine lv_aload_n hx hb d_Mod_open_14 rfl (lv_at hl 0 rfl) ?_
  refine va_get (D := (dC, dI)) (ci := 4) (v := .int ((m_heads x1.toNatClampNeg) + (6 : Int32))) (C := R_Mod) (T := T_Mod) (N := 27) hx hb hB in_Mod hown hK hP 0 rfl rfl 19 (by decide) (hB _ wd_242) (fun _ h9 => h9) rfl d_Mod_open_15 ?_
  refine lv_aload_n hx hb d_Mod_open_18 rfl (lv_at hl 0 rfl) ?_
  refine va_get (D := (dC, dI)) (ci := 4) (v := .ref (ad 5)) (C := R_Mod) (T := T_Mod) (N := 27) hx hb hB in_Mod hown hK hP 0 rfl rfl 10 (by decide) (hB _ wd_232) (fun _ h9 => h9) rfl d_Mod_open_19 ?_
  refine lv_iload_n hx hb d_Mod_open_22 rfl (lv_at hl 1 rfl) ?_
  refine va_iald hx hb hK hP 5 4 rfl rfl b_1 d_Mod_open_23 ?_
  refine lv_iadd hx hb d_Mod_open_24 ?_
  refine va_put (D := (dC, dI)) (ci := 4) (v := .int (((m_heads x1.toNatClampNeg) + (6 : Int32)) + (m_sizes x1.toNatClampNeg))) (ty := .int) (C := R_Mod) (T := T_Mod) (N := 27) hx hb hB in_Mod ty_Mod tyok_Mod nd_Mod hown hK hP hD hS 0 rfl rfl 20 (by decide) (hB _ wd_243) (fun _ h9 => h9) rfl (by decide +kernel) rfl rfl (Nat.le_of_ble_eq_true rfl) d_Mod_open_25 (fun H locs hP hD hS => ?_)
  have hP : va_P (dC, dI) vwCl (x_Mod ad cs m_thrown m_kind m_steps m_size m_ran m_parts m_taken m_lacked m_decodings m_failures ((m_heads x1.toNatClampNeg) + (6 : Int32)) (((m_heads x1.toNatClampNeg) + (6 : Int32)) + (m_sizes x1.toNatClampNeg)) m_many m_wrong m_bytes m_heads m_numbers m_codes m_sizes m_guessed m_results m_values m_states m_came m_boxes m_single m_rows) H := hP
  have hD : va_D A (x_Mod ad cs m_thrown m_kind m_steps m_size m_ran m_parts m_taken m_lacked m_decodings m_failures ((m_heads x1.toNatClampNeg) + (6 : Int32)) (((m_heads x1.toNatClampNeg) + (6 : Int32)) + (m_sizes x1.toNatClampNeg)) m_many m_wrong m_bytes m_heads m_numbers m_codes m_sizes m_guessed m_results m_values m_states m_came m_boxes m_single m_rows) := hD
  refine lv_aload_n hx hb d_Mod_open_28 rfl (lv_at hl 0 rfl) ?_
  refine lv_iconst (v := 0) hx hb d_Mod_open_29 (by decide) ?_
  refine va_put (D := (dC, dI)) (ci := 4) (v := .int (0 : Int32)) (ty := .int) (C := R_Mod) (T := T_Mod) (N := 27) hx hb hB in_Mod ty_Mod tyok_Mod nd_Mod hown hK hP hD hS 0 rfl rfl 21 (by decide) (hB _ wd_249) (fun _ h9 => h9) rfl (by decide +kernel) rfl rfl (Nat.le_of_ble_eq_true rfl) d_Mod_open_30 (fun H locs hP hD hS => ?_)
  have hP : va_P (dC, dI) vwCl (x_Mod ad cs m_thrown m_kind m_steps m_size m_ran m_parts m_taken m_lacked m_decodings m_failures ((m_heads x1.toNatClampNeg) + (6 : Int32)) (((m_heads x1.toNatClampNeg) + (6 : Int32)) + (m_sizes x1.toNatClampNeg)) (0 : Int32) m_wrong m_bytes m_heads m_numbers m_codes m_sizes m_guessed m_results m_values m_states m_came m_boxes m_single m_rows) H := hP
  have hD : va_D A (x_Mod ad cs m_thrown m_kind m_steps m_size m_ran m_parts m_taken m_lacked m_decodings m_failures ((m_heads x1.toNatClampNeg) + (6 : Int32)) (((m_heads x1.toNatClampNeg) + (6 : Int32)) + (m_sizes x1.toNatClampNeg)) (0 : Int32) m_wrong m_bytes m_heads m_numbers m_codes m_sizes m_guessed m_results m_values m_states m_came m_boxes m_single m_rows) := hD
  refine lv_aload_n hx hb d_Mod_open_33 rfl (lv_at hl 0 rfl) ?_
  refine lv_iconst (v := 0) hx hb d_Mod_open_34 (by decide) ?_
  refine va_put (D := (dC, dI)) (ci := 4) (v := .int (0 : Int32)) (ty := .int) (C := R_Mod) (T := T_Mod) (N := 27) hx hb hB in_Mod ty_Mod tyok_Mod nd_Mod hown hK hP hD hS 0 rfl rfl 23 (by decide) (hB _ wd_241) (fun _ h9 => h9) rfl (by decide +kernel) rfl rfl (Nat.le_of_ble_eq_true rfl) d_Mod_open_35 (fun H locs hP hD hS => ?_)
  have hP : va_P (dC, dI) vwCl (x_Mod ad cs m_thrown m_kind m_steps m_size m_ran m_parts m_taken m_lacked m_decodings m_failures ((m_heads x1.toNatClampNeg) + (6 : Int32)) (((m_heads x1.toNatClampNeg) + (6 : Int32)) + (m_sizes x1.toNatClampNeg)) (0 : Int32) (0 : Int32) m_bytes m_heads m_numbers m_codes m_sizes m_guessed m_results m_values m_states m_came m_boxes m_single m_rows) H := hP
  have hD : va_D A (x_Mod ad cs m_thrown m_kind m_steps m_size m_ran m_parts m_taken m_lacked m_decodings m_failures ((m_heads x1.toNatClampNeg) + (6 : Int32)) (((m_heads x1.toNatClampNeg) + (6 : Int32)) + (m_sizes x1.toNatClampNeg)) (0 : Int32) (0 : Int32) m_bytes m_heads m_numbers m_codes m_sizes m_guessed m_results m_values m_states m_came m_boxes m_single m_rows) := hD
  refine lv_iconst (v := 0) hx hb d_Mod_open_38 (by decide) ?_
  refine lv_istore_n (lv' := [(2, .int (0 : Int32)), (0, .ref (ad 0)), (1, .int x1)]) hx hb d_Mod_open_39 rfl hl (by decide) rfl (fun ls hl => ?_)
  obtain ⟨s40, hs40, h⟩ := Option.bind_eq_some_iff.mp h
  have X40 : ∀ (H : Heap) (locs : List Loc) (ls : Array Slot), lv_has ls 4 [(0, .ref (ad 0)), (1, .int x1)] → va_P (dC, dI) vwCl (x_Mod ad cs m_thrown m_kind m_steps m_size m_ran m_parts m_taken m_lacked s40.1 s40.2.1 s40.2.2.1 s40.2.2.2.1 s40.2.2.2.2.1 s40.2.2.2.2.2.1 m_bytes m_heads m_numbers m_codes m_sizes m_guessed s40.2.2.2.2.2.2.1 s40.2.2.2.2.2.2.2.1 s40.2.2.2.2.2.2.2.2.1 s40.2.2.2.2.2.2.2.2.2.1 s40.2.2.2.2.2.2.2.2.2.2.1 s40.2.2.2.2.2.2.2.2.2.2.2.1 s40.2.2.2.2.2.2.2.2.2.2.2.2) H → va_D A (x_Mod ad cs m_thrown m_kind m_steps m_size m_ran m_parts m_taken m_lacked s40.1 s40.2.1 s40.2.2.1 s40.2.2.2.1 s40.2.2.2.2.1 s40.2.2.2.2.2.1 m_bytes m_heads m_numbers m_codes m_sizes m_guessed s40.2.2.2.2.2.2.1 s40.2.2.2.2.2.2.2.1 s40.2.2.2.2.2.2.2.2.1 s40.2.2.2.2.2.2.2.2.2.1 s40.2.2.2.2.2.2.2.2.2.2.1 s40.2.2.2.2.2.2.2.2.2.2.2.1 s40.2.2.2.2.2.2.2.2.2.2.2.2) → va_S A s.heap H locs → W p l e (headSpec (w_Mod_open) rm_Mod_open).room s m ([.ref (ad 0), .int x1] : List Value).toArray below meth c H locs 0 0 (MQ below (va_Qi (fun (r : Int32) (_ : Unit) => r = out.1) (fun _ => AftW (dC, dI) [((cs 1), .int), ((cs 2), .int), ((cs 3), .int), ((cs 4), .int), ((cs 5), .int), ((cs 6), .boolean), ((cs 7), .int), ((cs 8), .int), ((cs 9), .int), ((cs 10), .int), ((cs 11), .int), ((cs 12), .int), ((cs 13), .int)] A (x_Mod ad cs m_thrown m_kind m_steps m_size m_ran m_parts m_taken m_lacked out.2.1 out.2.2.1 out.2.2.2.1 out.2.2.2.2.1 out.2.2.2.2.2.1 out.2.2.2.2.2.2.1 m_bytes m_heads m_numbers m_codes m_sizes m_guessed out.2.2.2.2.2.2.2.1 out.2.2.2.2.2.2.2.2.1 out.2.2.2.2.2.2.2.2.2.1 out.2.2.2.2.2.2.2.2.2.2.1 out.2.2.2.2.2.2.2.2.2.2.2.1 out.2.2.2.2.2.2.2.2.2.2.2.2.1 out.2.2.2.2.2.2.2.2.2.2.2.2.2)) A) ([.ref (ad 0), .int x1] : List Value).toArray s 0 0 A) (F0 m 60 ls []) := by
    intro H locs ls hl hP hD hS
    obtain ⟨s60, hs60, h⟩ := Option.bind_eq_some_iff.mp h
    have X60 : ∀ (H : Heap) (locs : List Loc) (ls : Array Slot), lv_has ls 4 [(0, .ref (ad 0)), (1, .int x1)] → va_P (dC, dI) vwCl (x_Mod ad cs m_thrown m_kind m_steps m_size m_ran m_parts m_taken m_lacked s60.1 s60.2.1 s60.2.2.1 s60.2.2.2.1 s60.2.2.2.2.1 s60.2.2.2.2.2.1 m_bytes m_heads m_numbers m_codes m_sizes m_guessed s60.2.2.2.2.2.2.1 s60.2.2.2.2.2.2.2.1 s60.2.2.2.2.2.2.2.2.1 s60.2.2.2.2.2.2.2.2.2.1 s60.2.2.2.2.2.2.2.2.2.2.1 s60.2.2.2.2.2.2.2.2.2.2.2.1 s60.2.2.2.2.2.2.2.2.2.2.2.2) H → va_D A (x_Mod ad cs m_thrown m_kind m_steps m_size m_ran m_parts m_taken m_lacked s60.1 s60.2.1 s60.2.2.1 s60.2.2.2.1 s60.2.2.2.2.1 s60.2.2.2.2.2.1 m_bytes m_heads m_numbers m_codes m_sizes m_guessed s60.2.2.2.2.2.2.1 s60.2.2.2.2.2.2.2.1 s60.2.2.2.2.2.2.2.2.1 s60.2.2.2.2.2.2.2.2.2.1 s60.2.2.2.2.2.2.2.2.2.2.1 s60.2.2.2.2.2.2.2.2.2.2.2.1 s60.2.2.2.2.2.2.2.2.2.2.2.2) → va_S A s.heap H locs → W p l e (headSpec (w_Mod_open) rm_Mod_open).room s m ([.ref (ad 0), .int x1] : List Value).toArray below meth c H locs 0 0 (MQ below (va_Qi (fun (r : Int32) (_ : Unit) => r = out.1) (fun _ => AftW (dC, dI) [((cs 1), .int), ((cs 2), .int), ((cs 3), .int), ((cs 4), .int), ((cs 5), .int), ((cs 6), .boolean), ((cs 7), .int), ((cs 8), .int), ((cs 9), .int), ((cs 10), .int), ((cs 11), .int), ((cs 12), .int), ((cs 13), .int)] A (x_Mod ad cs m_thrown m_kind m_steps m_size m_ran m_parts m_taken m_lacked out.2.1 out.2.2.1 out.2.2.2.1 out.2.2.2.2.1 out.2.2.2.2.2.1 out.2.2.2.2.2.2.1 m_bytes m_heads m_numbers m_codes m_sizes m_guessed out.2.2.2.2.2.2.2.1 out.2.2.2.2.2.2.2.2.1 out.2.2.2.2.2.2.2.2.2.1 out.2.2.2.2.2.2.2.2.2.2.1 out.2.2.2.2.2.2.2.2.2.2.2.1 out.2.2.2.2.2.2.2.2.2.2.2.2.1 out.2.2.2.2.2.2.2.2.2.2.2.2.2)) A) ([.ref (ad 0), .int x1] : List Value).toArray s 0 0 A) (F0 m 143 ls []) := by
      intro H locs ls hl hP hD hS
      refine lv_aload_n hx hb d_Mod_open_143 rfl (lv_at hl 0 rfl) ?_
      refine lv_dup hx hb d_Mod_open_144 rfl ?_
      refine va_get (D := (dC, dI)) (ci := 4) (v := .int s60.1) (C := R_Mod) (T := T_Mod) (N := 27) hx hb hB in_Mod hown hK hP 0 rfl rfl 15 (by decide) (hB _ wd_269) (fun _ h9 => h9) rfl d_Mod_open_145 ?_
      refine lv_iconst (v := 1) hx hb d_Mod_open_148 (by decide) ?_
      refine lv_iadd hx hb d_Mod_open_149 ?_
      refine va_put (D := (dC, dI)) (ci := 4) (v := .int (s60.1 + (1 : Int32))) (ty := .int) (C := R_Mod) (T := T_Mod) (N := 27) hx hb hB in_Mod ty_Mod tyok_Mod nd_Mod hown hK hP hD hS 0 rfl rfl 15 (by decide) (hB _ wd_269) (fun _ h9 => h9) rfl (by decide +kernel) rfl rfl (Nat.le_of_ble_eq_true rfl) d_Mod_open_150 (fun H locs hP hD hS => ?_)
      have hP : va_P (dC, dI) vwCl (x_Mod ad cs m_thrown m_kind m_steps m_size m_ran m_parts m_taken m_lacked (s60.1 + (1 : Int32)) s60.2.1 s60.2.2.1 s60.2.2.2.1 s60.2.2.2.2.1 s60.2.2.2.2.2.1 m_bytes m_heads m_numbers m_codes m_sizes m_guessed s60.2.2.2.2.2.2.1 s60.2.2.2.2.2.2.2.1 s60.2.2.2.2.2.2.2.2.1 s60.2.2.2.2.2.2.2.2.2.1 s60.2.2.2.2.2.2.2.2.2.2.1 s60.2.2.2.2.2.2.2.2.2.2.2.1 s60.2.2.2.2.2.2.2.2.2.2.2.2) H := hP
      have hD : va_D A (x_Mod ad cs m_thrown m_kind m_steps m_size m_ran m_parts m_taken m_lacked (s60.1 + (1 : Int32)) s60.2.1 s60.2.2.1 s60.2.2.2.1 s60.2.2.2.2.1 s60.2.2.2.2.2.1 m_bytes m_heads m_numbers m_codes m_sizes m_guessed s60.2.2.2.2.2.2.1 s60.2.2.2.2.2.2.2.1 s60.2.2.2.2.2.2.2.2.1 s60.2.2.2.2.2.2.2.2.2.1 s60.2.2.2.2.2.2.2.2.2.2.1 s60.2.2.2.2.2.2.2.2.2.2.2.1 s60.2.2.2.2.2.2.2.2.2.2.2.2) := hD
      refine lv_aload_n hx hb d_Mod_open_153 rfl (lv_at hl 0 rfl) ?_
      refine lv_aload_n hx hb d_Mod_open_154 rfl (lv_at hl 0 rfl) ?_
      refine va_get (D := (dC, dI)) (ci := 4) (v := .int s60.2.2.2.2.2.1) (C := R_Mod) (T := T_Mod) (N := 27) hx hb hB in_Mod hown hK hP 0 rfl rfl 23 (by decide) (hB _ wd_241) (fun _ h9 => h9) rfl d_Mod_open_155 ?_
      refine lv_if_le (tgt := 170) hx hb d_Mod_open_158 (by decide) (fun c_2 => ?_) (fun c_2 => ?_)
      · have h := (if_pos c_2).symm.trans h
        refine lv_aload_n hx hb d_Mod_open_170 rfl (lv_at hl 0 rfl) ?_
        refine va_get (D := (dC, dI)) (ci := 4) (v := .int s60.2.1) (C := R_Mod) (T := T_Mod) (N := 27) hx hb hB in_Mod hown hK hP 0 rfl rfl 16 (by decide) (hB _ wd_270) (fun _ h9 => h9) rfl d_Mod_open_171 ?_
        refine va_put (D := (dC, dI)) (ci := 4) (v := .int s60.2.1) (ty := .int) (C := R_Mod) (T := T_Mod) (N := 27) hx hb hB in_Mod ty_Mod tyok_Mod nd_Mod hown hK hP hD hS 0 rfl rfl 16 (by decide) (hB _ wd_270) (fun _ h9 => h9) rfl (by decide +kernel) rfl rfl (Nat.le_of_ble_eq_true rfl) d_Mod_open_174 (fun H locs hP hD hS => ?_)
        have hP : va_P (dC, dI) vwCl (x_Mod ad cs m_thrown m_kind m_steps m_size m_ran m_parts m_taken m_lacked (s60.1 + (1 : Int32)) s60.2.1 s60.2.2.1 s60.2.2.2.1 s60.2.2.2.2.1 s60.2.2.2.2.2.1 m_bytes m_heads m_numbers m_codes m_sizes m_guessed s60.2.2.2.2.2.2.1 s60.2.2.2.2.2.2.2.1 s60.2.2.2.2.2.2.2.2.1 s60.2.2.2.2.2.2.2.2.2.1 s60.2.2.2.2.2.2.2.2.2.2.1 s60.2.2.2.2.2.2.2.2.2.2.2.1 s60.2.2.2.2.2.2.2.2.2.2.2.2) H := hP
        have hD : va_D A (x_Mod ad cs m_thrown m_kind m_steps m_size m_ran m_parts m_taken m_lacked (s60.1 + (1 : Int32)) s60.2.1 s60.2.2.1 s60.2.2.2.1 s60.2.2.2.2.1 s60.2.2.2.2.2.1 m_bytes m_heads m_numbers m_codes m_sizes m_guessed s60.2.2.2.2.2.2.1 s60.2.2.2.2.2.2.2.1 s60.2.2.2.2.2.2.2.2.1 s60.2.2.2.2.2.2.2.2.2.1 s60.2.2.2.2.2.2.2.2.2.2.1 s60.2.2.2.2.2.2.2.2.2.2.2.1 s60.2.2.2.2.2.2.2.2.2.2.2.2) := hD
        refine lv_aload_n hx hb d_Mod_open_177 rfl (lv_at hl 0 rfl) ?_
        refine va_get (D := (dC, dI)) (ci := 4) (v := .ref (ad 7)) (C := R_Mod) (T := T_Mod) (N := 27) hx hb hB in_Mod hown hK hP 0 rfl rfl 12 (by decide) (hB _ wd_234) (fun _ h9 => h9) rfl d_Mod_open_178 ?_
        refine lv_iload_n hx hb d_Mod_open_181 rfl (lv_at hl 1 rfl) ?_
        refine lv_aload_n hx hb d_Mod_open_182 rfl (lv_at hl 0 rfl) ?_
        refine va_get (D := (dC, dI)) (ci := 4) (v := .int s60.2.2.2.2.2.1) (C := R_Mod) (T := T_Mod) (N := 27) hx hb hB in_Mod hown hK hP 0 rfl rfl 23 (by decide) (hB _ wd_241) (fun _ h9 => h9) rfl d_Mod_open_183 ?_
        obtain ⟨b_3, h⟩ := gI_some h
        refine va_iast hx hb hK hP hD hS 7 6 rfl rfl b_3 d_Mod_open_186 (fun H locs hP hD hS => ?_)
        have hP : va_P (dC, dI) vwCl (x_Mod ad cs m_thrown m_kind m_steps m_size m_ran m_parts m_taken m_lacked (s60.1 + (1 : Int32)) s60.2.1 s60.2.2.1 s60.2.2.2.1 s60.2.2.2.2.1 s60.2.2.2.2.2.1 m_bytes m_heads m_numbers m_codes m_sizes m_guessed (upd s60.2.2.2.2.2.2.1 x1.toNatClampNeg s60.2.2.2.2.2.1) s60.2.2.2.2.2.2.2.1 s60.2.2.2.2.2.2.2.2.1 s60.2.2.2.2.2.2.2.2.2.1 s60.2.2.2.2.2.2.2.2.2.2.1 s60.2.2.2.2.2.2.2.2.2.2.2.1 s60.2.2.2.2.2.2.2.2.2.2.2.2) H := hP
        have hD : va_D A (x_Mod ad cs m_thrown m_kind m_steps m_size m_ran m_parts m_taken m_lacked (s60.1 + (1 : Int32)) s60.2.1 s60.2.2.1 s60.2.2.2.1 s60.2.2.2.2.1 s60.2.2.2.2.2.1 m_bytes m_heads m_numbers m_codes m_sizes m_guessed (upd s60.2.2.2.2.2.2.1 x1.toNatClampNeg s60.2.2.2.2.2.1) s60.2.2.2.2.2.2.2.1 s60.2.2.2.2.2.2.2.2.1 s60.2.2.2.2.2.2.2.2.2.1 s60.2.2.2.2.2.2.2.2.2.2.1 s60.2.2.2.2.2.2.2.2.2.2.2.1 s60.2.2.2.2.2.2.2.2.2.2.2.2) := hD
        refine lv_iconst (v := 0) hx hb d_Mod_open_187 (by decide) ?_
        refine lv_istore_n (lv' := [(2, .int (0 : Int32)), (0, .ref (ad 0)), (1, .int x1)]) hx hb d_Mod_open_188 rfl hl (by decide) rfl (fun ls hl => ?_)
        obtain ⟨s189, hs189, h⟩ := Option.bind_eq_some_iff.mp h
        have X189 : ∀ (H : Heap) (locs : List Loc) (ls : Array Slot), lv_has ls 4 [(0, .ref (ad 0))] → va_P (dC, dI) vwCl (x_Mod ad cs m_thrown m_kind m_steps m_size m_ran m_parts m_taken m_lacked s189.1 s189.2.1 s189.2.2.1 s189.2.2.2.1 s189.2.2.2.2.1 s189.2.2.2.2.2.1 m_bytes m_heads m_numbers m_codes m_sizes m_guessed s189.2.2.2.2.2.2.1 s189.2.2.2.2.2.2.2.1 s189.2.2.2.2.2.2.2.2.1 s189.2.2.2.2.2.2.2.2.2.1 s189.2.2.2.2.2.2.2.2.2.2.1 s189.2.2.2.2.2.2.2.2.2.2.2.1 s189.2.2.2.2.2.2.2.2.2.2.2.2) H → va_D A (x_Mod ad cs m_thrown m_kind m_steps m_size m_ran m_parts m_taken m_lacked s189.1 s189.2.1 s189.2.2.1 s189.2.2.2.1 s189.2.2.2.2.1 s189.2.2.2.2.2.1 m_bytes m_heads m_numbers m_codes m_sizes m_guessed s189.2.2.2.2.2.2.1 s189.2.2.2.2.2.2.2.1 s189.2.2.2.2.2.2.2.2.1 s189.2.2.2.2.2.2.2.2.2.1 s189.2.2.2.2.2.2.2.2.2.2.1 s189.2.2.2.2.2.2.2.2.2.2.2.1 s189.2.2.2.2.2.2.2.2.2.2.2.2) → va_S A s.heap H locs → W p l e (headSpec (w_Mod_open) rm_Mod_open).room s m ([.ref (ad 0), .int x1] : List Value).toArray below meth c H locs 0 0 (MQ below (va_Qi (fun (r : Int32) (_ : Unit) => r = out.1) (fun _ => AftW (dC, dI) [((cs 1), .int), ((cs 2), .int), ((cs 3), .int), ((cs 4), .int), ((cs 5), .int), ((cs 6), .boolean), ((cs 7), .int), ((cs 8), .int), ((cs 9), .int), ((cs 10), .int), ((cs 11), .int), ((cs 12), .int), ((cs 13), .int)] A (x_Mod ad cs m_thrown m_kind m_steps m_size m_ran m_parts m_taken m_lacked out.2.1 out.2.2.1 out.2.2.2.1 out.2.2.2.2.1 out.2.2.2.2.2.1 out.2.2.2.2.2.2.1 m_bytes m_heads m_numbers m_codes m_sizes m_guessed out.2.2.2.2.2.2.2.1 out.2.2.2.2.2.2.2.2.1 out.2.2.2.2.2.2.2.2.2.1 out.2.2.2.2.2.2.2.2.2.2.1 out.2.2.2.2.2.2.2.2.2.2.2.1 out.2.2.2.2.2.2.2.2.2.2.2.2.1 out.2.2.2.2.2.2.2.2.2.2.2.2.2)) A) ([.ref (ad 0), .int x1] : List Value).toArray s 0 0 A) (F0 m 271 ls []) := by
          intro H locs ls hl hP hD hS
          refine lv_aload_n hx hb d_Mod_open_271 rfl (lv_at hl 0 rfl) ?_
          refine va_get (D := (dC, dI)) (ci := 4) (v := .int s189.2.2.2.2.2.1) (C := R_Mod) (T := T_Mod) (N := 27) hx hb hB in_Mod hown hK hP 0 rfl rfl 23 (by decide) (hB _ wd_241) (fun _ h9 => h9) rfl d_Mod_open_272 ?_
          have h := Option.some.inj h
          subst h
          exact W.iret hx hb hr (fun t ht hW => ⟨⟨_, (), rfl, rfl, AftW_mk hK hP hD ht hW⟩, hS.F ht⟩) hS.2.2 d_Mod_open_275
        have L189 : ∀ (n : Nat) (y189_2 : Int32) (m_decodings_189 : Int32) (m_failures_189 : Int32) (m_at_189 : Int32) (m_end_189 : Int32) (m_many_189 : Int32) (m_wrong_189 : Int32) (m_results_189 : Nat → Int32) (m_values_189 : Nat → Int32) (m_states_189 : Nat → Int32) (m_came_189 : Nat → Int32) (m_boxes_189 : Nat → Int32) (m_single_189 : Nat → Int32) (m_rows_189 : Nat → Int32) (H : Heap) (locs : List Loc) (ls : Array Slot), lv_has ls 4 [(0, .ref (ad 0)), (1, .int x1), (2, .int y189_2)] → va_P (dC, dI) vwCl (x_Mod ad cs m_thrown m_kind m_steps m_size m_ran m_parts m_taken m_lacked m_decodings_189 m_failures_189 m_at_189 m_end_189 m_many_189 m_wrong_189 m_bytes m_heads m_numbers m_codes m_sizes m_guessed m_results_189 m_values_189 m_states_189 m_came_189 m_boxes_189 m_single_189 m_rows_189) H → va_D A (x_Mod ad cs m_thrown m_kind m_steps m_size m_ran m_parts m_taken m_lacked m_decodings_189 m_failures_189 m_at_189 m_end_189 m_many_189 m_wrong_189 m_bytes m_heads m_numbers m_codes m_sizes m_guessed m_results_189 m_values_189 m_states_189 m_came_189 m_boxes_189 m_single_189 m_rows_189) → va_S A s.heap H locs → d_Mod_open_L189 N x1 m_bytes m_heads m_numbers m_codes m_sizes m_guessed n y189_2 m_decodings_189 m_failures_189 m_at_189 m_end_189 m_many_189 m_wrong_189 m_results_189 m_values_189 m_states_189 m_came_189 m_boxes_189 m_single_189 m_rows_189 = some s189 → W p l e (headSpec (w_Mod_open) rm_Mod_open).room s m ([.ref (ad 0), .int x1] : List Value).toArray below meth c H locs 0 0 (MQ below (va_Qi (fun (r : Int32) (_ : Unit) => r = out.1) (fun _ => AftW (dC, dI) [((cs 1), .int), ((cs 2), .int), ((cs 3), .int), ((cs 4), .int), ((cs 5), .int), ((cs 6), .boolean), ((cs 7), .int), ((cs 8), .int), ((cs 9), .int), ((cs 10), .int), ((cs 11), .int), ((cs 12), .int), ((cs 13), .int)] A (x_Mod ad cs m_thrown m_kind m_steps m_size m_ran m_parts m_taken m_lacked out.2.1 out.2.2.1 out.2.2.2.1 out.2.2.2.2.1 out.2.2.2.2.2.1 out.2.2.2.2.2.2.1 m_bytes m_heads m_numbers m_codes m_sizes m_guessed out.2.2.2.2.2.2.2.1 out.2.2.2.2.2.2.2.2.1 out.2.2.2.2.2.2.2.2.2.1 out.2.2.2.2.2.2.2.2.2.2.1 out.2.2.2.2.2.2.2.2.2.2.2.1 out.2.2.2.2.2.2.2.2.2.2.2.2.1 out.2.2.2.2.2.2.2.2.2.2.2.2.2)) A) ([.ref (ad 0), .int x1] : List Value).toArray s 0 0 A) (F0 m 189 ls []) := by
          intro n
          induction n with
          | zero =>
            intro y189_2 m_decodings_189 m_failures_189 m_at_189 m_end_189 m_many_189 m_wrong_189 m_results_189 m_values_189 m_states_189 m_came_189 m_boxes_189 m_single_189 m_rows_189 H locs ls hl hP hD hS h
            rw [d_Mod_open_L189] at h
            cases h
          | succ n ih =>
            intro y189_2 m_decodings_189 m_failures_189 m_at_189 m_end_189 m_many_189 m_wrong_189 m_results_189 m_values_189 m_states_189 m_came_189 m_boxes_189 m_single_189 m_rows_189 H locs ls hl hP hD hS h
            rw [d_Mod_open_L189] at h
            refine lv_iload_n hx hb d_Mod_open_189 rfl (lv_at hl 2 rfl) ?_
            refine lv_bipush (v := 16) hx hb d_Mod_open_190 (by decide) ?_
            refine lv_icmp_ge (tgt := 271) hx hb d_Mod_open_192 (by decide) (fun c_4 => ?_) (fun c_4 => ?_)
            · have h := (if_pos c_4).symm.trans h
              have h := Option.some.inj h
              subst h
              exact X189 H locs ls (lv_sub hl [0] rfl) hP hD hS
            · have h := (if_neg c_4).symm.trans h
              refine lv_aload_n hx hb d_Mod_open_195 rfl (lv_at hl 0 rfl) ?_
              refine va_get (D := (dC, dI)) (ci := 4) (v := .int m_wrong_189) (C := R_Mod) (T := T_Mod) (N := 27) hx hb hB in_Mod hown hK hP 0 rfl rfl 23 (by decide) (hB _ wd_241) (fun _ h9 => h9) rfl d_Mod_open_196 ?_
              refine lv_if_ne (tgt := 271) hx hb d_Mod_open_199 (by decide) (fun c_5 => ?_) (fun c_5 => ?_)
              · have h := (if_neg c_5).symm.trans h
                have h := Option.some.inj h
                subst h
                exact X189 H locs ls (lv_sub hl [0] rfl) hP hD hS
              · have h := (if_pos c_5).symm.trans h
                refine lv_bipush (v := 16) hx hb d_Mod_open_202 (by decide) ?_
                refine lv_aload_n hx hb d_Mod_open_204 rfl (lv_at hl 0 rfl) ?_
                refine va_get (D := (dC, dI)) (ci := 4) (v := .ref (ad 3)) (C := R_Mod) (T := T_Mod) (N := 27) hx hb hB in_Mod hown hK hP 0 rfl rfl 8 (by decide) (hB _ wd_230) (fun _ h9 => h9) rfl d_Mod_open_205 ?_
                refine lv_iload_n hx hb d_Mod_open_208 rfl (lv_at hl 1 rfl) ?_
                obtain ⟨b_6, h⟩ := gI_some h
                refine va_iald hx hb hK hP 3 2 rfl rfl b_6 d_Mod_open_209 ?_
                refine lv_imul hx hb d_Mod_open_210 ?_
                refine lv_iload_n hx hb d_Mod_open_211 rfl (lv_at hl 2 rfl) ?_
                refine lv_iadd hx hb d_Mod_open_212 ?_
                refine lv_istore_n (lv' := [(3, .int (((16 : Int32) * (m_numbers x1.toNatClampNeg)) + y189_2)), (0, .ref (ad 0)), (1, .int x1), (2, .int y189_2)]) hx hb d_Mod_open_213 rfl hl (by decide) rfl (fun ls hl => ?_)
                refine lv_aload_n hx hb d_Mod_open_214 rfl (lv_at hl 1 rfl) ?_
                refine va_get (D := (dC, dI)) (ci := 4) (v := .ref (ad 6)) (C := R_Mod) (T := T_Mod) (N := 27) hx hb hB in_Mod hown hK hP 0 rfl rfl 11 (by decide) (hB _ wd_233) (fun _ h9 => h9) rfl d_Mod_open_215 ?_
                refine lv_iload_n hx hb d_Mod_open_218 rfl (lv_at hl 2 rfl) ?_
                refine va_zald hx hb hK hP 6 5 rfl rfl b_6 d_Mod_open_219 ?_
                refine lv_if_eq (tgt := 233) hx hb d_Mod_open_220 (by decide) (fun c_7 => ?_) (fun c_7 => ?_)
                · have h := (if_pos c_7).symm.trans h
                  refine lv_aload_n hx hb d_Mod_open_233 rfl (lv_at hl 1 rfl) ?_
                  refine va_get (D := (dC, dI)) (ci := 4) (v := .ref (ad 8)) (C := R_Mod) (T := T_Mod) (N := 27) hx hb hB in_Mod hown hK hP 0 rfl rfl 17 (by decide) (hB _ wd_271) (fun _ h9 => h9) rfl d_Mod_open_234 ?_
                  refine lv_iload_n hx hb d_Mod_open_237 rfl (lv_at hl 0 rfl) ?_
                  refine lv_aload_n hx hb d_Mod_open_238 rfl (lv_at hl 1 rfl) ?_
                  refine va_get (D := (dC, dI)) (ci := 4) (v := .ref (ad 10)) (C := R_Mod) (T := T_Mod) (N := 27) hx hb hB in_Mod hown hK hP 0 rfl rfl 22 (by decide) (hB _ wd_248) (fun _ h9 => h9) rfl d_Mod_open_239 ?_
                  refine lv_iload_n hx hb d_Mod_open_242 rfl (lv_at hl 3 rfl) ?_
                  obtain ⟨b_8, h⟩ := gI_some h
                  refine va_iald hx hb hK hP 10 9 rfl rfl b_8 d_Mod_open_243 ?_
                  obtain ⟨b_9, h⟩ := gI_some h
                  refine va_iast hx hb hK hP hD hS 8 7 rfl rfl b_9 d_Mod_open_244 (fun H locs hP hD hS => ?_)
                  have hP : va_P (dC, dI) vwCl (x_Mod ad cs m_thrown m_kind m_steps m_size m_ran m_parts m_taken m_lacked m_decodings_189 m_failures_189 m_at_189 m_end_189 m_many_189 m_wrong_189 m_bytes m_heads m_numbers m_codes m_sizes m_guessed m_results_189 (upd m_values_189 (((16 : Int32) * (m_numbers x1.toNatClampNeg)) + y189_2).toNatClampNeg (m_came_189 y189_2.toNatClampNeg)) m_states_189 m_came_189 m_boxes_189 m_single_189 m_rows_189) H := hP
                  have hD : va_D A (x_Mod ad cs m_thrown m_kind m_steps m_size m_ran m_parts m_taken m_lacked m_decodings_189 m_failures_189 m_at_189 m_end_189 m_many_189 m_wrong_189 m_bytes m_heads m_numbers m_codes m_sizes m_guessed m_results_189 (upd m_values_189 (((16 : Int32) * (m_numbers x1.toNatClampNeg)) + y189_2).toNatClampNeg (m_came_189 y189_2.toNatClampNeg)) m_states_189 m_came_189 m_boxes_189 m_single_189 m_rows_189) := hD
                  refine lv_aload_n hx hb d_Mod_open_245 rfl (lv_at hl 1 rfl) ?_
                  refine va_get (D := (dC, dI)) (ci := 4) (v := .ref (ad 9)) (C := R_Mod) (T := T_Mod) (N := 27) hx hb hB in_Mod hown hK hP 0 rfl rfl 18 (by decide) (hB _ wd_272) (fun _ h9 => h9) rfl d_Mod_open_246 ?_
                  refine lv_iload_n hx hb d_Mod_open_249 rfl (lv_at hl 0 rfl) ?_
                  refine lv_aload_n hx hb d_Mod_open_250 rfl (lv_at hl 1 rfl) ?_
                  refine va_get (D := (dC, dI)) (ci := 4) (v := .ref (ad 6)) (C := R_Mod) (T := T_Mod) (N := 27) hx hb hB in_Mod hown hK hP 0 rfl rfl 11 (by decide) (hB _ wd_233) (fun _ h9 => h9) rfl d_Mod_open_251 ?_
                  refine lv_iload_n hx hb d_Mod_open_254 rfl (lv_at hl 2 rfl) ?_
                  refine va_zald hx hb hK hP 6 5 rfl rfl b_6 d_Mod_open_255 ?_
                  refine lv_if_eq (tgt := 263) hx hb d_Mod_open_256 (by decide) (fun c_10 => ?_) (fun c_10 => ?_)
                  · have h := (if_pos c_10).symm.trans h
                    refine lv_iconst (v := 1) hx hb d_Mod_open_263 (by decide) ?_
                    refine va_iast hx hb hK hP hD hS 9 8 rfl rfl b_9 d_Mod_open_264 (fun H locs hP hD hS => ?_)
                    have hP : va_P (dC, dI) vwCl (x_Mod ad cs m_thrown m_kind m_steps m_size m_ran m_parts m_taken m_lacked m_decodings_189 m_failures_189 m_at_189 m_end_189 m_many_189 m_wrong_189 m_bytes m_heads m_numbers m_codes m_sizes m_guessed m_results_189 (upd m_values_189 (((16 : Int32) * (m_numbers x1.toNatClampNeg)) + y189_2).toNatClampNeg (m_came_189 y189_2.toNatClampNeg)) (upd m_states_189 (((16 : Int32) * (m_numbers x1.toNatClampNeg)) + y189_2).toNatClampNeg (1 : Int32)) m_came_189 m_boxes_189 m_single_189 m_rows_189) H := hP
                    have hD : va_D A (x_Mod ad cs m_thrown m_kind m_steps m_size m_ran m_parts m_taken m_lacked m_decodings_189 m_failures_189 m_at_189 m_end_189 m_many_189 m_wrong_189 m_bytes m_heads m_numbers m_codes m_sizes m_guessed m_results_189 (upd m_values_189 (((16 : Int32) * (m_numbers x1.toNatClampNeg)) + y189_2).toNatClampNeg (m_came_189 y189_2.toNatClampNeg)) (upd m_states_189 (((16 : Int32) * (m_numbers x1.toNatClampNeg)) + y189_2).toNatClampNeg (1 : Int32)) m_came_189 m_boxes_189 m_single_189 m_rows_189) := hD
                    refine lv_iinc (v := y189_2 + 1) (lv' := [(2, .int (y189_2 + 1)), (3, .int (((16 : Int32) * (m_numbers x1.toNatClampNeg)) + y189_2)), (0, .ref (ad 0)), (1, .int x1)]) hx hb d_Mod_open_265 hl (k := 3) rfl rfl (by decide) rfl (fun ls hl => ?_)
                    refine lv_goto (tgt := 189) hx hb d_Mod_open_268 (by decide) ?_
                    exact ih (y189_2 + 1) m_decodings_189 m_failures_189 m_at_189 m_end_189 m_many_189 m_wrong_189 m_results_189 (upd m_values_189 (((16 : Int32) * (m_numbers x1.toNatClampNeg)) + y189_2).toNatClampNeg (m_came_189 y189_2.toNatClampNeg)) (upd m_states_189 (((16 : Int32) * (m_numbers x1.toNatClampNeg)) + y189_2).toNatClampNeg (1 : Int32)) m_came_189 m_boxes_189 m_single_189 m_rows_189 H locs ls (lv_sub hl [2, 3, 0] rfl) hP hD hS h
                  · have h := (if_neg c_10).symm.trans h
                    refine lv_iconst (v := 2) hx hb d_Mod_open_259 (by decide) ?_
                    refine lv_goto (tgt := 264) hx hb d_Mod_open_260 (by decide) ?_
                    refine va_iast hx hb hK hP hD hS 9 8 rfl rfl b_9 d_Mod_open_264 (fun H locs hP hD hS => ?_)
                    have hP : va_P (dC, dI) vwCl (x_Mod ad cs m_thrown m_kind m_steps m_size m_ran m_parts m_taken m_lacked m_decodings_189 m_failures_189 m_at_189 m_end_189 m_many_189 m_wrong_189 m_bytes m_heads m_numbers m_codes m_sizes m_guessed m_results_189 (upd m_values_189 (((16 : Int32) * (m_numbers x1.toNatClampNeg)) + y189_2).toNatClampNeg (m_came_189 y189_2.toNatClampNeg)) (upd m_states_189 (((16 : Int32) * (m_numbers x1.toNatClampNeg)) + y189_2).toNatClampNeg (2 : Int32)) m_came_189 m_boxes_189 m_single_189 m_rows_189) H := hP
                    have hD : va_D A (x_Mod ad cs m_thrown m_kind m_steps m_size m_ran m_parts m_taken m_lacked m_decodings_189 m_failures_189 m_at_189 m_end_189 m_many_189 m_wrong_189 m_bytes m_heads m_numbers m_codes m_sizes m_guessed m_results_189 (upd m_values_189 (((16 : Int32) * (m_numbers x1.toNatClampNeg)) + y189_2).toNatClampNeg (m_came_189 y189_2.toNatClampNeg)) (upd m_states_189 (((16 : Int32) * (m_numbers x1.toNatClampNeg)) + y189_2).toNatClampNeg (2 : Int32)) m_came_189 m_boxes_189 m_single_189 m_rows_189) := hD
                    refine lv_iinc (v := y189_2 + 1) (lv' := [(2, .int (y189_2 + 1)), (3, .int (((16 : Int32) * (m_numbers x1.toNatClampNeg)) + y189_2)), (0, .ref (ad 0)), (1, .int x1)]) hx hb d_Mod_open_265 hl (k := 3) rfl rfl (by decide) rfl (fun ls hl => ?_)
                    refine lv_goto (tgt := 189) hx hb d_Mod_open_268 (by decide) ?_
                    exact ih (y189_2 + 1) m_decodings_189 m_failures_189 m_at_189 m_end_189 m_many_189 m_wrong_189 m_results_189 (upd m_values_189 (((16 : Int32) * (m_numbers x1.toNatClampNeg)) + y189_2).toNatClampNeg (m_came_189 y189_2.toNatClampNeg)) (upd m_states_189 (((16 : Int32) * (m_numbers x1.toNatClampNeg)) + y189_2).toNatClampNeg (2 : Int32)) m_came_189 m_boxes_189 m_single_189 m_rows_189 H locs ls (lv_sub hl [2, 3, 0] rfl) hP hD hS h
                · have h := (if_neg c_7).symm.trans h
                  refine lv_aload_n hx hb d_Mod_open_223 rfl (lv_at hl 1 rfl) ?_
                  refine va_get (D := (dC, dI)) (ci := 4) (v := .ref (ad 9)) (C := R_Mod) (T := T_Mod) (N := 27) hx hb hB in_Mod hown hK hP 0 rfl rfl 18 (by decide) (hB _ wd_272) (fun _ h9 => h9) rfl d_Mod_open_224 ?_
                  refine lv_iload_n hx hb d_Mod_open_227 rfl (lv_at hl 0 rfl) ?_
                  obtain ⟨b_11, h⟩ := gI_some h
                  refine va_iald hx hb hK hP 9 8 rfl rfl b_11 d_Mod_open_228 ?_
                  refine lv_iconst (v := 1) hx hb d_Mod_open_229 (by decide) ?_
                  refine lv_icmp_eq (tgt := 265) hx hb d_Mod_open_230 (by decide) (fun c_12 => ?_) (fun c_12 => ?_)
                  · have h := (if_pos c_12).symm.trans h
                    refine lv_iinc (v := y189_2 + 1) (lv' := [(2, .int (y189_2 + 1)), (3, .int (((16 : Int32) * (m_numbers x1.toNatClampNeg)) + y189_2)), (0, .ref (ad 0)), (1, .int x1)]) hx hb d_Mod_open_265 hl (k := 3) rfl rfl (by decide) rfl (fun ls hl => ?_)
                    refine lv_goto (tgt := 189) hx hb d_Mod_open_268 (by decide) ?_
                    exact ih (y189_2 + 1) m_decodings_189 m_failures_189 m_at_189 m_end_189 m_many_189 m_wrong_189 m_results_189 m_values_189 m_states_189 m_came_189 m_boxes_189 m_single_189 m_rows_189 H locs ls (lv_sub hl [2, 3, 0] rfl) hP hD hS h
                  · have h := (if_neg c_12).symm.trans h
                    refine lv_aload_n hx hb d_Mod_open_233 rfl (lv_at hl 1 rfl) ?_
                    refine va_get (D := (dC, dI)) (ci := 4) (v := .ref (ad 8)) (C := R_Mod) (T := T_Mod) (N := 27) hx hb hB in_Mod hown hK hP 0 rfl rfl 17 (by decide) (hB _ wd_271) (fun _ h9 => h9) rfl d_Mod_open_234 ?_
                    refine lv_iload_n hx hb d_Mod_open_237 rfl (lv_at hl 0 rfl) ?_
                    refine lv_aload_n hx hb d_Mod_open_238 rfl (lv_at hl 1 rfl) ?_
                    refine va_get (D := (dC, dI)) (ci := 4) (v := .ref (ad 10)) (C := R_Mod) (T := T_Mod) (N := 27) hx hb hB in_Mod hown hK hP 0 rfl rfl 22 (by decide) (hB _ wd_248) (fun _ h9 => h9) rfl d_Mod_open_239 ?_
                    refine lv_iload_n hx hb d_Mod_open_242 rfl (lv_at hl 3 rfl) ?_
                    obtain ⟨b_13, h⟩ := gI_some h
                    refine va_iald hx hb hK hP 10 9 rfl rfl b_13 d_Mod_open_243 ?_
                    refine va_iast hx hb hK hP hD hS 8 7 rfl rfl b_11 d_Mod_open_244 (fun H locs hP hD hS => ?_)
                    have hP : va_P (dC, dI) vwCl (x_Mod ad cs m_thrown m_kind m_steps m_size m_ran m_parts m_taken m_lacked m_decodings_189 m_failures_189 m_at_189 m_end_189 m_many_189 m_wrong_189 m_bytes m_heads m_numbers m_codes m_sizes m_guessed m_results_189 (upd m_values_189 (((16 : Int32) * (m_numbers x1.toNatClampNeg)) + y189_2).toNatClampNeg (m_came_189 y189_2.toNatClampNeg)) m_states_189 m_came_189 m_boxes_189 m_single_189 m_rows_189) H := hP
                    have hD : va_D A (x_Mod ad cs m_thrown m_kind m_steps m_size m_ran m_parts m_taken m_lacked m_decodings_189 m_failures_189 m_at_189 m_end_189 m_many_189 m_wrong_189 m_bytes m_heads m_numbers m_codes m_sizes m_guessed m_results_189 (upd m_values_189 (((16 : Int32) * (m_numbers x1.toNatClampNeg)) + y189_2).toNatClampNeg (m_came_189 y189_2.toNatClampNeg)) m_states_189 m_came_189 m_boxes_189 m_single_189 m_rows_189) := hD
                    refine lv_aload_n hx hb d_Mod_open_245 rfl (lv_at hl 1 rfl) ?_
                    refine va_get (D := (dC, dI)) (ci := 4) (v := .ref (ad 9)) (C := R_Mod) (T := T_Mod) (N := 27) hx hb hB in_Mod hown hK hP 0 rfl rfl 18 (by decide) (hB _ wd_272) (fun _ h9 => h9) rfl d_Mod_open_246 ?_
                    refine lv_iload_n hx hb d_Mod_open_249 rfl (lv_at hl 0 rfl) ?_
                    refine lv_aload_n hx hb d_Mod_open_250 rfl (lv_at hl 1 rfl) ?_
                    refine va_get (D := (dC, dI)) (ci := 4) (v := .ref (ad 6)) (C := R_Mod) (T := T_Mod) (N := 27) hx hb hB in_Mod hown hK hP 0 rfl rfl 11 (by decide) (hB _ wd_233) (fun _ h9 => h9) rfl d_Mod_open_251 ?_
                    refine lv_iload_n hx hb d_Mod_open_254 rfl (lv_at hl 2 rfl) ?_
                    refine va_zald hx hb hK hP 6 5 rfl rfl b_6 d_Mod_open_255 ?_
                    refine lv_if_eq (tgt := 263) hx hb d_Mod_open_256 (by decide) (fun c_14 => ?_) (fun c_14 => ?_)
                    · have h := (if_pos c_14).symm.trans h
                      refine lv_iconst (v := 1) hx hb d_Mod_open_263 (by decide) ?_
                      refine va_iast hx hb hK hP hD hS 9 8 rfl rfl b_11 d_Mod_open_264 (fun H locs hP hD hS => ?_)
                      have hP : va_P (dC, dI) vwCl (x_Mod ad cs m_thrown m_kind m_steps m_size m_ran m_parts m_taken m_lacked m_decodings_189 m_failures_189 m_at_189 m_end_189 m_many_189 m_wrong_189 m_bytes m_heads m_numbers m_codes m_sizes m_guessed m_results_189 (upd m_values_189 (((16 : Int32) * (m_numbers x1.toNatClampNeg)) + y189_2).toNatClampNeg (m_came_189 y189_2.toNatClampNeg)) (upd m_states_189 (((16 : Int32) * (m_numbers x1.toNatClampNeg)) + y189_2).toNatClampNeg (1 : Int32)) m_came_189 m_boxes_189 m_single_189 m_rows_189) H := hP
                      have hD : va_D A (x_Mod ad cs m_thrown m_kind m_steps m_size m_ran m_parts m_taken m_lacked m_decodings_189 m_failures_189 m_at_189 m_end_189 m_many_189 m_wrong_189 m_bytes m_heads m_numbers m_codes m_sizes m_guessed m_results_189 (upd m_values_189 (((16 : Int32) * (m_numbers x1.toNatClampNeg)) + y189_2).toNatClampNeg (m_came_189 y189_2.toNatClampNeg)) (upd m_states_189 (((16 : Int32) * (m_numbers x1.toNatClampNeg)) + y189_2).toNatClampNeg (1 : Int32)) m_came_189 m_boxes_189 m_single_189 m_rows_189) := hD
                      refine lv_iinc (v := y189_2 + 1) (lv' := [(2, .int (y189_2 + 1)), (3, .int (((16 : Int32) * (m_numbers x1.toNatClampNeg)) + y189_2)), (0, .ref (ad 0)), (1, .int x1)]) hx hb d_Mod_open_265 hl (k := 3) rfl rfl (by decide) rfl (fun ls hl => ?_)
                      refine lv_goto (tgt := 189) hx hb d_Mod_open_268 (by decide) ?_
                      exact ih (y189_2 + 1) m_decodings_189 m_failures_189 m_at_189 m_end_189 m_many_189 m_wrong_189 m_results_189 (upd m_values_189 (((16 : Int32) * (m_numbers x1.toNatClampNeg)) + y189_2).toNatClampNeg (m_came_189 y189_2.toNatClampNeg)) (upd m_states_189 (((16 : Int32) * (m_numbers x1.toNatClampNeg)) + y189_2).toNatClampNeg (1 : Int32)) m_came_189 m_boxes_189 m_single_189 m_rows_189 H locs ls (lv_sub hl [2, 3, 0] rfl) hP hD hS h
                    · have h := (if_neg c_14).symm.trans h
                      refine lv_iconst (v := 2) hx hb d_Mod_open_259 (by decide) ?_
                      refine lv_goto (tgt := 264) hx hb d_Mod_open_260 (by decide) ?_
                      refine va_iast hx hb hK hP hD hS 9 8 rfl rfl b_11 d_Mod_open_264 (fun H locs hP hD hS => ?_)
                      have hP : va_P (dC, dI) vwCl (x_Mod ad cs m_thrown m_kind m_steps m_size m_ran m_parts m_taken m_lacked m_decodings_189 m_failures_189 m_at_189 m_end_189 m_many_189 m_wrong_189 m_bytes m_heads m_numbers m_codes m_sizes m_guessed m_results_189 (upd m_values_189 (((16 : Int32) * (m_numbers x1.toNatClampNeg)) + y189_2).toNatClampNeg (m_came_189 y189_2.toNatClampNeg)) (upd m_states_189 (((16 : Int32) * (m_numbers x1.toNatClampNeg)) + y189_2).toNatClampNeg (2 : Int32)) m_came_189 m_boxes_189 m_single_189 m_rows_189) H := hP
                      have hD : va_D A (x_Mod ad cs m_thrown m_kind m_steps m_size m_ran m_parts m_taken m_lacked m_decodings_189 m_failures_189 m_at_189 m_end_189 m_many_189 m_wrong_189 m_bytes m_heads m_numbers m_codes m_sizes m_guessed m_results_189 (upd m_values_189 (((16 : Int32) * (m_numbers x1.toNatClampNeg)) + y189_2).toNatClampNeg (m_came_189 y189_2.toNatClampNeg)) (upd m_states_189 (((16 : Int32) * (m_numbers x1.toNatClampNeg)) + y189_2).toNatClampNeg (2 : Int32)) m_came_189 m_boxes_189 m_single_189 m_rows_189) := hD
                      refine lv_iinc (v := y189_2 + 1) (lv' := [(2, .int (y189_2 + 1)), (3, .int (((16 : Int32) * (m_numbers x1.toNatClampNeg)) + y189_2)), (0, .ref (ad 0)), (1, .int x1)]) hx hb d_Mod_open_265 hl (k := 3) rfl rfl (by decide) rfl (fun ls hl => ?_)
                      refine lv_goto (tgt := 189) hx hb d_Mod_open_268 (by decide) ?_
                      exact ih (y189_2 + 1) m_decodings_189 m_failures_189 m_at_189 m_end_189 m_many_189 m_wrong_189 m_results_189 (upd m_values_189 (((16 : Int32) * (m_numbers x1.toNatClampNeg)) + y189_2).toNatClampNeg (m_came_189 y189_2.toNatClampNeg)) (upd m_states_189 (((16 : Int32) * (m_numbers x1.toNatClampNeg)) + y189_2).toNatClampNeg (2 : Int32)) m_came_189 m_boxes_189 m_single_189 m_rows_189 H locs ls (lv_sub hl [2, 3, 0] rfl) hP hD hS h
        exact L189 N (0 : Int32) (s60.1 + (1 : Int32)) s60.2.1 s60.2.2.1 s60.2.2.2.1 s60.2.2.2.2.1 s60.2.2.2.2.2.1 (upd s60.2.2.2.2.2.2.1 x1.toNatClampNeg s60.2.2.2.2.2.1) s60.2.2.2.2.2.2.2.1 s60.2.2.2.2.2.2.2.2.1 s60.2.2.2.2.2.2.2.2.2.1 s60.2.2.2.2.2.2.2.2.2.2.1 s60.2.2.2.2.2.2.2.2.2.2.2.1 s60.2.2.2.2.2.2.2.2.2.2.2.2 _ _ ls (lv_sub hl [1, 2, 0] rfl) hP hD hS hs189
      · have h := (if_neg c_2).symm.trans h
        refine lv_aload_n hx hb d_Mod_open_161 rfl (lv_at hl 0 rfl) ?_
        refine va_get (D := (dC, dI)) (ci := 4) (v := .int s60.2.1) (C := R_Mod) (T := T_Mod) (N := 27) hx hb hB in_Mod hown hK hP 0 rfl rfl 16 (by decide) (hB _ wd_270) (fun _ h9 => h9) rfl d_Mod_open_162 ?_
        refine lv_iconst (v := 1) hx hb d_Mod_open_165 (by decide) ?_
        refine lv_iadd hx hb d_Mod_open_166 ?_
        refine lv_goto (tgt := 174) hx hb d_Mod_open_167 (by decide) ?_
        refine va_put (D := (dC, dI)) (ci := 4) (v := .int (s60.2.1 + (1 : Int32))) (ty := .int) (C := R_Mod) (T := T_Mod) (N := 27) hx hb hB in_Mod ty_Mod tyok_Mod nd_Mod hown hK hP hD hS 0 rfl rfl 16 (by decide) (hB _ wd_270) (fun _ h9 => h9) rfl (by decide +kernel) rfl rfl (Nat.le_of_ble_eq_true rfl) d_Mod_open_174 (fun H locs hP hD hS => ?_)
        have hP : va_P (dC, dI) vwCl (x_Mod ad cs m_thrown m_kind m_steps m_size m_ran m_parts m_taken m_lacked (s60.1 + (1 : Int32)) (s60.2.1 + (1 : Int32)) s60.2.2.1 s60.2.2.2.1 s60.2.2.2.2.1 s60.2.2.2.2.2.1 m_bytes m_heads m_numbers m_codes m_sizes m_guessed s60.2.2.2.2.2.2.1 s60.2.2.2.2.2.2.2.1 s60.2.2.2.2.2.2.2.2.1 s60.2.2.2.2.2.2.2.2.2.1 s60.2.2.2.2.2.2.2.2.2.2.1 s60.2.2.2.2.2.2.2.2.2.2.2.1 s60.2.2.2.2.2.2.2.2.2.2.2.2) H := hP
        have hD : va_D A (x_Mod ad cs m_thrown m_kind m_steps m_size m_ran m_parts m_taken m_lacked (s60.1 + (1 : Int32)) (s60.2.1 + (1 : Int32)) s60.2.2.1 s60.2.2.2.1 s60.2.2.2.2.1 s60.2.2.2.2.2.1 m_bytes m_heads m_numbers m_codes m_sizes m_guessed s60.2.2.2.2.2.2.1 s60.2.2.2.2.2.2.2.1 s60.2.2.2.2.2.2.2.2.1 s60.2.2.2.2.2.2.2.2.2.1 s60.2.2.2.2.2.2.2.2.2.2.1 s60.2.2.2.2.2.2.2.2.2.2.2.1 s60.2.2.2.2.2.2.2.2.2.2.2.2) := hD
        refine lv_aload_n hx hb d_Mod_open_177 rfl (lv_at hl 0 rfl) ?_
        refine va_get (D := (dC, dI)) (ci := 4) (v := .ref (ad 7)) (C := R_Mod) (T := T_Mod) (N := 27) hx hb hB in_Mod hown hK hP 0 rfl rfl 12 (by decide) (hB _ wd_234) (fun _ h9 => h9) rfl d_Mod_open_178 ?_
        refine lv_iload_n hx hb d_Mod_open_181 rfl (lv_at hl 1 rfl) ?_
        refine lv_aload_n hx hb d_Mod_open_182 rfl (lv_at hl 0 rfl) ?_
        refine va_get (D := (dC, dI)) (ci := 4) (v := .int s60.2.2.2.2.2.1) (C := R_Mod) (T := T_Mod) (N := 27) hx hb hB in_Mod hown hK hP 0 rfl rfl 23 (by decide) (hB _ wd_241) (fun _ h9 => h9) rfl d_Mod_open_183 ?_
        obtain ⟨b_15, h⟩ := gI_some h
        refine va_iast hx hb hK hP hD hS 7 6 rfl rfl b_15 d_Mod_open_186 (fun H locs hP hD hS => ?_)
        have hP : va_P (dC, dI) vwCl (x_Mod ad cs m_thrown m_kind m_steps m_size m_ran m_parts m_taken m_lacked (s60.1 + (1 : Int32)) (s60.2.1 + (1 : Int32)) s60.2.2.1 s60.2.2.2.1 s60.2.2.2.2.1 s60.2.2.2.2.2.1 m_bytes m_heads m_numbers m_codes m_sizes m_guessed (upd s60.2.2.2.2.2.2.1 x1.toNatClampNeg s60.2.2.2.2.2.1) s60.2.2.2.2.2.2.2.1 s60.2.2.2.2.2.2.2.2.1 s60.2.2.2.2.2.2.2.2.2.1 s60.2.2.2.2.2.2.2.2.2.2.1 s60.2.2.2.2.2.2.2.2.2.2.2.1 s60.2.2.2.2.2.2.2.2.2.2.2.2) H := hP
        have hD : va_D A (x_Mod ad cs m_thrown m_kind m_steps m_size m_ran m_parts m_taken m_lacked (s60.1 + (1 : Int32)) (s60.2.1 + (1 : Int32)) s60.2.2.1 s60.2.2.2.1 s60.2.2.2.2.1 s60.2.2.2.2.2.1 m_bytes m_heads m_numbers m_codes m_sizes m_guessed (upd s60.2.2.2.2.2.2.1 x1.toNatClampNeg s60.2.2.2.2.2.1) s60.2.2.2.2.2.2.2.1 s60.2.2.2.2.2.2.2.2.1 s60.2.2.2.2.2.2.2.2.2.1 s60.2.2.2.2.2.2.2.2.2.2.1 s60.2.2.2.2.2.2.2.2.2.2.2.1 s60.2.2.2.2.2.2.2.2.2.2.2.2) := hD
        refine lv_iconst (v := 0) hx hb d_Mod_open_187 (by decide) ?_
        refine lv_istore_n (lv' := [(2, .int (0 : Int32)), (0, .ref (ad 0)), (1, .int x1)]) hx hb d_Mod_open_188 rfl hl (by decide) rfl (fun ls hl => ?_)
        obtain ⟨s189, hs189, h⟩ := Option.bind_eq_some_iff.mp h
        have X189 : ∀ (H : Heap) (locs : List Loc) (ls : Array Slot), lv_has ls 4 [(0, .ref (ad 0))] → va_P (dC, dI) vwCl (x_Mod ad cs m_thrown m_kind m_steps m_size m_ran m_parts m_taken m_lacked s189.1 s189.2.1 s189.2.2.1 s189.2.2.2.1 s189.2.2.2.2.1 s189.2.2.2.2.2.1 m_bytes m_heads m_numbers m_codes m_sizes m_guessed s189.2.2.2.2.2.2.1 s189.2.2.2.2.2.2.2.1 s189.2.2.2.2.2.2.2.2.1 s189.2.2.2.2.2.2.2.2.2.1 s189.2.2.2.2.2.2.2.2.2.2.1 s189.2.2.2.2.2.2.2.2.2.2.2.1 s189.2.2.2.2.2.2.2.2.2.2.2.2) H → va_D A (x_Mod ad cs m_thrown m_kind m_steps m_size m_ran m_parts m_taken m_lacked s189.1 s189.2.1 s189.2.2.1 s189.2.2.2.1 s189.2.2.2.2.1 s189.2.2.2.2.2.1 m_bytes m_heads m_numbers m_codes m_sizes m_guessed s189.2.2.2.2.2.2.1 s189.2.2.2.2.2.2.2.1 s189.2.2.2.2.2.2.2.2.1 s189.2.2.2.2.2.2.2.2.2.1 s189.2.2.2.2.2.2.2.2.2.2.1 s189.2.2.2.2.2.2.2.2.2.2.2.1 s189.2.2.2.2.2.2.2.2.2.2.2.2) → va_S A s.heap H locs → W p l e (headSpec (w_Mod_open) rm_Mod_open).room s m ([.ref (ad 0), .int x1] : List Value).toArray below meth c H locs 0 0 (MQ below (va_Qi (fun (r : Int32) (_ : Unit) => r = out.1) (fun _ => AftW (dC, dI) [((cs 1), .int), ((cs 2), .int), ((cs 3), .int), ((cs 4), .int), ((cs 5), .int), ((cs 6), .boolean), ((cs 7), .int), ((cs 8), .int), ((cs 9), .int), ((cs 10), .int), ((cs 11), .int), ((cs 12), .int), ((cs 13), .int)] A (x_Mod ad cs m_thrown m_kind m_steps m_size m_ran m_parts m_taken m_lacked out.2.1 out.2.2.1 out.2.2.2.1 out.2.2.2.2.1 out.2.2.2.2.2.1 out.2.2.2.2.2.2.1 m_bytes m_heads m_numbers m_codes m_sizes m_guessed out.2.2.2.2.2.2.2.1 out.2.2.2.2.2.2.2.2.1 out.2.2.2.2.2.2.2.2.2.1 out.2.2.2.2.2.2.2.2.2.2.1 out.2.2.2.2.2.2.2.2.2.2.2.1 out.2.2.2.2.2.2.2.2.2.2.2.2.1 out.2.2.2.2.2.2.2.2.2.2.2.2.2)) A) ([.ref (ad 0), .int x1] : List Value).toArray s 0 0 A) (F0 m 271 ls []) := by
          intro H locs ls hl hP hD hS
          refine lv_aload_n hx hb d_Mod_open_271 rfl (lv_at hl 0 rfl) ?_
          refine va_get (D := (dC, dI)) (ci := 4) (v := .int s189.2.2.2.2.2.1) (C := R_Mod) (T := T_Mod) (N := 27) hx hb hB in_Mod hown hK hP 0 rfl rfl 23 (by decide) (hB _ wd_241) (fun _ h9 => h9) rfl d_Mod_open_272 ?_
          have h := Option.some.inj h
          subst h
          exact W.iret hx hb hr (fun t ht hW => ⟨⟨_, (), rfl, rfl, AftW_mk hK hP hD ht hW⟩, hS.F ht⟩) hS.2.2 d_Mod_open_275
        have L189 : ∀ (n : Nat) (y189_2 : Int32) (m_decodings_189 : Int32) (m_failures_189 : Int32) (m_at_189 : Int32) (m_end_189 : Int32) (m_many_189 : Int32) (m_wrong_189 : Int32) (m_results_189 : Nat → Int32) (m_values_189 : Nat → Int32) (m_states_189 : Nat → Int32) (m_came_189 : Nat → Int32) (m_boxes_189 : Nat → Int32) (m_single_189 : Nat → Int32) (m_rows_189 : Nat → Int32) (H : Heap) (locs : List Loc) (ls : Array Slot), lv_has ls 4 [(0, .ref (ad 0)), (1, .int x1), (2, .int y189_2)] → va_P (dC, dI) vwCl (x_Mod ad cs m_thrown m_kind m_steps m_size m_ran m_parts m_taken m_lacked m_decodings_189 m_failures_189 m_at_189 m_end_189 m_many_189 m_wrong_189 m_bytes m_heads m_numbers m_codes m_sizes m_guessed m_results_189 m_values_189 m_states_189 m_came_189 m_boxes_189 m_single_189 m_rows_189) H → va_D A (x_Mod ad cs m_thrown m_kind m_steps m_size m_ran m_parts m_taken m_lacked m_decodings_189 m_failures_189 m_at_189 m_end_189 m_many_189 m_wrong_189 m_bytes m_heads m_numbers m_codes m_sizes m_guessed m_results_189 m_values_189 m_states_189 m_came_189 m_boxes_189 m_single_189 m_rows_189) → va_S A s.heap H locs → d_Mod_open_L189 N x1 m_bytes m_heads m_numbers m_codes m_sizes m_guessed n y189_2 m_decodings_189 m_failures_189 m_at_189 m_end_189 m_many_189 m_wrong_189 m_results_189 m_values_189 m_states_189 m_came_189 m_boxes_189 m_single_189 m_rows_189 = some s189 → W p l e (headSpec (w_Mod_open) rm_Mod_open).room s m ([.ref (ad 0), .int x1] : List Value).toArray below meth c H locs 0 0 (MQ below (va_Qi (fun (r : Int32) (_ : Unit) => r = out.1) (fun _ => AftW (dC, dI) [((cs 1), .int), ((cs 2), .int), ((cs 3), .int), ((cs 4), .int), ((cs 5), .int), ((cs 6), .boolean), ((cs 7), .int), ((cs 8), .int), ((cs 9), .int), ((cs 10), .int), ((cs 11), .int), ((cs 12), .int), ((cs 13), .int)] A (x_Mod ad cs m_thrown m_kind m_steps m_size m_ran m_parts m_taken m_lacked out.2.1 out.2.2.1 out.2.2.2.1 out.2.2.2.2.1 out.2.2.2.2.2.1 out.2.2.2.2.2.2.1 m_bytes m_heads m_numbers m_codes m_sizes m_guessed out.2.2.2.2.2.2.2.1 out.2.2.2.2.2.2.2.2.1 out.2.2.2.2.2.2.2.2.2.1 out.2.2.2.2.2.2.2.2.2.2.1 out.2.2.2.2.2.2.2.2.2.2.2.1 out.2.2.2.2.2.2.2.2.2.2.2.2.1 out.2.2.2.2.2.2.2.2.2.2.2.2.2)) A) ([.ref (ad 0), .int x1] : List Value).toArray s 0 0 A) (F0 m 189 ls []) := by
          intro n
          induction n with
          | zero =>
            intro y189_2 m_decodings_189 m_failures_189 m_at_189 m_end_189 m_many_189 m_wrong_189 m_results_189 m_values_189 m_states_189 m_came_189 m_boxes_189 m_single_189 m_rows_189 H locs ls hl hP hD hS h
            rw [d_Mod_open_L189] at h
            cases h
          | succ n ih =>
            intro y189_2 m_decodings_189 m_failures_189 m_at_189 m_end_189 m_many_189 m_wrong_189 m_results_189 m_values_189 m_states_189 m_came_189 m_boxes_189 m_single_189 m_rows_189 H locs ls hl hP hD hS h
            rw [d_Mod_open_L189] at h
            refine lv_iload_n hx hb d_Mod_open_189 rfl (lv_at hl 2 rfl) ?_
            refine lv_bipush (v := 16) hx hb d_Mod_open_190 (by decide) ?_
            refine lv_icmp_ge (tgt := 271) hx hb d_Mod_open_192 (by decide) (fun c_16 => ?_) (fun c_16 => ?_)
            · have h := (if_pos c_16).symm.trans h
              have h := Option.some.inj h
              subst h
              exact X189 H locs ls (lv_sub hl [0] rfl) hP hD hS
            · have h := (if_neg c_16).symm.trans h
              refine lv_aload_n hx hb d_Mod_open_195 rfl (lv_at hl 0 rfl) ?_
              refine va_get (D := (dC, dI)) (ci := 4) (v := .int m_wrong_189) (C := R_Mod) (T := T_Mod) (N := 27) hx hb hB in_Mod hown hK hP 0 rfl rfl 23 (by decide) (hB _ wd_241) (fun _ h9 => h9) rfl d_Mod_open_196 ?_
              refine lv_if_ne (tgt := 271) hx hb d_Mod_open_199 (by decide) (fun c_17 => ?_) (fun c_17 => ?_)
              · have h := (if_neg c_17).symm.trans h
                have h := Option.some.inj h
                subst h
                exact X189 H locs ls (lv_sub hl [0] rfl) hP hD hS
              · have h := (if_pos c_17).symm.trans h
                refine lv_bipush (v := 16) hx hb d_Mod_open_202 (by decide) ?_
                refine lv_aload_n hx hb d_Mod_open_204 rfl (lv_at hl 0 rfl) ?_
                refine va_get (D := (dC, dI)) (ci := 4) (v := .ref (ad 3)) (C := R_Mod) (T := T_Mod) (N := 27) hx hb hB in_Mod hown hK hP 0 rfl rfl 8 (by decide) (hB _ wd_230) (fun _ h9 => h9) rfl d_Mod_open_205 ?_
                refine lv_iload_n hx hb d_Mod_open_208 rfl (lv_at hl 1 rfl) ?_
                obtain ⟨b_18, h⟩ := gI_some h
                refine va_iald hx hb hK hP 3 2 rfl rfl b_18 d_Mod_open_209 ?_
                refine lv_imul hx hb d_Mod_open_210 ?_
                refine lv_iload_n hx hb d_Mod_open_211 rfl (lv_at hl 2 rfl) ?_
                refine lv_iadd hx hb d_Mod_open_212 ?_
                refine lv_istore_n (lv' := [(3, .int (((16 : Int32) * (m_numbers x1.toNatClampNeg)) + y189_2)), (0, .ref (ad 0)), (1, .int x1), (2, .int y189_2)]) hx hb d_Mod_open_213 rfl hl (by decide) rfl (fun ls hl => ?_)
                refine lv_aload_n hx hb d_Mod_open_214 rfl (lv_at hl 1 rfl) ?_
                refine va_get (D := (dC, dI)) (ci := 4) (v := .ref (ad 6)) (C := R_Mod) (T := T_Mod) (N := 27) hx hb hB in_Mod hown hK hP 0 rfl rfl 11 (by decide) (hB _ wd_233) (fun _ h9 => h9) rfl d_Mod_open_215 ?_
                refine lv_iload_n hx hb d_Mod_open_218 rfl (lv_at hl 2 rfl) ?_
                refine va_zald hx hb hK hP 6 5 rfl rfl b_18 d_Mod_open_219 ?_
                refine lv_if_eq (tgt := 233) hx hb d_Mod_open_220 (by decide) (fun c_19 => ?_) (fun c_19 => ?_)
                · have h := (if_pos c_19).symm.trans h
                  refine lv_aload_n hx hb d_Mod_open_233 rfl (lv_at hl 1 rfl) ?_
                  refine va_get (D := (dC, dI)) (ci := 4) (v := .ref (ad 8)) (C := R_Mod) (T := T_Mod) (N := 27) hx hb hB in_Mod hown hK hP 0 rfl rfl 17 (by decide) (hB _ wd_271) (fun _ h9 => h9) rfl d_Mod_open_234 ?_
                  refine lv_iload_n hx hb d_Mod_open_237 rfl (lv_at hl 0 rfl) ?_
                  refine lv_aload_n hx hb d_Mod_open_238 rfl (lv_at hl 1 rfl) ?_
                  refine va_get (D := (dC, dI)) (ci := 4) (v := .ref (ad 10)) (C := R_Mod) (T := T_Mod) (N := 27) hx hb hB in_Mod hown hK hP 0 rfl rfl 22 (by decide) (hB _ wd_248) (fun _ h9 => h9) rfl d_Mod_open_239 ?_
                  refine lv_iload_n hx hb d_Mod_open_242 rfl (lv_at hl 3 rfl) ?_
                  obtain ⟨b_20, h⟩ := gI_some h
                  refine va_iald hx hb hK hP 10 9 rfl rfl b_20 d_Mod_open_243 ?_
                  obtain ⟨b_21, h⟩ := gI_some h
                  refine va_iast hx hb hK hP hD hS 8 7 rfl rfl b_21 d_Mod_open_244 (fun H locs hP hD hS => ?_)
                  have hP : va_P (dC, dI) vwCl (x_Mod ad cs m_thrown m_kind m_steps m_size m_ran m_parts m_taken m_lacked m_decodings_189 m_failures_189 m_at_189 m_end_189 m_many_189 m_wrong_189 m_bytes m_heads m_numbers m_codes m_sizes m_guessed m_results_189 (upd m_values_189 (((16 : Int32) * (m_numbers x1.toNatClampNeg)) + y189_2).toNatClampNeg (m_came_189 y189_2.toNatClampNeg)) m_states_189 m_came_189 m_boxes_189 m_single_189 m_rows_189) H := hP
                  have hD : va_D A (x_Mod ad cs m_thrown m_kind m_steps m_size m_ran m_parts m_taken m_lacked m_decodings_189 m_failures_189 m_at_189 m_end_189 m_many_189 m_wrong_189 m_bytes m_heads m_numbers m_codes m_sizes m_guessed m_results_189 (upd m_values_189 (((16 : Int32) * (m_numbers x1.toNatClampNeg)) + y189_2).toNatClampNeg (m_came_189 y189_2.toNatClampNeg)) m_states_189 m_came_189 m_boxes_189 m_single_189 m_rows_189) := hD
                  refine lv_aload_n hx hb d_Mod_open_245 rfl (lv_at hl 1 rfl) ?_
                  refine va_get (D := (dC, dI)) (ci := 4) (v := .ref (ad 9)) (C := R_Mod) (T := T_Mod) (N := 27) hx hb hB in_Mod hown hK hP 0 rfl rfl 18 (by decide) (hB _ wd_272) (fun _ h9 => h9) rfl d_Mod_open_246 ?_
                  refine lv_iload_n hx hb d_Mod_open_249 rfl (lv_at hl 0 rfl) ?_
                  refine lv_aload_n hx hb d_Mod_open_250 rfl (lv_at hl 1 rfl) ?_
                  refine va_get (D := (dC, dI)) (ci := 4) (v := .ref (ad 6)) (C := R_Mod) (T := T_Mod) (N := 27) hx hb hB in_Mod hown hK hP 0 rfl rfl 11 (by decide) (hB _ wd_233) (fun _ h9 => h9) rfl d_Mod_open_251 ?_
                  refine lv_iload_n hx hb d_Mod_open_254 rfl (lv_at hl 2 rfl) ?_
                  refine va_zald hx hb hK hP 6 5 rfl rfl b_18 d_Mod_open_255 ?_
                  refine lv_if_eq (tgt := 263) hx hb d_Mod_open_256 (by decide) (fun c_22 => ?_) (fun c_22 => ?_)
                  · have h := (if_pos c_22).symm.trans h
                    refine lv_iconst (v := 1) hx hb d_Mod_open_263 (by decide) ?_
                    refine va_iast hx hb hK hP hD hS 9 8 rfl rfl b_21 d_Mod_open_264 (fun H locs hP hD hS => ?_)
                    have hP : va_P (dC, dI) vwCl (x_Mod ad cs m_thrown m_kind m_steps m_size m_ran m_parts m_taken m_lacked m_decodings_189 m_failures_189 m_at_189 m_end_189 m_many_189 m_wrong_189 m_bytes m_heads m_numbers m_codes m_sizes m_guessed m_results_189 (upd m_values_189 (((16 : Int32) * (m_numbers x1.toNatClampNeg)) + y189_2).toNatClampNeg (m_came_189 y189_2.toNatClampNeg)) (upd m_states_189 (((16 : Int32) * (m_numbers x1.toNatClampNeg)) + y189_2).toNatClampNeg (1 : Int32)) m_came_189 m_boxes_189 m_single_189 m_rows_189) H := hP
                    have hD : va_D A (x_Mod ad cs m_thrown m_kind m_steps m_size m_ran m_parts m_taken m_lacked m_decodings_189 m_failures_189 m_at_189 m_end_189 m_many_189 m_wrong_189 m_bytes m_heads m_numbers m_codes m_sizes m_guessed m_results_189 (upd m_values_189 (((16 : Int32) * (m_numbers x1.toNatClampNeg)) + y189_2).toNatClampNeg (m_came_189 y189_2.toNatClampNeg)) (upd m_states_189 (((16 : Int32) * (m_numbers x1.toNatClampNeg)) + y189_2).toNatClampNeg (1 : Int32)) m_came_189 m_boxes_189 m_single_189 m_rows_189) := hD
                    refine lv_iinc (v := y189_2 + 1) (lv' := [(2, .int (y189_2 + 1)), (3, .int (((16 : Int32) * (m_numbers x1.toNatClampNeg)) + y189_2)), (0, .ref (ad 0)), (1, .int x1)]) hx hb d_Mod_open_265 hl (k := 3) rfl rfl (by decide) rfl (fun ls hl => ?_)
                    refine lv_goto (tgt := 189) hx hb d_Mod_open_268 (by decide) ?_
                    exact ih (y189_2 + 1) m_decodings_189 m_failures_189 m_at_189 m_end_189 m_many_189 m_wrong_189 m_results_189 (upd m_values_189 (((16 : Int32) * (m_numbers x1.toNatClampNeg)) + y189_2).toNatClampNeg (m_came_189 y189_2.toNatClampNeg)) (upd m_states_189 (((16 : Int32) * (m_numbers x1.toNatClampNeg)) + y189_2).toNatClampNeg (1 : Int32)) m_came_189 m_boxes_189 m_single_189 m_rows_189 H locs ls (lv_sub hl [2, 3, 0] rfl) hP hD hS h
                  · have h := (if_neg c_22).symm.trans h
                    refine lv_iconst (v := 2) hx hb d_Mod_open_259 (by decide) ?_
                    refine lv_goto (tgt := 264) hx hb d_Mod_open_260 (by decide) ?_
                    refine va_iast hx hb hK hP hD hS 9 8 rfl rfl b_21 d_Mod_open_264 (fun H locs hP hD hS => ?_)
                    have hP : va_P (dC, dI) vwCl (x_Mod ad cs m_thrown m_kind m_steps m_size m_ran m_parts m_taken m_lacked m_decodings_189 m_failures_189 m_at_189 m_end_189 m_many_189 m_wrong_189 m_bytes m_heads m_numbers m_codes m_sizes m_guessed m_results_189 (upd m_values_189 (((16 : Int32) * (m_numbers x1.toNatClampNeg)) + y189_2).toNatClampNeg (m_came_189 y189_2.toNatClampNeg)) (upd m_states_189 (((16 : Int32) * (m_numbers x1.toNatClampNeg)) + y189_2).toNatClampNeg (2 : Int32)) m_came_189 m_boxes_189 m_single_189 m_rows_189) H := hP
                    have hD : va_D A (x_Mod ad cs m_thrown m_kind m_steps m_size m_ran m_parts m_taken m_lacked m_decodings_189 m_failures_189 m_at_189 m_end_189 m_many_189 m_wrong_189 m_bytes m_heads m_numbers m_codes m_sizes m_guessed m_results_189 (upd m_values_189 (((16 : Int32) * (m_numbers x1.toNatClampNeg)) + y189_2).toNatClampNeg (m_came_189 y189_2.toNatClampNeg)) (upd m_states_189 (((16 : Int32) * (m_numbers x1.toNatClampNeg)) + y189_2).toNatClampNeg (2 : Int32)) m_came_189 m_boxes_189 m_single_189 m_rows_189) := hD
                    refine lv_iinc (v := y189_2 + 1) (lv' := [(2, .int (y189_2 + 1)), (3, .int (((16 : Int32) * (m_numbers x1.toNatClampNeg)) + y189_2)), (0, .ref (ad 0)), (1, .int x1)]) hx hb d_Mod_open_265 hl (k := 3) rfl rfl (by decide) rfl (fun ls hl => ?_)
                    refine lv_goto (tgt := 189) hx hb d_Mod_open_268 (by decide) ?_
                    exact ih (y189_2 + 1) m_decodings_189 m_failures_189 m_at_189 m_end_189 m_many_189 m_wrong_189 m_results_189 (upd m_values_189 (((16 : Int32) * (m_numbers x1.toNatClampNeg)) + y189_2).toNatClampNeg (m_came_189 y189_2.toNatClampNeg)) (upd m_states_189 (((16 : Int32) * (m_numbers x1.toNatClampNeg)) + y189_2).toNatClampNeg (2 : Int32)) m_came_189 m_boxes_189 m_single_189 m_rows_189 H locs ls (lv_sub hl [2, 3, 0] rfl) hP hD hS h
                · have h := (if_neg c_19).symm.trans h
                  refine lv_aload_n hx hb d_Mod_open_223 rfl (lv_at hl 1 rfl) ?_
                  refine va_get (D := (dC, dI)) (ci := 4) (v := .ref (ad 9)) (C := R_Mod) (T := T_Mod) (N := 27) hx hb hB in_Mod hown hK hP 0 rfl rfl 18 (by decide) (hB _ wd_272) (fun _ h9 => h9) rfl d_Mod_open_224 ?_
                  refine lv_iload_n hx hb d_Mod_open_227 rfl (lv_at hl 0 rfl) ?_
                  obtain ⟨b_23, h⟩ := gI_some h
                  refine va_iald hx hb hK hP 9 8 rfl rfl b_23 d_Mod_open_228 ?_
                  refine lv_iconst (v := 1) hx hb d_Mod_open_229 (by decide) ?_
                  refine lv_icmp_eq (tgt := 265) hx hb d_Mod_open_230 (by decide) (fun c_24 => ?_) (fun c_24 => ?_)
                  · have h := (if_pos c_24).symm.trans h
                    refine lv_iinc (v := y189_2 + 1) (lv' := [(2, .int (y189_2 + 1)), (3, .int (((16 : Int32) * (m_numbers x1.toNatClampNeg)) + y189_2)), (0, .ref (ad 0)), (1, .int x1)]) hx hb d_Mod_open_265 hl (k := 3) rfl rfl (by decide) rfl (fun ls hl => ?_)
                    refine lv_goto (tgt := 189) hx hb d_Mod_open_268 (by decide) ?_
                    exact ih (y189_2 + 1) m_decodings_189 m_failures_189 m_at_189 m_end_189 m_many_189 m_wrong_189 m_results_189 m_values_189 m_states_189 m_came_189 m_boxes_189 m_single_189 m_rows_189 H locs ls (lv_sub hl [2, 3, 0] rfl) hP hD hS h
                  · have h := (if_neg c_24).symm.trans h
                    refine lv_aload_n hx hb d_Mod_open_233 rfl (lv_at hl 1 rfl) ?_
                    refine va_get (D := (dC, dI)) (ci := 4) (v := .ref (ad 8)) (C := R_Mod) (T := T_Mod) (N := 27) hx hb hB in_Mod hown hK hP 0 rfl rfl 17 (by decide) (hB _ wd_271) (fun _ h9 => h9) rfl d_Mod_open_234 ?_
                    refine lv_iload_n hx hb d_Mod_open_237 rfl (lv_at hl 0 rfl) ?_
                    refine lv_aload_n hx hb d_Mod_open_238 rfl (lv_at hl 1 rfl) ?_
                    refine va_get (D := (dC, dI)) (ci := 4) (v := .ref (ad 10)) (C := R_Mod) (T := T_Mod) (N := 27) hx hb hB in_Mod hown hK hP 0 rfl rfl 22 (by decide) (hB _ wd_248) (fun _ h9 => h9) rfl d_Mod_open_239 ?_
                    refine lv_iload_n hx hb d_Mod_open_242 rfl (lv_at hl 3 rfl) ?_
                    obtain ⟨b_25, h⟩ := gI_some h
                    refine va_iald hx hb hK hP 10 9 rfl rfl b_25 d_Mod_open_243 ?_
                    refine va_iast hx hb hK hP hD hS 8 7 rfl rfl b_23 d_Mod_open_244 (fun H locs hP hD hS => ?_)
                    have hP : va_P (dC, dI) vwCl (x_Mod ad cs m_thrown m_kind m_steps m_size m_ran m_parts m_taken m_lacked m_decodings_189 m_failures_189 m_at_189 m_end_189 m_many_189 m_wrong_189 m_bytes m_heads m_numbers m_codes m_sizes m_guessed m_results_189 (upd m_values_189 (((16 : Int32) * (m_numbers x1.toNatClampNeg)) + y189_2).toNatClampNeg (m_came_189 y189_2.toNatClampNeg)) m_states_189 m_came_189 m_boxes_189 m_single_189 m_rows_189) H := hP
                    have hD : va_D A (x_Mod ad cs m_thrown m_kind m_steps m_size m_ran m_parts m_taken m_lacked m_decodings_189 m_failures_189 m_at_189 m_end_189 m_many_189 m_wrong_189 m_bytes m_heads m_numbers m_codes m_sizes m_guessed m_results_189 (upd m_values_189 (((16 : Int32) * (m_numbers x1.toNatClampNeg)) + y189_2).toNatClampNeg (m_came_189 y189_2.toNatClampNeg)) m_states_189 m_came_189 m_boxes_189 m_single_189 m_rows_189) := hD
                    refine lv_aload_n hx hb d_Mod_open_245 rfl (lv_at hl 1 rfl) ?_
                    refine va_get (D := (dC, dI)) (ci := 4) (v := .ref (ad 9)) (C := R_Mod) (T := T_Mod) (N := 27) hx hb hB in_Mod hown hK hP 0 rfl rfl 18 (by decide) (hB _ wd_272) (fun _ h9 => h9) rfl d_Mod_open_246 ?_
                    refine lv_iload_n hx hb d_Mod_open_249 rfl (lv_at hl 0 rfl) ?_
                    refine lv_aload_n hx hb d_Mod_open_250 rfl (lv_at hl 1 rfl) ?_
                    refine va_get (D := (dC, dI)) (ci := 4) (v := .ref (ad 6)) (C := R_Mod) (T := T_Mod) (N := 27) hx hb hB in_Mod hown hK hP 0 rfl rfl 11 (by decide) (hB _ wd_233) (fun _ h9 => h9) rfl d_Mod_open_251 ?_
                    refine lv_iload_n hx hb d_Mod_open_254 rfl (lv_at hl 2 rfl) ?_
                    refine va_zald hx hb hK hP 6 5 rfl rfl b_18 d_Mod_open_255 ?_
                    refine lv_if_eq (tgt := 263) hx hb d_Mod_open_256 (by decide) (fun c_26 => ?_) (fun c_26 => ?_)
                    · have h := (if_pos c_26).symm.trans h
                      refine lv_iconst (v := 1) hx hb d_Mod_open_263 (by decide) ?_
                      refine va_iast hx hb hK hP hD hS 9 8 rfl rfl b_23 d_Mod_open_264 (fun H locs hP hD hS => ?_)
                      have hP : va_P (dC, dI) vwCl (x_Mod ad cs m_thrown m_kind m_steps m_size m_ran m_parts m_taken m_lacked m_decodings_189 m_failures_189 m_at_189 m_end_189 m_many_189 m_wrong_189 m_bytes m_heads m_numbers m_codes m_sizes m_guessed m_results_189 (upd m_values_189 (((16 : Int32) * (m_numbers x1.toNatClampNeg)) + y189_2).toNatClampNeg (m_came_189 y189_2.toNatClampNeg)) (upd m_states_189 (((16 : Int32) * (m_numbers x1.toNatClampNeg)) + y189_2).toNatClampNeg (1 : Int32)) m_came_189 m_boxes_189 m_single_189 m_rows_189) H := hP
                      have hD : va_D A (x_Mod ad cs m_thrown m_kind m_steps m_size m_ran m_parts m_taken m_lacked m_decodings_189 m_failures_189 m_at_189 m_end_189 m_many_189 m_wrong_189 m_bytes m_heads m_numbers m_codes m_sizes m_guessed m_results_189 (upd m_values_189 (((16 : Int32) * (m_numbers x1.toNatClampNeg)) + y189_2).toNatClampNeg (m_came_189 y189_2.toNatClampNeg)) (upd m_states_189 (((16 : Int32) * (m_numbers x1.toNatClampNeg)) + y189_2).toNatClampNeg (1 : Int32)) m_came_189 m_boxes_189 m_single_189 m_rows_189) := hD
                      refine lv_iinc (v := y189_2 + 1) (lv' := [(2, .int (y189_2 + 1)), (3, .int (((16 : Int32) * (m_numbers x1.toNatClampNeg)) + y189_2)), (0, .ref (ad 0)), (1, .int x1)]) hx hb d_Mod_open_265 hl (k := 3) rfl rfl (by decide) rfl (fun ls hl => ?_)
                      refine lv_goto (tgt := 189) hx hb d_Mod_open_268 (by decide) ?_
                      exact ih (y189_2 + 1) m_decodings_189 m_failures_189 m_at_189 m_end_189 m_many_189 m_wrong_189 m_results_189 (upd m_values_189 (((16 : Int32) * (m_numbers x1.toNatClampNeg)) + y189_2).toNatClampNeg (m_came_189 y189_2.toNatClampNeg)) (upd m_states_189 (((16 : Int32) * (m_numbers x1.toNatClampNeg)) + y189_2).toNatClampNeg (1 : Int32)) m_came_189 m_boxes_189 m_single_189 m_rows_189 H locs ls (lv_sub hl [2, 3, 0] rfl) hP hD hS h
                    · have h := (if_neg c_26).symm.trans h
                      refine lv_iconst (v := 2) hx hb d_Mod_open_259 (by decide) ?_
                      refine lv_goto (tgt := 264) hx hb d_Mod_open_260 (by decide) ?_
                      refine va_iast hx hb hK hP hD hS 9 8 rfl rfl b_23 d_Mod_open_264 (fun H locs hP hD hS => ?_)
                      have hP : va_P (dC, dI) vwCl (x_Mod ad cs m_thrown m_kind m_steps m_size m_ran m_parts m_taken m_lacked m_decodings_189 m_failures_189 m_at_189 m_end_189 m_many_189 m_wrong_189 m_bytes m_heads m_numbers m_codes m_sizes m_guessed m_results_189 (upd m_values_189 (((16 : Int32) * (m_numbers x1.toNatClampNeg)) + y189_2).toNatClampNeg (m_came_189 y189_2.toNatClampNeg)) (upd m_states_189 (((16 : Int32) * (m_numbers x1.toNatClampNeg)) + y189_2).toNatClampNeg (2 : Int32)) m_came_189 m_boxes_189 m_single_189 m_rows_189) H := hP
                      have hD : va_D A (x_Mod ad cs m_thrown m_kind m_steps m_size m_ran m_parts m_taken m_lacked m_decodings_189 m_failures_189 m_at_189 m_end_189 m_many_189 m_wrong_189 m_bytes m_heads m_numbers m_codes m_sizes m_guessed m_results_189 (upd m_values_189 (((16 : Int32) * (m_numbers x1.toNatClampNeg)) + y189_2).toNatClampNeg (m_came_189 y189_2.toNatClampNeg)) (upd m_states_189 (((16 : Int32) * (m_numbers x1.toNatClampNeg)) + y189_2).toNatClampNeg (2 : Int32)) m_came_189 m_boxes_189 m_single_189 m_rows_189) := hD
                      refine lv_iinc (v := y189_2 + 1) (lv' := [(2, .int (y189_2 + 1)), (3, .int (((16 : Int32) * (m_numbers x1.toNatClampNeg)) + y189_2)), (0, .ref (ad 0)), (1, .int x1)]) hx hb d_Mod_open_265 hl (k := 3) rfl rfl (by decide) rfl (fun ls hl => ?_)
                      refine lv_goto (tgt := 189) hx hb d_Mod_open_268 (by decide) ?_
                      exact ih (y189_2 + 1) m_decodings_189 m_failures_189 m_at_189 m_end_189 m_many_189 m_wrong_189 m_results_189 (upd m_values_189 (((16 : Int32) * (m_numbers x1.toNatClampNeg)) + y189_2).toNatClampNeg (m_came_189 y189_2.toNatClampNeg)) (upd m_states_189 (((16 : Int32) * (m_numbers x1.toNatClampNeg)) + y189_2).toNatClampNeg (2 : Int32)) m_came_189 m_boxes_189 m_single_189 m_rows_189 H locs ls (lv_sub hl [2, 3, 0] rfl) hP hD hS h
        exact L189 N (0 : Int32) (s60.1 + (1 : Int32)) (s60.2.1 + (1 : Int32)) s60.2.2.1 s60.2.2.2.1 s60.2.2.2.2.1 s60.2.2.2.2.2.1 (upd s60.2.2.2.2.2.2.1 x1.toNatClampNeg s60.2.2.2.2.2.1) s60.2.2.2.2.2.2.2.1 s60.2.2.2.2.2.2.2.2.1 s60.2.2.2.2.2.2.2.2.2.1 s60.2.2.2.2.2.2.2.2.2.2.1 s60.2.2.2.2.2.2.2.2.2.2.2.1 s60.2.2.2.2.2.2.2.2.2.2.2.2 _ _ ls (lv_sub hl [1, 2, 0] rfl) hP hD hS hs189
    have L60 : ∀ (n : Nat) (m_decodings_60 : Int32) (m_failures_60 : Int32) (m_at_60 : Int32) (m_end_60 : Int32) (m_many_60 : Int32) (m_wrong_60 : Int32) (m_results_60 : Nat → Int32) (m_values_60 : Nat → Int32) (m_states_60 : Nat → Int32) (m_came_60 : Nat → Int32) (m_boxes_60 : Nat → Int32) (m_single_60 : Nat → Int32) (m_rows_60 : Nat → Int32) (H : Heap) (locs : List Loc) (ls : Array Slot), lv_has ls 4 [(0, .ref (ad 0)), (1, .int x1)] → va_P (dC, dI) vwCl (x_Mod ad cs m_thrown m_kind m_steps m_size m_ran m_parts m_taken m_lacked m_decodings_60 m_failures_60 m_at_60 m_end_60 m_many_60 m_wrong_60 m_bytes m_heads m_numbers m_codes m_sizes m_guessed m_results_60 m_values_60 m_states_60 m_came_60 m_boxes_60 m_single_60 m_rows_60) H → va_D A (x_Mod ad cs m_thrown m_kind m_steps m_size m_ran m_parts m_taken m_lacked m_decodings_60 m_failures_60 m_at_60 m_end_60 m_many_60 m_wrong_60 m_bytes m_heads m_numbers m_codes m_sizes m_guessed m_results_60 m_values_60 m_states_60 m_came_60 m_boxes_60 m_single_60 m_rows_60) → va_S A s.heap H locs → d_Mod_open_L60 N x1 m_bytes m_heads m_numbers m_codes m_sizes m_guessed n m_decodings_60 m_failures_60 m_at_60 m_end_60 m_many_60 m_wrong_60 m_results_60 m_values_60 m_states_60 m_came_60 m_boxes_60 m_single_60 m_rows_60 = some s60 → W p l e (headSpec (w_Mod_open) rm_Mod_open).room s m ([.ref (ad 0), .int x1] : List Value).toArray below meth c H locs 0 0 (MQ below (va_Qi (fun (r : Int32) (_ : Unit) => r = out.1) (fun _ => AftW (dC, dI) [((cs 1), .int), ((cs 2), .int), ((cs 3), .int), ((cs 4), .int), ((cs 5), .int), ((cs 6), .boolean), ((cs 7), .int), ((cs 8), .int), ((cs 9), .int), ((cs 10), .int), ((cs 11), .int), ((cs 12), .int), ((cs 13), .int)] A (x_Mod ad cs m_thrown m_kind m_steps m_size m_ran m_parts m_taken m_lacked out.2.1 out.2.2.1 out.2.2.2.1 out.2.2.2.2.1 out.2.2.2.2.2.1 out.2.2.2.2.2.2.1 m_bytes m_heads m_numbers m_codes m_sizes m_guessed out.2.2.2.2.2.2.2.1 out.2.2.2.2.2.2.2.2.1 out.2.2.2.2.2.2.2.2.2.1 out.2.2.2.2.2.2.2.2.2.2.1 out.2.2.2.2.2.2.2.2.2.2.2.1 out.2.2.2.2.2.2.2.2.2.2.2.2.1 out.2.2.2.2.2.2.2.2.2.2.2.2.2)) A) ([.ref (ad 0), .int x1] : List Value).toArray s 0 0 A) (F0 m 60 ls []) := by
      intro n
      induction n with
      | zero =>
        intro m_decodings_60 m_failures_60 m_at_60 m_end_60 m_many_60 m_wrong_60 m_results_60 m_values_60 m_states_60 m_came_60 m_boxes_60 m_single_60 m_rows_60 H locs ls hl hP hD hS h
        rw [d_Mod_open_L60] at h
        cases h
      | succ n ih =>
        intro m_decodings_60 m_failures_60 m_at_60 m_end_60 m_many_60 m_wrong_60 m_results_60 m_values_60 m_states_60 m_came_60 m_boxes_60 m_single_60 m_rows_60 H locs ls hl hP hD hS h
        rw [d_Mod_open_L60] at h
        refine lv_aload_n hx hb d_Mod_open_60 rfl (lv_at hl 0 rfl) ?_
        obtain ⟨o27, ho27, h⟩ := Option.bind_eq_some_iff.mp h
        have hKc := hK.sub (tys' := [((cs 1), .int), ((cs 2), .int), ((cs 3), .int), ((cs 4), .int), ((cs 5), .int), ((cs 6), .boolean), ((cs 7), .int), ((cs 8), .int), ((cs 9), .int), ((cs 10), .int), ((cs 11), .int), ((cs 12), .int), ((cs 13), .int)]) [0, 1, 2, 3, 4, 5, 6, 7, 8, 9, 10, 11, 12] rfl
        have hPc := hP.sub (ws' := x_Mod ad cs m_thrown m_kind m_steps m_size m_ran m_parts m_taken m_lacked m_decodings_60 m_failures_60 m_at_60 m_end_60 m_many_60 m_wrong_60 m_bytes m_heads m_numbers m_codes m_sizes m_guessed m_results_60 m_values_60 m_states_60 m_came_60 m_boxes_60 m_single_60 m_rows_60) [0, 1, 2, 3, 4, 5, 6, 7, 8, 9, 10, 11, 12, 13] rfl
        have hDc := hD.sub (ws' := x_Mod ad cs m_thrown m_kind m_steps m_size m_ran m_parts m_taken m_lacked m_decodings_60 m_failures_60 m_at_60 m_end_60 m_many_60 m_wrong_60 m_bytes m_heads m_numbers m_codes m_sizes m_guessed m_results_60 m_values_60 m_states_60 m_came_60 m_boxes_60 m_single_60 m_rows_60) [0, 1, 2, 3, 4, 5, 6, 7, 8, 9, 10, 11, 12, 13] (by decide) rfl
        have hFc := va_free (wc := x_Mod ad cs m_thrown m_kind m_steps m_size m_ran m_parts m_taken m_lacked m_decodings_60 m_failures_60 m_at_60 m_end_60 m_many_60 m_wrong_60 m_bytes m_heads m_numbers m_codes m_sizes m_guessed m_results_60 m_values_60 m_states_60 m_came_60 m_boxes_60 m_single_60 m_rows_60) hD hS hA [0, 1, 2, 3, 4, 5, 6, 7, 8, 9, 10, 11, 12, 13] rfl
        refine va_calli (va_runV (As := []) (rest := []) ⟨hx, hb, hml, hown, hB⟩ (c_Mod_goes l dC dI tt ad cs H.size N m_thrown m_kind m_steps m_size m_ran m_parts m_taken m_lacked m_decodings_60 m_failures_60 m_at_60 m_end_60 m_many_60 m_wrong_60 m_bytes m_heads m_numbers m_codes m_sizes m_guessed m_results_60 m_values_60 m_states_60 m_came_60 m_boxes_60 m_single_60 m_rows_60 o27 ho27) (cwV 0 hB (gV wd_257 wd_255 wd_254 wd_226 wd_256) rfl rfl rfl (by decide +kernel) ⟨Nat.le_of_ble_eq_true rfl, Nat.le_of_ble_eq_true rfl⟩) ⟨PreW_blind, va_recv hKc hPc (ci := 4) (q0 := 0) rfl rfl, PreW_mk hKc hPc hDc hG hS hFc⟩ rfl rfl hl.1 rfl (lv_room (Nat.le_of_ble_eq_true rfl)) d_Mod_open_61 ⟨Nat.le_of_ble_eq_true rfl, Nat.le_of_ble_eq_true rfl⟩) hS (fun q _ h => hFc q h) hFc (fun r_27 u_27 t H1 locs ht hvm hw hB hz1 hk1 hS => ?_)
        have hw := hw.symm
        subst hw
        obtain ⟨hP1, hK1, hD1⟩ := hB
        rw [ht] at hP1
        obtain ⟨hP, hD⟩ := va_join (wr := pick (x_Mod ad cs m_thrown m_kind m_steps m_size m_ran m_parts m_taken m_lacked m_decodings_60 m_failures_60 m_at_60 m_end_60 m_many_60 m_wrong_60 m_bytes m_heads m_numbers m_codes m_sizes m_guessed m_results_60 m_values_60 m_states_60 m_came_60 m_boxes_60 m_single_60 m_rows_60) []) hP hD [0, 1, 2, 3, 4, 5, 6, 7, 8, 9, 10, 11, 12, 13] [] rfl rfl (by decide) (by decide) hk1 hFc hP1 hD1
        generalize H1 = H at hP hS ⊢
        have hP : va_P (dC, dI) vwCl (x_Mod ad cs m_thrown m_kind m_steps m_size m_ran m_parts m_taken m_lacked m_decodings_60 m_failures_60 m_at_60 m_end_60 m_many_60 m_wrong_60 m_bytes m_heads m_numbers m_codes m_sizes m_guessed m_results_60 m_values_60 m_states_60 m_came_60 m_boxes_60 m_single_60 m_rows_60) H := hP.sub [0, 1, 2, 3, 4, 5, 6, 7, 8, 9, 10, 11, 12, 13] rfl
        have hD : va_D A (x_Mod ad cs m_thrown m_kind m_steps m_size m_ran m_parts m_taken m_lacked m_decodings_60 m_failures_60 m_at_60 m_end_60 m_many_60 m_wrong_60 m_bytes m_heads m_numbers m_codes m_sizes m_guessed m_results_60 m_values_60 m_states_60 m_came_60 m_boxes_60 m_single_60 m_rows_60) := hD.sub [0, 1, 2, 3, 4, 5, 6, 7, 8, 9, 10, 11, 12, 13] (by decide) rfl
        refine lv_if_eq (tgt := 143) hx hb d_Mod_open_64 (by decide) (fun c_28 => ?_) (fun c_28 => ?_)
        · have h := (if_pos c_28).symm.trans h
          have h := Option.some.inj h
          subst h
          exact X60 H locs ls (lv_sub hl [0, 1] rfl) hP hD hS
        · have h := (if_neg c_28).symm.trans h
          refine lv_aload_n hx hb d_Mod_open_67 rfl (lv_at hl 0 rfl) ?_
          refine va_get (D := (dC, dI)) (ci := 4) (v := .ref (ad 4)) (C := R_Mod) (T := T_Mod) (N := 27) hx hb hB in_Mod hown hK hP 0 rfl rfl 9 (by decide) (hB _ wd_231) (fun _ h9 => h9) rfl d_Mod_open_68 ?_
          refine lv_iload_n hx hb d_Mod_open_71 rfl (lv_at hl 1 rfl) ?_
          obtain ⟨b_29, h⟩ := gI_some h
          refine va_iald hx hb hK hP 4 3 rfl rfl b_29 d_Mod_open_72 ?_
          by_cases c_30 : (m_codes x1.toNatClampNeg) = 0
          · have h := (if_pos c_30).symm.trans h
            refine lv_tableIn (tgt := 104) hx hb d_Mod_open_73 (by rw [c_30]; decide) (by rw [c_30]; decide) (by first | (rw [c_30]; done) | (rw [c_30]; rfl)) (by decide) ?_
            refine lv_aload_n hx hb d_Mod_open_104 rfl (lv_at hl 0 rfl) ?_
            refine lv_aload_n hx hb d_Mod_open_105 rfl (lv_at hl 0 rfl) ?_
            obtain ⟨o31, ho31, h⟩ := Option.bind_eq_some_iff.mp h
            have hKc := hK.sub (tys' := [((cs 1), .int), ((cs 2), .int), ((cs 3), .int), ((cs 4), .int), ((cs 5), .int), ((cs 6), .boolean), ((cs 7), .int), ((cs 8), .int), ((cs 9), .int), ((cs 10), .int), ((cs 11), .int), ((cs 12), .int), ((cs 13), .int)]) [0, 1, 2, 3, 4, 5, 6, 7, 8, 9, 10, 11, 12] rfl
            have hPc := hP.sub (ws' := x_Mod ad cs m_thrown m_kind m_steps m_size m_ran m_parts m_taken m_lacked m_decodings_60 m_failures_60 m_at_60 m_end_60 m_many_60 m_wrong_60 m_bytes m_heads m_numbers m_codes m_sizes m_guessed m_results_60 m_values_60 m_states_60 m_came_60 m_boxes_60 m_single_60 m_rows_60) [0, 1, 2, 3, 4, 5, 6, 7, 8, 9, 10, 11, 12, 13] rfl
            have hDc := hD.sub (ws' := x_Mod ad cs m_thrown m_kind m_steps m_size m_ran m_parts m_taken m_lacked m_decodings_60 m_failures_60 m_at_60 m_end_60 m_many_60 m_wrong_60 m_bytes m_heads m_numbers m_codes m_sizes m_guessed m_results_60 m_values_60 m_states_60 m_came_60 m_boxes_60 m_single_60 m_rows_60) [0, 1, 2, 3, 4, 5, 6, 7, 8, 9, 10, 11, 12, 13] (by decide) rfl
            have hFc := va_free (wc := x_Mod ad cs m_thrown m_kind m_steps m_size m_ran m_parts m_taken m_lacked m_decodings_60 m_failures_60 m_at_60 m_end_60 m_many_60 m_wrong_60 m_bytes m_heads m_numbers m_codes m_sizes m_guessed m_results_60 m_values_60 m_states_60 m_came_60 m_boxes_60 m_single_60 m_rows_60) hD hS hA [0, 1, 2, 3, 4, 5, 6, 7, 8, 9, 10, 11, 12, 13] rfl
            refine va_calli (va_runV (As := []) (rest := [.ref (ad 0)]) ⟨hx, hb, hml, hown, hB⟩ (c_Mod_take l dC dI tt ad cs H.size N m_thrown m_kind m_steps m_size m_ran m_parts m_taken m_lacked m_decodings_60 m_failures_60 m_at_60 m_end_60 m_many_60 m_wrong_60 m_bytes m_heads m_numbers m_codes m_sizes m_guessed m_results_60 m_values_60 m_states_60 m_came_60 m_boxes_60 m_single_60 m_rows_60 o31 ho31) (cwV 0 hB (gV wd_253 wd_251 wd_250 wd_226 wd_252) rfl rfl rfl (by decide +kernel) ⟨Nat.le_of_ble_eq_true rfl, Nat.le_of_ble_eq_true rfl⟩) ⟨PreW_blind, va_recv hKc hPc (ci := 4) (q0 := 0) rfl rfl, PreW_mk hKc hPc hDc hG hS hFc⟩ rfl rfl hl.1 rfl (lv_room (Nat.le_of_ble_eq_true rfl)) d_Mod_open_106 ⟨Nat.le_of_ble_eq_true rfl, Nat.le_of_ble_eq_true rfl⟩) hS (fun q _ h => hFc q h) hFc (fun r_31 u_31 t H1 locs ht hvm hw hB hz1 hk1 hS => ?_)
            have hw := hw.symm
            subst hw
            obtain ⟨hP1, hK1, hD1⟩ := hB
            rw [ht] at hP1
            obtain ⟨hP, hD⟩ := va_join (wr := pick (x_Mod ad cs m_thrown m_kind m_steps m_size m_ran m_parts m_taken m_lacked m_decodings_60 m_failures_60 m_at_60 m_end_60 m_many_60 m_wrong_60 m_bytes m_heads m_numbers m_codes m_sizes m_guessed m_results_60 m_values_60 m_states_60 m_came_60 m_boxes_60 m_single_60 m_rows_60) []) hP hD [0, 1, 2, 3, 4, 5, 6, 7, 8, 9, 10, 11, 12, 13] [] rfl rfl (by decide) (by decide) hk1 hFc hP1 hD1
            generalize H1 = H at hP hS ⊢
            have hP : va_P (dC, dI) vwCl (x_Mod ad cs m_thrown m_kind m_steps m_size m_ran m_parts m_taken m_lacked m_decodings_60 m_failures_60 o31.2.1 m_end_60 m_many_60 o31.2.2 m_bytes m_heads m_numbers m_codes m_sizes m_guessed m_results_60 m_values_60 m_states_60 m_came_60 m_boxes_60 m_single_60 m_rows_60) H := hP.sub [0, 1, 2, 3, 4, 5, 6, 7, 8, 9, 10, 11, 12, 13] rfl
            have hD : va_D A (x_Mod ad cs m_thrown m_kind m_steps m_size m_ran m_parts m_taken m_lacked m_decodings_60 m_failures_60 o31.2.1 m_end_60 m_many_60 o31.2.2 m_bytes m_heads m_numbers m_codes m_sizes m_guessed m_results_60 m_values_60 m_states_60 m_came_60 m_boxes_60 m_single_60 m_rows_60) := hD.sub [0, 1, 2, 3, 4, 5, 6, 7, 8, 9, 10, 11, 12, 13] (by decide) rfl
            obtain ⟨o32, ho32, h⟩ := Option.bind_eq_some_iff.mp h
            have hKc := hK.sub (tys' := [((cs 1), .int), ((cs 2), .int), ((cs 3), .int), ((cs 4), .int), ((cs 5), .int), ((cs 6), .boolean), ((cs 7), .int), ((cs 8), .int), ((cs 9), .int), ((cs 10), .int), ((cs 11), .int), ((cs 12), .int), ((cs 13), .int)]) [0, 1, 2, 3, 4, 5, 6, 7, 8, 9, 10, 11, 12] rfl
            have hPc := hP.sub (ws' := x_Mod ad cs m_thrown m_kind m_steps m_size m_ran m_parts m_taken m_lacked m_decodings_60 m_failures_60 o31.2.1 m_end_60 m_many_60 o31.2.2 m_bytes m_heads m_numbers m_codes m_sizes m_guessed m_results_60 m_values_60 m_states_60 m_came_60 m_boxes_60 m_single_60 m_rows_60) [0, 1, 2, 3, 4, 5, 6, 7, 8, 9, 10, 11, 12, 13] rfl
            have hDc := hD.sub (ws' := x_Mod ad cs m_thrown m_kind m_steps m_size m_ran m_parts m_taken m_lacked m_decodings_60 m_failures_60 o31.2.1 m_end_60 m_many_60 o31.2.2 m_bytes m_heads m_numbers m_codes m_sizes m_guessed m_results_60 m_values_60 m_states_60 m_came_60 m_boxes_60 m_single_60 m_rows_60) [0, 1, 2, 3, 4, 5, 6, 7, 8, 9, 10, 11, 12, 13] (by decide) rfl
            have hFc := va_free (wc := x_Mod ad cs m_thrown m_kind m_steps m_size m_ran m_parts m_taken m_lacked m_decodings_60 m_failures_60 o31.2.1 m_end_60 m_many_60 o31.2.2 m_bytes m_heads m_numbers m_codes m_sizes m_guessed m_results_60 m_values_60 m_states_60 m_came_60 m_boxes_60 m_single_60 m_rows_60) hD hS hA [0, 1, 2, 3, 4, 5, 6, 7, 8, 9, 10, 11, 12, 13] rfl
            refine va_callv (va_runV (As := [.int o31.1]) (rest := []) ⟨hx, hb, hml, hown, hB⟩ (c_Mod_give l dC dI tt ad cs H.size N o31.1 m_thrown m_kind m_steps m_size m_ran m_parts m_taken m_lacked m_decodings_60 m_failures_60 o31.2.1 m_end_60 m_many_60 o31.2.2 m_bytes m_heads m_numbers m_codes m_sizes m_guessed m_results_60 m_values_60 m_states_60 m_came_60 m_boxes_60 m_single_60 m_rows_60 o32 ho32) (cwV 1 hB (gV wd_261 wd_259 wd_258 wd_226 wd_260) rfl rfl rfl (by decide +kernel) ⟨Nat.le_of_ble_eq_true rfl, Nat.le_of_ble_eq_true rfl⟩) ⟨PreW_blind, va_recv hKc hPc (ci := 4) (q0 := 0) rfl rfl, PreW_mk hKc hPc hDc hG hS hFc⟩ rfl rfl hl.1 rfl (lv_room (Nat.le_of_ble_eq_true rfl)) d_Mod_open_109 ⟨Nat.le_of_ble_eq_true rfl, Nat.le_of_ble_eq_true rfl⟩) hS (fun q _ h => hFc q h) hFc (fun u_32 t H1 locs ht hvm hw hB hz1 hk1 hS => ?_)
            obtain ⟨hP1, hK1, hD1⟩ := hB
            rw [ht] at hP1
            obtain ⟨hP, hD⟩ := va_join (wr := pick (x_Mod ad cs m_thrown m_kind m_steps m_size m_ran m_parts m_taken m_lacked m_decodings_60 m_failures_60 o31.2.1 m_end_60 m_many_60 o31.2.2 m_bytes m_heads m_numbers m_codes m_sizes m_guessed m_results_60 m_values_60 m_states_60 m_came_60 m_boxes_60 m_single_60 m_rows_60) []) hP hD [0, 1, 2, 3, 4, 5, 6, 7, 8, 9, 10, 11, 12, 13] [] rfl rfl (by decide) (by decide) hk1 hFc hP1 hD1
            generalize H1 = H at hP hS ⊢
            have hP : va_P (dC, dI) vwCl (x_Mod ad cs m_thrown m_kind m_steps m_size m_ran m_parts m_taken m_lacked m_decodings_60 m_failures_60 o31.2.1 m_end_60 o32.1 o31.2.2 m_bytes m_heads m_numbers m_codes m_sizes m_guessed m_results_60 m_values_60 m_states_60 o32.2 m_boxes_60 m_single_60 m_rows_60) H := hP.sub [0, 1, 2, 3, 4, 5, 6, 7, 8, 9, 10, 11, 12, 13] rfl
            have hD : va_D A (x_Mod ad cs m_thrown m_kind m_steps m_size m_ran m_parts m_taken m_lacked m_decodings_60 m_failures_60 o31.2.1 m_end_60 o32.1 o31.2.2 m_bytes m_heads m_numbers m_codes m_sizes m_guessed m_results_60 m_values_60 m_states_60 o32.2 m_boxes_60 m_single_60 m_rows_60) := hD.sub [0, 1, 2, 3, 4, 5, 6, 7, 8, 9, 10, 11, 12, 13] (by decide) rfl
            refine lv_goto (tgt := 60) hx hb d_Mod_open_112 (by decide) ?_
            exact ih m_decodings_60 m_failures_60 o31.2.1 m_end_60 o32.1 o31.2.2 m_results_60 m_values_60 m_states_60 o32.2 m_boxes_60 m_single_60 m_rows_60 H locs ls (lv_sub hl [0, 1] rfl) hP hD hS h
          have h := (if_neg c_30).symm.trans h
          by_cases c_33 : (m_codes x1.toNatClampNeg) = 1
          · have h := (if_pos c_33).symm.trans h
            refine lv_tableIn (tgt := 115) hx hb d_Mod_open_73 (by rw [c_33]; decide) (by rw [c_33]; decide) (by first | (rw [c_33]; done) | (rw [c_33]; rfl)) (by decide) ?_
            refine lv_aload_n hx hb d_Mod_open_115 rfl (lv_at hl 0 rfl) ?_
            obtain ⟨o34, ho34, h⟩ := Option.bind_eq_some_iff.mp h
            have hKc := hK.sub (tys' := [((cs 1), .int), ((cs 2), .int), ((cs 3), .int), ((cs 4), .int), ((cs 5), .int), ((cs 6), .boolean), ((cs 7), .int), ((cs 8), .int), ((cs 9), .int), ((cs 10), .int), ((cs 11), .int), ((cs 12), .int), ((cs 13), .int)]) [0, 1, 2, 3, 4, 5, 6, 7, 8, 9, 10, 11, 12] rfl
            have hPc := hP.sub (ws' := x_Mod ad cs m_thrown m_kind m_steps m_size m_ran m_parts m_taken m_lacked m_decodings_60 m_failures_60 m_at_60 m_end_60 m_many_60 m_wrong_60 m_bytes m_heads m_numbers m_codes m_sizes m_guessed m_results_60 m_values_60 m_states_60 m_came_60 m_boxes_60 m_single_60 m_rows_60) [0, 1, 2, 3, 4, 5, 6, 7, 8, 9, 10, 11, 12, 13] rfl
            have hDc := hD.sub (ws' := x_Mod ad cs m_thrown m_kind m_steps m_size m_ran m_parts m_taken m_lacked m_decodings_60 m_failures_60 m_at_60 m_end_60 m_many_60 m_wrong_60 m_bytes m_heads m_numbers m_codes m_sizes m_guessed m_results_60 m_values_60 m_states_60 m_came_60 m_boxes_60 m_single_60 m_rows_60) [0, 1, 2, 3, 4, 5, 6, 7, 8, 9, 10, 11, 12, 13] (by decide) rfl
            have hFc := va_free (wc := x_Mod ad cs m_thrown m_kind m_steps m_size m_ran m_parts m_taken m_lacked m_decodings_60 m_failures_60 m_at_60 m_end_60 m_many_60 m_wrong_60 m_bytes m_heads m_numbers m_codes m_sizes m_guessed m_results_60 m_values_60 m_states_60 m_came_60 m_boxes_60 m_single_60 m_rows_60) hD hS hA [0, 1, 2, 3, 4, 5, 6, 7, 8, 9, 10, 11, 12, 13] rfl
            refine va_callv (va_runV (As := []) (rest := []) ⟨hx, hb, hml, hown, hB⟩ (c_Mod_repeated l dC dI tt ad cs H.size N m_thrown m_kind m_steps m_size m_ran m_parts m_taken m_lacked m_decodings_60 m_failures_60 m_at_60 m_end_60 m_many_60 m_wrong_60 m_bytes m_heads m_numbers m_codes m_sizes m_guessed m_results_60 m_values_60 m_states_60 m_came_60 m_boxes_60 m_single_60 m_rows_60 o34 ho34) (cwV 0 hB (gV wd_276 wd_274 wd_273 wd_226 wd_275) rfl rfl rfl (by decide +kernel) ⟨Nat.le_of_ble_eq_true rfl, Nat.le_of_ble_eq_true rfl⟩) ⟨PreW_blind, va_recv hKc hPc (ci := 4) (q0 := 0) rfl rfl, PreW_mk hKc hPc hDc hG hS hFc⟩ rfl rfl hl.1 rfl (lv_room (Nat.le_of_ble_eq_true rfl)) d_Mod_open_116 ⟨Nat.le_of_ble_eq_true rfl, Nat.le_of_ble_eq_true rfl⟩) hS (fun q _ h => hFc q h) hFc (fun u_34 t H1 locs ht hvm hw hB hz1 hk1 hS => ?_)
            obtain ⟨hP1, hK1, hD1⟩ := hB
            rw [ht] at hP1
            obtain ⟨hP, hD⟩ := va_join (wr := pick (x_Mod ad cs m_thrown m_kind m_steps m_size m_ran m_parts m_taken m_lacked m_decodings_60 m_failures_60 m_at_60 m_end_60 m_many_60 m_wrong_60 m_bytes m_heads m_numbers m_codes m_sizes m_guessed m_results_60 m_values_60 m_states_60 m_came_60 m_boxes_60 m_single_60 m_rows_60) []) hP hD [0, 1, 2, 3, 4, 5, 6, 7, 8, 9, 10, 11, 12, 13] [] rfl rfl (by decide) (by decide) hk1 hFc hP1 hD1
            generalize H1 = H at hP hS ⊢
            have hP : va_P (dC, dI) vwCl (x_Mod ad cs m_thrown m_kind m_steps m_size m_ran m_parts m_taken m_lacked m_decodings_60 m_failures_60 o34.1 m_end_60 o34.2.1 o34.2.2.1 m_bytes m_heads m_numbers m_codes m_sizes m_guessed m_results_60 m_values_60 m_states_60 o34.2.2.2 m_boxes_60 m_single_60 m_rows_60) H := hP.sub [0, 1, 2, 3, 4, 5, 6, 7, 8, 9, 10, 11, 12, 13] rfl
            have hD : va_D A (x_Mod ad cs m_thrown m_kind m_steps m_size m_ran m_parts m_taken m_lacked m_decodings_60 m_failures_60 o34.1 m_end_60 o34.2.1 o34.2.2.1 m_bytes m_heads m_numbers m_codes m_sizes m_guessed m_results_60 m_values_60 m_states_60 o34.2.2.2 m_boxes_60 m_single_60 m_rows_60) := hD.sub [0, 1, 2, 3, 4, 5, 6, 7, 8, 9, 10, 11, 12, 13] (by decide) rfl
            refine lv_goto (tgt := 60) hx hb d_Mod_open_119 (by decide) ?_
            exact ih m_decodings_60 m_failures_60 o34.1 m_end_60 o34.2.1 o34.2.2.1 m_results_60 m_values_60 m_states_60 o34.2.2.2 m_boxes_60 m_single_60 m_rows_60 H locs ls (lv_sub hl [0, 1] rfl) hP hD hS h
          have h := (if_neg c_33).symm.trans h
          by_cases c_35 : (m_codes x1.toNatClampNeg) = 2
          · have h := (if_pos c_35).symm.trans h
            refine lv_tableIn (tgt := 122) hx hb d_Mod_open_73 (by rw [c_35]; decide) (by rw [c_35]; decide) (by first | (rw [c_35]; done) | (rw [c_35]; rfl)) (by decide) ?_
            refine lv_aload_n hx hb d_Mod_open_122 rfl (lv_at hl 0 rfl) ?_
            obtain ⟨o36, ho36, h⟩ := Option.bind_eq_some_iff.mp h
            have hKc := hK.sub (tys' := [((cs 1), .int), ((cs 2), .int), ((cs 3), .int), ((cs 4), .int), ((cs 5), .int), ((cs 6), .boolean), ((cs 7), .int), ((cs 8), .int), ((cs 9), .int), ((cs 10), .int), ((cs 11), .int), ((cs 12), .int), ((cs 13), .int)]) [0, 1, 2, 3, 4, 5, 6, 7, 8, 9, 10, 11, 12] rfl
            have hPc := hP.sub (ws' := x_Mod ad cs m_thrown m_kind m_steps m_size m_ran m_parts m_taken m_lacked m_decodings_60 m_failures_60 m_at_60 m_end_60 m_many_60 m_wrong_60 m_bytes m_heads m_numbers m_codes m_sizes m_guessed m_results_60 m_values_60 m_states_60 m_came_60 m_boxes_60 m_single_60 m_rows_60) [0, 1, 2, 3, 4, 5, 6, 7, 8, 9, 10, 11, 12, 13] rfl
            have hDc := hD.sub (ws' := x_Mod ad cs m_thrown m_kind m_steps m_size m_ran m_parts m_taken m_lacked m_decodings_60 m_failures_60 m_at_60 m_end_60 m_many_60 m_wrong_60 m_bytes m_heads m_numbers m_codes m_sizes m_guessed m_results_60 m_values_60 m_states_60 m_came_60 m_boxes_60 m_single_60 m_rows_60) [0, 1, 2, 3, 4, 5, 6, 7, 8, 9, 10, 11, 12, 13] (by decide) rfl
            have hFc := va_free (wc := x_Mod ad cs m_thrown m_kind m_steps m_size m_ran m_parts m_taken m_lacked m_decodings_60 m_failures_60 m_at_60 m_end_60 m_many_60 m_wrong_60 m_bytes m_heads m_numbers m_codes m_sizes m_guessed m_results_60 m_values_60 m_states_60 m_came_60 m_boxes_60 m_single_60 m_rows_60) hD hS hA [0, 1, 2, 3, 4, 5, 6, 7, 8, 9, 10, 11, 12, 13] rfl
            refine va_callv (va_runV (As := []) (rest := []) ⟨hx, hb, hml, hown, hB⟩ (c_Mod_divided l dC dI tt ad cs H.size N m_thrown m_kind m_steps m_size m_ran m_parts m_taken m_lacked m_decodings_60 m_failures_60 m_at_60 m_end_60 m_many_60 m_wrong_60 m_bytes m_heads m_numbers m_codes m_sizes m_guessed m_results_60 m_values_60 m_states_60 m_came_60 m_boxes_60 m_single_60 m_rows_60 o36 ho36) (cwV 0 hB (gV wd_280 wd_278 wd_277 wd_226 wd_279) rfl rfl rfl (by decide +kernel) ⟨Nat.le_of_ble_eq_true rfl, Nat.le_of_ble_eq_true rfl⟩) ⟨PreW_blind, va_recv hKc hPc (ci := 4) (q0 := 0) rfl rfl, PreW_mk hKc hPc hDc hG hS hFc⟩ rfl rfl hl.1 rfl (lv_room (Nat.le_of_ble_eq_true rfl)) d_Mod_open_123 ⟨Nat.le_of_ble_eq_true rfl, Nat.le_of_ble_eq_true rfl⟩) hS (fun q _ h => hFc q h) hFc (fun u_36 t H1 locs ht hvm hw hB hz1 hk1 hS => ?_)
            obtain ⟨hP1, hK1, hD1⟩ := hB
            rw [ht] at hP1
            obtain ⟨hP, hD⟩ := va_join (wr := pick (x_Mod ad cs m_thrown m_kind m_steps m_size m_ran m_parts m_taken m_lacked m_decodings_60 m_failures_60 m_at_60 m_end_60 m_many_60 m_wrong_60 m_bytes m_heads m_numbers m_codes m_sizes m_guessed m_results_60 m_values_60 m_states_60 m_came_60 m_boxes_60 m_single_60 m_rows_60) []) hP hD [0, 1, 2, 3, 4, 5, 6, 7, 8, 9, 10, 11, 12, 13] [] rfl rfl (by decide) (by decide) hk1 hFc hP1 hD1
            generalize H1 = H at hP hS ⊢
            have hP : va_P (dC, dI) vwCl (x_Mod ad cs m_thrown m_kind m_steps m_size m_ran m_parts m_taken m_lacked m_decodings_60 m_failures_60 o36.1 m_end_60 o36.2.1 o36.2.2.1 m_bytes m_heads m_numbers m_codes m_sizes m_guessed m_results_60 m_values_60 m_states_60 o36.2.2.2 m_boxes_60 m_single_60 m_rows_60) H := hP.sub [0, 1, 2, 3, 4, 5, 6, 7, 8, 9, 10, 11, 12, 13] rfl
            have hD : va_D A (x_Mod ad cs m_thrown m_kind m_steps m_size m_ran m_parts m_taken m_lacked m_decodings_60 m_failures_60 o36.1 m_end_60 o36.2.1 o36.2.2.1 m_bytes m_heads m_numbers m_codes m_sizes m_guessed m_results_60 m_values_60 m_states_60 o36.2.2.2 m_boxes_60 m_single_60 m_rows_60) := hD.sub [0, 1, 2, 3, 4, 5, 6, 7, 8, 9, 10, 11, 12, 13] (by decide) rfl
            refine lv_goto (tgt := 60) hx hb d_Mod_open_126 (by decide) ?_
            exact ih m_decodings_60 m_failures_60 o36.1 m_end_60 o36.2.1 o36.2.2.1 m_results_60 m_values_60 m_states_60 o36.2.2.2 m_boxes_60 m_single_60 m_rows_60 H locs ls (lv_sub hl [0, 1] rfl) hP hD hS h
          have h := (if_neg c_35).symm.trans h
          by_cases c_37 : (m_codes x1.toNatClampNeg) = 3
          · have h := (if_pos c_37).symm.trans h
            refine lv_tableIn (tgt := 129) hx hb d_Mod_open_73 (by rw [c_37]; decide) (by rw [c_37]; decide) (by first | (rw [c_37]; done) | (rw [c_37]; rfl)) (by decide) ?_
            refine lv_aload_n hx hb d_Mod_open_129 rfl (lv_at hl 0 rfl) ?_
            obtain ⟨o38, ho38, h⟩ := Option.bind_eq_some_iff.mp h
            have hKc := hK.sub (tys' := [((cs 1), .int), ((cs 2), .int), ((cs 3), .int), ((cs 4), .int), ((cs 5), .int), ((cs 6), .boolean), ((cs 7), .int), ((cs 8), .int), ((cs 9), .int), ((cs 10), .int), ((cs 11), .int), ((cs 12), .int), ((cs 13), .int)]) [0, 1, 2, 3, 4, 5, 6, 7, 8, 9, 10, 11, 12] rfl
            have hPc := hP.sub (ws' := x_Mod ad cs m_thrown m_kind m_steps m_size m_ran m_parts m_taken m_lacked m_decodings_60 m_failures_60 m_at_60 m_end_60 m_many_60 m_wrong_60 m_bytes m_heads m_numbers m_codes m_sizes m_guessed m_results_60 m_values_60 m_states_60 m_came_60 m_boxes_60 m_single_60 m_rows_60) [0, 1, 2, 3, 4, 5, 6, 7, 8, 9, 10, 11, 12, 13] rfl
            have hDc := hD.sub (ws' := x_Mod ad cs m_thrown m_kind m_steps m_size m_ran m_parts m_taken m_lacked m_decodings_60 m_failures_60 m_at_60 m_end_60 m_many_60 m_wrong_60 m_bytes m_heads m_numbers m_codes m_sizes m_guessed m_results_60 m_values_60 m_states_60 m_came_60 m_boxes_60 m_single_60 m_rows_60) [0, 1, 2, 3, 4, 5, 6, 7, 8, 9, 10, 11, 12, 13] (by decide) rfl
            have hFc := va_free (wc := x_Mod ad cs m_thrown m_kind m_steps m_size m_ran m_parts m_taken m_lacked m_decodings_60 m_failures_60 m_at_60 m_end_60 m_many_60 m_wrong_60 m_bytes m_heads m_numbers m_codes m_sizes m_guessed m_results_60 m_values_60 m_states_60 m_came_60 m_boxes_60 m_single_60 m_rows_60) hD hS hA [0, 1, 2, 3, 4, 5, 6, 7, 8, 9, 10, 11, 12, 13] rfl
            refine va_callv (va_runV (As := []) (rest := []) ⟨hx, hb, hml, hown, hB⟩ (c_Mod_boxed l dC dI tt ad cs H.size N m_thrown m_kind m_steps m_size m_ran m_parts m_taken m_lacked m_decodings_60 m_failures_60 m_at_60 m_end_60 m_many_60 m_wrong_60 m_bytes m_heads m_numbers m_codes m_sizes m_guessed m_results_60 m_values_60 m_states_60 m_came_60 m_boxes_60 m_single_60 m_rows_60 o38 ho38) (cwV 0 hB (gV wd_284 wd_282 wd_281 wd_226 wd_283) rfl rfl rfl (by decide +kernel) ⟨Nat.le_of_ble_eq_true rfl, Nat.le_of_ble_eq_true rfl⟩) ⟨PreW_blind, va_recv hKc hPc (ci := 4) (q0 := 0) rfl rfl, PreW_mk hKc hPc hDc hG hS hFc⟩ rfl rfl hl.1 rfl (lv_room (Nat.le_of_ble_eq_true rfl)) d_Mod_open_130 ⟨Nat.le_of_ble_eq_true rfl, Nat.le_of_ble_eq_true rfl⟩) hS (fun q _ h => hFc q h) hFc (fun u_38 t H1 locs ht hvm hw hB hz1 hk1 hS => ?_)
            obtain ⟨hP1, hK1, hD1⟩ := hB
            rw [ht] at hP1
            obtain ⟨hP, hD⟩ := va_join (wr := pick (x_Mod ad cs m_thrown m_kind m_steps m_size m_ran m_parts m_taken m_lacked m_decodings_60 m_failures_60 m_at_60 m_end_60 m_many_60 m_wrong_60 m_bytes m_heads m_numbers m_codes m_sizes m_guessed m_results_60 m_values_60 m_states_60 m_came_60 m_boxes_60 m_single_60 m_rows_60) []) hP hD [0, 1, 2, 3, 4, 5, 6, 7, 8, 9, 10, 11, 12, 13] [] rfl rfl (by decide) (by decide) hk1 hFc hP1 hD1
            generalize H1 = H at hP hS ⊢
            have hP : va_P (dC, dI) vwCl (x_Mod ad cs m_thrown m_kind m_steps m_size m_ran m_parts m_taken m_lacked m_decodings_60 m_failures_60 o38.1 m_end_60 o38.2.1 o38.2.2.1 m_bytes m_heads m_numbers m_codes m_sizes m_guessed m_results_60 m_values_60 m_states_60 o38.2.2.2.1 o38.2.2.2.2.1 o38.2.2.2.2.2.1 o38.2.2.2.2.2.2) H := hP.sub [0, 1, 2, 3, 4, 5, 6, 7, 8, 9, 10, 11, 12, 13] rfl
            have hD : va_D A (x_Mod ad cs m_thrown m_kind m_steps m_size m_ran m_parts m_taken m_lacked m_decodings_60 m_failures_60 o38.1 m_end_60 o38.2.1 o38.2.2.1 m_bytes m_heads m_numbers m_codes m_sizes m_guessed m_results_60 m_values_60 m_states_60 o38.2.2.2.1 o38.2.2.2.2.1 o38.2.2.2.2.2.1 o38.2.2.2.2.2.2) := hD.sub [0, 1, 2, 3, 4, 5, 6, 7, 8, 9, 10, 11, 12, 13] (by decide) rfl
            refine lv_goto (tgt := 60) hx hb d_Mod_open_133 (by decide) ?_
            exact ih m_decodings_60 m_failures_60 o38.1 m_end_60 o38.2.1 o38.2.2.1 m_results_60 m_values_60 m_states_60 o38.2.2.2.1 o38.2.2.2.2.1 o38.2.2.2.2.2.1 o38.2.2.2.2.2.2 H locs ls (lv_sub hl [0, 1] rfl) hP hD hS h
          have h := (if_neg c_37).symm.trans h
          refine lv_tableOut (tgt := 136) hx hb d_Mod_open_73 (by have e0 := lv_neT (a := 0) c_30 (by decide); have e1 := lv_neT (a := 1) c_33 (by decide); have e2 := lv_neT (a := 2) c_35 (by decide); have e3 := lv_neT (a := 3) c_37 (by decide); omega) (by decide) ?_
          refine lv_aload_n hx hb d_Mod_open_136 rfl (lv_at hl 0 rfl) ?_
          obtain ⟨o39, ho39, h⟩ := Option.bind_eq_some_iff.mp h
          have hKc := hK.sub (tys' := [((cs 1), .int), ((cs 2), .int), ((cs 3), .int), ((cs 4), .int), ((cs 5), .int), ((cs 6), .boolean), ((cs 7), .int), ((cs 8), .int), ((cs 9), .int), ((cs 10), .int), ((cs 11), .int), ((cs 12), .int), ((cs 13), .int)]) [0, 1, 2, 3, 4, 5, 6, 7, 8, 9, 10, 11, 12] rfl
          have hPc := hP.sub (ws' := x_Mod ad cs m_thrown m_kind m_steps m_size m_ran m_parts m_taken m_lacked m_decodings_60 m_failures_60 m_at_60 m_end_60 m_many_60 m_wrong_60 m_bytes m_heads m_numbers m_codes m_sizes m_guessed m_results_60 m_values_60 m_states_60 m_came_60 m_boxes_60 m_single_60 m_rows_60) [0, 1, 2, 3, 4, 5, 6, 7, 8, 9, 10, 11, 12, 13] rfl
          have hDc := hD.sub (ws' := x_Mod ad cs m_thrown m_kind m_steps m_size m_ran m_parts m_taken m_lacked m_decodings_60 m_failures_60 m_at_60 m_end_60 m_many_60 m_wrong_60 m_bytes m_heads m_numbers m_codes m_sizes m_guessed m_results_60 m_values_60 m_states_60 m_came_60 m_boxes_60 m_single_60 m_rows_60) [0, 1, 2, 3, 4, 5, 6, 7, 8, 9, 10, 11, 12, 13] (by decide) rfl
          have hFc := va_free (wc := x_Mod ad cs m_thrown m_kind m_steps m_size m_ran m_parts m_taken m_lacked m_decodings_60 m_failures_60 m_at_60 m_end_60 m_many_60 m_wrong_60 m_bytes m_heads m_numbers m_codes m_sizes m_guessed m_results_60 m_values_60 m_states_60 m_came_60 m_boxes_60 m_single_60 m_rows_60) hD hS hA [0, 1, 2, 3, 4, 5, 6, 7, 8, 9, 10, 11, 12, 13] rfl
          refine va_callv (va_runV (As := []) (rest := []) ⟨hx, hb, hml, hown, hB⟩ (c_Mod_differing l dC dI tt ad cs H.size N m_thrown m_kind m_steps m_size m_ran m_parts m_taken m_lacked m_decodings_60 m_failures_60 m_at_60 m_end_60 m_many_60 m_wrong_60 m_bytes m_heads m_numbers m_codes m_sizes m_guessed m_results_60 m_values_60 m_states_60 m_came_60 m_boxes_60 m_single_60 m_rows_60 o39 ho39) (cwV 0 hB (gV wd_288 wd_286 wd_285 wd_226 wd_287) rfl rfl rfl (by decide +kernel) ⟨Nat.le_of_ble_eq_true rfl, Nat.le_of_ble_eq_true rfl⟩) ⟨PreW_blind, va_recv hKc hPc (ci := 4) (q0 := 0) rfl rfl, PreW_mk hKc hPc hDc hG hS hFc⟩ rfl rfl hl.1 rfl (lv_room (Nat.le_of_ble_eq_true rfl)) d_Mod_open_137 ⟨Nat.le_of_ble_eq_true rfl, Nat.le_of_ble_eq_true rfl⟩) hS (fun q _ h => hFc q h) hFc (fun u_39 t H1 locs ht hvm hw hB hz1 hk1 hS => ?_)
          obtain ⟨hP1, hK1, hD1⟩ := hB
          rw [ht] at hP1
          obtain ⟨hP, hD⟩ := va_join (wr := pick (x_Mod ad cs m_thrown m_kind m_steps m_size m_ran m_parts m_taken m_lacked m_decodings_60 m_failures_60 m_at_60 m_end_60 m_many_60 m_wrong_60 m_bytes m_heads m_numbers m_codes m_sizes m_guessed m_results_60 m_values_60 m_states_60 m_came_60 m_boxes_60 m_single_60 m_rows_60) []) hP hD [0, 1, 2, 3, 4, 5, 6, 7, 8, 9, 10, 11, 12, 13] [] rfl rfl (by decide) (by decide) hk1 hFc hP1 hD1
          generalize H1 = H at hP hS ⊢
          have hP : va_P (dC, dI) vwCl (x_Mod ad cs m_thrown m_kind m_steps m_size m_ran m_parts m_taken m_lacked m_decodings_60 m_failures_60 o39.1 m_end_60 o39.2.1 o39.2.2.1 m_bytes m_heads m_numbers m_codes m_sizes m_guessed m_results_60 m_values_60 m_states_60 o39.2.2.2 m_boxes_60 m_single_60 m_rows_60) H := hP.sub [0, 1, 2, 3, 4, 5, 6, 7, 8, 9, 10, 11, 12, 13] rfl
          have hD : va_D A (x_Mod ad cs m_thrown m_kind m_steps m_size m_ran m_parts m_taken m_lacked m_decodings_60 m_failures_60 o39.1 m_end_60 o39.2.1 o39.2.2.1 m_bytes m_heads m_numbers m_codes m_sizes m_guessed m_results_60 m_values_60 m_states_60 o39.2.2.2 m_boxes_60 m_single_60 m_rows_60) := hD.sub [0, 1, 2, 3, 4, 5, 6, 7, 8, 9, 10, 11, 12, 13] (by decide) rfl
          refine lv_goto (tgt := 60) hx hb d_Mod_open_140 (by decide) ?_
          exact ih m_decodings_60 m_failures_60 o39.1 m_end_60 o39.2.1 o39.2.2.1 m_results_60 m_values_60 m_states_60 o39.2.2.2 m_boxes_60 m_single_60 m_rows_60 H locs ls (lv_sub hl [0, 1] rfl) hP hD hS h
    exact L60 N s40.1 s40.2.1 s40.2.2.1 s40.2.2.2.1 s40.2.2.2.2.1 s40.2.2.2.2.2.1 s40.2.2.2.2.2.2.1 s40.2.2.2.2.2.2.2.1 s40.2.2.2.2.2.2.2.2.1 s40.2.2.2.2.2.2.2.2.2.1 s40.2.2.2.2.2.2.2.2.2.2.1 s40.2.2.2.2.2.2.2.2.2.2.2.1 s40.2.2.2.2.2.2.2.2.2.2.2.2 _ _ ls (lv_sub hl [0, 1] rfl) hP hD hS hs60
  have L40 : ∀ (n : Nat) (y40_2 : Int32) (m_decodings_40 : Int32) (m_failures_40 : Int32) (m_at_40 : Int32) (m_end_40 : Int32) (m_many_40 : Int32) (m_wrong_40 : Int32) (m_results_40 : Nat → Int32) (m_values_40 : Nat → Int32) (m_states_40 : Nat → Int32) (m_came_40 : Nat → Int32) (m_boxes_40 : Nat → Int32) (m_single_40 : Nat → Int32) (m_rows_40 : Nat → Int32) (H : Heap) (locs : List Loc) (ls : Array Slot), lv_has ls 4 [(0, .ref (ad 0)), (1, .int x1), (2, .int y40_2)] → va_P (dC, dI) vwCl (x_Mod ad cs m_thrown m_kind m_steps m_size m_ran m_parts m_taken m_lacked m_decodings_40 m_failures_40 m_at_40 m_end_40 m_many_40 m_wrong_40 m_bytes m_heads m_numbers m_codes m_sizes m_guessed m_results_40 m_values_40 m_states_40 m_came_40 m_boxes_40 m_single_40 m_rows_40) H → va_D A (x_Mod ad cs m_thrown m_kind m_steps m_size m_ran m_parts m_taken m_lacked m_decodings_40 m_failures_40 m_at_40 m_end_40 m_many_40 m_wrong_40 m_bytes m_heads m_numbers m_codes m_sizes m_guessed m_results_40 m_values_40 m_states_40 m_came_40 m_boxes_40 m_single_40 m_rows_40) → va_S A s.heap H locs → d_Mod_open_L40 N x1 m_bytes m_heads m_numbers m_codes m_sizes m_guessed n y40_2 m_decodings_40 m_failures_40 m_at_40 m_end_40 m_many_40 m_wrong_40 m_results_40 m_values_40 m_states_40 m_came_40 m_boxes_40 m_single_40 m_rows_40 = some s40 → W p l e (headSpec (w_Mod_open) rm_Mod_open).room s m ([.ref (ad 0), .int x1] : List Value).toArray below meth c H locs 0 0 (MQ below (va_Qi (fun (r : Int32) (_ : Unit) => r = out.1) (fun _ => AftW (dC, dI) [((cs 1), .int), ((cs 2), .int), ((cs 3), .int), ((cs 4), .int), ((cs 5), .int), ((cs 6), .boolean), ((cs 7), .int), ((cs 8), .int), ((cs 9), .int), ((cs 10), .int), ((cs 11), .int), ((cs 12), .int), ((cs 13), .int)] A (x_Mod ad cs m_thrown m_kind m_steps m_size m_ran m_parts m_taken m_lacked out.2.1 out.2.2.1 out.2.2.2.1 out.2.2.2.2.1 out.2.2.2.2.2.1 out.2.2.2.2.2.2.1 m_bytes m_heads m_numbers m_codes m_sizes m_guessed out.2.2.2.2.2.2.2.1 out.2.2.2.2.2.2.2.2.1 out.2.2.2.2.2.2.2.2.2.1 out.2.2.2.2.2.2.2.2.2.2.1 out.2.2.2.2.2.2.2.2.2.2.2.1 out.2.2.2.2.2.2.2.2.2.2.2.2.1 out.2.2.2.2.2.2.2.2.2.2.2.2.2)) A) ([.ref (ad 0), .int x1] : List Value).toArray s 0 0 A) (F0 m 40 ls []) := by
    intro n
    induction n with
    | zero =>
      intro y40_2 m_decodings_40 m_failures_40 m_at_40 m_end_40 m_many_40 m_wrong_40 m_results_40 m_values_40 m_states_40 m_came_40 m_boxes_40 m_single_40 m_rows_40 H locs ls hl hP hD hS h
      rw [d_Mod_open_L40] at h
      cases h
    | succ n ih =>
      intro y40_2 m_decodings_40 m_failures_40 m_at_40 m_end_40 m_many_40 m_wrong_40 m_results_40 m_values_40 m_states_40 m_came_40 m_boxes_40 m_single_40 m_rows_40 H locs ls hl hP hD hS h
      rw [d_Mod_open_L40] at h
      refine lv_iload_n hx hb d_Mod_open_40 rfl (lv_at hl 2 rfl) ?_
      refine lv_bipush (v := 8) hx hb d_Mod_open_41 (by decide) ?_
      refine lv_icmp_ge (tgt := 60) hx hb d_Mod_open_43 (by decide) (fun c_40 => ?_) (fun c_40 => ?_)
      · have h := (if_pos c_40).symm.trans h
        have h := Option.some.inj h
        subst h
        exact X40 H locs ls (lv_sub hl [0, 1] rfl) hP hD hS
      · have h := (if_neg c_40).symm.trans h
        refine lv_aload_n hx hb d_Mod_open_46 rfl (lv_at hl 0 rfl) ?_
        refine va_get (D := (dC, dI)) (ci := 4) (v := .ref (ad 11)) (C := R_Mod) (T := T_Mod) (N := 27) hx hb hB in_Mod hown hK hP 0 rfl rfl 24 (by decide) (hB _ wd_262) (fun _ h9 => h9) rfl d_Mod_open_47 ?_
        refine lv_iload_n hx hb d_Mod_open_50 rfl (lv_at hl 2 rfl) ?_
        refine lv_bipush (v := (-2)) hx hb d_Mod_open_51 (by decide) ?_
        obtain ⟨b_41, h⟩ := gI_some h
        refine va_iast hx hb hK hP hD hS 11 10 rfl rfl b_41 d_Mod_open_53 (fun H locs hP hD hS => ?_)
        have hP : va_P (dC, dI) vwCl (x_Mod ad cs m_thrown m_kind m_steps m_size m_ran m_parts m_taken m_lacked m_decodings_40 m_failures_40 m_at_40 m_end_40 m_many_40 m_wrong_40 m_bytes m_heads m_numbers m_codes m_sizes m_guessed m_results_40 m_values_40 m_states_40 m_came_40 (upd m_boxes_40 y40_2.toNatClampNeg (-2 : Int32)) m_single_40 m_rows_40) H := hP
        have hD : va_D A (x_Mod ad cs m_thrown m_kind m_steps m_size m_ran m_parts m_taken m_lacked m_decodings_40 m_failures_40 m_at_40 m_end_40 m_many_40 m_wrong_40 m_bytes m_heads m_numbers m_codes m_sizes m_guessed m_results_40 m_values_40 m_states_40 m_came_40 (upd m_boxes_40 y40_2.toNatClampNeg (-2 : Int32)) m_single_40 m_rows_40) := hD
        refine lv_iinc (v := y40_2 + 1) (lv' := [(2, .int (y40_2 + 1)), (0, .ref (ad 0)), (1, .int x1)]) hx hb d_Mod_open_54 hl (k := 2) rfl rfl (by decide) rfl (fun ls hl => ?_)
        refine lv_goto (tgt := 40) hx hb d_Mod_open_57 (by decide) ?_
        exact ih (y40_2 + 1) m_decodings_40 m_failures_40 m_at_40 m_end_40 m_many_40 m_wrong_40 m_results_40 m_values_40 m_states_40 m_came_40 (upd m_boxes_40 y40_2.toNatClampNeg (-2 : Int32)) m_single_40 m_rows_40 H locs ls (lv_sub hl [1, 2, 0] rfl) hP hD hS h
  exact L40 N (0 : Int32) m_decodings m_failures ((m_heads x1.toNatClampNeg) + (6 : Int32)) (((m_heads x1.toNatClampNeg) + (6 : Int32)) + (m_sizes x1.toNatClampNeg)) (0 : Int32) (0 : Int32) m_results m_values m_states m_came m_boxes m_single m_rows _ _ ls (lv_sub hl [1, 2, 0] rfl) hP hD hS hs40
def d_Mod_meant (N : Nat) (x1 : Int32) (m_values : Nat → Int32) : Option (Int32) :=
 if (x1 - x1 / (16 : Int32) * (16 : Int32)) ≤ 0 then if x1 < (16 : Int32) then some (128 : Int32) else gI (x1 - (16 : Int32)) 256 (some ((0 : Int32) + (m_values (x1 - (16 : Int32)).toNatClampNeg))) else if x1 < (16 : Int32) then gI (x1 - (1 : Int32)) 256 (some ((m_values (x1 - (1 : Int32)).toNatClampNeg) + (0 : Int32))) else gI (x1 - (1 : Int32)) 256 (gI (x1 - (16 : Int32)) 256 (some (((m_values (x1 - (1 : Int32)).toNatClampNeg) + (m_values (x1 - (16 : Int32)).toNatClampNeg)) / (2 : Int32))))
abbrev rm_Mod_meant : Room := { frames := 0, cells := 0, slots := 0, locals := 0 }
set_option maxHeartbeats 4000000 in
set_option maxRecDepth 100000 in
theorem c_Mod_meant (l : Launch) (dC : Nat → ClassId) (dI : Nat → Nat → Nat) (tt : Nat → Nat) (ad : Nat → Nat) (cs : Nat → ClassId) (sz N : Nat) (x1 : Int32) (m_thrown : Int32) (m_kind : Int32) (m_steps : Int32) (m_size : Int32) (m_ran : Int32) (m_parts : Int32) (m_taken : Int32) (m_lacked : Int32) (m_decodings : Int32) (m_failures : Int32) (m_at : Int32) (m_end : Int32) (m_many : Int32) (m_wrong : Int32) (m_bytes : Nat → Int32) (m_heads : Nat → Int32) (m_numbers : Nat → Int32) (m_codes : Nat → Int32) (m_sizes : Nat → Int32) (m_guessed : Nat → Int32) (m_results : Nat → Int32) (m_values : Nat → Int32) (m_states : Nat → Int32) (m_came : Nat → Int32) (m_boxes : Nat → Int32) (m_single : Nat → Int32) (m_rows : Nat → Int32) (out : Int32) (h : d_Mod_meant N x1 m_values = some out) :
    Met l y_Mod_meant (w_Mod_meant) rm_Mod_meant (va_Pc [.ref (ad 0), .int x1] (PreW (dC, dI) [((cs 1), .int), ((cs 2), .int), ((cs 3), .int), ((cs 4), .int), ((cs 5), .int), ((cs 6), .boolean), ((cs 7), .int), ((cs 8), .int), ((cs 9), .int), ((cs 10), .int), ((cs 11), .int), ((cs 12), .int), ((cs 13), .int)] (x_Mod ad cs m_thrown m_kind m_steps m_size m_ran m_parts m_taken m_lacked m_decodings m_failures m_at m_end m_many m_wrong m_bytes m_heads m_numbers m_codes m_sizes m_guessed m_results m_values m_states m_came m_boxes m_single m_rows) sz tt)) (va_Qi (fun (r : Int32) (_ : Unit) => r = out) (fun _ => AftW (dC, dI) [((cs 1), .int), ((cs 2), .int), ((cs 3), .int), ((cs 4), .int), ((cs 5), .int), ((cs 6), .boolean), ((cs 7), .int), ((cs 8), .int), ((cs 9), .int), ((cs 10), .int), ((cs 11), .int), ((cs 12), .int), ((cs 13), .int)] (va_A (x_Mod ad cs m_thrown m_kind m_steps m_size m_ran m_parts m_taken m_lacked m_decodings m_failures m_at m_end m_many m_wrong m_bytes m_heads m_numbers m_codes m_sizes m_guessed m_results m_values m_states m_came m_boxes m_single m_rows) sz) (x_Mod ad cs m_thrown m_kind m_steps m_size m_ran m_parts m_taken m_lacked m_decodings m_failures m_at m_end m_many m_wrong m_bytes m_heads m_numbers m_codes m_sizes m_guessed m_results m_values m_states m_came m_boxes m_single m_rows)) (va_A (x_Mod ad cs m_thrown m_kind m_steps m_size m_ran m_parts m_taken m_lacked m_decodings m_failures m_at m_end m_many m_wrong m_bytes m_heads m_numbers m_codes m_sizes m_guessed m_results m_values m_states m_came m_boxes m_single m_rows) sz)) 0 0 (va_A (x_Mod ad cs m_thrown m_kind m_steps m_size m_ran m_parts m_taken m_lacked m_decodings m_failures m_at m_end m_many m_wrong m_bytes m_heads m_numbers m_codes m_sizes m_guessed m_results m_values m_states m_came m_boxes m_single m_rows) sz) := by
  refine Met.ofW (cc := k_Mod_meant) (maxL := 5) (ret := (some .int)) (by decide) rfl ?_
  intro p e s m args below meth c s₁ B hml hv
  obtain ⟨rfl, hsz, hP, hK, hD0, hG⟩ := hv
  have hx := B.exec
  have hb := B.bytes
  have hr := B.returns
  have hts := atoms_spec (ws := (w_Mod_meant)) B.pre
  have hB : ∀ w ∈ BIG, w.before _ s = true := fun w h9 => hts w (List.mem_cons_of_mem _ h9)
  have hown : s.vm.findClass R_Mod = some m.cls := findClass_of_methodNamed B.named
  have hlocks := B.notSynchronized
  subst hsz
  have hD := hD0.self (sz := s.heap.size)
  generalize hAe : va_A (x_Mod ad cs m_thrown m_kind m_steps m_size m_ran m_parts m_taken m_lacked m_decodings m_failures m_at m_end m_many m_wrong m_bytes m_heads m_numbers m_codes m_sizes m_guessed m_results m_values m_states m_came m_boxes m_single m_rows) s.heap.size = A at hD hG ⊢
  have hA : ∀ q : Nat, s.heap.size ≤ q → A q := fun q h => by rw [← hAe]; exact Or.inr h
  have hS : va_S A s.heap s.heap [] := va_S.rf
  have hl := lv_entry ([.ref (ad 0), .int x1]) (n := 5) (Nat.le_of_ble_eq_true rfl)
  rw [lg_entry_eq]
  generalize (lg_sl ([.ref (ad 0), .int x1]) ++ List.replicate (5 - (lg_sl ([.ref (ad 0), .int x1])).length) Slot.unset).toArray = ls at hl ⊢
  have hl : lv_has ls 5 [(0, .ref (ad 0)), (1, .int x1)] := hl
  unfold d_Mod_meant at h
  refine lv_iload_n hx hb d_Mod_meant_0 rfl (lv_at hl 1 rfl) ?_
  refine lv_bipush (v := 16) hx hb d_Mod_meant_1 (by decide) ?_
  refine lv_irem hx hb d_Mod_meant_3 (by decide) ?_
  refine lv_if_le (tgt := 11) hx hb d_Mod_meant_4 (by decide) (fun c_1 => ?_) (fun c_1 => ?_)
  · have h := (if_pos c_1).symm.trans h
    refine lv_iconst (v := 0) hx hb d_Mod_meant_11 (by decide) ?_
    refine lv_istore_n (lv' := [(2, .int (0 : Int32)), (0, .ref (ad 0)), (1, .int x1)]) hx hb d_Mod_meant_12 rfl hl (by decide) rfl (fun ls hl => ?_)
    refine lv_iload_n hx hb d_Mod_meant_13 rfl (lv_at hl 2 rfl) ?_
    refine lv_bipush (v := 16) hx hb d_Mod_meant_14 (by decide) ?_
    refine lv_icmp_lt (tgt := 23) hx hb d_Mod_meant_16 (by decide) (fun c_2 => ?_) (fun c_2 => ?_)
    · have h := (if_pos c_2).symm.trans h
      refine lv_iconst (v := 0) hx hb d_Mod_meant_23 (by decide) ?_
      refine lv_istore_n (lv' := [(3, .int (0 : Int32)), (2, .int (0 : Int32)), (0, .ref (ad 0)), (1, .int x1)]) hx hb d_Mod_meant_24 rfl hl (by decide) rfl (fun ls hl => ?_)
      refine lv_iload_n hx hb d_Mod_meant_25 rfl (lv_at hl 1 rfl) ?_
      refine lv_if_eq (tgt := 40) hx hb d_Mod_meant_26 (by decide) (fun _ => ?_) (fun c9 => absurd c9 (by decide))
      refine lv_iconst (v := 0) hx hb d_Mod_meant_40 (by decide) ?_
      refine lv_iload_n hx hb d_Mod_meant_41 rfl (lv_at hl 0 rfl) ?_
      refine lv_if_eq (tgt := 57) hx hb d_Mod_meant_42 (by decide) (fun _ => ?_) (fun c9 => absurd c9 (by decide))
      refine lv_iconst (v := 0) hx hb d_Mod_meant_57 (by decide) ?_
      refine lv_iadd hx hb d_Mod_meant_58 ?_
      refine lv_istore (lv' := [(4, .int ((0 : Int32) + (0 : Int32))), (3, .int (0 : Int32)), (2, .int (0 : Int32)), (0, .ref (ad 0)), (1, .int x1)]) hx hb d_Mod_meant_59 hl (by decide) rfl (fun ls hl => ?_)
      refine lv_iload_n hx hb d_Mod_meant_61 rfl (lv_at hl 2 rfl) ?_
      refine lv_if_eq (tgt := 76) hx hb d_Mod_meant_62 (by decide) (fun _ => ?_) (fun c9 => absurd c9 (by decide))
      refine lv_iload_n hx hb d_Mod_meant_76 rfl (lv_at hl 2 rfl) ?_
      refine lv_if_ne (tgt := 84) hx hb d_Mod_meant_77 (by decide) (fun c9 => absurd c9 (by decide)) (fun _ => ?_)
      refine lv_iload_n hx hb d_Mod_meant_80 rfl (lv_at hl 1 rfl) ?_
      refine lv_if_eq (tgt := 89) hx hb d_Mod_meant_81 (by decide) (fun _ => ?_) (fun c9 => absurd c9 (by decide))
      refine lv_sipush (v := 128) hx hb d_Mod_meant_89 (by decide) ?_
      have h := Option.some.inj h
      subst h
      exact W.iret hx hb hr (fun t ht hW => ⟨⟨_, (), rfl, rfl, AftW_mk hK hP hD ht hW⟩, hS.F ht⟩) hS.2.2 d_Mod_meant_92
    · have h := (if_neg c_2).symm.trans h
      refine lv_iconst (v := 1) hx hb d_Mod_meant_19 (by decide) ?_
      refine lv_goto (tgt := 24) hx hb d_Mod_meant_20 (by decide) ?_
      refine lv_istore_n (lv' := [(3, .int (1 : Int32)), (2, .int (0 : Int32)), (0, .ref (ad 0)), (1, .int x1)]) hx hb d_Mod_meant_24 rfl hl (by decide) rfl (fun ls hl => ?_)
      refine lv_iload_n hx hb d_Mod_meant_25 rfl (lv_at hl 1 rfl) ?_
      refine lv_if_eq (tgt := 40) hx hb d_Mod_meant_26 (by decide) (fun _ => ?_) (fun c9 => absurd c9 (by decide))
      refine lv_iconst (v := 0) hx hb d_Mod_meant_40 (by decide) ?_
      refine lv_iload_n hx hb d_Mod_meant_41 rfl (lv_at hl 0 rfl) ?_
      refine lv_if_eq (tgt := 57) hx hb d_Mod_meant_42 (by decide) (fun c9 => absurd c9 (by decide)) (fun _ => ?_)
      refine lv_aload_n hx hb d_Mod_meant_45 rfl (lv_at hl 2 rfl) ?_
      refine va_get (D := (dC, dI)) (ci := 4) (v := .ref (ad 8)) (C := R_Mod) (T := T_Mod) (N := 27) hx hb hB in_Mod hown hK hP 0 rfl rfl 17 (by decide) (hB _ wd_271) (fun _ h9 => h9) rfl d_Mod_meant_46 ?_
      refine lv_iload_n hx hb d_Mod_meant_49 rfl (lv_at hl 3 rfl) ?_
      refine lv_bipush (v := 16) hx hb d_Mod_meant_50 (by decide) ?_
      refine lv_isub hx hb d_Mod_meant_52 ?_
      obtain ⟨b_10, h⟩ := gI_some h
      refine va_iald hx hb hK hP 8 7 rfl rfl b_10 d_Mod_meant_53 ?_
      refine lv_goto (tgt := 58) hx hb d_Mod_meant_54 (by decide) ?_
      refine lv_iadd hx hb d_Mod_meant_58 ?_
      refine lv_istore (lv' := [(4, .int ((0 : Int32) + (m_values (x1 - (16 : Int32)).toNatClampNeg))), (3, .int (1 : Int32)), (2, .int (0 : Int32)), (0, .ref (ad 0)), (1, .int x1)]) hx hb d_Mod_meant_59 hl (by decide) rfl (fun ls hl => ?_)
      refine lv_iload_n hx hb d_Mod_meant_61 rfl (lv_at hl 2 rfl) ?_
      refine lv_if_eq (tgt := 76) hx hb d_Mod_meant_62 (by decide) (fun _ => ?_) (fun c9 => absurd c9 (by decide))
      refine lv_iload_n hx hb d_Mod_meant_76 rfl (lv_at hl 2 rfl) ?_
      refine lv_if_ne (tgt := 84) hx hb d_Mod_meant_77 (by decide) (fun c9 => absurd c9 (by decide)) (fun _ => ?_)
      refine lv_iload_n hx hb d_Mod_meant_80 rfl (lv_at hl 1 rfl) ?_
      refine lv_if_eq (tgt := 89) hx hb d_Mod_meant_81 (by decide) (fun c9 => absurd c9 (by decide)) (fun _ => ?_)
      refine lv_iload hx hb d_Mod_meant_84 (lv_at hl 0 rfl) ?_
      refine lv_goto (tgt := 92) hx hb d_Mod_meant_86 (by decide) ?_
      have h := Option.some.inj h
      subst h
      exact W.iret hx hb hr (fun t ht hW => ⟨⟨_, (), rfl, rfl, AftW_mk hK hP hD ht hW⟩, hS.F ht⟩) hS.2.2 d_Mod_meant_92
  · have h := (if_neg c_1).symm.trans h
    refine lv_iconst (v := 1) hx hb d_Mod_meant_7 (by decide) ?_
    refine lv_goto (tgt := 12) hx hb d_Mod_meant_8 (by decide) ?_
    refine lv_istore_n (lv' := [(2, .int (1 : Int32)), (0, .ref (ad 0)), (1, .int x1)]) hx hb d_Mod_meant_12 rfl hl (by decide) rfl (fun ls hl => ?_)
    refine lv_iload_n hx hb d_Mod_meant_13 rfl (lv_at hl 2 rfl) ?_
    refine lv_bipush (v := 16) hx hb d_Mod_meant_14 (by decide) ?_
    refine lv_icmp_lt (tgt := 23) hx hb d_Mod_meant_16 (by decide) (fun c_14 => ?_) (fun c_14 => ?_)
    · have h := (if_pos c_14).symm.trans h
      refine lv_iconst (v := 0) hx hb d_Mod_meant_23 (by decide) ?_
      refine lv_istore_n (lv' := [(3, .int (0 : Int32)), (2, .int (1 : Int32)), (0, .ref (ad 0)), (1, .int x1)]) hx hb d_Mod_meant_24 rfl hl (by decide) rfl (fun ls hl => ?_)
      refine lv_iload_n hx hb d_Mod_meant_25 rfl (lv_at hl 1 rfl) ?_
      refine lv_if_eq (tgt := 40) hx hb d_Mod_meant_26 (by decide) (fun c9 => absurd c9 (by decide)) (fun _ => ?_)
      refine lv_aload_n hx hb d_Mod_meant_29 rfl (lv_at hl 2 rfl) ?_
      refine va_get (D := (dC, dI)) (ci := 4) (v := .ref (ad 8)) (C := R_Mod) (T := T_Mod) (N := 27) hx hb hB in_Mod hown hK hP 0 rfl rfl 17 (by decide) (hB _ wd_271) (fun _ h9 => h9) rfl d_Mod_meant_30 ?_
      refine lv_iload_n hx hb d_Mod_meant_33 rfl (lv_at hl 3 rfl) ?_
      refine lv_iconst (v := 1) hx hb d_Mod_meant_34 (by decide) ?_
      refine lv_isub hx hb d_Mod_meant_35 ?_
      obtain ⟨b_16, h⟩ := gI_some h
      refine va_iald hx hb hK hP 8 7 rfl rfl b_16 d_Mod_meant_36 ?_
      refine lv_goto (tgt := 41) hx hb d_Mod_meant_37 (by decide) ?_
      refine lv_iload_n hx hb d_Mod_meant_41 rfl (lv_at hl 0 rfl) ?_
      refine lv_if_eq (tgt := 57) hx hb d_Mod_meant_42 (by decide) (fun _ => ?_) (fun c9 => absurd c9 (by decide))
      refine lv_iconst (v := 0) hx hb d_Mod_meant_57 (by decide) ?_
      refine lv_iadd hx hb d_Mod_meant_58 ?_
      refine lv_istore (lv' := [(4, .int ((m_values (x1 - (1 : Int32)).toNatClampNeg) + (0 : Int32))), (3, .int (0 : Int32)), (2, .int (1 : Int32)), (0, .ref (ad 0)), (1, .int x1)]) hx hb d_Mod_meant_59 hl (by decide) rfl (fun ls hl => ?_)
      refine lv_iload_n hx hb d_Mod_meant_61 rfl (lv_at hl 2 rfl) ?_
      refine lv_if_eq (tgt := 76) hx hb d_Mod_meant_62 (by decide) (fun c9 => absurd c9 (by decide)) (fun _ => ?_)
      refine lv_iload_n hx hb d_Mod_meant_65 rfl (lv_at hl 1 rfl) ?_
      refine lv_if_eq (tgt := 76) hx hb d_Mod_meant_66 (by decide) (fun _ => ?_) (fun c9 => absurd c9 (by decide))
      refine lv_iload_n hx hb d_Mod_meant_76 rfl (lv_at hl 2 rfl) ?_
      refine lv_if_ne (tgt := 84) hx hb d_Mod_meant_77 (by decide) (fun _ => ?_) (fun c9 => absurd c9 (by decide))
      refine lv_iload hx hb d_Mod_meant_84 (lv_at hl 0 rfl) ?_
      refine lv_goto (tgt := 92) hx hb d_Mod_meant_86 (by decide) ?_
      have h := Option.some.inj h
      subst h
      exact W.iret hx hb hr (fun t ht hW => ⟨⟨_, (), rfl, rfl, AftW_mk hK hP hD ht hW⟩, hS.F ht⟩) hS.2.2 d_Mod_meant_92
    · have h := (if_neg c_14).symm.trans h
      refine lv_iconst (v := 1) hx hb d_Mod_meant_19 (by decide) ?_
      refine lv_goto (tgt := 24) hx hb d_Mod_meant_20 (by decide) ?_
      refine lv_istore_n (lv' := [(3, .int (1 : Int32)), (2, .int (1 : Int32)), (0, .ref (ad 0)), (1, .int x1)]) hx hb d_Mod_meant_24 rfl hl (by decide) rfl (fun ls hl => ?_)
      refine lv_iload_n hx hb d_Mod_meant_25 rfl (lv_at hl 1 rfl) ?_
      refine lv_if_eq (tgt := 40) hx hb d_Mod_meant_26 (by decide) (fun c9 => absurd c9 (by decide)) (fun _ => ?_)
      refine lv_aload_n hx hb d_Mod_meant_29 rfl (lv_at hl 2 rfl) ?_
      refine va_get (D := (dC, dI)) (ci := 4) (v := .ref (ad 8)) (C := R_Mod) (T := T_Mod) (N := 27) hx hb hB in_Mod hown hK hP 0 rfl rfl 17 (by decide) (hB _ wd_271) (fun _ h9 => h9) rfl d_Mod_meant_30 ?_
      refine lv_iload_n hx hb d_Mod_meant_33 rfl (lv_at hl 3 rfl) ?_
      refine lv_iconst (v := 1) hx hb d_Mod_meant_34 (by decide) ?_
      refine lv_isub hx hb d_Mod_meant_35 ?_
      obtain ⟨b_22, h⟩ := gI_some h
      refine va_iald hx hb hK hP 8 7 rfl rfl b_22 d_Mod_meant_36 ?_
      refine lv_goto (tgt := 41) hx hb d_Mod_meant_37 (by decide) ?_
      refine lv_iload_n hx hb d_Mod_meant_41 rfl (lv_at hl 0 rfl) ?_
      refine lv_if_eq (tgt := 57) hx hb d_Mod_meant_42 (by decide) (fun c9 => absurd c9 (by decide)) (fun _ => ?_)
      refine lv_aload_n hx hb d_Mod_meant_45 rfl (lv_at hl 2 rfl) ?_
      refine va_get (D := (dC, dI)) (ci := 4) (v := .ref (ad 8)) (C := R_Mod) (T := T_Mod) (N := 27) hx hb hB in_Mod hown hK hP 0 rfl rfl 17 (by decide) (hB _ wd_271) (fun _ h9 => h9) rfl d_Mod_meant_46 ?_
      refine lv_iload_n hx hb d_Mod_meant_49 rfl (lv_at hl 3 rfl) ?_
      refine lv_bipush (v := 16) hx hb d_Mod_meant_50 (by decide) ?_
      refine lv_isub hx hb d_Mod_meant_52 ?_
      obtain ⟨b_24, h⟩ := gI_some h
      refine va_iald hx hb hK hP 8 7 rfl rfl b_24 d_Mod_meant_53 ?_
      refine lv_goto (tgt := 58) hx hb d_Mod_meant_54 (by decide) ?_
      refine lv_iadd hx hb d_Mod_meant_58 ?_
      refine lv_istore (lv' := [(4, .int ((m_values (x1 - (1 : Int32)).toNatClampNeg) + (m_values (x1 - (16 : Int32)).toNatClampNeg))), (3, .int (1 : Int32)), (2, .int (1 : Int32)), (0, .ref (ad 0)), (1, .int x1)]) hx hb d_Mod_meant_59 hl (by decide) rfl (fun ls hl => ?_)
      refine lv_iload_n hx hb d_Mod_meant_61 rfl (lv_at hl 2 rfl) ?_
      refine lv_if_eq (tgt := 76) hx hb d_Mod_meant_62 (by decide) (fun c9 => absurd c9 (by decide)) (fun _ => ?_)
      refine lv_iload_n hx hb d_Mod_meant_65 rfl (lv_at hl 1 rfl) ?_
      refine lv_if_eq (tgt := 76) hx hb d_Mod_meant_66 (by decide) (fun c9 => absurd c9 (by decide)) (fun _ => ?_)
      refine lv_iload hx hb d_Mod_meant_69 (lv_at hl 0 rfl) ?_
      refine lv_iconst (v := 2) hx hb d_Mod_meant_71 (by decide) ?_
      refine lv_idiv hx hb d_Mod_meant_72 (by decide) ?_
      refine lv_goto (tgt := 92) hx hb d_Mod_meant_73 (by decide) ?_
      have h := Option.some.inj h
      subst h
      exact W.iret hx hb hr (fun t ht hW => ⟨⟨_, (), rfl, rfl, AftW_mk hK hP hD ht hW⟩, hS.F ht⟩) hS.2.2 d_Mod_meant_92
def d_Mod_sure_L4 (N : Nat) (m_states : Nat → Int32) : Nat → Int32 → Int32 → Option (Int32)
  | 0, _, _ => none
  | n + 1, y4_1, y4_2 => if (256 : Int32) ≤ y4_2 then some y4_1 else gI y4_2 256 (if (m_states y4_2.toNatClampNeg) = (1 : Int32) then d_Mod_sure_L4 N m_states n (y4_1 + (1 : Int32)) (y4_2 + 1) else d_Mod_sure_L4 N m_states n y4_1 (y4_2 + 1))
def d_Mod_sure (N : Nat) (m_states : Nat → Int32) : Option (Int32) :=
 (d_Mod_sure_L4 N m_states N (0 : Int32) (0 : Int32)).bind (fun s4 => some s4)
abbrev rm_Mod_sure : Room := { frames := 0, cells := 0, slots := 0, locals := 0 }
set_option maxHeartbeats 4000000 in
set_option maxRecDepth 100000 in
theorem c_Mod_sure (l : Launch) (dC : Nat → ClassId) (dI : Nat → Nat → Nat) (tt : Nat → Nat) (ad : Nat → Nat) (cs : Nat → ClassId) (sz N : Nat) (m_thrown : Int32) (m_kind : Int32) (m_steps : Int32) (m_size : Int32) (m_ran : Int32) (m_parts : Int32) (m_taken : Int32) (m_lacked : Int32) (m_decodings : Int32) (m_failures : Int32) (m_at : Int32) (m_end : Int32) (m_many : Int32) (m_wrong : Int32) (m_bytes : Nat → Int32) (m_heads : Nat → Int32) (m_numbers : Nat → Int32) (m_codes : Nat → Int32) (m_sizes : Nat → Int32) (m_guessed : Nat → Int32) (m_results : Nat → Int32) (m_values : Nat → Int32) (m_states : Nat → Int32) (m_came : Nat → Int32) (m_boxes : Nat → Int32) (m_single : Nat → Int32) (m_rows : Nat → Int32) (out : Int32) (h : d_Mod_sure N m_states = some out) :
    Met l y_Mod_sure (w_Mod_sure) rm_Mod_sure (va_Pc [.ref (ad 0)] (PreW (dC, dI) [((cs 1), .int), ((cs 2), .int), ((cs 3), .int), ((cs 4), .int), ((cs 5), .int), ((cs 6), .boolean), ((cs 7), .int), ((cs 8), .int), ((cs 9), .int), ((cs 10), .int), ((cs 11), .int), ((cs 12), .int), ((cs 13), .int)] (x_Mod ad cs m_thrown m_kind m_steps m_size m_ran m_parts m_taken m_lacked m_decodings m_failures m_at m_end m_many m_wrong m_bytes m_heads m_numbers m_codes m_sizes m_guessed m_results m_values m_states m_came m_boxes m_single m_rows) sz tt)) (va_Qi (fun (r : Int32) (_ : Unit) => r = out) (fun _ => AftW (dC, dI) [((cs 1), .int), ((cs 2), .int), ((cs 3), .int), ((cs 4), .int), ((cs 5), .int), ((cs 6), .boolean), ((cs 7), .int), ((cs 8), .int), ((cs 9), .int), ((cs 10), .int), ((cs 11), .int), ((cs 12), .int), ((cs 13), .int)] (va_A (x_Mod ad cs m_thrown m_kind m_steps m_size m_ran m_parts m_taken m_lacked m_decodings m_failures m_at m_end m_many m_wrong m_bytes m_heads m_numbers m_codes m_sizes m_guessed m_results m_values m_states m_came m_boxes m_single m_rows) sz) (x_Mod ad cs m_thrown m_kind m_steps m_size m_ran m_parts m_taken m_lacked m_decodings m_failures m_at m_end m_many m_wrong m_bytes m_heads m_numbers m_codes m_sizes m_guessed m_results m_values m_states m_came m_boxes m_single m_rows)) (va_A (x_Mod ad cs m_thrown m_kind m_steps m_size m_ran m_parts m_taken m_lacked m_decodings m_failures m_at m_end m_many m_wrong m_bytes m_heads m_numbers m_codes m_sizes m_guessed m_results m_values m_states m_came m_boxes m_single m_rows) sz)) 0 0 (va_A (x_Mod ad cs m_thrown m_kind m_steps m_size m_ran m_parts m_taken m_lacked m_decodings m_failures m_at m_end m_many m_wrong m_bytes m_heads m_numbers m_codes m_sizes m_guessed m_results m_values m_states m_came m_boxes m_single m_rows) sz) := by
  refine Met.ofW (cc := k_Mod_sure) (maxL := 3) (ret := (some .int)) (by decide) rfl ?_
  intro p e s m args below meth c s₁ B hml hv
  obtain ⟨rfl, hsz, hP, hK, hD0, hG⟩ := hv
  have hx := B.exec
  have hb := B.bytes
  have hr := B.returns
  have hts := atoms_spec (ws := (w_Mod_sure)) B.pre
  have hB : ∀ w ∈ BIG, w.before _ s = true := fun w h9 => hts w (List.mem_cons_of_mem _ h9)
  have hown : s.vm.findClass R_Mod = some m.cls := findClass_of_methodNamed B.named
  have hlocks := B.notSynchronized
  subst hsz
  have hD := hD0.self (sz := s.heap.size)
  generalize hAe : va_A (x_Mod ad cs m_thrown m_kind m_steps m_size m_ran m_parts m_taken m_lacked m_decodings m_failures m_at m_end m_many m_wrong m_bytes m_heads m_numbers m_codes m_sizes m_guessed m_results m_values m_states m_came m_boxes m_single m_rows) s.heap.size = A at hD hG ⊢
  have hA : ∀ q : Nat, s.heap.size ≤ q → A q := fun q h => by rw [← hAe]; exact Or.inr h
  have hS : va_S A s.heap s.heap [] := va_S.rf
  have hl := lv_entry ([.ref (ad 0)]) (n := 3) (Nat.le_of_ble_eq_true rfl)
  rw [lg_entry_eq]
  generalize (lg_sl ([.ref (ad 0)]) ++ List.replicate (3 - (lg_sl ([.ref (ad 0)])).length) Slot.unset).toArray = ls at hl ⊢
  have hl : lv_has ls 3 [(0, .ref (ad 0))] := hl
  unfold d_Mod_sure at h
  refine lv_iconst (v := 0) hx hb d_Mod_sure_0 (by decide) ?_
  refine lv_istore_n (lv' := [(1, .int (0 : Int32)), (0, .ref (ad 0))]) hx hb d_Mod_sure_1 rfl hl (by decide) rfl (fun ls hl => ?_)
  refine lv_iconst (v := 0) hx hb d_Mod_sure_2 (by decide) ?_
  refine lv_istore_n (lv' := [(2, .int (0 : Int32)), (1, .int (0 : Int32)), (0, .ref (ad 0))]) hx hb d_Mod_sure_3 rfl hl (by decide) rfl (fun ls hl => ?_)
  obtain ⟨s4, hs4, h⟩ := Option.bind_eq_some_iff.mp h
  have X4 : ∀ (H : Heap) (locs : List Loc) (ls : Array Slot), lv_has ls 3 [(1, .int s4)] → va_P (dC, dI) vwCl (x_Mod ad cs m_thrown m_kind m_steps m_size m_ran m_parts m_taken m_lacked m_decodings m_failures m_at m_end m_many m_wrong m_bytes m_heads m_numbers m_codes m_sizes m_guessed m_results m_values m_states m_came m_boxes m_single m_rows) H → va_D A (x_Mod ad cs m_thrown m_kind m_steps m_size m_ran m_parts m_taken m_lacked m_decodings m_failures m_at m_end m_many m_wrong m_bytes m_heads m_numbers m_codes m_sizes m_guessed m_results m_values m_states m_came m_boxes m_single m_rows) → va_S A s.heap H locs → W p l e (headSpec (w_Mod_sure) rm_Mod_sure).room s m ([.ref (ad 0)] : List Value).toArray below meth c H locs 0 0 (MQ below (va_Qi (fun (r : Int32) (_ : Unit) => r = out) (fun _ => AftW (dC, dI) [((cs 1), .int), ((cs 2), .int), ((cs 3), .int), ((cs 4), .int), ((cs 5), .int), ((cs 6), .boolean), ((cs 7), .int), ((cs 8), .int), ((cs 9), .int), ((cs 10), .int), ((cs 11), .int), ((cs 12), .int), ((cs 13), .int)] A (x_Mod ad cs m_thrown m_kind m_steps m_size m_ran m_parts m_taken m_lacked m_decodings m_failures m_at m_end m_many m_wrong m_bytes m_heads m_numbers m_codes m_sizes m_guessed m_results m_values m_states m_came m_boxes m_single m_rows)) A) ([.ref (ad 0)] : List Value).toArray s 0 0 A) (F0 m 35 ls []) := by
    intro H locs ls hl hP hD hS
    refine lv_iload_n hx hb d_Mod_sure_35 rfl (lv_at hl 0 rfl) ?_
    have h := Option.some.inj h
    subst h
    exact W.iret hx hb hr (fun t ht hW => ⟨⟨_, (), rfl, rfl, AftW_mk hK hP hD ht hW⟩, hS.F ht⟩) hS.2.2 d_Mod_sure_36
  have L4 : ∀ (n : Nat) (y4_1 : Int32) (y4_2 : Int32) (H : Heap) (locs : List Loc) (ls : Array Slot), lv_has ls 3 [(0, .ref (ad 0)), (1, .int y4_1), (2, .int y4_2)] → va_P (dC, dI) vwCl (x_Mod ad cs m_thrown m_kind m_steps m_size m_ran m_parts m_taken m_lacked m_decodings m_failures m_at m_end m_many m_wrong m_bytes m_heads m_numbers m_codes m_sizes m_guessed m_results m_values m_states m_came m_boxes m_single m_rows) H → va_D A (x_Mod ad cs m_thrown m_kind m_steps m_size m_ran m_parts m_taken m_lacked m_decodings m_failures m_at m_end m_many m_wrong m_bytes m_heads m_numbers m_codes m_sizes m_guessed m_results m_values m_states m_came m_boxes m_single m_rows) → va_S A s.heap H locs → d_Mod_sure_L4 N m_states n y4_1 y4_2 = some s4 → W p l e (headSpec (w_Mod_sure) rm_Mod_sure).room s m ([.ref (ad 0)] : List Value).toArray below meth c H locs 0 0 (MQ below (va_Qi (fun (r : Int32) (_ : Unit) => r = out) (fun _ => AftW (dC, dI) [((cs 1), .int), ((cs 2), .int), ((cs 3), .int), ((cs 4), .int), ((cs 5), .int), ((cs 6), .boolean), ((cs 7), .int), ((cs 8), .int), ((cs 9), .int), ((cs 10), .int), ((cs 11), .int), ((cs 12), .int), ((cs 13), .int)] A (x_Mod ad cs m_thrown m_kind m_steps m_size m_ran m_parts m_taken m_lacked m_decodings m_failures m_at m_end m_many m_wrong m_bytes m_heads m_numbers m_codes m_sizes m_guessed m_results m_values m_states m_came m_boxes m_single m_rows)) A) ([.ref (ad 0)] : List Value).toArray s 0 0 A) (F0 m 4 ls []) := by
    intro n
    induction n with
    | zero =>
      intro y4_1 y4_2 H locs ls hl hP hD hS h
      rw [d_Mod_sure_L4] at h
      cases h
    | succ n ih =>
      intro y4_1 y4_2 H locs ls hl hP hD hS h
      rw [d_Mod_sure_L4] at h
      refine lv_iload_n hx hb d_Mod_sure_4 rfl (lv_at hl 2 rfl) ?_
      refine lv_sipush (v := 256) hx hb d_Mod_sure_5 (by decide) ?_
      refine lv_icmp_ge (tgt := 35) hx hb d_Mod_sure_8 (by decide) (fun c_1 => ?_) (fun c_1 => ?_)
      · have h := (if_pos c_1).symm.trans h
        have h := Option.some.inj h
        subst h
        exact X4 H locs ls (lv_sub hl [1] rfl) hP hD hS
      · have h := (if_neg c_1).symm.trans h
        refine lv_aload_n hx hb d_Mod_sure_11 rfl (lv_at hl 0 rfl) ?_
        refine va_get (D := (dC, dI)) (ci := 4) (v := .ref (ad 9)) (C := R_Mod) (T := T_Mod) (N := 27) hx hb hB in_Mod hown hK hP 0 rfl rfl 18 (by decide) (hB _ wd_272) (fun _ h9 => h9) rfl d_Mod_sure_12 ?_
        refine lv_iload_n hx hb d_Mod_sure_15 rfl (lv_at hl 2 rfl) ?_
        obtain ⟨b_2, h⟩ := gI_some h
        refine va_iald hx hb hK hP 9 8 rfl rfl b_2 d_Mod_sure_16 ?_
        refine lv_iconst (v := 1) hx hb d_Mod_sure_17 (by decide) ?_
        refine lv_icmp_ne (tgt := 27) hx hb d_Mod_sure_18 (by decide) (fun c_3 => ?_) (fun c_3 => ?_)
        · have h := (if_neg c_3).symm.trans h
          refine lv_iload_n hx hb d_Mod_sure_27 rfl (lv_at hl 1 rfl) ?_
          refine lv_istore_n (lv' := [(1, .int y4_1), (0, .ref (ad 0)), (2, .int y4_2)]) hx hb d_Mod_sure_28 rfl hl (by decide) rfl (fun ls hl => ?_)
          refine lv_iinc (v := y4_2 + 1) (lv' := [(2, .int (y4_2 + 1)), (1, .int y4_1), (0, .ref (ad 0))]) hx hb d_Mod_sure_29 hl (k := 2) rfl rfl (by decide) rfl (fun ls hl => ?_)
          refine lv_goto (tgt := 4) hx hb d_Mod_sure_32 (by decide) ?_
          exact ih y4_1 (y4_2 + 1) H locs ls (lv_sub hl [2, 1, 0] rfl) hP hD hS h
        · have h := (if_pos c_3).symm.trans h
          refine lv_iload_n hx hb d_Mod_sure_21 rfl (lv_at hl 1 rfl) ?_
          refine lv_iconst (v := 1) hx hb d_Mod_sure_22 (by decide) ?_
          refine lv_iadd hx hb d_Mod_sure_23 ?_
          refine lv_goto (tgt := 28) hx hb d_Mod_sure_24 (by decide) ?_
          refine lv_istore_n (lv' := [(1, .int (y4_1 + (1 : Int32))), (0, .ref (ad 0)), (2, .int y4_2)]) hx hb d_Mod_sure_28 rfl hl (by decide) rfl (fun ls hl => ?_)
          refine lv_iinc (v := y4_2 + 1) (lv' := [(2, .int (y4_2 + 1)), (1, .int (y4_1 + (1 : Int32))), (0, .ref (ad 0))]) hx hb d_Mod_sure_29 hl (k := 2) rfl rfl (by decide) rfl (fun ls hl => ?_)
          refine lv_goto (tgt := 4) hx hb d_Mod_sure_32 (by decide) ?_
          exact ih (y4_1 + (1 : Int32)) (y4_2 + 1) H locs ls (lv_sub hl [2, 1, 0] rfl) hP hD hS h
  exact L4 N (0 : Int32) (0 : Int32) _ _ ls (lv_sub hl [2, 1, 0] rfl) hP hD hS hs4
def d_Mod_feed_L48 (N : Nat) (y48_1 : Int64) (y48_3 : Int32) : Nat → Int32 → Int32 → Int32 → Int32 → Int32 → (Nat → Int32) → Option (Int32 × Int32 × Int32 × Int32 × (Nat → Int32))
  | 0, _, _, _, _, _, _ => none
  | n + 1, y48_4, m_thrown_48, m_size_48, m_ran_48, m_parts_48, m_bytes_48 => if y48_3 ≤ y48_4 then some (m_thrown_48, m_size_48, m_ran_48, m_parts_48, m_bytes_48) else gI m_size_48 1200 (d_Mod_feed_L48 N y48_1 y48_3 n (y48_4 + 1) m_thrown_48 (m_size_48 + (1 : Int32)) m_ran_48 m_parts_48 (upd m_bytes_48 m_size_48.toNatClampNeg ((((y48_1.toUInt64 >>> (((8 : Int32) * y48_4).toInt64.toUInt64 &&& Int64.toUInt64 63)).toInt64) &&& (255 : Int64)).toInt32)))
def d_Mod_feed (N : Nat) (x1 : Int64) (x3 : Int32) (m_thrown : Int32) (m_size : Int32) (m_ran : Int32) (m_parts : Int32) (m_bytes : Nat → Int32) : Option (Int32 × Int32 × Int32 × Int32 × Int32 × (Nat → Int32)) :=
 if x3 < (1 : Int32) then some ((0 : Int32), (1 : Int32), m_size, m_ran, m_parts, m_bytes) else if x3 ≤ (8 : Int32) then if (m_size + x3) ≤ (1200 : Int32) then (d_Mod_feed_L48 N x1 x3 N (0 : Int32) (0 : Int32) m_size m_ran m_parts m_bytes).bind (fun s48 => (d_Mod_lose N s48.2.2.1 s48.2.2.2.1).bind (fun o6 => some (s48.2.1, s48.1, s48.2.1, o6.1, o6.2, s48.2.2.2.2))) else some ((0 : Int32), (2 : Int32), m_size, m_ran, m_parts, m_bytes) else some ((0 : Int32), (1 : Int32), m_size, m_ran, m_parts, m_bytes)
abbrev rm_Mod_feed : Room := { frames := 1, cells := 0, slots := 0, locals := 20 }
set_option maxHeartbeats 4000000 in
set_option maxRecDepth 100000 in
theorem c_Mod_feed (l : Launch) (dC : Nat → ClassId) (dI : Nat → Nat → Nat) (tt : Nat → Nat) (ad : Nat → Nat) (cs : Nat → ClassId) (sz N : Nat) (x1 : Int64) (x3 : Int32) (m_thrown : Int32) (m_kind : Int32) (m_steps : Int32) (m_size : Int32) (m_ran : Int32) (m_parts : Int32) (m_taken : Int32) (m_lacked : Int32) (m_decodings : Int32) (m_failures : Int32) (m_at : Int32) (m_end : Int32) (m_many : Int32) (m_wrong : Int32) (m_bytes : Nat → Int32) (m_heads : Nat → Int32) (m_numbers : Nat → Int32) (m_codes : Nat → Int32) (m_sizes : Nat → Int32) (m_guessed : Nat → Int32) (m_results : Nat → Int32) (m_values : Nat → Int32) (m_states : Nat → Int32) (m_came : Nat → Int32) (m_boxes : Nat → Int32) (m_single : Nat → Int32) (m_rows : Nat → Int32) (out : Int32 × Int32 × Int32 × Int32 × Int32 × (Nat → Int32)) (h : d_Mod_feed N x1 x3 m_thrown m_size m_ran m_parts m_bytes = some out) :
    Met l y_Mod_feed (w_Mod_feed) rm_Mod_feed (va_Pc [.ref (ad 0), .long x1, .int x3] (PreW (dC, dI) [((cs 1), .int), ((cs 2), .int), ((cs 3), .int), ((cs 4), .int), ((cs 5), .int), ((cs 6), .boolean), ((cs 7), .int), ((cs 8), .int), ((cs 9), .int), ((cs 10), .int), ((cs 11), .int), ((cs 12), .int), ((cs 13), .int)] (x_Mod ad cs m_thrown m_kind m_steps m_size m_ran m_parts m_taken m_lacked m_decodings m_failures m_at m_end m_many m_wrong m_bytes m_heads m_numbers m_codes m_sizes m_guessed m_results m_values m_states m_came m_boxes m_single m_rows) sz tt)) (va_Qi (fun (r : Int32) (_ : Unit) => r = out.1) (fun _ => AftW (dC, dI) [((cs 1), .int), ((cs 2), .int), ((cs 3), .int), ((cs 4), .int), ((cs 5), .int), ((cs 6), .boolean), ((cs 7), .int), ((cs 8), .int), ((cs 9), .int), ((cs 10), .int), ((cs 11), .int), ((cs 12), .int), ((cs 13), .int)] (va_A (x_Mod ad cs m_thrown m_kind m_steps m_size m_ran m_parts m_taken m_lacked m_decodings m_failures m_at m_end m_many m_wrong m_bytes m_heads m_numbers m_codes m_sizes m_guessed m_results m_values m_states m_came m_boxes m_single m_rows) sz) (x_Mod ad cs out.2.1 m_kind m_steps out.2.2.1 out.2.2.2.1 out.2.2.2.2.1 m_taken m_lacked m_decodings m_failures m_at m_end m_many m_wrong out.2.2.2.2.2 m_heads m_numbers m_codes m_sizes m_guessed m_results m_values m_states m_came m_boxes m_single m_rows)) (va_A (x_Mod ad cs m_thrown m_kind m_steps m_size m_ran m_parts m_taken m_lacked m_decodings m_failures m_at m_end m_many m_wrong m_bytes m_heads m_numbers m_codes m_sizes m_guessed m_results m_values m_states m_came m_boxes m_single m_rows) sz)) 0 0 (va_A (x_Mod ad cs m_thrown m_kind m_steps m_size m_ran m_parts m_taken m_lacked m_decodings m_failures m_at m_end m_many m_wrong m_bytes m_heads m_numbers m_codes m_sizes m_guessed m_results m_values m_states m_came m_boxes m_single m_rows) sz) := by
  refine Met.ofW (cc := k_Mod_feed) (maxL := 5) (ret := (some .int)) (by decide) rfl ?_
  intro p e s m args below meth c s₁ B hml hv
  obtain ⟨rfl, hsz, hP, hK, hD0, hG⟩ := hv
  have hx := B.exec
  have hb := B.bytes
  have hr := B.returns
  have hts := atoms_spec (ws := (w_Mod_feed)) B.pre
  have hB : ∀ w ∈ BIG, w.before _ s = true := fun w h9 => hts w (List.mem_cons_of_mem _ h9)
  have hown : s.vm.findClass R_Mod = some m.cls := findClass_of_methodNamed B.named
  have hlocks := B.notSynchronized
  subst hsz
  have hD := hD0.self (sz := s.heap.size)
  generalize hAe : va_A (x_Mod ad cs m_thrown m_kind m_steps m_size m_ran m_parts m_taken m_lacked m_decodings m_failures m_at m_end m_many m_wrong m_bytes m_heads m_numbers m_codes m_sizes m_guessed m_results m_values m_states m_came m_boxes m_single m_rows) s.heap.size = A at hD hG ⊢
  have hA : ∀ q : Nat, s.heap.size ≤ q → A q := fun q h => by rw [← hAe]; exact Or.inr h
  have hS : va_S A s.heap s.heap [] := va_S.rf
  have hl := lv_entry ([.ref (ad 0), .long x1, .int x3]) (n := 5) (Nat.le_of_ble_eq_true rfl)
  rw [lg_entry_eq]
  generalize (lg_sl ([.ref (ad 0), .long x1, .int x3]) ++ List.replicate (5 - (lg_sl ([.ref (ad 0), .long x1, .int x3])).length) Slot.unset).toArray = ls at hl ⊢
  have hl : lv_has ls 5 [(0, .ref (ad 0)), (1, .long x1), (3, .int x3)] := hl
  unfold d_Mod_feed at h
  refine lv_aload_n hx hb d_Mod_feed_0 rfl (lv_at hl 0 rfl) ?_
  refine lv_iload_n hx hb d_Mod_feed_1 rfl (lv_at hl 2 rfl) ?_
  refine lv_iconst (v := 1) hx hb d_Mod_feed_2 (by decide) ?_
  refine lv_icmp_lt (tgt := 12) hx hb d_Mod_feed_3 (by decide) (fun c_1 => ?_) (fun c_1 => ?_)
  · have h := (if_pos c_1).symm.trans h
    refine lv_iconst (v := 1) hx hb d_Mod_feed_12 (by decide) ?_
    refine lv_goto (tgt := 33) hx hb d_Mod_feed_13 (by decide) ?_
    refine va_put (D := (dC, dI)) (ci := 4) (v := .int (1 : Int32)) (ty := .int) (C := R_Mod) (T := T_Mod) (N := 27) hx hb hB in_Mod ty_Mod tyok_Mod nd_Mod hown hK hP hD hS 0 rfl rfl 0 (by decide) (hB _ wd_218) (fun _ h9 => h9) rfl (by decide +kernel) rfl rfl (Nat.le_of_ble_eq_true rfl) d_Mod_feed_33 (fun H locs hP hD hS => ?_)
    have hP : va_P (dC, dI) vwCl (x_Mod ad cs (1 : Int32) m_kind m_steps m_size m_ran m_parts m_taken m_lacked m_decodings m_failures m_at m_end m_many m_wrong m_bytes m_heads m_numbers m_codes m_sizes m_guessed m_results m_values m_states m_came m_boxes m_single m_rows) H := hP
    have hD : va_D A (x_Mod ad cs (1 : Int32) m_kind m_steps m_size m_ran m_parts m_taken m_lacked m_decodings m_failures m_at m_end m_many m_wrong m_bytes m_heads m_numbers m_codes m_sizes m_guessed m_results m_values m_states m_came m_boxes m_single m_rows) := hD
    refine lv_aload_n hx hb d_Mod_feed_36 rfl (lv_at hl 0 rfl) ?_
    refine va_get (D := (dC, dI)) (ci := 4) (v := .int (1 : Int32)) (C := R_Mod) (T := T_Mod) (N := 27) hx hb hB in_Mod hown hK hP 0 rfl rfl 0 (by decide) (hB _ wd_218) (fun _ h9 => h9) rfl d_Mod_feed_37 ?_
    refine lv_if_le (tgt := 45) hx hb d_Mod_feed_40 (by decide) (fun c9 => absurd c9 (by decide)) (fun _ => ?_)
    refine lv_iconst (v := 0) hx hb d_Mod_feed_43 (by decide) ?_
    have h := Option.some.inj h
    subst h
    exact W.iret hx hb hr (fun t ht hW => ⟨⟨_, (), rfl, rfl, AftW_mk hK hP hD ht hW⟩, hS.F ht⟩) hS.2.2 d_Mod_feed_44
  · have h := (if_neg c_1).symm.trans h
    refine lv_iload_n hx hb d_Mod_feed_6 rfl (lv_at hl 2 rfl) ?_
    refine lv_bipush (v := 8) hx hb d_Mod_feed_7 (by decide) ?_
    refine lv_icmp_le (tgt := 16) hx hb d_Mod_feed_9 (by decide) (fun c_3 => ?_) (fun c_3 => ?_)
    · have h := (if_pos c_3).symm.trans h
      refine lv_aload_n hx hb d_Mod_feed_16 rfl (lv_at hl 0 rfl) ?_
      refine va_get (D := (dC, dI)) (ci := 4) (v := .int m_size) (C := R_Mod) (T := T_Mod) (N := 27) hx hb hB in_Mod hown hK hP 0 rfl rfl 4 (by decide) (hB _ wd_222) (fun _ h9 => h9) rfl d_Mod_feed_17 ?_
      refine lv_iload_n hx hb d_Mod_feed_20 rfl (lv_at hl 2 rfl) ?_
      refine lv_iadd hx hb d_Mod_feed_21 ?_
      refine lv_sipush (v := 1200) hx hb d_Mod_feed_22 (by decide) ?_
      refine lv_icmp_le (tgt := 32) hx hb d_Mod_feed_25 (by decide) (fun c_4 => ?_) (fun c_4 => ?_)
      · have h := (if_pos c_4).symm.trans h
        refine lv_iconst (v := 0) hx hb d_Mod_feed_32 (by decide) ?_
        refine va_put (D := (dC, dI)) (ci := 4) (v := .int (0 : Int32)) (ty := .int) (C := R_Mod) (T := T_Mod) (N := 27) hx hb hB in_Mod ty_Mod tyok_Mod nd_Mod hown hK hP hD hS 0 rfl rfl 0 (by decide) (hB _ wd_218) (fun _ h9 => h9) rfl (by decide +kernel) rfl rfl (Nat.le_of_ble_eq_true rfl) d_Mod_feed_33 (fun H locs hP hD hS => ?_)
        have hP : va_P (dC, dI) vwCl (x_Mod ad cs (0 : Int32) m_kind m_steps m_size m_ran m_parts m_taken m_lacked m_decodings m_failures m_at m_end m_many m_wrong m_bytes m_heads m_numbers m_codes m_sizes m_guessed m_results m_values m_states m_came m_boxes m_single m_rows) H := hP
        have hD : va_D A (x_Mod ad cs (0 : Int32) m_kind m_steps m_size m_ran m_parts m_taken m_lacked m_decodings m_failures m_at m_end m_many m_wrong m_bytes m_heads m_numbers m_codes m_sizes m_guessed m_results m_values m_states m_came m_boxes m_single m_rows) := hD
        refine lv_aload_n hx hb d_Mod_feed_36 rfl (lv_at hl 0 rfl) ?_
        refine va_get (D := (dC, dI)) (ci := 4) (v := .int (0 : Int32)) (C := R_Mod) (T := T_Mod) (N := 27) hx hb hB in_Mod hown hK hP 0 rfl rfl 0 (by decide) (hB _ wd_218) (fun _ h9 => h9) rfl d_Mod_feed_37 ?_
        refine lv_if_le (tgt := 45) hx hb d_Mod_feed_40 (by decide) (fun _ => ?_) (fun c9 => absurd c9 (by decide))
        refine lv_iconst (v := 0) hx hb d_Mod_feed_45 (by decide) ?_
        refine lv_istore (lv' := [(4, .int (0 : Int32)), (0, .ref (ad 0)), (1, .long x1), (3, .int x3)]) hx hb d_Mod_feed_46 hl (by decide) rfl (fun ls hl => ?_)
        obtain ⟨s48, hs48, h⟩ := Option.bind_eq_some_iff.mp h
        have X48 : ∀ (H : Heap) (locs : List Loc) (ls : Array Slot), lv_has ls 5 [(0, .ref (ad 0))] → va_P (dC, dI) vwCl (x_Mod ad cs s48.1 m_kind m_steps s48.2.1 s48.2.2.1 s48.2.2.2.1 m_taken m_lacked m_decodings m_failures m_at m_end m_many m_wrong s48.2.2.2.2 m_heads m_numbers m_codes m_sizes m_guessed m_results m_values m_states m_came m_boxes m_single m_rows) H → va_D A (x_Mod ad cs s48.1 m_kind m_steps s48.2.1 s48.2.2.1 s48.2.2.2.1 m_taken m_lacked m_decodings m_failures m_at m_end m_many m_wrong s48.2.2.2.2 m_heads m_numbers m_codes m_sizes m_guessed m_results m_values m_states m_came m_boxes m_single m_rows) → va_S A s.heap H locs → W p l e (headSpec (w_Mod_feed) rm_Mod_feed).room s m ([.ref (ad 0), .long x1, .int x3] : List Value).toArray below meth c H locs 0 0 (MQ below (va_Qi (fun (r : Int32) (_ : Unit) => r = out.1) (fun _ => AftW (dC, dI) [((cs 1), .int), ((cs 2), .int), ((cs 3), .int), ((cs 4), .int), ((cs 5), .int), ((cs 6), .boolean), ((cs 7), .int), ((cs 8), .int), ((cs 9), .int), ((cs 10), .int), ((cs 11), .int), ((cs 12), .int), ((cs 13), .int)] A (x_Mod ad cs out.2.1 m_kind m_steps out.2.2.1 out.2.2.2.1 out.2.2.2.2.1 m_taken m_lacked m_decodings m_failures m_at m_end m_many m_wrong out.2.2.2.2.2 m_heads m_numbers m_codes m_sizes m_guessed m_results m_values m_states m_came m_boxes m_single m_rows)) A) ([.ref (ad 0), .long x1, .int x3] : List Value).toArray s 0 0 A) (F0 m 91 ls []) := by
          intro H locs ls hl hP hD hS
          refine lv_aload_n hx hb d_Mod_feed_91 rfl (lv_at hl 0 rfl) ?_
          obtain ⟨o6, ho6, h⟩ := Option.bind_eq_some_iff.mp h
          have hKc := hK.sub (tys' := [((cs 1), .int), ((cs 2), .int), ((cs 3), .int), ((cs 4), .int), ((cs 5), .int), ((cs 6), .boolean), ((cs 7), .int), ((cs 8), .int), ((cs 9), .int), ((cs 10), .int), ((cs 11), .int), ((cs 12), .int), ((cs 13), .int)]) [0, 1, 2, 3, 4, 5, 6, 7, 8, 9, 10, 11, 12] rfl
          have hPc := hP.sub (ws' := x_Mod ad cs s48.1 m_kind m_steps s48.2.1 s48.2.2.1 s48.2.2.2.1 m_taken m_lacked m_decodings m_failures m_at m_end m_many m_wrong s48.2.2.2.2 m_heads m_numbers m_codes m_sizes m_guessed m_results m_values m_states m_came m_boxes m_single m_rows) [0, 1, 2, 3, 4, 5, 6, 7, 8, 9, 10, 11, 12, 13] rfl
          have hDc := hD.sub (ws' := x_Mod ad cs s48.1 m_kind m_steps s48.2.1 s48.2.2.1 s48.2.2.2.1 m_taken m_lacked m_decodings m_failures m_at m_end m_many m_wrong s48.2.2.2.2 m_heads m_numbers m_codes m_sizes m_guessed m_results m_values m_states m_came m_boxes m_single m_rows) [0, 1, 2, 3, 4, 5, 6, 7, 8, 9, 10, 11, 12, 13] (by decide) rfl
          have hFc := va_free (wc := x_Mod ad cs s48.1 m_kind m_steps s48.2.1 s48.2.2.1 s48.2.2.2.1 m_taken m_lacked m_decodings m_failures m_at m_end m_many m_wrong s48.2.2.2.2 m_heads m_numbers m_codes m_sizes m_guessed m_results m_values m_states m_came m_boxes m_single m_rows) hD hS hA [0, 1, 2, 3, 4, 5, 6, 7, 8, 9, 10, 11, 12, 13] rfl
          refine va_callv (va_runV (As := []) (rest := []) ⟨hx, hb, hml, hown, hB⟩ (c_Mod_lose l dC dI tt ad cs H.size N s48.1 m_kind m_steps s48.2.1 s48.2.2.1 s48.2.2.2.1 m_taken m_lacked m_decodings m_failures m_at m_end m_many m_wrong s48.2.2.2.2 m_heads m_numbers m_codes m_sizes m_guessed m_results m_values m_states m_came m_boxes m_single m_rows o6 ho6) (cwV 0 hB (gV wd_292 wd_290 wd_289 wd_226 wd_291) rfl rfl rfl (by decide +kernel) ⟨Nat.le_of_ble_eq_true rfl, Nat.le_of_ble_eq_true rfl⟩) ⟨PreW_blind, va_recv hKc hPc (ci := 4) (q0 := 0) rfl rfl, PreW_mk hKc hPc hDc hG hS hFc⟩ rfl rfl hl.1 rfl (lv_room (Nat.le_of_ble_eq_true rfl)) d_Mod_feed_92 ⟨Nat.le_of_ble_eq_true rfl, Nat.le_of_ble_eq_true rfl⟩) hS (fun q _ h => hFc q h) hFc (fun u_6 t H1 locs ht hvm hw hB hz1 hk1 hS => ?_)
          obtain ⟨hP1, hK1, hD1⟩ := hB
          rw [ht] at hP1
          obtain ⟨hP, hD⟩ := va_join (wr := pick (x_Mod ad cs s48.1 m_kind m_steps s48.2.1 s48.2.2.1 s48.2.2.2.1 m_taken m_lacked m_decodings m_failures m_at m_end m_many m_wrong s48.2.2.2.2 m_heads m_numbers m_codes m_sizes m_guessed m_results m_values m_states m_came m_boxes m_single m_rows) []) hP hD [0, 1, 2, 3, 4, 5, 6, 7, 8, 9, 10, 11, 12, 13] [] rfl rfl (by decide) (by decide) hk1 hFc hP1 hD1
          generalize H1 = H at hP hS ⊢
          have hP : va_P (dC, dI) vwCl (x_Mod ad cs s48.1 m_kind m_steps s48.2.1 o6.1 o6.2 m_taken m_lacked m_decodings m_failures m_at m_end m_many m_wrong s48.2.2.2.2 m_heads m_numbers m_codes m_sizes m_guessed m_results m_values m_states m_came m_boxes m_single m_rows) H := hP.sub [0, 1, 2, 3, 4, 5, 6, 7, 8, 9, 10, 11, 12, 13] rfl
          have hD : va_D A (x_Mod ad cs s48.1 m_kind m_steps s48.2.1 o6.1 o6.2 m_taken m_lacked m_decodings m_failures m_at m_end m_many m_wrong s48.2.2.2.2 m_heads m_numbers m_codes m_sizes m_guessed m_results m_values m_states m_came m_boxes m_single m_rows) := hD.sub [0, 1, 2, 3, 4, 5, 6, 7, 8, 9, 10, 11, 12, 13] (by decide) rfl
          refine lv_aload_n hx hb d_Mod_feed_95 rfl (lv_at hl 0 rfl) ?_
          refine va_get (D := (dC, dI)) (ci := 4) (v := .int s48.2.1) (C := R_Mod) (T := T_Mod) (N := 27) hx hb hB in_Mod hown hK hP 0 rfl rfl 4 (by decide) (hB _ wd_222) (fun _ h9 => h9) rfl d_Mod_feed_96 ?_
          have h := Option.some.inj h
          subst h
          exact W.iret hx hb hr (fun t ht hW => ⟨⟨_, (), rfl, rfl, AftW_mk hK hP hD ht hW⟩, hS.F ht⟩) hS.2.2 d_Mod_feed_99
        have L48 : ∀ (n : Nat) (y48_4 : Int32) (m_thrown_48 : Int32) (m_size_48 : Int32) (m_ran_48 : Int32) (m_parts_48 : Int32) (m_bytes_48 : Nat → Int32) (H : Heap) (locs : List Loc) (ls : Array Slot), lv_has ls 5 [(0, .ref (ad 0)), (1, .long x1), (3, .int x3), (4, .int y48_4)] → va_P (dC, dI) vwCl (x_Mod ad cs m_thrown_48 m_kind m_steps m_size_48 m_ran_48 m_parts_48 m_taken m_lacked m_decodings m_failures m_at m_end m_many m_wrong m_bytes_48 m_heads m_numbers m_codes m_sizes m_guessed m_results m_values m_states m_came m_boxes m_single m_rows) H → va_D A (x_Mod ad cs m_thrown_48 m_kind m_steps m_size_48 m_ran_48 m_parts_48 m_taken m_lacked m_decodings m_failures m_at m_end m_many m_wrong m_bytes_48 m_heads m_numbers m_codes m_sizes m_guessed m_results m_values m_states m_came m_boxes m_single m_rows) → va_S A s.heap H locs → d_Mod_feed_L48 N x1 x3 n y48_4 m_thrown_48 m_size_48 m_ran_48 m_parts_48 m_bytes_48 = some s48 → W p l e (headSpec (w_Mod_feed) rm_Mod_feed).room s m ([.ref (ad 0), .long x1, .int x3] : List Value).toArray below meth c H locs 0 0 (MQ below (va_Qi (fun (r : Int32) (_ : Unit) => r = out.1) (fun _ => AftW (dC, dI) [((cs 1), .int), ((cs 2), .int), ((cs 3), .int), ((cs 4), .int), ((cs 5), .int), ((cs 6), .boolean), ((cs 7), .int), ((cs 8), .int), ((cs 9), .int), ((cs 10), .int), ((cs 11), .int), ((cs 12), .int), ((cs 13), .int)] A (x_Mod ad cs out.2.1 m_kind m_steps out.2.2.1 out.2.2.2.1 out.2.2.2.2.1 m_taken m_lacked m_decodings m_failures m_at m_end m_many m_wrong out.2.2.2.2.2 m_heads m_numbers m_codes m_sizes m_guessed m_results m_values m_states m_came m_boxes m_single m_rows)) A) ([.ref (ad 0), .long x1, .int x3] : List Value).toArray s 0 0 A) (F0 m 48 ls []) := by
          intro n
          induction n with
          | zero =>
            intro y48_4 m_thrown_48 m_size_48 m_ran_48 m_parts_48 m_bytes_48 H locs ls hl hP hD hS h
            rw [d_Mod_feed_L48] at h
            cases h
          | succ n ih =>
            intro y48_4 m_thrown_48 m_size_48 m_ran_48 m_parts_48 m_bytes_48 H locs ls hl hP hD hS h
            rw [d_Mod_feed_L48] at h
            refine lv_iload hx hb d_Mod_feed_48 (lv_at hl 3 rfl) ?_
            refine lv_iload_n hx hb d_Mod_feed_50 rfl (lv_at hl 2 rfl) ?_
            refine lv_icmp_ge (tgt := 91) hx hb d_Mod_feed_51 (by decide) (fun c_7 => ?_) (fun c_7 => ?_)
            · have h := (if_pos c_7).symm.trans h
              have h := Option.some.inj h
              subst h
              exact X48 H locs ls (lv_sub hl [0] rfl) hP hD hS
            · have h := (if_neg c_7).symm.trans h
              refine lv_aload_n hx hb d_Mod_feed_54 rfl (lv_at hl 0 rfl) ?_
              refine va_get (D := (dC, dI)) (ci := 4) (v := .ref (ad 1)) (C := R_Mod) (T := T_Mod) (N := 27) hx hb hB in_Mod hown hK hP 0 rfl rfl 3 (by decide) (hB _ wd_223) (fun _ h9 => h9) rfl d_Mod_feed_55 ?_
              refine lv_aload_n hx hb d_Mod_feed_58 rfl (lv_at hl 0 rfl) ?_
              refine va_get (D := (dC, dI)) (ci := 4) (v := .int m_size_48) (C := R_Mod) (T := T_Mod) (N := 27) hx hb hB in_Mod hown hK hP 0 rfl rfl 4 (by decide) (hB _ wd_222) (fun _ h9 => h9) rfl d_Mod_feed_59 ?_
              refine lv_lload_n hx hb d_Mod_feed_62 rfl (lv_at hl 1 rfl) ?_
              refine lv_bipush (v := 8) hx hb d_Mod_feed_63 (by decide) ?_
              refine lv_iload hx hb d_Mod_feed_65 (lv_at hl 3 rfl) ?_
              refine lv_imul hx hb d_Mod_feed_67 ?_
              refine lv_lushr hx hb d_Mod_feed_68 rfl ?_
              refine lv_ldc2 (v := 255) hx hb hown (hB _ wd_293) d_Mod_feed_69 ?_
              refine lv_land hx hb d_Mod_feed_72 ?_
              refine lv_l2i hx hb d_Mod_feed_73 rfl ?_
              obtain ⟨b_8, h⟩ := gI_some h
              refine va_iast hx hb hK hP hD hS 1 0 rfl rfl b_8 d_Mod_feed_74 (fun H locs hP hD hS => ?_)
              have hP : va_P (dC, dI) vwCl (x_Mod ad cs m_thrown_48 m_kind m_steps m_size_48 m_ran_48 m_parts_48 m_taken m_lacked m_decodings m_failures m_at m_end m_many m_wrong (upd m_bytes_48 m_size_48.toNatClampNeg ((((x1.toUInt64 >>> (((8 : Int32) * y48_4).toInt64.toUInt64 &&& Int64.toUInt64 63)).toInt64) &&& (255 : Int64)).toInt32)) m_heads m_numbers m_codes m_sizes m_guessed m_results m_values m_states m_came m_boxes m_single m_rows) H := hP
              have hD : va_D A (x_Mod ad cs m_thrown_48 m_kind m_steps m_size_48 m_ran_48 m_parts_48 m_taken m_lacked m_decodings m_failures m_at m_end m_many m_wrong (upd m_bytes_48 m_size_48.toNatClampNeg ((((x1.toUInt64 >>> (((8 : Int32) * y48_4).toInt64.toUInt64 &&& Int64.toUInt64 63)).toInt64) &&& (255 : Int64)).toInt32)) m_heads m_numbers m_codes m_sizes m_guessed m_results m_values m_states m_came m_boxes m_single m_rows) := hD
              refine lv_aload_n hx hb d_Mod_feed_75 rfl (lv_at hl 0 rfl) ?_
              refine lv_dup hx hb d_Mod_feed_76 rfl ?_
              refine va_get (D := (dC, dI)) (ci := 4) (v := .int m_size_48) (C := R_Mod) (T := T_Mod) (N := 27) hx hb hB in_Mod hown hK hP 0 rfl rfl 4 (by decide) (hB _ wd_222) (fun _ h9 => h9) rfl d_Mod_feed_77 ?_
              refine lv_iconst (v := 1) hx hb d_Mod_feed_80 (by decide) ?_
              refine lv_iadd hx hb d_Mod_feed_81 ?_
              refine va_put (D := (dC, dI)) (ci := 4) (v := .int (m_size_48 + (1 : Int32))) (ty := .int) (C := R_Mod) (T := T_Mod) (N := 27) hx hb hB in_Mod ty_Mod tyok_Mod nd_Mod hown hK hP hD hS 0 rfl rfl 4 (by decide) (hB _ wd_222) (fun _ h9 => h9) rfl (by decide +kernel) rfl rfl (Nat.le_of_ble_eq_true rfl) d_Mod_feed_82 (fun H locs hP hD hS => ?_)
              have hP : va_P (dC, dI) vwCl (x_Mod ad cs m_thrown_48 m_kind m_steps (m_size_48 + (1 : Int32)) m_ran_48 m_parts_48 m_taken m_lacked m_decodings m_failures m_at m_end m_many m_wrong (upd m_bytes_48 m_size_48.toNatClampNeg ((((x1.toUInt64 >>> (((8 : Int32) * y48_4).toInt64.toUInt64 &&& Int64.toUInt64 63)).toInt64) &&& (255 : Int64)).toInt32)) m_heads m_numbers m_codes m_sizes m_guessed m_results m_values m_states m_came m_boxes m_single m_rows) H := hP
              have hD : va_D A (x_Mod ad cs m_thrown_48 m_kind m_steps (m_size_48 + (1 : Int32)) m_ran_48 m_parts_48 m_taken m_lacked m_decodings m_failures m_at m_end m_many m_wrong (upd m_bytes_48 m_size_48.toNatClampNeg ((((x1.toUInt64 >>> (((8 : Int32) * y48_4).toInt64.toUInt64 &&& Int64.toUInt64 63)).toInt64) &&& (255 : Int64)).toInt32)) m_heads m_numbers m_codes m_sizes m_guessed m_results m_values m_states m_came m_boxes m_single m_rows) := hD
              refine lv_iinc (v := y48_4 + 1) (lv' := [(4, .int (y48_4 + 1)), (0, .ref (ad 0)), (1, .long x1), (3, .int x3)]) hx hb d_Mod_feed_85 hl (k := 3) rfl rfl (by decide) rfl (fun ls hl => ?_)
              refine lv_goto (tgt := 48) hx hb d_Mod_feed_88 (by decide) ?_
              exact ih (y48_4 + 1) m_thrown_48 (m_size_48 + (1 : Int32)) m_ran_48 m_parts_48 (upd m_bytes_48 m_size_48.toNatClampNeg ((((x1.toUInt64 >>> (((8 : Int32) * y48_4).toInt64.toUInt64 &&& Int64.toUInt64 63)).toInt64) &&& (255 : Int64)).toInt32)) H locs ls (lv_sub hl [1, 2, 3, 0] rfl) hP hD hS h
        exact L48 N (0 : Int32) (0 : Int32) m_size m_ran m_parts m_bytes _ _ ls (lv_sub hl [1, 2, 3, 0] rfl) hP hD hS hs48
      · have h := (if_neg c_4).symm.trans h
        refine lv_iconst (v := 2) hx hb d_Mod_feed_28 (by decide) ?_
        refine lv_goto (tgt := 33) hx hb d_Mod_feed_29 (by decide) ?_
        refine va_put (D := (dC, dI)) (ci := 4) (v := .int (2 : Int32)) (ty := .int) (C := R_Mod) (T := T_Mod) (N := 27) hx hb hB in_Mod ty_Mod tyok_Mod nd_Mod hown hK hP hD hS 0 rfl rfl 0 (by decide) (hB _ wd_218) (fun _ h9 => h9) rfl (by decide +kernel) rfl rfl (Nat.le_of_ble_eq_true rfl) d_Mod_feed_33 (fun H locs hP hD hS => ?_)
        have hP : va_P (dC, dI) vwCl (x_Mod ad cs (2 : Int32) m_kind m_steps m_size m_ran m_parts m_taken m_lacked m_decodings m_failures m_at m_end m_many m_wrong m_bytes m_heads m_numbers m_codes m_sizes m_guessed m_results m_values m_states m_came m_boxes m_single m_rows) H := hP
        have hD : va_D A (x_Mod ad cs (2 : Int32) m_kind m_steps m_size m_ran m_parts m_taken m_lacked m_decodings m_failures m_at m_end m_many m_wrong m_bytes m_heads m_numbers m_codes m_sizes m_guessed m_results m_values m_states m_came m_boxes m_single m_rows) := hD
        refine lv_aload_n hx hb d_Mod_feed_36 rfl (lv_at hl 0 rfl) ?_
        refine va_get (D := (dC, dI)) (ci := 4) (v := .int (2 : Int32)) (C := R_Mod) (T := T_Mod) (N := 27) hx hb hB in_Mod hown hK hP 0 rfl rfl 0 (by decide) (hB _ wd_218) (fun _ h9 => h9) rfl d_Mod_feed_37 ?_
        refine lv_if_le (tgt := 45) hx hb d_Mod_feed_40 (by decide) (fun c9 => absurd c9 (by decide)) (fun _ => ?_)
        refine lv_iconst (v := 0) hx hb d_Mod_feed_43 (by decide) ?_
        have h := Option.some.inj h
        subst h
        exact W.iret hx hb hr (fun t ht hW => ⟨⟨_, (), rfl, rfl, AftW_mk hK hP hD ht hW⟩, hS.F ht⟩) hS.2.2 d_Mod_feed_44
    · have h := (if_neg c_3).symm.trans h
      refine lv_iconst (v := 1) hx hb d_Mod_feed_12 (by decide) ?_
      refine lv_goto (tgt := 33) hx hb d_Mod_feed_13 (by decide) ?_
      refine va_put (D := (dC, dI)) (ci := 4) (v := .int (1 : Int32)) (ty := .int) (C := R_Mod) (T := T_Mod) (N := 27) hx hb hB in_Mod ty_Mod tyok_Mod nd_Mod hown hK hP hD hS 0 rfl rfl 0 (by decide) (hB _ wd_218) (fun _ h9 => h9) rfl (by decide +kernel) rfl rfl (Nat.le_of_ble_eq_true rfl) d_Mod_feed_33 (fun H locs hP hD hS => ?_)
      have hP : va_P (dC, dI) vwCl (x_Mod ad cs (1 : Int32) m_kind m_steps m_size m_ran m_parts m_taken m_lacked m_decodings m_failures m_at m_end m_many m_wrong m_bytes m_heads m_numbers m_codes m_sizes m_guessed m_results m_values m_states m_came m_boxes m_single m_rows) H := hP
      have hD : va_D A (x_Mod ad cs (1 : Int32) m_kind m_steps m_size m_ran m_parts m_taken m_lacked m_decodings m_failures m_at m_end m_many m_wrong m_bytes m_heads m_numbers m_codes m_sizes m_guessed m_results m_values m_states m_came m_boxes m_single m_rows) := hD
      refine lv_aload_n hx hb d_Mod_feed_36 rfl (lv_at hl 0 rfl) ?_
      refine va_get (D := (dC, dI)) (ci := 4) (v := .int (1 : Int32)) (C := R_Mod) (T := T_Mod) (N := 27) hx hb hB in_Mod hown hK hP 0 rfl rfl 0 (by decide) (hB _ wd_218) (fun _ h9 => h9) rfl d_Mod_feed_37 ?_
      refine lv_if_le (tgt := 45) hx hb d_Mod_feed_40 (by decide) (fun c9 => absurd c9 (by decide)) (fun _ => ?_)
      refine lv_iconst (v := 0) hx hb d_Mod_feed_43 (by decide) ?_
      have h := Option.some.inj h
      subst h
      exact W.iret hx hb hr (fun t ht hW => ⟨⟨_, (), rfl, rfl, AftW_mk hK hP hD ht hW⟩, hS.F ht⟩) hS.2.2 d_Mod_feed_44
def d_Mod_alter (N : Nat) (x1 : Int32) (x2 : Int32) (m_thrown : Int32) (m_size : Int32) (m_ran : Int32) (m_parts : Int32) (m_bytes : Nat → Int32) : Option (Int32 × Int32 × Int32 × Int32 × (Nat → Int32)) :=
 if x1 < 0 then some ((0 : Int32), (1 : Int32), m_ran, m_parts, m_bytes) else if x1 < m_size then if x2 < 0 then some ((0 : Int32), (2 : Int32), m_ran, m_parts, m_bytes) else if x2 ≤ (255 : Int32) then gI x1 1200 ((d_Mod_lose N m_ran m_parts).bind (fun o9 => some (m_bytes x1.toNatClampNeg, (0 : Int32), o9.1, o9.2, upd m_bytes x1.toNatClampNeg x2))) else some ((0 : Int32), (2 : Int32), m_ran, m_parts, m_bytes) else some ((0 : Int32), (1 : Int32), m_ran, m_parts, m_bytes)
abbrev rm_Mod_alter : Room := { frames := 1, cells := 0, slots := 0, locals := 20 }
set_option maxHeartbeats 4000000 in
set_option maxRecDepth 100000 in
theorem c_Mod_alter (l : Launch) (dC : Nat → ClassId) (dI : Nat → Nat → Nat) (tt : Nat → Nat) (ad : Nat → Nat) (cs : Nat → ClassId) (sz N : Nat) (x1 : Int32) (x2 : Int32) (m_thrown : Int32) (m_kind : Int32) (m_steps : Int32) (m_size : Int32) (m_ran : Int32) (m_parts : Int32) (m_taken : Int32) (m_lacked : Int32) (m_decodings : Int32) (m_failures : Int32) (m_at : Int32) (m_end : Int32) (m_many : Int32) (m_wrong : Int32) (m_bytes : Nat → Int32) (m_heads : Nat → Int32) (m_numbers : Nat → Int32) (m_codes : Nat → Int32) (m_sizes : Nat → Int32) (m_guessed : Nat → Int32) (m_results : Nat → Int32) (m_values : Nat → Int32) (m_states : Nat → Int32) (m_came : Nat → Int32) (m_boxes : Nat → Int32) (m_single : Nat → Int32) (m_rows : Nat → Int32) (out : Int32 × Int32 × Int32 × Int32 × (Nat → Int32)) (h : d_Mod_alter N x1 x2 m_thrown m_size m_ran m_parts m_bytes = some out) :
    Met l y_Mod_alter (w_Mod_alter) rm_Mod_alter (va_Pc [.ref (ad 0), .int x1, .int x2] (PreW (dC, dI) [((cs 1), .int), ((cs 2), .int), ((cs 3), .int), ((cs 4), .int), ((cs 5), .int), ((cs 6), .boolean), ((cs 7), .int), ((cs 8), .int), ((cs 9), .int), ((cs 10), .int), ((cs 11), .int), ((cs 12), .int), ((cs 13), .int)] (x_Mod ad cs m_thrown m_kind m_steps m_size m_ran m_parts m_taken m_lacked m_decodings m_failures m_at m_end m_many m_wrong m_bytes m_heads m_numbers m_codes m_sizes m_guessed m_results m_values m_states m_came m_boxes m_single m_rows) sz tt)) (va_Qi (fun (r : Int32) (_ : Unit) => r = out.1) (fun _ => AftW (dC, dI) [((cs 1), .int), ((cs 2), .int), ((cs 3), .int), ((cs 4), .int), ((cs 5), .int), ((cs 6), .boolean), ((cs 7), .int), ((cs 8), .int), ((cs 9), .int), ((cs 10), .int), ((cs 11), .int), ((cs 12), .int), ((cs 13), .int)] (va_A (x_Mod ad cs m_thrown m_kind m_steps m_size m_ran m_parts m_taken m_lacked m_decodings m_failures m_at m_end m_many m_wrong m_bytes m_heads m_numbers m_codes m_sizes m_guessed m_results m_values m_states m_came m_boxes m_single m_rows) sz) (x_Mod ad cs out.2.1 m_kind m_steps m_size out.2.2.1 out.2.2.2.1 m_taken m_lacked m_decodings m_failures m_at m_end m_many m_wrong out.2.2.2.2 m_heads m_numbers m_codes m_sizes m_guessed m_results m_values m_states m_came m_boxes m_single m_rows)) (va_A (x_Mod ad cs m_thrown m_kind m_steps m_size m_ran m_parts m_taken m_lacked m_decodings m_failures m_at m_end m_many m_wrong m_bytes m_heads m_numbers m_codes m_sizes m_guessed m_results m_values m_states m_came m_boxes m_single m_rows) sz)) 0 0 (va_A (x_Mod ad cs m_thrown m_kind m_steps m_size m_ran m_parts m_taken m_lacked m_decodings m_failures m_at m_end m_many m_wrong m_bytes m_heads m_numbers m_codes m_sizes m_guessed m_results m_values m_states m_came m_boxes m_single m_rows) sz) := by
  refine Met.ofW (cc := k_Mod_alter) (maxL := 4) (ret := (some .int)) (by decide) rfl ?_
  intro p e s m args below meth c s₁ B hml hv
  obtain ⟨rfl, hsz, hP, hK, hD0, hG⟩ := hv
  have hx := B.exec
  have hb := B.bytes
  have hr := B.returns
  have hts := atoms_spec (ws := (w_Mod_alter)) B.pre
  have hB : ∀ w ∈ BIG, w.before _ s = true := fun w h9 => hts w (List.mem_cons_of_mem _ h9)
  have hown : s.vm.findClass R_Mod = some m.cls := findClass_of_methodNamed B.named
  have hlocks := B.notSynchronized
  subst hsz
  have hD := hD0.self (sz := s.heap.size)
  generalize hAe : va_A (x_Mod ad cs m_thrown m_kind m_steps m_size m_ran m_parts m_taken m_lacked m_decodings m_failures m_at m_end m_many m_wrong m_bytes m_heads m_numbers m_codes m_sizes m_guessed m_results m_values m_states m_came m_boxes m_single m_rows) s.heap.size = A at hD hG ⊢
  have hA : ∀ q : Nat, s.heap.size ≤ q → A q := fun q h => by rw [← hAe]; exact Or.inr h
  have hS : va_S A s.heap s.heap [] := va_S.rf
  have hl := lv_entry ([.ref (ad 0), .int x1, .int x2]) (n := 4) (Nat.le_of_ble_eq_true rfl)
  rw [lg_entry_eq]
  generalize (lg_sl ([.ref (ad 0), .int x1, .int x2]) ++ List.replicate (4 - (lg_sl ([.ref (ad 0), .int x1, .int x2])).length) Slot.unset).toArray = ls at hl ⊢
  have hl : lv_has ls 4 [(0, .ref (ad 0)), (1, .int x1), (2, .int x2)] := hl
  unfold d_Mod_alter at h
  refine lv_aload_n hx hb d_Mod_alter_0 rfl (lv_at hl 0 rfl) ?_
  refine lv_iload_n hx hb d_Mod_alter_1 rfl (lv_at hl 1 rfl) ?_
  refine lv_if_lt (tgt := 13) hx hb d_Mod_alter_2 (by decide) (fun c_1 => ?_) (fun c_1 => ?_)
  · have h := (if_pos c_1).symm.trans h
    refine lv_iconst (v := 1) hx hb d_Mod_alter_13 (by decide) ?_
    refine lv_goto (tgt := 33) hx hb d_Mod_alter_14 (by decide) ?_
    refine va_put (D := (dC, dI)) (ci := 4) (v := .int (1 : Int32)) (ty := .int) (C := R_Mod) (T := T_Mod) (N := 27) hx hb hB in_Mod ty_Mod tyok_Mod nd_Mod hown hK hP hD hS 0 rfl rfl 0 (by decide) (hB _ wd_218) (fun _ h9 => h9) rfl (by decide +kernel) rfl rfl (Nat.le_of_ble_eq_true rfl) d_Mod_alter_33 (fun H locs hP hD hS => ?_)
    have hP : va_P (dC, dI) vwCl (x_Mod ad cs (1 : Int32) m_kind m_steps m_size m_ran m_parts m_taken m_lacked m_decodings m_failures m_at m_end m_many m_wrong m_bytes m_heads m_numbers m_codes m_sizes m_guessed m_results m_values m_states m_came m_boxes m_single m_rows) H := hP
    have hD : va_D A (x_Mod ad cs (1 : Int32) m_kind m_steps m_size m_ran m_parts m_taken m_lacked m_decodings m_failures m_at m_end m_many m_wrong m_bytes m_heads m_numbers m_codes m_sizes m_guessed m_results m_values m_states m_came m_boxes m_single m_rows) := hD
    refine lv_aload_n hx hb d_Mod_alter_36 rfl (lv_at hl 0 rfl) ?_
    refine va_get (D := (dC, dI)) (ci := 4) (v := .int (1 : Int32)) (C := R_Mod) (T := T_Mod) (N := 27) hx hb hB in_Mod hown hK hP 0 rfl rfl 0 (by decide) (hB _ wd_218) (fun _ h9 => h9) rfl d_Mod_alter_37 ?_
    refine lv_if_le (tgt := 45) hx hb d_Mod_alter_40 (by decide) (fun c9 => absurd c9 (by decide)) (fun _ => ?_)
    refine lv_iconst (v := 0) hx hb d_Mod_alter_43 (by decide) ?_
    have h := Option.some.inj h
    subst h
    exact W.iret hx hb hr (fun t ht hW => ⟨⟨_, (), rfl, rfl, AftW_mk hK hP hD ht hW⟩, hS.F ht⟩) hS.2.2 d_Mod_alter_44
  · have h := (if_neg c_1).symm.trans h
    refine lv_iload_n hx hb d_Mod_alter_5 rfl (lv_at hl 1 rfl) ?_
    refine lv_aload_n hx hb d_Mod_alter_6 rfl (lv_at hl 0 rfl) ?_
    refine va_get (D := (dC, dI)) (ci := 4) (v := .int m_size) (C := R_Mod) (T := T_Mod) (N := 27) hx hb hB in_Mod hown hK hP 0 rfl rfl 4 (by decide) (hB _ wd_222) (fun _ h9 => h9) rfl d_Mod_alter_7 ?_
    refine lv_icmp_lt (tgt := 17) hx hb d_Mod_alter_10 (by decide) (fun c_3 => ?_) (fun c_3 => ?_)
    · have h := (if_pos c_3).symm.trans h
      refine lv_iload_n hx hb d_Mod_alter_17 rfl (lv_at hl 2 rfl) ?_
      refine lv_if_lt (tgt := 28) hx hb d_Mod_alter_18 (by decide) (fun c_4 => ?_) (fun c_4 => ?_)
      · have h := (if_pos c_4).symm.trans h
        refine lv_iconst (v := 2) hx hb d_Mod_alter_28 (by decide) ?_
        refine lv_goto (tgt := 33) hx hb d_Mod_alter_29 (by decide) ?_
        refine va_put (D := (dC, dI)) (ci := 4) (v := .int (2 : Int32)) (ty := .int) (C := R_Mod) (T := T_Mod) (N := 27) hx hb hB in_Mod ty_Mod tyok_Mod nd_Mod hown hK hP hD hS 0 rfl rfl 0 (by decide) (hB _ wd_218) (fun _ h9 => h9) rfl (by decide +kernel) rfl rfl (Nat.le_of_ble_eq_true rfl) d_Mod_alter_33 (fun H locs hP hD hS => ?_)
        have hP : va_P (dC, dI) vwCl (x_Mod ad cs (2 : Int32) m_kind m_steps m_size m_ran m_parts m_taken m_lacked m_decodings m_failures m_at m_end m_many m_wrong m_bytes m_heads m_numbers m_codes m_sizes m_guessed m_results m_values m_states m_came m_boxes m_single m_rows) H := hP
        have hD : va_D A (x_Mod ad cs (2 : Int32) m_kind m_steps m_size m_ran m_parts m_taken m_lacked m_decodings m_failures m_at m_end m_many m_wrong m_bytes m_heads m_numbers m_codes m_sizes m_guessed m_results m_values m_states m_came m_boxes m_single m_rows) := hD
        refine lv_aload_n hx hb d_Mod_alter_36 rfl (lv_at hl 0 rfl) ?_
        refine va_get (D := (dC, dI)) (ci := 4) (v := .int (2 : Int32)) (C := R_Mod) (T := T_Mod) (N := 27) hx hb hB in_Mod hown hK hP 0 rfl rfl 0 (by decide) (hB _ wd_218) (fun _ h9 => h9) rfl d_Mod_alter_37 ?_
        refine lv_if_le (tgt := 45) hx hb d_Mod_alter_40 (by decide) (fun c9 => absurd c9 (by decide)) (fun _ => ?_)
        refine lv_iconst (v := 0) hx hb d_Mod_alter_43 (by decide) ?_
        have h := Option.some.inj h
        subst h
        exact W.iret hx hb hr (fun t ht hW => ⟨⟨_, (), rfl, rfl, AftW_mk hK hP hD ht hW⟩, hS.F ht⟩) hS.2.2 d_Mod_alter_44
      · have h := (if_neg c_4).symm.trans h
        refine lv_iload_n hx hb d_Mod_alter_21 rfl (lv_at hl 2 rfl) ?_
        refine lv_sipush (v := 255) hx hb d_Mod_alter_22 (by decide) ?_
        refine lv_icmp_le (tgt := 32) hx hb d_Mod_alter_25 (by decide) (fun c_6 => ?_) (fun c_6 => ?_)
        · have h := (if_pos c_6).symm.trans h
          refine lv_iconst (v := 0) hx hb d_Mod_alter_32 (by decide) ?_
          refine va_put (D := (dC, dI)) (ci := 4) (v := .int (0 : Int32)) (ty := .int) (C := R_Mod) (T := T_Mod) (N := 27) hx hb hB in_Mod ty_Mod tyok_Mod nd_Mod hown hK hP hD hS 0 rfl rfl 0 (by decide) (hB _ wd_218) (fun _ h9 => h9) rfl (by decide +kernel) rfl rfl (Nat.le_of_ble_eq_true rfl) d_Mod_alter_33 (fun H locs hP hD hS => ?_)
          have hP : va_P (dC, dI) vwCl (x_Mod ad cs (0 : Int32) m_kind m_steps m_size m_ran m_parts m_taken m_lacked m_decodings m_failures m_at m_end m_many m_wrong m_bytes m_heads m_numbers m_codes m_sizes m_guessed m_results m_values m_states m_came m_boxes m_single m_rows) H := hP
          have hD : va_D A (x_Mod ad cs (0 : Int32) m_kind m_steps m_size m_ran m_parts m_taken m_lacked m_decodings m_failures m_at m_end m_many m_wrong m_bytes m_heads m_numbers m_codes m_sizes m_guessed m_results m_values m_states m_came m_boxes m_single m_rows) := hD
          refine lv_aload_n hx hb d_Mod_alter_36 rfl (lv_at hl 0 rfl) ?_
          refine va_get (D := (dC, dI)) (ci := 4) (v := .int (0 : Int32)) (C := R_Mod) (T := T_Mod) (N := 27) hx hb hB in_Mod hown hK hP 0 rfl rfl 0 (by decide) (hB _ wd_218) (fun _ h9 => h9) rfl d_Mod_alter_37 ?_
          refine lv_if_le (tgt := 45) hx hb d_Mod_alter_40 (by decide) (fun _ => ?_) (fun c9 => absurd c9 (by decide))
          refine lv_aload_n hx hb d_Mod_alter_45 rfl (lv_at hl 0 rfl) ?_
          refine va_get (D := (dC, dI)) (ci := 4) (v := .ref (ad 1)) (C := R_Mod) (T := T_Mod) (N := 27) hx hb hB in_Mod hown hK hP 0 rfl rfl 3 (by decide) (hB _ wd_223) (fun _ h9 => h9) rfl d_Mod_alter_46 ?_
          refine lv_iload_n hx hb d_Mod_alter_49 rfl (lv_at hl 1 rfl) ?_
          obtain ⟨b_8, h⟩ := gI_some h
          refine va_iald hx hb hK hP 1 0 rfl rfl b_8 d_Mod_alter_50 ?_
          refine lv_istore_n (lv' := [(3, .int (m_bytes x1.toNatClampNeg)), (0, .ref (ad 0)), (1, .int x1), (2, .int x2)]) hx hb d_Mod_alter_51 rfl hl (by decide) rfl (fun ls hl => ?_)
          refine lv_aload_n hx hb d_Mod_alter_52 rfl (lv_at hl 1 rfl) ?_
          refine va_get (D := (dC, dI)) (ci := 4) (v := .ref (ad 1)) (C := R_Mod) (T := T_Mod) (N := 27) hx hb hB in_Mod hown hK hP 0 rfl rfl 3 (by decide) (hB _ wd_223) (fun _ h9 => h9) rfl d_Mod_alter_53 ?_
          refine lv_iload_n hx hb d_Mod_alter_56 rfl (lv_at hl 2 rfl) ?_
          refine lv_iload_n hx hb d_Mod_alter_57 rfl (lv_at hl 3 rfl) ?_
          refine va_iast hx hb hK hP hD hS 1 0 rfl rfl b_8 d_Mod_alter_58 (fun H locs hP hD hS => ?_)
          have hP : va_P (dC, dI) vwCl (x_Mod ad cs (0 : Int32) m_kind m_steps m_size m_ran m_parts m_taken m_lacked m_decodings m_failures m_at m_end m_many m_wrong (upd m_bytes x1.toNatClampNeg x2) m_heads m_numbers m_codes m_sizes m_guessed m_results m_values m_states m_came m_boxes m_single m_rows) H := hP
          have hD : va_D A (x_Mod ad cs (0 : Int32) m_kind m_steps m_size m_ran m_parts m_taken m_lacked m_decodings m_failures m_at m_end m_many m_wrong (upd m_bytes x1.toNatClampNeg x2) m_heads m_numbers m_codes m_sizes m_guessed m_results m_values m_states m_came m_boxes m_single m_rows) := hD
          refine lv_aload_n hx hb d_Mod_alter_59 rfl (lv_at hl 1 rfl) ?_
          obtain ⟨o9, ho9, h⟩ := Option.bind_eq_some_iff.mp h
          have hKc := hK.sub (tys' := [((cs 1), .int), ((cs 2), .int), ((cs 3), .int), ((cs 4), .int), ((cs 5), .int), ((cs 6), .boolean), ((cs 7), .int), ((cs 8), .int), ((cs 9), .int), ((cs 10), .int), ((cs 11), .int), ((cs 12), .int), ((cs 13), .int)]) [0, 1, 2, 3, 4, 5, 6, 7, 8, 9, 10, 11, 12] rfl
          have hPc := hP.sub (ws' := x_Mod ad cs (0 : Int32) m_kind m_steps m_size m_ran m_parts m_taken m_lacked m_decodings m_failures m_at m_end m_many m_wrong (upd m_bytes x1.toNatClampNeg x2) m_heads m_numbers m_codes m_sizes m_guessed m_results m_values m_states m_came m_boxes m_single m_rows) [0, 1, 2, 3, 4, 5, 6, 7, 8, 9, 10, 11, 12, 13] rfl
          have hDc := hD.sub (ws' := x_Mod ad cs (0 : Int32) m_kind m_steps m_size m_ran m_parts m_taken m_lacked m_decodings m_failures m_at m_end m_many m_wrong (upd m_bytes x1.toNatClampNeg x2) m_heads m_numbers m_codes m_sizes m_guessed m_results m_values m_states m_came m_boxes m_single m_rows) [0, 1, 2, 3, 4, 5, 6, 7, 8, 9, 10, 11, 12, 13] (by decide) rfl
          have hFc := va_free (wc := x_Mod ad cs (0 : Int32) m_kind m_steps m_size m_ran m_parts m_taken m_lacked m_decodings m_failures m_at m_end m_many m_wrong (upd m_bytes x1.toNatClampNeg x2) m_heads m_numbers m_codes m_sizes m_guessed m_results m_values m_states m_came m_boxes m_single m_rows) hD hS hA [0, 1, 2, 3, 4, 5, 6, 7, 8, 9, 10, 11, 12, 13] rfl
          refine va_callv (va_runV (As := []) (rest := []) ⟨hx, hb, hml, hown, hB⟩ (c_Mod_lose l dC dI tt ad cs H.size N (0 : Int32) m_kind m_steps m_size m_ran m_parts m_taken m_lacked m_decodings m_failures m_at m_end m_many m_wrong (upd m_bytes x1.toNatClampNeg x2) m_heads m_numbers m_codes m_sizes m_guessed m_results m_values m_states m_came m_boxes m_single m_rows o9 ho9) (cwV 0 hB (gV wd_292 wd_290 wd_289 wd_226 wd_291) rfl rfl rfl (by decide +kernel) ⟨Nat.le_of_ble_eq_true rfl, Nat.le_of_ble_eq_true rfl⟩) ⟨PreW_blind, va_recv hKc hPc (ci := 4) (q0 := 0) rfl rfl, PreW_mk hKc hPc hDc hG hS hFc⟩ rfl rfl hl.1 rfl (lv_room (Nat.le_of_ble_eq_true rfl)) d_Mod_alter_60 ⟨Nat.le_of_ble_eq_true rfl, Nat.le_of_ble_eq_true rfl⟩) hS (fun q _ h => hFc q h) hFc (fun u_9 t H1 locs ht hvm hw hB hz1 hk1 hS => ?_)
          obtain ⟨hP1, hK1, hD1⟩ := hB
          rw [ht] at hP1
          obtain ⟨hP, hD⟩ := va_join (wr := pick (x_Mod ad cs (0 : Int32) m_kind m_steps m_size m_ran m_parts m_taken m_lacked m_decodings m_failures m_at m_end m_many m_wrong (upd m_bytes x1.toNatClampNeg x2) m_heads m_numbers m_codes m_sizes m_guessed m_results m_values m_states m_came m_boxes m_single m_rows) []) hP hD [0, 1, 2, 3, 4, 5, 6, 7, 8, 9, 10, 11, 12, 13] [] rfl rfl (by decide) (by decide) hk1 hFc hP1 hD1
          generalize H1 = H at hP hS ⊢
          have hP : va_P (dC, dI) vwCl (x_Mod ad cs (0 : Int32) m_kind m_steps m_size o9.1 o9.2 m_taken m_lacked m_decodings m_failures m_at m_end m_many m_wrong (upd m_bytes x1.toNatClampNeg x2) m_heads m_numbers m_codes m_sizes m_guessed m_results m_values m_states m_came m_boxes m_single m_rows) H := hP.sub [0, 1, 2, 3, 4, 5, 6, 7, 8, 9, 10, 11, 12, 13] rfl
          have hD : va_D A (x_Mod ad cs (0 : Int32) m_kind m_steps m_size o9.1 o9.2 m_taken m_lacked m_decodings m_failures m_at m_end m_many m_wrong (upd m_bytes x1.toNatClampNeg x2) m_heads m_numbers m_codes m_sizes m_guessed m_results m_values m_states m_came m_boxes m_single m_rows) := hD.sub [0, 1, 2, 3, 4, 5, 6, 7, 8, 9, 10, 11, 12, 13] (by decide) rfl
          refine lv_iload_n hx hb d_Mod_alter_63 rfl (lv_at hl 0 rfl) ?_
          have h := Option.some.inj h
          subst h
          exact W.iret hx hb hr (fun t ht hW => ⟨⟨_, (), rfl, rfl, AftW_mk hK hP hD ht hW⟩, hS.F ht⟩) hS.2.2 d_Mod_alter_64
        · have h := (if_neg c_6).symm.trans h
          refine lv_iconst (v := 2) hx hb d_Mod_alter_28 (by decide) ?_
          refine lv_goto (tgt := 33) hx hb d_Mod_alter_29 (by decide) ?_
          refine va_put (D := (dC, dI)) (ci := 4) (v := .int (2 : Int32)) (ty := .int) (C := R_Mod) (T := T_Mod) (N := 27) hx hb hB in_Mod ty_Mod tyok_Mod nd_Mod hown hK hP hD hS 0 rfl rfl 0 (by decide) (hB _ wd_218) (fun _ h9 => h9) rfl (by decide +kernel) rfl rfl (Nat.le_of_ble_eq_true rfl) d_Mod_alter_33 (fun H locs hP hD hS => ?_)
          have hP : va_P (dC, dI) vwCl (x_Mod ad cs (2 : Int32) m_kind m_steps m_size m_ran m_parts m_taken m_lacked m_decodings m_failures m_at m_end m_many m_wrong m_bytes m_heads m_numbers m_codes m_sizes m_guessed m_results m_values m_states m_came m_boxes m_single m_rows) H := hP
          have hD : va_D A (x_Mod ad cs (2 : Int32) m_kind m_steps m_size m_ran m_parts m_taken m_lacked m_decodings m_failures m_at m_end m_many m_wrong m_bytes m_heads m_numbers m_codes m_sizes m_guessed m_results m_values m_states m_came m_boxes m_single m_rows) := hD
          refine lv_aload_n hx hb d_Mod_alter_36 rfl (lv_at hl 0 rfl) ?_
          refine va_get (D := (dC, dI)) (ci := 4) (v := .int (2 : Int32)) (C := R_Mod) (T := T_Mod) (N := 27) hx hb hB in_Mod hown hK hP 0 rfl rfl 0 (by decide) (hB _ wd_218) (fun _ h9 => h9) rfl d_Mod_alter_37 ?_
          refine lv_if_le (tgt := 45) hx hb d_Mod_alter_40 (by decide) (fun c9 => absurd c9 (by decide)) (fun _ => ?_)
          refine lv_iconst (v := 0) hx hb d_Mod_alter_43 (by decide) ?_
          have h := Option.some.inj h
          subst h
          exact W.iret hx hb hr (fun t ht hW => ⟨⟨_, (), rfl, rfl, AftW_mk hK hP hD ht hW⟩, hS.F ht⟩) hS.2.2 d_Mod_alter_44
    · have h := (if_neg c_3).symm.trans h
      refine lv_iconst (v := 1) hx hb d_Mod_alter_13 (by decide) ?_
      refine lv_goto (tgt := 33) hx hb d_Mod_alter_14 (by decide) ?_
      refine va_put (D := (dC, dI)) (ci := 4) (v := .int (1 : Int32)) (ty := .int) (C := R_Mod) (T := T_Mod) (N := 27) hx hb hB in_Mod ty_Mod tyok_Mod nd_Mod hown hK hP hD hS 0 rfl rfl 0 (by decide) (hB _ wd_218) (fun _ h9 => h9) rfl (by decide +kernel) rfl rfl (Nat.le_of_ble_eq_true rfl) d_Mod_alter_33 (fun H locs hP hD hS => ?_)
      have hP : va_P (dC, dI) vwCl (x_Mod ad cs (1 : Int32) m_kind m_steps m_size m_ran m_parts m_taken m_lacked m_decodings m_failures m_at m_end m_many m_wrong m_bytes m_heads m_numbers m_codes m_sizes m_guessed m_results m_values m_states m_came m_boxes m_single m_rows) H := hP
      have hD : va_D A (x_Mod ad cs (1 : Int32) m_kind m_steps m_size m_ran m_parts m_taken m_lacked m_decodings m_failures m_at m_end m_many m_wrong m_bytes m_heads m_numbers m_codes m_sizes m_guessed m_results m_values m_states m_came m_boxes m_single m_rows) := hD
      refine lv_aload_n hx hb d_Mod_alter_36 rfl (lv_at hl 0 rfl) ?_
      refine va_get (D := (dC, dI)) (ci := 4) (v := .int (1 : Int32)) (C := R_Mod) (T := T_Mod) (N := 27) hx hb hB in_Mod hown hK hP 0 rfl rfl 0 (by decide) (hB _ wd_218) (fun _ h9 => h9) rfl d_Mod_alter_37 ?_
      refine lv_if_le (tgt := 45) hx hb d_Mod_alter_40 (by decide) (fun c9 => absurd c9 (by decide)) (fun _ => ?_)
      refine lv_iconst (v := 0) hx hb d_Mod_alter_43 (by decide) ?_
      have h := Option.some.inj h
      subst h
      exact W.iret hx hb hr (fun t ht hW => ⟨⟨_, (), rfl, rfl, AftW_mk hK hP hD ht hW⟩, hS.F ht⟩) hS.2.2 d_Mod_alter_44
