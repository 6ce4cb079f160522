def d_Law_feed (N : Nat) (x1 : Int64) (x3 : Int32) (byteCount : Int32) (partCount : Int32) (hasRun : Int32) (bytes : Nat → Int32) (outv : Nat → Int64) : Option (Int32 × Int32 × Int32 × Int32 × (Nat → Int32) × (Nat → Int64)) :=
 (d_MR_feed N x1 x3 byteCount partCount hasRun bytes).bind (fun o1 => exC o1 (fun E => if E = "java/lang/IllegalArgumentException" then some ((1 : Int32), byteCount, partCount, hasRun, bytes, outv) else if E = "java/lang/UnsupportedOperationException" then some ((2 : Int32), byteCount, partCount, hasRun, bytes, outv) else none) (fun u1 => some ((0 : Int32), u1.2.1, u1.2.2.1, u1.2.2.2.1, u1.2.2.2.2, vp_updL outv (0 : Int32).toNatClampNeg u1.1.toInt64)))
abbrev rm_Law_feed : Room := { frames := 7, cells := 1, slots := 6, locals := 106 }
set_option maxHeartbeats 4000000 in
set_option maxRecDepth 100000 in
theorem c_Law_feed (l : Launch) (hlt : l.stackTraces = false) (dC : Nat → ClassId) (dI : Nat → Nat → Nat) (tt : Nat → Nat) (ad : Nat → Nat) (cs : Nat → ClassId) (e1 : Nat) (ce1 : ClassId) (r1 : Nat → Nat) (rc1 : ClassId) (r2 : Nat → Nat) (rc2 : ClassId) (sz N : Nat) (x1 : Int64) (x3 : Int32) (kind : Int32) (steps : Int32) (byteCount : Int32) (partCount : Int32) (stepsTaken : Int32) (hasRun : Int32) (lackedSteps : Int32) (decodings : Int32) (thrownDecodings : Int32) (bytes : Nat → Int32) (size : Int32) (count : Int32) (data : Nat → Int32) (made : Nat → Int32) (holds : Nat → Int32) (numbers : Nat → Int32) (lengths : Nat → Int32) (values : Nat → Int32) (states : Nat → Int32) (rows : Nat → Nat → Int32) (parts : Nat → Nat → Int32) (outv : Nat → Int64) (out : Int32 × Int32 × Int32 × Int32 × (Nat → Int32) × (Nat → Int64)) (h : d_Law_feed N x1 x3 byteCount partCount hasRun bytes outv = some out) :
    Met l y_Law_feed (w_Law_feed) rm_Law_feed (va_Pc [.ref (ad 0), .long x1, .int x3, .ref e1] (PreW (dC, dI) [((cs 1), .int), ((cs 2), .array .int), ((cs 4), .int), ((cs 5), .int), ((cs 7), .int), ((cs 8), .int), ((cs 9), .int), ((cs 10), .array .int), ((cs 12), .int), ((cs 13), .int), (ce1, .long), (rc1, .int), (rc2, .int)] (((x_MR ad cs r1 r2 kind steps byteCount partCount stepsTaken hasRun lackedSteps decodings thrownDecodings bytes size count data made holds numbers lengths values states) ++ [(e1, .inl (ce1, 1, .inr (.inl outv)))]) ++ (gw 8 r1 rc1 5 rows ++ gw 16 r2 rc2 6 parts)) sz tt)) (va_Qi (fun (r : Int32) (_ : Unit) => r = out.1) (fun _ => AftW (dC, dI) [((cs 1), .int), ((cs 2), .array .int), ((cs 4), .int), ((cs 5), .int), ((cs 7), .int), ((cs 8), .int), ((cs 9), .int), ((cs 10), .array .int), ((cs 12), .int), ((cs 13), .int), (ce1, .long), (rc1, .int), (rc2, .int)] (va_A (((x_MR ad cs r1 r2 kind steps byteCount partCount stepsTaken hasRun lackedSteps decodings thrownDecodings bytes size count data made holds numbers lengths values states) ++ [(e1, .inl (ce1, 1, .inr (.inl outv)))]) ++ (gw 8 r1 rc1 5 rows ++ gw 16 r2 rc2 6 parts)) sz) (((x_MR ad cs r1 r2 kind steps out.2.1 out.2.2.1 stepsTaken out.2.2.2.1 lackedSteps decodings thrownDecodings out.2.2.2.2.1 size count data made holds numbers lengths values states) ++ [(e1, .inl (ce1, 1, .inr (.inl out.2.2.2.2.2)))]) ++ (gw 8 r1 rc1 5 rows ++ gw 16 r2 rc2 6 parts))) (va_A (((x_MR ad cs r1 r2 kind steps byteCount partCount stepsTaken hasRun lackedSteps decodings thrownDecodings bytes size count data made holds numbers lengths values states) ++ [(e1, .inl (ce1, 1, .inr (.inl outv)))]) ++ (gw 8 r1 rc1 5 rows ++ gw 16 r2 rc2 6 parts)) sz)) 1 6 (va_A (((x_MR ad cs r1 r2 kind steps byteCount partCount stepsTaken hasRun lackedSteps decodings thrownDecodings bytes size count data made holds numbers lengths values states) ++ [(e1, .inl (ce1, 1, .inr (.inl outv)))]) ++ (gw 8 r1 rc1 5 rows ++ gw 16 r2 rc2 6 parts)) sz) := by
  refine va_MetW (cc := k_Law_feed) (maxL := 6) (ret := (some .int)) (hh := [(0, 11, 14, 13), (0, 11, 18, 15)]) (by decide) rfl ?_
  intro p e s m args below meth c s₁ B hml hv
  obtain ⟨rfl, hsz, hP, hK, hD0, hG⟩ := hv
  have hx := B.exec
  have hb := B.bytes
  have hr := B.returns
  have hts := atoms_spec (ws := (w_Law_feed)) B.pre
  have hB : ∀ w ∈ BIG, w.before _ s = true := fun w h9 => hts w (List.mem_cons_of_mem _ h9)
  have hown : s.vm.findClass R_Law = some m.cls := findClass_of_methodNamed B.named
  have htab : c.exceptionTable.toList = tableOf [(0, 11, 14, 13), (0, 11, 18, 15)] := vx_table (x := y_Law_feed) B (hts _ List.mem_cons_self)
  have hlocks := B.notSynchronized
  subst hsz
  have hD := hD0.self (sz := s.heap.size)
  generalize hAe : va_A (((x_MR ad cs r1 r2 kind steps byteCount partCount stepsTaken hasRun lackedSteps decodings thrownDecodings bytes size count data made holds numbers lengths values states) ++ [(e1, .inl (ce1, 1, .inr (.inl outv)))]) ++ (gw 8 r1 rc1 5 rows ++ gw 16 r2 rc2 6 parts)) s.heap.size = A at hD hG ⊢
  have hA : ∀ q : Nat, s.heap.size ≤ q → A q := fun q h => by rw [← hAe]; exact Or.inr h
  have hS : va_S A s.heap s.heap [] := va_S.rf
  have hl := lv_entry ([.ref (ad 0), .long x1, .int x3, .ref e1]) (n := 6) (Nat.le_of_ble_eq_true rfl)
  rw [lg_entry_eq]
  generalize (lg_sl ([.ref (ad 0), .long x1, .int x3, .ref e1]) ++ List.replicate (6 - (lg_sl ([.ref (ad 0), .long x1, .int x3, .ref e1])).length) Slot.unset).toArray = ls at hl ⊢
  have hl : lv_has ls 6 [(0, .ref (ad 0)), (1, .long x1), (3, .int x3), (4, .ref e1)] := hl
  unfold d_Law_feed at h
  refine lv_aload hx hb d_Law_feed_0 (lv_at hl 3 rfl) ?_
  refine lv_iconst (v := 0) hx hb d_Law_feed_2 (by decide) ?_
  refine lv_aload_n hx hb d_Law_feed_3 rfl (lv_at hl 0 rfl) ?_
  refine lv_lload_n hx hb d_Law_feed_4 rfl (lv_at hl 1 rfl) ?_
  refine lv_iload_n hx hb d_Law_feed_5 rfl (lv_at hl 2 rfl) ?_
  obtain ⟨o1, ho1, h⟩ := Option.bind_eq_some_iff.mp h
  have hKc := hK.sub (tys' := [((cs 1), .int), ((cs 2), .array .int), ((cs 4), .int), ((cs 5), .int), ((cs 7), .int), ((cs 8), .int), ((cs 9), .int), ((cs 10), .array .int), ((cs 12), .int), ((cs 13), .int), (rc1, .int), (rc2, .int)]) [0, 1, 2, 3, 4, 5, 6, 7, 8, 9, 11, 12] rfl
  have hPc := hP.part (cx := x_MR ad cs r1 r2 kind steps byteCount partCount stepsTaken hasRun lackedSteps decodings thrownDecodings bytes size count data made holds numbers lengths values states) [0, 1, 2, 3, 4, 5, 6, 7, 8, 9, 10, 11, 12, 13] rfl
  have hDc := hD.part (cx := x_MR ad cs r1 r2 kind steps byteCount partCount stepsTaken hasRun lackedSteps decodings thrownDecodings bytes size count data made holds numbers lengths values states) [0, 1, 2, 3, 4, 5, 6, 7, 8, 9, 10, 11, 12, 13] (by decide) rfl
  have hFc := va_freeP (cx := x_MR ad cs r1 r2 kind steps byteCount partCount stepsTaken hasRun lackedSteps decodings thrownDecodings bytes size count data made holds numbers lengths values states) hD hS hA [0, 1, 2, 3, 4, 5, 6, 7, 8, 9, 10, 11, 12, 13] rfl
  refine vx_calli (vx_runV (As := [.long x1, .int x3]) (rest := [.int (0 : Int32), .ref e1]) ⟨hx, hb, hml, hown, hB⟩ (c_MR_feed l hlt dC dI tt ad cs r1 rc1 r2 rc2 s.heap.size N x1 x3 kind steps byteCount partCount stepsTaken hasRun lackedSteps decodings thrownDecodings bytes size count data made holds numbers lengths values states rows parts o1 ho1) (cwV 2 hB (gV wd_326 wd_324 wd_323 wd_105 wd_325) rfl rfl rfl (by decide +kernel) ⟨Nat.le_of_ble_eq_true rfl, Nat.le_of_ble_eq_true rfl⟩) ⟨PreW_blind, va_recv hKc hPc (ci := 0) (q0 := 0) rfl rfl, PreW_mk hKc hPc hDc hG hS hFc⟩ rfl rfl hl.1 rfl (lv_room (Nat.le_of_ble_eq_true rfl)) d_Law_feed_6 ⟨Nat.le_of_ble_eq_true rfl, Nat.le_of_ble_eq_true rfl⟩) hS (fun q _ h => hFc q h) hFc (fun q _ h => hFc q h) (fun E ce q9 u_1 t H1 locs ht hvm hw hB hz1 hk1 hS hce hcv hcl => ?_) (fun r_1 u1 t H1 locs ht hvm hw hB hz1 hk1 hS => ?_)
  · obtain ⟨heE, hB⟩ := hB
    subst heE
    obtain ⟨hP1, hK1, hD1⟩ := hB
    rw [ht] at hP1
    obtain ⟨hP, hD⟩ := va_joinP (wr := pick ((x_MR ad cs r1 r2 kind steps byteCount partCount stepsTaken hasRun lackedSteps decodings thrownDecodings bytes size count data made holds numbers lengths values states) ++ [(e1, .inl (ce1, 1, .inr (.inl outv)))]) [14]) hP hD [0, 1, 2, 3, 4, 5, 6, 7, 8, 9, 10, 11, 12, 13] [14] rfl rfl (by decide) (by decide) hk1 hFc hP1 hD1
    generalize H1 = H at hP hS hce ⊢
    have hP : va_P (dC, dI) vwCl (((x_MR ad cs r1 r2 kind steps byteCount partCount stepsTaken hasRun lackedSteps decodings thrownDecodings bytes size count data made holds numbers lengths values states) ++ [(e1, .inl (ce1, 1, .inr (.inl outv)))]) ++ (gw 8 r1 rc1 5 rows ++ gw 16 r2 rc2 6 parts)) H := hP.part (cx := (x_MR ad cs r1 r2 kind steps byteCount partCount stepsTaken hasRun lackedSteps decodings thrownDecodings bytes size count data made holds numbers lengths values states) ++ [(e1, .inl (ce1, 1, .inr (.inl outv)))]) [1, 2, 3, 4, 5, 6, 7, 8, 9, 10, 11, 12, 13, 14, 0] rfl
    have hD : va_D A (((x_MR ad cs r1 r2 kind steps byteCount partCount stepsTaken hasRun lackedSteps decodings thrownDecodings bytes size count data made holds numbers lengths values states) ++ [(e1, .inl (ce1, 1, .inr (.inl outv)))]) ++ (gw 8 r1 rc1 5 rows ++ gw 16 r2 rc2 6 parts)) := hD.part (cx := (x_MR ad cs r1 r2 kind steps byteCount partCount stepsTaken hasRun lackedSteps decodings thrownDecodings bytes size count data made holds numbers lengths values states) ++ [(e1, .inl (ce1, 1, .inr (.inl outv)))]) [1, 2, 3, 4, 5, 6, 7, 8, 9, 10, 11, 12, 13, 14, 0] (by decide) rfl
    have h := exC_er h
    by_cases c_2 : E = "java/lang/IllegalArgumentException"
    · have h := (if_pos c_2).symm.trans h
      subst c_2
      refine vx_widen (k := 1) (n := 6) (by decide) (by decide) ?_
      refine vx_catch (E := "java/lang/IllegalArgumentException") hown [] ⟨0, 11, 14, 13⟩ [⟨0, 11, 18, 15⟩] htab (fun z hz => absurd hz List.not_mem_nil) rfl (by decide) (hB _ wd_327) (va_Nw.use rfl (hG.1 _ (nw_at (i := 12) rfl))) hce hcv hcl ?_
      refine lv_astore (lv' := [(5, .ref q9), (0, .ref (ad 0)), (1, .long x1), (3, .int x3), (4, .ref e1)]) hx hb d_Law_feed_14 hl (by decide) rfl (fun ls hl => ?_)
      refine lv_iconst (v := 1) hx hb d_Law_feed_16 (by decide) ?_
      have h := Option.some.inj h
      subst h
      exact W.iret hx hb hr (fun t ht hW => ⟨⟨_, (), rfl, rfl, AftW_mk hK hP hD ht hW⟩, hS.F ht⟩) hS.2.2 d_Law_feed_17
    have h := (if_neg c_2).symm.trans h
    by_cases c_3 : E = "java/lang/UnsupportedOperationException"
    · have h := (if_pos c_3).symm.trans h
      subst c_3
      refine vx_widen (k := 1) (n := 6) (by decide) (by decide) ?_
      refine vx_catch (E := "java/lang/UnsupportedOperationException") hown [⟨0, 11, 14, 13⟩] ⟨0, 11, 18, 15⟩ [] htab (fun z hz => by rw [List.mem_singleton] at hz; subst hz; exact Or.inr ⟨by decide, "java/lang/IllegalArgumentException", hB _ wd_327, GG_nc hG (i := 0) rfl⟩) rfl (by decide) (hB _ wd_328) (va_Nw.use rfl (hG.1 _ (nw_at (i := 19) rfl))) hce hcv hcl ?_
      refine lv_astore (lv' := [(5, .ref q9), (0, .ref (ad 0)), (1, .long x1), (3, .int x3), (4, .ref e1)]) hx hb d_Law_feed_18 hl (by decide) rfl (fun ls hl => ?_)
      refine lv_iconst (v := 2) hx hb d_Law_feed_20 (by decide) ?_
      have h := Option.some.inj h
      subst h
      exact W.iret hx hb hr (fun t ht hW => ⟨⟨_, (), rfl, rfl, AftW_mk hK hP hD ht hW⟩, hS.F ht⟩) hS.2.2 d_Law_feed_21
    have h := (if_neg c_3).symm.trans h
    cases h
  obtain ⟨heE, hw⟩ := hw
  subst heE
  have hw := hw.symm
  subst hw
  have h := exC_ok h
  obtain ⟨hP1, hK1, hD1⟩ := hB
  rw [ht] at hP1
  obtain ⟨hP, hD⟩ := va_joinP (wr := pick ((x_MR ad cs r1 r2 kind steps byteCount partCount stepsTaken hasRun lackedSteps decodings thrownDecodings bytes size count data made holds numbers lengths values states) ++ [(e1, .inl (ce1, 1, .inr (.inl outv)))]) [14]) hP hD [0, 1, 2, 3, 4, 5, 6, 7, 8, 9, 10, 11, 12, 13] [14] rfl rfl (by decide) (by decide) hk1 hFc hP1 hD1
  generalize H1 = H at hP hS ⊢
  have hP : va_P (dC, dI) vwCl (((x_MR ad cs r1 r2 kind steps u1.2.1 u1.2.2.1 stepsTaken u1.2.2.2.1 lackedSteps decodings thrownDecodings u1.2.2.2.2 size count data made holds numbers lengths values states) ++ [(e1, .inl (ce1, 1, .inr (.inl outv)))]) ++ (gw 8 r1 rc1 5 rows ++ gw 16 r2 rc2 6 parts)) H := hP.part (cx := (x_MR ad cs r1 r2 kind steps u1.2.1 u1.2.2.1 stepsTaken u1.2.2.2.1 lackedSteps decodings thrownDecodings u1.2.2.2.2 size count data made holds numbers lengths values states) ++ [(e1, .inl (ce1, 1, .inr (.inl outv)))]) [1, 2, 3, 4, 5, 6, 7, 8, 9, 10, 11, 12, 13, 14, 0] rfl
  have hD : va_D A (((x_MR ad cs r1 r2 kind steps u1.2.1 u1.2.2.1 stepsTaken u1.2.2.2.1 lackedSteps decodings thrownDecodings u1.2.2.2.2 size count data made holds numbers lengths values states) ++ [(e1, .inl (ce1, 1, .inr (.inl outv)))]) ++ (gw 8 r1 rc1 5 rows ++ gw 16 r2 rc2 6 parts)) := hD.part (cx := (x_MR ad cs r1 r2 kind steps u1.2.1 u1.2.2.1 stepsTaken u1.2.2.2.1 lackedSteps decodings thrownDecodings u1.2.2.2.2 size count data made holds numbers lengths values states) ++ [(e1, .inl (ce1, 1, .inr (.inl outv)))]) [1, 2, 3, 4, 5, 6, 7, 8, 9, 10, 11, 12, 13, 14, 0] (by decide) rfl
  refine W.widen (k := 1) (n := 6) (by decide) (by decide) ?_
  refine lv_i2l hx hb d_Law_feed_9 rfl ?_
  refine va_last hx hb hK hP hD hS 14 10 rfl rfl (show ¬ ((0 : Int32) < 0 ∨ 1 ≤ (0 : Int32).toNatClampNeg) from by decide) d_Law_feed_10 (fun H locs hP hD hS => ?_)
  have hP : va_P (dC, dI) vwCl (((x_MR ad cs r1 r2 kind steps u1.2.1 u1.2.2.1 stepsTaken u1.2.2.2.1 lackedSteps decodings thrownDecodings u1.2.2.2.2 size count data made holds numbers lengths values states) ++ [(e1, .inl (ce1, 1, .inr (.inl (vp_updL outv (0 : Int32).toNatClampNeg u1.1.toInt64))))]) ++ (gw 8 r1 rc1 5 rows ++ gw 16 r2 rc2 6 parts)) H := hP
  have hD : va_D A (((x_MR ad cs r1 r2 kind steps u1.2.1 u1.2.2.1 stepsTaken u1.2.2.2.1 lackedSteps decodings thrownDecodings u1.2.2.2.2 size count data made holds numbers lengths values states) ++ [(e1, .inl (ce1, 1, .inr (.inl (vp_updL outv (0 : Int32).toNatClampNeg u1.1.toInt64))))]) ++ (gw 8 r1 rc1 5 rows ++ gw 16 r2 rc2 6 parts)) := hD
  refine lv_goto (tgt := 22) hx hb d_Law_feed_11 (by decide) ?_
  refine lv_iconst (v := 0) hx hb d_Law_feed_22 (by decide) ?_
  have h := Option.some.inj h
  subst h
  exact W.iret hx hb hr (fun t ht hW => ⟨⟨_, (), rfl, rfl, AftW_mk hK hP hD ht hW⟩, hS.F ht⟩) hS.2.2 d_Law_feed_23
def d_Law_alter (N : Nat) (x1 : Int32) (x2 : Int32) (byteCount : Int32) (partCount : Int32) (hasRun : Int32) (bytes : Nat → Int32) (outv : Nat → Int64) : Option (Int32 × Int32 × Int32 × (Nat → Int32) × (Nat → Int64)) :=
 (d_MR_alter N x1 x2 byteCount partCount hasRun bytes).bind (fun o1 => exC o1 (fun E => if E = "java/lang/IndexOutOfBoundsException" then some ((1 : Int32), partCount, hasRun, bytes, outv) else if E = "java/lang/IllegalArgumentException" then some ((2 : Int32), partCount, hasRun, bytes, outv) else none) (fun u1 => some ((0 : Int32), u1.2.1, u1.2.2.1, u1.2.2.2, vp_updL outv (0 : Int32).toNatClampNeg u1.1.toInt64)))
abbrev rm_Law_alter : Room := { frames := 7, cells := 1, slots := 6, locals := 105 }
set_option maxHeartbeats 4000000 in
set_option maxRecDepth 100000 in
theorem c_Law_alter (l : Launch) (hlt : l.stackTraces = false) (dC : Nat → ClassId) (dI : Nat → Nat → Nat) (tt : Nat → Nat) (ad : Nat → Nat) (cs : Nat → ClassId) (e1 : Nat) (ce1 : ClassId) (r1 : Nat → Nat) (rc1 : ClassId) (r2 : Nat → Nat) (rc2 : ClassId) (sz N : Nat) (x1 : Int32) (x2 : Int32) (kind : Int32) (steps : Int32) (byteCount : Int32) (partCount : Int32) (stepsTaken : Int32) (hasRun : Int32) (lackedSteps : Int32) (decodings : Int32) (thrownDecodings : Int32) (bytes : Nat → Int32) (size : Int32) (count : Int32) (data : Nat → Int32) (made : Nat → Int32) (holds : Nat → Int32) (numbers : Nat → Int32) (lengths : Nat → Int32) (values : Nat → Int32) (states : Nat → Int32) (rows : Nat → Nat → Int32) (parts : Nat → Nat → Int32) (outv : Nat → Int64) (out : Int32 × Int32 × Int32 × (Nat → Int32) × (Nat → Int64)) (h : d_Law_alter N x1 x2 byteCount partCount hasRun bytes outv = some out) :
    Met l y_Law_alter (w_Law_alter) rm_Law_alter (va_Pc [.ref (ad 0), .int x1, .int x2, .ref e1] (PreW (dC, dI) [((cs 1), .int), ((cs 2), .array .int), ((cs 4), .int), ((cs 5), .int), ((cs 7), .int), ((cs 8), .int), ((cs 9), .int), ((cs 10), .array .int), ((cs 12), .int), ((cs 13), .int), (ce1, .long), (rc1, .int), (rc2, .int)] (((x_MR ad cs r1 r2 kind steps byteCount partCount stepsTaken hasRun lackedSteps decodings thrownDecodings bytes size count data made holds numbers lengths values states) ++ [(e1, .inl (ce1, 1, .inr (.inl outv)))]) ++ (gw 8 r1 rc1 5 rows ++ gw 16 r2 rc2 6 parts)) sz tt)) (va_Qi (fun (r : Int32) (_ : Unit) => r = out.1) (fun _ => AftW (dC, dI) [((cs 1), .int), ((cs 2), .array .int), ((cs 4), .int), ((cs 5), .int), ((cs 7), .int), ((cs 8), .int), ((cs 9), .int), ((cs 10), .array .int), ((cs 12), .int), ((cs 13), .int), (ce1, .long), (rc1, .int), (rc2, .int)] (va_A (((x_MR ad cs r1 r2 kind steps byteCount partCount stepsTaken hasRun lackedSteps decodings thrownDecodings bytes size count data made holds numbers lengths values states) ++ [(e1, .inl (ce1, 1, .inr (.inl outv)))]) ++ (gw 8 r1 rc1 5 rows ++ gw 16 r2 rc2 6 parts)) sz) (((x_MR ad cs r1 r2 kind steps byteCount out.2.1 stepsTaken out.2.2.1 lackedSteps decodings thrownDecodings out.2.2.2.1 size count data made holds numbers lengths values states) ++ [(e1, .inl (ce1, 1, .inr (.inl out.2.2.2.2)))]) ++ (gw 8 r1 rc1 5 rows ++ gw 16 r2 rc2 6 parts))) (va_A (((x_MR ad cs r1 r2 kind steps byteCount partCount stepsTaken hasRun lackedSteps decodings thrownDecodings bytes size count data made holds numbers lengths values states) ++ [(e1, .inl (ce1, 1, .inr (.inl outv)))]) ++ (gw 8 r1 rc1 5 rows ++ gw 16 r2 rc2 6 parts)) sz)) 1 6 (va_A (((x_MR ad cs r1 r2 kind steps byteCount partCount stepsTaken hasRun lackedSteps decodings thrownDecodings bytes size count data made holds numbers lengths values states) ++ [(e1, .inl (ce1, 1, .inr (.inl outv)))]) ++ (gw 8 r1 rc1 5 rows ++ gw 16 r2 rc2 6 parts)) sz) := by
  refine va_MetW (cc := k_Law_alter) (maxL := 5) (ret := (some .int)) (hh := [(0, 10, 13, 21), (0, 10, 17, 13)]) (by decide) rfl ?_
  intro p e s m args below meth c s₁ B hml hv
  obtain ⟨rfl, hsz, hP, hK, hD0, hG⟩ := hv
  have hx := B.exec
  have hb := B.bytes
  have hr := B.returns
  have hts := atoms_spec (ws := (w_Law_alter)) B.pre
  have hB : ∀ w ∈ BIG, w.before _ s = true := fun w h9 => hts w (List.mem_cons_of_mem _ h9)
  have hown : s.vm.findClass R_Law = some m.cls := findClass_of_methodNamed B.named
  have htab : c.exceptionTable.toList = tableOf [(0, 10, 13, 21), (0, 10, 17, 13)] := vx_table (x := y_Law_alter) B (hts _ List.mem_cons_self)
  have hlocks := B.notSynchronized
  subst hsz
  have hD := hD0.self (sz := s.heap.size)
  generalize hAe : va_A (((x_MR ad cs r1 r2 kind steps byteCount partCount stepsTaken hasRun lackedSteps decodings thrownDecodings bytes size count data made holds numbers lengths values states) ++ [(e1, .inl (ce1, 1, .inr (.inl outv)))]) ++ (gw 8 r1 rc1 5 rows ++ gw 16 r2 rc2 6 parts)) s.heap.size = A at hD hG ⊢
  have hA : ∀ q : Nat, s.heap.size ≤ q → A q := fun q h => by rw [← hAe]; exact Or.inr h
  have hS : va_S A s.heap s.heap [] := va_S.rf
  have hl := lv_entry ([.ref (ad 0), .int x1, .int x2, .ref e1]) (n := 5) (Nat.le_of_ble_eq_true rfl)
  rw [lg_entry_eq]
  generalize (lg_sl ([.ref (ad 0), .int x1, .int x2, .ref e1]) ++ List.replicate (5 - (lg_sl ([.ref (ad 0), .int x1, .int x2, .ref e1])).length) Slot.unset).toArray = ls at hl ⊢
  have hl : lv_has ls 5 [(0, .ref (ad 0)), (1, .int x1), (2, .int x2), (3, .ref e1)] := hl
  unfold d_Law_alter at h
  refine lv_aload_n hx hb d_Law_alter_0 rfl (lv_at hl 3 rfl) ?_
  refine lv_iconst (v := 0) hx hb d_Law_alter_1 (by decide) ?_
  refine lv_aload_n hx hb d_Law_alter_2 rfl (lv_at hl 0 rfl) ?_
  refine lv_iload_n hx hb d_Law_alter_3 rfl (lv_at hl 1 rfl) ?_
  refine lv_iload_n hx hb d_Law_alter_4 rfl (lv_at hl 2 rfl) ?_
  obtain ⟨o1, ho1, h⟩ := Option.bind_eq_some_iff.mp h
  have hKc := hK.sub (tys' := [((cs 1), .int), ((cs 2), .array .int), ((cs 4), .int), ((cs 5), .int), ((cs 7), .int), ((cs 8), .int), ((cs 9), .int), ((cs 10), .array .int), ((cs 12), .int), ((cs 13), .int), (rc1, .int), (rc2, .int)]) [0, 1, 2, 3, 4, 5, 6, 7, 8, 9, 11, 12] rfl
  have hPc := hP.part (cx := x_MR ad cs r1 r2 kind steps byteCount partCount stepsTaken hasRun lackedSteps decodings thrownDecodings bytes size count data made holds numbers lengths values states) [0, 1, 2, 3, 4, 5, 6, 7, 8, 9, 10, 11, 12, 13] rfl
  have hDc := hD.part (cx := x_MR ad cs r1 r2 kind steps byteCount partCount stepsTaken hasRun lackedSteps decodings thrownDecodings bytes size count data made holds numbers lengths values states) [0, 1, 2, 3, 4, 5, 6, 7, 8, 9, 10, 11, 12, 13] (by decide) rfl
  have hFc := va_freeP (cx := x_MR ad cs r1 r2 kind steps byteCount partCount stepsTaken hasRun lackedSteps decodings thrownDecodings bytes size count data made holds numbers lengths values states) hD hS hA [0, 1, 2, 3, 4, 5, 6, 7, 8, 9, 10, 11, 12, 13] rfl
  refine vx_calli (vx_runV (As := [.int x1, .int x2]) (rest := [.int (0 : Int32), .ref e1]) ⟨hx, hb, hml, hown, hB⟩ (c_MR_alter l hlt dC dI tt ad cs r1 rc1 r2 rc2 s.heap.size N x1 x2 kind steps byteCount partCount stepsTaken hasRun lackedSteps decodings thrownDecodings bytes size count data made holds numbers lengths values states rows parts o1 ho1) (cwV 2 hB (gV wd_332 wd_330 wd_329 wd_105 wd_331) rfl rfl rfl (by decide +kernel) ⟨Nat.le_of_ble_eq_true rfl, Nat.le_of_ble_eq_true rfl⟩) ⟨PreW_blind, va_recv hKc hPc (ci := 0) (q0 := 0) rfl rfl, PreW_mk hKc hPc hDc hG hS hFc⟩ rfl rfl hl.1 rfl (lv_room (Nat.le_of_ble_eq_true rfl)) d_Law_alter_5 ⟨Nat.le_of_ble_eq_true rfl, Nat.le_of_ble_eq_true rfl⟩) hS (fun q _ h => hFc q h) hFc (fun q _ h => hFc q h) (fun E ce q9 u_1 t H1 locs ht hvm hw hB hz1 hk1 hS hce hcv hcl => ?_) (fun r_1 u1 t H1 locs ht hvm hw hB hz1 hk1 hS => ?_)
  · obtain ⟨heE, hB⟩ := hB
    subst heE
    obtain ⟨hP1, hK1, hD1⟩ := hB
    rw [ht] at hP1
    obtain ⟨hP, hD⟩ := va_joinP (wr := pick ((x_MR ad cs r1 r2 kind steps byteCount partCount stepsTaken hasRun lackedSteps decodings thrownDecodings bytes size count data made holds numbers lengths values states) ++ [(e1, .inl (ce1, 1, .inr (.inl outv)))]) [14]) hP hD [0, 1, 2, 3, 4, 5, 6, 7, 8, 9, 10, 11, 12, 13] [14] rfl rfl (by decide) (by decide) hk1 hFc hP1 hD1
    generalize H1 = H at hP hS hce ⊢
    have hP : va_P (dC, dI) vwCl (((x_MR ad cs r1 r2 kind steps byteCount partCount stepsTaken hasRun lackedSteps decodings thrownDecodings bytes size count data made holds numbers lengths values states) ++ [(e1, .inl (ce1, 1, .inr (.inl outv)))]) ++ (gw 8 r1 rc1 5 rows ++ gw 16 r2 rc2 6 parts)) H := hP.part (cx := (x_MR ad cs r1 r2 kind steps byteCount partCount stepsTaken hasRun lackedSteps decodings thrownDecodings bytes size count data made holds numbers lengths values states) ++ [(e1, .inl (ce1, 1, .inr (.inl outv)))]) [1, 2, 3, 4, 5, 6, 7, 8, 9, 10, 11, 12, 13, 14, 0] rfl
    have hD : va_D A (((x_MR ad cs r1 r2 kind steps byteCount partCount stepsTaken hasRun lackedSteps decodings thrownDecodings bytes size count data made holds numbers lengths values states) ++ [(e1, .inl (ce1, 1, .inr (.inl outv)))]) ++ (gw 8 r1 rc1 5 rows ++ gw 16 r2 rc2 6 parts)) := hD.part (cx := (x_MR ad cs r1 r2 kind steps byteCount partCount stepsTaken hasRun lackedSteps decodings thrownDecodings bytes size count data made holds numbers lengths values states) ++ [(e1, .inl (ce1, 1, .inr (.inl outv)))]) [1, 2, 3, 4, 5, 6, 7, 8, 9, 10, 11, 12, 13, 14, 0] (by decide) rfl
    have h := exC_er h
    by_cases c_2 : E = "java/lang/IndexOutOfBoundsException"
    · have h := (if_pos c_2).symm.trans h
      subst c_2
      refine vx_widen (k := 1) (n := 6) (by decide) (by decide) ?_
      refine vx_catch (E := "java/lang/IndexOutOfBoundsException") hown [] ⟨0, 10, 13, 21⟩ [⟨0, 10, 17, 13⟩] htab (fun z hz => absurd hz List.not_mem_nil) rfl (by decide) (hB _ wd_333) (va_Nw.use rfl (hG.1 _ (nw_at (i := 20) rfl))) hce hcv hcl ?_
      refine lv_astore (lv' := [(4, .ref q9), (0, .ref (ad 0)), (1, .int x1), (2, .int x2), (3, .ref e1)]) hx hb d_Law_alter_13 hl (by decide) rfl (fun ls hl => ?_)
      refine lv_iconst (v := 1) hx hb d_Law_alter_15 (by decide) ?_
      have h := Option.some.inj h
      subst h
      exact W.iret hx hb hr (fun t ht hW => ⟨⟨_, (), rfl, rfl, AftW_mk hK hP hD ht hW⟩, hS.F ht⟩) hS.2.2 d_Law_alter_16
    have h := (if_neg c_2).symm.trans h
    by_cases c_3 : E = "java/lang/IllegalArgumentException"
    · have h := (if_pos c_3).symm.trans h
      subst c_3
      refine vx_widen (k := 1) (n := 6) (by decide) (by decide) ?_
      refine vx_catch (E := "java/lang/IllegalArgumentException") hown [⟨0, 10, 13, 21⟩] ⟨0, 10, 17, 13⟩ [] htab (fun z hz => by rw [List.mem_singleton] at hz; subst hz; exact Or.inr ⟨by decide, "java/lang/IndexOutOfBoundsException", hB _ wd_333, GG_nc hG (i := 1) rfl⟩) rfl (by decide) (hB _ wd_327) (va_Nw.use rfl (hG.1 _ (nw_at (i := 12) rfl))) hce hcv hcl ?_
      refine lv_astore (lv' := [(4, .ref q9), (0, .ref (ad 0)), (1, .int x1), (2, .int x2), (3, .ref e1)]) hx hb d_Law_alter_17 hl (by decide) rfl (fun ls hl => ?_)
      refine lv_iconst (v := 2) hx hb d_Law_alter_19 (by decide) ?_
      have h := Option.some.inj h
      subst h
      exact W.iret hx hb hr (fun t ht hW => ⟨⟨_, (), rfl, rfl, AftW_mk hK hP hD ht hW⟩, hS.F ht⟩) hS.2.2 d_Law_alter_20
    have h := (if_neg c_3).symm.trans h
    cases h
  obtain ⟨heE, hw⟩ := hw
  subst heE
  have hw := hw.symm
  subst hw
  have h := exC_ok h
  obtain ⟨hP1, hK1, hD1⟩ := hB
  rw [ht] at hP1
  obtain ⟨hP, hD⟩ := va_joinP (wr := pick ((x_MR ad cs r1 r2 kind steps byteCount partCount stepsTaken hasRun lackedSteps decodings thrownDecodings bytes size count data made holds numbers lengths values states) ++ [(e1, .inl (ce1, 1, .inr (.inl outv)))]) [14]) hP hD [0, 1, 2, 3, 4, 5, 6, 7, 8, 9, 10, 11, 12, 13] [14] rfl rfl (by decide) (by decide) hk1 hFc hP1 hD1
  generalize H1 = H at hP hS ⊢
  have hP : va_P (dC, dI) vwCl (((x_MR ad cs r1 r2 kind steps byteCount u1.2.1 stepsTaken u1.2.2.1 lackedSteps decodings thrownDecodings u1.2.2.2 size count data made holds numbers lengths values states) ++ [(e1, .inl (ce1, 1, .inr (.inl outv)))]) ++ (gw 8 r1 rc1 5 rows ++ gw 16 r2 rc2 6 parts)) H := hP.part (cx := (x_MR ad cs r1 r2 kind steps byteCount u1.2.1 stepsTaken u1.2.2.1 lackedSteps decodings thrownDecodings u1.2.2.2 size count data made holds numbers lengths values states) ++ [(e1, .inl (ce1, 1, .inr (.inl outv)))]) [1, 2, 3, 4, 5, 6, 7, 8, 9, 10, 11, 12, 13, 14, 0] rfl
  have hD : va_D A (((x_MR ad cs r1 r2 kind steps byteCount u1.2.1 stepsTaken u1.2.2.1 lackedSteps decodings thrownDecodings u1.2.2.2 size count data made holds numbers lengths values states) ++ [(e1, .inl (ce1, 1, .inr (.inl outv)))]) ++ (gw 8 r1 rc1 5 rows ++ gw 16 r2 rc2 6 parts)) := hD.part (cx := (x_MR ad cs r1 r2 kind steps byteCount u1.2.1 stepsTaken u1.2.2.1 lackedSteps decodings thrownDecodings u1.2.2.2 size count data made holds numbers lengths values states) ++ [(e1, .inl (ce1, 1, .inr (.inl outv)))]) [1, 2, 3, 4, 5, 6, 7, 8, 9, 10, 11, 12, 13, 14, 0] (by decide) rfl
  refine W.widen (k := 1) (n := 6) (by decide) (by decide) ?_
  refine lv_i2l hx hb d_Law_alter_8 rfl ?_
  refine va_last hx hb hK hP hD hS 14 10 rfl rfl (show ¬ ((0 : Int32) < 0 ∨ 1 ≤ (0 : Int32).toNatClampNeg) from by decide) d_Law_alter_9 (fun H locs hP hD hS => ?_)
  have hP : va_P (dC, dI) vwCl (((x_MR ad cs r1 r2 kind steps byteCount u1.2.1 stepsTaken u1.2.2.1 lackedSteps decodings thrownDecodings u1.2.2.2 size count data made holds numbers lengths values states) ++ [(e1, .inl (ce1, 1, .inr (.inl (vp_updL outv (0 : Int32).toNatClampNeg u1.1.toInt64))))]) ++ (gw 8 r1 rc1 5 rows ++ gw 16 r2 rc2 6 parts)) H := hP
  have hD : va_D A (((x_MR ad cs r1 r2 kind steps byteCount u1.2.1 stepsTaken u1.2.2.1 lackedSteps decodings thrownDecodings u1.2.2.2 size count data made holds numbers lengths values states) ++ [(e1, .inl (ce1, 1, .inr (.inl (vp_updL outv (0 : Int32).toNatClampNeg u1.1.toInt64))))]) ++ (gw 8 r1 rc1 5 rows ++ gw 16 r2 rc2 6 parts)) := hD
  refine lv_goto (tgt := 21) hx hb d_Law_alter_10 (by decide) ?_
  refine lv_iconst (v := 0) hx hb d_Law_alter_21 (by decide) ?_
  have h := Option.some.inj h
  subst h
  exact W.iret hx hb hr (fun t ht hW => ⟨⟨_, (), rfl, rfl, AftW_mk hK hP hD ht hW⟩, hS.F ht⟩) hS.2.2 d_Law_alter_22
def d_Law_part (N : Nat) (x1 : Int32) (x2 : Int32) (partCount : Int32) (hasRun : Int32) (parts : Nat → Nat → Int32) (outv : Nat → Int64) : Option (Int32 × (Nat → Int64)) :=
 (d_MR_part N x1 x2 partCount hasRun parts).bind (fun o1 => exC o1 (fun E => if E = "java/lang/IllegalStateException" then some ((1 : Int32), outv) else if E = "java/lang/IndexOutOfBoundsException" then some ((2 : Int32), outv) else none) (fun u1 => some ((0 : Int32), vp_updL outv (0 : Int32).toNatClampNeg u1.toInt64)))
abbrev rm_Law_part : Room := { frames := 9, cells := 2, slots := 12, locals := 145 }
set_option maxHeartbeats 4000000 in
set_option maxRecDepth 100000 in
theorem c_Law_part (l : Launch) (hlt : l.stackTraces = false) (dC : Nat → ClassId) (dI : Nat → Nat → Nat) (tt : Nat → Nat) (ad : Nat → Nat) (cs : Nat → ClassId) (e1 : Nat) (ce1 : ClassId) (r1 : Nat → Nat) (rc1 : ClassId) (r2 : Nat → Nat) (rc2 : ClassId) (sz N : Nat) (x1 : Int32) (x2 : Int32) (kind : Int32) (steps : Int32) (byteCount : Int32) (partCount : Int32) (stepsTaken : Int32) (hasRun : Int32) (lackedSteps : Int32) (decodings : Int32) (thrownDecodings : Int32) (bytes : Nat → Int32) (size : Int32) (count : Int32) (data : Nat → Int32) (made : Nat → Int32) (holds : Nat → Int32) (numbers : Nat → Int32) (lengths : Nat → Int32) (values : Nat → Int32) (states : Nat → Int32) (rows : Nat → Nat → Int32) (parts : Nat → Nat → Int32) (outv : Nat → Int64) (out : Int32 × (Nat → Int64)) (h : d_Law_part N x1 x2 partCount hasRun parts outv = some out) :
    Met l y_Law_part (w_Law_part) rm_Law_part (va_Pc [.ref (ad 0), .int x1, .int x2, .ref e1] (PreW (dC, dI) [((cs 1), .int), ((cs 2), .array .int), ((cs 4), .int), ((cs 5), .int), ((cs 7), .int), ((cs 8), .int), ((cs 9), .int), ((cs 10), .array .int), ((cs 12), .int), ((cs 13), .int), (ce1, .long), (rc1, .int), (rc2, .int)] (((x_MR ad cs r1 r2 kind steps byteCount partCount stepsTaken hasRun lackedSteps decodings thrownDecodings bytes size count data made holds numbers lengths values states) ++ [(e1, .inl (ce1, 1, .inr (.inl outv)))]) ++ (gw 8 r1 rc1 5 rows ++ gw 16 r2 rc2 6 parts)) sz tt)) (va_Qi (fun (r : Int32) (_ : Unit) => r = out.1) (fun _ => AftW (dC, dI) [((cs 1), .int), ((cs 2), .array .int), ((cs 4), .int), ((cs 5), .int), ((cs 7), .int), ((cs 8), .int), ((cs 9), .int), ((cs 10), .array .int), ((cs 12), .int), ((cs 13), .int), (ce1, .long), (rc1, .int), (rc2, .int)] (va_A (((x_MR ad cs r1 r2 kind steps byteCount partCount stepsTaken hasRun lackedSteps decodings thrownDecodings bytes size count data made holds numbers lengths values states) ++ [(e1, .inl (ce1, 1, .inr (.inl outv)))]) ++ (gw 8 r1 rc1 5 rows ++ gw 16 r2 rc2 6 parts)) sz) (((x_MR ad cs r1 r2 kind steps byteCount partCount stepsTaken hasRun lackedSteps decodings thrownDecodings bytes size count data made holds numbers lengths values states) ++ [(e1, .inl (ce1, 1, .inr (.inl out.2)))]) ++ (gw 8 r1 rc1 5 rows ++ gw 16 r2 rc2 6 parts))) (va_A (((x_MR ad cs r1 r2 kind steps byteCount partCount stepsTaken hasRun lackedSteps decodings thrownDecodings bytes size count data made holds numbers lengths values states) ++ [(e1, .inl (ce1, 1, .inr (.inl outv)))]) ++ (gw 8 r1 rc1 5 rows ++ gw 16 r2 rc2 6 parts)) sz)) 2 12 (va_A (((x_MR ad cs r1 r2 kind steps byteCount partCount stepsTaken hasRun lackedSteps decodings thrownDecodings bytes size count data made holds numbers lengths values states) ++ [(e1, .inl (ce1, 1, .inr (.inl outv)))]) ++ (gw 8 r1 rc1 5 rows ++ gw 16 r2 rc2 6 parts)) sz) := by
  refine va_MetW (cc := k_Law_part) (maxL := 5) (ret := (some .int)) (hh := [(0, 10, 13, 26), (0, 10, 17, 21)]) (by decide) rfl ?_
  intro p e s m args below meth c s₁ B hml hv
  obtain ⟨rfl, hsz, hP, hK, hD0, hG⟩ := hv
  have hx := B.exec
  have hb := B.bytes
  have hr := B.returns
  have hts := atoms_spec (ws := (w_Law_part)) B.pre
  have hB : ∀ w ∈ BIG, w.before _ s = true := fun w h9 => hts w (List.mem_cons_of_mem _ h9)
  have hown : s.vm.findClass R_Law = some m.cls := findClass_of_methodNamed B.named
  have htab : c.exceptionTable.toList = tableOf [(0, 10, 13, 26), (0, 10, 17, 21)] := vx_table (x := y_Law_part) B (hts _ List.mem_cons_self)
  have hlocks := B.notSynchronized
  subst hsz
  have hD := hD0.self (sz := s.heap.size)
  generalize hAe : va_A (((x_MR ad cs r1 r2 kind steps byteCount partCount stepsTaken hasRun lackedSteps decodings thrownDecodings bytes size count data made holds numbers lengths values states) ++ [(e1, .inl (ce1, 1, .inr (.inl outv)))]) ++ (gw 8 r1 rc1 5 rows ++ gw 16 r2 rc2 6 parts)) s.heap.size = A at hD hG ⊢
  have hA : ∀ q : Nat, s.heap.size ≤ q → A q := fun q h => by rw [← hAe]; exact Or.inr h
  have hS : va_S A s.heap s.heap [] := va_S.rf
  have hl := lv_entry ([.ref (ad 0), .int x1, .int x2, .ref e1]) (n := 5) (Nat.le_of_ble_eq_true rfl)
  rw [lg_entry_eq]
  generalize (lg_sl ([.ref (ad 0), .int x1, .int x2, .ref e1]) ++ List.replicate (5 - (lg_sl ([.ref (ad 0), .int x1, .int x2, .ref e1])).length) Slot.unset).toArray = ls at hl ⊢
  have hl : lv_has ls 5 [(0, .ref (ad 0)), (1, .int x1), (2, .int x2), (3, .ref e1)] := hl
  unfold d_Law_part at h
  refine lv_aload_n hx hb d_Law_part_0 rfl (lv_at hl 3 rfl) ?_
  refine lv_iconst (v := 0) hx hb d_Law_part_1 (by decide) ?_
  refine lv_aload_n hx hb d_Law_part_2 rfl (lv_at hl 0 rfl) ?_
  refine lv_iload_n hx hb d_Law_part_3 rfl (lv_at hl 1 rfl) ?_
  refine lv_iload_n hx hb d_Law_part_4 rfl (lv_at hl 2 rfl) ?_
  obtain ⟨o1, ho1, h⟩ := Option.bind_eq_some_iff.mp h
  have hKc := hK.sub (tys' := [((cs 1), .int), ((cs 2), .array .int), ((cs 4), .int), ((cs 5), .int), ((cs 7), .int), ((cs 8), .int), ((cs 9), .int), ((cs 10), .array .int), ((cs 12), .int), ((cs 13), .int), (rc1, .int), (rc2, .int)]) [0, 1, 2, 3, 4, 5, 6, 7, 8, 9, 11, 12] rfl
  have hPc := hP.part (cx := x_MR ad cs r1 r2 kind steps byteCount partCount stepsTaken hasRun lackedSteps decodings thrownDecodings bytes size count data made holds numbers lengths values states) [0, 1, 2, 3, 4, 5, 6, 7, 8, 9, 10, 11, 12, 13] rfl
  have hDc := hD.part (cx := x_MR ad cs r1 r2 kind steps byteCount partCount stepsTaken hasRun lackedSteps decodings thrownDecodings bytes size count data made holds numbers lengths values states) [0, 1, 2, 3, 4, 5, 6, 7, 8, 9, 10, 11, 12, 13] (by decide) rfl
  have hFc := va_freeP (cx := x_MR ad cs r1 r2 kind steps byteCount partCount stepsTaken hasRun lackedSteps decodings thrownDecodings bytes size count data made holds numbers lengths values states) hD hS hA [0, 1, 2, 3, 4, 5, 6, 7, 8, 9, 10, 11, 12, 13] rfl
  refine vx_calli (vx_runV (As := [.int x1, .int x2]) (rest := [.int (0 : Int32), .ref e1]) ⟨hx, hb, hml, hown, hB⟩ (c_MR_part l hlt dC dI tt ad cs r1 rc1 r2 rc2 s.heap.size N x1 x2 kind steps byteCount partCount stepsTaken hasRun lackedSteps decodings thrownDecodings bytes size count data made holds numbers lengths values states rows parts o1 ho1) (cwV 2 hB (gV wd_337 wd_335 wd_334 wd_105 wd_336) rfl rfl rfl (by decide +kernel) ⟨Nat.le_of_ble_eq_true rfl, Nat.le_of_ble_eq_true rfl⟩) ⟨PreW_blind, va_recv hKc hPc (ci := 0) (q0 := 0) rfl rfl, PreW_mk hKc hPc hDc hG hS hFc⟩ rfl rfl hl.1 rfl (lv_room (Nat.le_of_ble_eq_true rfl)) d_Law_part_5 ⟨Nat.le_of_ble_eq_true rfl, Nat.le_of_ble_eq_true rfl⟩) hS (fun q _ h => hFc q h) hFc (fun q _ h => hFc q h) (fun E ce q9 u_1 t H1 locs ht hvm hw hB hz1 hk1 hS hce hcv hcl => ?_) (fun r_1 u1 t H1 locs ht hvm hw hB hz1 hk1 hS => ?_)
  · obtain ⟨heE, hB⟩ := hB
    subst heE
    obtain ⟨hP1, hK1, hD1⟩ := hB
    rw [ht] at hP1
    obtain ⟨hP, hD⟩ := va_joinP (wr := pick ((x_MR ad cs r1 r2 kind steps byteCount partCount stepsTaken hasRun lackedSteps decodings thrownDecodings bytes size count data made holds numbers lengths values states) ++ [(e1, .inl (ce1, 1, .inr (.inl outv)))]) [14]) hP hD [0, 1, 2, 3, 4, 5, 6, 7, 8, 9, 10, 11, 12, 13] [14] rfl rfl (by decide) (by decide) hk1 hFc hP1 hD1
    generalize H1 = H at hP hS hce ⊢
    have hP : va_P (dC, dI) vwCl (((x_MR ad cs r1 r2 kind steps byteCount partCount stepsTaken hasRun lackedSteps decodings thrownDecodings bytes size count data made holds numbers lengths values states) ++ [(e1, .inl (ce1, 1, .inr (.inl outv)))]) ++ (gw 8 r1 rc1 5 rows ++ gw 16 r2 rc2 6 parts)) H := hP.part (cx := (x_MR ad cs r1 r2 kind steps byteCount partCount stepsTaken hasRun lackedSteps decodings thrownDecodings bytes size count data made holds numbers lengths values states) ++ [(e1, .inl (ce1, 1, .inr (.inl outv)))]) [1, 2, 3, 4, 5, 6, 7, 8, 9, 10, 11, 12, 13, 14, 0] rfl
    have hD : va_D A (((x_MR ad cs r1 r2 kind steps byteCount partCount stepsTaken hasRun lackedSteps decodings thrownDecodings bytes size count data made holds numbers lengths values states) ++ [(e1, .inl (ce1, 1, .inr (.inl outv)))]) ++ (gw 8 r1 rc1 5 rows ++ gw 16 r2 rc2 6 parts)) := hD.part (cx := (x_MR ad cs r1 r2 kind steps byteCount partCount stepsTaken hasRun lackedSteps decodings thrownDecodings bytes size count data made holds numbers lengths values states) ++ [(e1, .inl (ce1, 1, .inr (.inl outv)))]) [1, 2, 3, 4, 5, 6, 7, 8, 9, 10, 11, 12, 13, 14, 0] (by decide) rfl
    have h := exC_er h
    by_cases c_2 : E = "java/lang/IllegalStateException"
    · have h := (if_pos c_2).symm.trans h
      subst c_2
      refine vx_widen (k := 2) (n := 12) (by decide) (by decide) ?_
      refine vx_catch (E := "java/lang/IllegalStateException") hown [] ⟨0, 10, 13, 26⟩ [⟨0, 10, 17, 21⟩] htab (fun z hz => absurd hz List.not_mem_nil) rfl (by decide) (hB _ wd_338) (va_Nw.use rfl (hG.1 _ (nw_at (i := 21) rfl))) hce hcv hcl ?_
      refine lv_astore (lv' := [(4, .ref q9), (0, .ref (ad 0)), (1, .int x1), (2, .int x2), (3, .ref e1)]) hx hb d_Law_part_13 hl (by decide) rfl (fun ls hl => ?_)
      refine lv_iconst (v := 1) hx hb d_Law_part_15 (by decide) ?_
      have h := Option.some.inj h
      subst h
      exact W.iret hx hb hr (fun t ht hW => ⟨⟨_, (), rfl, rfl, AftW_mk hK hP hD ht hW⟩, hS.F ht⟩) hS.2.2 d_Law_part_16
    have h := (if_neg c_2).symm.trans h
    by_cases c_3 : E = "java/lang/IndexOutOfBoundsException"
    · have h := (if_pos c_3).symm.trans h
      subst c_3
      refine vx_widen (k := 2) (n := 12) (by decide) (by decide) ?_
      refine vx_catch (E := "java/lang/IndexOutOfBoundsException") hown [⟨0, 10, 13, 26⟩] ⟨0, 10, 17, 21⟩ [] htab (fun z hz => by rw [List.mem_singleton] at hz; subst hz; exact Or.inr ⟨by decide, "java/lang/IllegalStateException", hB _ wd_338, GG_nc hG (i := 2) rfl⟩) rfl (by decide) (hB _ wd_333) (va_Nw.use rfl (hG.1 _ (nw_at (i := 20) rfl))) hce hcv hcl ?_
      refine lv_astore (lv' := [(4, .ref q9), (0, .ref (ad 0)), (1, .int x1), (2, .int x2), (3, .ref e1)]) hx hb d_Law_part_17 hl (by decide) rfl (fun ls hl => ?_)
      refine lv_iconst (v := 2) hx hb d_Law_part_19 (by decide) ?_
      have h := Option.some.inj h
      subst h
      exact W.iret hx hb hr (fun t ht hW => ⟨⟨_, (), rfl, rfl, AftW_mk hK hP hD ht hW⟩, hS.F ht⟩) hS.2.2 d_Law_part_20
    have h := (if_neg c_3).symm.trans h
    cases h
  obtain ⟨heE, hw⟩ := hw
  subst heE
  have hw := hw.symm
  subst hw
  have h := exC_ok h
  obtain ⟨hP1, hK1, hD1⟩ := hB
  rw [ht] at hP1
  obtain ⟨hP, hD⟩ := va_joinP (wr := pick ((x_MR ad cs r1 r2 kind steps byteCount partCount stepsTaken hasRun lackedSteps decodings thrownDecodings bytes size count data made holds numbers lengths values states) ++ [(e1, .inl (ce1, 1, .inr (.inl outv)))]) [14]) hP hD [0, 1, 2, 3, 4, 5, 6, 7, 8, 9, 10, 11, 12, 13] [14] rfl rfl (by decide) (by decide) hk1 hFc hP1 hD1
  generalize H1 = H at hP hS ⊢
  have hP : va_P (dC, dI) vwCl (((x_MR ad cs r1 r2 kind steps byteCount partCount stepsTaken hasRun lackedSteps decodings thrownDecodings bytes size count data made holds numbers lengths values states) ++ [(e1, .inl (ce1, 1, .inr (.inl outv)))]) ++ (gw 8 r1 rc1 5 rows ++ gw 16 r2 rc2 6 parts)) H := hP.part (cx := (x_MR ad cs r1 r2 kind steps byteCount partCount stepsTaken hasRun lackedSteps decodings thrownDecodings bytes size count data made holds numbers lengths values states) ++ [(e1, .inl (ce1, 1, .inr (.inl outv)))]) [1, 2, 3, 4, 5, 6, 7, 8, 9, 10, 11, 12, 13, 14, 0] rfl
  have hD : va_D A (((x_MR ad cs r1 r2 kind steps byteCount partCount stepsTaken hasRun lackedSteps decodings thrownDecodings bytes size count data made holds numbers lengths values states) ++ [(e1, .inl (ce1, 1, .inr (.inl outv)))]) ++ (gw 8 r1 rc1 5 rows ++ gw 16 r2 rc2 6 parts)) := hD.part (cx := (x_MR ad cs r1 r2 kind steps byteCount partCount stepsTaken hasRun lackedSteps decodings thrownDecodings bytes size count data made holds numbers lengths values states) ++ [(e1, .inl (ce1, 1, .inr (.inl outv)))]) [1, 2, 3, 4, 5, 6, 7, 8, 9, 10, 11, 12, 13, 14, 0] (by decide) rfl
  refine W.widen (k := 2) (n := 12) (by decide) (by decide) ?_
  refine lv_i2l hx hb d_Law_part_8 rfl ?_
  refine va_last hx hb hK hP hD hS 14 10 rfl rfl (show ¬ ((0 : Int32) < 0 ∨ 1 ≤ (0 : Int32).toNatClampNeg) from by decide) d_Law_part_9 (fun H locs hP hD hS => ?_)
  have hP : va_P (dC, dI) vwCl (((x_MR ad cs r1 r2 kind steps byteCount partCount stepsTaken hasRun lackedSteps decodings thrownDecodings bytes size count data made holds numbers lengths values states) ++ [(e1, .inl (ce1, 1, .inr (.inl (vp_updL outv (0 : Int32).toNatClampNeg u1.toInt64))))]) ++ (gw 8 r1 rc1 5 rows ++ gw 16 r2 rc2 6 parts)) H := hP
  have hD : va_D A (((x_MR ad cs r1 r2 kind steps byteCount partCount stepsTaken hasRun lackedSteps decodings thrownDecodings bytes size count data made holds numbers lengths values states) ++ [(e1, .inl (ce1, 1, .inr (.inl (vp_updL outv (0 : Int32).toNatClampNeg u1.toInt64))))]) ++ (gw 8 r1 rc1 5 rows ++ gw 16 r2 rc2 6 parts)) := hD
  refine lv_goto (tgt := 21) hx hb d_Law_part_10 (by decide) ?_
  refine lv_iconst (v := 0) hx hb d_Law_part_21 (by decide) ?_
  have h := Option.some.inj h
  subst h
  exact W.iret hx hb hr (fun t ht hW => ⟨⟨_, (), rfl, rfl, AftW_mk hK hP hD ht hW⟩, hS.F ht⟩) hS.2.2 d_Law_part_22
def d_Law_decode (N : Nat) (x1 : Int32) (partCount : Int32) (hasRun : Int32) (decodings : Int32) (thrownDecodings : Int32) (bytes : Nat → Int32) (size : Int32) (count : Int32) (data : Nat → Int32) (made : Nat → Int32) (holds : Nat → Int32) (numbers : Nat → Int32) (lengths : Nat → Int32) (values : Nat → Int32) (states : Nat → Int32) (rows : Nat → Nat → Int32) (parts : Nat → Nat → Int32) (outv : Nat → Int64) : Option (Int32 × Int32 × Int32 × Int32 × Int32 × (Nat → Int32) × (Nat → Int32) × (Nat → Int32) × (Nat → Int32) × (Nat → Int32) × (Nat → Int32) × (Nat → Int32) × (Nat → Nat → Int32) × (Nat → Nat → Int32) × (Nat → Int64)) :=
 (d_MR_decode N x1 partCount hasRun decodings thrownDecodings bytes size count data made holds numbers lengths values states rows parts).bind (fun o1 => exC o1 (fun E => if E = "java/lang/IllegalStateException" then some ((1 : Int32), decodings, thrownDecodings, size, count, data, made, holds, numbers, lengths, values, states, rows, parts, outv) else if E = "java/lang/IndexOutOfBoundsException" then some ((2 : Int32), decodings, thrownDecodings, size, count, data, made, holds, numbers, lengths, values, states, rows, parts, outv) else none) (fun u1 => some ((0 : Int32), u1.2.1, u1.2.2.1, u1.2.2.2.1, u1.2.2.2.2.1, u1.2.2.2.2.2.1, u1.2.2.2.2.2.2.1, u1.2.2.2.2.2.2.2.1, u1.2.2.2.2.2.2.2.2.1, u1.2.2.2.2.2.2.2.2.2.1, u1.2.2.2.2.2.2.2.2.2.2.1, u1.2.2.2.2.2.2.2.2.2.2.2.1, u1.2.2.2.2.2.2.2.2.2.2.2.2.1, u1.2.2.2.2.2.2.2.2.2.2.2.2.2, vp_updL outv (0 : Int32).toNatClampNeg u1.1.toInt64)))
abbrev rm_Law_decode : Room := { frames := 9, cells := 2, slots := 12, locals := 157 }
set_option maxHeartbeats 4000000 in
set_option maxRecDepth 100000 in
theorem c_Law_decode (l : Launch) (hlt : l.stackTraces = false) (dC : Nat → ClassId) (dI : Nat → Nat → Nat) (tt : Nat → Nat) (ad : Nat → Nat) (cs : Nat → ClassId) (e1 : Nat) (ce1 : ClassId) (r1 : Nat → Nat) (rc1 : ClassId) (r2 : Nat → Nat) (rc2 : ClassId) (sz N : Nat) (x1 : Int32) (kind : Int32) (steps : Int32) (byteCount : Int32) (partCount : Int32) (stepsTaken : Int32) (hasRun : Int32) (lackedSteps : Int32) (decodings : Int32) (thrownDecodings : Int32) (bytes : Nat → Int32) (size : Int32) (count : Int32) (data : Nat → Int32) (made : Nat → Int32) (holds : Nat → Int32) (numbers : Nat → Int32) (lengths : Nat → Int32) (values : Nat → Int32) (states : Nat → Int32) (rows : Nat → Nat → Int32) (parts : Nat → Nat → Int32) (outv : Nat → Int64) (out : Int32 × Int32 × Int32 × Int32 × Int32 × (Nat → Int32) × (Nat → Int32) × (Nat → Int32) × (Nat → Int32) × (Nat → Int32) × (Nat → Int32) × (Nat → Int32) × (Nat → Nat → Int32) × (Nat → Nat → Int32) × (Nat → Int64)) (h : d_Law_decode N x1 partCount hasRun decodings thrownDecodings bytes size count data made holds numbers lengths values states rows parts outv = some out) :
    Met l y_Law_decode (w_Law_decode) rm_Law_decode (va_Pc [.ref (ad 0), .int x1, .ref e1] (PreW (dC, dI) [((cs 1), .int), ((cs 2), .array .int), ((cs 4), .int), ((cs 5), .int), ((cs 7), .int), ((cs 8), .int), ((cs 9), .int), ((cs 10), .array .int), ((cs 12), .int), ((cs 13), .int), (ce1, .long), (rc1, .int), (rc2, .int)] (((x_MR ad cs r1 r2 kind steps byteCount partCount stepsTaken hasRun lackedSteps decodings thrownDecodings bytes size count data made holds numbers lengths values states) ++ [(e1, .inl (ce1, 1, .inr (.inl outv)))]) ++ (gw 8 r1 rc1 5 rows ++ gw 16 r2 rc2 6 parts)) sz tt)) (va_Qi (fun (r : Int32) (_ : Unit) => r = out.1) (fun _ => AftW (dC, dI) [((cs 1), .int), ((cs 2), .array .int), ((cs 4), .int), ((cs 5), .int), ((cs 7), .int), ((cs 8), .int), ((cs 9), .int), ((cs 10), .array .int), ((cs 12), .int), ((cs 13), .int), (ce1, .long), (rc1, .int), (rc2, .int)] (va_A (((x_MR ad cs r1 r2 kind steps byteCount partCount stepsTaken hasRun lackedSteps decodings thrownDecodings bytes size count data made holds numbers lengths values states) ++ [(e1, .inl (ce1, 1, .inr (.inl outv)))]) ++ (gw 8 r1 rc1 5 rows ++ gw 16 r2 rc2 6 parts)) sz) (((x_MR ad cs r1 r2 kind steps byteCount partCount stepsTaken hasRun lackedSteps out.2.1 out.2.2.1 bytes out.2.2.2.1 out.2.2.2.2.1 out.2.2.2.2.2.1 out.2.2.2.2.2.2.1 out.2.2.2.2.2.2.2.1 out.2.2.2.2.2.2.2.2.1 out.2.2.2.2.2.2.2.2.2.1 out.2.2.2.2.2.2.2.2.2.2.1 out.2.2.2.2.2.2.2.2.2.2.2.1) ++ [(e1, .inl (ce1, 1, .inr (.inl out.2.2.2.2.2.2.2.2.2.2.2.2.2.2)))]) ++ (gw 8 r1 rc1 5 out.2.2.2.2.2.2.2.2.2.2.2.2.1 ++ gw 16 r2 rc2 6 out.2.2.2.2.2.2.2.2.2.2.2.2.2.1))) (va_A (((x_MR ad cs r1 r2 kind steps byteCount partCount stepsTaken hasRun lackedSteps decodings thrownDecodings bytes size count data made holds numbers lengths values states) ++ [(e1, .inl (ce1, 1, .inr (.inl outv)))]) ++ (gw 8 r1 rc1 5 rows ++ gw 16 r2 rc2 6 parts)) sz)) 2 12 (va_A (((x_MR ad cs r1 r2 kind steps byteCount partCount stepsTaken hasRun lackedSteps decodings thrownDecodings bytes size count data made holds numbers lengths values states) ++ [(e1, .inl (ce1, 1, .inr (.inl outv)))]) ++ (gw 8 r1 rc1 5 rows ++ gw 16 r2 rc2 6 parts)) sz) := by
  refine va_MetW (cc := k_Law_decode) (maxL := 4) (ret := (some .int)) (hh := [(0, 9, 12, 26), (0, 9, 15, 21)]) (by decide) rfl ?_
  intro p e s m args below meth c s₁ B hml hv
  obtain ⟨rfl, hsz, hP, hK, hD0, hG⟩ := hv
  have hx := B.exec
  have hb := B.bytes
  have hr := B.returns
  have hts := atoms_spec (ws := (w_Law_decode)) B.pre
  have hB : ∀ w ∈ BIG, w.before _ s = true := fun w h9 => hts w (List.mem_cons_of_mem _ h9)
  have hown : s.vm.findClass R_Law = some m.cls := findClass_of_methodNamed B.named
  have htab : c.exceptionTable.toList = tableOf [(0, 9, 12, 26), (0, 9, 15, 21)] := vx_table (x := y_Law_decode) B (hts _ List.mem_cons_self)
  have hlocks := B.notSynchronized
  subst hsz
  have hD := hD0.self (sz := s.heap.size)
  generalize hAe : va_A (((x_MR ad cs r1 r2 kind steps byteCount partCount stepsTaken hasRun lackedSteps decodings thrownDecodings bytes size count data made holds numbers lengths values states) ++ [(e1, .inl (ce1, 1, .inr (.inl outv)))]) ++ (gw 8 r1 rc1 5 rows ++ gw 16 r2 rc2 6 parts)) s.heap.size = A at hD hG ⊢
  have hA : ∀ q : Nat, s.heap.size ≤ q → A q := fun q h => by rw [← hAe]; exact Or.inr h
  have hS : va_S A s.heap s.heap [] := va_S.rf
  have hl := lv_entry ([.ref (ad 0), .int x1, .ref e1]) (n := 4) (Nat.le_of_ble_eq_true rfl)
  rw [lg_entry_eq]
  generalize (lg_sl ([.ref (ad 0), .int x1, .ref e1]) ++ List.replicate (4 - (lg_sl ([.ref (ad 0), .int x1, .ref e1])).length) Slot.unset).toArray = ls at hl ⊢
  have hl : lv_has ls 4 [(0, .ref (ad 0)), (1, .int x1), (2, .ref e1)] := hl
  unfold d_Law_decode at h
  refine lv_aload_n hx hb d_Law_decode_0 rfl (lv_at hl 2 rfl) ?_
  refine lv_iconst (v := 0) hx hb d_Law_decode_1 (by decide) ?_
  refine lv_aload_n hx hb d_Law_decode_2 rfl (lv_at hl 0 rfl) ?_
  refine lv_iload_n hx hb d_Law_decode_3 rfl (lv_at hl 1 rfl) ?_
  obtain ⟨o1, ho1, h⟩ := Option.bind_eq_some_iff.mp h
  have hKc := hK.sub (tys' := [((cs 1), .int), ((cs 2), .array .int), ((cs 4), .int), ((cs 5), .int), ((cs 7), .int), ((cs 8), .int), ((cs 9), .int), ((cs 10), .array .int), ((cs 12), .int), ((cs 13), .int), (rc1, .int), (rc2, .int)]) [0, 1, 2, 3, 4, 5, 6, 7, 8, 9, 11, 12] rfl
  have hPc := hP.part (cx := x_MR ad cs r1 r2 kind steps byteCount partCount stepsTaken hasRun lackedSteps decodings thrownDecodings bytes size count data made holds numbers lengths values states) [0, 1, 2, 3, 4, 5, 6, 7, 8, 9, 10, 11, 12, 13] rfl
  have hDc := hD.part (cx := x_MR ad cs r1 r2 kind steps byteCount partCount stepsTaken hasRun lackedSteps decodings thrownDecodings bytes size count data made holds numbers lengths values states) [0, 1, 2, 3, 4, 5, 6, 7, 8, 9, 10, 11, 12, 13] (by decide) rfl
  have hFc := va_freeP (cx := x_MR ad cs r1 r2 kind steps byteCount partCount stepsTaken hasRun lackedSteps decodings thrownDecodings bytes size count data made holds numbers lengths values states) hD hS hA [0, 1, 2, 3, 4, 5, 6, 7, 8, 9, 10, 11, 12, 13] rfl
  refine vx_calli (vx_runV (As := [.int x1]) (rest := [.int (0 : Int32), .ref e1]) ⟨hx, hb, hml, hown, hB⟩ (c_MR_decode l hlt dC dI tt ad cs r1 rc1 r2 rc2 s.heap.size N x1 kind steps byteCount partCount stepsTaken hasRun lackedSteps decodings thrownDecodings bytes size count data made holds numbers lengths values states rows parts o1 ho1) (cwV 1 hB (gV wd_342 wd_340 wd_339 wd_105 wd_341) rfl rfl rfl (by decide +kernel) ⟨Nat.le_of_ble_eq_true rfl, Nat.le_of_ble_eq_true rfl⟩) ⟨PreW_blind, va_recv hKc hPc (ci := 0) (q0 := 0) rfl rfl, PreW_mk hKc hPc hDc hG hS hFc⟩ rfl rfl hl.1 rfl (lv_room (Nat.le_of_ble_eq_true rfl)) d_Law_decode_4 ⟨Nat.le_of_ble_eq_true rfl, Nat.le_of_ble_eq_true rfl⟩) hS (fun q _ h => hFc q h) hFc (fun q _ h => hFc q h) (fun E ce q9 u_1 t H1 locs ht hvm hw hB hz1 hk1 hS hce hcv hcl => ?_) (fun r_1 u1 t H1 locs ht hvm hw hB hz1 hk1 hS => ?_)
  · obtain ⟨heE, hB⟩ := hB
    subst heE
    obtain ⟨hP1, hK1, hD1⟩ := hB
    rw [ht] at hP1
    obtain ⟨hP, hD⟩ := va_joinP (wr := pick ((x_MR ad cs r1 r2 kind steps byteCount partCount stepsTaken hasRun lackedSteps decodings thrownDecodings bytes size count data made holds numbers lengths values states) ++ [(e1, .inl (ce1, 1, .inr (.inl outv)))]) [14]) hP hD [0, 1, 2, 3, 4, 5, 6, 7, 8, 9, 10, 11, 12, 13] [14] rfl rfl (by decide) (by decide) hk1 hFc hP1 hD1
    generalize H1 = H at hP hS hce ⊢
    have hP : va_P (dC, dI) vwCl (((x_MR ad cs r1 r2 kind steps byteCount partCount stepsTaken hasRun lackedSteps decodings thrownDecodings bytes size count data made holds numbers lengths values states) ++ [(e1, .inl (ce1, 1, .inr (.inl outv)))]) ++ (gw 8 r1 rc1 5 rows ++ gw 16 r2 rc2 6 parts)) H := hP.part (cx := (x_MR ad cs r1 r2 kind steps byteCount partCount stepsTaken hasRun lackedSteps decodings thrownDecodings bytes size count data made holds numbers lengths values states) ++ [(e1, .inl (ce1, 1, .inr (.inl outv)))]) [1, 2, 3, 4, 5, 6, 7, 8, 9, 10, 11, 12, 13, 14, 0] rfl
    have hD : va_D A (((x_MR ad cs r1 r2 kind steps byteCount partCount stepsTaken hasRun lackedSteps decodings thrownDecodings bytes size count data made holds numbers lengths values states) ++ [(e1, .inl (ce1, 1, .inr (.inl outv)))]) ++ (gw 8 r1 rc1 5 rows ++ gw 16 r2 rc2 6 parts)) := hD.part (cx := (x_MR ad cs r1 r2 kind steps byteCount partCount stepsTaken hasRun lackedSteps decodings thrownDecodings bytes size count data made holds numbers lengths values states) ++ [(e1, .inl (ce1, 1, .inr (.inl outv)))]) [1, 2, 3, 4, 5, 6, 7, 8, 9, 10, 11, 12, 13, 14, 0] (by decide) rfl
    have h := exC_er h
    by_cases c_2 : E = "java/lang/IllegalStateException"
    · have h := (if_pos c_2).symm.trans h
      subst c_2
      refine vx_widen (k := 2) (n := 12) (by decide) (by decide) ?_
      refine vx_catch (E := "java/lang/IllegalStateException") hown [] ⟨0, 9, 12, 26⟩ [⟨0, 9, 15, 21⟩] htab (fun z hz => absurd hz List.not_mem_nil) rfl (by decide) (hB _ wd_338) (va_Nw.use rfl (hG.1 _ (nw_at (i := 21) rfl))) hce hcv hcl ?_
      refine lv_astore_n (lv' := [(3, .ref q9), (0, .ref (ad 0)), (1, .int x1), (2, .ref e1)]) hx hb d_Law_decode_12 rfl hl (by decide) rfl (fun ls hl => ?_)
      refine lv_iconst (v := 1) hx hb d_Law_decode_13 (by decide) ?_
      have h := Option.some.inj h
      subst h
      exact W.iret hx hb hr (fun t ht hW => ⟨⟨_, (), rfl, rfl, AftW_mk hK hP hD ht hW⟩, hS.F ht⟩) hS.2.2 d_Law_decode_14
    have h := (if_neg c_2).symm.trans h
    by_cases c_3 : E = "java/lang/IndexOutOfBoundsException"
    · have h := (if_pos c_3).symm.trans h
      subst c_3
      refine vx_widen (k := 2) (n := 12) (by decide) (by decide) ?_
      refine vx_catch (E := "java/lang/IndexOutOfBoundsException") hown [⟨0, 9, 12, 26⟩] ⟨0, 9, 15, 21⟩ [] htab (fun z hz => by rw [List.mem_singleton] at hz; subst hz; exact Or.inr ⟨by decide, "java/lang/IllegalStateException", hB _ wd_338, GG_nc hG (i := 2) rfl⟩) rfl (by decide) (hB _ wd_333) (va_Nw.use rfl (hG.1 _ (nw_at (i := 20) rfl))) hce hcv hcl ?_
      refine lv_astore_n (lv' := [(3, .ref q9), (0, .ref (ad 0)), (1, .int x1), (2, .ref e1)]) hx hb d_Law_decode_15 rfl hl (by decide) rfl (fun ls hl => ?_)
      refine lv_iconst (v := 2) hx hb d_Law_decode_16 (by decide) ?_
      have h := Option.some.inj h
      subst h
      exact W.iret hx hb hr (fun t ht hW => ⟨⟨_, (), rfl, rfl, AftW_mk hK hP hD ht hW⟩, hS.F ht⟩) hS.2.2 d_Law_decode_17
    have h := (if_neg c_3).symm.trans h
    cases h
  obtain ⟨heE, hw⟩ := hw
  subst heE
  have hw := hw.symm
  subst hw
  have h := exC_ok h
  obtain ⟨hP1, hK1, hD1⟩ := hB
  rw [ht] at hP1
  obtain ⟨hP, hD⟩ := va_joinP (wr := pick ((x_MR ad cs r1 r2 kind steps byteCount partCount stepsTaken hasRun lackedSteps decodings thrownDecodings bytes size count data made holds numbers lengths values states) ++ [(e1, .inl (ce1, 1, .inr (.inl outv)))]) [14]) hP hD [0, 1, 2, 3, 4, 5, 6, 7, 8, 9, 10, 11, 12, 13] [14] rfl rfl (by decide) (by decide) hk1 hFc hP1 hD1
  generalize H1 = H at hP hS ⊢
  have hP : va_P (dC, dI) vwCl (((x_MR ad cs r1 r2 kind steps byteCount partCount stepsTaken hasRun lackedSteps u1.2.1 u1.2.2.1 bytes u1.2.2.2.1 u1.2.2.2.2.1 u1.2.2.2.2.2.1 u1.2.2.2.2.2.2.1 u1.2.2.2.2.2.2.2.1 u1.2.2.2.2.2.2.2.2.1 u1.2.2.2.2.2.2.2.2.2.1 u1.2.2.2.2.2.2.2.2.2.2.1 u1.2.2.2.2.2.2.2.2.2.2.2.1) ++ [(e1, .inl (ce1, 1, .inr (.inl outv)))]) ++ (gw 8 r1 rc1 5 u1.2.2.2.2.2.2.2.2.2.2.2.2.1 ++ gw 16 r2 rc2 6 u1.2.2.2.2.2.2.2.2.2.2.2.2.2)) H := hP.part (cx := (x_MR ad cs r1 r2 kind steps byteCount partCount stepsTaken hasRun lackedSteps u1.2.1 u1.2.2.1 bytes u1.2.2.2.1 u1.2.2.2.2.1 u1.2.2.2.2.2.1 u1.2.2.2.2.2.2.1 u1.2.2.2.2.2.2.2.1 u1.2.2.2.2.2.2.2.2.1 u1.2.2.2.2.2.2.2.2.2.1 u1.2.2.2.2.2.2.2.2.2.2.1 u1.2.2.2.2.2.2.2.2.2.2.2.1) ++ [(e1, .inl (ce1, 1, .inr (.inl outv)))]) [1, 2, 3, 4, 5, 6, 7, 8, 9, 10, 11, 12, 13, 14, 0] rfl
  have hD : va_D A (((x_MR ad cs r1 r2 kind steps byteCount partCount stepsTaken hasRun lackedSteps u1.2.1 u1.2.2.1 bytes u1.2.2.2.1 u1.2.2.2.2.1 u1.2.2.2.2.2.1 u1.2.2.2.2.2.2.1 u1.2.2.2.2.2.2.2.1 u1.2.2.2.2.2.2.2.2.1 u1.2.2.2.2.2.2.2.2.2.1 u1.2.2.2.2.2.2.2.2.2.2.1 u1.2.2.2.2.2.2.2.2.2.2.2.1) ++ [(e1, .inl (ce1, 1, .inr (.inl outv)))]) ++ (gw 8 r1 rc1 5 u1.2.2.2.2.2.2.2.2.2.2.2.2.1 ++ gw 16 r2 rc2 6 u1.2.2.2.2.2.2.2.2.2.2.2.2.2)) := hD.part (cx := (x_MR ad cs r1 r2 kind steps byteCount partCount stepsTaken hasRun lackedSteps u1.2.1 u1.2.2.1 bytes u1.2.2.2.1 u1.2.2.2.2.1 u1.2.2.2.2.2.1 u1.2.2.2.2.2.2.1 u1.2.2.2.2.2.2.2.1 u1.2.2.2.2.2.2.2.2.1 u1.2.2.2.2.2.2.2.2.2.1 u1.2.2.2.2.2.2.2.2.2.2.1 u1.2.2.2.2.2.2.2.2.2.2.2.1) ++ [(e1, .inl (ce1, 1, .inr (.inl outv)))]) [1, 2, 3, 4, 5, 6, 7, 8, 9, 10, 11, 12, 13, 14, 0] (by decide) rfl
  refine W.widen (k := 2) (n := 12) (by decide) (by decide) ?_
  refine lv_i2l hx hb d_Law_decode_7 rfl ?_
  refine va_last hx hb hK hP hD hS 14 10 rfl rfl (show ¬ ((0 : Int32) < 0 ∨ 1 ≤ (0 : Int32).toNatClampNeg) from by decide) d_Law_decode_8 (fun H locs hP hD hS => ?_)
  have hP : va_P (dC, dI) vwCl (((x_MR ad cs r1 r2 kind steps byteCount partCount stepsTaken hasRun lackedSteps u1.2.1 u1.2.2.1 bytes u1.2.2.2.1 u1.2.2.2.2.1 u1.2.2.2.2.2.1 u1.2.2.2.2.2.2.1 u1.2.2.2.2.2.2.2.1 u1.2.2.2.2.2.2.2.2.1 u1.2.2.2.2.2.2.2.2.2.1 u1.2.2.2.2.2.2.2.2.2.2.1 u1.2.2.2.2.2.2.2.2.2.2.2.1) ++ [(e1, .inl (ce1, 1, .inr (.inl (vp_updL outv (0 : Int32).toNatClampNeg u1.1.toInt64))))]) ++ (gw 8 r1 rc1 5 u1.2.2.2.2.2.2.2.2.2.2.2.2.1 ++ gw 16 r2 rc2 6 u1.2.2.2.2.2.2.2.2.2.2.2.2.2)) H := hP
  have hD : va_D A (((x_MR ad cs r1 r2 kind steps byteCount partCount stepsTaken hasRun lackedSteps u1.2.1 u1.2.2.1 bytes u1.2.2.2.1 u1.2.2.2.2.1 u1.2.2.2.2.2.1 u1.2.2.2.2.2.2.1 u1.2.2.2.2.2.2.2.1 u1.2.2.2.2.2.2.2.2.1 u1.2.2.2.2.2.2.2.2.2.1 u1.2.2.2.2.2.2.2.2.2.2.1 u1.2.2.2.2.2.2.2.2.2.2.2.1) ++ [(e1, .inl (ce1, 1, .inr (.inl (vp_updL outv (0 : Int32).toNatClampNeg u1.1.toInt64))))]) ++ (gw 8 r1 rc1 5 u1.2.2.2.2.2.2.2.2.2.2.2.2.1 ++ gw 16 r2 rc2 6 u1.2.2.2.2.2.2.2.2.2.2.2.2.2)) := hD
  refine lv_goto (tgt := 18) hx hb d_Law_decode_9 (by decide) ?_
  refine lv_iconst (v := 0) hx hb d_Law_decode_18 (by decide) ?_
  have h := Option.some.inj h
  subst h
  exact W.iret hx hb hr (fun t ht hW => ⟨⟨_, (), rfl, rfl, AftW_mk hK hP hD ht hW⟩, hS.F ht⟩) hS.2.2 d_Law_decode_19
def d_Law_decodeAll (N : Nat) (partCount : Int32) (hasRun : Int32) (decodings : Int32) (thrownDecodings : Int32) (bytes : Nat → Int32) (size : Int32) (count : Int32) (data : Nat → Int32) (made : Nat → Int32) (holds : Nat → Int32) (numbers : Nat → Int32) (lengths : Nat → Int32) (values : Nat → Int32) (states : Nat → Int32) (rows : Nat → Nat → Int32) (parts : Nat → Nat → Int32) (outv : Nat → Int64) : Option (Int32 × Int32 × Int32 × Int32 × Int32 × (Nat → Int32) × (Nat → Int32) × (Nat → Int32) × (Nat → Int32) × (Nat → Int32) × (Nat → Int32) × (Nat → Int32) × (Nat → Nat → Int32) × (Nat → Nat → Int32) × (Nat → Int64)) :=
 (d_MR_decodeAll N partCount hasRun decodings thrownDecodings bytes size count data made holds numbers lengths values states rows parts).bind (fun o1 => exC o1 (fun E => if E = "java/lang/IllegalStateException" then some ((1 : Int32), decodings, thrownDecodings, size, count, data, made, holds, numbers, lengths, values, states, rows, parts, outv) else none) (fun u1 => some ((0 : Int32), u1.2.1, u1.2.2.1, u1.2.2.2.1, u1.2.2.2.2.1, u1.2.2.2.2.2.1, u1.2.2.2.2.2.2.1, u1.2.2.2.2.2.2.2.1, u1.2.2.2.2.2.2.2.2.1, u1.2.2.2.2.2.2.2.2.2.1, u1.2.2.2.2.2.2.2.2.2.2.1, u1.2.2.2.2.2.2.2.2.2.2.2.1, u1.2.2.2.2.2.2.2.2.2.2.2.2.1, u1.2.2.2.2.2.2.2.2.2.2.2.2.2, vp_updL outv (0 : Int32).toNatClampNeg u1.1.toInt64)))
abbrev rm_Law_decodeAll : Room := { frames := 8, cells := 1, slots := 6, locals := 158 }
set_option maxHeartbeats 4000000 in
set_option maxRecDepth 100000 in
theorem c_Law_decodeAll (l : Launch) (hlt : l.stackTraces = false) (dC : Nat → ClassId) (dI : Nat → Nat → Nat) (tt : Nat → Nat) (ad : Nat → Nat) (cs : Nat → ClassId) (e1 : Nat) (ce1 : ClassId) (r1 : Nat → Nat) (rc1 : ClassId) (r2 : Nat → Nat) (rc2 : ClassId) (sz N : Nat) (kind : Int32) (steps : Int32) (byteCount : Int32) (partCount : Int32) (stepsTaken : Int32) (hasRun : Int32) (lackedSteps : Int32) (decodings : Int32) (thrownDecodings : Int32) (bytes : Nat → Int32) (size : Int32) (count : Int32) (data : Nat → Int32) (made : Nat → Int32) (holds : Nat → Int32) (numbers : Nat → Int32) (lengths : Nat → Int32) (values : Nat → Int32) (states : Nat → Int32) (rows : Nat → Nat → Int32) (parts : Nat → Nat → Int32) (outv : Nat → Int64) (out : Int32 × Int32 × Int32 × Int32 × Int32 × (Nat → Int32) × (Nat → Int32) × (Nat → Int32) × (Nat → Int32) × (Nat → Int32) × (Nat → Int32) × (Nat → Int32) × (Nat → Nat → Int32) × (Nat → Nat → Int32) × (Nat → Int64)) (h : d_Law_decodeAll N partCount hasRun decodings thrownDecodings bytes size count data made holds numbers lengths values states rows parts outv = some out) :
    Met l y_Law_decodeAll (w_Law_decodeAll) rm_Law_decodeAll (va_Pc [.ref (ad 0), .ref e1] (PreW (dC, dI) [((cs 1), .int), ((cs 2), .array .int), ((cs 4), .int), ((cs 5), .int), ((cs 7), .int), ((cs 8), .int), ((cs 9), .int), ((cs 10), .array .int), ((cs 12), .int), ((cs 13), .int), (ce1, .long), (rc1, .int), (rc2, .int)] (((x_MR ad cs r1 r2 kind steps byteCount partCount stepsTaken hasRun lackedSteps decodings thrownDecodings bytes size count data made holds numbers lengths values states) ++ [(e1, .inl (ce1, 1, .inr (.inl outv)))]) ++ (gw 8 r1 rc1 5 rows ++ gw 16 r2 rc2 6 parts)) sz tt)) (va_Qi (fun (r : Int32) (_ : Unit) => r = out.1) (fun _ => AftW (dC, dI) [((cs 1), .int), ((cs 2), .array .int), ((cs 4), .int), ((cs 5), .int), ((cs 7), .int), ((cs 8), .int), ((cs 9), .int), ((cs 10), .array .int), ((cs 12), .int), ((cs 13), .int), (ce1, .long), (rc1, .int), (rc2, .int)] (va_A (((x_MR ad cs r1 r2 kind steps byteCount partCount stepsTaken hasRun lackedSteps decodings thrownDecodings bytes size count data made holds numbers lengths values states) ++ [(e1, .inl (ce1, 1, .inr (.inl outv)))]) ++ (gw 8 r1 rc1 5 rows ++ gw 16 r2 rc2 6 parts)) sz) (((x_MR ad cs r1 r2 kind steps byteCount partCount stepsTaken hasRun lackedSteps out.2.1 out.2.2.1 bytes out.2.2.2.1 out.2.2.2.2.1 out.2.2.2.2.2.1 out.2.2.2.2.2.2.1 out.2.2.2.2.2.2.2.1 out.2.2.2.2.2.2.2.2.1 out.2.2.2.2.2.2.2.2.2.1 out.2.2.2.2.2.2.2.2.2.2.1 out.2.2.2.2.2.2.2.2.2.2.2.1) ++ [(e1, .inl (ce1, 1, .inr (.inl out.2.2.2.2.2.2.2.2.2.2.2.2.2.2)))]) ++ (gw 8 r1 rc1 5 out.2.2.2.2.2.2.2.2.2.2.2.2.1 ++ gw 16 r2 rc2 6 out.2.2.2.2.2.2.2.2.2.2.2.2.2.1))) (va_A (((x_MR ad cs r1 r2 kind steps byteCount partCount stepsTaken hasRun lackedSteps decodings thrownDecodings bytes size count data made holds numbers lengths values states) ++ [(e1, .inl (ce1, 1, .inr (.inl outv)))]) ++ (gw 8 r1 rc1 5 rows ++ gw 16 r2 rc2 6 parts)) sz)) 1 6 (va_A (((x_MR ad cs r1 r2 kind steps byteCount partCount stepsTaken hasRun lackedSteps decodings thrownDecodings bytes size count data made holds numbers lengths values states) ++ [(e1, .inl (ce1, 1, .inr (.inl outv)))]) ++ (gw 8 r1 rc1 5 rows ++ gw 16 r2 rc2 6 parts)) sz) := by
  refine va_MetW (cc := k_Law_decodeAll) (maxL := 3) (ret := (some .int)) (hh := [(0, 8, 11, 26)]) (by decide) rfl ?_
  intro p e s m args below meth c s₁ B hml hv
  obtain ⟨rfl, hsz, hP, hK, hD0, hG⟩ := hv
  have hx := B.exec
  have hb := B.bytes
  have hr := B.returns
  have hts := atoms_spec (ws := (w_Law_decodeAll)) B.pre
  have hB : ∀ w ∈ BIG, w.before _ s = true := fun w h9 => hts w (List.mem_cons_of_mem _ h9)
  have hown : s.vm.findClass R_Law = some m.cls := findClass_of_methodNamed B.named
  have htab : c.exceptionTable.toList = tableOf [(0, 8, 11, 26)] := vx_table (x := y_Law_decodeAll) B (hts _ List.mem_cons_self)
  have hlocks := B.notSynchronized
  subst hsz
  have hD := hD0.self (sz := s.heap.size)
  generalize hAe : va_A (((x_MR ad cs r1 r2 kind steps byteCount partCount stepsTaken hasRun lackedSteps decodings thrownDecodings bytes size count data made holds numbers lengths values states) ++ [(e1, .inl (ce1, 1, .inr (.inl outv)))]) ++ (gw 8 r1 rc1 5 rows ++ gw 16 r2 rc2 6 parts)) s.heap.size = A at hD hG ⊢
  have hA : ∀ q : Nat, s.heap.size ≤ q → A q := fun q h => by rw [← hAe]; exact Or.inr h
  have hS : va_S A s.heap s.heap [] := va_S.rf
  have hl := lv_entry ([.ref (ad 0), .ref e1]) (n := 3) (Nat.le_of_ble_eq_true rfl)
  rw [lg_entry_eq]
  generalize (lg_sl ([.ref (ad 0), .ref e1]) ++ List.replicate (3 - (lg_sl ([.ref (ad 0), .ref e1])).length) Slot.unset).toArray = ls at hl ⊢
  have hl : lv_has ls 3 [(0, .ref (ad 0)), (1, .ref e1)] := hl
  unfold d_Law_decodeAll at h
  refine lv_aload_n hx hb d_Law_decodeAll_0 rfl (lv_at hl 1 rfl) ?_
  refine lv_iconst (v := 0) hx hb d_Law_decodeAll_1 (by decide) ?_
  refine lv_aload_n hx hb d_Law_decodeAll_2 rfl (lv_at hl 0 rfl) ?_
  obtain ⟨o1, ho1, h⟩ := Option.bind_eq_some_iff.mp h
  have hKc := hK.sub (tys' := [((cs 1), .int), ((cs 2), .array .int), ((cs 4), .int), ((cs 5), .int), ((cs 7), .int), ((cs 8), .int), ((cs 9), .int), ((cs 10), .array .int), ((cs 12), .int), ((cs 13), .int), (rc1, .int), (rc2, .int)]) [0, 1, 2, 3, 4, 5, 6, 7, 8, 9, 11, 12] rfl
  have hPc := hP.part (cx := x_MR ad cs r1 r2 kind steps byteCount partCount stepsTaken hasRun lackedSteps decodings thrownDecodings bytes size count data made holds numbers lengths values states) [0, 1, 2, 3, 4, 5, 6, 7, 8, 9, 10, 11, 12, 13] rfl
  have hDc := hD.part (cx := x_MR ad cs r1 r2 kind steps byteCount partCount stepsTaken hasRun lackedSteps decodings thrownDecodings bytes size count data made holds numbers lengths values states) [0, 1, 2, 3, 4, 5, 6, 7, 8, 9, 10, 11, 12, 13] (by decide) rfl
  have hFc := va_freeP (cx := x_MR ad cs r1 r2 kind steps byteCount partCount stepsTaken hasRun lackedSteps decodings thrownDecodings bytes size count data made holds numbers lengths values states) hD hS hA [0, 1, 2, 3, 4, 5, 6, 7, 8, 9, 10, 11, 12, 13] rfl
  refine vx_calli (vx_runV (As := []) (rest := [.int (0 : Int32), .ref e1]) ⟨hx, hb, hml, hown, hB⟩ (c_MR_decodeAll l hlt dC dI tt ad cs r1 rc1 r2 rc2 s.heap.size N kind steps byteCount partCount stepsTaken hasRun lackedSteps decodings thrownDecodings bytes size count data made holds numbers lengths values states rows parts o1 ho1) (cwV 0 hB (gV wd_346 wd_344 wd_343 wd_105 wd_345) rfl rfl rfl (by decide +kernel) ⟨Nat.le_of_ble_eq_true rfl, Nat.le_of_ble_eq_true rfl⟩) ⟨PreW_blind, va_recv hKc hPc (ci := 0) (q0 := 0) rfl rfl, PreW_mk hKc hPc hDc hG hS hFc⟩ rfl rfl hl.1 rfl (lv_room (Nat.le_of_ble_eq_true rfl)) d_Law_decodeAll_3 ⟨Nat.le_of_ble_eq_true rfl, Nat.le_of_ble_eq_true rfl⟩) hS (fun q _ h => hFc q h) hFc (fun q _ h => hFc q h) (fun E ce q9 u_1 t H1 locs ht hvm hw hB hz1 hk1 hS hce hcv hcl => ?_) (fun r_1 u1 t H1 locs ht hvm hw hB hz1 hk1 hS => ?_)
  · obtain ⟨heE, hB⟩ := hB
    subst heE
    obtain ⟨hP1, hK1, hD1⟩ := hB
    rw [ht] at hP1
    obtain ⟨hP, hD⟩ := va_joinP (wr := pick ((x_MR ad cs r1 r2 kind steps byteCount partCount stepsTaken hasRun lackedSteps decodings thrownDecodings bytes size count data made holds numbers lengths values states) ++ [(e1, .inl (ce1, 1, .inr (.inl outv)))]) [14]) hP hD [0, 1, 2, 3, 4, 5, 6, 7, 8, 9, 10, 11, 12, 13] [14] rfl rfl (by decide) (by decide) hk1 hFc hP1 hD1
    generalize H1 = H at hP hS hce ⊢
    have hP : va_P (dC, dI) vwCl (((x_MR ad cs r1 r2 kind steps byteCount partCount stepsTaken hasRun lackedSteps decodings thrownDecodings bytes size count data made holds numbers lengths values states) ++ [(e1, .inl (ce1, 1, .inr (.inl outv)))]) ++ (gw 8 r1 rc1 5 rows ++ gw 16 r2 rc2 6 parts)) H := hP.part (cx := (x_MR ad cs r1 r2 kind steps byteCount partCount stepsTaken hasRun lackedSteps decodings thrownDecodings bytes size count data made holds numbers lengths values states) ++ [(e1, .inl (ce1, 1, .inr (.inl outv)))]) [1, 2, 3, 4, 5, 6, 7, 8, 9, 10, 11, 12, 13, 14, 0] rfl
    have hD : va_D A (((x_MR ad cs r1 r2 kind steps byteCount partCount stepsTaken hasRun lackedSteps decodings thrownDecodings bytes size count data made holds numbers lengths values states) ++ [(e1, .inl (ce1, 1, .inr (.inl outv)))]) ++ (gw 8 r1 rc1 5 rows ++ gw 16 r2 rc2 6 parts)) := hD.part (cx := (x_MR ad cs r1 r2 kind steps byteCount partCount stepsTaken hasRun lackedSteps decodings thrownDecodings bytes size count data made holds numbers lengths values states) ++ [(e1, .inl (ce1, 1, .inr (.inl outv)))]) [1, 2, 3, 4, 5, 6, 7, 8, 9, 10, 11, 12, 13, 14, 0] (by decide) rfl
    have h := exC_er h
    by_cases c_2 : E = "java/lang/IllegalStateException"
    · have h := (if_pos c_2).symm.trans h
      subst c_2
      refine vx_widen (k := 1) (n := 6) (by decide) (by decide) ?_
      refine vx_catch (E := "java/lang/IllegalStateException") hown [] ⟨0, 8, 11, 26⟩ [] htab (fun z hz => absurd hz List.not_mem_nil) rfl (by decide) (hB _ wd_338) (va_Nw.use rfl (hG.1 _ (nw_at (i := 21) rfl))) hce hcv hcl ?_
      refine lv_astore_n (lv' := [(2, .ref q9), (0, .ref (ad 0)), (1, .ref e1)]) hx hb d_Law_decodeAll_11 rfl hl (by decide) rfl (fun ls hl => ?_)
      refine lv_iconst (v := 1) hx hb d_Law_decodeAll_12 (by decide) ?_
      have h := Option.some.inj h
      subst h
      exact W.iret hx hb hr (fun t ht hW => ⟨⟨_, (), rfl, rfl, AftW_mk hK hP hD ht hW⟩, hS.F ht⟩) hS.2.2 d_Law_decodeAll_13
    have h := (if_neg c_2).symm.trans h
    cases h
  obtain ⟨heE, hw⟩ := hw
  subst heE
  have hw := hw.symm
  subst hw
  have h := exC_ok h
  obtain ⟨hP1, hK1, hD1⟩ := hB
  rw [ht] at hP1
  obtain ⟨hP, hD⟩ := va_joinP (wr := pick ((x_MR ad cs r1 r2 kind steps byteCount partCount stepsTaken hasRun lackedSteps decodings thrownDecodings bytes size count data made holds numbers lengths values states) ++ [(e1, .inl (ce1, 1, .inr (.inl outv)))]) [14]) hP hD [0, 1, 2, 3, 4, 5, 6, 7, 8, 9, 10, 11, 12, 13] [14] rfl rfl (by decide) (by decide) hk1 hFc hP1 hD1
  generalize H1 = H at hP hS ⊢
  have hP : va_P (dC, dI) vwCl (((x_MR ad cs r1 r2 kind steps byteCount partCount stepsTaken hasRun lackedSteps u1.2.1 u1.2.2.1 bytes u1.2.2.2.1 u1.2.2.2.2.1 u1.2.2.2.2.2.1 u1.2.2.2.2.2.2.1 u1.2.2.2.2.2.2.2.1 u1.2.2.2.2.2.2.2.2.1 u1.2.2.2.2.2.2.2.2.2.1 u1.2.2.2.2.2.2.2.2.2.2.1 u1.2.2.2.2.2.2.2.2.2.2.2.1) ++ [(e1, .inl (ce1, 1, .inr (.inl outv)))]) ++ (gw 8 r1 rc1 5 u1.2.2.2.2.2.2.2.2.2.2.2.2.1 ++ gw 16 r2 rc2 6 u1.2.2.2.2.2.2.2.2.2.2.2.2.2)) H := hP.part (cx := (x_MR ad cs r1 r2 kind steps byteCount partCount stepsTaken hasRun lackedSteps u1.2.1 u1.2.2.1 bytes u1.2.2.2.1 u1.2.2.2.2.1 u1.2.2.2.2.2.1 u1.2.2.2.2.2.2.1 u1.2.2.2.2.2.2.2.1 u1.2.2.2.2.2.2.2.2.1 u1.2.2.2.2.2.2.2.2.2.1 u1.2.2.2.2.2.2.2.2.2.2.1 u1.2.2.2.2.2.2.2.2.2.2.2.1) ++ [(e1, .inl (ce1, 1, .inr (.inl outv)))]) [1, 2, 3, 4, 5, 6, 7, 8, 9, 10, 11, 12, 13, 14, 0] rfl
  have hD : va_D A (((x_MR ad cs r1 r2 kind steps byteCount partCount stepsTaken hasRun lackedSteps u1.2.1 u1.2.2.1 bytes u1.2.2.2.1 u1.2.2.2.2.1 u1.2.2.2.2.2.1 u1.2.2.2.2.2.2.1 u1.2.2.2.2.2.2.2.1 u1.2.2.2.2.2.2.2.2.1 u1.2.2.2.2.2.2.2.2.2.1 u1.2.2.2.2.2.2.2.2.2.2.1 u1.2.2.2.2.2.2.2.2.2.2.2.1) ++ [(e1, .inl (ce1, 1, .inr (.inl outv)))]) ++ (gw 8 r1 rc1 5 u1.2.2.2.2.2.2.2.2.2.2.2.2.1 ++ gw 16 r2 rc2 6 u1.2.2.2.2.2.2.2.2.2.2.2.2.2)) := hD.part (cx := (x_MR ad cs r1 r2 kind steps byteCount partCount stepsTaken hasRun lackedSteps u1.2.1 u1.2.2.1 bytes u1.2.2.2.1 u1.2.2.2.2.1 u1.2.2.2.2.2.1 u1.2.2.2.2.2.2.1 u1.2.2.2.2.2.2.2.1 u1.2.2.2.2.2.2.2.2.1 u1.2.2.2.2.2.2.2.2.2.1 u1.2.2.2.2.2.2.2.2.2.2.1 u1.2.2.2.2.2.2.2.2.2.2.2.1) ++ [(e1, .inl (ce1, 1, .inr (.inl outv)))]) [1, 2, 3, 4, 5, 6, 7, 8, 9, 10, 11, 12, 13, 14, 0] (by decide) rfl
  refine W.widen (k := 1) (n := 6) (by decide) (by decide) ?_
  refine lv_i2l hx hb d_Law_decodeAll_6 rfl ?_
  refine va_last hx hb hK hP hD hS 14 10 rfl rfl (show ¬ ((0 : Int32) < 0 ∨ 1 ≤ (0 : Int32).toNatClampNeg) from by decide) d_Law_decodeAll_7 (fun H locs hP hD hS => ?_)
  have hP : va_P (dC, dI) vwCl (((x_MR ad cs r1 r2 kind steps byteCount partCount stepsTaken hasRun lackedSteps u1.2.1 u1.2.2.1 bytes u1.2.2.2.1 u1.2.2.2.2.1 u1.2.2.2.2.2.1 u1.2.2.2.2.2.2.1 u1.2.2.2.2.2.2.2.1 u1.2.2.2.2.2.2.2.2.1 u1.2.2.2.2.2.2.2.2.2.1 u1.2.2.2.2.2.2.2.2.2.2.1 u1.2.2.2.2.2.2.2.2.2.2.2.1) ++ [(e1, .inl (ce1, 1, .inr (.inl (vp_updL outv (0 : Int32).toNatClampNeg u1.1.toInt64))))]) ++ (gw 8 r1 rc1 5 u1.2.2.2.2.2.2.2.2.2.2.2.2.1 ++ gw 16 r2 rc2 6 u1.2.2.2.2.2.2.2.2.2.2.2.2.2)) H := hP
  have hD : va_D A (((x_MR ad cs r1 r2 kind steps byteCount partCount stepsTaken hasRun lackedSteps u1.2.1 u1.2.2.1 bytes u1.2.2.2.1 u1.2.2.2.2.1 u1.2.2.2.2.2.1 u1.2.2.2.2.2.2.1 u1.2.2.2.2.2.2.2.1 u1.2.2.2.2.2.2.2.2.1 u1.2.2.2.2.2.2.2.2.2.1 u1.2.2.2.2.2.2.2.2.2.2.1 u1.2.2.2.2.2.2.2.2.2.2.2.1) ++ [(e1, .inl (ce1, 1, .inr (.inl (vp_updL outv (0 : Int32).toNatClampNeg u1.1.toInt64))))]) ++ (gw 8 r1 rc1 5 u1.2.2.2.2.2.2.2.2.2.2.2.2.1 ++ gw 16 r2 rc2 6 u1.2.2.2.2.2.2.2.2.2.2.2.2.2)) := hD
  refine lv_goto (tgt := 14) hx hb d_Law_decodeAll_8 (by decide) ?_
  refine lv_iconst (v := 0) hx hb d_Law_decodeAll_14 (by decide) ?_
  have h := Option.some.inj h
  subst h
  exact W.iret hx hb hr (fun t ht hW => ⟨⟨_, (), rfl, rfl, AftW_mk hK hP hD ht hW⟩, hS.F ht⟩) hS.2.2 d_Law_decodeAll_15
def d_Law_at (N : Nat) (x1 : Int32) (values : Nat → Int32) (outv : Nat → Int64) : Option (Int32 × (Nat → Int64)) :=
 (d_MR_at N x1 values).bind (fun o1 => exC o1 (fun E => if E = "java/lang/IndexOutOfBoundsException" then some ((1 : Int32), outv) else none) (fun u1 => some ((0 : Int32), vp_updL outv (0 : Int32).toNatClampNeg u1.toInt64)))
abbrev rm_Law_at : Room := { frames := 8, cells := 1, slots := 6, locals := 123 }
set_option maxHeartbeats 4000000 in
set_option maxRecDepth 100000 in
theorem c_Law_at (l : Launch) (hlt : l.stackTraces = false) (dC : Nat → ClassId) (dI : Nat → Nat → Nat) (tt : Nat → Nat) (ad : Nat → Nat) (cs : Nat → ClassId) (e1 : Nat) (ce1 : ClassId) (r1 : Nat → Nat) (rc1 : ClassId) (r2 : Nat → Nat) (rc2 : ClassId) (sz N : Nat) (x1 : Int32) (kind : Int32) (steps : Int32) (byteCount : Int32) (partCount : Int32) (stepsTaken : Int32) (hasRun : Int32) (lackedSteps : Int32) (decodings : Int32) (thrownDecodings : Int32) (bytes : Nat → Int32) (size : Int32) (count : Int32) (data : Nat → Int32) (made : Nat → Int32) (holds : Nat → Int32) (numbers : Nat → Int32) (lengths : Nat → Int32) (values : Nat → Int32) (states : Nat → Int32) (rows : Nat → Nat → Int32) (parts : Nat → Nat → Int32) (outv : Nat → Int64) (out : Int32 × (Nat → Int64)) (h : d_Law_at N x1 values outv = some out) :
    Met l y_Law_at (w_Law_at) rm_Law_at (va_Pc [.ref (ad 0), .int x1, .ref e1] (PreW (dC, dI) [((cs 1), .int), ((cs 2), .array .int), ((cs 4), .int), ((cs 5), .int), ((cs 7), .int), ((cs 8), .int), ((cs 9), .int), ((cs 10), .array .int), ((cs 12), .int), ((cs 13), .int), (ce1, .long), (rc1, .int), (rc2, .int)] (((x_MR ad cs r1 r2 kind steps byteCount partCount stepsTaken hasRun lackedSteps decodings thrownDecodings bytes size count data made holds numbers lengths values states) ++ [(e1, .inl (ce1, 1, .inr (.inl outv)))]) ++ (gw 8 r1 rc1 5 rows ++ gw 16 r2 rc2 6 parts)) sz tt)) (va_Qi (fun (r : Int32) (_ : Unit) => r = out.1) (fun _ => AftW (dC, dI) [((cs 1), .int), ((cs 2), .array .int), ((cs 4), .int), ((cs 5), .int), ((cs 7), .int), ((cs 8), .int), ((cs 9), .int), ((cs 10), .array .int), ((cs 12), .int), ((cs 13), .int), (ce1, .long), (rc1, .int), (rc2, .int)] (va_A (((x_MR ad cs r1 r2 kind steps byteCount partCount stepsTaken hasRun lackedSteps decodings thrownDecodings bytes size count data made holds numbers lengths values states) ++ [(e1, .inl (ce1, 1, .inr (.inl outv)))]) ++ (gw 8 r1 rc1 5 rows ++ gw 16 r2 rc2 6 parts)) sz) (((x_MR ad cs r1 r2 kind steps byteCount partCount stepsTaken hasRun lackedSteps decodings thrownDecodings bytes size count data made holds numbers lengths values states) ++ [(e1, .inl (ce1, 1, .inr (.inl out.2)))]) ++ (gw 8 r1 rc1 5 rows ++ gw 16 r2 rc2 6 parts))) (va_A (((x_MR ad cs r1 r2 kind steps byteCount partCount stepsTaken hasRun lackedSteps decodings thrownDecodings bytes size count data made holds numbers lengths values states) ++ [(e1, .inl (ce1, 1, .inr (.inl outv)))]) ++ (gw 8 r1 rc1 5 rows ++ gw 16 r2 rc2 6 parts)) sz)) 1 6 (va_A (((x_MR ad cs r1 r2 kind steps byteCount partCount stepsTaken hasRun lackedSteps decodings thrownDecodings bytes size count data made holds numbers lengths values states) ++ [(e1, .inl (ce1, 1, .inr (.inl outv)))]) ++ (gw 8 r1 rc1 5 rows ++ gw 16 r2 rc2 6 parts)) sz) := by
  refine va_MetW (cc := k_Law_at) (maxL := 4) (ret := (some .int)) (hh := [(0, 9, 12, 21)]) (by decide) rfl ?_
  intro p e s m args below meth c s₁ B hml hv
  obtain ⟨rfl, hsz, hP, hK, hD0, hG⟩ := hv
  have hx := B.exec
  have hb := B.bytes
  have hr := B.returns
  have hts := atoms_spec (ws := (w_Law_at)) B.pre
  have hB : ∀ w ∈ BIG, w.before _ s = true := fun w h9 => hts w (List.mem_cons_of_mem _ h9)
  have hown : s.vm.findClass R_Law = some m.cls := findClass_of_methodNamed B.named
  have htab : c.exceptionTable.toList = tableOf [(0, 9, 12, 21)] := vx_table (x := y_Law_at) B (hts _ List.mem_cons_self)
  have hlocks := B.notSynchronized
  subst hsz
  have hD := hD0.self (sz := s.heap.size)
  generalize hAe : va_A (((x_MR ad cs r1 r2 kind steps byteCount partCount stepsTaken hasRun lackedSteps decodings thrownDecodings bytes size count data made holds numbers lengths values states) ++ [(e1, .inl (ce1, 1, .inr (.inl outv)))]) ++ (gw 8 r1 rc1 5 rows ++ gw 16 r2 rc2 6 parts)) s.heap.size = A at hD hG ⊢
  have hA : ∀ q : Nat, s.heap.size ≤ q → A q := fun q h => by rw [← hAe]; exact Or.inr h
  have hS : va_S A s.heap s.heap [] := va_S.rf
  have hl := lv_entry ([.ref (ad 0), .int x1, .ref e1]) (n := 4) (Nat.le_of_ble_eq_true rfl)
  rw [lg_entry_eq]
  generalize (lg_sl ([.ref (ad 0), .int x1, .ref e1]) ++ List.replicate (4 - (lg_sl ([.ref (ad 0), .int x1, .ref e1])).length) Slot.unset).toArray = ls at hl ⊢
  have hl : lv_has ls 4 [(0, .ref (ad 0)), (1, .int x1), (2, .ref e1)] := hl
  unfold d_Law_at at h
  refine lv_aload_n hx hb d_Law_at_0 rfl (lv_at hl 2 rfl) ?_
  refine lv_iconst (v := 0) hx hb d_Law_at_1 (by decide) ?_
  refine lv_aload_n hx hb d_Law_at_2 rfl (lv_at hl 0 rfl) ?_
  refine lv_iload_n hx hb d_Law_at_3 rfl (lv_at hl 1 rfl) ?_
  obtain ⟨o1, ho1, h⟩ := Option.bind_eq_some_iff.mp h
  have hKc := hK.sub (tys' := [((cs 1), .int), ((cs 2), .array .int), ((cs 4), .int), ((cs 5), .int), ((cs 7), .int), ((cs 8), .int), ((cs 9), .int), ((cs 10), .array .int), ((cs 12), .int), ((cs 13), .int), (rc1, .int), (rc2, .int)]) [0, 1, 2, 3, 4, 5, 6, 7, 8, 9, 11, 12] rfl
  have hPc := hP.part (cx := x_MR ad cs r1 r2 kind steps byteCount partCount stepsTaken hasRun lackedSteps decodings thrownDecodings bytes size count data made holds numbers lengths values states) [0, 1, 2, 3, 4, 5, 6, 7, 8, 9, 10, 11, 12, 13] rfl
  have hDc := hD.part (cx := x_MR ad cs r1 r2 kind steps byteCount partCount stepsTaken hasRun lackedSteps decodings thrownDecodings bytes size count data made holds numbers lengths values states) [0, 1, 2, 3, 4, 5, 6, 7, 8, 9, 10, 11, 12, 13] (by decide) rfl
  have hFc := va_freeP (cx := x_MR ad cs r1 r2 kind steps byteCount partCount stepsTaken hasRun lackedSteps decodings thrownDecodings bytes size count data made holds numbers lengths values states) hD hS hA [0, 1, 2, 3, 4, 5, 6, 7, 8, 9, 10, 11, 12, 13] rfl
  refine vx_calli (vx_runV (As := [.int x1]) (rest := [.int (0 : Int32), .ref e1]) ⟨hx, hb, hml, hown, hB⟩ (c_MR_at l hlt dC dI tt ad cs r1 rc1 r2 rc2 s.heap.size N x1 kind steps byteCount partCount stepsTaken hasRun lackedSteps decodings thrownDecodings bytes size count data made holds numbers lengths values states rows parts o1 ho1) (cwV 1 hB (gV wd_350 wd_348 wd_347 wd_105 wd_349) rfl rfl rfl (by decide +kernel) ⟨Nat.le_of_ble_eq_true rfl, Nat.le_of_ble_eq_true rfl⟩) ⟨PreW_blind, va_recv hKc hPc (ci := 0) (q0 := 0) rfl rfl, PreW_mk hKc hPc hDc hG hS hFc⟩ rfl rfl hl.1 rfl (lv_room (Nat.le_of_ble_eq_true rfl)) d_Law_at_4 ⟨Nat.le_of_ble_eq_true rfl, Nat.le_of_ble_eq_true rfl⟩) hS (fun q _ h => hFc q h) hFc (fun q _ h => hFc q h) (fun E ce q9 u_1 t H1 locs ht hvm hw hB hz1 hk1 hS hce hcv hcl => ?_) (fun r_1 u1 t H1 locs ht hvm hw hB hz1 hk1 hS => ?_)
  · obtain ⟨heE, hB⟩ := hB
    subst heE
    obtain ⟨hP1, hK1, hD1⟩ := hB
    rw [ht] at hP1
    obtain ⟨hP, hD⟩ := va_joinP (wr := pick ((x_MR ad cs r1 r2 kind steps byteCount partCount stepsTaken hasRun lackedSteps decodings thrownDecodings bytes size count data made holds numbers lengths values states) ++ [(e1, .inl (ce1, 1, .inr (.inl outv)))]) [14]) hP hD [0, 1, 2, 3, 4, 5, 6, 7, 8, 9, 10, 11, 12, 13] [14] rfl rfl (by decide) (by decide) hk1 hFc hP1 hD1
    generalize H1 = H at hP hS hce ⊢
    have hP : va_P (dC, dI) vwCl (((x_MR ad cs r1 r2 kind steps byteCount partCount stepsTaken hasRun lackedSteps decodings thrownDecodings bytes size count data made holds numbers lengths values states) ++ [(e1, .inl (ce1, 1, .inr (.inl outv)))]) ++ (gw 8 r1 rc1 5 rows ++ gw 16 r2 rc2 6 parts)) H := hP.part (cx := (x_MR ad cs r1 r2 kind steps byteCount partCount stepsTaken hasRun lackedSteps decodings thrownDecodings bytes size count data made holds numbers lengths values states) ++ [(e1, .inl (ce1, 1, .inr (.inl outv)))]) [1, 2, 3, 4, 5, 6, 7, 8, 9, 10, 11, 12, 13, 14, 0] rfl
    have hD : va_D A (((x_MR ad cs r1 r2 kind steps byteCount partCount stepsTaken hasRun lackedSteps decodings thrownDecodings bytes size count data made holds numbers lengths values states) ++ [(e1, .inl (ce1, 1, .inr (.inl outv)))]) ++ (gw 8 r1 rc1 5 rows ++ gw 16 r2 rc2 6 parts)) := hD.part (cx := (x_MR ad cs r1 r2 kind steps byteCount partCount stepsTaken hasRun lackedSteps decodings thrownDecodings bytes size count data made holds numbers lengths values states) ++ [(e1, .inl (ce1, 1, .inr (.inl outv)))]) [1, 2, 3, 4, 5, 6, 7, 8, 9, 10, 11, 12, 13, 14, 0] (by decide) rfl
    have h := exC_er h
    by_cases c_2 : E = "java/lang/IndexOutOfBoundsException"
    · have h := (if_pos c_2).symm.trans h
      subst c_2
      refine vx_widen (k := 1) (n := 6) (by decide) (by decide) ?_
      refine vx_catch (E := "java/lang/IndexOutOfBoundsException") hown [] ⟨0, 9, 12, 21⟩ [] htab (fun z hz => absurd hz List.not_mem_nil) rfl (by decide) (hB _ wd_333) (va_Nw.use rfl (hG.1 _ (nw_at (i := 20) rfl))) hce hcv hcl ?_
      refine lv_astore_n (lv' := [(3, .ref q9), (0, .ref (ad 0)), (1, .int x1), (2, .ref e1)]) hx hb d_Law_at_12 rfl hl (by decide) rfl (fun ls hl => ?_)
      refine lv_iconst (v := 1) hx hb d_Law_at_13 (by decide) ?_
      have h := Option.some.inj h
      subst h
      exact W.iret hx hb hr (fun t ht hW => ⟨⟨_, (), rfl, rfl, AftW_mk hK hP hD ht hW⟩, hS.F ht⟩) hS.2.2 d_Law_at_14
    have h := (if_neg c_2).symm.trans h
    cases h
  obtain ⟨heE, hw⟩ := hw
  subst heE
  have hw := hw.symm
  subst hw
  have h := exC_ok h
  obtain ⟨hP1, hK1, hD1⟩ := hB
  rw [ht] at hP1
  obtain ⟨hP, hD⟩ := va_joinP (wr := pick ((x_MR ad cs r1 r2 kind steps byteCount partCount stepsTaken hasRun lackedSteps decodings thrownDecodings bytes size count data made holds numbers lengths values states) ++ [(e1, .inl (ce1, 1, .inr (.inl outv)))]) [14]) hP hD [0, 1, 2, 3, 4, 5, 6, 7, 8, 9, 10, 11, 12, 13] [14] rfl rfl (by decide) (by decide) hk1 hFc hP1 hD1
  generalize H1 = H at hP hS ⊢
  have hP : va_P (dC, dI) vwCl (((x_MR ad cs r1 r2 kind steps byteCount partCount stepsTaken hasRun lackedSteps decodings thrownDecodings bytes size count data made holds numbers lengths values states) ++ [(e1, .inl (ce1, 1, .inr (.inl outv)))]) ++ (gw 8 r1 rc1 5 rows ++ gw 16 r2 rc2 6 parts)) H := hP.part (cx := (x_MR ad cs r1 r2 kind steps byteCount partCount stepsTaken hasRun lackedSteps decodings thrownDecodings bytes size count data made holds numbers lengths values states) ++ [(e1, .inl (ce1, 1, .inr (.inl outv)))]) [1, 2, 3, 4, 5, 6, 7, 8, 9, 10, 11, 12, 13, 14, 0] rfl
  have hD : va_D A (((x_MR ad cs r1 r2 kind steps byteCount partCount stepsTaken hasRun lackedSteps decodings thrownDecodings bytes size count data made holds numbers lengths values states) ++ [(e1, .inl (ce1, 1, .inr (.inl outv)))]) ++ (gw 8 r1 rc1 5 rows ++ gw 16 r2 rc2 6 parts)) := hD.part (cx := (x_MR ad cs r1 r2 kind steps byteCount partCount stepsTaken hasRun lackedSteps decodings thrownDecodings bytes size count data made holds numbers lengths values states) ++ [(e1, .inl (ce1, 1, .inr (.inl outv)))]) [1, 2, 3, 4, 5, 6, 7, 8, 9, 10, 11, 12, 13, 14, 0] (by decide) rfl
  refine W.widen (k := 1) (n := 6) (by decide) (by decide) ?_
  refine lv_i2l hx hb d_Law_at_7 rfl ?_
  refine va_last hx hb hK hP hD hS 14 10 rfl rfl (show ¬ ((0 : Int32) < 0 ∨ 1 ≤ (0 : Int32).toNatClampNeg) from by decide) d_Law_at_8 (fun H locs hP hD hS => ?_)
  have hP : va_P (dC, dI) vwCl (((x_MR ad cs r1 r2 kind steps byteCount partCount stepsTaken hasRun lackedSteps decodings thrownDecodings bytes size count data made holds numbers lengths values states) ++ [(e1, .inl (ce1, 1, .inr (.inl (vp_updL outv (0 : Int32).toNatClampNeg u1.toInt64))))]) ++ (gw 8 r1 rc1 5 rows ++ gw 16 r2 rc2 6 parts)) H := hP
  have hD : va_D A (((x_MR ad cs r1 r2 kind steps byteCount partCount stepsTaken hasRun lackedSteps decodings thrownDecodings bytes size count data made holds numbers lengths values states) ++ [(e1, .inl (ce1, 1, .inr (.inl (vp_updL outv (0 : Int32).toNatClampNeg u1.toInt64))))]) ++ (gw 8 r1 rc1 5 rows ++ gw 16 r2 rc2 6 parts)) := hD
  refine lv_goto (tgt := 15) hx hb d_Law_at_9 (by decide) ?_
  refine lv_iconst (v := 0) hx hb d_Law_at_15 (by decide) ?_
  have h := Option.some.inj h
  subst h
  exact W.iret hx hb hr (fun t ht hW => ⟨⟨_, (), rfl, rfl, AftW_mk hK hP hD ht hW⟩, hS.F ht⟩) hS.2.2 d_Law_at_16
def d_Law_state (N : Nat) (x1 : Int32) (states : Nat → Int32) (outv : Nat → Int64) : Option (Int32 × (Nat → Int64)) :=
 (d_MR_state N x1 states).bind (fun o1 => exC o1 (fun E => if E = "java/lang/IndexOutOfBoundsException" then some ((1 : Int32), outv) else none) (fun u1 => some ((0 : Int32), vp_updL outv (0 : Int32).toNatClampNeg u1.toInt64)))
abbrev rm_Law_state : Room := { frames := 8, cells := 1, slots := 6, locals := 123 }
set_option maxHeartbeats 4000000 in
set_option maxRecDepth 100000 in
theorem c_Law_state (l : Launch) (hlt : l.stackTraces = false) (dC : Nat → ClassId) (dI : Nat → Nat → Nat) (tt : Nat → Nat) (ad : Nat → Nat) (cs : Nat → ClassId) (e1 : Nat) (ce1 : ClassId) (r1 : Nat → Nat) (rc1 : ClassId) (r2 : Nat → Nat) (rc2 : ClassId) (sz N : Nat) (x1 : Int32) (kind : Int32) (steps : Int32) (byteCount : Int32) (partCount : Int32) (stepsTaken : Int32) (hasRun : Int32) (lackedSteps : Int32) (decodings : Int32) (thrownDecodings : Int32) (bytes : Nat → Int32) (size : Int32) (count : Int32) (data : Nat → Int32) (made : Nat → Int32) (holds : Nat → Int32) (numbers : Nat → Int32) (lengths : Nat → Int32) (values : Nat → Int32) (states : Nat → Int32) (rows : Nat → Nat → Int32) (parts : Nat → Nat → Int32) (outv : Nat → Int64) (out : Int32 × (Nat → Int64)) (h : d_Law_state N x1 states outv = some out) :
    Met l y_Law_state (w_Law_state) rm_Law_state (va_Pc [.ref (ad 0), .int x1, .ref e1] (PreW (dC, dI) [((cs 1), .int), ((cs 2), .array .int), ((cs 4), .int), ((cs 5), .int), ((cs 7), .int), ((cs 8), .int), ((cs 9), .int), ((cs 10), .array .int), ((cs 12), .int), ((cs 13), .int), (ce1, .long), (rc1, .int), (rc2, .int)] (((x_MR ad cs r1 r2 kind steps byteCount partCount stepsTaken hasRun lackedSteps decodings thrownDecodings bytes size count data made holds numbers lengths values states) ++ [(e1, .inl (ce1, 1, .inr (.inl outv)))]) ++ (gw 8 r1 rc1 5 rows ++ gw 16 r2 rc2 6 parts)) sz tt)) (va_Qi (fun (r : Int32) (_ : Unit) => r = out.1) (fun _ => AftW (dC, dI) [((cs 1), .int), ((cs 2), .array .int), ((cs 4), .int), ((cs 5), .int), ((cs 7), .int), ((cs 8), .int), ((cs 9), .int), ((cs 10), .array .int), ((cs 12), .int), ((cs 13), .int), (ce1, .long), (rc1, .int), (rc2, .int)] (va_A (((x_MR ad cs r1 r2 kind steps byteCount partCount stepsTaken hasRun lackedSteps decodings thrownDecodings bytes size count data made holds numbers lengths values states) ++ [(e1, .inl (ce1, 1, .inr (.inl outv)))]) ++ (gw 8 r1 rc1 5 rows ++ gw 16 r2 rc2 6 parts)) sz) (((x_MR ad cs r1 r2 kind steps byteCount partCount stepsTaken hasRun lackedSteps decodings thrownDecodings bytes size count data made holds numbers lengths values states) ++ [(e1, .inl (ce1, 1, .inr (.inl out.2)))]) ++ (gw 8 r1 rc1 5 rows ++ gw 16 r2 rc2 6 parts))) (va_A (((x_MR ad cs r1 r2 kind steps byteCount partCount stepsTaken hasRun lackedSteps decodings thrownDecodings bytes size count data made holds numbers lengths values states) ++ [(e1, .inl (ce1, 1, .inr (.inl outv)))]) ++ (gw 8 r1 rc1 5 rows ++ gw 16 r2 rc2 6 parts)) sz)) 1 6 (va_A (((x_MR ad cs r1 r2 kind steps byteCount partCount stepsTaken hasRun lackedSteps decodings thrownDecodings bytes size count data made holds numbers lengths values states) ++ [(e1, .inl (ce1, 1, .inr (.inl outv)))]) ++ (gw 8 r1 rc1 5 rows ++ gw 16 r2 rc2 6 parts)) sz) := by
  refine va_MetW (cc := k_Law_state) (maxL := 4) (ret := (some .int)) (hh := [(0, 9, 12, 21)]) (by decide) rfl ?_
  intro p e s m args below meth c s₁ B hml hv
  obtain ⟨rfl, hsz, hP, hK, hD0, hG⟩ := hv
  have hx := B.exec
  have hb := B.bytes
  have hr := B.returns
  have hts := atoms_spec (ws := (w_Law_state)) B.pre
  have hB : ∀ w ∈ BIG, w.before _ s = true := fun w h9 => hts w (List.mem_cons_of_mem _ h9)
  have hown : s.vm.findClass R_Law = some m.cls := findClass_of_methodNamed B.named
  have htab : c.exceptionTable.toList = tableOf [(0, 9, 12, 21)] := vx_table (x := y_Law_state) B (hts _ List.mem_cons_self)
  have hlocks := B.notSynchronized
  subst hsz
  have hD := hD0.self (sz := s.heap.size)
  generalize hAe : va_A (((x_MR ad cs r1 r2 kind steps byteCount partCount stepsTaken hasRun lackedSteps decodings thrownDecodings bytes size count data made holds numbers lengths values states) ++ [(e1, .inl (ce1, 1, .inr (.inl outv)))]) ++ (gw 8 r1 rc1 5 rows ++ gw 16 r2 rc2 6 parts)) s.heap.size = A at hD hG ⊢
  have hA : ∀ q : Nat, s.heap.size ≤ q → A q := fun q h => by rw [← hAe]; exact Or.inr h
  have hS : va_S A s.heap s.heap [] := va_S.rf
  have hl := lv_entry ([.ref (ad 0), .int x1, .ref e1]) (n := 4) (Nat.le_of_ble_eq_true rfl)
  rw [lg_entry_eq]
  generalize (lg_sl ([.ref (ad 0), .int x1, .ref e1]) ++ List.replicate (4 - (lg_sl ([.ref (ad 0), .int x1, .ref e1])).length) Slot.unset).toArray = ls at hl ⊢
  have hl : lv_has ls 4 [(0, .ref (ad 0)), (1, .int x1), (2, .ref e1)] := hl
  unfold d_Law_state at h
  refine lv_aload_n hx hb d_Law_state_0 rfl (lv_at hl 2 rfl) ?_
  refine lv_iconst (v := 0) hx hb d_Law_state_1 (by decide) ?_
  refine lv_aload_n hx hb d_Law_state_2 rfl (lv_at hl 0 rfl) ?_
  refine lv_iload_n hx hb d_Law_state_3 rfl (lv_at hl 1 rfl) ?_
  obtain ⟨o1, ho1, h⟩ := Option.bind_eq_some_iff.mp h
  have hKc := hK.sub (tys' := [((cs 1), .int), ((cs 2), .array .int), ((cs 4), .int), ((cs 5), .int), ((cs 7), .int), ((cs 8), .int), ((cs 9), .int), ((cs 10), .array .int), ((cs 12), .int), ((cs 13), .int), (rc1, .int), (rc2, .int)]) [0, 1, 2, 3, 4, 5, 6, 7, 8, 9, 11, 12] rfl
  have hPc := hP.part (cx := x_MR ad cs r1 r2 kind steps byteCount partCount stepsTaken hasRun lackedSteps decodings thrownDecodings bytes size count data made holds numbers lengths values states) [0, 1, 2, 3, 4, 5, 6, 7, 8, 9, 10, 11, 12, 13] rfl
  have hDc := hD.part (cx := x_MR ad cs r1 r2 kind steps byteCount partCount stepsTaken hasRun lackedSteps decodings thrownDecodings bytes size count data made holds numbers lengths values states) [0, 1, 2, 3, 4, 5, 6, 7, 8, 9, 10, 11, 12, 13] (by decide) rfl
  have hFc := va_freeP (cx := x_MR ad cs r1 r2 kind steps byteCount partCount stepsTaken hasRun lackedSteps decodings thrownDecodings bytes size count data made holds numbers lengths values states) hD hS hA [0, 1, 2, 3, 4, 5, 6, 7, 8, 9, 10, 11, 12, 13] rfl
  refine vx_calli (vx_runV (As := [.int x1]) (rest := [.int (0 : Int32), .ref e1]) ⟨hx, hb, hml, hown, hB⟩ (c_MR_state l hlt dC dI tt ad cs r1 rc1 r2 rc2 s.heap.size N x1 kind steps byteCount partCount stepsTaken hasRun lackedSteps decodings thrownDecodings bytes size count data made holds numbers lengths values states rows parts o1 ho1) (cwV 1 hB (gV wd_354 wd_352 wd_351 wd_105 wd_353) rfl rfl rfl (by decide +kernel) ⟨Nat.le_of_ble_eq_true rfl, Nat.le_of_ble_eq_true rfl⟩) ⟨PreW_blind, va_recv hKc hPc (ci := 0) (q0 := 0) rfl rfl, PreW_mk hKc hPc hDc hG hS hFc⟩ rfl rfl hl.1 rfl (lv_room (Nat.le_of_ble_eq_true rfl)) d_Law_state_4 ⟨Nat.le_of_ble_eq_true rfl, Nat.le_of_ble_eq_true rfl⟩) hS (fun q _ h => hFc q h) hFc (fun q _ h => hFc q h) (fun E ce q9 u_1 t H1 locs ht hvm hw hB hz1 hk1 hS hce hcv hcl => ?_) (fun r_1 u1 t H1 locs ht hvm hw hB hz1 hk1 hS => ?_)
  · obtain ⟨heE, hB⟩ := hB
    subst heE
    obtain ⟨hP1, hK1, hD1⟩ := hB
    rw [ht] at hP1
    obtain ⟨hP, hD⟩ := va_joinP (wr := pick ((x_MR ad cs r1 r2 kind steps byteCount partCount stepsTaken hasRun lackedSteps decodings thrownDecodings bytes size count data made holds numbers lengths values states) ++ [(e1, .inl (ce1, 1, .inr (.inl outv)))]) [14]) hP hD [0, 1, 2, 3, 4, 5, 6, 7, 8, 9, 10, 11, 12, 13] [14] rfl rfl (by decide) (by decide) hk1 hFc hP1 hD1
    generalize H1 = H at hP hS hce ⊢
    have hP : va_P (dC, dI) vwCl (((x_MR ad cs r1 r2 kind steps byteCount partCount stepsTaken hasRun lackedSteps decodings thrownDecodings bytes size count data made holds numbers lengths values states) ++ [(e1, .inl (ce1, 1, .inr (.inl outv)))]) ++ (gw 8 r1 rc1 5 rows ++ gw 16 r2 rc2 6 parts)) H := hP.part (cx := (x_MR ad cs r1 r2 kind steps byteCount partCount stepsTaken hasRun lackedSteps decodings thrownDecodings bytes size count data made holds numbers lengths values states) ++ [(e1, .inl (ce1, 1, .inr (.inl outv)))]) [1, 2, 3, 4, 5, 6, 7, 8, 9, 10, 11, 12, 13, 14, 0] rfl
    have hD : va_D A (((x_MR ad cs r1 r2 kind steps byteCount partCount stepsTaken hasRun lackedSteps decodings thrownDecodings bytes size count data made holds numbers lengths values states) ++ [(e1, .inl (ce1, 1, .inr (.inl outv)))]) ++ (gw 8 r1 rc1 5 rows ++ gw 16 r2 rc2 6 parts)) := hD.part (cx := (x_MR ad cs r1 r2 kind steps byteCount partCount stepsTaken hasRun lackedSteps decodings thrownDecodings bytes size count data made holds numbers lengths values states) ++ [(e1, .inl (ce1, 1, .inr (.inl outv)))]) [1, 2, 3, 4, 5, 6, 7, 8, 9, 10, 11, 12, 13, 14, 0] (by decide) rfl
    have h := exC_er h
    by_cases c_2 : E = "java/lang/IndexOutOfBoundsException"
    · have h := (if_pos c_2).symm.trans h
      subst c_2
      refine vx_widen (k := 1) (n := 6) (by decide) (by decide) ?_
      refine vx_catch (E := "java/lang/IndexOutOfBoundsException") hown [] ⟨0, 9, 12, 21⟩ [] htab (fun z hz => absurd hz List.not_mem_nil) rfl (by decide) (hB _ wd_333) (va_Nw.use rfl (hG.1 _ (nw_at (i := 20) rfl))) hce hcv hcl ?_
      refine lv_astore_n (lv' := [(3, .ref q9), (0, .ref (ad 0)), (1, .int x1), (2, .ref e1)]) hx hb d_Law_state_12 rfl hl (by decide) rfl (fun ls hl => ?_)
      refine lv_iconst (v := 1) hx hb d_Law_state_13 (by decide) ?_
      have h := Option.some.inj h
      subst h
      exact W.iret hx hb hr (fun t ht hW => ⟨⟨_, (), rfl, rfl, AftW_mk hK hP hD ht hW⟩, hS.F ht⟩) hS.2.2 d_Law_state_14
    have h := (if_neg c_2).symm.trans h
    cases h
  obtain ⟨heE, hw⟩ := hw
  subst heE
  have hw := hw.symm
  subst hw
  have h := exC_ok h
  obtain ⟨hP1, hK1, hD1⟩ := hB
  rw [ht] at hP1
  obtain ⟨hP, hD⟩ := va_joinP (wr := pick ((x_MR ad cs r1 r2 kind steps byteCount partCount stepsTaken hasRun lackedSteps decodings thrownDecodings bytes size count data made holds numbers lengths values states) ++ [(e1, .inl (ce1, 1, .inr (.inl outv)))]) [14]) hP hD [0, 1, 2, 3, 4, 5, 6, 7, 8, 9, 10, 11, 12, 13] [14] rfl rfl (by decide) (by decide) hk1 hFc hP1 hD1
  generalize H1 = H at hP hS ⊢
  have hP : va_P (dC, dI) vwCl (((x_MR ad cs r1 r2 kind steps byteCount partCount stepsTaken hasRun lackedSteps decodings thrownDecodings bytes size count data made holds numbers lengths values states) ++ [(e1, .inl (ce1, 1, .inr (.inl outv)))]) ++ (gw 8 r1 rc1 5 rows ++ gw 16 r2 rc2 6 parts)) H := hP.part (cx := (x_MR ad cs r1 r2 kind steps byteCount partCount stepsTaken hasRun lackedSteps decodings thrownDecodings bytes size count data made holds numbers lengths values states) ++ [(e1, .inl (ce1, 1, .inr (.inl outv)))]) [1, 2, 3, 4, 5, 6, 7, 8, 9, 10, 11, 12, 13, 14, 0] rfl
  have hD : va_D A (((x_MR ad cs r1 r2 kind steps byteCount partCount stepsTaken hasRun lackedSteps decodings thrownDecodings bytes size count data made holds numbers lengths values states) ++ [(e1, .inl (ce1, 1, .inr (.inl outv)))]) ++ (gw 8 r1 rc1 5 rows ++ gw 16 r2 rc2 6 parts)) := hD.part (cx := (x_MR ad cs r1 r2 kind steps byteCount partCount stepsTaken hasRun lackedSteps decodings thrownDecodings bytes size count data made holds numbers lengths values states) ++ [(e1, .inl (ce1, 1, .inr (.inl outv)))]) [1, 2, 3, 4, 5, 6, 7, 8, 9, 10, 11, 12, 13, 14, 0] (by decide) rfl
  refine W.widen (k := 1) (n := 6) (by decide) (by decide) ?_
  refine lv_i2l hx hb d_Law_state_7 rfl ?_
  refine va_last hx hb hK hP hD hS 14 10 rfl rfl (show ¬ ((0 : Int32) < 0 ∨ 1 ≤ (0 : Int32).toNatClampNeg) from by decide) d_Law_state_8 (fun H locs hP hD hS => ?_)
  have hP : va_P (dC, dI) vwCl (((x_MR ad cs r1 r2 kind steps byteCount partCount stepsTaken hasRun lackedSteps decodings thrownDecodings bytes size count data made holds numbers lengths values states) ++ [(e1, .inl (ce1, 1, .inr (.inl (vp_updL outv (0 : Int32).toNatClampNeg u1.toInt64))))]) ++ (gw 8 r1 rc1 5 rows ++ gw 16 r2 rc2 6 parts)) H := hP
  have hD : va_D A (((x_MR ad cs r1 r2 kind steps byteCount partCount stepsTaken hasRun lackedSteps decodings thrownDecodings bytes size count data made holds numbers lengths values states) ++ [(e1, .inl (ce1, 1, .inr (.inl (vp_updL outv (0 : Int32).toNatClampNeg u1.toInt64))))]) ++ (gw 8 r1 rc1 5 rows ++ gw 16 r2 rc2 6 parts)) := hD
  refine lv_goto (tgt := 15) hx hb d_Law_state_9 (by decide) ?_
  refine lv_iconst (v := 0) hx hb d_Law_state_15 (by decide) ?_
  have h := Option.some.inj h
  subst h
  exact W.iret hx hb hr (fun t ht hW => ⟨⟨_, (), rfl, rfl, AftW_mk hK hP hD ht hW⟩, hS.F ht⟩) hS.2.2 d_Law_state_16
def d_Law_fill (N : Nat) (x1 : Int32) (values : Nat → Int32) (states : Nat → Int32) (outv : Nat → Int64) : Option (Int32 × (Nat → Int32) × (Nat → Int32) × (Nat → Int64)) :=
 (d_MR_fill N x1 values states).bind (fun o1 => exC o1 (fun E => if E = "java/lang/IllegalArgumentException" then some ((1 : Int32), values, states, outv) else none) (fun u1 => some ((0 : Int32), u1.2.1, u1.2.2, vp_updL outv (0 : Int32).toNatClampNeg u1.1.toInt64)))
abbrev rm_Law_fill : Room := { frames := 7, cells := 1, slots := 6, locals := 103 }
set_option maxHeartbeats 4000000 in
set_option maxRecDepth 100000 in
theorem c_Law_fill (l : Launch) (hlt : l.stackTraces = false) (dC : Nat → ClassId) (dI : Nat → Nat → Nat) (tt : Nat → Nat) (ad : Nat → Nat) (cs : Nat → ClassId) (e1 : Nat) (ce1 : ClassId) (r1 : Nat → Nat) (rc1 : ClassId) (r2 : Nat → Nat) (rc2 : ClassId) (sz N : Nat) (x1 : Int32) (kind : Int32) (steps : Int32) (byteCount : Int32) (partCount : Int32) (stepsTaken : Int32) (hasRun : Int32) (lackedSteps : Int32) (decodings : Int32) (thrownDecodings : Int32) (bytes : Nat → Int32) (size : Int32) (count : Int32) (data : Nat → Int32) (made : Nat → Int32) (holds : Nat → Int32) (numbers : Nat → Int32) (lengths : Nat → Int32) (values : Nat → Int32) (states : Nat → Int32) (rows : Nat → Nat → Int32) (parts : Nat → Nat → Int32) (outv : Nat → Int64) (out : Int32 × (Nat → Int32) × (Nat → Int32) × (Nat → Int64)) (h : d_Law_fill N x1 values states outv = some out) :
    Met l y_Law_fill (w_Law_fill) rm_Law_fill (va_Pc [.ref (ad 0), .int x1, .ref e1] (PreW (dC, dI) [((cs 1), .int), ((cs 2), .array .int), ((cs 4), .int), ((cs 5), .int), ((cs 7), .int), ((cs 8), .int), ((cs 9), .int), ((cs 10), .array .int), ((cs 12), .int), ((cs 13), .int), (ce1, .long), (rc1, .int), (rc2, .int)] (((x_MR ad cs r1 r2 kind steps byteCount partCount stepsTaken hasRun lackedSteps decodings thrownDecodings bytes size count data made holds numbers lengths values states) ++ [(e1, .inl (ce1, 1, .inr (.inl outv)))]) ++ (gw 8 r1 rc1 5 rows ++ gw 16 r2 rc2 6 parts)) sz tt)) (va_Qi (fun (r : Int32) (_ : Unit) => r = out.1) (fun _ => AftW (dC, dI) [((cs 1), .int), ((cs 2), .array .int), ((cs 4), .int), ((cs 5), .int), ((cs 7), .int), ((cs 8), .int), ((cs 9), .int), ((cs 10), .array .int), ((cs 12), .int), ((cs 13), .int), (ce1, .long), (rc1, .int), (rc2, .int)] (va_A (((x_MR ad cs r1 r2 kind steps byteCount partCount stepsTaken hasRun lackedSteps decodings thrownDecodings bytes size count data made holds numbers lengths values states) ++ [(e1, .inl (ce1, 1, .inr (.inl outv)))]) ++ (gw 8 r1 rc1 5 rows ++ gw 16 r2 rc2 6 parts)) sz) (((x_MR ad cs r1 r2 kind steps byteCount partCount stepsTaken hasRun lackedSteps decodings thrownDecodings bytes size count data made holds numbers lengths out.2.1 out.2.2.1) ++ [(e1, .inl (ce1, 1, .inr (.inl out.2.2.2)))]) ++ (gw 8 r1 rc1 5 rows ++ gw 16 r2 rc2 6 parts))) (va_A (((x_MR ad cs r1 r2 kind steps byteCount partCount stepsTaken hasRun lackedSteps decodings thrownDecodings bytes size count data made holds numbers lengths values states) ++ [(e1, .inl (ce1, 1, .inr (.inl outv)))]) ++ (gw 8 r1 rc1 5 rows ++ gw 16 r2 rc2 6 parts)) sz)) 1 6 (va_A (((x_MR ad cs r1 r2 kind steps byteCount partCount stepsTaken hasRun lackedSteps decodings thrownDecodings bytes size count data made holds numbers lengths values states) ++ [(e1, .inl (ce1, 1, .inr (.inl outv)))]) ++ (gw 8 r1 rc1 5 rows ++ gw 16 r2 rc2 6 parts)) sz) := by
  refine va_MetW (cc := k_Law_fill) (maxL := 4) (ret := (some .int)) (hh := [(0, 9, 12, 13)]) (by decide) rfl ?_
  intro p e s m args below meth c s₁ B hml hv
  obtain ⟨rfl, hsz, hP, hK, hD0, hG⟩ := hv
  have hx := B.exec
  have hb := B.bytes
  have hr := B.returns
  have hts := atoms_spec (ws := (w_Law_fill)) B.pre
  have hB : ∀ w ∈ BIG, w.before _ s = true := fun w h9 => hts w (List.mem_cons_of_mem _ h9)
  have hown : s.vm.findClass R_Law = some m.cls := findClass_of_methodNamed B.named
  have htab : c.exceptionTable.toList = tableOf [(0, 9, 12, 13)] := vx_table (x := y_Law_fill) B (hts _ List.mem_cons_self)
  have hlocks := B.notSynchronized
  subst hsz
  have hD := hD0.self (sz := s.heap.size)
  generalize hAe : va_A (((x_MR ad cs r1 r2 kind steps byteCount partCount stepsTaken hasRun lackedSteps decodings thrownDecodings bytes size count data made holds numbers lengths values states) ++ [(e1, .inl (ce1, 1, .inr (.inl outv)))]) ++ (gw 8 r1 rc1 5 rows ++ gw 16 r2 rc2 6 parts)) s.heap.size = A at hD hG ⊢
  have hA : ∀ q : Nat, s.heap.size ≤ q → A q := fun q h => by rw [← hAe]; exact Or.inr h
  have hS : va_S A s.heap s.heap [] := va_S.rf
  have hl := lv_entry ([.ref (ad 0), .int x1, .ref e1]) (n := 4) (Nat.le_of_ble_eq_true rfl)
  rw [lg_entry_eq]
  generalize (lg_sl ([.ref (ad 0), .int x1, .ref e1]) ++ List.replicate (4 - (lg_sl ([.ref (ad 0), .int x1, .ref e1])).length) Slot.unset).toArray = ls at hl ⊢
  have hl : lv_has ls 4 [(0, .ref (ad 0)), (1, .int x1), (2, .ref e1)] := hl
  unfold d_Law_fill at h
  refine lv_aload_n hx hb d_Law_fill_0 rfl (lv_at hl 2 rfl) ?_
  refine lv_iconst (v := 0) hx hb d_Law_fill_1 (by decide) ?_
  refine lv_aload_n hx hb d_Law_fill_2 rfl (lv_at hl 0 rfl) ?_
  refine lv_iload_n hx hb d_Law_fill_3 rfl (lv_at hl 1 rfl) ?_
  obtain ⟨o1, ho1, h⟩ := Option.bind_eq_some_iff.mp h
  have hKc := hK.sub (tys' := [((cs 1), .int), ((cs 2), .array .int), ((cs 4), .int), ((cs 5), .int), ((cs 7), .int), ((cs 8), .int), ((cs 9), .int), ((cs 10), .array .int), ((cs 12), .int), ((cs 13), .int), (rc1, .int), (rc2, .int)]) [0, 1, 2, 3, 4, 5, 6, 7, 8, 9, 11, 12] rfl
  have hPc := hP.part (cx := x_MR ad cs r1 r2 kind steps byteCount partCount stepsTaken hasRun lackedSteps decodings thrownDecodings bytes size count data made holds numbers lengths values states) [0, 1, 2, 3, 4, 5, 6, 7, 8, 9, 10, 11, 12, 13] rfl
  have hDc := hD.part (cx := x_MR ad cs r1 r2 kind steps byteCount partCount stepsTaken hasRun lackedSteps decodings thrownDecodings bytes size count data made holds numbers lengths values states) [0, 1, 2, 3, 4, 5, 6, 7, 8, 9, 10, 11, 12, 13] (by decide) rfl
  have hFc := va_freeP (cx := x_MR ad cs r1 r2 kind steps byteCount partCount stepsTaken hasRun lackedSteps decodings thrownDecodings bytes size count data made holds numbers lengths values states) hD hS hA [0, 1, 2, 3, 4, 5, 6, 7, 8, 9, 10, 11, 12, 13] rfl
  refine vx_calli (vx_runV (As := [.int x1]) (rest := [.int (0 : Int32), .ref e1]) ⟨hx, hb, hml, hown, hB⟩ (c_MR_fill l hlt dC dI tt ad cs r1 rc1 r2 rc2 s.heap.size N x1 kind steps byteCount partCount stepsTaken hasRun lackedSteps decodings thrownDecodings bytes size count data made holds numbers lengths values states rows parts o1 ho1) (cwV 1 hB (gV wd_358 wd_356 wd_355 wd_105 wd_357) rfl rfl rfl (by decide +kernel) ⟨Nat.le_of_ble_eq_true rfl, Nat.le_of_ble_eq_true rfl⟩) ⟨PreW_blind, va_recv hKc hPc (ci := 0) (q0 := 0) rfl rfl, PreW_mk hKc hPc hDc hG hS hFc⟩ rfl rfl hl.1 rfl (lv_room (Nat.le_of_ble_eq_true rfl)) d_Law_fill_4 ⟨Nat.le_of_ble_eq_true rfl, Nat.le_of_ble_eq_true rfl⟩) hS (fun q _ h => hFc q h) hFc (fun q _ h => hFc q h) (fun E ce q9 u_1 t H1 locs ht hvm hw hB hz1 hk1 hS hce hcv hcl => ?_) (fun r_1 u1 t H1 locs ht hvm hw hB hz1 hk1 hS => ?_)
  · obtain ⟨heE, hB⟩ := hB
    subst heE
    obtain ⟨hP1, hK1, hD1⟩ := hB
    rw [ht] at hP1
    obtain ⟨hP, hD⟩ := va_joinP (wr := pick ((x_MR ad cs r1 r2 kind steps byteCount partCount stepsTaken hasRun lackedSteps decodings thrownDecodings bytes size count data made holds numbers lengths values states) ++ [(e1, .inl (ce1, 1, .inr (.inl outv)))]) [14]) hP hD [0, 1, 2, 3, 4, 5, 6, 7, 8, 9, 10, 11, 12, 13] [14] rfl rfl (by decide) (by decide) hk1 hFc hP1 hD1
    generalize H1 = H at hP hS hce ⊢
    have hP : va_P (dC, dI) vwCl (((x_MR ad cs r1 r2 kind steps byteCount partCount stepsTaken hasRun lackedSteps decodings thrownDecodings bytes size count data made holds numbers lengths values states) ++ [(e1, .inl (ce1, 1, .inr (.inl outv)))]) ++ (gw 8 r1 rc1 5 rows ++ gw 16 r2 rc2 6 parts)) H := hP.part (cx := (x_MR ad cs r1 r2 kind steps byteCount partCount stepsTaken hasRun lackedSteps decodings thrownDecodings bytes size count data made holds numbers lengths values states) ++ [(e1, .inl (ce1, 1, .inr (.inl outv)))]) [1, 2, 3, 4, 5, 6, 7, 8, 9, 10, 11, 12, 13, 14, 0] rfl
    have hD : va_D A (((x_MR ad cs r1 r2 kind steps byteCount partCount stepsTaken hasRun lackedSteps decodings thrownDecodings bytes size count data made holds numbers lengths values states) ++ [(e1, .inl (ce1, 1, .inr (.inl outv)))]) ++ (gw 8 r1 rc1 5 rows ++ gw 16 r2 rc2 6 parts)) := hD.part (cx := (x_MR ad cs r1 r2 kind steps byteCount partCount stepsTaken hasRun lackedSteps decodings thrownDecodings bytes size count data made holds numbers lengths values states) ++ [(e1, .inl (ce1, 1, .inr (.inl outv)))]) [1, 2, 3, 4, 5, 6, 7, 8, 9, 10, 11, 12, 13, 14, 0] (by decide) rfl
    have h := exC_er h
    by_cases c_2 : E = "java/lang/IllegalArgumentException"
    · have h := (if_pos c_2).symm.trans h
      subst c_2
      refine vx_widen (k := 1) (n := 6) (by decide) (by decide) ?_
      refine vx_catch (E := "java/lang/IllegalArgumentException") hown [] ⟨0, 9, 12, 13⟩ [] htab (fun z hz => absurd hz List.not_mem_nil) rfl (by decide) (hB _ wd_327) (va_Nw.use rfl (hG.1 _ (nw_at (i := 12) rfl))) hce hcv hcl ?_
      refine lv_astore_n (lv' := [(3, .ref q9), (0, .ref (ad 0)), (1, .int x1), (2, .ref e1)]) hx hb d_Law_fill_12 rfl hl (by decide) rfl (fun ls hl => ?_)
      refine lv_iconst (v := 1) hx hb d_Law_fill_13 (by decide) ?_
      have h := Option.some.inj h
      subst h
      exact W.iret hx hb hr (fun t ht hW => ⟨⟨_, (), rfl, rfl, AftW_mk hK hP hD ht hW⟩, hS.F ht⟩) hS.2.2 d_Law_fill_14
    have h := (if_neg c_2).symm.trans h
    cases h
  obtain ⟨heE, hw⟩ := hw
  subst heE
  have hw := hw.symm
  subst hw
  have h := exC_ok h
  obtain ⟨hP1, hK1, hD1⟩ := hB
  rw [ht] at hP1
  obtain ⟨hP, hD⟩ := va_joinP (wr := pick ((x_MR ad cs r1 r2 kind steps byteCount partCount stepsTaken hasRun lackedSteps decodings thrownDecodings bytes size count data made holds numbers lengths values states) ++ [(e1, .inl (ce1, 1, .inr (.inl outv)))]) [14]) hP hD [0, 1, 2, 3, 4, 5, 6, 7, 8, 9, 10, 11, 12, 13] [14] rfl rfl (by decide) (by decide) hk1 hFc hP1 hD1
  generalize H1 = H at hP hS ⊢
  have hP : va_P (dC, dI) vwCl (((x_MR ad cs r1 r2 kind steps byteCount partCount stepsTaken hasRun lackedSteps decodings thrownDecodings bytes size count data made holds numbers lengths u1.2.1 u1.2.2) ++ [(e1, .inl (ce1, 1, .inr (.inl outv)))]) ++ (gw 8 r1 rc1 5 rows ++ gw 16 r2 rc2 6 parts)) H := hP.part (cx := (x_MR ad cs r1 r2 kind steps byteCount partCount stepsTaken hasRun lackedSteps decodings thrownDecodings bytes size count data made holds numbers lengths u1.2.1 u1.2.2) ++ [(e1, .inl (ce1, 1, .inr (.inl outv)))]) [1, 2, 3, 4, 5, 6, 7, 8, 9, 10, 11, 12, 13, 14, 0] rfl
  have hD : va_D A (((x_MR ad cs r1 r2 kind steps byteCount partCount stepsTaken hasRun lackedSteps decodings thrownDecodings bytes size count data made holds numbers lengths u1.2.1 u1.2.2) ++ [(e1, .inl (ce1, 1, .inr (.inl outv)))]) ++ (gw 8 r1 rc1 5 rows ++ gw 16 r2 rc2 6 parts)) := hD.part (cx := (x_MR ad cs r1 r2 kind steps byteCount partCount stepsTaken hasRun lackedSteps decodings thrownDecodings bytes size count data made holds numbers lengths u1.2.1 u1.2.2) ++ [(e1, .inl (ce1, 1, .inr (.inl outv)))]) [1, 2, 3, 4, 5, 6, 7, 8, 9, 10, 11, 12, 13, 14, 0] (by decide) rfl
  refine W.widen (k := 1) (n := 6) (by decide) (by decide) ?_
  refine lv_i2l hx hb d_Law_fill_7 rfl ?_
  refine va_last hx hb hK hP hD hS 14 10 rfl rfl (show ¬ ((0 : Int32) < 0 ∨ 1 ≤ (0 : Int32).toNatClampNeg) from by decide) d_Law_fill_8 (fun H locs hP hD hS => ?_)
  have hP : va_P (dC, dI) vwCl (((x_MR ad cs r1 r2 kind steps byteCount partCount stepsTaken hasRun lackedSteps decodings thrownDecodings bytes size count data made holds numbers lengths u1.2.1 u1.2.2) ++ [(e1, .inl (ce1, 1, .inr (.inl (vp_updL outv (0 : Int32).toNatClampNeg u1.1.toInt64))))]) ++ (gw 8 r1 rc1 5 rows ++ gw 16 r2 rc2 6 parts)) H := hP
  have hD : va_D A (((x_MR ad cs r1 r2 kind steps byteCount partCount stepsTaken hasRun lackedSteps decodings thrownDecodings bytes size count data made holds numbers lengths u1.2.1 u1.2.2) ++ [(e1, .inl (ce1, 1, .inr (.inl (vp_updL outv (0 : Int32).toNatClampNeg u1.1.toInt64))))]) ++ (gw 8 r1 rc1 5 rows ++ gw 16 r2 rc2 6 parts)) := hD
  refine lv_goto (tgt := 15) hx hb d_Law_fill_9 (by decide) ?_
  refine lv_iconst (v := 0) hx hb d_Law_fill_15 (by decide) ?_
  have h := Option.some.inj h
  subst h
  exact W.iret hx hb hr (fun t ht hW => ⟨⟨_, (), rfl, rfl, AftW_mk hK hP hD ht hW⟩, hS.F ht⟩) hS.2.2 d_Law_fill_16
