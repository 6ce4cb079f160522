/-! what a method takes as given beside its cells: links across the nest, the two tables of marks, what a throw needs -/
def xnames : List String := ["java/lang/RuntimeException", "java/lang/Exception"]
def tb0 : Nat → Int32 := fun j => ([255, 80, 151] : List Int32).getD j 0
def tb1 : Nat → Int32 := fun j => ([217, 65, 74] : List Int32).getD j 0
def STRS : List (Nat × String) := [(51, "one to eight bytes can be fed"), (61, "no room for so many bytes"), (69, "no such byte"), (72, "a byte is 0 to 255"), (131, "nothing was run"), (134, "no such part"), (136, "no such sample"), (114, "the rules are 0 to 2")]
def isNest : Cond → Bool
  | .fieldLinkNest .. => true
  | .methodLinkNest .. => true
  | .castable .. => true
  | .declares .. => true
  | _ => false
theorem nw_tab : ∀ w ∈ NW, w.onTables = true := by decide +kernel
theorem nw_nest : ∀ w ∈ NW, isNest w = true := by decide +kernel
theorem nest_warm {s U : State} (hW : s.WarmedH U.vm) : ∀ {w : Cond}, isNest w = true → va_Nw w s → va_Nw w U
  | .fieldLinkNest .., _, h => va_Nw.warmF hW h
  | .methodLinkNest .., _, h => va_Nw.warmM hW h
  | .castable .., _, h => va_Nw.warmC hW h
  | .declares .., _, h => va_Nw.warmD hW h
theorem nest_same {u U : State} (hv : u.vm = U.vm) : ∀ {w : Cond}, isNest w = true → va_Nw w u → va_Nw w U
  | .fieldLinkNest .., _, h => va_Nw.same rfl hv h
  | .methodLinkNest .., _, h => va_Nw.same rfl hv h
  | .castable .., _, h => va_Nw.same rfl hv h
  | .declares .., _, h => va_Nw.same rfl hv h
def NCP : List (String × String) := [("java/lang/UnsupportedOperationException", "java/lang/IllegalArgumentException"), ("java/lang/IllegalArgumentException", "java/lang/IndexOutOfBoundsException"), ("java/lang/IndexOutOfBoundsException", "java/lang/IllegalStateException")]
def GG (tt : Nat → Nat) (A : Nat → Prop) (U : State) (H : Heap) : Prop :=
  (∀ w ∈ NW, va_Nw w U) ∧ (va_Z "MarkRecovery" "MARK_FIRST" "[I" (.ref (tt 0)) A U H ∧ va_T .int (tt 0) 3 (fun j => .int (tb0 j)) A U H) ∧ (va_Z "MarkRecovery" "MARK_SECOND" "[I" (.ref (tt 1)) A U H ∧ va_T .int (tt 1) 3 (fun j => .int (tb1 j)) A U H) ∧
  (vx_Zq Bundle.tN "UNASSIGNED_STACK" Bundle.steD A U H ∧ vx_Zq Bundle.tN "SUPPRESSED_SENTINEL" Bundle.listD A U H) ∧ (∀ q ∈ STRS, ∃ sa : Nat, vk_R "MarkRecovery" q.1 q.2 sa U) ∧ va_AOA .int U ∧ ∀ q ∈ NCP, va_Nc q.1 q.2 U
theorem GG.warm {tt : Nat → Nat} {A : Nat → Prop} {s U : State} {H : Heap} (hW : s.WarmedH U.vm) (h : GG tt A s H) : GG tt A U H :=
  ⟨fun w hw => nest_warm hW (nw_nest w hw) (h.1 w hw), ⟨va_Z.moved hW.alike h.2.1.1, va_T.moved hW.alike h.2.1.2⟩, ⟨va_Z.moved hW.alike h.2.2.1.1, va_T.moved hW.alike h.2.2.1.2⟩, ⟨vx_Zq.moved hW.alike h.2.2.2.1.1, vx_Zq.moved hW.alike h.2.2.2.1.2⟩, fun q hq => (h.2.2.2.2.1 q hq).elim fun sa hs => ⟨sa, vk_R.warm hW hs⟩, over_moved (a := #[]) (a' := #[]) hW.alike h.2.2.2.2.2.1, fun q hq => va_Nc.moved hW.alike (h.2.2.2.2.2.2 q hq)⟩
theorem GG.same {tt : Nat → Nat} {A : Nat → Prop} {u U : State} {H : Heap} (hv : u.vm = U.vm) (h : GG tt A u H) : GG tt A U H := by
  have ha : u.vm.Alike U.vm := hv ▸ Vm.Alike.refl u.vm
  exact ⟨fun w hw => nest_same hv (nw_nest w hw) (h.1 w hw), ⟨va_Z.moved ha h.2.1.1, va_T.moved ha h.2.1.2⟩, ⟨va_Z.moved ha h.2.2.1.1, va_T.moved ha h.2.2.1.2⟩, ⟨vx_Zq.moved ha h.2.2.2.1.1, vx_Zq.moved ha h.2.2.2.1.2⟩, fun q hq => (h.2.2.2.2.1 q hq).elim fun sa hs => ⟨sa, vk_R.same hv.symm hs⟩, over_moved (a := #[]) (a' := #[]) ha h.2.2.2.2.2.1, fun q hq => va_Nc.moved ha (h.2.2.2.2.2.2 q hq)⟩
theorem GG.kept {tt : Nat → Nat} {A : Nat → Prop} {U : State} {H H1 : Heap} (h : GG tt A U H) (hq : ∀ a : Nat, a < H.size → ¬ A a → H1[a]? = H[a]?) : GG tt A U H1 :=
  ⟨h.1, ⟨h.2.1.1.kept hq, h.2.1.2.kept hq⟩, ⟨h.2.2.1.1.kept hq, h.2.2.1.2.kept hq⟩, ⟨h.2.2.2.1.1.kept hq, h.2.2.2.1.2.kept hq⟩, h.2.2.2.2⟩
theorem GG.narrow {tt : Nat → Nat} {A B : Nat → Prop} {U : State} {H : Heap} (h : GG tt A U H) (hAB : ∀ q, B q → A q) : GG tt B U H :=
  ⟨h.1, ⟨h.2.1.1.narrow hAB, h.2.1.2.narrow hAB⟩, ⟨h.2.2.1.1.narrow hAB, h.2.2.1.2.narrow hAB⟩, ⟨h.2.2.2.1.1.narrow hAB, h.2.2.2.1.2.narrow hAB⟩, h.2.2.2.2⟩
theorem GG_Z0 {tt : Nat → Nat} {A : Nat → Prop} {U : State} {H : Heap} (h : GG tt A U H) : va_Z "MarkRecovery" "MARK_FIRST" "[I" (.ref (tt 0)) A U H := h.2.1.1
theorem GG_T0 {tt : Nat → Nat} {A : Nat → Prop} {U : State} {H : Heap} (h : GG tt A U H) : va_T .int (tt 0) 3 (fun j => .int (tb0 j)) A U H := h.2.1.2
theorem GG_Z1 {tt : Nat → Nat} {A : Nat → Prop} {U : State} {H : Heap} (h : GG tt A U H) : va_Z "MarkRecovery" "MARK_SECOND" "[I" (.ref (tt 1)) A U H := h.2.2.1.1
theorem GG_T1 {tt : Nat → Nat} {A : Nat → Prop} {U : State} {H : Heap} (h : GG tt A U H) : va_T .int (tt 1) 3 (fun j => .int (tb1 j)) A U H := h.2.2.1.2
theorem GG_U {tt : Nat → Nat} {A : Nat → Prop} {U : State} {H : Heap} (h : GG tt A U H) : vx_Zq Bundle.tN "UNASSIGNED_STACK" Bundle.steD A U H := h.2.2.2.1.1
theorem GG_N {tt : Nat → Nat} {A : Nat → Prop} {U : State} {H : Heap} (h : GG tt A U H) : vx_Zq Bundle.tN "SUPPRESSED_SENTINEL" Bundle.listD A U H := h.2.2.2.1.2
theorem GG_str {tt : Nat → Nat} {A : Nat → Prop} {U : State} {H : Heap} (h : GG tt A U H) {i k : Nat} {tx : String} (hi : STRS[i]? = some (k, tx)) : ∃ sa : Nat, vk_R "MarkRecovery" k tx sa U := h.2.2.2.2.1 (k, tx) (List.mem_of_getElem? hi)
theorem GG_AO {tt : Nat → Nat} {A : Nat → Prop} {U : State} {H : Heap} (h : GG tt A U H) : va_AOA .int U := h.2.2.2.2.2.1
theorem GG_nc {tt : Nat → Nat} {A : Nat → Prop} {U : State} {H : Heap} (h : GG tt A U H) {i : Nat} {a b : String} (hi : NCP[i]? = some (a, b)) : va_Nc a b U := h.2.2.2.2.2.2 (a, b) (List.mem_of_getElem? hi)
/-- a method's start: the heap's size, the cells, the tables, the cells apart, what else is given -/
def PreW (D : va_G) (tys : List (ClassId × FieldType)) (ws : va_W) (sz : Nat) (tt : Nat → Nat) : State → Prop := fun U => U.heap.size = sz ∧ va_P D vwCl ws U.heap ∧ va_K D vwCl tys U ∧ va_D (fun _ => True) ws ∧ GG tt (va_A ws sz) U U.heap
abbrev AftW (D : va_G) (tys : List (ClassId × FieldType)) (A : Nat → Prop) (ws : va_W) (t : State) : Prop := va_P D vwCl ws t.heap ∧ va_K D vwCl tys t ∧ va_D A ws
theorem PreW_blind {av : List Value} {D : va_G} {tys : List (ClassId × FieldType)} {ws : va_W} {sz : Nat} {tt : Nat → Nat} : FrameBlind (va_Pc av (PreW D tys ws sz tt)) := fun a U g mk q => by
  obtain ⟨q0, q1, qP, qK, qD, qG⟩ := q
  exact ⟨q0, q1, qP, va_K.moved (u := U) (U := U.calling g mk a) (Vm.Alike.refl U.vm) qK, qD, GG.same (u := U) (U := U.calling g mk a) rfl qG⟩
theorem PreW_mk {av : List Value} {D : va_G} {tys : List (ClassId × FieldType)} {ws : va_W} {tt : Nat → Nat} {s : State} {H : Heap} {locs : List Loc} {A A0 : Nat → Prop} (hK : va_K D vwCl tys s) (hP : va_P D vwCl ws H) (hD : va_D A ws) (hG : GG tt A0 s s.heap) (hS : va_S A0 s.heap H locs) (hF : ∀ q, va_A ws H.size q → A0 q) : ∀ U : State, U.heap = H → s.WarmedH U.vm → va_Pc av (PreW D tys ws H.size tt) av.toArray U := fun U hU hW =>
  ⟨rfl, by rw [hU], by rw [hU]; exact hP, va_K.moved hW.alike hK, hD.weaken (fun _ _ _ _ => trivial), by rw [hU]; exact GG.warm hW ((hG.kept hS.2.1).narrow hF)⟩
theorem AftW_mk {D : va_G} {tys : List (ClassId × FieldType)} {A : Nat → Prop} {ws : va_W} {s t : State} {H : Heap} (hK : va_K D vwCl tys s) (hP : va_P D vwCl ws H) (hD : va_D A ws) (ht : t.heap = H) (hW : s.WarmedH t.vm) : AftW D tys A ws t := ⟨by rw [ht]; exact hP, va_K.moved hW.alike hK, hD⟩
theorem AftW_mv {D : va_G} {tys : List (ClassId × FieldType)} {A : Nat → Prop} {ws : va_W} {s t : State} {H : Heap} (hK : va_K D vwCl tys s) (hP : va_P D vwCl ws H) (hD : va_D A ws) (ht : t.heap = H) (hW : s.vm.Alike t.vm) : AftW D tys A ws t := ⟨by rw [ht]; exact hP, va_K.moved hW hK, hD⟩
/-- behind a throw of this method's own: a new cell, nothing else -/
theorem AftW_th {D : va_G} {tys : List (ClassId × FieldType)} {A : Nat → Prop} {ws : va_W} {s t : State} {H : Heap} (hK : va_K D vwCl tys s) (hP : va_P D vwCl ws H) (hD : va_D A ws) (_hz : H.size ≤ t.heap.size) (hk : ∀ q : Nat, q < H.size → t.heap[q]? = H[q]?) (hW : s.vm.Alike t.vm) : AftW D tys A ws t := ⟨hP.kept (fun k q h => hk q.1 ((hP k q h).lt)), va_K.moved hW hK, hD⟩
theorem va_S_th {A : Nat → Prop} {s t : State} {H : Heap} {locs : List Loc} (hS : va_S A s.heap H locs) (hz : H.size ≤ t.heap.size) (hk : ∀ q : Nat, q < H.size → t.heap[q]? = H[q]?) : va_F A s t := ⟨Nat.le_trans hS.1 hz, fun q h1 h2 => (hk q (Nat.lt_of_lt_of_le h1 hS.1)).trans (hS.2.1 q h1 h2)⟩
theorem xin_0 : ∀ w ∈ (vx_atS "MarkRecovery" 53 "java/lang/IllegalArgumentException" xnames).filter goodWord, w ∈ lw_tbl := by decide +kernel
theorem xbad_0 : ∀ w ∈ (vx_atS "MarkRecovery" 53 "java/lang/IllegalArgumentException" xnames).filter (fun w => !goodWord w), w ∈ NW := by decide +kernel
theorem xgood_0 : ∀ w ∈ Cond.classLink "MarkRecovery" 49 "java/lang/IllegalArgumentException" :: Cond.initialized "java/lang/IllegalArgumentException" :: vx_atS "MarkRecovery" 53 "java/lang/IllegalArgumentException" xnames, vx_ot w = true := by decide +kernel
theorem xat_0 {args : Array Value} {s : State} {tt : Nat → Nat} {A : Nat → Prop} {H : Heap} (hB : ∀ w ∈ BIG, w.before args s = true) (hG : GG tt A s H) : ∀ w ∈ vx_atS "MarkRecovery" 53 "java/lang/IllegalArgumentException" xnames, w.before args s = true := vx_hat (B := NW) (fun w hw => hB w (List.mem_filter.mpr ⟨xin_0 w hw, (List.mem_filter.mp hw).2⟩)) xbad_0 (fun w hw => va_Nw.use (nw_tab w hw) (hG.1 w hw))
theorem xin_1 : ∀ w ∈ (vx_atS "MarkRecovery" 63 "java/lang/UnsupportedOperationException" xnames).filter goodWord, w ∈ lw_tbl := by decide +kernel
theorem xbad_1 : ∀ w ∈ (vx_atS "MarkRecovery" 63 "java/lang/UnsupportedOperationException" xnames).filter (fun w => !goodWord w), w ∈ NW := by decide +kernel
theorem xgood_1 : ∀ w ∈ Cond.classLink "MarkRecovery" 59 "java/lang/UnsupportedOperationException" :: Cond.initialized "java/lang/UnsupportedOperationException" :: vx_atS "MarkRecovery" 63 "java/lang/UnsupportedOperationException" xnames, vx_ot w = true := by decide +kernel
theorem xat_1 {args : Array Value} {s : State} {tt : Nat → Nat} {A : Nat → Prop} {H : Heap} (hB : ∀ w ∈ BIG, w.before args s = true) (hG : GG tt A s H) : ∀ w ∈ vx_atS "MarkRecovery" 63 "java/lang/UnsupportedOperationException" xnames, w.before args s = true := vx_hat (B := NW) (fun w hw => hB w (List.mem_filter.mpr ⟨xin_1 w hw, (List.mem_filter.mp hw).2⟩)) xbad_1 (fun w hw => va_Nw.use (nw_tab w hw) (hG.1 w hw))
theorem xin_2 : ∀ w ∈ (vx_atS "MarkRecovery" 71 "java/lang/IndexOutOfBoundsException" xnames).filter goodWord, w ∈ lw_tbl := by decide +kernel
theorem xbad_2 : ∀ w ∈ (vx_atS "MarkRecovery" 71 "java/lang/IndexOutOfBoundsException" xnames).filter (fun w => !goodWord w), w ∈ NW := by decide +kernel
theorem xgood_2 : ∀ w ∈ Cond.classLink "MarkRecovery" 67 "java/lang/IndexOutOfBoundsException" :: Cond.initialized "java/lang/IndexOutOfBoundsException" :: vx_atS "MarkRecovery" 71 "java/lang/IndexOutOfBoundsException" xnames, vx_ot w = true := by decide +kernel
theorem xat_2 {args : Array Value} {s : State} {tt : Nat → Nat} {A : Nat → Prop} {H : Heap} (hB : ∀ w ∈ BIG, w.before args s = true) (hG : GG tt A s H) : ∀ w ∈ vx_atS "MarkRecovery" 71 "java/lang/IndexOutOfBoundsException" xnames, w.before args s = true := vx_hat (B := NW) (fun w hw => hB w (List.mem_filter.mpr ⟨xin_2 w hw, (List.mem_filter.mp hw).2⟩)) xbad_2 (fun w hw => va_Nw.use (nw_tab w hw) (hG.1 w hw))
theorem xin_3 : ∀ w ∈ (vx_atS "MarkRecovery" 133 "java/lang/IllegalStateException" xnames).filter goodWord, w ∈ lw_tbl := by decide +kernel
theorem xbad_3 : ∀ w ∈ (vx_atS "MarkRecovery" 133 "java/lang/IllegalStateException" xnames).filter (fun w => !goodWord w), w ∈ NW := by decide +kernel
theorem xgood_3 : ∀ w ∈ Cond.classLink "MarkRecovery" 129 "java/lang/IllegalStateException" :: Cond.initialized "java/lang/IllegalStateException" :: vx_atS "MarkRecovery" 133 "java/lang/IllegalStateException" xnames, vx_ot w = true := by decide +kernel
theorem xat_3 {args : Array Value} {s : State} {tt : Nat → Nat} {A : Nat → Prop} {H : Heap} (hB : ∀ w ∈ BIG, w.before args s = true) (hG : GG tt A s H) : ∀ w ∈ vx_atS "MarkRecovery" 133 "java/lang/IllegalStateException" xnames, w.before args s = true := vx_hat (B := NW) (fun w hw => hB w (List.mem_filter.mpr ⟨xin_3 w hw, (List.mem_filter.mp hw).2⟩)) xbad_3 (fun w hw => va_Nw.use (nw_tab w hw) (hG.1 w hw))
/-! for the constructors -/
def lk {α : Type} (l : List α) (d : α) : Nat → α := fun k => l.getD k d
theorem clink {own : String} {i : Nat} {args : Array Value} {s : State} (h : (Cond.classLink own i "[[I").before args s = true) : (Cond.classLink own i ("[" ++ (FieldType.array .int).toString)).before args s = true := h
theorem arrC_find {args : Array Value} {s : State} (h : (Cond.arrayClass .int).before args s = true) : ∃ cy : ClassId, s.vm.findClass (FieldType.array .int).toString = some cy ∧ (ArrOfT s cy .int ∧ va_RA s cy .int) := by
  obtain ⟨c, k, comp, h1, h2, h3⟩ := Cond.arrayClass_spec h
  exact ⟨c, h1, fun n z => ⟨(fun _ h9 => (by cases h9)), k, h2, comp, h3⟩, h1⟩
theorem K_one {D : va_G} {cl : List vw_C} {tys : List (ClassId × FieldType)} {s : State} {c : ClassId} {t : FieldType} (hK : va_K D cl tys s) (h : ArrOfT s c t ∧ va_RA s c t) : va_K D cl [(c, t)] s := ⟨hK.1, fun k q hq => by
  cases k with
  | zero => cases hq; exact h
  | succ k => simp at hq⟩
theorem vr_gw {n k : Nat} {r : Nat → Nat} {f : Nat → va_E} {cy : ClassId} : va_pl ([] ++ (List.range n).map r) (vr_up f ((List.range n).map r) (.inl (cy, (k, .inl (fun _ => 0))))) = gw n r cy k (fun _ _ => 0) := by
  unfold va_pl gw
  rw [List.nil_append, List.map_map]
  apply List.map_congr_left
  intro i hi
  show (r i, vr_up f ((List.range n).map r) _ (r i)) = _
  rw [vr_up_in (List.mem_map_of_mem hi)]
def cat2 {α : Type} (n : Nat) (f g : Nat → α) : Nat → α := fun k => if k < n then f k else g (k - n)
theorem asc1 {a x g q : va_W} : (a ++ (x ++ (g ++ []))) ++ q = (a ++ x) ++ (g ++ q) := by simp [List.append_assoc]

abbrev x_Map (ad : Nat → Nat) (cs : Nat → ClassId) (values : Nat → Int32) (states : Nat → Int32) : va_W :=
  [(ad 0, .inr (3, [.ref (ad 1), .ref (ad 2)])), (ad 1, .inl (cs 1, 256, .inl values)), (ad 2, .inl (cs 2, 256, .inl states))]
abbrev x_Boxes (ad : Nat → Nat) (cs : Nat → ClassId) (r1 : Nat → Nat) (holds : Nat → Int32) (numbers : Nat → Int32) (lengths : Nat → Int32) : va_W :=
  [(ad 0, .inr (2, [.ref (ad 1), .ref (ad 2), .ref (ad 3), .ref (ad 4)])), (ad 1, .inl (cs 1, 8, .inl holds)), (ad 2, .inl (cs 2, 8, .inl numbers)), (ad 3, .inl (cs 3, 8, .inl lengths)), (ad 4, .inl (cs 4, 8, .inr (.inr (.inr (.inr (go 8 r1))))))]
abbrev x_Dec (ad : Nat → Nat) (cs : Nat → ClassId) (r1 : Nat → Nat) (size : Int32) (count : Int32) (data : Nat → Int32) (made : Nat → Int32) (holds : Nat → Int32) (numbers : Nat → Int32) (lengths : Nat → Int32) : va_W :=
  [(ad 0, .inr (1, [.ref (ad 1), .ref (ad 2), .ref (ad 3), .int size, .int count])), (ad 1, .inl (cs 1, 64, .inl data)), (ad 2, .inl (cs 2, 16, .inl made)), (ad 3, .inr (2, [.ref (ad 4), .ref (ad 5), .ref (ad 6), .ref (ad 7)])), (ad 4, .inl (cs 4, 8, .inl holds)), (ad 5, .inl (cs 5, 8, .inl numbers)), (ad 6, .inl (cs 6, 8, .inl lengths)), (ad 7, .inl (cs 7, 8, .inr (.inr (.inr (.inr (go 8 r1))))))]
abbrev x_MR (ad : Nat → Nat) (cs : Nat → ClassId) (r1 : Nat → Nat) (r2 : Nat → Nat) (kind : Int32) (steps : Int32) (byteCount : Int32) (partCount : Int32) (stepsTaken : Int32) (hasRun : Int32) (lackedSteps : Int32) (decodings : Int32) (thrownDecodings : Int32) (bytes : Nat → Int32) (size : Int32) (count : Int32) (data : Nat → Int32) (made : Nat → Int32) (holds : Nat → Int32) (numbers : Nat → Int32) (lengths : Nat → Int32) (values : Nat → Int32) (states : Nat → Int32) : va_W :=
  [(ad 0, .inr (0, [.int kind, .int steps, .ref (ad 1), .ref (ad 2), .ref (ad 3), .ref (ad 11), .int byteCount, .int partCount, .int stepsTaken, .int hasRun, .int lackedSteps, .int decodings, .int thrownDecodings])), (ad 1, .inl (cs 1, 1200, .inl bytes)), (ad 2, .inl (cs 2, 16, .inr (.inr (.inr (.inr (go 16 r2)))))), (ad 3, .inr (1, [.ref (ad 4), .ref (ad 5), .ref (ad 6), .int size, .int count])), (ad 4, .inl (cs 4, 64, .inl data)), (ad 5, .inl (cs 5, 16, .inl made)), (ad 6, .inr (2, [.ref (ad 7), .ref (ad 8), .ref (ad 9), .ref (ad 10)])), (ad 7, .inl (cs 7, 8, .inl holds)), (ad 8, .inl (cs 8, 8, .inl numbers)), (ad 9, .inl (cs 9, 8, .inl lengths)), (ad 10, .inl (cs 10, 8, .inr (.inr (.inr (.inr (go 8 r1)))))), (ad 11, .inr (3, [.ref (ad 12), .ref (ad 13)])), (ad 12, .inl (cs 12, 256, .inl values)), (ad 13, .inl (cs 13, 256, .inl states))]
abbrev x_Mod (ad : Nat → Nat) (cs : Nat → ClassId) (m_thrown : Int32) (m_kind : Int32) (m_steps : Int32) (m_size : Int32) (m_ran : Int32) (m_parts : Int32) (m_taken : Int32) (m_lacked : Int32) (m_decodings : Int32) (m_failures : Int32) (m_at : Int32) (m_end : Int32) (m_many : Int32) (m_wrong : Int32) (m_bytes : Nat → Int32) (m_heads : Nat → Int32) (m_numbers : Nat → Int32) (m_codes : Nat → Int32) (m_sizes : Nat → Int32) (m_guessed : Nat → Int32) (m_results : Nat → Int32) (m_values : Nat → Int32) (m_states : Nat → Int32) (m_came : Nat → Int32) (m_boxes : Nat → Int32) (m_single : Nat → Int32) (m_rows : Nat → Int32) : va_W :=
  [(ad 0, .inr (4, [.int m_thrown, .int m_kind, .int m_steps, .ref (ad 1), .int m_size, .int m_ran, .int m_parts, .ref (ad 2), .ref (ad 3), .ref (ad 4), .ref (ad 5), .ref (ad 6), .ref (ad 7), .int m_taken, .int m_lacked, .int m_decodings, .int m_failures, .ref (ad 8), .ref (ad 9), .int m_at, .int m_end, .int m_many, .ref (ad 10), .int m_wrong, .ref (ad 11), .ref (ad 12), .ref (ad 13)])), (ad 1, .inl (cs 1, 1200, .inl m_bytes)), (ad 2, .inl (cs 2, 16, .inl m_heads)), (ad 3, .inl (cs 3, 16, .inl m_numbers)), (ad 4, .inl (cs 4, 16, .inl m_codes)), (ad 5, .inl (cs 5, 16, .inl m_sizes)), (ad 6, .inl (cs 6, 16, .inl m_guessed)), (ad 7, .inl (cs 7, 16, .inl m_results)), (ad 8, .inl (cs 8, 256, .inl m_values)), (ad 9, .inl (cs 9, 256, .inl m_states)), (ad 10, .inl (cs 10, 16, .inl m_came)), (ad 11, .inl (cs 11, 8, .inl m_boxes)), (ad 12, .inl (cs 12, 8, .inl m_single)), (ad 13, .inl (cs 13, 64, .inl m_rows))]
