/-! words of the pure side: an index that must be in range, a divisor that must not be 0, a copy that must fit -/
def gI {α : Type} (i : Int32) (n : Nat) (k : Option α) : Option α := if i < 0 ∨ n ≤ i.toNatClampNeg then none else k
theorem gI_some {α : Type} {i : Int32} {n : Nat} {k : Option α} {o : α} (h : gI i n k = some o) : vp_in i n ∧ k = some o := by
  by_cases c : i < 0 ∨ n ≤ i.toNatClampNeg
  · rw [gI, if_pos c] at h; cases h
  · rw [gI, if_neg c] at h; exact ⟨c, h⟩
theorem gI_pos {α : Type} {i : Int32} {n : Nat} {k : Option α} (h : vp_in i n) : gI i n k = k := if_neg h
def gZ {α : Type} (y : Int32) (k : Option α) : Option α := if y = 0 then none else k
theorem gZ_some {α : Type} {y : Int32} {k : Option α} {o : α} (h : gZ y k = some o) : ¬ y = 0 ∧ k = some o := by
  by_cases c : y = 0
  · rw [gZ, if_pos c] at h; cases h
  · rw [gZ, if_neg c] at h; exact ⟨c, h⟩
theorem gZ_pos {α : Type} {y : Int32} {k : Option α} (h : ¬ y = 0) : gZ y k = k := if_neg h
def gC {α : Type} (sp dp n : Int32) (n0 n1 : Nat) (k : Option α) : Option α := if ¬ sp < 0 ∧ ¬ dp < 0 ∧ ¬ n < 0 ∧ sp.toNatClampNeg + n.toNatClampNeg ≤ n0 ∧ dp.toNatClampNeg + n.toNatClampNeg ≤ n1 then k else none
theorem gC_some {α : Type} {sp dp n : Int32} {n0 n1 : Nat} {k : Option α} {o : α} (h : gC sp dp n n0 n1 k = some o) : (¬ sp < 0 ∧ ¬ dp < 0 ∧ ¬ n < 0 ∧ sp.toNatClampNeg + n.toNatClampNeg ≤ n0 ∧ dp.toNatClampNeg + n.toNatClampNeg ≤ n1) ∧ k = some o := by
  by_cases c : ¬ sp < 0 ∧ ¬ dp < 0 ∧ ¬ n < 0 ∧ sp.toNatClampNeg + n.toNatClampNeg ≤ n0 ∧ dp.toNatClampNeg + n.toNatClampNeg ≤ n1
  · rw [gC, if_pos c] at h; exact ⟨c, h⟩
  · rw [gC, if_neg c] at h; cases h
def exB {α β : Type} (o : Except String α) (k : α → Option (Except String β)) : Option (Except String β) := match o with
  | .error E => some (.error E)
  | .ok v => k v
theorem exB_ok {α β : Type} {v : α} {k : α → Option (Except String β)} {out : Except String β} (h : exB (.ok v) k = some out) : k v = some out := h
theorem exB_er {α β : Type} {E : String} {k : α → Option (Except String β)} {out : Except String β} (h : exB (.error E : Except String α) k = some out) : (.error E : Except String β) = out := Option.some.inj h
def exC {α β : Type} (o : Except String α) (kE : String → Option β) (kO : α → Option β) : Option β := match o with
  | .error E => kE E
  | .ok v => kO v
theorem exC_ok {α β : Type} {v : α} {kE : String → Option β} {kO : α → Option β} {out : β} (h : exC (.ok v) kE kO = some out) : kO v = some out := h
theorem exC_er {α β : Type} {E : String} {kE : String → Option β} {kO : α → Option β} {out : β} (h : exC (.error E : Except String α) kE kO = some out) : kE E = some out := h
theorem in_lt {i : Int32} {n : Nat} (h : vp_in i n) : i.toNatClampNeg < n := Nat.lt_of_not_le (fun q => h (Or.inr q))
def upd2 (M : Nat → Nat → Int32) (i j : Nat) (x : Int32) : Nat → Nat → Int32 := va_up M i (upd (M i) j x)
/-! rows of numbers as cells of a world, by their places -/
def gw (n : Nat) (r : Nat → Nat) (c : ClassId) (k : Nat) (M : Nat → Nat → Int32) : va_W := (List.range n).map (fun i => (r i, .inl (c, k, .inl (M i))))
def go (n : Nat) (r : Nat → Nat) : Nat → Option Nat := fun i => if i < n then some (r i) else none
abbrev sh {α : Type} (n : Nat) (f : Nat → α) : Nat → α := fun k => f (k + n)
def pick (X : va_W) (is : List Nat) : va_W := is.filterMap (fun i => X[i]?)
theorem gw_len {n : Nat} {r : Nat → Nat} {c : ClassId} {k : Nat} {M : Nat → Nat → Int32} : (gw n r c k M).length = n := by simp [gw]
theorem gw_at {n : Nat} {r : Nat → Nat} {c : ClassId} {k : Nat} {M : Nat → Nat → Int32} {i : Nat} (h : i < n) : (gw n r c k M)[i]? = some (r i, .inl (c, k, .inl (M i))) := by
  simp [gw, h]
theorem gw_get {X Q : va_W} {n : Nat} {r : Nat → Nat} {c : ClassId} {k : Nat} {M : Nat → Nat → Int32} {i : Nat} (h : i < n) : (X ++ (gw n r c k M ++ Q))[X.length + i]? = some (r i, .inl (c, k, .inl (M i))) := by
  rw [List.getElem?_append_right (Nat.le_add_right _ _), Nat.add_sub_cancel_left, List.getElem?_append_left (by rw [gw_len]; exact h), gw_at h]
theorem gw_set0 {n : Nat} {r : Nat → Nat} {c : ClassId} {k : Nat} {M : Nat → Nat → Int32} {i : Nat} {f : Nat → Int32} (h : i < n) : (gw n r c k M).set i (r i, .inl (c, k, .inl f)) = gw n r c k (va_up M i f) := by
  apply List.ext_getElem?
  intro j
  rw [List.getElem?_set]
  by_cases hj : i = j
  · subst hj
    rw [if_pos rfl, if_pos (by rw [gw_len]; exact h), gw_at h, va_up_self]
  · rw [if_neg hj]
    by_cases hn : j < n
    · rw [gw_at hn, gw_at hn, va_up_ne M f (fun q => hj q.symm)]
    · rw [List.getElem?_eq_none (by rw [gw_len]; omega), List.getElem?_eq_none (by rw [gw_len]; omega)]
theorem gw_set {X Q : va_W} {n : Nat} {r : Nat → Nat} {c : ClassId} {k : Nat} {M : Nat → Nat → Int32} {i : Nat} {f : Nat → Int32} (h : i < n) : (X ++ (gw n r c k M ++ Q)).set (X.length + i) (r i, .inl (c, k, .inl f)) = X ++ (gw n r c k (va_up M i f) ++ Q) := by
  rw [List.set_append_right _ _ (Nat.le_add_right _ _), Nat.add_sub_cancel_left, List.set_append_left _ _ (by rw [gw_len]; exact h), gw_set0 h]
/-- cells of the fixed part alone -/
theorem pl_P {D : va_G} {cl : List vw_C} {X cx pl : va_W} {H : Heap} (h : va_P D cl (X ++ pl) H) (is : List Nat) (hs : is.map (fun i => X[i]?) = cx.map some) : va_P D cl cx H := fun k q hk => (h.part is hs) k q (by
  rw [List.getElem?_append_left (List.getElem?_eq_some_iff.mp hk).1]; exact hk)
theorem pl_D {A : Nat → Prop} {X cx pl : va_W} (h : va_D A (X ++ pl)) (is : List Nat) (hn : va_nd is = true) (hs : is.map (fun i => X[i]?) = cx.map some) : va_D A cx := by
  have h2 := h.part is hn hs
  have e : ∀ (k : Nat) (q : Nat × va_E), cx[k]? = some q → (cx ++ pl)[k]? = some q := fun k q hk => by
    rw [List.getElem?_append_left (List.getElem?_eq_some_iff.mp hk).1]; exact hk
  exact ⟨fun i j p q hi hj e1 => h2.1 i j p q (e i p hi) (e j q hj) e1, fun k q hk => h2.2 k q (e k q hk)⟩
theorem pl_F {A0 : Nat → Prop} {X cx pl : va_W} {H0 H : Heap} {locs : List Loc} (hD : va_D A0 (X ++ pl)) (hS : va_S A0 H0 H locs) (hA : ∀ q, H0.size ≤ q → A0 q) (isC : List Nat) (hC : isC.map (fun i => X[i]?) = cx.map some) : ∀ q, va_A cx H.size q → A0 q := by
  intro q hq
  refine va_freeP hD hS hA isC hC q ?_
  rcases hq with ⟨k, e, hk⟩ | hq
  · exact Or.inl ⟨k, e, by rw [List.getElem?_append_left (List.getElem?_eq_some_iff.mp hk).1]; exact hk⟩
  · exact Or.inr hq
section GRW
variable {p : Program} {l : Launch} {e : Env} {R : Room} {s : State} {m : MethodId} {args : Array Value} {below : List Frame} {meth : Method} {c : Code} {H : Heap} {locs : List Loc} {cells slots : Nat} {Q : State → Prop}
variable {cc : ByteArray} {pc : Nat} {ls : Array Slot} {rest : List Value} {D : va_G} {cl : List vw_C} {A : Nat → Prop} {a : Nat} {tys : List (ClassId × FieldType)} {ws : va_W} {H0 : Heap}
theorem gr_aald (hexec : p.tables.exec = Jvm.exec) (hb : c.code = cc) (hK : va_K D cl tys s) (hP : va_P D cl ws H) (q0 t0 : Nat) {cA : ClassId} {n : Nat} {r : Nat → Nat} (ha : ws[q0]? = some (a, .inl (cA, n, .inr (.inr (.inr (.inr (go n r))))))) (ht : tys[t0]? = some (cA, .array .int)) {i : Int32} (hin : vp_in i n) (hdg : decode cc pc = .ok (.aaload, 1)) (kk : W p l e R s m args below meth c H locs cells slots Q (F0 m (pc + 1) ls (.ref (r i.toNatClampNeg) :: rest))) : W p l e R s m args below meth c H locs cells slots Q (F0 m pc ls (.int i :: .ref a :: rest)) := by
  have hlt : i.toNatClampNeg < n := in_lt hin
  have hv : va_rf (go n r i.toNatClampNeg) = .ref (r i.toNatClampNeg) := by rw [show go n r i.toNatClampNeg = some (r i.toNatClampNeg) from if_pos hlt]; rfl
  exact W.aald (v := .ref (r i.toNatClampNeg)) (ty := .array .int) hexec hb (hP q0 _ ha) ((hK.2 t0 _ ht).1 n (fun j => va_rf (go n r j))) rfl (fun q => by cases q) (by show ¬ (i < 0 ∨ (arrV _ _ _).slots.size ≤ _); rw [arrV_size]; exact hin) (by show (arrV _ _ _).slots[_]? = _; rw [arrV_read _ _ hlt, hv]) rfl rfl hdg kk
theorem gr_ald1 {X G : va_W} {n k : Nat} {r : Nat → Nat} {cR : ClassId} {M : Nat → Nat → Int32} (hexec : p.tables.exec = Jvm.exec) (hb : c.code = cc) (hK : va_K D cl tys s) (hP : va_P D cl (X ++ (gw n r cR k M ++ G)) H) (t0 : Nat) (ht : tys[t0]? = some (cR, .int)) {i : Nat} (hi : i < n) {j : Int32} (hin : vp_in j k) (hdg : decode cc pc = .ok (.iaload, 1)) (kk : W p l e R s m args below meth c H locs cells slots Q (F0 m (pc + 1) ls (.int (M i j.toNatClampNeg) :: rest))) : W p l e R s m args below meth c H locs cells slots Q (F0 m pc ls (.int j :: .ref (r i) :: rest)) :=
  va_iald hexec hb hK hP (X.length + i) t0 (gw_get hi) ht hin hdg kk
theorem gr_re {X G K : va_W} : X ++ (G ++ K) = (X ++ G) ++ (K ++ []) := by simp [List.append_assoc]
theorem gr_ald2 {X G : va_W} {n k : Nat} {r : Nat → Nat} {cR : ClassId} {M : Nat → Nat → Int32} (hexec : p.tables.exec = Jvm.exec) (hb : c.code = cc) (hK : va_K D cl tys s) (hP : va_P D cl (X ++ (G ++ gw n r cR k M)) H) (t0 : Nat) (ht : tys[t0]? = some (cR, .int)) {i : Nat} (hi : i < n) {j : Int32} (hin : vp_in j k) (hdg : decode cc pc = .ok (.iaload, 1)) (kk : W p l e R s m args below meth c H locs cells slots Q (F0 m (pc + 1) ls (.int (M i j.toNatClampNeg) :: rest))) : W p l e R s m args below meth c H locs cells slots Q (F0 m pc ls (.int j :: .ref (r i) :: rest)) := by
  rw [gr_re] at hP
  exact gr_ald1 hexec hb hK hP t0 ht hi hin hdg kk
theorem gr_ast1 {X G : va_W} {n k : Nat} {r : Nat → Nat} {cR : ClassId} {M : Nat → Nat → Int32} (hexec : p.tables.exec = Jvm.exec) (hb : c.code = cc) (hK : va_K D cl tys s) (hP : va_P D cl (X ++ (gw n r cR k M ++ G)) H) (hD : va_D A (X ++ (gw n r cR k M ++ G))) (hS : va_S A H0 H locs) (t0 : Nat) (ht : tys[t0]? = some (cR, .int)) {i : Nat} (hi : i < n) {j x : Int32} (hin : vp_in j k) (hdg : decode cc pc = .ok (.iastore, 1)) (kk : ∀ (H1 : Heap) (locs1 : List Loc), va_P D cl (X ++ (gw n r cR k (upd2 M i j.toNatClampNeg x) ++ G)) H1 → va_D A (X ++ (gw n r cR k (upd2 M i j.toNatClampNeg x) ++ G)) → va_S A H0 H1 locs1 → W p l e R s m args below meth c H1 locs1 cells slots Q (F0 m (pc + 1) ls rest)) : W p l e R s m args below meth c H locs cells slots Q (F0 m pc ls (.int x :: .int j :: .ref (r i) :: rest)) := by
  refine va_iast hexec hb hK hP hD hS (X.length + i) t0 (gw_get hi) ht hin hdg (fun H1 locs1 hP1 hD1 hS1 => ?_)
  rw [gw_set hi] at hP1 hD1
  exact kk H1 locs1 hP1 hD1 hS1
theorem gr_ast2 {X G : va_W} {n k : Nat} {r : Nat → Nat} {cR : ClassId} {M : Nat → Nat → Int32} (hexec : p.tables.exec = Jvm.exec) (hb : c.code = cc) (hK : va_K D cl tys s) (hP : va_P D cl (X ++ (G ++ gw n r cR k M)) H) (hD : va_D A (X ++ (G ++ gw n r cR k M))) (hS : va_S A H0 H locs) (t0 : Nat) (ht : tys[t0]? = some (cR, .int)) {i : Nat} (hi : i < n) {j x : Int32} (hin : vp_in j k) (hdg : decode cc pc = .ok (.iastore, 1)) (kk : ∀ (H1 : Heap) (locs1 : List Loc), va_P D cl (X ++ (G ++ gw n r cR k (upd2 M i j.toNatClampNeg x))) H1 → va_D A (X ++ (G ++ gw n r cR k (upd2 M i j.toNatClampNeg x))) → va_S A H0 H1 locs1 → W p l e R s m args below meth c H1 locs1 cells slots Q (F0 m (pc + 1) ls rest)) : W p l e R s m args below meth c H locs cells slots Q (F0 m pc ls (.int x :: .int j :: .ref (r i) :: rest)) := by
  rw [gr_re] at hP hD
  refine gr_ast1 hexec hb hK hP hD hS t0 ht hi hin hdg (fun H1 locs1 hP1 hD1 hS1 => ?_)
  rw [← gr_re] at hP1 hD1
  exact kk H1 locs1 hP1 hD1 hS1
end GRW
