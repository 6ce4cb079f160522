/-! pure: decoding by boxes -/
def d_bmid (N : Nat) (o b g m_end : Int32) (m_bytes : Nat → Int32) (at' m_many : Int32) (m_came m_boxes m_single m_rows : Nat → Int32) : Option (Int32 × Int32 × Int32 × (Nat → Int32) × (Nat → Int32) × (Nat → Int32) × (Nat → Int32)) :=
 if o < (2 : Int32) then d_Mod_boxed_J118 N o b g m_end m_bytes at' m_many (0 : Int32) m_came m_boxes m_single m_rows else if (5 : Int32) < o then d_Mod_boxed_J118 N o b g m_end m_bytes at' m_many (0 : Int32) m_came m_boxes m_single m_rows else gI b 8 (if (m_boxes b.toNatClampNeg) = (-2 : Int32) then (d_Mod_fail N (3 : Int32) (0 : Int32)).bind (fun o23 => d_Mod_boxed_J118 N o b g m_end m_bytes at' m_many o23 m_came m_boxes m_single m_rows) else if (m_boxes b.toNatClampNeg) = (-1 : Int32) then if o = (2 : Int32) then if o < (4 : Int32) then d_Mod_boxed_J118 N o b g m_end m_bytes at' m_many (0 : Int32) m_came m_boxes m_single m_rows else if g < (m_boxes b.toNatClampNeg) then d_Mod_boxed_J118 N o b g m_end m_bytes at' m_many (0 : Int32) m_came m_boxes m_single m_rows else (d_Mod_fail N (1 : Int32) (0 : Int32)).bind (fun o22 => d_Mod_boxed_J118 N o b g m_end m_bytes at' m_many o22 m_came m_boxes m_single m_rows) else (d_Mod_fail N (4 : Int32) (0 : Int32)).bind (fun o18 => d_Mod_boxed_J118 N o b g m_end m_bytes at' m_many o18 m_came m_boxes m_single m_rows) else if o = (2 : Int32) then (d_Mod_fail N (4 : Int32) (0 : Int32)).bind (fun o15 => d_Mod_boxed_J118 N o b g m_end m_bytes at' m_many o15 m_came m_boxes m_single m_rows) else if o < (4 : Int32) then d_Mod_boxed_J118 N o b g m_end m_bytes at' m_many (0 : Int32) m_came m_boxes m_single m_rows else if g < (m_boxes b.toNatClampNeg) then d_Mod_boxed_J118 N o b g m_end m_bytes at' m_many (0 : Int32) m_came m_boxes m_single m_rows else (d_Mod_fail N (1 : Int32) (0 : Int32)).bind (fun o13 => d_Mod_boxed_J118 N o b g m_end m_bytes at' m_many o13 m_came m_boxes m_single m_rows))
theorem e8 {i : Nat} (h : i < 2 ^ 31) : nI i - nI i / (8 : Int32) * (8 : Int32) = nI (i % 8) := pk_rem (d := 8) h (by decide) (by decide)
theorem dv8 {i : Nat} (h : i < 2 ^ 31) : nI i / (8 : Int32) = nI (i / 8) := pk_div (d := 8) h (by decide) (by decide)
theorem boxed_eq (N : Nat) {a e v u : Nat} (ha : a + 1 < e) (he : e ≤ 1200) {mb : Nat → Int32} (hv : v < 256) (hu : u < 256) (e1 : mb a = nI v) (e2 : mb (a + 1) = nI u) (mm : Int32) (came bx sg rw : Nat → Int32) : d_Mod_boxed N (nI a) (nI e) mm 0 mb came bx sg rw = d_bmid N (nI (v % 8)) (nI (u % 8)) (nI (u / 8)) (nI e) mb (nI (a + 2)) mm came bx sg rw := by
  unfold d_Mod_boxed
  rw [take_ok N (by omega) he, Option.bind_some]
  dsimp only
  rw [take_ok N (by omega) he, Option.bind_some]
  dsimp only
  rw [if_pos le00, e1, e2, e8 (by omega), e8 (by omega), dv8 (by omega)]
  rfl
theorem boxed_short {N b z e i : Nat} (he : e = b + z) (he2 : e ≤ 1200) (hi : i ≤ z) (hz : z ≤ i + 1) (mm : Int32) (mb came bx sg rw : Nat → Int32) : ∃ at' : Int32, d_Mod_boxed N (nI (b + i)) (nI e) mm 0 mb came bx sg rw = some (at', mm, 1, came, bx, sg, rw) := by
  unfold d_Mod_boxed
  by_cases h : i = z
  · subst h
    rw [← he, take_end, Option.bind_some]
    dsimp only
    rw [take_bad, Option.bind_some]
    dsimp only
    rw [if_neg nle10]
    exact ⟨_, rfl⟩
  · rw [take_ok N (by omega) he2, Option.bind_some]
    dsimp only
    rw [show b + i + 1 = e by omega, take_end, Option.bind_some]
    dsimp only
    rw [if_neg nle10]
    exact ⟨_, rfl⟩
/-! one box -/
def RelX (ho nm ln : Nat → Int32) (rs : Nat → Nat → Int32) (bx sg rw : Nat → Int32) : Prop := ∀ b : Nat, b < 8 → (ho b = 0 ∧ bx b = (-2 : Int32)) ∨ (ho b = 1 ∧ bx b = (-1 : Int32) ∧ ∃ x : Nat, x < 256 ∧ nm b = nI x ∧ sg b = nI x) ∨ (ho b = 2 ∧ ∃ l : Nat, l ≤ 5 ∧ ln b = nI l ∧ bx b = nI l ∧ ∀ j : Nat, j < 5 → ∃ x : Nat, x < 256 ∧ rs b j = nI x ∧ rw (8 * b + j) = nI x)
theorem J_bad2 (N : Nat) {b g : Nat} (hb : b < 8) (hg : g < 32) (e : Int32) (mb : Nat → Int32) (at' mm : Int32) (came bx sg rw : Nat → Int32) {w : Int32} (hw : ¬ w = 0) : d_Mod_boxed_J118 N (nI 2) (nI b) (nI g) e mb at' mm w came bx sg rw = some (at', mm, w, came, bx, sg, rw) := by
  unfold d_Mod_boxed_J118
  rw [if_neg (show ¬ nI 2 = (0 : Int32) by decide), if_neg (show ¬ nI 2 = (1 : Int32) by decide), if_pos (show nI 2 = (2 : Int32) from rfl), gI_n hb (by decide), give_bad N _ _ hw, Option.bind_some]
theorem J_bad3 (N : Nat) {b g : Nat} (hb : b < 8) (hg : g < 32) (e : Int32) (mb : Nat → Int32) (at' mm : Int32) (came bx sg rw : Nat → Int32) {w : Int32} (hw : ¬ w = 0) : d_Mod_boxed_J118 N (nI 3) (nI b) (nI g) e mb at' mm w came bx sg rw = some (at', mm, w, came, bx, sg, rw) := by
  unfold d_Mod_boxed_J118
  rw [if_neg (show ¬ nI 3 = (0 : Int32) by decide), if_neg (show ¬ nI 3 = (1 : Int32) by decide), if_neg (show ¬ nI 3 = (2 : Int32) by decide), if_pos (show nI 3 = (3 : Int32) from rfl), gI_n hb (by decide), give_bad N _ _ hw, Option.bind_some]
theorem J_bad4 (N : Nat) {b g : Nat} (hb : b < 8) (hg : g < 32) (e : Int32) (mb : Nat → Int32) (at' mm : Int32) (came bx sg rw : Nat → Int32) {w : Int32} (hw : ¬ w = 0) : d_Mod_boxed_J118 N (nI 4) (nI b) (nI g) e mb at' mm w came bx sg rw = some (at', mm, w, came, bx, sg, rw) := by
  unfold d_Mod_boxed_J118
  rw [if_neg (show ¬ nI 4 = (0 : Int32) by decide), if_neg (show ¬ nI 4 = (1 : Int32) by decide), if_neg (show ¬ nI 4 = (2 : Int32) by decide), if_neg (show ¬ nI 4 = (3 : Int32) by decide), if_pos (show nI 4 = (4 : Int32) from rfl), if_neg hw]
theorem J_bad5 (N : Nat) {b g : Nat} (hb : b < 8) (hg : g < 32) (e : Int32) (mb : Nat → Int32) (at' mm : Int32) (came bx sg rw : Nat → Int32) {w : Int32} (hw : ¬ w = 0) : d_Mod_boxed_J118 N (nI 5) (nI b) (nI g) e mb at' mm w came bx sg rw = some (at', mm, w, came, bx, sg, rw) := by
  unfold d_Mod_boxed_J118
  rw [if_neg (show ¬ nI 5 = (0 : Int32) by decide), if_neg (show ¬ nI 5 = (1 : Int32) by decide), if_neg (show ¬ nI 5 = (2 : Int32) by decide), if_neg (show ¬ nI 5 = (3 : Int32) by decide), if_neg (show ¬ nI 5 = (4 : Int32) by decide), if_pos (show nI 5 = (5 : Int32) from rfl), if_neg hw, give_bad N _ _ hw, Option.bind_some]
theorem bm_0 (N : Nat) {b g : Nat} (hb : b < 8) (hg : g < 32) (e : Int32) (mb : Nat → Int32) (at' mm : Int32) (came bx sg rw : Nat → Int32) : d_bmid N (nI 0) (nI b) (nI g) e mb at' mm came bx sg rw = d_Mod_boxed_J118 N (nI 0) (nI b) (nI g) e mb at' mm 0 came bx sg rw := by
  unfold d_bmid
  rw [if_pos (show nI 0 < (2 : Int32) by decide)]
theorem bm_1 (N : Nat) {b g : Nat} (hb : b < 8) (hg : g < 32) (e : Int32) (mb : Nat → Int32) (at' mm : Int32) (came bx sg rw : Nat → Int32) : d_bmid N (nI 1) (nI b) (nI g) e mb at' mm came bx sg rw = d_Mod_boxed_J118 N (nI 1) (nI b) (nI g) e mb at' mm 0 came bx sg rw := by
  unfold d_bmid
  rw [if_pos (show nI 1 < (2 : Int32) by decide)]
theorem bm_6 (N : Nat) {b g : Nat} (hb : b < 8) (hg : g < 32) (e : Int32) (mb : Nat → Int32) (at' mm : Int32) (came bx sg rw : Nat → Int32) : d_bmid N (nI 6) (nI b) (nI g) e mb at' mm came bx sg rw = d_Mod_boxed_J118 N (nI 6) (nI b) (nI g) e mb at' mm 0 came bx sg rw := by
  unfold d_bmid
  rw [if_neg (show ¬ nI 6 < (2 : Int32) by decide), if_pos (show (5 : Int32) < nI 6 by decide)]
theorem bm_7 (N : Nat) {b g : Nat} (hb : b < 8) (hg : g < 32) (e : Int32) (mb : Nat → Int32) (at' mm : Int32) (came bx sg rw : Nat → Int32) : d_bmid N (nI 7) (nI b) (nI g) e mb at' mm came bx sg rw = d_Mod_boxed_J118 N (nI 7) (nI b) (nI g) e mb at' mm 0 came bx sg rw := by
  unfold d_bmid
  rw [if_neg (show ¬ nI 7 < (2 : Int32) by decide), if_pos (show (5 : Int32) < nI 7 by decide)]
theorem bm_2_empty (N : Nat) {b g : Nat} (hb : b < 8) (hg : g < 32) (e : Int32) (mb : Nat → Int32) (at' mm : Int32) (came bx sg rw : Nat → Int32) (h : bx b = (-2 : Int32)) : d_bmid N (nI 2) (nI b) (nI g) e mb at' mm came bx sg rw = some (at', mm, 3, came, bx, sg, rw) := by
  unfold d_bmid
  rw [if_neg (show ¬ nI 2 < (2 : Int32) by decide), if_neg (show ¬ (5 : Int32) < nI 2 by decide), gI_n hb (by decide), nI_clamp (show b < 2 ^ 31 by omega), if_pos h, show d_Mod_fail N 3 0 = some 3 from rfl, Option.bind_some, J_bad2 N hb hg _ _ _ _ _ _ _ _ (show ¬ (3 : Int32) = 0 by decide)]
theorem bm_2_number (N : Nat) {b g : Nat} (hb : b < 8) (hg : g < 32) (e : Int32) (mb : Nat → Int32) (at' mm : Int32) (came bx sg rw : Nat → Int32) (h : bx b = (-1 : Int32)) : d_bmid N (nI 2) (nI b) (nI g) e mb at' mm came bx sg rw = d_Mod_boxed_J118 N (nI 2) (nI b) (nI g) e mb at' mm 0 came bx sg rw := by
  unfold d_bmid
  rw [if_neg (show ¬ nI 2 < (2 : Int32) by decide), if_neg (show ¬ (5 : Int32) < nI 2 by decide), gI_n hb (by decide), nI_clamp (show b < 2 ^ 31 by omega), if_neg (show ¬ bx b = (-2 : Int32) by rw [h]; decide), if_pos h, if_pos (show nI 2 = (2 : Int32) from rfl), if_pos (show nI 2 < (4 : Int32) by decide)]
theorem bm_2_row (N : Nat) {b g : Nat} (hb : b < 8) (hg : g < 32) (e : Int32) (mb : Nat → Int32) (at' mm : Int32) (came bx sg rw : Nat → Int32) {l : Nat} (hl : l ≤ 5) (h : bx b = nI l) : d_bmid N (nI 2) (nI b) (nI g) e mb at' mm came bx sg rw = some (at', mm, 4, came, bx, sg, rw) := by
  unfold d_bmid
  rw [if_neg (show ¬ nI 2 < (2 : Int32) by decide), if_neg (show ¬ (5 : Int32) < nI 2 by decide), gI_n hb (by decide), nI_clamp (show b < 2 ^ 31 by omega), if_neg (show ¬ bx b = (-2 : Int32) by rw [h]; exact nI_m2 (by omega)), if_neg (show ¬ bx b = (-1 : Int32) by rw [h]; exact nI_m1 (by omega)), if_pos (show nI 2 = (2 : Int32) from rfl), show d_Mod_fail N 4 0 = some 4 from rfl, Option.bind_some, J_bad2 N hb hg _ _ _ _ _ _ _ _ (show ¬ (4 : Int32) = 0 by decide)]
theorem bm_3_empty (N : Nat) {b g : Nat} (hb : b < 8) (hg : g < 32) (e : Int32) (mb : Nat → Int32) (at' mm : Int32) (came bx sg rw : Nat → Int32) (h : bx b = (-2 : Int32)) : d_bmid N (nI 3) (nI b) (nI g) e mb at' mm came bx sg rw = some (at', mm, 3, came, bx, sg, rw) := by
  unfold d_bmid
  rw [if_neg (show ¬ nI 3 < (2 : Int32) by decide), if_neg (show ¬ (5 : Int32) < nI 3 by decide), gI_n hb (by decide), nI_clamp (show b < 2 ^ 31 by omega), if_pos h, show d_Mod_fail N 3 0 = some 3 from rfl, Option.bind_some, J_bad3 N hb hg _ _ _ _ _ _ _ _ (show ¬ (3 : Int32) = 0 by decide)]
theorem bm_3_number (N : Nat) {b g : Nat} (hb : b < 8) (hg : g < 32) (e : Int32) (mb : Nat → Int32) (at' mm : Int32) (came bx sg rw : Nat → Int32) (h : bx b = (-1 : Int32)) : d_bmid N (nI 3) (nI b) (nI g) e mb at' mm came bx sg rw = some (at', mm, 4, came, bx, sg, rw) := by
  unfold d_bmid
  rw [if_neg (show ¬ nI 3 < (2 : Int32) by decide), if_neg (show ¬ (5 : Int32) < nI 3 by decide), gI_n hb (by decide), nI_clamp (show b < 2 ^ 31 by omega), if_neg (show ¬ bx b = (-2 : Int32) by rw [h]; decide), if_pos h, if_neg (show ¬ nI 3 = (2 : Int32) by decide), show d_Mod_fail N 4 0 = some 4 from rfl, Option.bind_some, J_bad3 N hb hg _ _ _ _ _ _ _ _ (show ¬ (4 : Int32) = 0 by decide)]
theorem bm_3_row (N : Nat) {b g : Nat} (hb : b < 8) (hg : g < 32) (e : Int32) (mb : Nat → Int32) (at' mm : Int32) (came bx sg rw : Nat → Int32) {l : Nat} (hl : l ≤ 5) (h : bx b = nI l) : d_bmid N (nI 3) (nI b) (nI g) e mb at' mm came bx sg rw = d_Mod_boxed_J118 N (nI 3) (nI b) (nI g) e mb at' mm 0 came bx sg rw := by
  unfold d_bmid
  rw [if_neg (show ¬ nI 3 < (2 : Int32) by decide), if_neg (show ¬ (5 : Int32) < nI 3 by decide), gI_n hb (by decide), nI_clamp (show b < 2 ^ 31 by omega), if_neg (show ¬ bx b = (-2 : Int32) by rw [h]; exact nI_m2 (by omega)), if_neg (show ¬ bx b = (-1 : Int32) by rw [h]; exact nI_m1 (by omega)), if_neg (show ¬ nI 3 = (2 : Int32) by decide), if_pos (show nI 3 < (4 : Int32) by decide)]
theorem bm_4_empty (N : Nat) {b g : Nat} (hb : b < 8) (hg : g < 32) (e : Int32) (mb : Nat → Int32) (at' mm : Int32) (came bx sg rw : Nat → Int32) (h : bx b = (-2 : Int32)) : d_bmid N (nI 4) (nI b) (nI g) e mb at' mm came bx sg rw = some (at', mm, 3, came, bx, sg, rw) := by
  unfold d_bmid
  rw [if_neg (show ¬ nI 4 < (2 : Int32) by decide), if_neg (show ¬ (5 : Int32) < nI 4 by decide), gI_n hb (by decide), nI_clamp (show b < 2 ^ 31 by omega), if_pos h, show d_Mod_fail N 3 0 = some 3 from rfl, Option.bind_some, J_bad4 N hb hg _ _ _ _ _ _ _ _ (show ¬ (3 : Int32) = 0 by decide)]
theorem bm_4_number (N : Nat) {b g : Nat} (hb : b < 8) (hg : g < 32) (e : Int32) (mb : Nat → Int32) (at' mm : Int32) (came bx sg rw : Nat → Int32) (h : bx b = (-1 : Int32)) : d_bmid N (nI 4) (nI b) (nI g) e mb at' mm came bx sg rw = some (at', mm, 4, came, bx, sg, rw) := by
  unfold d_bmid
  rw [if_neg (show ¬ nI 4 < (2 : Int32) by decide), if_neg (show ¬ (5 : Int32) < nI 4 by decide), gI_n hb (by decide), nI_clamp (show b < 2 ^ 31 by omega), if_neg (show ¬ bx b = (-2 : Int32) by rw [h]; decide), if_pos h, if_neg (show ¬ nI 4 = (2 : Int32) by decide), show d_Mod_fail N 4 0 = some 4 from rfl, Option.bind_some, J_bad4 N hb hg _ _ _ _ _ _ _ _ (show ¬ (4 : Int32) = 0 by decide)]
theorem bm_4_in (N : Nat) {b g : Nat} (hb : b < 8) (hg : g < 32) (e : Int32) (mb : Nat → Int32) (at' mm : Int32) (came bx sg rw : Nat → Int32) {l : Nat} (hl : l ≤ 5) (h : bx b = nI l) (hgl : g < l) : d_bmid N (nI 4) (nI b) (nI g) e mb at' mm came bx sg rw = d_Mod_boxed_J118 N (nI 4) (nI b) (nI g) e mb at' mm 0 came bx sg rw := by
  unfold d_bmid
  rw [if_neg (show ¬ nI 4 < (2 : Int32) by decide), if_neg (show ¬ (5 : Int32) < nI 4 by decide), gI_n hb (by decide), nI_clamp (show b < 2 ^ 31 by omega), if_neg (show ¬ bx b = (-2 : Int32) by rw [h]; exact nI_m2 (by omega)), if_neg (show ¬ bx b = (-1 : Int32) by rw [h]; exact nI_m1 (by omega)), if_neg (show ¬ nI 4 = (2 : Int32) by decide), if_neg (show ¬ nI 4 < (4 : Int32) by decide), if_pos (show nI g < bx b by rw [h]; exact nI_lt hgl (by omega))]
theorem bm_4_out (N : Nat) {b g : Nat} (hb : b < 8) (hg : g < 32) (e : Int32) (mb : Nat → Int32) (at' mm : Int32) (came bx sg rw : Nat → Int32) {l : Nat} (hl : l ≤ 5) (h : bx b = nI l) (hgl : ¬ g < l) : d_bmid N (nI 4) (nI b) (nI g) e mb at' mm came bx sg rw = some (at', mm, 1, came, bx, sg, rw) := by
  unfold d_bmid
  rw [if_neg (show ¬ nI 4 < (2 : Int32) by decide), if_neg (show ¬ (5 : Int32) < nI 4 by decide), gI_n hb (by decide), nI_clamp (show b < 2 ^ 31 by omega), if_neg (show ¬ bx b = (-2 : Int32) by rw [h]; exact nI_m2 (by omega)), if_neg (show ¬ bx b = (-1 : Int32) by rw [h]; exact nI_m1 (by omega)), if_neg (show ¬ nI 4 = (2 : Int32) by decide), if_neg (show ¬ nI 4 < (4 : Int32) by decide), if_neg (show ¬ nI g < bx b by rw [h]; exact fun q => hgl ((nI_ltI (by omega) (by omega)).mp q)), show d_Mod_fail N 1 0 = some 1 from rfl, Option.bind_some, J_bad4 N hb hg _ _ _ _ _ _ _ _ (show ¬ (1 : Int32) = 0 by decide)]
theorem bm_5_empty (N : Nat) {b g : Nat} (hb : b < 8) (hg : g < 32) (e : Int32) (mb : Nat → Int32) (at' mm : Int32) (came bx sg rw : Nat → Int32) (h : bx b = (-2 : Int32)) : d_bmid N (nI 5) (nI b) (nI g) e mb at' mm came bx sg rw = some (at', mm, 3, came, bx, sg, rw) := by
  unfold d_bmid
  rw [if_neg (show ¬ nI 5 < (2 : Int32) by decide), if_neg (show ¬ (5 : Int32) < nI 5 by decide), gI_n hb (by decide), nI_clamp (show b < 2 ^ 31 by omega), if_pos h, show d_Mod_fail N 3 0 = some 3 from rfl, Option.bind_some, J_bad5 N hb hg _ _ _ _ _ _ _ _ (show ¬ (3 : Int32) = 0 by decide)]
theorem bm_5_number (N : Nat) {b g : Nat} (hb : b < 8) (hg : g < 32) (e : Int32) (mb : Nat → Int32) (at' mm : Int32) (came bx sg rw : Nat → Int32) (h : bx b = (-1 : Int32)) : d_bmid N (nI 5) (nI b) (nI g) e mb at' mm came bx sg rw = some (at', mm, 4, came, bx, sg, rw) := by
  unfold d_bmid
  rw [if_neg (show ¬ nI 5 < (2 : Int32) by decide), if_neg (show ¬ (5 : Int32) < nI 5 by decide), gI_n hb (by decide), nI_clamp (show b < 2 ^ 31 by omega), if_neg (show ¬ bx b = (-2 : Int32) by rw [h]; decide), if_pos h, if_neg (show ¬ nI 5 = (2 : Int32) by decide), show d_Mod_fail N 4 0 = some 4 from rfl, Option.bind_some, J_bad5 N hb hg _ _ _ _ _ _ _ _ (show ¬ (4 : Int32) = 0 by decide)]
theorem bm_5_in (N : Nat) {b g : Nat} (hb : b < 8) (hg : g < 32) (e : Int32) (mb : Nat → Int32) (at' mm : Int32) (came bx sg rw : Nat → Int32) {l : Nat} (hl : l ≤ 5) (h : bx b = nI l) (hgl : g < l) : d_bmid N (nI 5) (nI b) (nI g) e mb at' mm came bx sg rw = d_Mod_boxed_J118 N (nI 5) (nI b) (nI g) e mb at' mm 0 came bx sg rw := by
  unfold d_bmid
  rw [if_neg (show ¬ nI 5 < (2 : Int32) by decide), if_neg (show ¬ (5 : Int32) < nI 5 by decide), gI_n hb (by decide), nI_clamp (show b < 2 ^ 31 by omega), if_neg (show ¬ bx b = (-2 : Int32) by rw [h]; exact nI_m2 (by omega)), if_neg (show ¬ bx b = (-1 : Int32) by rw [h]; exact nI_m1 (by omega)), if_neg (show ¬ nI 5 = (2 : Int32) by decide), if_neg (show ¬ nI 5 < (4 : Int32) by decide), if_pos (show nI g < bx b by rw [h]; exact nI_lt hgl (by omega))]
theorem bm_5_out (N : Nat) {b g : Nat} (hb : b < 8) (hg : g < 32) (e : Int32) (mb : Nat → Int32) (at' mm : Int32) (came bx sg rw : Nat → Int32) {l : Nat} (hl : l ≤ 5) (h : bx b = nI l) (hgl : ¬ g < l) : d_bmid N (nI 5) (nI b) (nI g) e mb at' mm came bx sg rw = some (at', mm, 1, came, bx, sg, rw) := by
  unfold d_bmid
  rw [if_neg (show ¬ nI 5 < (2 : Int32) by decide), if_neg (show ¬ (5 : Int32) < nI 5 by decide), gI_n hb (by decide), nI_clamp (show b < 2 ^ 31 by omega), if_neg (show ¬ bx b = (-2 : Int32) by rw [h]; exact nI_m2 (by omega)), if_neg (show ¬ bx b = (-1 : Int32) by rw [h]; exact nI_m1 (by omega)), if_neg (show ¬ nI 5 = (2 : Int32) by decide), if_neg (show ¬ nI 5 < (4 : Int32) by decide), if_neg (show ¬ nI g < bx b by rw [h]; exact fun q => hgl ((nI_ltI (by omega) (by omega)).mp q)), show d_Mod_fail N 1 0 = some 1 from rfl, Option.bind_some, J_bad5 N hb hg _ _ _ _ _ _ _ _ (show ¬ (1 : Int32) = 0 by decide)]
theorem put_loop (N : Nat) {b : Nat} (hb : b < 8) (ho ln : Nat → Int32) : ∀ (q i n : Nat) (rs : Nat → Nat → Int32), i + q = 5 → q < n → ∃ rs' : Nat → Nat → Int32, d_Boxes_putRow_L16 N (nI b) n (nI i) ho ln rs = some (ho, ln, rs') ∧ (∀ b' : Nat, b' ≠ b → rs' b' = rs b') ∧ (∀ j : Nat, j < i → rs' b j = rs b j) ∧ ∀ j : Nat, i ≤ j → j < 5 → rs' b j = 0 := by
  intro q
  induction q with
  | zero =>
    intro i n rs hi hn
    obtain ⟨n, rfl⟩ : ∃ q, n = q + 1 := ⟨n - 1, by omega⟩
    obtain rfl : i = 5 := by omega
    refine ⟨rs, by rw [d_Boxes_putRow_L16, if_pos (show (5 : Int32) ≤ nI 5 from nI_le (a := 5) (b := 5) (Nat.le_refl _) (by decide))], fun _ _ => rfl, fun _ _ => rfl, fun j h1 h2 => absurd h1 (by omega)⟩
  | succ q ih =>
    intro i n rs hi hn
    obtain ⟨n, rfl⟩ : ∃ q, n = q + 1 := ⟨n - 1, by omega⟩
    obtain ⟨rs', f1, f2, f3, f4⟩ := ih (i + 1) n (upd2 rs b i 0) (by omega) (by omega)
    refine ⟨rs', ?_, fun b' h => ?_, fun j hj => ?_, fun j h1 h2 => ?_⟩
    · rw [d_Boxes_putRow_L16, if_neg (show ¬ (5 : Int32) ≤ nI i from nI_ge (a := i) (b := 5) (by omega) (by decide)), gI_n hb (by decide), gI_n (by omega) (by decide), nI_clamp (by omega), nI_clamp (by omega), nI_1]
      exact f1
    · rw [f2 b' h]
      exact va_up_ne _ _ h
    · rw [f3 j (by omega)]
      show va_up rs b (upd (rs b) i 0) b j = _
      rw [va_up_self, upd_ne _ _ (by omega)]
    · by_cases e : j = i
      · subst e
        rw [f3 j (by omega)]
        show va_up rs b (upd (rs b) j 0) b j = _
        rw [va_up_self, upd_at]
      · exact f4 j (by omega) h2
theorem mk_loop (N : Nat) {b : Nat} (hb : b < 8) (wr : Int32) (bx : Nat → Int32) : ∀ (q i n : Nat) (rw' : Nat → Int32), i + q = 8 → q < n → ∃ rr : Nat → Int32, d_Mod_makeRow_L19 N (nI b) n (nI i) wr bx rw' = some (wr, bx, rr) ∧ (∀ j : Nat, j < 8 * b + i ∨ 8 * b + 8 ≤ j → rr j = rw' j) ∧ ∀ j : Nat, 8 * b + i ≤ j → j < 8 * b + 8 → rr j = 0 := by
  intro q
  induction q with
  | zero =>
    intro i n rw' hi hn
    obtain ⟨n, rfl⟩ : ∃ q, n = q + 1 := ⟨n - 1, by omega⟩
    obtain rfl : i = 8 := by omega
    exact ⟨rw', by rw [d_Mod_makeRow_L19, if_pos (show (8 : Int32) ≤ nI 8 from nI_le (a := 8) (b := 8) (Nat.le_refl _) (by decide))], fun _ _ => rfl, fun j h1 h2 => absurd h1 (by omega)⟩
  | succ q ih =>
    intro i n rw' hi hn
    obtain ⟨n, rfl⟩ : ∃ q, n = q + 1 := ⟨n - 1, by omega⟩
    have ix : (8 : Int32) * nI b + nI i = nI (8 * b + i) := by
      rw [show (8 : Int32) * nI b = nI (8 * b) from pk_mul 8 b, nI_add]
    obtain ⟨rr, f1, f2, f3⟩ := ih (i + 1) n (upd rw' (8 * b + i) 0) (by omega) (by omega)
    refine ⟨rr, ?_, fun j hj => ?_, fun j h1 h2 => ?_⟩
    · rw [d_Mod_makeRow_L19, if_neg (show ¬ (8 : Int32) ≤ nI i from nI_ge (a := i) (b := 8) (by omega) (by decide)), ix, gI_n (by omega) (by decide), nI_clamp (by omega), nI_1]
      exact f1
    · rw [f2 j (by omega), upd_ne _ _ (by omega)]
    · by_cases e : j = 8 * b + i
      · subst e
        rw [f2 _ (by omega), upd_at]
      · exact f3 j (by omega) h2
/-! what a step of the class and one of the reference do: a fault, or the same change -/
def StepX (N o b g m : Nat) (e : Int32) (mb : Nat → Int32) (at' : Int32) (made came ho nm ln : Nat → Int32) (rs : Nat → Nat → Int32) (bx sg rw : Nat → Int32) : Prop :=
  (∃ w : Nat, w ≤ 6 ∧ w ≠ 0 ∧ d_Boxes_thrownBy N (nI o) (nI b) (nI g) ho ln = some (nI w) ∧ ∃ bx' sg' rw' : Nat → Int32, d_bmid N (nI o) (nI b) (nI g) e mb at' (nI m) came bx sg rw = some (at', nI m, nI w, came, bx', sg', rw')) ∨
  (d_Boxes_thrownBy N (nI o) (nI b) (nI g) ho ln = some 0 ∧ ∃ (m' : Nat) (made' came' ho' nm' ln' : Nat → Int32) (rs' : Nat → Nat → Int32) (bx' sg' rw' : Nat → Int32), m' ≤ 16 ∧ RelM m' made' came' ∧ RelX ho' nm' ln' rs' bx' sg' rw' ∧ d_Dec_doOperation N (nI o) (nI b) (nI g) (nI m) made ho nm ln rs = some (nI m', made', ho', nm', ln', rs') ∧ d_bmid N (nI o) (nI b) (nI g) e mb at' (nI m) came bx sg rw = some (at', nI m', 0, came', bx', sg', rw'))
theorem RelX_one {ho nm ln : Nat → Int32} {rs : Nat → Nat → Int32} {bx sg rw : Nat → Int32} (hX : RelX ho nm ln rs bx sg rw) {b : Nat} (hb : b < 8) {ho' nm' ln' : Nat → Int32} {rs' : Nat → Nat → Int32} {bx' sg' rw' : Nat → Int32} (h1 : ∀ c : Nat, c ≠ b → ho' c = ho c ∧ nm' c = nm c ∧ ln' c = ln c ∧ rs' c = rs c ∧ bx' c = bx c ∧ sg' c = sg c ∧ ∀ j : Nat, j < 5 → rw' (8 * c + j) = rw (8 * c + j)) (h2 : (ho' b = 0 ∧ bx' b = (-2 : Int32)) ∨ (ho' b = 1 ∧ bx' b = (-1 : Int32) ∧ ∃ x : Nat, x < 256 ∧ nm' b = nI x ∧ sg' b = nI x) ∨ (ho' b = 2 ∧ ∃ l : Nat, l ≤ 5 ∧ ln' b = nI l ∧ bx' b = nI l ∧ ∀ j : Nat, j < 5 → ∃ x : Nat, x < 256 ∧ rs' b j = nI x ∧ rw' (8 * b + j) = nI x)) : RelX ho' nm' ln' rs' bx' sg' rw' := fun c hc => by
  by_cases q : c = b
  · subst q
    exact h2
  · obtain ⟨k1, k2, k3, k4, k5, k6, k7⟩ := h1 c q
    rw [k1, k2, k3, k4, k5, k6]
    rcases hX c hc with h | h | ⟨h, l, h3, h4, h5, h6⟩
    · exact Or.inl h
    · exact Or.inr (Or.inl h)
    · refine Or.inr (Or.inr ⟨h, l, h3, h4, h5, fun j hj => ?_⟩)
      rw [k7 j hj]
      exact h6 j hj
theorem st_0 {N : Nat} (hN : 300 ≤ N) {b g m : Nat} (hb : b < 8) (hg : g < 32) (hm : m < 16) (e : Int32) (mb : Nat → Int32) (at' : Int32) {made came ho nm ln : Nat → Int32} {rs : Nat → Nat → Int32} {bx sg rw : Nat → Int32} (hR : RelM m made came) (hX : RelX ho nm ln rs bx sg rw) : StepX N 0 b g m e mb at' made came ho nm ln rs bx sg rw := by
  refine Or.inr ⟨rfl, m, made, came, upd ho b 1, upd nm b (nI g), ln, rs, upd bx b (-1), upd sg b (nI g), rw, by omega, hR, ?_, ?_, ?_⟩
  · refine RelX_one hX hb (fun c h => ⟨upd_ne _ _ h, upd_ne _ _ h, rfl, rfl, upd_ne _ _ h, upd_ne _ _ h, fun _ _ => rfl⟩) (Or.inr (Or.inl ⟨upd_at _ _ _, upd_at _ _ _, g, by omega, upd_at _ _ _, upd_at _ _ _⟩))
  · unfold d_Dec_doOperation d_Boxes_putNumber
    rw [if_pos (show nI 0 = (0 : Int32) from rfl), gI_n hb (by decide), nI_clamp (by omega)]
    rfl
  · rw [bm_0 N hb hg e mb at' (nI m) came bx sg rw]
    unfold d_Mod_boxed_J118
    rw [if_pos (show nI 0 = (0 : Int32) from rfl), gI_n hb (by decide), nI_clamp (by omega)]
theorem st_6 {N : Nat} (hN : 300 ≤ N) {b g m : Nat} (hb : b < 8) (hg : g < 32) (hm : m < 16) (e : Int32) (mb : Nat → Int32) (at' : Int32) {made came ho nm ln : Nat → Int32} {rs : Nat → Nat → Int32} {bx sg rw : Nat → Int32} (hR : RelM m made came) (hX : RelX ho nm ln rs bx sg rw) : StepX N 6 b g m e mb at' made came ho nm ln rs bx sg rw := by
  refine Or.inr ⟨rfl, m, made, came, upd ho b 0, nm, ln, rs, upd bx b (-2), sg, rw, by omega, hR, ?_, ?_, ?_⟩
  · refine RelX_one hX hb (fun c h => ⟨upd_ne _ _ h, rfl, rfl, rfl, upd_ne _ _ h, rfl, fun _ _ => rfl⟩) (Or.inl ⟨upd_at _ _ _, upd_at _ _ _⟩)
  · unfold d_Dec_doOperation
    rw [if_neg (show ¬ nI 6 = (0 : Int32) by decide), if_neg (show ¬ nI 6 = (1 : Int32) by decide), if_neg (show ¬ nI 6 = (2 : Int32) by decide), if_neg (show ¬ nI 6 = (3 : Int32) by decide), if_neg (show ¬ nI 6 = (4 : Int32) by decide), if_neg (show ¬ nI 6 = (5 : Int32) by decide), gI_n hb (by decide), nI_clamp (by omega)]
  · rw [bm_6 N hb hg e mb at' (nI m) came bx sg rw]
    unfold d_Mod_boxed_J118
    rw [if_neg (show ¬ nI 6 = (0 : Int32) by decide), if_neg (show ¬ nI 6 = (1 : Int32) by decide), if_neg (show ¬ nI 6 = (2 : Int32) by decide), if_neg (show ¬ nI 6 = (3 : Int32) by decide), if_neg (show ¬ nI 6 = (4 : Int32) by decide), if_neg (show ¬ nI 6 = (5 : Int32) by decide), if_pos (show nI 6 = (6 : Int32) from rfl), gI_n hb (by decide), nI_clamp (by omega)]
theorem st_7 {N : Nat} (hN : 300 ≤ N) {b g m : Nat} (hb : b < 8) (hg : g < 32) (hm : m < 16) (e : Int32) (mb : Nat → Int32) (at' : Int32) {made came ho nm ln : Nat → Int32} {rs : Nat → Nat → Int32} {bx sg rw : Nat → Int32} (hR : RelM m made came) (hX : RelX ho nm ln rs bx sg rw) : StepX N 7 b g m e mb at' made came ho nm ln rs bx sg rw := by
  refine Or.inl ⟨6, by omega, by omega, rfl, bx, sg, rw, ?_⟩
  rw [bm_7 N hb hg e mb at' (nI m) came bx sg rw]
  unfold d_Mod_boxed_J118
  rw [if_neg (show ¬ nI 7 = (0 : Int32) by decide), if_neg (show ¬ nI 7 = (1 : Int32) by decide), if_neg (show ¬ nI 7 = (2 : Int32) by decide), if_neg (show ¬ nI 7 = (3 : Int32) by decide), if_neg (show ¬ nI 7 = (4 : Int32) by decide), if_neg (show ¬ nI 7 = (5 : Int32) by decide), if_neg (show ¬ nI 7 = (6 : Int32) by decide)]
  rfl
theorem st_1 {N : Nat} (hN : 300 ≤ N) {b g m : Nat} (hb : b < 8) (hg : g < 32) (hm : m < 16) (e : Int32) (mb : Nat → Int32) (at' : Int32) {made came ho nm ln : Nat → Int32} {rs : Nat → Nat → Int32} {bx sg rw : Nat → Int32} (hR : RelM m made came) (hX : RelX ho nm ln rs bx sg rw) : StepX N 1 b g m e mb at' made came ho nm ln rs bx sg rw := by
  have ht : d_Boxes_thrownBy N (nI 1) (nI b) (nI g) ho ln = if (0 : Int32) ≤ nI (g % 8) - (2 : Int32) then some 0 else some 5 := by
    unfold d_Boxes_thrownBy d_Boxes_rowLength
    rw [if_pos (show nI 1 = (1 : Int32) from rfl), Option.bind_some, e8 (by omega)]
  by_cases h2 : 2 ≤ g % 8
  · have sb : nI (g % 8) - (2 : Int32) = nI (g % 8 - 2) := pk_sub (b := 2) h2
    have c : (0 : Int32) ≤ nI (g % 8 - 2) := nI_le (a := 0) (by omega) (by omega)
    rw [sb] at ht
    obtain ⟨rs', f1, f2, f3, f4⟩ := put_loop N hb (upd ho b 2) (upd ln b (nI (g % 8 - 2))) 5 0 N rs (by omega) (by omega)
    obtain ⟨rr, k1, k2, k3⟩ := mk_loop N hb 0 (upd bx b (nI (g % 8 - 2))) 8 0 N rw (by omega) (by omega)
    rw [E0] at f1 k1
    refine Or.inr ⟨by rw [ht, if_pos c], m, made, came, upd ho b 2, nm, upd ln b (nI (g % 8 - 2)), rs', upd bx b (nI (g % 8 - 2)), sg, rr, by omega, hR, ?_, ?_, ?_⟩
    · refine RelX_one hX hb (fun c h => ⟨upd_ne _ _ h, rfl, upd_ne _ _ h, f2 c h, upd_ne _ _ h, rfl, fun j hj => k2 _ (by omega)⟩) (Or.inr (Or.inr ⟨upd_at _ _ _, g % 8 - 2, by omega, upd_at _ _ _, upd_at _ _ _, fun j hj => ⟨0, by omega, f4 j (by omega) hj, k3 _ (by omega) (by omega)⟩⟩))
    · unfold d_Dec_doOperation d_Boxes_rowLength d_Boxes_putRow
      rw [if_neg (show ¬ nI 1 = (0 : Int32) by decide), if_pos (show nI 1 = (1 : Int32) from rfl), Option.bind_some, e8 (by omega), sb, gI_n hb (by decide), nI_clamp (by omega), f1, Option.bind_some, Option.bind_some]
    · rw [bm_1 N hb hg e mb at' (nI m) came bx sg rw]
      unfold d_Mod_boxed_J118 d_Mod_makeRow
      rw [if_neg (show ¬ nI 1 = (0 : Int32) by decide), if_pos (show nI 1 = (1 : Int32) from rfl), e8 (by omega), sb, if_pos c, gI_n hb (by decide), nI_clamp (by omega), k1, Option.bind_some, Option.bind_some]
  · have hh : g % 8 = 0 ∨ g % 8 = 1 := by omega
    have c : ¬ (0 : Int32) ≤ nI (g % 8) - (2 : Int32) := by
      rcases hh with h | h
      · rw [h]
        decide
      · rw [h]
        decide
    refine Or.inl ⟨5, by omega, by omega, by rw [ht, if_neg c]; rfl, bx, sg, rw, ?_⟩
    rw [bm_1 N hb hg e mb at' (nI m) came bx sg rw]
    unfold d_Mod_boxed_J118 d_Mod_makeRow
    rw [if_neg (show ¬ nI 1 = (0 : Int32) by decide), if_pos (show nI 1 = (1 : Int32) from rfl), e8 (by omega), if_neg c]
    rfl
theorem un_empty (N : Nat) {b : Nat} (hb : b < 8) (x : Int32) {ho : Nat → Int32} (h : ho b = 0) : d_Boxes_thrownUnless N (nI b) x ho = some 3 := by
  unfold d_Boxes_thrownUnless
  rw [gI_n hb (by decide), nI_clamp (by omega), if_pos h]
theorem un_is (N : Nat) {b : Nat} (hb : b < 8) {x : Int32} (hx : ¬ x = 0) {ho : Nat → Int32} (h : ho b = x) : d_Boxes_thrownUnless N (nI b) x ho = some 0 := by
  unfold d_Boxes_thrownUnless
  rw [gI_n hb (by decide), nI_clamp (by omega), if_neg (fun q => hx (h ▸ q)), if_pos h]
theorem un_not (N : Nat) {b : Nat} (hb : b < 8) {x : Int32} {ho : Nat → Int32} (h0 : ¬ ho b = 0) (h : ¬ ho b = x) : d_Boxes_thrownUnless N (nI b) x ho = some 4 := by
  unfold d_Boxes_thrownUnless
  rw [gI_n hb (by decide), nI_clamp (by omega), if_neg h0, if_neg h]
theorem st_2 {N : Nat} (hN : 300 ≤ N) {b g m : Nat} (hb : b < 8) (hg : g < 32) (hm : m < 16) (e : Int32) (mb : Nat → Int32) (at' : Int32) {made came ho nm ln : Nat → Int32} {rs : Nat → Nat → Int32} {bx sg rw : Nat → Int32} (hR : RelM m made came) (hX : RelX ho nm ln rs bx sg rw) : StepX N 2 b g m e mb at' made came ho nm ln rs bx sg rw := by
  have ht : d_Boxes_thrownBy N (nI 2) (nI b) (nI g) ho ln = (d_Boxes_thrownUnless N (nI b) 1 ho).bind (fun o => some o) := by
    unfold d_Boxes_thrownBy
    rw [if_neg (show ¬ nI 2 = (1 : Int32) by decide), if_pos (show nI 2 = (2 : Int32) from rfl)]
  rcases hX b hb with ⟨h1, h2⟩ | ⟨h1, h2, x, hx, h3, h4⟩ | ⟨h1, l, h2, h3, h4, h5⟩
  · exact Or.inl ⟨3, by omega, by omega, by rw [ht, un_empty N hb _ h1]; rfl, bx, sg, rw, by rw [bm_2_empty N hb hg e mb at' (nI m) came bx sg rw h2]; rfl⟩
  · refine Or.inr ⟨by rw [ht, un_is N hb (by decide) h1]; rfl, m + 1, upd made m (nI x), upd came m (nI x), ho, nm, ln, rs, bx, sg, rw, by omega, RelM_add hR hx, hX, ?_, ?_⟩
    · unfold d_Dec_doOperation
      rw [if_neg (show ¬ nI 2 = (0 : Int32) by decide), if_neg (show ¬ nI 2 = (1 : Int32) by decide), if_pos (show nI 2 = (2 : Int32) from rfl), gI_n hb (by decide), nI_clamp (by omega), h3, add_ok N _ hm, Option.bind_some]
    · rw [bm_2_number N hb hg e mb at' (nI m) came bx sg rw h2]
      unfold d_Mod_boxed_J118
      rw [if_neg (show ¬ nI 2 = (0 : Int32) by decide), if_neg (show ¬ nI 2 = (1 : Int32) by decide), if_pos (show nI 2 = (2 : Int32) from rfl), gI_n hb (by decide), nI_clamp (by omega), h4, give_ok N _ hm, Option.bind_some]
  · exact Or.inl ⟨4, by omega, by omega, by rw [ht, un_not N hb (by rw [h1]; decide) (by rw [h1]; decide)]; rfl, bx, sg, rw, by rw [bm_2_row N hb hg e mb at' (nI m) came bx sg rw h2 h4]; rfl⟩
theorem st_3 {N : Nat} (hN : 300 ≤ N) {b g m : Nat} (hb : b < 8) (hg : g < 32) (hm : m < 16) (e : Int32) (mb : Nat → Int32) (at' : Int32) {made came ho nm ln : Nat → Int32} {rs : Nat → Nat → Int32} {bx sg rw : Nat → Int32} (hR : RelM m made came) (hX : RelX ho nm ln rs bx sg rw) : StepX N 3 b g m e mb at' made came ho nm ln rs bx sg rw := by
  have ht : d_Boxes_thrownBy N (nI 3) (nI b) (nI g) ho ln = (d_Boxes_thrownUnless N (nI b) 2 ho).bind (fun o => some o) := by
    unfold d_Boxes_thrownBy
    rw [if_neg (show ¬ nI 3 = (1 : Int32) by decide), if_neg (show ¬ nI 3 = (2 : Int32) by decide), if_pos (show nI 3 = (3 : Int32) from rfl)]
  rcases hX b hb with ⟨h1, h2⟩ | ⟨h1, h2, x, hx, h3, h4⟩ | ⟨h1, l, h2, h3, h4, h5⟩
  · exact Or.inl ⟨3, by omega, by omega, by rw [ht, un_empty N hb _ h1]; rfl, bx, sg, rw, by rw [bm_3_empty N hb hg e mb at' (nI m) came bx sg rw h2]; rfl⟩
  · exact Or.inl ⟨4, by omega, by omega, by rw [ht, un_not N hb (by rw [h1]; decide) (by rw [h1]; decide)]; rfl, bx, sg, rw, by rw [bm_3_number N hb hg e mb at' (nI m) came bx sg rw h2]; rfl⟩
  · refine Or.inr ⟨by rw [ht, un_is N hb (by decide) h1]; rfl, m + 1, upd made m (nI l), upd came m (nI l), ho, nm, ln, rs, bx, sg, rw, by omega, RelM_add hR (by omega), hX, ?_, ?_⟩
    · unfold d_Dec_doOperation
      rw [if_neg (show ¬ nI 3 = (0 : Int32) by decide), if_neg (show ¬ nI 3 = (1 : Int32) by decide), if_neg (show ¬ nI 3 = (2 : Int32) by decide), if_pos (show nI 3 = (3 : Int32) from rfl), gI_n hb (by decide), nI_clamp (by omega), h3, add_ok N _ hm, Option.bind_some]
    · rw [bm_3_row N hb hg e mb at' (nI m) came bx sg rw h2 h4]
      unfold d_Mod_boxed_J118
      rw [if_neg (show ¬ nI 3 = (0 : Int32) by decide), if_neg (show ¬ nI 3 = (1 : Int32) by decide), if_neg (show ¬ nI 3 = (2 : Int32) by decide), if_pos (show nI 3 = (3 : Int32) from rfl), gI_n hb (by decide), nI_clamp (by omega), h4, give_ok N _ hm, Option.bind_some]
theorem in_row (N : Nat) {b g l : Nat} (hb : b < 8) (hg : g < 32) (hl : l ≤ 5) {ho ln : Nat → Int32} (h1 : ho b = 2) (h3 : ln b = nI l) : d_Boxes_thrownUnlessInRow N (nI b) (nI g) ho ln = if g < l then some 0 else some 1 := by
  unfold d_Boxes_thrownUnlessInRow
  rw [un_is N hb (by decide) h1, Option.bind_some, if_pos rfl, gI_n hb (by decide), nI_clamp (by omega), h3]
  by_cases h : g < l
  · rw [if_pos h, if_neg (show ¬ nI l ≤ nI g from nI_ge h (by omega))]
  · rw [if_neg h, if_pos (show nI l ≤ nI g from nI_le (by omega) (by omega))]
theorem in_bad (N : Nat) {b : Nat} (g : Int32) {ho ln : Nat → Int32} {w : Int32} (hw : ¬ w = 0) (h : d_Boxes_thrownUnless N (nI b) 2 ho = some w) : d_Boxes_thrownUnlessInRow N (nI b) g ho ln = some w := by
  unfold d_Boxes_thrownUnlessInRow
  rw [h, Option.bind_some, if_neg hw]
theorem ix8 (b g : Nat) : (8 : Int32) * nI b + nI g = nI (8 * b + g) := by
  rw [show (8 : Int32) * nI b = nI (8 * b) from pk_mul 8 b, nI_add]
theorem st_4 {N : Nat} (hN : 300 ≤ N) {b g m : Nat} (hb : b < 8) (hg : g < 32) (hm : m < 16) (e : Int32) (mb : Nat → Int32) (at' : Int32) {made came ho nm ln : Nat → Int32} {rs : Nat → Nat → Int32} {bx sg rw : Nat → Int32} (hR : RelM m made came) (hX : RelX ho nm ln rs bx sg rw) : StepX N 4 b g m e mb at' made came ho nm ln rs bx sg rw := by
  have ht : d_Boxes_thrownBy N (nI 4) (nI b) (nI g) ho ln = (d_Boxes_thrownUnlessInRow N (nI b) (nI g) ho ln).bind (fun o => some o) := by
    unfold d_Boxes_thrownBy
    rw [if_neg (show ¬ nI 4 = (1 : Int32) by decide), if_neg (show ¬ nI 4 = (2 : Int32) by decide), if_neg (show ¬ nI 4 = (3 : Int32) by decide), if_pos (show nI 4 = (4 : Int32) from rfl)]
  rcases hX b hb with ⟨h1, h2⟩ | ⟨h1, h2, x, hx, h3, h4⟩ | ⟨h1, l, h2, h3, h4, h5⟩
  · exact Or.inl ⟨3, by omega, by omega, by rw [ht, in_bad N _ (by decide) (un_empty N hb _ h1)]; rfl, bx, sg, rw, by rw [bm_4_empty N hb hg e mb at' (nI m) came bx sg rw h2]; rfl⟩
  · exact Or.inl ⟨4, by omega, by omega, by rw [ht, in_bad N _ (by decide) (un_not N hb (by rw [h1]; decide) (by rw [h1]; decide))]; rfl, bx, sg, rw, by rw [bm_4_number N hb hg e mb at' (nI m) came bx sg rw h2]; rfl⟩
  · rw [in_row N hb hg h2 h1 h3] at ht
    by_cases hgl : g < l
    · rw [if_pos hgl] at ht
      obtain ⟨y, hy, y1, y2⟩ := h5 g (by omega)
      have wr : ∀ s : Nat, s < 256 → RelX ho nm ln (upd2 rs b g (nI s)) bx sg (upd rw (8 * b + g) (nI s)) := fun s hs => by
        refine RelX_one hX hb (fun c h => ⟨rfl, rfl, rfl, va_up_ne _ _ h, rfl, rfl, fun j hj => upd_ne _ _ (by omega)⟩) (Or.inr (Or.inr ⟨h1, l, h2, h3, h4, fun j hj => ?_⟩))
        by_cases q : j = g
        · subst q
          refine ⟨s, hs, ?_, upd_at _ _ _⟩
          show va_up rs b (upd (rs b) j (nI s)) b j = _
          rw [va_up_self, upd_at]
        · obtain ⟨y, hy, y1, y2⟩ := h5 j hj
          refine ⟨y, hy, ?_, ?_⟩
          · show va_up rs b (upd (rs b) g (nI s)) b j = _
            rw [va_up_self, upd_ne _ _ q, y1]
          · rw [upd_ne _ _ (by omega), y2]
      by_cases h0 : m = 0
      · subst h0
        refine Or.inr ⟨by rw [ht]; rfl, 0, made, came, ho, nm, ln, upd2 rs b g (nI 0), bx, sg, upd rw (8 * b + g) (nI 0), by omega, hR, wr 0 (by omega), ?_, ?_⟩
        · unfold d_Dec_doOperation d_Dec_sampleBefore
          rw [if_neg (show ¬ nI 4 = (0 : Int32) by decide), if_neg (show ¬ nI 4 = (1 : Int32) by decide), if_neg (show ¬ nI 4 = (2 : Int32) by decide), if_neg (show ¬ nI 4 = (3 : Int32) by decide), if_pos (show nI 4 = (4 : Int32) from rfl), gI_n hb (by decide), if_pos (show nI 0 ≤ (0 : Int32) by decide), Option.bind_some, gI_n (show g < 5 by omega) (by decide), nI_clamp (by omega), nI_clamp (by omega)]
          rfl
        · rw [bm_4_in N hb hg e mb at' (nI 0) came bx sg rw h2 h4 hgl]
          unfold d_Mod_boxed_J118
          rw [if_neg (show ¬ nI 4 = (0 : Int32) by decide), if_neg (show ¬ nI 4 = (1 : Int32) by decide), if_neg (show ¬ nI 4 = (2 : Int32) by decide), if_neg (show ¬ nI 4 = (3 : Int32) by decide), if_pos (show nI 4 = (4 : Int32) from rfl), if_pos (show (0 : Int32) = 0 from rfl), if_pos E0, ix8, gI_n (by omega) (by decide), nI_clamp (by omega)]
          rfl
      · obtain ⟨s, hs, q1, q2⟩ := hR (m - 1) (by omega)
        refine Or.inr ⟨by rw [ht]; rfl, m, made, came, ho, nm, ln, upd2 rs b g (nI s), bx, sg, upd rw (8 * b + g) (nI s), by omega, hR, wr s hs, ?_, ?_⟩
        · unfold d_Dec_doOperation d_Dec_sampleBefore
          rw [if_neg (show ¬ nI 4 = (0 : Int32) by decide), if_neg (show ¬ nI 4 = (1 : Int32) by decide), if_neg (show ¬ nI 4 = (2 : Int32) by decide), if_neg (show ¬ nI 4 = (3 : Int32) by decide), if_pos (show nI 4 = (4 : Int32) from rfl), gI_n hb (by decide), if_neg (show ¬ nI m ≤ (0 : Int32) from fun q => h0 (by have := (le0 (by omega)).mp q; omega)), s1 (by omega), gI_n (show m - 1 < 16 by omega) (by decide), Option.bind_some, gI_n (show g < 5 by omega) (by decide), nI_clamp (show m - 1 < 2 ^ 31 by omega), nI_clamp (show b < 2 ^ 31 by omega), nI_clamp (show g < 2 ^ 31 by omega), q1]
        · rw [bm_4_in N hb hg e mb at' (nI m) came bx sg rw h2 h4 hgl]
          unfold d_Mod_boxed_J118
          rw [if_neg (show ¬ nI 4 = (0 : Int32) by decide), if_neg (show ¬ nI 4 = (1 : Int32) by decide), if_neg (show ¬ nI 4 = (2 : Int32) by decide), if_neg (show ¬ nI 4 = (3 : Int32) by decide), if_pos (show nI 4 = (4 : Int32) from rfl), if_pos (show (0 : Int32) = 0 from rfl), if_neg (show ¬ nI m = (0 : Int32) from fun q => h0 ((eq0 (by omega)).mp q)), s1 (by omega), gI_n (show m - 1 < 16 by omega) (by decide), ix8, gI_n (show 8 * b + g < 64 by omega) (by decide), nI_clamp (show m - 1 < 2 ^ 31 by omega), nI_clamp (show 8 * b + g < 2 ^ 31 by omega), q2]
    · rw [if_neg hgl] at ht
      exact Or.inl ⟨1, by omega, by omega, by rw [ht]; rfl, bx, sg, rw, by rw [bm_4_out N hb hg e mb at' (nI m) came bx sg rw h2 h4 hgl]; rfl⟩
theorem st_5 {N : Nat} (hN : 300 ≤ N) {b g m : Nat} (hb : b < 8) (hg : g < 32) (hm : m < 16) (e : Int32) (mb : Nat → Int32) (at' : Int32) {made came ho nm ln : Nat → Int32} {rs : Nat → Nat → Int32} {bx sg rw : Nat → Int32} (hR : RelM m made came) (hX : RelX ho nm ln rs bx sg rw) : StepX N 5 b g m e mb at' made came ho nm ln rs bx sg rw := by
  have ht : d_Boxes_thrownBy N (nI 5) (nI b) (nI g) ho ln = (d_Boxes_thrownUnlessInRow N (nI b) (nI g) ho ln).bind (fun o => some o) := by
    unfold d_Boxes_thrownBy
    rw [if_neg (show ¬ nI 5 = (1 : Int32) by decide), if_neg (show ¬ nI 5 = (2 : Int32) by decide), if_neg (show ¬ nI 5 = (3 : Int32) by decide), if_neg (show ¬ nI 5 = (4 : Int32) by decide), if_pos (show nI 5 = (5 : Int32) from rfl)]
  rcases hX b hb with ⟨h1, h2⟩ | ⟨h1, h2, x, hx, h3, h4⟩ | ⟨h1, l, h2, h3, h4, h5⟩
  · exact Or.inl ⟨3, by omega, by omega, by rw [ht, in_bad N _ (by decide) (un_empty N hb _ h1)]; rfl, bx, sg, rw, by rw [bm_5_empty N hb hg e mb at' (nI m) came bx sg rw h2]; rfl⟩
  · exact Or.inl ⟨4, by omega, by omega, by rw [ht, in_bad N _ (by decide) (un_not N hb (by rw [h1]; decide) (by rw [h1]; decide))]; rfl, bx, sg, rw, by rw [bm_5_number N hb hg e mb at' (nI m) came bx sg rw h2]; rfl⟩
  · rw [in_row N hb hg h2 h1 h3] at ht
    by_cases hgl : g < l
    · rw [if_pos hgl] at ht
      obtain ⟨y, hy, y1, y2⟩ := h5 g (by omega)
      refine Or.inr ⟨by rw [ht]; rfl, m + 1, upd made m (nI y), upd came m (nI y), ho, nm, ln, rs, bx, sg, rw, by omega, RelM_add hR hy, hX, ?_, ?_⟩
      · unfold d_Dec_doOperation
        rw [if_neg (show ¬ nI 5 = (0 : Int32) by decide), if_neg (show ¬ nI 5 = (1 : Int32) by decide), if_neg (show ¬ nI 5 = (2 : Int32) by decide), if_neg (show ¬ nI 5 = (3 : Int32) by decide), if_neg (show ¬ nI 5 = (4 : Int32) by decide), if_pos (show nI 5 = (5 : Int32) from rfl), gI_n hb (by decide), gI_n (show g < 5 by omega) (by decide), nI_clamp (by omega), nI_clamp (by omega), y1, add_ok N _ hm, Option.bind_some]
      · rw [bm_5_in N hb hg e mb at' (nI m) came bx sg rw h2 h4 hgl]
        unfold d_Mod_boxed_J118
        rw [if_neg (show ¬ nI 5 = (0 : Int32) by decide), if_neg (show ¬ nI 5 = (1 : Int32) by decide), if_neg (show ¬ nI 5 = (2 : Int32) by decide), if_neg (show ¬ nI 5 = (3 : Int32) by decide), if_neg (show ¬ nI 5 = (4 : Int32) by decide), if_pos (show nI 5 = (5 : Int32) from rfl), if_pos rfl, ix8, gI_n (by omega) (by decide), nI_clamp (by omega), y2, give_ok N _ hm, Option.bind_some]
    · rw [if_neg hgl] at ht
      exact Or.inl ⟨1, by omega, by omega, by rw [ht]; rfl, bx, sg, rw, by rw [bm_5_out N hb hg e mb at' (nI m) came bx sg rw h2 h4 hgl]; rfl⟩
theorem st_all {N : Nat} (hN : 300 ≤ N) {o b g m : Nat} (ho8 : o < 8) (hb : b < 8) (hg : g < 32) (hm : m < 16) (e : Int32) (mb : Nat → Int32) (at' : Int32) {made came ho nm ln : Nat → Int32} {rs : Nat → Nat → Int32} {bx sg rw : Nat → Int32} (hR : RelM m made came) (hX : RelX ho nm ln rs bx sg rw) : StepX N o b g m e mb at' made came ho nm ln rs bx sg rw := by
  rcases (show o = 0 ∨ o = 1 ∨ o = 2 ∨ o = 3 ∨ o = 4 ∨ o = 5 ∨ o = 6 ∨ o = 7 by omega) with rfl | rfl | rfl | rfl | rfl | rfl | rfl | rfl
  · exact st_0 hN hb hg hm e mb at' hR hX
  · exact st_1 hN hb hg hm e mb at' hR hX
  · exact st_2 hN hb hg hm e mb at' hR hX
  · exact st_3 hN hb hg hm e mb at' hR hX
  · exact st_4 hN hb hg hm e mb at' hR hX
  · exact st_5 hN hb hg hm e mb at' hR hX
  · exact st_6 hN hb hg hm e mb at' hR hX
  · exact st_7 hN hb hg hm e mb at' hR hX
theorem p_c3 {N k e : Nat} {mb hd nu co si gu : Nat → Int32} {dec fai : Int32} {re mv mt : Nat → Int32} (hN : 300 ≤ N) {b z : Nat} (hz : z ≤ 64) (he : e = b + z) (he2 : e ≤ 1200) (hk : k < 16) {dt : Nat → Int32} (hD : RelD b z dt mb) (hc : co k = nI 3) : ∀ (q i m n1 n2 : Nat) (made came ho nm ln : Nat → Int32) (rs : Nat → Nat → Int32) (bx sg rw : Nat → Int32), i + q = z → q < n1 → q + 1 < n2 → m ≤ 16 → RelM m made came → RelX ho nm ln rs bx sg rw → ∃ (w : Nat) (c' at' mn' : Int32) (made' came' ho' nm' ln' : Nat → Int32) (rs' : Nat → Nat → Int32) (bx' sg' rw' : Nat → Int32), w ≤ 6 ∧ (w = 0 → RelM 16 made' came') ∧ d_Dec_useBoxes_L9 N (nI z) dt n1 (nI i) (nI m) made ho nm ln rs = some (nI w, c', made', ho', nm', ln', rs') ∧ d_Mod_open_L60 N (nI k) mb hd nu co si gu n2 dec fai (nI (b + i)) (nI e) (nI m) 0 re mv mt came bx sg rw = some (dec, fai, at', nI e, mn', nI w, re, mv, mt, came', bx', sg', rw') := by
  intro q
  induction q using Nat.strongRecOn with
  | ind q ih =>
    intro i m n1 n2 made came ho nm ln rs bx sg rw hi h1 h2 hm hR hX
    obtain ⟨n1, rfl⟩ : ∃ q, n1 = q + 1 := ⟨n1 - 1, by omega⟩
    obtain ⟨n2, rfl⟩ : ∃ q, n2 = q + 2 := ⟨n2 - 2, by omega⟩
    rw [d_Dec_useBoxes_L9, a1]
    by_cases h16 : m = 16
    · subst h16
      rw [end_yes, full_yes, L60_full, Option.bind_some, Option.bind_some, if_neg ne10, ite_self]
      exact ⟨0, _, _, _, _, _, _, _, _, _, _, _, _, by omega, fun _ => hR, rfl, rfl⟩
    have hm' : m < 16 := by omega
    rw [end_no N hm', full_no N hm', Option.bind_some, Option.bind_some, if_pos (show (0 : Int32) = 0 from rfl), L60_c3 N k e mb hd nu co si gu dec fai re mv mt (n2 + 1) _ came bx sg rw (m := m) hm' hk hc]
    by_cases hs : z ≤ i + 1
    · obtain ⟨at2, ha⟩ := boxed_short (N := N) (b := b) (z := z) (e := e) (i := i) he he2 (by omega) hs (nI m) mb came bx sg rw
      rw [if_pos (show nI z ≤ nI (i + 1) from nI_le hs (by omega)), ha, Option.bind_some]
      dsimp only
      rw [L60_bad N k e mb hd nu co si gu dec fai re mv mt n2 _ _ ne10]
      exact ⟨1, _, _, _, _, _, _, _, _, _, _, _, _, by omega, fun e => absurd e (by omega), rfl, rfl⟩
    rw [if_neg (show ¬ nI z ≤ nI (i + 1) from nI_ge (by omega) (by omega)), gI_n (show i < 64 by omega) (by decide), gI_n (show i + 1 < 64 by omega) (by decide), nI_clamp (show i < 2 ^ 31 by omega), nI_clamp (show i + 1 < 2 ^ 31 by omega)]
    obtain ⟨v, hv, e1, f1⟩ := hD i (by omega)
    obtain ⟨u, hu, e2, f2⟩ := hD (i + 1) (by omega)
    rw [show b + (i + 1) = b + i + 1 from rfl] at f2
    rw [e1, e2, e8 (show v < 2 ^ 31 by omega), e8 (show u < 2 ^ 31 by omega), dv8 (by omega), boxed_eq N (a := b + i) (e := e) (v := v) (u := u) (by omega) he2 hv hu f1 f2]
    rcases st_all hN (o := v % 8) (b := u % 8) (g := u / 8) (m := m) (by omega) (by omega) (by omega) hm' (nI e) mb (nI (b + i + 2)) hR hX with ⟨w, hw, hw0, t1, bx', sg', rw', t2⟩ | ⟨t1, m', made', came', ho', nm', ln', rs', bx', sg', rw', hm2, hR', hX', t2, t3⟩
    · have cw : ¬ nI w = (0 : Int32) := fun q => hw0 ((eq0 (by omega)).mp q)
      rw [t1, t2, Option.bind_some, Option.bind_some, if_neg cw]
      dsimp only
      rw [L60_bad N k e mb hd nu co si gu dec fai re mv mt n2 _ _ cw]
      exact ⟨w, _, _, _, _, _, _, _, _, _, _, _, _, hw, fun e => absurd e hw0, rfl, rfl⟩
    · rw [t1, t2, t3, Option.bind_some, Option.bind_some, Option.bind_some, if_pos rfl]
      dsimp only
      rw [show nI i + (2 : Int32) = nI (i + 2) from nI_add i 2]
      exact ih (q - 2) (by omega) (i + 2) m' n1 (n2 + 1) _ _ _ _ _ _ _ _ _ (by omega) (by omega) (by omega) hm2 hR' hX'

