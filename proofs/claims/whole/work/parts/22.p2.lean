/-! pure: filling -/
theorem e16 {i : Nat} (h : i < 2 ^ 31) : nI i - nI i / (16 : Int32) * (16 : Int32) = nI (i % 16) := pk_rem (d := 16) h (by decide) (by decide)
theorem s1 {i : Nat} (h : 1 ≤ i) : nI i - (1 : Int32) = nI (i - 1) := pk_sub (b := 1) h
theorem s16 {i : Nat} (h : 16 ≤ i) : nI i - (16 : Int32) = nI (i - 16) := pk_sub (b := 16) h
theorem eq0 {i : Nat} (h : i < 2 ^ 31) : nI i = (0 : Int32) ↔ i = 0 := nI_eq (b := 0) h (by decide)
theorem le0 {i : Nat} (h : i < 2 ^ 31) : nI i ≤ (0 : Int32) ↔ i ≤ 0 := nI_leI (b := 0) h (by decide)
theorem ge16 {i : Nat} (h : i < 2 ^ 31) : (16 : Int32) ≤ nI i ↔ 16 ≤ i := nI_leI (a := 16) (by decide) h
theorem lt16 {i : Nat} (h : i < 2 ^ 31) : nI i < (16 : Int32) ↔ i < 16 := nI_ltI (b := 16) h (by decide)
theorem p_left {N i : Nat} (hi : i < 256) (v : Nat → Int32) : d_Map_valueLeftOf N (nI i) v = if i % 16 = 0 then some (-1) else some (v (i - 1)) := by
  unfold d_Map_valueLeftOf
  rw [e16 (by omega)]
  by_cases h : i % 16 = 0
  · rw [if_pos h, if_pos ((eq0 (by omega)).mpr h)]
  · rw [if_neg h, if_neg (fun e => h ((eq0 (by omega)).mp e)), s1 (by omega), gI_n (by omega) (by decide), nI_clamp (by omega)]
theorem p_above {N i : Nat} (hi : i < 256) (v : Nat → Int32) : d_Map_valueAbove N (nI i) v = if i < 16 then some (-1) else some (v (i - 16)) := by
  unfold d_Map_valueAbove
  by_cases h : i < 16
  · rw [if_pos h, if_neg (fun e => Nat.not_le.mpr h ((ge16 (by omega)).mp e))]
  · rw [if_neg h, if_pos ((ge16 (by omega)).mpr (by omega)), s16 (by omega), gI_n (by omega) (by decide), nI_clamp (by omega)]
theorem p_mean {N i : Nat} (hi : i < 256) {v mv : Nat → Int32} (hv : ∀ j, j < i → ∃ x : Nat, x < 256 ∧ v j = nI x ∧ mv j = nI x) : ∃ x : Nat, x < 256 ∧ ((d_Map_valueLeftOf N (nI i) v).bind (fun o2 => (d_Map_valueAbove N (nI i) v).bind (fun o3 => (d_Map_meanOf N o2 o3).bind (fun o4 => some o4)))) = some (nI x) ∧ d_Mod_meant N (nI i) mv = some (nI x) := by
  rw [p_left hi, p_above hi]
  unfold d_Mod_meant
  rw [e16 (by omega)]
  by_cases h1 : i % 16 = 0
  · rw [if_pos h1, if_pos ((le0 (by omega)).mpr (by omega))]
    by_cases h2 : i < 16
    · rw [if_pos h2, if_pos ((lt16 (by omega)).mpr h2)]
      exact ⟨128, by decide, rfl, rfl⟩
    · rw [if_neg h2, if_neg (show ¬ nI i < (16 : Int32) from fun e => h2 ((lt16 (by omega)).mp e)), s16 (by omega), gI_n (by omega) (by decide), nI_clamp (by omega)]
      obtain ⟨x, hx, e1, e2⟩ := hv (i - 16) (by omega)
      refine ⟨x, hx, ?_, ?_⟩
      · rw [e1, Option.bind_some, Option.bind_some]
        unfold d_Map_meanOf
        rw [if_pos rfl, if_neg (nI_m1 (by omega)), if_pos rfl]
        rfl
      · rw [e2]
        exact congrArg some ((nI_add 0 x).trans (by rw [Nat.zero_add]))
  · have c9 : ¬ nI (i % 16) ≤ (0 : Int32) := fun e => h1 (by have := (le0 (by omega)).mp e; omega)
    rw [if_neg h1, if_neg c9]
    obtain ⟨x, hx, e1, e2⟩ := hv (i - 1) (by omega)
    by_cases h2 : i < 16
    · rw [if_pos h2, if_pos ((lt16 (by omega)).mpr h2), s1 (by omega), gI_n (by omega) (by decide), nI_clamp (by omega)]
      refine ⟨x, hx, ?_, ?_⟩
      · rw [e1, Option.bind_some, Option.bind_some]
        unfold d_Map_meanOf
        rw [if_neg (nI_m1 (by omega)), if_neg (nI_m1 (by omega)), if_pos rfl]
        rfl
      · rw [e2]
        exact congrArg some (nI_add x 0)
    · rw [if_neg h2, if_neg (show ¬ nI i < (16 : Int32) from fun e => h2 ((lt16 (by omega)).mp e)), s1 (by omega), gI_n (by omega) (by decide), s16 (by omega), gI_n (by omega) (by decide), nI_clamp (by omega), nI_clamp (by omega)]
      obtain ⟨y, hy, f1, f2⟩ := hv (i - 16) (by omega)
      have hd : (nI x + nI y) / (2 : Int32) = nI ((x + y) / 2) := by
        rw [nI_add]
        exact pk_div (d := 2) (by omega) (by decide) (by decide)
      refine ⟨(x + y) / 2, by omega, ?_, ?_⟩
      · rw [e1, f1, Option.bind_some, Option.bind_some]
        unfold d_Map_meanOf
        rw [if_neg (nI_m1 (by omega)), if_neg (nI_m1 (by omega)), if_neg (nI_m1 (by omega)), hd]
        rfl
      · rw [e2, f2, hd]
/-- what the reference lays down at i, by the rule -/
def d_modval (N : Nat) (rule i : Int32) (mv : Nat → Int32) (k : Int32 → Option (Int32 × Int32 × (Nat → Int32) × (Nat → Int32))) : Option (Int32 × Int32 × (Nat → Int32) × (Nat → Int32)) :=
  if rule = 0 then (d_Mod_meant N i mv).bind k else if rule = (1 : Int32) then k 255 else if (16 : Int32) ≤ i then gI (i - (16 : Int32)) 256 (k (mv (i - (16 : Int32)).toNatClampNeg)) else k 255
theorem p_val {N i r : Nat} (hi : i < 256) (hr : r ≤ 2) {v mv : Nat → Int32} (hv : ∀ j, j < i → ∃ x : Nat, x < 256 ∧ v j = nI x ∧ mv j = nI x) : ∃ x : Nat, x < 256 ∧ d_Map_valueByRule N (nI i) (nI r) v = some (nI x) ∧ ∀ k, d_modval N (nI r) (nI i) mv k = k (nI x) := by
  unfold d_Map_valueByRule d_modval
  by_cases h0 : r = 0
  · obtain ⟨x, hx, e1, e2⟩ := p_mean (N := N) hi hv
    have c0 : nI r = (0 : Int32) := (eq0 (by omega)).mpr h0
    exact ⟨x, hx, by rw [if_pos c0]; exact e1, fun k => by rw [if_pos c0, e2]; rfl⟩
  · have c0 : ¬ nI r = (0 : Int32) := fun e => h0 ((eq0 (by omega)).mp e)
    by_cases h1 : r = 1
    · subst h1
      exact ⟨255, by decide, by rw [if_neg c0, if_pos E1]; rfl, fun k => by rw [if_neg c0, if_pos E1]; rfl⟩
    · have c1 : ¬ nI r = (1 : Int32) := fun e => h1 ((nI_eq (b := 1) (by omega) (by decide)).mp e)
      by_cases h2 : i < 16
      · have c2 : ¬ (16 : Int32) ≤ nI i := fun e => Nat.not_le.mpr h2 ((ge16 (by omega)).mp e)
        exact ⟨255, by decide, by rw [if_neg c0, if_neg c1, if_neg c2]; rfl, fun k => by rw [if_neg c0, if_neg c1, if_neg c2]; rfl⟩
      · have c2 : (16 : Int32) ≤ nI i := (ge16 (by omega)).mpr (by omega)
        obtain ⟨x, hx, e1, e2⟩ := hv (i - 16) (by omega)
        refine ⟨x, hx, ?_, fun k => ?_⟩
        · rw [if_neg c0, if_neg c1, if_pos c2, p_above hi, if_neg h2, e1]
          rfl
        · rw [if_neg c0, if_neg c1, if_pos c2, s16 (by omega), gI_n (by omega) (by decide), nI_clamp (by omega), e2]
theorem p_fill_L (N r : Nat) (hr : r ≤ 2) : ∀ (k i n1 n2 : Nat) (c : Int32) (v t mv mt : Nat → Int32), i + k = 256 → k < n1 → k < n2 → RelS v t mv mt → (∀ j, j < i → ∃ x : Nat, x < 256 ∧ v j = nI x ∧ mv j = nI x) →
    ∃ (c' : Int32) (v' t' mv' mt' : Nat → Int32), d_Map_fillUntold_L4 N (nI r) n1 c (nI i) v t = some (c', v', t') ∧ d_Mod_fill_L22 N (nI r) n2 c (nI i) 0 mv mt = some (c', 0, mv', mt') ∧ RelS v' t' mv' mt' := by
  intro k
  induction k with
  | zero =>
    intro i n1 n2 c v t mv mt hi h1 h2 hR hv
    obtain ⟨n1, rfl⟩ : ∃ q, n1 = q + 1 := ⟨n1 - 1, by omega⟩
    obtain ⟨n2, rfl⟩ : ∃ q, n2 = q + 1 := ⟨n2 - 1, by omega⟩
    obtain rfl : i = 256 := by omega
    have hc : (256 : Int32) ≤ nI 256 := nI_le (Nat.le_refl _) (by decide)
    exact ⟨c, v, t, mv, mt, by rw [d_Map_fillUntold_L4, if_pos hc], by rw [d_Mod_fill_L22, if_pos hc], hR⟩
  | succ k ih =>
    intro i n1 n2 c v t mv mt hi h1 h2 hR hv
    obtain ⟨n1, rfl⟩ : ∃ q, n1 = q + 1 := ⟨n1 - 1, by omega⟩
    obtain ⟨n2, rfl⟩ : ∃ q, n2 = q + 1 := ⟨n2 - 1, by omega⟩
    have hc : ¬ (256 : Int32) ≤ nI i := n256 (by omega)
    obtain ⟨q, hq, e1, e2, hq2⟩ := hR i (by omega)
    obtain ⟨x, hx, f1, f2⟩ := p_val (N := N) (i := i) (by omega) hr hv
    have fill : RelS (upd v i (nI x)) (upd t i 3) (upd mv i (nI x)) (upd mt i 3) := RelS_tell hR (q := 3) (by decide) (by decide) hx
    have next : ∀ j, j < i + 1 → ∃ y : Nat, y < 256 ∧ upd v i (nI x) j = nI y ∧ upd mv i (nI x) j = nI y := fun j hj => by
      by_cases e : j = i
      · subst e
        exact ⟨x, hx, upd_at _ _ _, upd_at _ _ _⟩
      · rw [upd_ne _ _ e, upd_ne _ _ e]
        exact hv j (by omega)
    obtain ⟨c', v', t', mv', mt', g1, g2, g3⟩ := ih (i + 1) n1 n2 (c + 1) _ _ _ _ (by omega) (by omega) (by omega) fill next
    rw [d_Map_fillUntold_L4, if_neg hc, gI_n (by omega) (by decide), nI_clamp (by omega), e1, d_Mod_fill_L22, if_neg hc, if_pos rfl, gI_n (by omega) (by decide), nI_clamp (by omega), e2, nI_1]
    by_cases q0 : nI q = (0 : Int32)
    · refine ⟨c', v', t', mv', mt', ?_, ?_, g3⟩
      · rw [if_pos q0, f1, Option.bind_some]
        exact g1
      · rw [if_pos q0]
        exact (f2 (fun z => d_Mod_fill_L22 N (nI r) n2 (c + 1) (nI (i + 1)) 0 (upd mv i z) (upd mt i 3))).trans g2
    · by_cases q3 : nI q = (3 : Int32)
      · refine ⟨c', v', t', mv', mt', ?_, ?_, g3⟩
        · rw [if_neg q0, if_pos q3, f1, Option.bind_some]
          exact g1
        · rw [if_neg q0, if_pos q3]
          exact (f2 (fun z => d_Mod_fill_L22 N (nI r) n2 (c + 1) (nI (i + 1)) 0 (upd mv i z) (upd mt i 3))).trans g2
      · rw [if_neg q0, if_neg q3, if_neg q0, if_neg q3]
        have hne : q ≠ 0 := fun e => q0 (by rw [e]; rfl)
        refine ih (i + 1) n1 n2 c v t mv mt (by omega) (by omega) (by omega) hR (fun j hj => ?_)
        by_cases e : j = i
        · subst e
          rcases hq2 with ⟨z, -⟩ | ⟨-, y, hy, y1, y2⟩
          · exact absurd z hne
          · exact ⟨y, hy, y1, y2⟩
        · exact hv j (by omega)
theorem p_fill_none (N : Nat) (rule : Int32) {n : Nat} (hn : 0 < n) (mv mt : Nat → Int32) : d_Mod_fill_L22 N rule n 0 0 1 mv mt = some (0, 1, mv, mt) := by
  obtain ⟨n, rfl⟩ : ∃ q, n = q + 1 := ⟨n - 1, by omega⟩
  rw [d_Mod_fill_L22, if_neg (by decide), if_neg (by decide)]

