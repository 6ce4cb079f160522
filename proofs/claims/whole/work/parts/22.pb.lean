/-! pure: the law's loop over all calls -/
theorem law_stop {L i : Nat} (hL : L ≤ 2050) (hi : i ≤ 2100) : (Int32.ofNat L - (4 : Int32) < nI i) ↔ L < i + 4 := by
  show (nI L - (4 : Int32) < nI i) ↔ _
  by_cases h : 4 ≤ L
  · rw [show nI L - (4 : Int32) = nI (L - 4) from pk_sub (b := 4) h, nI_ltI (by omega) (by omega)]
    omega
  · have e : (nI L - (4 : Int32)).toInt < 0 := by
      rcases (show L = 0 ∨ L = 1 ∨ L = 2 ∨ L = 3 by omega) with rfl | rfl | rfl | rfl <;> decide
    rw [Int32.lt_iff_toInt_lt, nI_toInt (show i < 2 ^ 31 by omega)]
    omega
theorem fin3 {k : Int32} {c : Int32} (h : k = 0 → c = 0) (X : Option Int32) (hX : X = some 1) : (if k = k then if k = 0 then if c = 0 then X else some (0 : Int32) else X else some (0 : Int32)) = some 1 := by
  rw [if_pos rfl]
  by_cases h0 : k = 0
  · rw [if_pos h0, if_pos (h h0), hX]
  · rw [if_neg h0, hX]
theorem thr_eq (N : Nat) (k : Int32) : d_Mod_thrown N k = some k := rfl
/-- what holds from a call on -/
def LawOK (N L : Nat) (xs : Nat → Int32) (kd : Nat) (st : Int32) (n i : Nat) : Prop := ∀ (bc pn rn lk : Nat) (tk dec fai : Int32) (cb : Nat → Int32) (sz ct : Int32) (dt made ho nm ln v t : Nat → Int32) (thr at0 en0 mn0 wr0 : Int32) (mb hd nu co si gu re mv mt came bx sg rw : Nat → Int32) (f : Nat → Int64) (rs P : Nat → Nat → Int32), bc ≤ 1200 → pn ≤ 16 → rn ≤ 1 → lk ≤ 1 → RelB cb mb → RelP pn bc P hd nu co si gu re → RelS v t mv mt → d_law N L xs (nI kd) st (nI kd) st n (nI i) (nI bc) (nI pn) tk (nI rn) (nI lk) dec fai cb sz ct dt made ho nm ln v t thr (nI bc) (nI rn) (nI pn) tk (nI lk) dec fai at0 en0 mn0 wr0 mb hd nu co si gu re mv mt came bx sg rw f rs P = some 1
set_option maxHeartbeats 4000000 in
theorem law_step {N L : Nat} (hN : 1300 ≤ N) (hL : L ≤ 2050) (xs : Nat → Int32) {kd : Nat} (hkd : kd ≤ 2) (st : Int32) {n i : Nat} (hi : i + 4 ≤ L) (ih : LawOK N L xs kd st n (i + 4)) : LawOK N L xs kd st (n + 1) i := by
  intro bc pn rn lk tk dec fai cb sz ct dt made ho nm ln v t thr at0 en0 mn0 wr0 mb hd nu co si gu re mv mt came bx sg rw f rs P hbc hpn hrn hlk hB hP hS
  have g0 : ∀ {α : Type} (X : Option α), gI (nI i) L X = X := fun X => gI_n (by omega) (by omega)
  have g1 : ∀ {α : Type} (X : Option α), gI (nI (i + 1)) L X = X := fun X => gI_n (by omega) (by omega)
  have g2 : ∀ {α : Type} (X : Option α), gI (nI (i + 2)) L X = X := fun X => gI_n (by omega) (by omega)
  have g3 : ∀ {α : Type} (X : Option α), gI (nI (i + 3)) L X = X := fun X => gI_n (by omega) (by omega)
  rw [d_law, if_neg (fun q => absurd ((law_stop hL (by omega)).mp q) (by omega)), g0]
  generalize xs (nI i).toNatClampNeg &&& (15 : Int32) = o
  rw [show nI i + (1 : Int32) = nI (i + 1) from nI_add i 1, show nI i + (2 : Int32) = nI (i + 2) from nI_add i 2, show nI i + (3 : Int32) = nI (i + 3) from nI_add i 3, show nI i + (4 : Int32) = nI (i + 4) from nI_add i 4]
  generalize xs (nI (i + 1)).toNatClampNeg = x1
  generalize xs (nI (i + 2)).toNatClampNeg = x2
  generalize xs (nI (i + 3)).toNatClampNeg = x3
  by_cases k0 : o = 0
  · rw [if_pos k0, g1, g2, g3]
    generalize x1.toInt64 <<< ((32 : Int32).toInt64 &&& 63) ||| x2.toInt64 &&& (4294967295 : Int64) = X
    obtain ⟨k, b, p1, p2, bc', cb', mb', f', n1, n2, hbc', e1, e2, hc, hB', hh⟩ := q_feed (N := N) (by omega) X x3 thr hbc (nI pn) (nI rn) (nI pn) (nI rn) f hB
    rw [e1, Option.bind_some, e2, Option.bind_some, thr_eq, Option.bind_some]
    refine fin3 hc _ ?_
    rcases hh with ⟨rfl, rfl, rfl, rfl, rfl⟩ | ⟨rfl, rfl, rfl, rfl⟩
    · exact ih bc' pn rn lk _ _ _ _ _ _ _ _ _ _ _ _ _ _ _ _ _ _ _ _ _ _ _ _ _ _ _ _ _ _ _ _ _ _ hbc hpn hrn hlk hB' hP hS
    · exact ih bc' 0 0 lk _ _ _ _ _ _ _ _ _ _ _ _ _ _ _ _ _ _ _ _ _ _ _ _ _ _ _ _ _ _ _ _ _ _ hbc' (by omega) (by omega) hlk hB' RelP_0 hS
  rw [if_neg k0]
  by_cases k1 : o = 1
  · rw [if_pos k1, g1, g2]
    obtain ⟨k, b, p1, p2, cb', mb', f', n1, n2, e1, e2, hc, hB', hh⟩ := q_alter N x1 x2 thr hbc (nI pn) (nI rn) (nI pn) (nI rn) f hB
    rw [e1, Option.bind_some, e2, Option.bind_some, thr_eq, Option.bind_some]
    refine fin3 hc _ ?_
    rcases hh with ⟨rfl, rfl, rfl, rfl⟩ | ⟨rfl, rfl, rfl, rfl⟩
    · exact ih bc pn rn lk _ _ _ _ _ _ _ _ _ _ _ _ _ _ _ _ _ _ _ _ _ _ _ _ _ _ _ _ _ _ _ _ _ _ hbc hpn hrn hlk hB' hP hS
    · exact ih bc 0 0 lk _ _ _ _ _ _ _ _ _ _ _ _ _ _ _ _ _ _ _ _ _ _ _ _ _ _ _ _ _ _ _ _ _ _ hbc (by omega) (by omega) hlk hB' RelP_0 hS
  rw [if_neg k1]
  by_cases k2 : o = 2
  · rw [if_pos k2]
    obtain ⟨pn', lk', t', P', hd', nu', co', si', gu', re', hpn', hlk', hP', e1, e2⟩ := q_run (N := N) hN hkd hbc st thr (nI rn) (nI lk) (nI rn) (nI lk) (nI pn) tk (nI pn) tk hB v t mt P hd nu co si gu re
    rw [e1, Option.bind_some, e2, Option.bind_some, if_pos rfl]
    exact ih bc pn' 1 lk' _ _ _ _ _ _ _ _ _ _ _ _ _ _ _ _ _ _ _ _ _ _ _ _ _ _ _ _ _ _ _ _ _ _ hbc hpn' (by omega) hlk' hB hP' RelS_clear
  rw [if_neg k2]
  by_cases k3 : o = 3
  · rw [if_pos k3, g1, g2]
    obtain ⟨k, b, f', e1, e2, hc⟩ := q_part N x1 x2 thr hpn hrn f hP
    rw [e1, Option.bind_some, e2, Option.bind_some, thr_eq, Option.bind_some]
    refine fin3 hc _ ?_
    exact ih bc pn rn lk _ _ _ _ _ _ _ _ _ _ _ _ _ _ _ _ _ _ _ _ _ _ _ _ _ _ _ _ _ _ _ _ _ _ hbc hpn hrn hlk hB hP hS
  rw [if_neg k3]
  by_cases k4 : o = 4
  · rw [if_pos k4, g1]
    obtain ⟨k, b, dec', fai', sz', ct', dt', made', ho', nm', ln', v', t', rs', P', f', at', en', mn', wr', re', mv', mt', came', bx', sg', rw', e1, e2, hc, hS', hP'⟩ := q_decode (N := N) x1 (by omega) thr hpn hrn hbc hB hP hS dec fai sz ct dt made ho nm ln rs f at0 en0 mn0 wr0 came bx sg rw
    rw [e1, Option.bind_some, e2, Option.bind_some, thr_eq, Option.bind_some]
    refine fin3 hc _ ?_
    exact ih bc pn rn lk _ _ _ _ _ _ _ _ _ _ _ _ _ _ _ _ _ _ _ _ _ _ _ _ _ _ _ _ _ _ _ _ _ _ hbc hpn hrn hlk hB hP' hS'
  rw [if_neg k4]
  by_cases k5 : o = 5
  · rw [if_pos k5]
    obtain ⟨k, b, dec', fai', sz', ct', dt', made', ho', nm', ln', v', t', rs', P', f', at', en', mn', wr', re', mv', mt', came', bx', sg', rw', e1, e2, hc, hS', hP'⟩ := q_decodeAll (N := N) (by omega) thr hpn hrn hbc hB hP hS dec fai sz ct dt made ho nm ln rs f at0 en0 mn0 wr0 came bx sg rw
    rw [e1, Option.bind_some, e2, Option.bind_some, thr_eq, Option.bind_some]
    refine fin3 hc _ ?_
    exact ih bc pn rn lk _ _ _ _ _ _ _ _ _ _ _ _ _ _ _ _ _ _ _ _ _ _ _ _ _ _ _ _ _ _ _ _ _ _ hbc hpn hrn hlk hB hP' hS'
  rw [if_neg k5]
  by_cases k6 : o = 6
  · rw [if_pos k6, g1]
    obtain ⟨k, b, f', e1, e2, hc⟩ := q_at N x1 thr f hS
    rw [e1, Option.bind_some, e2, Option.bind_some, thr_eq, Option.bind_some]
    refine fin3 hc _ ?_
    exact ih bc pn rn lk _ _ _ _ _ _ _ _ _ _ _ _ _ _ _ _ _ _ _ _ _ _ _ _ _ _ _ _ _ _ _ _ _ _ hbc hpn hrn hlk hB hP hS
  rw [if_neg k6]
  by_cases k7 : o = 7
  · rw [if_pos k7, g1]
    obtain ⟨k, b, f', e1, e2, hc⟩ := q_state N x1 thr f hS
    rw [e1, Option.bind_some, e2, Option.bind_some, thr_eq, Option.bind_some]
    refine fin3 hc _ ?_
    exact ih bc pn rn lk _ _ _ _ _ _ _ _ _ _ _ _ _ _ _ _ _ _ _ _ _ _ _ _ _ _ _ _ _ _ _ _ _ _ hbc hpn hrn hlk hB hP hS
  rw [if_neg k7]
  by_cases k8 : o = 8
  · rw [if_pos k8, g1]
    obtain ⟨k, b, v', t', mv', mt', f', e1, e2, hc, hS'⟩ := q_fill (N := N) (by omega) x1 thr f hS
    rw [e1, Option.bind_some, e2, Option.bind_some, thr_eq, Option.bind_some]
    refine fin3 hc _ ?_
    exact ih bc pn rn lk _ _ _ _ _ _ _ _ _ _ _ _ _ _ _ _ _ _ _ _ _ _ _ _ _ _ _ _ _ _ _ _ _ _ hbc hpn hrn hlk hB hP hS'
  rw [if_neg k8]
  by_cases k9 : o = 9
  · rw [if_pos k9, g1]
    obtain ⟨r, e1, e2⟩ := q_told (N := N) (by omega) x1 thr (nI kd) st (nI bc) (nI pn) tk dec fai hlk hS
    rw [e1, Option.bind_some, e2, Option.bind_some, if_pos rfl]
    exact ih bc pn rn lk _ _ _ _ _ _ _ _ _ _ _ _ _ _ _ _ _ _ _ _ _ _ _ _ _ _ _ _ _ _ _ _ _ _ hbc hpn hrn hlk hB hP hS
  rw [if_neg k9]
  by_cases k10 : o = 10
  · rw [if_pos k10]
    have e1 : d_MR_clear N (nI bc) (nI pn) tk (nI rn) (nI lk) v t = some (0, 0, 0, 0, 0, setB v 0 (-1), setB t 0 0) := by
      unfold d_MR_clear d_MR_forgetParts
      rw [p_forgetAll (by omega)]
      rfl
    have e2 : d_Mod_clear N thr (nI bc) (nI rn) (nI pn) tk (nI lk) mt = some (0, 0, 0, 0, 0, 0, setB mt 0 0) := by
      have h := p_clear_L N 0 0 0 0 0 0 256 0 N mt (by omega) (by omega)
      rw [E0] at h
      unfold d_Mod_clear d_Mod_lose
      rw [Option.bind_some, h]
      rfl
    rw [e1, Option.bind_some, e2, Option.bind_some]
    exact ih 0 0 0 0 _ _ _ _ _ _ _ _ _ _ _ _ _ _ _ _ _ _ _ _ _ _ _ _ _ _ _ _ _ _ _ _ _ _ (by omega) (by omega) (by omega) (by omega) hB RelP_0 RelS_clear
  rw [if_neg k10]
  exact ih bc pn rn lk _ _ _ _ _ _ _ _ _ _ _ _ _ _ _ _ _ _ _ _ _ _ _ _ _ _ _ _ _ _ _ _ _ _ hbc hpn hrn hlk hB hP hS
theorem law_end {N L : Nat} (hL : L ≤ 2050) (xs : Nat → Int32) (kd : Nat) (st : Int32) (n : Nat) {i : Nat} (hi : i ≤ 2100) (h : L < i + 4) : LawOK N L xs kd st (n + 1) i := by
  intro bc pn rn lk tk dec fai cb sz ct dt made ho nm ln v t thr at0 en0 mn0 wr0 mb hd nu co si gu re mv mt came bx sg rw f rs P hbc hpn hrn hlk hB hP hS
  rw [d_law, if_pos ((law_stop hL hi).mpr h)]
theorem law_run {N L : Nat} (hN : 1300 ≤ N) (hL : L ≤ 2050) (xs : Nat → Int32) {kd : Nat} (hkd : kd ≤ 2) (st : Int32) : ∀ (n i : Nat), L < i + 4 * n → i ≤ 2100 → LawOK N L xs kd st (n + 1) i := by
  intro n
  induction n with
  | zero =>
    intro i h hi
    exact law_end hL xs kd st 0 hi (by omega)
  | succ n ih =>
    intro i h hi
    by_cases hs : L < i + 4
    · exact law_end hL xs kd st (n + 1) hi hs
    · exact law_step hN hL xs hkd st (by omega) (ih (i + 4) (by omega) (by omega))
theorem kind_eq (x : Int32) : ∃ kd : Nat, kd ≤ 2 ∧ (if (0 : Int32) < (if x < (2 : Int32) then x else (2 : Int32)) then (if x < (2 : Int32) then x else (2 : Int32)) else (0 : Int32)) = nI kd ∧ (if 0 ≤ x then if x ≤ (2 : Int32) then x else (2 : Int32) else (0 : Int32)) = nI kd := by
  have t0 : (0 : Int32).toInt = 0 := by decide
  have t2 : (2 : Int32).toInt = 2 := by decide
  by_cases h1 : x < (2 : Int32)
  · rw [if_pos h1]
    have h1' := Int32.lt_iff_toInt_lt.mp h1
    by_cases h0 : (0 : Int32) < x
    · have h0' := Int32.lt_iff_toInt_lt.mp h0
      have c1 : ¬ x < 0 := fun q => by have := Int32.lt_iff_toInt_lt.mp q; omega
      have c2 : x ≤ (2 : Int32) := Int32.le_iff_toInt_le.mpr (by omega)
      obtain ⟨j, hj, e⟩ := nI_of2 (n := 2) (M := 2) (by decide) c1 c2
      exact ⟨j, hj, by rw [if_pos h0]; exact e, by rw [if_pos (show (0 : Int32) ≤ x from Int32.le_iff_toInt_le.mpr (by omega)), if_pos c2]; exact e⟩
    · refine ⟨0, by omega, by rw [if_neg h0]; rfl, ?_⟩
      by_cases h3 : (0 : Int32) ≤ x
      · have h3' := Int32.le_iff_toInt_le.mp h3
        have h4 : ¬ (0 : Int32).toInt < x.toInt := fun q => h0 (Int32.lt_iff_toInt_lt.mpr q)
        rw [if_pos h3, if_pos (show x ≤ (2 : Int32) from Int32.le_iff_toInt_le.mpr (by omega))]
        exact Int32.toInt_inj.mp (by rw [show (nI 0).toInt = 0 by decide]; omega)
      · rw [if_neg h3]
        rfl
  · rw [if_neg h1]
    have h1' : ¬ x.toInt < (2 : Int32).toInt := fun q => h1 (Int32.lt_iff_toInt_lt.mpr q)
    refine ⟨2, by omega, by rw [if_pos (by decide)]; rfl, ?_⟩
    rw [if_pos (show (0 : Int32) ≤ x from Int32.le_iff_toInt_le.mpr (by omega))]
    by_cases h3 : x ≤ (2 : Int32)
    · have h3' := Int32.le_iff_toInt_le.mp h3
      rw [if_pos h3]
      exact Int32.toInt_inj.mp (by rw [show (nI 2).toInt = 2 by decide]; omega)
    · rw [if_neg h3]
      rfl
theorem steps_eq (x : Int32) : (if (1 : Int32) < (if x < (65536 : Int32) then x else (65536 : Int32)) then (if x < (65536 : Int32) then x else (65536 : Int32)) else (1 : Int32)) = (if (1 : Int32) ≤ x then if x ≤ (65536 : Int32) then x else (65536 : Int32) else (1 : Int32)) := by
  have t1 : (1 : Int32).toInt = 1 := by decide
  have t2 : (65536 : Int32).toInt = 65536 := by decide
  by_cases h1 : x < (65536 : Int32)
  · have h1' := Int32.lt_iff_toInt_lt.mp h1
    rw [if_pos h1]
    have c : x ≤ (65536 : Int32) := Int32.le_iff_toInt_le.mpr (by omega)
    rw [if_pos c]
    by_cases h0 : (1 : Int32) < x
    · have h0' := Int32.lt_iff_toInt_lt.mp h0
      rw [if_pos h0, if_pos (show (1 : Int32) ≤ x from Int32.le_iff_toInt_le.mpr (by omega))]
    · rw [if_neg h0]
      by_cases h3 : (1 : Int32) ≤ x
      · have h3' := Int32.le_iff_toInt_le.mp h3
        have h4 : ¬ (1 : Int32).toInt < x.toInt := fun q => h0 (Int32.lt_iff_toInt_lt.mpr q)
        rw [if_pos h3]
        exact Int32.toInt_inj.mp (by omega)
      · rw [if_neg h3]
  · have h1' : ¬ x.toInt < (65536 : Int32).toInt := fun q => h1 (Int32.lt_iff_toInt_lt.mpr q)
    rw [if_neg h1, if_pos (show (1 : Int32) < 65536 by decide), if_pos (show (1 : Int32) ≤ x from Int32.le_iff_toInt_le.mpr (by omega))]
    by_cases h3 : x ≤ (65536 : Int32)
    · have h3' := Int32.le_iff_toInt_le.mp h3
      rw [if_pos h3]
      exact Int32.toInt_inj.mp (by omega)
    · rw [if_neg h3]
theorem init_eq (x y : Int32) : d_Mod_init x y = some ((if 0 ≤ x then if x ≤ (2 : Int32) then x else (2 : Int32) else (0 : Int32)), (if (1 : Int32) ≤ y then if y ≤ (65536 : Int32) then y else (65536 : Int32) else (1 : Int32))) := by
  unfold d_Mod_init
  by_cases a : 0 ≤ x
  · by_cases b : x ≤ (2 : Int32)
    · by_cases c : (1 : Int32) ≤ y
      · by_cases d : y ≤ (65536 : Int32)
        · simp only [if_pos a, if_pos b, if_pos c, if_pos d]
        · simp only [if_pos a, if_pos b, if_pos c, if_neg d]
      · simp only [if_pos a, if_pos b, if_neg c]
    · by_cases c : (1 : Int32) ≤ y
      · by_cases d : y ≤ (65536 : Int32)
        · simp only [if_pos a, if_neg b, if_pos c, if_pos d]
        · simp only [if_pos a, if_neg b, if_pos c, if_neg d]
      · simp only [if_pos a, if_neg b, if_neg c]
  · by_cases c : (1 : Int32) ≤ y
    · by_cases d : y ≤ (65536 : Int32)
      · simp only [if_neg a, if_pos c, if_pos d]
      · simp only [if_neg a, if_pos c, if_neg d]
    · simp only [if_neg a, if_neg c]
theorem law_pure0 {L : Nat} {xs : Nat → Int32} (hL : L ≤ 2050) (c0 c1 : Int32) : ∃ (N : Nat) (om : (Nat → Int32) × (Nat → Int32)) (ok : Int32 × Int32), d_Map_forgetAll N (fun _ => 0) (fun _ => 0) = some om ∧ d_Mod_init c0 c1 = some ok ∧ d_law N L xs (if (0 : Int32) < (if c0 < (2 : Int32) then c0 else (2 : Int32)) then (if c0 < (2 : Int32) then c0 else (2 : Int32)) else (0 : Int32)) (if (1 : Int32) < (if c1 < (65536 : Int32) then c1 else (65536 : Int32)) then (if c1 < (65536 : Int32) then c1 else (65536 : Int32)) else (1 : Int32)) ok.1 ok.2 600 2 0 0 0 0 0 0 0 (fun _ => 0) 0 0 (fun _ => 0) (fun _ => 0) (fun _ => 0) (fun _ => 0) (fun _ => 0) om.1 om.2 0 0 0 0 0 0 0 0 0 0 0 0 (fun _ => 0) (fun _ => 0) (fun _ => 0) (fun _ => 0) (fun _ => 0) (fun _ => 0) (fun _ => 0) (fun _ => 0) (fun _ => 0) (fun _ => 0) (fun _ => 0) (fun _ => 0) (fun _ => 0) (fun _ => 0) (fun _ _ => 0) (fun _ _ => 0) = some 1 := by
  obtain ⟨kd, hkd, e1, e2⟩ := kind_eq c0
  have hS0 : RelS (setB (fun _ => 0) 0 (-1)) (setB (fun _ => 0) 0 0) (fun _ => 0) (fun _ => 0) := fun j hj => ⟨0, by omega, if_pos ⟨by omega, hj⟩, rfl, Or.inl ⟨rfl, if_pos ⟨by omega, hj⟩⟩⟩
  have hB0 : RelB (fun _ => 0) (fun _ => 0) := fun j _ => ⟨0, by omega, rfl, rfl⟩
  refine ⟨1300, _, _, p_forgetAll (by omega) _ _, init_eq _ _, ?_⟩
  dsimp only
  rw [e1, e2, steps_eq]
  exact law_run (N := 1300) (by omega) hL xs hkd _ 599 2 (by omega) (by omega) 0 0 0 0 0 0 0 _ 0 0 _ _ _ _ _ _ _ 0 0 0 0 0 _ _ _ _ _ _ _ _ _ _ _ _ _ _ _ _ (by omega) (by omega) (by omega) (by omega) hB0 RelP_0 hS0

