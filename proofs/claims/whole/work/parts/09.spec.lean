/-! what the calls answer, as numbers: both classes are tied to these -/
theorem dB_d0 : dB 1 FP.dconst0 := by unfold dB; decide +kernel
theorem dB_d1 : dB 1024 FP.dconst1 := by unfold dB; decide +kernel
theorem dB_0 : dB 1 (0 : UInt64) := by unfold dB; decide +kernel
theorem nn_of {a : UInt64} (h : a.toNat % 2 ^ 63 ≤ 9218868437227405312) : nn a := (FP.Core.ne_nan a).mpr h
theorem nn_d1 : nn FP.dconst1 := dB_d1.nn (by decide)
theorem dv_d1 : dv FP.dconst1 = 8 * U8 := by decide +kernel
theorem dv_2 : dv 4611686018427387904 = 2 * U1 := by decide +kernel
abbrev noR : UInt64 := 13830554455654793216
theorem dB_noR : dB 1024 noR := by unfold dB; decide +kernel
theorem dv_noR : dv noR = -(8 * U8) := by decide +kernel
/-- the radius between the rows k - 1 and k -/
def interp (T R : Nat → UInt64) (k : Nat) (t : UInt64) : UInt64 := FP.dadd (R (k - 1)) (FP.ddiv (FP.dmul (FP.dsub t (T (k - 1))) (FP.dsub (R k) (R (k - 1)))) (FP.dsub (T k) (T (k - 1))))
/-- RADIUS, over the first rows: the latest that says one -/
def rRad (T R : Nat → UInt64) (t : UInt64) : Nat → Option UInt64
  | 0 => none
  | k + 1 => if dv t = dv (T k) then some (R k) else if 0 < k ∧ dv (T (k - 1)) < dv t ∧ dv t < dv (T k) then some (interp T R k t) else rRad T R t k
/-- rows as they can be -/
def rowsOK (T R : Nat → UInt64) (n : Nat) : Prop := n ≤ 12 ∧ (∀ i, i < n → ∃ a b : Int, d8 a (T i) ∧ d8 b (R i) ∧ 1 ≤ a ∧ a ≤ 8000 ∧ 1 ≤ b ∧ b ≤ 80000) ∧ ∀ i j, i < j → j < n → dv (T i) < dv (T j)
theorem rowsOK.T {T R : Nat → UInt64} {n i : Nat} (h : rowsOK T R n) (hi : i < n) : dB 1060 (T i) := by obtain ⟨a, b, ha, -⟩ := h.2.1 i hi; exact ha.1
theorem rowsOK.R {T R : Nat → UInt64} {n i : Nat} (h : rowsOK T R n) (hi : i < n) : dB 1060 (R i) := by obtain ⟨a, b, -, hb, -⟩ := h.2.1 i hi; exact hb.1
theorem rowsOK.le {T R : Nat → UInt64} {n i j : Nat} (h : rowsOK T R n) (hij : i ≤ j) (hj : j < n) : dv (T i) ≤ dv (T j) := by
  rcases Nat.lt_or_ge i j with q | q
  · exact Int.le_of_lt (h.2.2 i j q hj)
  · rw [show i = j by omega]; exact Int.le_refl _
/-- the rows' distance is a divisor, and exact -/
theorem rowsOK.gap {T R : Nat → UInt64} {n i j : Nat} (h : rowsOK T R n) (hij : i < j) (hj : j < n) : ∃ k : Int, 1 ≤ k ∧ k ≤ 8000 ∧ dB 1062 (FP.dsub (T j) (T i)) ∧ dv (FP.dsub (T j) (T i)) = k * U8 ∧ dL 1020 (FP.dsub (T j) (T i)) := by
  obtain ⟨a, -, ha, -, a1, a2, -⟩ := h.2.1 i (by omega)
  obtain ⟨b, -, hb, -, b1, b2, -⟩ := h.2.1 j hj
  have hlt := (d8_lt ha hb).mp (h.2.2 i j hij hj)
  obtain ⟨h1, h2⟩ := d8_sub hb ha (by omega)
  refine ⟨b - a, by omega, by omega, h1, h2, dL_of (c := 4593671619917905920) 1020 (h1.nn (by decide)) (dB_8th.nn (by decide)) (by decide) (by decide) ?_⟩
  rw [dv_8th, h2]
  have := Int.mul_le_mul_of_nonneg_right (show (1 : Int) ≤ b - a by omega) (Int.le_of_lt U8_pos)
  omega
theorem rowsOK.dL {T R : Nat → UInt64} {n i j : Nat} (h : rowsOK T R n) (hij : i < j) (hj : j < n) : dL 1020 (FP.dsub (T j) (T i)) := (h.gap hij hj).choose_spec.2.2.2.2
theorem interp_dB {T R : Nat → UInt64} {n k : Nat} {t : UInt64} (h : rowsOK T R n) (h0 : 0 < k) (hk : k < n) (ht : dB 1064 t) : dB 1112 (interp T R k t) := by
  have a1 := dB.sub ht (h.T (show k - 1 < n by omega)) (M := 1064) (by omega) (by omega) (by omega)
  have a2 := dB.sub (h.R hk) (h.R (show k - 1 < n by omega)) (M := 1060) (by omega) (by omega) (by omega)
  have a3 := dB.mul (M := 1106) a1 a2 (by omega) (by omega) (by omega)
  have a4 := dB.sub (h.T hk) (h.T (show k - 1 < n by omega)) (M := 1060) (by omega) (by omega) (by omega)
  have a5 := dB.div (M := 1110) a3 (h.dL (show k - 1 < k by omega) hk) a4 (by omega) (by omega) (by omega) (by omega)
  exact dB.add (M := 1110) (h.R (show k - 1 < n by omega)) a5 (by omega) (by omega) (by omega)
/-- no radius between two rows is below zero -/
theorem interp_pos {T R : Nat → UInt64} {n k : Nat} {t : UInt64} (h : rowsOK T R n) (h0 : 0 < k) (hk : k < n) (ht : dB 1064 t) (h1 : dv (T (k - 1)) < dv t) (h2 : dv t < dv (T k)) : 0 ≤ dv (interp T R k t) := by
  obtain ⟨g, g1, g2, g3, g4, g5⟩ := h.gap (show k - 1 < k by omega) hk
  obtain ⟨a0, b0, ha0, hb0, -, -, r1, r2⟩ := h.2.1 (k - 1) (by omega)
  obtain ⟨a1, b1, ha1, hb1, -, -, r3, r4⟩ := h.2.1 k hk
  have c1 := dB.sub ht ha0.1 (M := 1064) (by omega) (by omega) (by omega)
  obtain ⟨c2, c3⟩ := d8_sub hb1 hb0 (by omega)
  have c4 := dB.mul (M := 1106) c1 c2 (by omega) (by omega) (by omega)
  have c5 := dB.div (M := 1110) c4 g5 g3 (by omega) (by omega) (by omega) (by omega)
  have hgp : 0 < dv (FP.dsub (T k) (T (k - 1))) := by
    rw [g4]
    exact Int.mul_pos (by omega) U8_pos
  -- the way from the row below: not below zero, at most the rows' distance
  have w1 : 0 ≤ dv (FP.dsub t (T (k - 1))) := by
    have := dv_sub_ge (ht.fin (by decide)) ha0.fin nn_0 (by rw [dv_0]; omega)
    rwa [dv_0] at this
  have w2 : dv (FP.dsub t (T (k - 1))) ≤ dv (FP.dsub (T k) (T (k - 1))) := by
    refine dv_sub_le (ht.fin (by decide)) ha0.fin (g3.nn (by decide)) ?_
    have e : dv (FP.dsub (T k) (T (k - 1))) = dv (T k) - dv (T (k - 1)) := by
      have hh := h.gap (show k - 1 < k by omega) hk
      obtain ⟨q1, q2⟩ := d8_sub ha1 ha0 (by
        obtain ⟨x1, x2, x3, -, x5, x6, -⟩ := h.2.1 (k - 1) (by omega)
        obtain ⟨y1, y2, y3, -, y5, y6, -⟩ := h.2.1 k hk
        have z1 := (d8_le x3 ha0).mp (Int.le_refl _)
        have z2 := (d8_le ha0 x3).mp (Int.le_refl _)
        have z3 := (d8_le y3 ha1).mp (Int.le_refl _)
        have z4 := (d8_le ha1 y3).mp (Int.le_refl _)
        omega)
      rw [q2, ha1.2, ha0.2, Int.sub_mul]
    omega
  have hR0 : 0 ≤ dv (R (k - 1)) := by rw [hb0.2]; exact Int.mul_nonneg (by omega) (Int.le_of_lt U8_pos)
  have hR1 : 0 ≤ dv (R k) := by rw [hb1.2]; exact Int.mul_nonneg (by omega) (Int.le_of_lt U8_pos)
  unfold interp
  rcases Int.le_total b0 b1 with q | q
  · have p1 : 0 ≤ dv (FP.dsub (R k) (R (k - 1))) := by rw [c3]; exact Int.mul_nonneg (by omega) (Int.le_of_lt U8_pos)
    have p2 := dv_mul_nonneg (c1.fin (by decide)) (c2.fin (by decide)) w1 p1
    have p3 := dv_div_nonneg (c4.fin (by decide)) (g3.fin (by decide)) p2 hgp
    exact dv_add_nonneg hb0.fin (c5.fin (by decide)) hR0 p3
  · -- the product of the whole way and the fall is exact
    obtain ⟨V, hV, eV⟩ := mk_V (g * (b1 - b0)) 1068 (by
      have : (g * (b1 - b0)).natAbs = g.natAbs * (b1 - b0).natAbs := Int.natAbs_mul _ _
      rw [this]
      have u1 : g.natAbs ≤ 8000 := by omega
      have u2 : (b1 - b0).natAbs ≤ 80000 := by omega
      exact Nat.lt_of_le_of_lt (Nat.mul_le_mul u1 u2) (by decide)) (by decide)
    have eU : U8 * U8 = ((2 ^ 1068 : Nat) : Int) * U1 := by decide +kernel
    have eVP : dv V * U1 = dv (FP.dsub (T k) (T (k - 1))) * dv (FP.dsub (R k) (R (k - 1))) := by
      rw [eV, g4, c3]
      calc g * (b1 - b0) * ((2 ^ 1068 : Nat) : Int) * U1 = g * (b1 - b0) * (((2 ^ 1068 : Nat) : Int) * U1) := by rw [Int.mul_assoc]
        _ = g * (b1 - b0) * (U8 * U8) := by rw [eU]
        _ = g * U8 * ((b1 - b0) * U8) := by
          rw [Int.mul_assoc, Int.mul_assoc, Int.mul_left_comm (b1 - b0) U8 U8]
    have p1 : dv (FP.dsub (R k) (R (k - 1))) ≤ 0 := by
      rw [c3]
      exact Int.mul_nonpos_of_nonpos_of_nonneg (by omega) (Int.le_of_lt U8_pos)
    have p2 : dv V ≤ dv (FP.dmul (FP.dsub t (T (k - 1))) (FP.dsub (R k) (R (k - 1)))) := by
      refine dv_mul_ge (c1.fin (by decide)) (c2.fin (by decide)) hV.ne_nan ?_
      rw [eVP]
      exact Int.mul_le_mul_of_nonpos_right w2 p1
    have p3 : dv (FP.dsub (R k) (R (k - 1))) ≤ dv (FP.ddiv (FP.dmul (FP.dsub t (T (k - 1))) (FP.dsub (R k) (R (k - 1)))) (FP.dsub (T k) (T (k - 1)))) := by
      refine dv_div_ge (c4.fin (by decide)) (g3.fin (by decide)) hgp (c2.nn (by decide)) ?_
      rw [Int.mul_comm, ← eVP]
      exact Int.mul_le_mul_of_nonneg_right p2 (Int.le_of_lt U1_pos)
    have p4 := dv_add_ge hb0.fin (c5.fin (by decide)) hb1.nn (V := R k) (by
      have : dv (R k) = dv (R (k - 1)) + dv (FP.dsub (R k) (R (k - 1))) := by rw [c3, hb0.2, hb1.2, ← Int.add_mul]; congr 1; omega
      omega)
    omega
/-! which row says the radius -/
theorem rRad_above {T R : Nat → UInt64} {t : UInt64} {n i : Nat} (h : rowsOK T R n) (hi : i < n) (ht : dv t ≤ dv (T i)) : ∀ m, i + 1 ≤ m → m ≤ n → rRad T R t m = rRad T R t (i + 1) := by
  intro m h1 h2
  induction m with
  | zero => omega
  | succ m ih =>
    rcases Nat.lt_or_ge i m with q | q
    · have e1 := h.2.2 i m q (by omega)
      have e2 := h.le (show i ≤ m - 1 by omega) (show m - 1 < n by omega)
      rw [rRad, if_neg (by omega), if_neg (by omega)]
      exact ih (by omega) (by omega)
    · rw [show m = i by omega]
theorem rRad_below {T R : Nat → UInt64} {t : UInt64} {n : Nat} (m : Nat) (hm : m ≤ n) (ht : ∀ j, j < m → dv (T j) < dv t) : rRad T R t m = none := by
  induction m with
  | zero => rfl
  | succ m ih =>
    have := ht m (by omega)
    rw [rRad, if_neg (by omega), if_neg (by omega)]
    exact ih (by omega) (fun j hj => ht j (by omega))
theorem rRad_eq {T R : Nat → UInt64} {t : UInt64} {n i : Nat} (h : rowsOK T R n) (hi : i < n) (ht : dv (T i) = dv t) : rRad T R t n = some (R i) := by
  rw [rRad_above h hi (by omega) n (by omega) (Nat.le_refl n), rRad, if_pos ht.symm]
theorem rRad_mid {T R : Nat → UInt64} {t : UInt64} {n i : Nat} (h : rowsOK T R n) (h0 : 0 < i) (hi : i < n) (h1 : dv (T (i - 1)) < dv t) (h2 : dv t < dv (T i)) : rRad T R t n = some (interp T R i t) := by
  rw [rRad_above h hi (by omega) n (by omega) (Nat.le_refl n), rRad, if_neg (by omega), if_pos ⟨h0, h1, h2⟩]
theorem rRad_first {T R : Nat → UInt64} {t : UInt64} {n : Nat} (h : rowsOK T R n) (hn : 0 < n) (h2 : dv t < dv (T 0)) : rRad T R t n = none := by
  rw [rRad_above h hn (by omega) n (by omega) (Nat.le_refl n), rRad, if_neg (by omega), if_neg (by omega)]
  rfl
theorem rRad_some {T R : Nat → UInt64} {t r : UInt64} {n : Nat} (h : rowsOK T R n) (ht : dB 1064 t) : ∀ m, m ≤ n → rRad T R t m = some r → dB 1112 r ∧ 0 ≤ dv r := by
  intro m
  induction m with
  | zero => intro _ e; cases e
  | succ m ih =>
    intro hm e
    rw [rRad] at e
    split at e
    · cases e
      obtain ⟨a, b, -, hb, -, -, r1, -⟩ := h.2.1 m (by omega)
      refine ⟨hb.1.mono (by omega), ?_⟩
      rw [hb.2]
      exact Int.mul_nonneg (by omega) (Int.le_of_lt U8_pos)
    · split at e
      · rename_i q
        cases e
        exact ⟨interp_dB h q.1 (by omega) ht, interp_pos h q.1 (by omega) ht q.2.1 q.2.2⟩
      · exact ih (by omega) e
theorem rRad_dB {T R : Nat → UInt64} {t : UInt64} {n : Nat} (h : rowsOK T R n) (ht : dB 1064 t) : dB 1112 ((rRad T R t n).getD noR) := by
  cases e : rRad T R t n with
  | none => exact dB_noR.mono (by omega)
  | some r => exact (rRad_some h ht n (Nat.le_refl n) e).1
theorem rRad_neg {T R : Nat → UInt64} {t : UInt64} {n : Nat} (h : rowsOK T R n) (ht : dB 1064 t) : dv ((rRad T R t n).getD noR) < 0 ↔ rRad T R t n = none := by
  cases e : rRad T R t n with
  | none => exact ⟨fun _ => rfl, fun _ => by show dv noR < 0; rw [dv_noR]; have := U8_pos; omega⟩
  | some r =>
    have := (rRad_some h ht n (Nat.le_refl n) e).2
    exact ⟨fun q => absurd q (by show ¬ dv r < 0; omega), fun q => by cases q⟩
/-! strips -/
def strp (T R : Nat → UInt64) (n : Nat) (t w : UInt64) : Nat → Nat → Int32
  | 0, _ => -1
  | f + 1, k => match rRad T R (FP.ddiv t (FP.i2d (nI k))) n with
    | some r => if dv r ≤ dv w then nI k else strp T R n t w f (k + 1)
    | none => strp T R n t w f (k + 1)
theorem nI_toInt' {k : Nat} (h : k < 2 ^ 31) : (nI k).toInt = (k : Int) := nI_toInt h
theorem dv_i2dN {k : Nat} (h : k < 2 ^ 31) : dv (FP.i2d (nI k)) = (k : Int) * U1 := by rw [dv_i2d, nI_toInt h]
theorem i2d_dL {k : Nat} (h1 : 1 ≤ k) (h : k < 2 ^ 31) : dL 1023 (FP.i2d (nI k)) := by
  have h2 := (FP.Core.i2d_big (v := nI k) (by rw [nI_toInt h]; omega)).1
  exact h2
theorem i2d_pos {k : Nat} (h1 : 1 ≤ k) (h : k < 2 ^ 31) : 0 < dv (FP.i2d (nI k)) := by
  rw [dv_i2dN h]; exact Int.mul_pos (by omega) U1_pos
theorem part_dB {t : UInt64} {k : Nat} (ht : dB 1060 t) (h1 : 1 ≤ k) (h : k < 2 ^ 31) : dB 1064 (FP.ddiv t (FP.i2d (nI k))) := dB.div ht (i2d_dL h1 h) (i2d_dB (nI k)) (by omega) (by omega) (by omega) (by omega)
theorem strp_no {T R : Nat → UInt64} {n f k : Nat} {t w : UInt64} (h : rRad T R (FP.ddiv t (FP.i2d (nI k))) n = none) : strp T R n t w (f + 1) k = strp T R n t w f (k + 1) := by
  rw [strp, h]
theorem strp_more {T R : Nat → UInt64} {n f k : Nat} {t w r : UInt64} (h : rRad T R (FP.ddiv t (FP.i2d (nI k))) n = some r) (hr : ¬ dv r ≤ dv w) : strp T R n t w (f + 1) k = strp T R n t w f (k + 1) := by
  rw [strp, h]; exact if_neg hr
theorem strp_yes {T R : Nat → UInt64} {n f k : Nat} {t w r : UInt64} (h : rRad T R (FP.ddiv t (FP.i2d (nI k))) n = some r) (hr : dv r ≤ dv w) : strp T R n t w (f + 1) k = nI k := by
  rw [strp, h]; exact if_pos hr
/-! readings -/
def rsd (B K : Nat → UInt64) (s : UInt64) : Nat → UInt64
  | 0 => FP.dconst0
  | k + 1 => FP.dadd (rsd B K s k) (FP.dmul (FP.dsub (K k) (FP.dmul (B k) (FP.dadd FP.dconst1 s))) (FP.dsub (K k) (FP.dmul (B k) (FP.dadd FP.dconst1 s))))
def readsOK (B K : Nat → UInt64) (n : Nat) : Prop := n ≤ 20 ∧ ∀ i, i < n → dB 1060 (B i) ∧ dB 1060 (K i)
theorem rsd_dB {B K : Nat → UInt64} {n : Nat} {s : UInt64} (h : readsOK B K n) (hs : dB 1040 s) : ∀ k, k ≤ n → dB (1150 + 2 * k) (rsd B K s k) := by
  intro k
  induction k with
  | zero => intro _; exact dB_d0.mono (by omega)
  | succ k ih =>
    intro hk
    have h1 := h.1
    have c1 := dB.add dB_d1 hs (M := 1040) (by omega) (by omega) (by omega)
    have c2 := dB.mul (M := 1080) (h.2 k (by omega)).1 c1 (by omega) (by omega) (by omega)
    have c3 := dB.sub (h.2 k (by omega)).2 c2 (M := 1080) (by omega) (by omega) (by omega)
    have c4 := dB.mul (M := 1142) c3 c3 (by omega) (by omega) (by omega)
    have c5 := dB.add (ih (by omega)) c4 (M := 1150 + 2 * k) (by omega) (by omega) (by omega)
    exact c5.mono (by omega)
/-- one round: spring, step, was it kept -/
def rnd (B K : Nat → UInt64) (n : Nat) (s h : UInt64) : UInt64 × UInt64 × Bool :=
  if dv (rsd B K (FP.dadd s h) n) < dv (rsd B K s n) then (FP.dadd s h, h, true)
  else if 0 ≤ dv (FP.dsub s h) ∧ dv (rsd B K (FP.dsub s h) n) < dv (rsd B K s n) then (FP.dsub s h, h, true)
  else (s, FP.ddiv h 4611686018427387904, false)
def fitN (B K : Nat → UInt64) (n : Nat) (s h : UInt64) : Nat → UInt64 × UInt64 × Nat
  | 0 => (s, h, 0)
  | i + 1 => ((rnd B K n (fitN B K n s h i).1 (fitN B K n s h i).2.1).1, (rnd B K n (fitN B K n s h i).1 (fitN B K n s h i).2.1).2.1, if (rnd B K n (fitN B K n s h i).1 (fitN B K n s h i).2.1).2.2 then (fitN B K n s h i).2.2 + 1 else (fitN B K n s h i).2.2)
def U4 : Int := ((2 ^ 1072 : Nat) : Int)
theorem U4_pos : 0 < U4 := by decide +kernel
/-- spring and step after N rounds -/
def spOK (N : Nat) (s h : UInt64) : Prop := dB 1060 s ∧ dB 1060 h ∧ 0 ≤ dv s ∧ dv s ≤ (N + 1 : Int) * U4 ∧ 0 ≤ dv h ∧ dv h ≤ U4
theorem spOK.dB {N : Nat} {s h : UInt64} (H : spOK N s h) (hN : N ≤ 60000) : dB 1038 s ∧ dB 1030 h := by
  obtain ⟨h1, h2, h3, h4, h5, h6⟩ := H
  have e : dv 4670232813583204352 = 65536 * U4 := by decide +kernel
  have e2 : dv 4598175219545276416 = U4 := by decide +kernel
  have hU := U4_pos
  refine ⟨dB_of (c := 4670232813583204352) 1038 (h1.nn (by decide)) (nn_of (by decide +kernel)) (by decide) (by decide) h3 ?_, dB_of (c := 4598175219545276416) 1030 (h2.nn (by decide)) (nn_of (by decide +kernel)) (by decide) (by decide) h5 ?_⟩
  · rw [e]
    have := Int.mul_le_mul_of_nonneg_right (show (N + 1 : Int) ≤ 65536 by omega) (Int.le_of_lt hU)
    omega
  · omega
theorem rnd_ok {B K : Nat → UInt64} {n N : Nat} {s h : UInt64} (H : spOK N s h) (hN : N ≤ 60000) : spOK (N + 1) (rnd B K n s h).1 (rnd B K n s h).2.1 := by
  obtain ⟨k1, k2⟩ := H.dB hN
  obtain ⟨h1, h2, h3, h4, h5, h6⟩ := H
  have hU := U4_pos
  have hg : (N + 1 : Int) * U4 + U4 = ((N + 1 : Nat) + 1 : Int) * U4 := by
    have e : (((N + 1 : Nat) : Int) + 1) = (N + 1 : Int) + 1 := by omega
    rw [e, Int.add_mul (N + 1 : Int) 1 U4, Int.one_mul]
  unfold rnd
  split
  · have c1 := dB.add k1 k2 (M := 1038) (by omega) (by omega) (by omega)
    refine ⟨c1.mono (by omega), h2, dv_add_nonneg (k1.fin (by decide)) (k2.fin (by decide)) h3 h5, ?_, h5, h6⟩
    obtain ⟨V, hV, eV⟩ := mk_V ((N + 1 : Nat) + 1 : Int) 1072 (by omega) (by decide)
    have eV : dv V = ((N + 1 : Nat) + 1 : Int) * U4 := eV
    rw [← eV]
    refine dv_add_le (k1.fin (by decide)) (k2.fin (by decide)) hV.ne_nan ?_
    omega
  · split
    · rename_i q
      have c1 := dB.sub k1 k2 (M := 1038) (by omega) (by omega) (by omega)
      refine ⟨c1.mono (by omega), h2, q.1, ?_, h5, h6⟩
      have := dv_sub_le (k1.fin (by decide)) (k2.fin (by decide)) (k1.nn (by decide)) (V := s) (by omega)
      show dv (FP.dsub s h) ≤ _
      omega
    · have c0 : dB 1025 (4611686018427387904 : UInt64) := by unfold dB; decide +kernel
      have cL : dL 1024 (4611686018427387904 : UInt64) := by unfold dL; decide +kernel
      have c1 := dB.div (M := 1030) k2 cL c0 (by omega) (by omega) (by omega) (by omega)
      have c2 : 0 < dv 4611686018427387904 := by rw [dv_2]; have := U1_pos; omega
      refine ⟨h1, c1.mono (by omega), h3, by show dv s ≤ _; omega, dv_div_nonneg (k2.fin (by decide)) (c0.fin (by decide)) h5 c2, ?_⟩
      have := dv_div_le (k2.fin (by decide)) (c0.fin (by decide)) c2 (k2.nn (by decide)) (V := h) (by
        rw [dv_2]
        have := Int.mul_le_mul_of_nonneg_left (show U1 ≤ 2 * U1 by have := U1_pos; omega) h5
        exact this)
      show dv (FP.ddiv h 4611686018427387904) ≤ U4
      omega
theorem fitN_ok {B K : Nat → UInt64} {n N : Nat} {s h : UInt64} (H : spOK N s h) : ∀ i, N + i ≤ 60000 → spOK (N + i) (fitN B K n s h i).1 (fitN B K n s h i).2.1 := by
  intro i
  induction i with
  | zero => intro _; exact H
  | succ i ih => intro hi; exact rnd_ok (N := N + i) (ih (by omega)) (by omega)
/-! forms -/
def frm (s w : UInt64) : Nat → UInt64 × UInt64
  | 0 => (FP.dconst0, w)
  | k + 1 => if dv (FP.dmul (FP.ddiv (FP.dadd (frm s w k).1 (frm s w k).2) 4611686018427387904) (FP.dadd FP.dconst1 s)) < dv w then (FP.ddiv (FP.dadd (frm s w k).1 (frm s w k).2) 4611686018427387904, (frm s w k).2) else ((frm s w k).1, FP.ddiv (FP.dadd (frm s w k).1 (frm s w k).2) 4611686018427387904)
/-! pieces -/
def piecesOK (L D : Nat → UInt64) (n : Nat) : Prop := n ≤ 12 ∧ ∀ i, i < n → dB 1060 (L i) ∧ dB 1060 (D i) ∧ (dv (D i) = 0 ∨ dv FP.dconst1 ≤ dv (D i))
theorem piecesOK.dL {L D : Nat → UInt64} {n i : Nat} (h : piecesOK L D n) (hi : i < n) (h0 : 0 < dv (D i)) : dL 1023 (D i) := by
  obtain ⟨-, h1, h2⟩ := h.2 i hi
  exact dL_of (c := FP.dconst1) 1023 (h1.nn (by decide)) nn_d1 (by decide) (by decide) (by omega)
def bends (D : Nat → UInt64) (t : UInt64) : Nat → Bool
  | 0 => true
  | k + 1 => bends D t k && !(decide (0 < dv (D k)) && decide (dv (FP.dmul 4611686018427387904 (D k)) < dv t))
theorem bends_no {D : Nat → UInt64} {t : UInt64} {i : Nat} (h1 : 0 < dv (D i)) (h2 : dv (FP.dmul 4611686018427387904 (D i)) < dv t) : ∀ m, i < m → bends D t m = false := by
  intro m
  induction m with
  | zero => intro h; omega
  | succ m ih =>
    intro h
    rcases Nat.lt_or_ge i m with q | q
    · rw [bends, ih q]; rfl
    · have : m = i := by omega
      subst this
      rw [bends, decide_eq_true h1, decide_eq_true h2]
      simp
theorem bends_yes {D : Nat → UInt64} {t : UInt64} {i : Nat} (h : bends D t i = true) (h1 : ¬ (0 < dv (D i) ∧ dv (FP.dmul 4611686018427387904 (D i)) < dv t)) : bends D t (i + 1) = true := by
  rw [bends, h]
  by_cases q : 0 < dv (D i)
  · rw [decide_eq_false (show ¬ dv (FP.dmul 4611686018427387904 (D i)) < dv t from fun z => h1 ⟨q, z⟩)]; simp
  · rw [decide_eq_false q]; simp
/-- a piece's length, outside (o not 0) or inside -/
def lenOf (l d : UInt64) (o : Int32) (t : UInt64) : UInt64 := if 0 < dv d then FP.ddiv (FP.dmul l (if o = 0 then FP.dsub d (FP.ddiv t 4611686018427387904) else FP.dadd d (FP.ddiv t 4611686018427387904))) d else l
theorem lenOf_dB {l d t : UInt64} {o : Int32} (hl : dB 1060 l) (hd : dB 1060 d) (h1 : 0 < dv d → dL 1023 d) (ht : dB 1060 t) : dB 1101 (lenOf l d o t) := by
  have c0 : dB 1025 (4611686018427387904 : UInt64) := by unfold dB; decide +kernel
  have cL : dL 1024 (4611686018427387904 : UInt64) := by unfold dL; decide +kernel
  have c1 := dB.div (M := 1060) ht cL c0 (by omega) (by omega) (by omega) (by omega)
  unfold lenOf
  split
  · rename_i q
    have c2 : dB 1062 (if o = 0 then FP.dsub d (FP.ddiv t 4611686018427387904) else FP.dadd d (FP.ddiv t 4611686018427387904)) := by
      split
      · exact dB.sub hd c1 (M := 1060) (by omega) (by omega) (by omega)
      · exact dB.add hd c1 (M := 1060) (by omega) (by omega) (by omega)
    exact dB.div (dB.mul (M := 1100) hl c2 (by omega) (by omega) (by omega)) (h1 q) hd (by omega) (by omega) (by omega) (by omega)
  · exact hl.mono (by omega)
def sumL (L D : Nat → UInt64) (o : Int32) (t : UInt64) : Nat → UInt64
  | 0 => FP.dconst0
  | k + 1 => FP.dadd (sumL L D o t k) (lenOf (L k) (D k) o t)
/-! kerfs -/
def few (a c : UInt64) (m : Nat) : Prop := dv (FP.dmul (FP.i2d (nI m)) c) < dv a
/-- what a kerf closes, as it can be: its count is at most 65535 -/
def kerfOK (a c : UInt64) : Prop := dB 1060 a ∧ dB 1120 c ∧ 0 < dv c ∧ ¬ few a c 65535
theorem few_less {a c : UInt64} (h : kerfOK a c) {i j : Nat} (h0 : 1 ≤ i) (hij : i ≤ j) (hj : j < 2 ^ 31) (hf : few a c j) : few a c i := by
  obtain ⟨h1, h2, h3, -⟩ := h
  rcases Nat.lt_or_ge i j with q | q
  · have f1 := (i2d_dB (nI i)).fin (by decide)
    have f2 := (i2d_dB (nI j)).fin (by decide)
    have c1 := dB.mul (M := 1200) (i2d_dB (nI i)) h2 (by omega) (by omega) (by omega)
    have c2 := dB.mul (M := 1200) (i2d_dB (nI j)) h2 (by omega) (by omega) (by omega)
    have := mul_mono f1 (h2.fin (by decide)) (i2d_pos h0 (by omega)) h3 f2 (h2.fin (by decide)) (i2d_pos (by omega) hj) h3 (c1.fin (by decide)) (c2.fin (by decide)) (by
      rw [dv_i2dN (by omega), dv_i2dN hj]
      refine Int.mul_lt_mul_of_pos_right ?_ h3
      exact Int.mul_lt_mul_of_pos_right (by omega) U1_pos)
    unfold few at hf ⊢
    omega
  · rw [show i = j by omega]; exact hf
/-- the least count that isn't too few -/
def kerfN (a c : UInt64) (N : Nat) : Prop := 1 ≤ N ∧ N ≤ 65535 ∧ ¬ few a c N ∧ ∀ m, 1 ≤ m → m < N → few a c m
theorem kerfN_one {a c : UInt64} {N M : Nat} (h : kerfN a c N) (g : kerfN a c M) : N = M := by
  obtain ⟨h1, -, h3, h4⟩ := h
  obtain ⟨g1, -, g3, g4⟩ := g
  rcases Nat.lt_trichotomy N M with q | q | q
  · exact absurd (g4 N h1 q) h3
  · exact q
  · exact absurd (h4 M g1 q) g3
/-! Euclid -/
theorem mod_half {a b : Nat} (hb : 0 < b) (h : b ≤ a) : 2 * (a % b) ≤ a := by
  have h1 := Nat.mod_lt a hb
  have h2 := Nat.div_add_mod a b
  have h3 : 1 ≤ a / b := (Nat.one_le_div_iff hb).mpr h
  have h4 : b * 1 ≤ b * (a / b) := Nat.mul_le_mul_left b h3
  omega
theorem eu_step {d l i : Nat} (hl : 0 < l) (hdl : l ≤ d) (h : d * l * 2 ^ i ≤ 2 ^ 40) : l * (d % l) * 2 ^ (i + 1) ≤ 2 ^ 40 := by
  have h1 := mod_half hl hdl
  have h2 : l * (d % l) * 2 ^ (i + 1) = l * (2 * (d % l)) * 2 ^ i := by
    rw [Nat.pow_succ, Nat.mul_comm (2 ^ i) 2, ← Nat.mul_assoc, Nat.mul_assoc l (d % l) 2, Nat.mul_comm (d % l) 2]
  rw [h2]
  refine Nat.le_trans (Nat.mul_le_mul_right _ ?_) h
  rw [Nat.mul_comm d l]
  exact Nat.mul_le_mul_left l h1
theorem eu_end {d l i : Nat} (hi : 64 ≤ i) (hdl : l ≤ d) (h : d * l * 2 ^ i ≤ 2 ^ 40) : l = 0 := by
  rcases Nat.eq_zero_or_pos l with q | q
  · exact q
  · exfalso
    have h1 : 1 ≤ d * l := Nat.mul_pos (by omega) q
    have h2 : 2 ^ 64 ≤ 2 ^ i := Nat.pow_le_pow_right (by decide) hi
    have h3 : 1 * 2 ^ 64 ≤ d * l * 2 ^ i := Nat.mul_le_mul h1 h2
    have h4 : ¬ (2 : Nat) ^ 64 ≤ 2 ^ 40 := by decide
    omega
theorem eu_gcd {d l : Nat} (hl : 0 < l) : Nat.gcd l (d % l) = Nat.gcd d l := by
  rw [Nat.gcd_comm d l, Nat.gcd_rec l d, Nat.gcd_comm]
/-! powers of two, down -/
def p2 (q : Nat) : Prop := ∃ j, j ≤ 16 ∧ q = 2 ^ j
theorem p2_half {q : Nat} (h : p2 q) (h1 : 1 < q) : ∃ g, q = 2 * g ∧ p2 g ∧ 1 ≤ g := by
  obtain ⟨j, hj, rfl⟩ := h
  cases j with
  | zero => exact absurd h1 (by decide)
  | succ j => exact ⟨2 ^ j, by rw [Nat.pow_succ, Nat.mul_comm], ⟨j, by omega, rfl⟩, Nat.two_pow_pos j⟩
theorem frm_dB {s w : UInt64} (hw : dB 1060 w) : ∀ k, k ≤ 40 → dB (1060 + 2 * k) (frm s w k).1 ∧ dB (1060 + 2 * k) (frm s w k).2 := by
  intro k
  induction k with
  | zero => intro _; exact ⟨dB_d0.mono (by omega), hw⟩
  | succ k ih =>
    intro hk
    obtain ⟨h1, h2⟩ := ih (by omega)
    have c0 : dB 1025 (4611686018427387904 : UInt64) := by unfold dB; decide +kernel
    have cL : dL 1024 (4611686018427387904 : UInt64) := by unfold dL; decide +kernel
    have c1 := dB.add h1 h2 (M := 1060 + 2 * k) (by omega) (by omega) (by omega)
    have c2 := dB.div (M := 1060 + 2 * k + 2) c1 cL c0 (by omega) (by omega) (by omega) (by omega)
    unfold frm
    split
    · exact ⟨c2.mono (by omega), h2.mono (by omega)⟩
    · exact ⟨h1.mono (by omega), c2.mono (by omega)⟩
theorem sumL_dB {L D : Nat → UInt64} {n : Nat} {o : Int32} {t : UInt64} (h : piecesOK L D n) (ht : dB 1060 t) : ∀ k, k ≤ n → dB (1110 + 2 * k) (sumL L D o t k) := by
  intro k
  induction k with
  | zero => intro _; exact dB_d0.mono (by omega)
  | succ k ih =>
    intro hk
    have h1 := h.1
    have c1 := lenOf_dB (o := o) (h.2 k (by omega)).1 (h.2 k (by omega)).2.1 (fun q => h.dL (by omega) q) ht
    have c2 := dB.add (ih (by omega)) c1 (M := 1110 + 2 * k) (by omega) (by omega) (by omega)
    exact c2.mono (by omega)
theorem strp_go {T R : Nat → UInt64} {n f k : Nat} {t w : UInt64} (hn : dv ((rRad T R (FP.ddiv t (FP.i2d (nI k))) n).getD noR) < 0 ↔ rRad T R (FP.ddiv t (FP.i2d (nI k))) n = none) (h : dv ((rRad T R (FP.ddiv t (FP.i2d (nI k))) n).getD noR) < 0 ∨ ¬ dv ((rRad T R (FP.ddiv t (FP.i2d (nI k))) n).getD noR) ≤ dv w) : strp T R n t w (f + 1) k = strp T R n t w f (k + 1) := by
  cases e : rRad T R (FP.ddiv t (FP.i2d (nI k))) n with
  | none => exact strp_no e
  | some r =>
    rw [e] at h hn
    refine strp_more e ?_
    rcases h with h | h
    · exact absurd (hn.mp h) (by intro z; cases z)
    · exact h
theorem strp_stop {T R : Nat → UInt64} {n f k : Nat} {t w : UInt64} (hn : dv ((rRad T R (FP.ddiv t (FP.i2d (nI k))) n).getD noR) < 0 ↔ rRad T R (FP.ddiv t (FP.i2d (nI k))) n = none) (h0 : ¬ dv ((rRad T R (FP.ddiv t (FP.i2d (nI k))) n).getD noR) < 0) (h : dv ((rRad T R (FP.ddiv t (FP.i2d (nI k))) n).getD noR) ≤ dv w) : strp T R n t w (f + 1) k = nI k := by
  cases e : rRad T R (FP.ddiv t (FP.i2d (nI k))) n with
  | none => exact absurd (hn.mpr e) h0
  | some r =>
    rw [e] at h
    exact strp_yes e h
