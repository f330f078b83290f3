/-! doubles: values in units of 2^-1074, magnitudes, exact results, products that grow with their factors -/
def dv (a : UInt64) : Int := FP.Core.zval FP.Core.b64 (FP.Core.val64 a)
def nn (a : UInt64) : Prop := FP.Core.val64 a ≠ .nan
def dB (K : Nat) (a : UInt64) : Prop := a.toNat % 2 ^ 63 < K * 2 ^ 52
def U1 : Int := ((2 ^ 1074 : Nat) : Int)
def U8 : Int := ((2 ^ 1071 : Nat) : Int)
theorem U1_pos : 0 < U1 := by decide +kernel
theorem U8_pos : 0 < U8 := by decide +kernel
theorem U1_8 : U1 = 8 * U8 := by decide +kernel
theorem nn.ok {a : UInt64} (h : nn a) : vf_n64 a := by
  have h1 : a.toNat % 2 ^ 63 ≤ 9218868437227405312 := (FP.Core.ne_nan a).mp h
  show a &&& 0x7fffffffffffffff ≤ 0x7ff0000000000000
  rw [UInt64.le_iff_toNat_le, FP.Core.mask_toNat]
  exact Nat.le_trans h1 (by decide)
theorem dB.mono {K J : Nat} {a : UInt64} (h : dB K a) (hk : K ≤ J) : dB J a := Nat.lt_of_lt_of_le h (Nat.mul_le_mul_right _ hk)
theorem dB.fin {K : Nat} {a : UInt64} (h : dB K a) (hK : K ≤ 2047) : FP.Core.DFin a := FP.Core.fin_of_lt h hK
theorem dB.nn {K : Nat} {a : UInt64} (h : dB K a) (hK : K ≤ 2047) : nn a := (h.fin hK).ne_nan
theorem dB.ok {K : Nat} {a : UInt64} (h : dB K a) (hK : K ≤ 2047) : vf_n64 a := nn.ok (h.nn hK)
theorem dB.add {K J M : Nat} {a b : UInt64} (ha : dB K a) (hb : dB J b) (h1 : K ≤ M) (h2 : J ≤ M) (hM : M ≤ 2047) : dB (M + 2) (FP.dadd a b) := FP.Core.dadd_mag (ha.mono h1) (hb.mono h2) hM
theorem dB.sub {K J M : Nat} {a b : UInt64} (ha : dB K a) (hb : dB J b) (h1 : K ≤ M) (h2 : J ≤ M) (hM : M ≤ 2047) : dB (M + 2) (FP.dsub a b) := FP.Core.dsub_mag (ha.mono h1) (hb.mono h2) hM
theorem dB.mul {K J M : Nat} {a b : UInt64} (ha : dB K a) (hb : dB J b) (hK : K ≤ 2047) (hJ : J ≤ 2047) (hM : K + J - 1025 + 3 ≤ M) : dB M (FP.dmul a b) := dB.mono (FP.Core.dmul_mag ha hb hK hJ) hM
/-- a divisor: at least 2^(L-1023) -/
def dL (L : Nat) (b : UInt64) : Prop := L * 2 ^ 52 ≤ b.toNat % 2 ^ 63
theorem dB.div {K J L M : Nat} {a b : UInt64} (ha : dB K a) (hb : dL L b) (hb2 : dB J b) (hK : K ≤ 2047) (hJ : J ≤ 2047) (hL : 1 ≤ L) (hM : K + (1074 - 52 - 1) - L + 3 ≤ M) : dB M (FP.ddiv a b) := dB.mono (FP.Core.ddiv_mag ha hb (hb2.mono hJ) hK hL) hM
theorem i2d_dB (x : Int32) : dB 1056 (FP.i2d x) := FP.Core.i2d_mag x
theorem cv {x y : UInt64} (op : CmpOp) (hx : nn x) (hy : nn y) : (dv x < dv y ∧ Op.cmpValue (FP.dcmp x y) op = -1) ∨ (dv x = dv y ∧ Op.cmpValue (FP.dcmp x y) op = 0) ∨ (dv y < dv x ∧ Op.cmpValue (FP.dcmp x y) op = 1) := by
  have h : FP.dcmp x y = some (compare (dv x) (dv y)) := FP.Core.dcmp_zval hx hy
  rw [h]
  rcases Int.lt_trichotomy (dv x) (dv y) with q | q | q
  · exact Or.inl ⟨q, by rw [(FP.Core.compare_lt_iff _ _).mpr q]; rfl⟩
  · exact Or.inr (Or.inl ⟨q, by rw [(FP.Core.compare_eq_iff _ _).mpr q]; rfl⟩)
  · exact Or.inr (Or.inr ⟨q, by rw [(FP.Core.compare_gt_iff _ _).mpr q]; rfl⟩)
theorem cv_lt {x y : UInt64} {op : CmpOp} (hx : nn x) (hy : nn y) : Op.cmpValue (FP.dcmp x y) op < 0 ↔ dv x < dv y := by
  rcases cv op hx hy with ⟨q, h⟩ | ⟨q, h⟩ | ⟨q, h⟩ <;> rw [h] <;> constructor <;> intro h9 <;> first | omega | exact absurd h9 (by decide) | decide
theorem cv_le {x y : UInt64} {op : CmpOp} (hx : nn x) (hy : nn y) : Op.cmpValue (FP.dcmp x y) op ≤ 0 ↔ dv x ≤ dv y := by
  rcases cv op hx hy with ⟨q, h⟩ | ⟨q, h⟩ | ⟨q, h⟩ <;> rw [h] <;> constructor <;> intro h9 <;> first | omega | exact absurd h9 (by decide) | decide
theorem cv_gt {x y : UInt64} {op : CmpOp} (hx : nn x) (hy : nn y) : 0 < Op.cmpValue (FP.dcmp x y) op ↔ dv y < dv x := by
  rcases cv op hx hy with ⟨q, h⟩ | ⟨q, h⟩ | ⟨q, h⟩ <;> rw [h] <;> constructor <;> intro h9 <;> first | omega | exact absurd h9 (by decide) | decide
theorem cv_ge {x y : UInt64} {op : CmpOp} (hx : nn x) (hy : nn y) : 0 ≤ Op.cmpValue (FP.dcmp x y) op ↔ dv y ≤ dv x := by
  rcases cv op hx hy with ⟨q, h⟩ | ⟨q, h⟩ | ⟨q, h⟩ <;> rw [h] <;> constructor <;> intro h9 <;> first | omega | exact absurd h9 (by decide) | decide
theorem cv_eq {x y : UInt64} {op : CmpOp} (hx : nn x) (hy : nn y) : Op.cmpValue (FP.dcmp x y) op = 0 ↔ dv x = dv y := by
  rcases cv op hx hy with ⟨q, h⟩ | ⟨q, h⟩ | ⟨q, h⟩ <;> rw [h] <;> constructor <;> intro h9 <;> first | omega | exact absurd h9 (by decide) | decide
/-! sums, differences -/
theorem dv_add_le {a b V : UInt64} (ha : FP.Core.DFin a) (hb : FP.Core.DFin b) (hV : nn V) (h : dv a + dv b ≤ dv V) : dv (FP.dadd a b) ≤ dv V := by
  show FP.Core.zval FP.Core.b64 (FP.Core.val64 (FP.Core.dadd a b)) ≤ _
  rw [FP.Core.val64_dadd]
  exact FP.Core.sum_le FP.Core.good_b64 ha hb (FP.Core.val64_fits a) (FP.Core.val64_fits b) (FP.Core.val64_fits V) hV h
theorem dv_add_ge {a b V : UInt64} (ha : FP.Core.DFin a) (hb : FP.Core.DFin b) (hV : nn V) (h : dv V ≤ dv a + dv b) : dv V ≤ dv (FP.dadd a b) := by
  show _ ≤ FP.Core.zval FP.Core.b64 (FP.Core.val64 (FP.Core.dadd a b))
  rw [FP.Core.val64_dadd]
  exact FP.Core.sum_ge FP.Core.good_b64 ha hb (FP.Core.val64_fits a) (FP.Core.val64_fits b) (FP.Core.val64_fits V) hV h
theorem neg_fin {b : UInt64} (hb : FP.Core.DFin b) : ∃ s c q, FP.Core.negate (FP.Core.val64 b) = .fin s c q := by
  obtain ⟨s, c, q, h⟩ := hb
  exact ⟨!s, c, q, by rw [h]; rfl⟩
theorem dv_sub_le {a b V : UInt64} (ha : FP.Core.DFin a) (hb : FP.Core.DFin b) (hV : nn V) (h : dv a - dv b ≤ dv V) : dv (FP.dsub a b) ≤ dv V := by
  show FP.Core.zval FP.Core.b64 (FP.Core.val64 (FP.Core.dsub a b)) ≤ _
  rw [FP.Core.val64_dsub]
  exact FP.Core.sum_le FP.Core.good_b64 ha (neg_fin hb) (FP.Core.val64_fits a) (FP.Core.negate_fits (FP.Core.val64_fits b)) (FP.Core.val64_fits V) hV (by rw [FP.Core.zval_negate]; exact h)
theorem dv_sub_ge {a b V : UInt64} (ha : FP.Core.DFin a) (hb : FP.Core.DFin b) (hV : nn V) (h : dv V ≤ dv a - dv b) : dv V ≤ dv (FP.dsub a b) := by
  show _ ≤ FP.Core.zval FP.Core.b64 (FP.Core.val64 (FP.Core.dsub a b))
  rw [FP.Core.val64_dsub]
  exact FP.Core.sum_ge FP.Core.good_b64 ha (neg_fin hb) (FP.Core.val64_fits a) (FP.Core.negate_fits (FP.Core.val64_fits b)) (FP.Core.val64_fits V) hV (by rw [FP.Core.zval_negate]; exact h)
/-! products -/
theorem U1_q : ((2 ^ (FP.Core.b64.qmin - 2 * FP.Core.b64.qmin).toNat : Nat) : Int) = U1 := by
  rw [FP.Core.qmin_b64]; rfl
theorem prod_bits {a b : UInt64} (ha : FP.Core.DFin a) (hb : FP.Core.DFin b) : ∃ sg n e, FP.Core.exactProduct (FP.Core.val64 a) (FP.Core.val64 b) = .fin sg n e ∧ 2 * FP.Core.b64.qmin ≤ e ∧ FP.Core.signed sg (FP.Core.inUnits n e (2 * FP.Core.b64.qmin)) = dv a * dv b := by
  obtain ⟨s, c, q, h1⟩ := ha
  obtain ⟨t, d, r, h2⟩ := hb
  have fa := FP.Core.val64_fits a
  have fb := FP.Core.val64_fits b
  unfold dv
  rw [h1] at fa ⊢
  rw [h2] at fb ⊢
  obtain ⟨e1, e2, e3⟩ := FP.Core.product_units fa fb
  exact ⟨_, _, _, e1, e2, by rw [e3, FP.Core.signed_xor]; rfl⟩
theorem dv_mul_le {a b V : UInt64} (ha : FP.Core.DFin a) (hb : FP.Core.DFin b) (hV : nn V) (h : dv a * dv b ≤ dv V * U1) : dv (FP.dmul a b) ≤ dv V := by
  obtain ⟨sg, n, e, e1, e2, e3⟩ := prod_bits ha hb
  show FP.Core.zval FP.Core.b64 (FP.Core.val64 (FP.Core.dmul a b)) ≤ _
  rw [FP.Core.val64_dmul, e1]
  refine FP.Core.zval_round_le FP.Core.good_b64 (FP.Core.val64_fits V) hV (e0 := 2 * FP.Core.b64.qmin) (by rw [FP.Core.qmin_b64]; decide) e2 ?_
  rw [e3, U1_q]
  exact h
theorem dv_mul_ge {a b V : UInt64} (ha : FP.Core.DFin a) (hb : FP.Core.DFin b) (hV : nn V) (h : dv V * U1 ≤ dv a * dv b) : dv V ≤ dv (FP.dmul a b) := by
  obtain ⟨sg, n, e, e1, e2, e3⟩ := prod_bits ha hb
  show _ ≤ FP.Core.zval FP.Core.b64 (FP.Core.val64 (FP.Core.dmul a b))
  rw [FP.Core.val64_dmul, e1]
  refine FP.Core.zval_round_ge FP.Core.good_b64 (FP.Core.val64_fits V) hV (e0 := 2 * FP.Core.b64.qmin) (by rw [FP.Core.qmin_b64]; decide) e2 ?_
  rw [e3, U1_q]
  exact h
/-! quotients -/
theorem q_signed {s t : Bool} {N x v P : Nat} (hP : 0 < P) (hle : N ≤ v * P → x ≤ v) (hge : v * P ≤ N → v ≤ x) : (FP.Core.signed s N ≤ FP.Core.signed t (v * P) → FP.Core.signed s x ≤ FP.Core.signed t v) ∧ (FP.Core.signed t (v * P) ≤ FP.Core.signed s N → FP.Core.signed t v ≤ FP.Core.signed s x) := by
  have hz : v * P = 0 → v = 0 := by
    intro h
    rcases Nat.mul_eq_zero.mp h with h | h <;> omega
  generalize v * P = w at *
  cases s <;> cases t <;> simp only [FP.Core.signed, if_true, Bool.false_eq_true, if_false] <;> constructor <;> intro h
  · have := hle (by omega); omega
  · have := hge (by omega); omega
  · have := hle (by omega); have := hz (by omega); omega
  · omega
  · omega
  · have := hle (by omega); have := hz (by omega); omega
  · have := hge (by omega); omega
  · have := hle (by omega); omega
theorem quot_bits {a b V : UInt64} (ha : FP.Core.DFin a) (hb : FP.Core.DFin b) (hb0 : 0 < dv b) (hV : nn V) : (dv a * U1 ≤ dv V * dv b → dv (FP.ddiv a b) ≤ dv V) ∧ (dv V * dv b ≤ dv a * U1 → dv V ≤ dv (FP.ddiv a b)) := by
  obtain ⟨s, c, q, h1⟩ := ha
  obtain ⟨t, d, r, h2⟩ := hb
  have fa := FP.Core.val64_fits a
  have fb := FP.Core.val64_fits b
  have fV := FP.Core.val64_fits V
  show (_ → FP.Core.zval FP.Core.b64 (FP.Core.val64 (FP.Core.ddiv a b)) ≤ _) ∧ (_ → _ ≤ FP.Core.zval FP.Core.b64 (FP.Core.val64 (FP.Core.ddiv a b)))
  unfold dv nn at *
  rw [FP.Core.val64_ddiv]
  rw [h1] at fa ⊢
  rw [h2] at fb hb0 ⊢
  generalize FP.Core.val64 V = W at *
  have hq := fa.2.1
  have hr := fb.2.1
  have hqm := FP.Core.qmin_b64
  have ht : t = false ∧ 0 < d := by
    cases t with
    | false =>
      refine ⟨rfl, Nat.pos_of_ne_zero fun h0 => ?_⟩
      subst h0
      simp [FP.Core.zval, FP.Core.zmag, FP.Core.sgn, FP.Core.signed, FP.Core.inUnits] at hb0
    | true =>
      exfalso
      simp only [FP.Core.zval, FP.Core.zmag, FP.Core.sgn, FP.Core.signed, if_true] at hb0
      omega
  obtain ⟨rfl, hd⟩ := ht
  have hdne : ¬ d = 0 := by omega
  simp only [FP.Core.quotient, if_neg hdne]
  have hsx : (s != false) = s := by cases s <;> rfl
  rw [hsx]
  have hsg : FP.Core.zval FP.Core.b64 (FP.Core.roundRatio FP.Core.b64 s c d (q - r)) = FP.Core.signed s (FP.Core.zmag FP.Core.b64 (FP.Core.roundRatio FP.Core.b64 s c d (q - r))) := by
    unfold FP.Core.zval
    rw [FP.Core.sgn_roundRatio]
  rw [hsg]
  have hle := FP.Core.zmag_roundRatio_le FP.Core.good_b64 (s := s) (A := c) (B := d) (e := q - r) (e0 := 2 * FP.Core.b64.qmin - r) hd fV hV (by omega) (by omega)
  have hge := FP.Core.zmag_roundRatio_ge FP.Core.good_b64 (s := s) (A := c) (B := d) (e := q - r) (e0 := 2 * FP.Core.b64.qmin - r) hd fV (by omega) (by omega)
  have eN : FP.Core.inUnits c (q - r) (2 * FP.Core.b64.qmin - r) = FP.Core.inUnits c q FP.Core.b64.qmin * 2 ^ 1074 := by
    unfold FP.Core.inUnits
    rw [Nat.mul_assoc, ← Nat.pow_add]
    congr 2
    omega
  have eP : ∀ v : Nat, v * 2 ^ (FP.Core.b64.qmin - (2 * FP.Core.b64.qmin - r)).toNat * d = v * FP.Core.inUnits d r FP.Core.b64.qmin := by
    intro v
    unfold FP.Core.inUnits
    rw [Nat.mul_assoc, Nat.mul_comm _ d]
    congr 3
    omega
  rw [eN, eP] at hle hge
  have hP : 0 < FP.Core.inUnits d r FP.Core.b64.qmin := Nat.mul_pos hd (Nat.two_pow_pos _)
  have key := q_signed (s := s) (t := FP.Core.sgn W) hP hle hge
  have l1 : FP.Core.zval FP.Core.b64 (.fin s c q) * U1 = FP.Core.signed s (FP.Core.inUnits c q FP.Core.b64.qmin * 2 ^ 1074) := by
    rw [FP.Core.signed_mul]; rfl
  have l2 : FP.Core.zval FP.Core.b64 W * FP.Core.zval FP.Core.b64 (.fin false d r) = FP.Core.signed (FP.Core.sgn W) (FP.Core.zmag FP.Core.b64 W * FP.Core.inUnits d r FP.Core.b64.qmin) := by
    rw [FP.Core.signed_mul]; rfl
  rw [l1, l2]
  exact key
theorem dv_div_le {a b V : UInt64} (ha : FP.Core.DFin a) (hb : FP.Core.DFin b) (hb0 : 0 < dv b) (hV : nn V) (h : dv a * U1 ≤ dv V * dv b) : dv (FP.ddiv a b) ≤ dv V := (quot_bits ha hb hb0 hV).1 h
theorem dv_div_ge {a b V : UInt64} (ha : FP.Core.DFin a) (hb : FP.Core.DFin b) (hb0 : 0 < dv b) (hV : nn V) (h : dv V * dv b ≤ dv a * U1) : dv V ≤ dv (FP.ddiv a b) := (quot_bits ha hb hb0 hV).2 h
/-! a double of a given value -/
theorem mk_V (n : Int) (k : Nat) (hn : n.natAbs < 2 ^ 53) (hk : k ≤ 2000) : ∃ V : UInt64, FP.Core.DFin V ∧ dv V = n * ((2 ^ k : Nat) : Int) := by
  have hqm := FP.Core.qmin_b64
  have hqx : FP.Core.b64.qmax = 971 := by decide
  obtain ⟨c', q', h1, h2⟩ := FP.Core.round_exact FP.Core.good_b64 (decide (n < 0)) (c := n.natAbs) (q := (k : Int) - 1074) hn (by omega) (by omega)
  have hf := FP.Core.round_fits FP.Core.good_b64 (.fin (decide (n < 0)) n.natAbs ((k : Int) - 1074))
  refine ⟨FP.Core.of64 (FP.Core.round FP.Core.b64 (.fin (decide (n < 0)) n.natAbs ((k : Int) - 1074))), ?_, ?_⟩
  · exact ⟨_, c', q', by rw [FP.Core.val64_of64 hf, h1]⟩
  · unfold dv
    rw [FP.Core.val64_of64 hf, h1]
    show FP.Core.signed (decide (n < 0)) (FP.Core.inUnits c' q' FP.Core.b64.qmin) = _
    rw [h2]
    unfold FP.Core.inUnits
    rw [FP.Core.signed_mul, show ((k : Int) - 1074 - FP.Core.b64.qmin).toNat = k by omega]
    congr 1
    by_cases h0 : n < 0
    · rw [decide_eq_true h0]; simp only [FP.Core.signed, if_true]; omega
    · rw [decide_eq_false h0]; simp only [FP.Core.signed, Bool.false_eq_true, if_false]; omega
theorem dv_0 : dv 0 = 0 := FP.Core.zval64_zero
theorem dv_d0 : dv FP.dconst0 = 0 := FP.Core.zval64_zero
theorem nn_0 : nn 0 := by show FP.Core.val64 0 ≠ .nan; rw [FP.Core.val64_zero]; exact FP.Core.Datum.noConfusion
theorem dv_mul_nonneg {a b : UInt64} (ha : FP.Core.DFin a) (hb : FP.Core.DFin b) (ha0 : 0 ≤ dv a) (hb0 : 0 ≤ dv b) : 0 ≤ dv (FP.dmul a b) := by
  have h := dv_mul_ge ha hb nn_0 (by rw [dv_0, Int.zero_mul]; exact Int.mul_nonneg ha0 hb0)
  rwa [dv_0] at h
theorem dv_add_nonneg {a b : UInt64} (ha : FP.Core.DFin a) (hb : FP.Core.DFin b) (ha0 : 0 ≤ dv a) (hb0 : 0 ≤ dv b) : 0 ≤ dv (FP.dadd a b) := by
  have h := dv_add_ge ha hb nn_0 (by rw [dv_0]; omega)
  rwa [dv_0] at h
theorem dv_div_nonneg {a b : UInt64} (ha : FP.Core.DFin a) (hb : FP.Core.DFin b) (ha0 : 0 ≤ dv a) (hb0 : 0 < dv b) : 0 ≤ dv (FP.ddiv a b) := by
  have h := dv_div_ge ha hb hb0 nn_0 (by rw [dv_0, Int.zero_mul]; exact Int.mul_nonneg ha0 (Int.le_of_lt U1_pos))
  rwa [dv_0] at h
theorem pos_bits {a : UInt64} (ha : FP.Core.DFin a) (h0 : 0 < dv a) : ∃ c q, FP.Core.val64 a = .fin false c q ∧ dv a = (FP.Core.inUnits c q FP.Core.b64.qmin : Int) := by
  obtain ⟨s, c, q, h⟩ := ha
  unfold dv at h0 ⊢
  rw [h] at h0 ⊢
  cases s with
  | false => exact ⟨c, q, rfl, rfl⟩
  | true =>
    exfalso
    simp only [FP.Core.zval, FP.Core.zmag, FP.Core.sgn, FP.Core.signed, if_true] at h0
    omega
theorem mul_near {a b V : UInt64} (ha : FP.Core.DFin a) (hb : FP.Core.DFin b) (ha0 : 0 < dv a) (hb0 : 0 < dv b) (hR : FP.Core.DFin (FP.dmul a b)) (hV : FP.Core.DFin V) (hV0 : 0 ≤ dv V) :
    (dv a * dv b - dv (FP.dmul a b) * U1).natAbs ≤ (dv a * dv b - dv V * U1).natAbs := by
  obtain ⟨c, q, h1, e1⟩ := pos_bits ha ha0
  obtain ⟨d, r, h2, e2⟩ := pos_bits hb hb0
  have fa := FP.Core.val64_fits a
  have fb := FP.Core.val64_fits b
  have fV := FP.Core.val64_fits V
  have fR := FP.Core.val64_fits (FP.dmul a b)
  have hqm := FP.Core.qmin_b64
  rw [h1] at fa
  rw [h2] at fb
  obtain ⟨g1, g2, g3⟩ := FP.Core.product_units fa fb
  have hm : FP.Core.val64 (FP.dmul a b) = FP.Core.roundRatio FP.Core.b64 false (c * d) 1 (q + r) := by
    show FP.Core.val64 (FP.Core.dmul a b) = _
    rw [FP.Core.val64_dmul, h1, h2, g1]
    rfl
  obtain ⟨t, cR, qR, h3⟩ := hR
  obtain ⟨u, cV, qV, h4⟩ := hV
  have hsR : t = false := by
    have := FP.Core.sgn_roundRatio FP.Core.b64 false (c * d) 1 (q + r)
    rw [← hm, h3] at this
    exact this
  subst hsR
  rw [h4] at fV
  rw [h3] at fR
  have hd := FP.Core.roundRatio_nearest FP.Core.good_b64 (by decide) (hm.symm.trans h3) fV.1 fV.2.1 (e0 := 2 * FP.Core.b64.qmin) (by omega) g2
  unfold FP.Core.distance at hd
  rw [g3, FP.Core.units_fin fR (by omega), FP.Core.units_fin fV (by omega)] at hd
  have eR : dv (FP.dmul a b) = (FP.Core.zmag FP.Core.b64 (.fin false cR qR) : Int) := by unfold dv; rw [h3]; rfl
  have eV : dv V = (FP.Core.zmag FP.Core.b64 (.fin u cV qV) : Int) := by
    unfold dv at hV0 ⊢
    rw [h4] at hV0 ⊢
    cases u with
    | false => rfl
    | true =>
      simp only [FP.Core.zval, FP.Core.sgn, FP.Core.signed, if_true] at hV0 ⊢
      omega
  rw [eR, eV, e1, e2, ← U1_q]
  rw [Int.natCast_mul, Int.natCast_mul, Int.natCast_mul] at hd
  simp only [FP.Core.zmag] at hd ⊢
  simpa using hd
/-- a greater exact product, and no smaller a rounded one -/
theorem mul_mono {a b x y : UInt64} (ha : FP.Core.DFin a) (hb : FP.Core.DFin b) (ha0 : 0 < dv a) (hb0 : 0 < dv b) (hx : FP.Core.DFin x) (hy : FP.Core.DFin y) (hx0 : 0 < dv x) (hy0 : 0 < dv y) (hR : FP.Core.DFin (FP.dmul a b)) (hQ : FP.Core.DFin (FP.dmul x y)) (h : dv a * dv b < dv x * dv y) : dv (FP.dmul a b) ≤ dv (FP.dmul x y) := by
  refine Int.not_lt.mp (fun hlt => ?_)
  have n1 := mul_near ha hb ha0 hb0 hR hQ (dv_mul_nonneg hx hy (by omega) (by omega))
  have n2 := mul_near hx hy hx0 hy0 hQ hR (dv_mul_nonneg ha hb (by omega) (by omega))
  by_cases c1 : dv a * dv b ≤ dv (FP.dmul x y) * U1
  · have := dv_mul_le ha hb hQ.ne_nan c1; omega
  by_cases c2 : dv (FP.dmul a b) * U1 ≤ dv x * dv y
  · have := dv_mul_ge hx hy hR.ne_nan c2; omega
  generalize dv a * dv b = P at *
  generalize dv x * dv y = P2 at *
  generalize dv (FP.dmul x y) * U1 = X at *
  generalize dv (FP.dmul a b) * U1 = Y at *
  omega
/-! eighths: what the script's numbers are -/
def d8 (n : Int) (a : UInt64) : Prop := dB 1060 a ∧ dv a = n * U8
theorem dv_8th : dv 4593671619917905920 = U8 := by decide +kernel
theorem dB_8th : dB 1021 4593671619917905920 := by unfold dB; decide +kernel
theorem dv_i2d (x : Int32) : dv (FP.i2d x) = x.toInt * U1 := FP.Core.DInt_zval (FP.Core.i2d_int x)
theorem d8.fin {n : Int} {a : UInt64} (h : d8 n a) : FP.Core.DFin a := h.1.fin (by decide)
theorem d8.nn {n : Int} {a : UInt64} (h : d8 n a) : nn a := h.1.nn (by decide)
theorem d8_arg (x : Int32) : d8 x.toInt (FP.dmul (FP.i2d x) 4593671619917905920) := by
  refine ⟨dB.mul (i2d_dB x) dB_8th (by decide) (by decide) (by decide), ?_⟩
  have hx := FP.Core.int32_abs x
  obtain ⟨V, hV, eV⟩ := mk_V x.toInt 1071 (by omega) (by decide)
  have eV : dv V = x.toInt * U8 := eV
  have e : dv (FP.i2d x) * dv 4593671619917905920 = dv V * U1 := by
    rw [dv_i2d, dv_8th, eV, Int.mul_assoc, Int.mul_assoc, Int.mul_comm U1 U8]
  have h1 := dv_mul_le ((i2d_dB x).fin (by decide)) (dB_8th.fin (by decide)) hV.ne_nan (Int.le_of_eq e)
  have h2 := dv_mul_ge ((i2d_dB x).fin (by decide)) (dB_8th.fin (by decide)) hV.ne_nan (Int.le_of_eq e.symm)
  omega
theorem d8_sub {n k : Int} {a b : UInt64} (ha : d8 n a) (hb : d8 k b) (h : (n - k).natAbs < 2 ^ 53) : dB 1062 (FP.dsub a b) ∧ dv (FP.dsub a b) = (n - k) * U8 := by
  refine ⟨dB.sub ha.1 hb.1 (by decide) (by decide) (by decide), ?_⟩
  obtain ⟨V, hV, eV⟩ := mk_V (n - k) 1071 h (by decide)
  have eV : dv V = (n - k) * U8 := eV
  have e : dv a - dv b = dv V := by rw [ha.2, hb.2, eV, Int.sub_mul]
  have h1 := dv_sub_le ha.fin hb.fin hV.ne_nan (Int.le_of_eq e)
  have h2 := dv_sub_ge ha.fin hb.fin hV.ne_nan (Int.le_of_eq e.symm)
  omega
theorem d8_lt {n k : Int} {a b : UInt64} (ha : d8 n a) (hb : d8 k b) : dv a < dv b ↔ n < k := by
  rw [ha.2, hb.2]
  exact Int.mul_lt_mul_right U8_pos
theorem d8_le {n k : Int} {a b : UInt64} (ha : d8 n a) (hb : d8 k b) : dv a ≤ dv b ↔ n ≤ k := by
  rw [ha.2, hb.2]
  exact Int.mul_le_mul_right U8_pos
/-! magnitudes out of values -/
theorem dv_key {a b : UInt64} (ha : nn a) (hb : nn b) : dv a ≤ dv b ↔ FP.Core.dkey a ≤ FP.Core.dkey b := by
  have h1 := FP.Core.dcmp_lt_key hb ha
  have h2 : FP.Core.dcmp b a = some .lt ↔ dv b < dv a := ⟨fun h => (FP.Core.dcmp_lt.mp h).2.2, fun h => FP.Core.dcmp_lt.mpr ⟨hb, ha, h⟩⟩
  rw [h2] at h1
  omega
/-- at least a positive constant -/
theorem dL_of {a c : UInt64} (L : Nat) (ha : nn a) (hc : nn c) (h0 : c.toNat < 2 ^ 63) (hL : L * 2 ^ 52 ≤ c.toNat) (h : dv c ≤ dv a) : dL L a := by
  have h1 := (dv_key hc ha).mp h
  have h2 := a.toNat_lt
  unfold dL
  unfold FP.Core.dkey at h1
  rw [if_neg (by omega)] at h1
  split at h1 <;> omega
/-- not below zero, and at most a constant -/
theorem dB_of {a c : UInt64} (K : Nat) (ha : nn a) (hc : nn c) (h0 : c.toNat < K * 2 ^ 52) (hK : K ≤ 2047) (hp : 0 ≤ dv a) (h : dv a ≤ dv c) : dB K a := by
  have h1 := (dv_key ha hc).mp h
  have h2 := a.toNat_lt
  have h3 := (dv_key nn_0 ha).mp (by rw [dv_0]; exact hp)
  unfold dB
  unfold FP.Core.dkey at h1 h3
  rw [if_neg (show ¬ 2 ^ 63 ≤ c.toNat by omega)] at h1
  rw [if_neg (show ¬ 2 ^ 63 ≤ (0 : UInt64).toNat by decide)] at h3
  have h4 : (0 : UInt64).toNat = 0 := rfl
  rw [h4] at h3
  split at h1 <;> split at h3 <;> omega
