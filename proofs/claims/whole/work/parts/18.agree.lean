/-! the law, call by call: at the loop's head both sides hold the same -/
abbrev ar (v : Int32) : UInt64 := FP.dmul (FP.i2d v) 4593671619917905920
abbrev AL (s : State) : Nat → Prop := fun q => s.heap.size ≤ q
theorem spOK_mono {N M : Nat} {a b : UInt64} (h : spOK N a b) (hNM : N ≤ M) : spOK M a b := by
  obtain ⟨h1, h2, h3, h4, h5, h6⟩ := h
  refine ⟨h1, h2, h3, Int.le_trans h4 ?_, h5, h6⟩
  exact Int.mul_le_mul_of_nonneg_right (by omega) (by decide +kernel)
theorem kOKs_mono {N M : Nat} {k : KSt} (h : kOKs N k) (hNM : N ≤ M) : kOKs M k := ⟨h.1, h.2.1, spOK_mono h.2.2 hNM⟩
theorem ar_ge {v : Int32} {c : Int} (h : c * U8 ≤ dv (ar v)) : c ≤ v.toInt := by rw [(d8_arg v).2] at h; exact (Int.mul_le_mul_right U8_pos).mp h
theorem ar_le {v : Int32} {c : Int} (h : dv (ar v) ≤ c * U8) : v.toInt ≤ c := by rw [(d8_arg v).2] at h; exact (Int.mul_le_mul_right U8_pos).mp h
theorem row_ok {k : KSt} {N : Nat} {kd v w : Int32} (h : kOKs N k) (hc : cTab kd (ar v) (ar w) k.n k.T = 0) : kOKs N (k.row (ar v) (ar w)) := by
  obtain ⟨⟨h1, h2, h3⟩, h4⟩ := h
  unfold cTab at hc
  split at hc
  · cases hc
  · split at hc
    · cases hc
    · split at hc
      · cases hc
      · rename_i g1 g2 g3
        have e1 : dv 4593671619917905920 = 1 * U8 := by decide +kernel
        have e2 : dv 4652007308841189376 = 8000 * U8 := by decide +kernel
        have e3 : dv 4666723172467343360 = 80000 * U8 := by decide +kernel
        obtain ⟨⟨a1, a2⟩, ⟨a3, a4⟩, a5⟩ := Decidable.not_not.mp g2
        rw [e1] at a1 a3
        rw [e2] at a2
        rw [e3] at a4
        refine ⟨⟨by show k.n + 1 ≤ 12; omega, fun i hi => ?_, fun i j hij hj => ?_⟩, h4⟩
        · show ∃ a b : Int, d8 a (vf_upd k.T k.n (ar v) i) ∧ d8 b (vf_upd k.R k.n (ar w) i) ∧ _
          have hi' : i < k.n + 1 := hi
          by_cases q : i = k.n
          · subst q
            rw [vf_at, vf_at]
            exact ⟨_, _, d8_arg v, d8_arg w, ar_ge a1, ar_le a2, ar_ge a3, ar_le a4⟩
          · rw [vf_off q, vf_off q]
            exact h2 i (by omega)
        · show dv (vf_upd k.T k.n (ar v) i) < dv (vf_upd k.T k.n (ar v) j)
          have hj' : j < k.n + 1 := hj
          rw [vf_off (show i ≠ k.n by omega)]
          by_cases q : j = k.n
          · subst q
            rw [vf_at]
            rcases a5 with a5 | a5
            · omega
            · have := rowsOK.le (T := k.T) (R := k.R) ⟨h1, h2, h3⟩ (show i ≤ k.n - 1 by omega) (by omega)
              omega
          · rw [vf_off q]
            exact h3 i j hij (by omega)
theorem rd_ok {k : KSt} {N : Nat} {kd v w : Int32} (h : kOKs N k) (hc : cRd kd (ar v) (ar w) k.m = 0) : kOKs N (k.rd (ar v) (ar w)) := by
  obtain ⟨h0, ⟨h1, h2⟩, h4⟩ := h
  unfold cRd at hc
  split at hc
  · cases hc
  · split at hc
    · cases hc
    · split at hc
      · cases hc
      · refine ⟨h0, ⟨by show k.m + 1 ≤ 20; omega, fun i hi => ?_⟩, h4⟩
        show dB 1060 (vf_upd k.B k.m (ar v) i) ∧ dB 1060 (vf_upd k.K k.m (ar w) i)
        have hi' : i < k.m + 1 := hi
        by_cases q : i = k.m
        · subst q
          rw [vf_at, vf_at]
          exact ⟨(d8_arg v).1, (d8_arg w).1⟩
        · rw [vf_off q, vf_off q]
          exact h2 i (by omega)
theorem ft_ok {k : KSt} {N : Nat} {kd rs : Int32} (h : kOKs N k) (hc : cFit kd rs = 0) (hN : N ≤ 59000) : kOKs (N + 100) (k.ft rs.toInt.toNat) := by
  obtain ⟨h0, h1, h4⟩ := h
  unfold cFit at hc
  split at hc
  · cases hc
  · split at hc
    · cases hc
    · exact ⟨h0, h1, spOK_mono (fitN_ok (B := k.B) (K := k.K) (n := k.m) h4 rs.toInt.toNat (by omega)) (by omega)⟩
theorem pc_ok {Lp Dp : Nat → UInt64} {np : Nat} {v w : Int32} (h : piecesOK Lp Dp np) (hc : cPc (ar v) (ar w) np = 0) : piecesOK (vf_upd Lp np (ar v)) (vf_upd Dp np (ar w)) (np + 1) := by
  obtain ⟨h1, h2⟩ := h
  unfold cPc at hc
  split at hc
  · cases hc
  · split at hc
    · cases hc
    · rename_i g1 g2
      obtain ⟨-, g3⟩ := Decidable.not_not.mp g1
      refine ⟨by omega, fun i hi => ?_⟩
      by_cases q : i = np
      · subst q
        rw [vf_at, vf_at]
        refine ⟨(d8_arg v).1, (d8_arg w).1, ?_⟩
        have := dv_d0
        omega
      · rw [vf_off q, vf_off q]
        exact h2 i (by omega)
theorem up_ok {K : Nat → KSt} {j N M : Nat} {k : KSt} (h : ∀ i, i < 4 → kOKs N (K i)) (hk : kOKs M k) (hNM : N ≤ M) : ∀ i, i < 4 → kOKs M (updK K j k i) := by
  intro i hi
  unfold updK
  split
  · exact hk
  · exact kOKs_mono (h i hi) hNM
/-- what the reference holds of a kind -/
def KR (K : Nat → KSt) (nr : Nat → Nat) (T2 R2 : Nat → Nat → UInt64) (ng : Nat → Nat) (B2 K2 : Nat → Nat → UInt64) (sp2 st2 : Nat → UInt64) : Prop := ∀ i, i < 4 → nr i = (K i).n ∧ T2 i = (K i).T ∧ R2 i = (K i).R ∧ ng i = (K i).m ∧ B2 i = (K i).B ∧ K2 i = (K i).K ∧ sp2 i = (K i).sp ∧ st2 i = (K i).st
theorem KR.row {K : Nat → KSt} {nr : Nat → Nat} {T2 R2 : Nat → Nat → UInt64} {ng : Nat → Nat} {B2 K2 : Nat → Nat → UInt64} {sp2 st2 : Nat → UInt64} (h : KR K nr T2 R2 ng B2 K2 sp2 st2) {j : Nat} (hj : j < 4) (t r : UInt64) : KR (updK K j ((K j).row t r)) (vf_upd nr j (nr j + 1)) (up2 T2 j (nr j) t) (up2 R2 j (nr j) r) ng B2 K2 sp2 st2 := by
  intro i hi
  obtain ⟨h1, h2, h3, h4, h5, h6, h7, h8⟩ := h i hi
  by_cases q : i = j
  · subst q
    rw [vf_at, up2_same, up2_same, show updK K i ((K i).row t r) i = (K i).row t r from if_pos rfl, h1, h2, h3, h4, h5, h6, h7, h8]
    exact ⟨rfl, rfl, rfl, rfl, rfl, rfl, rfl, rfl⟩
  · rw [vf_off q, up2_other q, up2_other q, show updK K j ((K j).row t r) i = K i from if_neg q]
    exact ⟨h1, h2, h3, h4, h5, h6, h7, h8⟩
theorem KR.rd {K : Nat → KSt} {nr : Nat → Nat} {T2 R2 : Nat → Nat → UInt64} {ng : Nat → Nat} {B2 K2 : Nat → Nat → UInt64} {sp2 st2 : Nat → UInt64} (h : KR K nr T2 R2 ng B2 K2 sp2 st2) {j : Nat} (hj : j < 4) (t r : UInt64) : KR (updK K j ((K j).rd t r)) nr T2 R2 (vf_upd ng j (ng j + 1)) (up2 B2 j (ng j) t) (up2 K2 j (ng j) r) sp2 st2 := by
  intro i hi
  obtain ⟨h1, h2, h3, h4, h5, h6, h7, h8⟩ := h i hi
  by_cases q : i = j
  · subst q
    rw [vf_at, up2_same, up2_same, show updK K i ((K i).rd t r) i = (K i).rd t r from if_pos rfl, h1, h2, h3, h4, h5, h6, h7, h8]
    exact ⟨rfl, rfl, rfl, rfl, rfl, rfl, rfl, rfl⟩
  · rw [vf_off q, up2_other q, up2_other q, show updK K j ((K j).rd t r) i = K i from if_neg q]
    exact ⟨h1, h2, h3, h4, h5, h6, h7, h8⟩
theorem KR.ft {K : Nat → KSt} {nr : Nat → Nat} {T2 R2 : Nat → Nat → UInt64} {ng : Nat → Nat} {B2 K2 : Nat → Nat → UInt64} {sp2 st2 : Nat → UInt64} (h : KR K nr T2 R2 ng B2 K2 sp2 st2) {j : Nat} (hj : j < 4) (z : Nat) : KR (updK K j ((K j).ft z)) nr T2 R2 ng B2 K2 (vf_upd sp2 j (fitN (B2 j) (K2 j) (ng j) (K j).sp (K j).st z).1) (vf_upd st2 j (fitN (B2 j) (K2 j) (ng j) (K j).sp (K j).st z).2.1) := by
  intro i hi
  obtain ⟨h1, h2, h3, h4, h5, h6, h7, h8⟩ := h i hi
  by_cases q : i = j
  · subst q
    rw [vf_at, vf_at, show updK K i ((K i).ft z) i = (K i).ft z from if_pos rfl, h1, h2, h3, h4, h5, h6]
    exact ⟨rfl, rfl, rfl, rfl, rfl, rfl, rfl, rfl⟩
  · rw [vf_off q, vf_off q, show updK K j ((K j).ft z) i = K i from if_neg q]
    exact ⟨h1, h2, h3, h4, h5, h6, h7, h8⟩
section BR5
variable {p : Program} {l : Launch} {e : Env} {R : Room} {s : State} {m : MethodId} {args : Array Value} {below : List Frame} {meth : Method} {c : Code} {H : Heap} {locs : List Loc} {cells slots : Nat} {Q : State → Prop}
variable {cc : ByteArray} {pc : Nat} {ls : Array Slot} {rest : List Value} {D : va_G} {A : Nat → Prop} {a : Nat} {tys : List (ClassId × FieldType)} {ws : va_W} {H0 : Heap}
theorem va_sldN (hexec : p.tables.exec = Jvm.exec) (hb : c.code = cc) {b L : Nat} {xs : Nat → Int32} (hX : va_X b L xs s H0) (hbl : b < H0.size) (hbA : ¬ A b) (hS : va_S A H0 H locs) {j : Nat} (hj : j < L) (hL : L < 2 ^ 31) (hdg : decode cc pc = .ok (.iaload, 1))
    (kk : W p l e R s m args below meth c H locs cells slots Q (F0 m (pc + 1) ls (.int (xs j) :: rest))) : W p l e R s m args below meth c H locs cells slots Q (F0 m pc ls (.int (nI j) :: .ref b :: rest)) := by
  refine va_sld hexec hb hX hbl hbA hS (vp_in_nI hj hL) hdg ?_
  rw [nI_clamp (Nat.lt_trans hj hL)]
  exact kk
theorem lv_lcmp0 (hexec : p.tables.exec = Jvm.exec) (hb : c.code = cc) {x : Int64} (hdg : decode cc pc = .ok (.lcmp, 1))
    (k : W p l e R s m args below meth c H locs cells slots Q (F0 m (pc + 1) ls (.int 0 :: rest))) : W p l e R s m args below meth c H locs cells slots Q (F0 m pc ls (.long x :: .long x :: rest)) := by
  intro T hT X
  obtain ⟨t, a, b⟩ := k T hT X
  refine ⟨t, ?_, b⟩
  jvm_step X.here [X.here.top, hexec, hb, hdg]
  have h1 : ¬ x > x := Int64.lt_irrefl
  skip
  exact a
theorem va_lald0 (hexec : p.tables.exec = Jvm.exec) (hb : c.code = cc) (hK : va_K D vwCl tys s) (hP : va_P D vwCl ws H) (q0 t0 : Nat) {cA : ClassId} {f : Nat → Int64} (ha : ws[q0]? = some (a, .inl (cA, 1, .inr (.inl f)))) (ht : tys[t0]? = some (cA, .long)) (hdg : decode cc pc = .ok (.laload, 1))
    (kk : W p l e R s m args below meth c H locs cells slots Q (F0 m (pc + 1) ls (.long (f 0) :: rest))) : W p l e R s m args below meth c H locs cells slots Q (F0 m pc ls (.int 0 :: .ref a :: rest)) :=
  va_lald hexec hb hK hP q0 t0 ha ht (vp_in_nI (n := 0) (by decide) (by decide)) hdg kk
theorem va_dald0 (hexec : p.tables.exec = Jvm.exec) (hb : c.code = cc) (hK : va_K D vwCl tys s) (hP : va_P D vwCl ws H) (q0 t0 : Nat) {cA : ClassId} {f : Nat → UInt64} (ha : ws[q0]? = some (a, .inl (cA, 1, .inr (.inr (.inr (.inl f)))))) (ht : tys[t0]? = some (cA, .double)) (hdg : decode cc pc = .ok (.daload, 1))
    (kk : W p l e R s m args below meth c H locs cells slots Q (F0 m (pc + 1) ls (.double (f 0) :: rest))) : W p l e R s m args below meth c H locs cells slots Q (F0 m pc ls (.int 0 :: .ref a :: rest)) :=
  va_dald hexec hb hK hP q0 t0 ha ht (vp_in_nI (n := 0) (by decide) (by decide)) hdg kk
end BR5
