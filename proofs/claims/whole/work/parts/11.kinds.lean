set_option maxHeartbeats 4000000 in
set_option maxRecDepth 100000 in
theorem m_X3_isWithin (l : Launch) (v a b : UInt64) (hv9 : nn v) (ha9 : nn a) (hb9 : nn b) : Met l yX3_isWithin wsX3_isWithin ({ frames := 0, cells := 0, slots := 0, locals := 0 } : Room) (va_Pc [.double v, .double a, .double b] (fun _ => True)) (va_Qi (fun (r : Int32) (_ : Unit) => r = if dv a ≤ dv v ∧ dv v ≤ dv b then 1 else 0) (fun _ _ => True) (fun _ => False)) 0 0 (fun _ => False) := by
  refine Met.ofW (cc := cX3_isWithin) (maxL := 6) (ret := (some .boolean)) (by decide) rfl ?_
  intro p e s m args below meth c s₁ BB hml hv
  obtain ⟨rfl, -⟩ := hv
  have hx := BB.exec
  have hb := BB.bytes
  have hr := BB.returns
  have hts := atoms_spec (ws := wsX3_isWithin) BB.pre
  have hown : s.vm.findClass RX3 = some m.cls := findClass_of_methodNamed BB.named
  have hlocks := BB.notSynchronized
  have hS : va_S (fun _ => False) s.heap s.heap [] := va_S.rf
  have hl := lv_entry ([.double v, .double a, .double b]) (n := 6) (Nat.le_of_ble_eq_true rfl)
  rw [lg_entry_eq]
  generalize (lg_sl ([.double v, .double a, .double b]) ++ List.replicate (6 - (lg_sl ([.double v, .double a, .double b])).length) Slot.unset).toArray = ls at hl ⊢
  have hl : lv_has ls 6 [(0, .double v), (2, .double a), (4, .double b)] := hl
  refine lv_dload_n hx hb dX3_isWithin_0 rfl (lv_at hl 0 rfl) ?_
  refine lv_dload_n hx hb dX3_isWithin_1 rfl (lv_at hl 1 rfl) ?_
  refine lv_dcmp hx hb dX3_isWithin_2 ?_
  refine lv_if_lt (tgt := 17) hx hb dX3_isWithin_3 (by decide) (fun c_3 => ?_) (fun c_3 => ?_)
  · have c_3 := (cv_lt hv9 ha9).mp c_3
    refine lv_iconst (v := 0) hx hb dX3_isWithin_17 (by decide) ?_
    exact W.zret hx hb hr (by decide) (fun t9s hht hW9 => ⟨⟨0, (), rfl, (by split <;> first | rfl | (exfalso; omega)), trivial⟩, hS.F hht⟩) hS.2.2 dX3_isWithin_18
  · have c_3 := mt (cv_lt hv9 ha9).mpr c_3
    refine lv_dload_n hx hb dX3_isWithin_6 rfl (lv_at hl 0 rfl) ?_
    refine lv_dload hx hb dX3_isWithin_7 (lv_at hl 2 rfl) ?_
    refine lv_dcmp hx hb dX3_isWithin_9 ?_
    refine lv_if_gt (tgt := 17) hx hb dX3_isWithin_10 (by decide) (fun c_10 => ?_) (fun c_10 => ?_)
    · have c_10 := (cv_gt hv9 hb9).mp c_10
      refine lv_iconst (v := 0) hx hb dX3_isWithin_17 (by decide) ?_
      exact W.zret hx hb hr (by decide) (fun t9s hht hW9 => ⟨⟨0, (), rfl, (by split <;> first | rfl | (exfalso; omega)), trivial⟩, hS.F hht⟩) hS.2.2 dX3_isWithin_18
    · have c_10 := mt (cv_gt hv9 hb9).mpr c_10
      refine lv_iconst (v := 1) hx hb dX3_isWithin_13 (by decide) ?_
      refine lv_goto (tgt := 18) hx hb dX3_isWithin_14 (by decide) ?_
      exact W.zret hx hb hr (by decide) (fun t9s hht hW9 => ⟨⟨1, (), rfl, (by split <;> first | rfl | (exfalso; omega)), trivial⟩, hS.F hht⟩) hS.2.2 dX3_isWithin_18

set_option maxHeartbeats 4000000 in
set_option maxRecDepth 100000 in
theorem m_X3_isNone (l : Launch) (x : UInt64) (hx9 : nn x) : Met l yX3_isNone wsX3_isNone ({ frames := 0, cells := 0, slots := 0, locals := 0 } : Room) (va_Pc [.double x] (fun _ => True)) (va_Qi (fun (r : Int32) (_ : Unit) => r = if dv x < 0 then 1 else 0) (fun _ _ => True) (fun _ => False)) 0 0 (fun _ => False) := by
  refine Met.ofW (cc := cX3_isNone) (maxL := 2) (ret := (some .boolean)) (by decide) rfl ?_
  intro p e s m args below meth c s₁ BB hml hv
  obtain ⟨rfl, -⟩ := hv
  have hx := BB.exec
  have hb := BB.bytes
  have hr := BB.returns
  have hts := atoms_spec (ws := wsX3_isNone) BB.pre
  have hown : s.vm.findClass RX3 = some m.cls := findClass_of_methodNamed BB.named
  have hlocks := BB.notSynchronized
  have hS : va_S (fun _ => False) s.heap s.heap [] := va_S.rf
  have hl := lv_entry ([.double x]) (n := 2) (Nat.le_of_ble_eq_true rfl)
  rw [lg_entry_eq]
  generalize (lg_sl ([.double x]) ++ List.replicate (2 - (lg_sl ([.double x])).length) Slot.unset).toArray = ls at hl ⊢
  have hl : lv_has ls 2 [(0, .double x)] := hl
  have d0 := dv_d0
  refine lv_dload_n hx hb dX3_isNone_0 rfl (lv_at hl 0 rfl) ?_
  refine lv_dconst0 hx hb dX3_isNone_1 ?_
  refine lv_dcmp hx hb dX3_isNone_2 ?_
  refine lv_if_ge (tgt := 10) hx hb dX3_isNone_3 (by decide) (fun c_3 => ?_) (fun c_3 => ?_)
  · have c_3 := (cv_ge hx9 (dB_d0.nn (by omega))).mp c_3
    refine lv_iconst (v := 0) hx hb dX3_isNone_10 (by decide) ?_
    exact W.zret hx hb hr (by decide) (fun t9s hht hW9 => ⟨⟨0, (), rfl, (by split <;> first | rfl | (exfalso; omega)), trivial⟩, hS.F hht⟩) hS.2.2 dX3_isNone_11
  · have c_3 := mt (cv_ge hx9 (dB_d0.nn (by omega))).mpr c_3
    refine lv_iconst (v := 1) hx hb dX3_isNone_6 (by decide) ?_
    refine lv_goto (tgt := 11) hx hb dX3_isNone_7 (by decide) ?_
    exact W.zret hx hb hr (by decide) (fun t9s hht hW9 => ⟨⟨1, (), rfl, (by split <;> first | rfl | (exfalso; omega)), trivial⟩, hS.F hht⟩) hS.2.2 dX3_isNone_11

set_option maxHeartbeats 4000000 in
set_option maxRecDepth 100000 in
theorem m_X3_leastKerfs (l : Launch) (a9 c9 : UInt64) (hk : kerfOK a9 c9) : Met l yX3_leastKerfs wsX3_leastKerfs ({ frames := 0, cells := 0, slots := 0, locals := 0 } : Room) (va_Pc [.double a9, .double c9] (fun _ => True)) (va_Qi (fun (r : Int32) (_ : Unit) => ∃ N9, r = nI N9 ∧ kerfN a9 c9 N9) (fun _ _ => True) (fun _ => False)) 0 0 (fun _ => False) := by
  refine Met.ofW (cc := cX3_leastKerfs) (maxL := 6) (ret := (some .int)) (by decide) rfl ?_
  intro p e s m args below meth c s₁ BB hml hv
  obtain ⟨rfl, -⟩ := hv
  have hx := BB.exec
  have hb := BB.bytes
  have hr := BB.returns
  have hts := atoms_spec (ws := wsX3_leastKerfs) BB.pre
  have hown : s.vm.findClass RX3 = some m.cls := findClass_of_methodNamed BB.named
  have hlocks := BB.notSynchronized
  have hS : va_S (fun _ => False) s.heap s.heap [] := va_S.rf
  have hl := lv_entry ([.double a9, .double c9]) (n := 6) (Nat.le_of_ble_eq_true rfl)
  rw [lg_entry_eq]
  generalize (lg_sl ([.double a9, .double c9]) ++ List.replicate (6 - (lg_sl ([.double a9, .double c9])).length) Slot.unset).toArray = ls at hl ⊢
  have hl : lv_has ls 6 [(0, .double a9), (2, .double c9)] := hl
  refine lv_iconst (v := 0) hx hb dX3_leastKerfs_0 (by decide) ?_
  refine lv_istore (lv' := [(4, .int 0), (0, .double a9), (2, .double c9)]) hx hb dX3_leastKerfs_1 hl (by decide) rfl (fun ls hl => ?_)
  refine lv_ldc (v := 32768) hx hb hown (hts (.constant RX3 178 (32768)) (by decide +kernel)) dX3_leastKerfs_3 ?_
  refine lv_istore (lv' := [(5, .int 32768), (4, .int 0), (0, .double a9), (2, .double c9)]) hx hb dX3_leastKerfs_5 hl (by decide) rfl (fun ls hl => ?_)
  refine w_loop (σ := Nat × Nat) (fun n9 x9 H locs ls => lv_has ls 6 [(5, .int (nI (x9.2 / 2))), (4, .int (nI x9.1)), (0, .double a9), (2, .double c9)] ∧ va_S (fun _ => False) s.heap H locs ∧ n9 = x9.2 ∧ p2 x9.2 ∧ 1 ≤ x9.2 ∧ x9.1 + x9.2 ≤ 65536 ∧ (x9.1 = 0 ∨ few a9 c9 x9.1) ∧ ¬ few a9 c9 (x9.1 + x9.2)) (n0 := 65536) (x0 := (0, 65536)) ⟨lv_sub hl [0, 1, 2, 3] rfl, hS, (show 65536 = 65536 ∧ p2 65536 ∧ 1 ≤ 65536 ∧ 0 + 65536 ≤ 65536 ∧ (0 = 0 ∨ few a9 c9 0) ∧ ¬ few a9 c9 (0 + 65536) from ⟨rfl, ⟨16, by decide, by decide⟩, by decide, by decide, Or.inl rfl, fun z => hk.2.2.2 (few_less hk (by decide) (by decide) (by decide) z)⟩)⟩ ?_
  rintro n9 ⟨t9, q9⟩ H locs ls ⟨hl, hS, hi⟩ ih
  have hl : lv_has ls 6 [(5, .int (nI (q9 / 2))), (4, .int (nI t9)), (0, .double a9), (2, .double c9)] := hl
  have hi : n9 = q9 ∧ p2 q9 ∧ 1 ≤ q9 ∧ t9 + q9 ≤ 65536 ∧ (t9 = 0 ∨ few a9 c9 t9) ∧ ¬ few a9 c9 (t9 + q9) := hi
  refine lv_iload hx hb dX3_leastKerfs_7 (lv_at hl 0 rfl) ?_
  refine lv_if_le (tgt := 41) hx hb dX3_leastKerfs_9 (by decide) (fun c_9 => ?_) (fun c_9 => ?_)
  · have c_9 := (nI_leI (a := q9 / 2) (b := 0) (by omega) (by omega)).mp c_9
    refine lv_iload hx hb dX3_leastKerfs_41 (lv_at hl 1 rfl) ?_
    refine lv_iconst (v := 1) hx hb dX3_leastKerfs_43 (by decide) ?_
    refine lv_iaddN (x := t9) (y := 1) hx hb dX3_leastKerfs_44 ?_
    exact W.iret hx hb hr (fun t9s hht hW9 => ⟨⟨nI (t9 + 1), (), rfl, ⟨t9 + 1, rfl, by omega, (by
        have h3 : t9 ≤ 65534 := by
          rcases hi.2.2.2.2.1 with z | z
          · omega
          · refine Nat.le_of_not_lt fun y => hk.2.2.2 ?_
            rw [show 65535 = t9 by omega]; exact z
        omega), (by rw [show t9 + 1 = t9 + q9 by omega]; exact hi.2.2.2.2.2), fun m h1 h2 => (by
        rcases hi.2.2.2.2.1 with z | z
        · omega
        · exact few_less hk h1 (by omega) (by omega) z)⟩, trivial⟩, hS.F hht⟩) hS.2.2 dX3_leastKerfs_45
  · have c_9 := mt (nI_leI (a := q9 / 2) (b := 0) (by omega) (by omega)).mpr c_9
    obtain ⟨g9, hg9⟩ := p2_half hi.2.1 (by omega)
    refine lv_iload hx hb dX3_leastKerfs_12 (lv_at hl 1 rfl) ?_
    refine lv_iload hx hb dX3_leastKerfs_14 (lv_at hl 0 rfl) ?_
    refine lv_iaddN (x := t9) (y := q9 / 2) hx hb dX3_leastKerfs_16 ?_
    refine lv_i2d hx hb dX3_leastKerfs_17 ?_
    refine lv_dload_n hx hb dX3_leastKerfs_18 rfl (lv_at hl 3 rfl) ?_
    have b_9 : dB (1154) (FP.dmul (FP.i2d (nI (t9 + (q9 / 2)))) c9) := dB.mul (i2d_dB (nI (t9 + (q9 / 2)))) hk.2.1 (by omega) (by omega) (by omega)
    refine lv_dmul hx hb dX3_leastKerfs_19 (b_9.ok (by omega)) ?_
    refine lv_dload_n hx hb dX3_leastKerfs_20 rfl (lv_at hl 2 rfl) ?_
    refine lv_dcmp hx hb dX3_leastKerfs_21 ?_
    refine lv_if_ge (tgt := 32) hx hb dX3_leastKerfs_22 (by decide) (fun c_22 => ?_) (fun c_22 => ?_)
    · have c_22 := (cv_ge (b_9.nn (by omega)) (hk.1.nn (by omega))).mp c_22
      refine lv_iload hx hb dX3_leastKerfs_32 (lv_at hl 0 rfl) ?_
      refine lv_iconst (v := 2) hx hb dX3_leastKerfs_34 (by decide) ?_
      refine lv_idivN (x := q9 / 2) (y := 2) hx hb dX3_leastKerfs_35 (by omega) (by omega) (by omega) ?_
      refine lv_istore (lv' := [(5, .int (nI ((q9 / 2) / 2))), (4, .int (nI t9)), (0, .double a9), (2, .double c9)]) hx hb dX3_leastKerfs_36 hl (by decide) rfl (fun ls hl => ?_)
      refine lv_goto (tgt := 7) hx hb dX3_leastKerfs_38 (by decide) ?_
      exact ih (q9 / 2) (by omega) (t9, q9 / 2) _ _ _ ⟨lv_sub hl [0, 1, 2, 3] rfl, hS, (show (q9 / 2) = (q9 / 2) ∧ p2 (q9 / 2) ∧ 1 ≤ (q9 / 2) ∧ t9 + (q9 / 2) ≤ 65536 ∧ (t9 = 0 ∨ few a9 c9 t9) ∧ ¬ few a9 c9 (t9 + (q9 / 2)) from ⟨rfl, by rw [show q9 / 2 = g9 by omega]; exact hg9.2.1, by omega, by omega, hi.2.2.2.2.1, by unfold few; omega⟩)⟩
    · have c_22 := mt (cv_ge (b_9.nn (by omega)) (hk.1.nn (by omega))).mpr c_22
      refine lv_iload hx hb dX3_leastKerfs_25 (lv_at hl 1 rfl) ?_
      refine lv_iload hx hb dX3_leastKerfs_27 (lv_at hl 0 rfl) ?_
      refine lv_iaddN (x := t9) (y := q9 / 2) hx hb dX3_leastKerfs_29 ?_
      refine lv_istore (lv' := [(4, .int (nI (t9 + (q9 / 2)))), (5, .int (nI (q9 / 2))), (0, .double a9), (2, .double c9)]) hx hb dX3_leastKerfs_30 hl (by decide) rfl (fun ls hl => ?_)
      refine lv_iload hx hb dX3_leastKerfs_32 (lv_at hl 1 rfl) ?_
      refine lv_iconst (v := 2) hx hb dX3_leastKerfs_34 (by decide) ?_
      refine lv_idivN (x := q9 / 2) (y := 2) hx hb dX3_leastKerfs_35 (by omega) (by omega) (by omega) ?_
      refine lv_istore (lv' := [(5, .int (nI ((q9 / 2) / 2))), (4, .int (nI (t9 + (q9 / 2)))), (0, .double a9), (2, .double c9)]) hx hb dX3_leastKerfs_36 hl (by decide) rfl (fun ls hl => ?_)
      refine lv_goto (tgt := 7) hx hb dX3_leastKerfs_38 (by decide) ?_
      exact ih (q9 / 2) (by omega) (t9 + q9 / 2, q9 / 2) _ _ _ ⟨lv_sub hl [0, 1, 2, 3] rfl, hS, (show (q9 / 2) = (q9 / 2) ∧ p2 (q9 / 2) ∧ 1 ≤ (q9 / 2) ∧ (t9 + q9 / 2) + (q9 / 2) ≤ 65536 ∧ ((t9 + q9 / 2) = 0 ∨ few a9 c9 (t9 + q9 / 2)) ∧ ¬ few a9 c9 ((t9 + q9 / 2) + (q9 / 2)) from ⟨rfl, by rw [show q9 / 2 = g9 by omega]; exact hg9.2.1, by omega, by omega, Or.inr (by unfold few; omega), by rw [show t9 + q9 / 2 + q9 / 2 = t9 + q9 by omega]; exact hi.2.2.2.2.2⟩)⟩

set_option maxHeartbeats 4000000 in
set_option maxRecDepth 100000 in
theorem m_X3_commonDivisor (l : Launch) (x y : Nat) (hx9 : x ≤ 1000001) (hy9 : y ≤ x) : Met l yX3_commonDivisor wsX3_commonDivisor ({ frames := 0, cells := 0, slots := 0, locals := 0 } : Room) (va_Pc [.int (nI x), .int (nI y)] (fun _ => True)) (va_Qi (fun (r : Int32) (_ : Unit) => r = nI (Nat.gcd x y)) (fun _ _ => True) (fun _ => False)) 0 0 (fun _ => False) := by
  refine Met.ofW (cc := cX3_commonDivisor) (maxL := 6) (ret := (some .int)) (by decide) rfl ?_
  intro p e s m args below meth c s₁ BB hml hv
  obtain ⟨rfl, -⟩ := hv
  have hx := BB.exec
  have hb := BB.bytes
  have hr := BB.returns
  have hts := atoms_spec (ws := wsX3_commonDivisor) BB.pre
  have hown : s.vm.findClass RX3 = some m.cls := findClass_of_methodNamed BB.named
  have hlocks := BB.notSynchronized
  have hS : va_S (fun _ => False) s.heap s.heap [] := va_S.rf
  have hl := lv_entry ([.int (nI x), .int (nI y)]) (n := 6) (Nat.le_of_ble_eq_true rfl)
  rw [lg_entry_eq]
  generalize (lg_sl ([.int (nI x), .int (nI y)]) ++ List.replicate (6 - (lg_sl ([.int (nI x), .int (nI y)])).length) Slot.unset).toArray = ls at hl ⊢
  have hl : lv_has ls 6 [(0, .int (nI x)), (1, .int (nI y))] := hl
  refine lv_iload_n hx hb dX3_commonDivisor_0 rfl (lv_at hl 0 rfl) ?_
  refine lv_istore_n (lv' := [(2, .int (nI x)), (0, .int (nI x)), (1, .int (nI y))]) hx hb dX3_commonDivisor_1 rfl hl (by decide) rfl (fun ls hl => ?_)
  refine lv_iload_n hx hb dX3_commonDivisor_2 rfl (lv_at hl 2 rfl) ?_
  refine lv_istore_n (lv' := [(3, .int (nI y)), (2, .int (nI x)), (0, .int (nI x)), (1, .int (nI y))]) hx hb dX3_commonDivisor_3 rfl hl (by decide) rfl (fun ls hl => ?_)
  refine lv_iconst (v := 0) hx hb dX3_commonDivisor_4 (by decide) ?_
  refine lv_istore (lv' := [(4, .int 0), (3, .int (nI y)), (2, .int (nI x)), (0, .int (nI x)), (1, .int (nI y))]) hx hb dX3_commonDivisor_5 hl (by decide) rfl (fun ls hl => ?_)
  refine w_loop (σ := Nat × Nat × Nat) (fun n9 x9 H locs ls => lv_has ls 6 [(4, .int (nI x9.2.2)), (3, .int (nI x9.2.1)), (2, .int (nI x9.1)), (0, .int (nI x)), (1, .int (nI y))] ∧ va_S (fun _ => False) s.heap H locs ∧ x9.2.2 + n9 = 64 ∧ Nat.gcd x9.1 x9.2.1 = Nat.gcd x y ∧ x9.2.1 ≤ x9.1 ∧ x9.1 ≤ 1000001 ∧ x9.1 * x9.2.1 * 2 ^ x9.2.2 ≤ 2 ^ 40) (n0 := 64) (x0 := (x, y, 0)) ⟨lv_sub hl [0, 1, 2, 3, 4] rfl, hS, (show 0 + 64 = 64 ∧ Nat.gcd x y = Nat.gcd x y ∧ y ≤ x ∧ x ≤ 1000001 ∧ x * y * 2 ^ 0 ≤ 2 ^ 40 from ⟨by omega, rfl, by omega, by omega, (by
      rw [Nat.pow_zero, Nat.mul_one]
      exact Nat.le_trans (Nat.mul_le_mul hx9 (Nat.le_trans hy9 hx9)) (by decide))⟩)⟩ ?_
  rintro n9 ⟨d9, l9, i9⟩ H locs ls ⟨hl, hS, hi⟩ ih
  have hl : lv_has ls 6 [(4, .int (nI i9)), (3, .int (nI l9)), (2, .int (nI d9)), (0, .int (nI x)), (1, .int (nI y))] := hl
  have hi : i9 + n9 = 64 ∧ Nat.gcd d9 l9 = Nat.gcd x y ∧ l9 ≤ d9 ∧ d9 ≤ 1000001 ∧ d9 * l9 * 2 ^ i9 ≤ 2 ^ 40 := hi
  refine lv_iload hx hb dX3_commonDivisor_7 (lv_at hl 0 rfl) ?_
  refine lv_bipush (v := 64) hx hb dX3_commonDivisor_9 (by decide) ?_
  refine lv_icmp_ge (tgt := 34) hx hb dX3_commonDivisor_11 (by decide) (fun c_11 => ?_) (fun c_11 => ?_)
  · have c_11 := (nI_leI (a := 64) (b := i9) (by omega) (by omega)).mp c_11
    refine lv_iload_n hx hb dX3_commonDivisor_34 rfl (lv_at hl 2 rfl) ?_
    exact W.iret hx hb hr (fun t9s hht hW9 => ⟨⟨nI d9, (), rfl, (by rw [← hi.2.1, show l9 = 0 from eu_end (by omega) hi.2.2.1 hi.2.2.2.2, Nat.gcd_zero_right]), trivial⟩, hS.F hht⟩) hS.2.2 dX3_commonDivisor_35
  · have c_11 := mt (nI_leI (a := 64) (b := i9) (by omega) (by omega)).mpr c_11
    refine lv_iload_n hx hb dX3_commonDivisor_14 rfl (lv_at hl 1 rfl) ?_
    refine lv_if_le (tgt := 34) hx hb dX3_commonDivisor_15 (by decide) (fun c_15 => ?_) (fun c_15 => ?_)
    · have c_15 := (nI_leI (a := l9) (b := 0) (by omega) (by omega)).mp c_15
      refine lv_iload_n hx hb dX3_commonDivisor_34 rfl (lv_at hl 2 rfl) ?_
      exact W.iret hx hb hr (fun t9s hht hW9 => ⟨⟨nI d9, (), rfl, (by rw [← hi.2.1, show l9 = 0 from by omega, Nat.gcd_zero_right]), trivial⟩, hS.F hht⟩) hS.2.2 dX3_commonDivisor_35
    · have c_15 := mt (nI_leI (a := l9) (b := 0) (by omega) (by omega)).mpr c_15
      refine lv_iload_n hx hb dX3_commonDivisor_18 rfl (lv_at hl 2 rfl) ?_
      refine lv_iload_n hx hb dX3_commonDivisor_19 rfl (lv_at hl 1 rfl) ?_
      refine lv_iremN (x := d9) (y := l9) hx hb dX3_commonDivisor_20 (by omega) (by omega) (by omega) ?_
      refine lv_istore (lv' := [(5, .int (nI (d9 % l9))), (4, .int (nI i9)), (3, .int (nI l9)), (2, .int (nI d9)), (0, .int (nI x)), (1, .int (nI y))]) hx hb dX3_commonDivisor_21 hl (by decide) rfl (fun ls hl => ?_)
      refine lv_iload_n hx hb dX3_commonDivisor_23 rfl (lv_at hl 2 rfl) ?_
      refine lv_istore_n (lv' := [(2, .int (nI l9)), (5, .int (nI (d9 % l9))), (4, .int (nI i9)), (3, .int (nI l9)), (0, .int (nI x)), (1, .int (nI y))]) hx hb dX3_commonDivisor_24 rfl hl (by decide) rfl (fun ls hl => ?_)
      refine lv_iload hx hb dX3_commonDivisor_25 (lv_at hl 1 rfl) ?_
      refine lv_istore_n (lv' := [(3, .int (nI (d9 % l9))), (2, .int (nI l9)), (5, .int (nI (d9 % l9))), (4, .int (nI i9)), (0, .int (nI x)), (1, .int (nI y))]) hx hb dX3_commonDivisor_27 rfl hl (by decide) rfl (fun ls hl => ?_)
      refine lv_iinc (v := nI (i9 + 1)) (lv' := [(4, .int (nI (i9 + 1))), (3, .int (nI (d9 % l9))), (2, .int (nI l9)), (5, .int (nI (d9 % l9))), (0, .int (nI x)), (1, .int (nI y))]) hx hb dX3_commonDivisor_28 hl (k := 3) rfl (show nI i9 + nI 1 = nI (i9 + 1) from nI_add _ _) (by decide) rfl (fun ls hl => ?_)
      refine lv_goto (tgt := 7) hx hb dX3_commonDivisor_31 (by decide) ?_
      exact ih (n9 - 1) (by omega) (l9, d9 % l9, i9 + 1) _ _ _ ⟨lv_sub hl [0, 1, 2, 4, 5] rfl, hS, (show (i9 + 1) + (n9 - 1) = 64 ∧ Nat.gcd l9 (d9 % l9) = Nat.gcd x y ∧ (d9 % l9) ≤ l9 ∧ l9 ≤ 1000001 ∧ l9 * (d9 % l9) * 2 ^ (i9 + 1) ≤ 2 ^ 40 from ⟨by omega, by rw [eu_gcd (by omega)]; exact hi.2.1, Nat.le_of_lt (Nat.mod_lt _ (by omega)), by omega, eu_step (by omega) hi.2.2.1 hi.2.2.2.2⟩)⟩

set_option maxHeartbeats 4000000 in
set_option maxRecDepth 100000 in
theorem m_X0_isAboveRows (l : Launch) (dC : Nat → ClassId) (dI : Nat → Nat → Nat) (cD : ClassId) (k rw rd : Nat) (sp st : UInt64) (tf tg : Nat) (n : Nat) (T R : Nat → UInt64) (t : UInt64) (ht : dB 1060 t) (hrow : rowsOK T R n) : Met l yX0_isAboveRows wsX0_isAboveRows ({ frames := 2, cells := 0, slots := 0, locals := 42 } : Room) (va_Pc [.ref k, .double t] (PK (dC, dI) [(cD, .double)] [(k, .inr (0, [.ref rw, .ref rd, .double sp, .double st])), (rw, .inr (1, [.ref tf, .ref tg, .int (nI n)])), (tf, .inl (cD, 12, .inr (.inr (.inr (.inl T))))), (tg, .inl (cD, 12, .inr (.inr (.inr (.inl R)))))])) (va_Qi (fun (r : Int32) (_ : Unit) => r = if n = 0 ∨ dv (T (n - 1)) < dv t then 1 else 0) (fun _ _ => True) (fun _ => False)) 0 0 (fun _ => False) := by
  refine Met.ofW (cc := cX0_isAboveRows) (maxL := 3) (ret := (some .boolean)) (by decide) rfl ?_
  intro p e s m args below meth c s₁ BB hml hv
  obtain ⟨rfl, hP, hK, hN⟩ := hv
  have hx := BB.exec
  have hb := BB.bytes
  have hr := BB.returns
  have hts := atoms_spec (ws := wsX0_isAboveRows) BB.pre
  have hown : s.vm.findClass RX0 = some m.cls := findClass_of_methodNamed BB.named
  have hlocks := BB.notSynchronized
  have hS : va_S (fun _ => False) s.heap s.heap [] := va_S.rf
  have hP : va_P (dC, dI) vwCl [(k, .inr (0, [.ref rw, .ref rd, .double sp, .double st])), (rw, .inr (1, [.ref tf, .ref tg, .int (nI n)])), (tf, .inl (cD, 12, .inr (.inr (.inr (.inl T))))), (tg, .inl (cD, 12, .inr (.inr (.inr (.inl R)))))] s.heap := hP
  have hl := lv_entry ([.ref k, .double t]) (n := 3) (Nat.le_of_ble_eq_true rfl)
  rw [lg_entry_eq]
  generalize (lg_sl ([.ref k, .double t]) ++ List.replicate (3 - (lg_sl ([.ref k, .double t])).length) Slot.unset).toArray = ls at hl ⊢
  have hl : lv_has ls 3 [(0, .ref k), (1, .double t)] := hl
  have hn12 := hrow.1
  refine lv_aload_n hx hb dX0_isAboveRows_0 rfl (lv_at hl 0 rfl) ?_
  refine va_get (D := (dC, dI)) (ci := 0) (v := .ref rw) (C := RX0) (T := TX0) (N := 4) hx hb hts (by decide +kernel) hown hK hP 0 rfl rfl 0 (by decide) (hts (.fieldLink RX0 14 "SteamBends$Kind" "rows" "LSteamBends$Pairs;") (by decide +kernel)) (fun _ h9 => h9) rfl dX0_isAboveRows_1 ?_
  refine va_getN (D := (dC, dI)) (ci := 1) (v := .int (nI n)) (C := RX1) (T := TX1) (N := 3) (host := "SteamBends") hx hb hts (by decide +kernel) hown hK hP 1 rfl rfl 2 (by decide) (va_Nw.use rfl (hN.f 5 rfl)) (fun _ h9 => h9) rfl dX0_isAboveRows_4 ?_
  refine lv_if_eq (tgt := 31) hx hb dX0_isAboveRows_7 (by decide) (fun c_7 => ?_) (fun c_7 => ?_)
  · have c_7 := (nI_eq (a := n) (b := 0) (by omega) (by omega)).mp c_7
    refine lv_iconst (v := 1) hx hb dX0_isAboveRows_31 (by decide) ?_
    refine lv_goto (tgt := 36) hx hb dX0_isAboveRows_32 (by decide) ?_
    exact W.zret hx hb hr (by decide) (fun t9s hht hW9 => ⟨⟨1, (), rfl, (by split <;> first | rfl | (exfalso; omega)), trivial⟩, hS.F hht⟩) hS.2.2 dX0_isAboveRows_36
  · have c_7 := mt (nI_eq (a := n) (b := 0) (by omega) (by omega)).mpr c_7
    refine lv_dload_n hx hb dX0_isAboveRows_10 rfl (lv_at hl 1 rfl) ?_
    refine lv_aload_n hx hb dX0_isAboveRows_11 rfl (lv_at hl 0 rfl) ?_
    refine va_get (D := (dC, dI)) (ci := 0) (v := .ref rw) (C := RX0) (T := TX0) (N := 4) hx hb hts (by decide +kernel) hown hK hP 0 rfl rfl 0 (by decide) (hts (.fieldLink RX0 14 "SteamBends$Kind" "rows" "LSteamBends$Pairs;") (by decide +kernel)) (fun _ h9 => h9) rfl dX0_isAboveRows_12 ?_
    refine lv_aload_n hx hb dX0_isAboveRows_15 rfl (lv_at hl 0 rfl) ?_
    refine va_get (D := (dC, dI)) (ci := 0) (v := .ref rw) (C := RX0) (T := TX0) (N := 4) hx hb hts (by decide +kernel) hown hK hP 0 rfl rfl 0 (by decide) (hts (.fieldLink RX0 14 "SteamBends$Kind" "rows" "LSteamBends$Pairs;") (by decide +kernel)) (fun _ h9 => h9) rfl dX0_isAboveRows_16 ?_
    refine va_getN (D := (dC, dI)) (ci := 1) (v := .int (nI n)) (C := RX1) (T := TX1) (N := 3) (host := "SteamBends") hx hb hts (by decide +kernel) hown hK hP 1 rfl rfl 2 (by decide) (va_Nw.use rfl (hN.f 5 rfl)) (fun _ h9 => h9) rfl dX0_isAboveRows_19 ?_
    refine lv_iconst (v := 1) hx hb dX0_isAboveRows_22 (by decide) ?_
    refine lv_isubN (x := n) (y := 1) hx hb dX0_isAboveRows_23 (by omega) ?_
    have hPc := hP.sub (ws' := [(rw, .inr (1, [.ref tf, .ref tg, .int (nI n)])), (tf, .inl (cD, 12, .inr (.inr (.inr (.inl T))))), (tg, .inl (cD, 12, .inr (.inr (.inr (.inl R)))))]) [1, 2, 3] rfl
    have hKc := hK.sub (tys' := [(cD, .double)]) [0] rfl
    refine va_calld (va_runV (As := [.int (nI (n - 1))]) (rest := [.double t]) ⟨hx, hb, hml, hown, hts⟩ (m_X1_first l dC dI cD rw tf tg n 12 T R (n - 1) (by omega) (by omega)) (cwV 1 hts gX0_isAboveRows_X1_first rfl rfl rfl (by decide +kernel) ⟨(Nat.le_of_ble_eq_true rfl), (Nat.le_of_ble_eq_true rfl)⟩) ⟨PK.blind, va_recv hKc hPc (ci := 1) (q0 := 0) rfl rfl, fun U9 hU9 hW9 => ⟨rfl, PK.at hPc hKc hN hU9 hW9⟩⟩ rfl rfl hl.1 rfl (lv_room (Nat.le_of_ble_eq_true rfl)) dX0_isAboveRows_24 ⟨(Nat.le_of_ble_eq_true rfl), (Nat.le_of_ble_eq_true rfl)⟩) hS (fun q _ h => h.elim) (fun q h => h.elim) (fun r_11 u9s t9s H1 locs hht hvm9 hw_24_k_10 hB hz1 hk1 hS => ?_)
    have hP := va_still hP hk1
    generalize H1 = H at hP hS ⊢
    subst hw_24_k_10
    refine lv_dcmp hx hb dX0_isAboveRows_27 ?_
    refine lv_if_le (tgt := 35) hx hb dX0_isAboveRows_28 (by decide) (fun c_28 => ?_) (fun c_28 => ?_)
    · have c_28 := (cv_le (ht.nn (by omega)) ((hrow.T (i := n - 1) (by omega)).nn (by omega))).mp c_28
      refine lv_iconst (v := 0) hx hb dX0_isAboveRows_35 (by decide) ?_
      exact W.zret hx hb hr (by decide) (fun t9s hht hW9 => ⟨⟨0, (), rfl, (by split <;> first | rfl | (exfalso; omega)), trivial⟩, hS.F hht⟩) hS.2.2 dX0_isAboveRows_36
    · have c_28 := mt (cv_le (ht.nn (by omega)) ((hrow.T (i := n - 1) (by omega)).nn (by omega))).mpr c_28
      refine lv_iconst (v := 1) hx hb dX0_isAboveRows_31 (by decide) ?_
      refine lv_goto (tgt := 36) hx hb dX0_isAboveRows_32 (by decide) ?_
      exact W.zret hx hb hr (by decide) (fun t9s hht hW9 => ⟨⟨1, (), rfl, (by split <;> first | rfl | (exfalso; omega)), trivial⟩, hS.F hht⟩) hS.2.2 dX0_isAboveRows_36

set_option maxHeartbeats 4000000 in
set_option maxRecDepth 100000 in
theorem m_X0_radiusBetween (l : Launch) (dC : Nat → ClassId) (dI : Nat → Nat → Nat) (cD : ClassId) (k rw rd : Nat) (sp st : UInt64) (tf tg : Nat) (n : Nat) (T R : Nat → UInt64) (x y : Nat) (t : UInt64) (hx9 : x < n) (hy9 : y < n) (hxy : x < y) (ht : dB 1064 t) (hrow : rowsOK T R n) : Met l yX0_radiusBetween wsX0_radiusBetween ({ frames := 2, cells := 0, slots := 0, locals := 42 } : Room) (va_Pc [.ref k, .int (nI x), .int (nI y), .double t] (PK (dC, dI) [(cD, .double)] [(k, .inr (0, [.ref rw, .ref rd, .double sp, .double st])), (rw, .inr (1, [.ref tf, .ref tg, .int (nI n)])), (tf, .inl (cD, 12, .inr (.inr (.inr (.inl T))))), (tg, .inl (cD, 12, .inr (.inr (.inr (.inl R)))))])) (va_Qd (fun (r : UInt64) (_ : Unit) => r = FP.dadd (R x) (FP.ddiv (FP.dmul (FP.dsub t (T x)) (FP.dsub (R y) (R x))) (FP.dsub (T y) (T x)))) (fun _ _ => True) (fun _ => False)) 0 0 (fun _ => False) := by
  refine Met.ofW (cc := cX0_radiusBetween) (maxL := 13) (ret := (some .double)) (by decide) rfl ?_
  intro p e s m args below meth c s₁ BB hml hv
  obtain ⟨rfl, hP, hK, hN⟩ := hv
  have hx := BB.exec
  have hb := BB.bytes
  have hr := BB.returns
  have hts := atoms_spec (ws := wsX0_radiusBetween) BB.pre
  have hown : s.vm.findClass RX0 = some m.cls := findClass_of_methodNamed BB.named
  have hlocks := BB.notSynchronized
  have hS : va_S (fun _ => False) s.heap s.heap [] := va_S.rf
  have hP : va_P (dC, dI) vwCl [(k, .inr (0, [.ref rw, .ref rd, .double sp, .double st])), (rw, .inr (1, [.ref tf, .ref tg, .int (nI n)])), (tf, .inl (cD, 12, .inr (.inr (.inr (.inl T))))), (tg, .inl (cD, 12, .inr (.inr (.inr (.inl R)))))] s.heap := hP
  have hl := lv_entry ([.ref k, .int (nI x), .int (nI y), .double t]) (n := 13) (Nat.le_of_ble_eq_true rfl)
  rw [lg_entry_eq]
  generalize (lg_sl ([.ref k, .int (nI x), .int (nI y), .double t]) ++ List.replicate (13 - (lg_sl ([.ref k, .int (nI x), .int (nI y), .double t])).length) Slot.unset).toArray = ls at hl ⊢
  have hl : lv_has ls 13 [(0, .ref k), (1, .int (nI x)), (2, .int (nI y)), (3, .double t)] := hl
  have hn12 := hrow.1
  refine lv_aload_n hx hb dX0_radiusBetween_0 rfl (lv_at hl 0 rfl) ?_
  refine va_get (D := (dC, dI)) (ci := 0) (v := .ref rw) (C := RX0) (T := TX0) (N := 4) hx hb hts (by decide +kernel) hown hK hP 0 rfl rfl 0 (by decide) (hts (.fieldLink RX0 14 "SteamBends$Kind" "rows" "LSteamBends$Pairs;") (by decide +kernel)) (fun _ h9 => h9) rfl dX0_radiusBetween_1 ?_
  refine lv_iload_n hx hb dX0_radiusBetween_4 rfl (lv_at hl 1 rfl) ?_
  have hPc := hP.sub (ws' := [(rw, .inr (1, [.ref tf, .ref tg, .int (nI n)])), (tf, .inl (cD, 12, .inr (.inr (.inr (.inl T))))), (tg, .inl (cD, 12, .inr (.inr (.inr (.inl R)))))]) [1, 2, 3] rfl
  have hKc := hK.sub (tys' := [(cD, .double)]) [0] rfl
  refine va_calld (va_runV (As := [.int (nI x)]) (rest := []) ⟨hx, hb, hml, hown, hts⟩ (m_X1_first l dC dI cD rw tf tg n 12 T R x (by omega) (by omega)) (cwV 1 hts gX0_radiusBetween_X1_first rfl rfl rfl (by decide +kernel) ⟨(Nat.le_of_ble_eq_true rfl), (Nat.le_of_ble_eq_true rfl)⟩) ⟨PK.blind, va_recv hKc hPc (ci := 1) (q0 := 0) rfl rfl, fun U9 hU9 hW9 => ⟨rfl, PK.at hPc hKc hN hU9 hW9⟩⟩ rfl rfl hl.1 rfl (lv_room (Nat.le_of_ble_eq_true rfl)) dX0_radiusBetween_5 ⟨(Nat.le_of_ble_eq_true rfl), (Nat.le_of_ble_eq_true rfl)⟩) hS (fun q _ h => h.elim) (fun q h => h.elim) (fun r_13 u9s t9s H1 locs hht hvm9 hw_5_k_12 hB hz1 hk1 hS => ?_)
  have hP := va_still hP hk1
  generalize H1 = H at hP hS ⊢
  subst hw_5_k_12
  refine lv_dstore (lv' := [(5, .double (T x)), (0, .ref k), (1, .int (nI x)), (2, .int (nI y)), (3, .double t)]) hx hb dX0_radiusBetween_8 hl (by decide) rfl (fun ls hl => ?_)
  refine lv_aload_n hx hb dX0_radiusBetween_10 rfl (lv_at hl 1 rfl) ?_
  refine va_get (D := (dC, dI)) (ci := 0) (v := .ref rw) (C := RX0) (T := TX0) (N := 4) hx hb hts (by decide +kernel) hown hK hP 0 rfl rfl 0 (by decide) (hts (.fieldLink RX0 14 "SteamBends$Kind" "rows" "LSteamBends$Pairs;") (by decide +kernel)) (fun _ h9 => h9) rfl dX0_radiusBetween_11 ?_
  refine lv_iload_n hx hb dX0_radiusBetween_14 rfl (lv_at hl 3 rfl) ?_
  have hPc := hP.sub (ws' := [(rw, .inr (1, [.ref tf, .ref tg, .int (nI n)])), (tf, .inl (cD, 12, .inr (.inr (.inr (.inl T))))), (tg, .inl (cD, 12, .inr (.inr (.inr (.inl R)))))]) [1, 2, 3] rfl
  have hKc := hK.sub (tys' := [(cD, .double)]) [0] rfl
  refine va_calld (va_runV (As := [.int (nI y)]) (rest := []) ⟨hx, hb, hml, hown, hts⟩ (m_X1_first l dC dI cD rw tf tg n 12 T R y (by omega) (by omega)) (cwV 1 hts gX0_radiusBetween_X1_first rfl rfl rfl (by decide +kernel) ⟨(Nat.le_of_ble_eq_true rfl), (Nat.le_of_ble_eq_true rfl)⟩) ⟨PK.blind, va_recv hKc hPc (ci := 1) (q0 := 0) rfl rfl, fun U9 hU9 hW9 => ⟨rfl, PK.at hPc hKc hN hU9 hW9⟩⟩ rfl rfl hl.1 rfl (lv_room (Nat.le_of_ble_eq_true rfl)) dX0_radiusBetween_15 ⟨(Nat.le_of_ble_eq_true rfl), (Nat.le_of_ble_eq_true rfl)⟩) hS (fun q _ h => h.elim) (fun q h => h.elim) (fun r_15 u9s t9s H1 locs hht hvm9 hw_15_k_14 hB hz1 hk1 hS => ?_)
  have hP := va_still hP hk1
  generalize H1 = H at hP hS ⊢
  subst hw_15_k_14
  refine lv_dstore (lv' := [(7, .double (T y)), (5, .double (T x)), (0, .ref k), (1, .int (nI x)), (2, .int (nI y)), (3, .double t)]) hx hb dX0_radiusBetween_18 hl (by decide) rfl (fun ls hl => ?_)
  refine lv_aload_n hx hb dX0_radiusBetween_20 rfl (lv_at hl 2 rfl) ?_
  refine va_get (D := (dC, dI)) (ci := 0) (v := .ref rw) (C := RX0) (T := TX0) (N := 4) hx hb hts (by decide +kernel) hown hK hP 0 rfl rfl 0 (by decide) (hts (.fieldLink RX0 14 "SteamBends$Kind" "rows" "LSteamBends$Pairs;") (by decide +kernel)) (fun _ h9 => h9) rfl dX0_radiusBetween_21 ?_
  refine lv_iload_n hx hb dX0_radiusBetween_24 rfl (lv_at hl 3 rfl) ?_
  have hPc := hP.sub (ws' := [(rw, .inr (1, [.ref tf, .ref tg, .int (nI n)])), (tf, .inl (cD, 12, .inr (.inr (.inr (.inl T))))), (tg, .inl (cD, 12, .inr (.inr (.inr (.inl R)))))]) [1, 2, 3] rfl
  have hKc := hK.sub (tys' := [(cD, .double)]) [0] rfl
  refine va_calld (va_runV (As := [.int (nI x)]) (rest := []) ⟨hx, hb, hml, hown, hts⟩ (m_X1_second l dC dI cD rw tf tg n 12 T R x (by omega) (by omega)) (cwV 1 hts gX0_radiusBetween_X1_second rfl rfl rfl (by decide +kernel) ⟨(Nat.le_of_ble_eq_true rfl), (Nat.le_of_ble_eq_true rfl)⟩) ⟨PK.blind, va_recv hKc hPc (ci := 1) (q0 := 0) rfl rfl, fun U9 hU9 hW9 => ⟨rfl, PK.at hPc hKc hN hU9 hW9⟩⟩ rfl rfl hl.1 rfl (lv_room (Nat.le_of_ble_eq_true rfl)) dX0_radiusBetween_25 ⟨(Nat.le_of_ble_eq_true rfl), (Nat.le_of_ble_eq_true rfl)⟩) hS (fun q _ h => h.elim) (fun q h => h.elim) (fun r_17 u9s t9s H1 locs hht hvm9 hw_25_k_16 hB hz1 hk1 hS => ?_)
  have hP := va_still hP hk1
  generalize H1 = H at hP hS ⊢
  subst hw_25_k_16
  refine lv_dstore (lv' := [(9, .double (R x)), (7, .double (T y)), (5, .double (T x)), (0, .ref k), (1, .int (nI x)), (2, .int (nI y)), (3, .double t)]) hx hb dX0_radiusBetween_28 hl (by decide) rfl (fun ls hl => ?_)
  refine lv_aload_n hx hb dX0_radiusBetween_30 rfl (lv_at hl 3 rfl) ?_
  refine va_get (D := (dC, dI)) (ci := 0) (v := .ref rw) (C := RX0) (T := TX0) (N := 4) hx hb hts (by decide +kernel) hown hK hP 0 rfl rfl 0 (by decide) (hts (.fieldLink RX0 14 "SteamBends$Kind" "rows" "LSteamBends$Pairs;") (by decide +kernel)) (fun _ h9 => h9) rfl dX0_radiusBetween_31 ?_
  refine lv_iload_n hx hb dX0_radiusBetween_34 rfl (lv_at hl 5 rfl) ?_
  have hPc := hP.sub (ws' := [(rw, .inr (1, [.ref tf, .ref tg, .int (nI n)])), (tf, .inl (cD, 12, .inr (.inr (.inr (.inl T))))), (tg, .inl (cD, 12, .inr (.inr (.inr (.inl R)))))]) [1, 2, 3] rfl
  have hKc := hK.sub (tys' := [(cD, .double)]) [0] rfl
  refine va_calld (va_runV (As := [.int (nI y)]) (rest := []) ⟨hx, hb, hml, hown, hts⟩ (m_X1_second l dC dI cD rw tf tg n 12 T R y (by omega) (by omega)) (cwV 1 hts gX0_radiusBetween_X1_second rfl rfl rfl (by decide +kernel) ⟨(Nat.le_of_ble_eq_true rfl), (Nat.le_of_ble_eq_true rfl)⟩) ⟨PK.blind, va_recv hKc hPc (ci := 1) (q0 := 0) rfl rfl, fun U9 hU9 hW9 => ⟨rfl, PK.at hPc hKc hN hU9 hW9⟩⟩ rfl rfl hl.1 rfl (lv_room (Nat.le_of_ble_eq_true rfl)) dX0_radiusBetween_35 ⟨(Nat.le_of_ble_eq_true rfl), (Nat.le_of_ble_eq_true rfl)⟩) hS (fun q _ h => h.elim) (fun q h => h.elim) (fun r_19 u9s t9s H1 locs hht hvm9 hw_35_k_18 hB hz1 hk1 hS => ?_)
  have hP := va_still hP hk1
  generalize H1 = H at hP hS ⊢
  subst hw_35_k_18
  refine lv_dstore (lv' := [(11, .double (R y)), (9, .double (R x)), (7, .double (T y)), (5, .double (T x)), (0, .ref k), (1, .int (nI x)), (2, .int (nI y)), (3, .double t)]) hx hb dX0_radiusBetween_38 hl (by decide) rfl (fun ls hl => ?_)
  refine lv_dload hx hb dX0_radiusBetween_40 (lv_at hl 2 rfl) ?_
  refine lv_dload hx hb dX0_radiusBetween_42 (lv_at hl 3 rfl) ?_
  refine lv_dcmp hx hb dX0_radiusBetween_44 ?_
  refine lv_if_le (tgt := 70) hx hb dX0_radiusBetween_45 (by decide) (fun c_45 => ?_) (fun c_45 => ?_)
  · have c_45 := (cv_le ((hrow.T (i := y) (by omega)).nn (by omega)) ((hrow.T (i := x) (by omega)).nn (by omega))).mp c_45
    exact absurd (hrow.2.2 x y hxy hy9) (by omega)
  · have c_45 := mt (cv_le ((hrow.T (i := y) (by omega)).nn (by omega)) ((hrow.T (i := x) (by omega)).nn (by omega))).mpr c_45
    refine lv_dload hx hb dX0_radiusBetween_48 (lv_at hl 1 rfl) ?_
    refine lv_dload_n hx hb dX0_radiusBetween_50 rfl (lv_at hl 7 rfl) ?_
    refine lv_dload hx hb dX0_radiusBetween_51 (lv_at hl 3 rfl) ?_
    have b_20 : dB (1066) (FP.dsub t (T x)) := dB.sub ht (hrow.T (i := x) (by omega)) (M := 1064) (by omega) (by omega) (by omega)
    refine lv_dsub hx hb dX0_radiusBetween_53 (b_20.ok (by omega)) ?_
    refine lv_dload hx hb dX0_radiusBetween_54 (lv_at hl 0 rfl) ?_
    refine lv_dload hx hb dX0_radiusBetween_56 (lv_at hl 1 rfl) ?_
    have b_21 : dB (1062) (FP.dsub (R y) (R x)) := dB.sub (hrow.R (i := y) (by omega)) (hrow.R (i := x) (by omega)) (M := 1060) (by omega) (by omega) (by omega)
    refine lv_dsub hx hb dX0_radiusBetween_58 (b_21.ok (by omega)) ?_
    have b_22 : dB (1106) (FP.dmul (FP.dsub t (T x)) (FP.dsub (R y) (R x))) := dB.mul b_20 b_21 (by omega) (by omega) (by omega)
    refine lv_dmul hx hb dX0_radiusBetween_59 (b_22.ok (by omega)) ?_
    refine lv_dload hx hb dX0_radiusBetween_60 (lv_at hl 2 rfl) ?_
    refine lv_dload hx hb dX0_radiusBetween_62 (lv_at hl 3 rfl) ?_
    have b_23 : dB (1062) (FP.dsub (T y) (T x)) := dB.sub (hrow.T (i := y) (by omega)) (hrow.T (i := x) (by omega)) (M := 1060) (by omega) (by omega) (by omega)
    refine lv_dsub hx hb dX0_radiusBetween_64 (b_23.ok (by omega)) ?_
    have b_24 : dB (1110) (FP.ddiv (FP.dmul (FP.dsub t (T x)) (FP.dsub (R y) (R x))) (FP.dsub (T y) (T x))) := dB.div b_22 (hrow.dL (i := x) (j := y) (by omega) (by omega)) b_23 (by omega) (by omega) (by omega) (by omega)
    refine lv_ddiv hx hb dX0_radiusBetween_65 (b_24.ok (by omega)) ?_
    have b_25 : dB (1112) (FP.dadd (R x) (FP.ddiv (FP.dmul (FP.dsub t (T x)) (FP.dsub (R y) (R x))) (FP.dsub (T y) (T x)))) := dB.add (hrow.R (i := x) (by omega)) b_24 (M := 1110) (by omega) (by omega) (by omega)
    refine lv_dadd hx hb dX0_radiusBetween_66 (b_25.ok (by omega)) ?_
    refine lv_goto (tgt := 72) hx hb dX0_radiusBetween_67 (by decide) ?_
    exact W.dret hx hb hr (fun t9s hht hW9 => ⟨⟨FP.dadd (R x) (FP.ddiv (FP.dmul (FP.dsub t (T x)) (FP.dsub (R y) (R x))) (FP.dsub (T y) (T x))), (), rfl, (by first | rfl | (exfalso; omega)), trivial⟩, hS.F hht⟩) hS.2.2 dX0_radiusBetween_72

set_option maxHeartbeats 4000000 in
set_option maxRecDepth 100000 in
theorem m_X0_leastRadius (l : Launch) (dC : Nat → ClassId) (dI : Nat → Nat → Nat) (cD : ClassId) (k rw rd : Nat) (sp st : UInt64) (tf tg : Nat) (n : Nat) (T R : Nat → UInt64) (t : UInt64) (ht : dB 1064 t) (hrow : rowsOK T R n) : Met l yX0_leastRadius wsX0_leastRadius ({ frames := 3, cells := 0, slots := 0, locals := 74 } : Room) (va_Pc [.ref k, .double t] (PK (dC, dI) [(cD, .double)] [(k, .inr (0, [.ref rw, .ref rd, .double sp, .double st])), (rw, .inr (1, [.ref tf, .ref tg, .int (nI n)])), (tf, .inl (cD, 12, .inr (.inr (.inr (.inl T))))), (tg, .inl (cD, 12, .inr (.inr (.inr (.inl R)))))])) (va_Qd (fun (r : UInt64) (_ : Unit) => r = (rRad T R t n).getD noR) (fun _ _ => True) (fun _ => False)) 0 0 (fun _ => False) := by
  refine Met.ofW (cc := cX0_leastRadius) (maxL := 4) (ret := (some .double)) (by decide) rfl ?_
  intro p e s m args below meth c s₁ BB hml hv
  obtain ⟨rfl, hP, hK, hN⟩ := hv
  have hx := BB.exec
  have hb := BB.bytes
  have hr := BB.returns
  have hts := atoms_spec (ws := wsX0_leastRadius) BB.pre
  have hown : s.vm.findClass RX0 = some m.cls := findClass_of_methodNamed BB.named
  have hlocks := BB.notSynchronized
  have hS : va_S (fun _ => False) s.heap s.heap [] := va_S.rf
  have hP : va_P (dC, dI) vwCl [(k, .inr (0, [.ref rw, .ref rd, .double sp, .double st])), (rw, .inr (1, [.ref tf, .ref tg, .int (nI n)])), (tf, .inl (cD, 12, .inr (.inr (.inr (.inl T))))), (tg, .inl (cD, 12, .inr (.inr (.inr (.inl R)))))] s.heap := hP
  have hl := lv_entry ([.ref k, .double t]) (n := 4) (Nat.le_of_ble_eq_true rfl)
  rw [lg_entry_eq]
  generalize (lg_sl ([.ref k, .double t]) ++ List.replicate (4 - (lg_sl ([.ref k, .double t])).length) Slot.unset).toArray = ls at hl ⊢
  have hl : lv_has ls 4 [(0, .ref k), (1, .double t)] := hl
  have hn12 := hrow.1
  refine lv_iconst (v := 0) hx hb dX0_leastRadius_0 (by decide) ?_
  refine lv_istore_n (lv' := [(3, .int 0), (0, .ref k), (1, .double t)]) hx hb dX0_leastRadius_1 rfl hl (by decide) rfl (fun ls hl => ?_)
  refine w_loop (σ := Nat) (fun n9 x9 H locs ls => lv_has ls 4 [(3, .int (nI x9)), (0, .ref k), (1, .double t)] ∧ va_P (dC, dI) vwCl [(k, .inr (0, [.ref rw, .ref rd, .double sp, .double st])), (rw, .inr (1, [.ref tf, .ref tg, .int (nI n)])), (tf, .inl (cD, 12, .inr (.inr (.inr (.inl T))))), (tg, .inl (cD, 12, .inr (.inr (.inr (.inl R)))))] H ∧ va_S (fun _ => False) s.heap H locs ∧ x9 + n9 = n ∧ ∀ j, j < x9 → dv (T j) < dv t) (n0 := n) (x0 := 0) ⟨lv_sub hl [0, 1, 2] rfl, hP, hS, (show 0 + n = n ∧ ∀ j, j < 0 → dv (T j) < dv t from ⟨by omega, fun j hj => absurd hj (Nat.not_lt_zero j)⟩)⟩ ?_
  rintro n9 i9 H locs ls ⟨hl, hP, hS, hi⟩ ih
  have hl : lv_has ls 4 [(3, .int (nI i9)), (0, .ref k), (1, .double t)] := hl
  have hP : va_P (dC, dI) vwCl [(k, .inr (0, [.ref rw, .ref rd, .double sp, .double st])), (rw, .inr (1, [.ref tf, .ref tg, .int (nI n)])), (tf, .inl (cD, 12, .inr (.inr (.inr (.inl T))))), (tg, .inl (cD, 12, .inr (.inr (.inr (.inl R)))))] H := hP
  have hi : i9 + n9 = n ∧ ∀ j, j < i9 → dv (T j) < dv t := hi
  refine lv_iload_n hx hb dX0_leastRadius_2 rfl (lv_at hl 0 rfl) ?_
  refine lv_aload_n hx hb dX0_leastRadius_3 rfl (lv_at hl 1 rfl) ?_
  refine va_get (D := (dC, dI)) (ci := 0) (v := .ref rw) (C := RX0) (T := TX0) (N := 4) hx hb hts (by decide +kernel) hown hK hP 0 rfl rfl 0 (by decide) (hts (.fieldLink RX0 14 "SteamBends$Kind" "rows" "LSteamBends$Pairs;") (by decide +kernel)) (fun _ h9 => h9) rfl dX0_leastRadius_4 ?_
  refine va_getN (D := (dC, dI)) (ci := 1) (v := .int (nI n)) (C := RX1) (T := TX1) (N := 3) (host := "SteamBends") hx hb hts (by decide +kernel) hown hK hP 1 rfl rfl 2 (by decide) (va_Nw.use rfl (hN.f 5 rfl)) (fun _ h9 => h9) rfl dX0_leastRadius_7 ?_
  refine lv_icmp_ge (tgt := 74) hx hb dX0_leastRadius_10 (by decide) (fun c_10 => ?_) (fun c_10 => ?_)
  · have c_10 := (nI_leI (a := n) (b := i9) (by omega) (by omega)).mp c_10
    refine lv_ldc2d (v := 13830554455654793216) hx hb hown (hts (.constantDouble RX0 43 (13830554455654793216)) (by decide +kernel)) dX0_leastRadius_74 ?_
    exact W.dret hx hb hr (fun t9s hht hW9 => ⟨⟨13830554455654793216, (), rfl, (by rw [rRad_below n (Nat.le_refl n) (fun j hj => hi.2 j (by omega))]; rfl), trivial⟩, hS.F hht⟩) hS.2.2 dX0_leastRadius_77
  · have c_10 := mt (nI_leI (a := n) (b := i9) (by omega) (by omega)).mpr c_10
    refine lv_aload_n hx hb dX0_leastRadius_13 rfl (lv_at hl 1 rfl) ?_
    refine va_get (D := (dC, dI)) (ci := 0) (v := .ref rw) (C := RX0) (T := TX0) (N := 4) hx hb hts (by decide +kernel) hown hK hP 0 rfl rfl 0 (by decide) (hts (.fieldLink RX0 14 "SteamBends$Kind" "rows" "LSteamBends$Pairs;") (by decide +kernel)) (fun _ h9 => h9) rfl dX0_leastRadius_14 ?_
    refine lv_iload_n hx hb dX0_leastRadius_17 rfl (lv_at hl 0 rfl) ?_
    have hPc := hP.sub (ws' := [(rw, .inr (1, [.ref tf, .ref tg, .int (nI n)])), (tf, .inl (cD, 12, .inr (.inr (.inr (.inl T))))), (tg, .inl (cD, 12, .inr (.inr (.inr (.inl R)))))]) [1, 2, 3] rfl
    have hKc := hK.sub (tys' := [(cD, .double)]) [0] rfl
    refine va_calld (va_runV (As := [.int (nI i9)]) (rest := []) ⟨hx, hb, hml, hown, hts⟩ (m_X1_first l dC dI cD rw tf tg n 12 T R i9 (by omega) (by omega)) (cwV 1 hts gX0_leastRadius_X1_first rfl rfl rfl (by decide +kernel) ⟨(Nat.le_of_ble_eq_true rfl), (Nat.le_of_ble_eq_true rfl)⟩) ⟨PK.blind, va_recv hKc hPc (ci := 1) (q0 := 0) rfl rfl, fun U9 hU9 hW9 => ⟨rfl, PK.at hPc hKc hN hU9 hW9⟩⟩ rfl rfl hl.1 rfl (lv_room (Nat.le_of_ble_eq_true rfl)) dX0_leastRadius_18 ⟨(Nat.le_of_ble_eq_true rfl), (Nat.le_of_ble_eq_true rfl)⟩) hS (fun q _ h => h.elim) (fun q h => h.elim) (fun r_27 u9s t9s H1 locs hht hvm9 hw_18_k_26 hB hz1 hk1 hS => ?_)
    have hP := va_still hP hk1
    generalize H1 = H at hP hS ⊢
    subst hw_18_k_26
    refine lv_dload_n hx hb dX0_leastRadius_21 rfl (lv_at hl 2 rfl) ?_
    refine lv_dcmp hx hb dX0_leastRadius_22 ?_
    refine lv_if_ne (tgt := 35) hx hb dX0_leastRadius_23 (by decide) (fun c_23 => ?_) (fun c_23 => ?_)
    · have c_23 := mt (cv_eq ((hrow.T (i := i9) (by omega)).nn (by omega)) (ht.nn (by omega))).mpr c_23
      refine lv_aload_n hx hb dX0_leastRadius_35 rfl (lv_at hl 1 rfl) ?_
      refine va_get (D := (dC, dI)) (ci := 0) (v := .ref rw) (C := RX0) (T := TX0) (N := 4) hx hb hts (by decide +kernel) hown hK hP 0 rfl rfl 0 (by decide) (hts (.fieldLink RX0 14 "SteamBends$Kind" "rows" "LSteamBends$Pairs;") (by decide +kernel)) (fun _ h9 => h9) rfl dX0_leastRadius_36 ?_
      refine lv_iload_n hx hb dX0_leastRadius_39 rfl (lv_at hl 0 rfl) ?_
      have hPc := hP.sub (ws' := [(rw, .inr (1, [.ref tf, .ref tg, .int (nI n)])), (tf, .inl (cD, 12, .inr (.inr (.inr (.inl T))))), (tg, .inl (cD, 12, .inr (.inr (.inr (.inl R)))))]) [1, 2, 3] rfl
      have hKc := hK.sub (tys' := [(cD, .double)]) [0] rfl
      refine va_calld (va_runV (As := [.int (nI i9)]) (rest := []) ⟨hx, hb, hml, hown, hts⟩ (m_X1_first l dC dI cD rw tf tg n 12 T R i9 (by omega) (by omega)) (cwV 1 hts gX0_leastRadius_X1_first rfl rfl rfl (by decide +kernel) ⟨(Nat.le_of_ble_eq_true rfl), (Nat.le_of_ble_eq_true rfl)⟩) ⟨PK.blind, va_recv hKc hPc (ci := 1) (q0 := 0) rfl rfl, fun U9 hU9 hW9 => ⟨rfl, PK.at hPc hKc hN hU9 hW9⟩⟩ rfl rfl hl.1 rfl (lv_room (Nat.le_of_ble_eq_true rfl)) dX0_leastRadius_40 ⟨(Nat.le_of_ble_eq_true rfl), (Nat.le_of_ble_eq_true rfl)⟩) hS (fun q _ h => h.elim) (fun q h => h.elim) (fun r_29 u9s t9s H1 locs hht hvm9 hw_40_k_28 hB hz1 hk1 hS => ?_)
      have hP := va_still hP hk1
      generalize H1 = H at hP hS ⊢
      subst hw_40_k_28
      refine lv_dload_n hx hb dX0_leastRadius_43 rfl (lv_at hl 2 rfl) ?_
      refine lv_dcmp hx hb dX0_leastRadius_44 ?_
      refine lv_if_le (tgt := 68) hx hb dX0_leastRadius_45 (by decide) (fun c_45 => ?_) (fun c_45 => ?_)
      · have c_45 := (cv_le ((hrow.T (i := i9) (by omega)).nn (by omega)) (ht.nn (by omega))).mp c_45
        refine lv_iinc (v := nI (i9 + 1)) (lv' := [(3, .int (nI (i9 + 1))), (0, .ref k), (1, .double t)]) hx hb dX0_leastRadius_68 hl (k := 0) rfl (show nI i9 + nI 1 = nI (i9 + 1) from nI_add _ _) (by decide) rfl (fun ls hl => ?_)
        refine lv_goto (tgt := 2) hx hb dX0_leastRadius_71 (by decide) ?_
        exact ih (n9 - 1) (by omega) (i9 + 1) _ _ _ ⟨lv_sub hl [0, 1, 2] rfl, hP, hS, (show (i9 + 1) + (n9 - 1) = n ∧ ∀ j, j < (i9 + 1) → dv (T j) < dv t from ⟨by omega, fun j hj => by
            rcases Nat.lt_or_ge j i9 with q | q
            · exact hi.2 j q
            · rw [show j = i9 by omega]; omega⟩)⟩
      · have c_45 := mt (cv_le ((hrow.T (i := i9) (by omega)).nn (by omega)) (ht.nn (by omega))).mpr c_45
        refine lv_iload_n hx hb dX0_leastRadius_48 rfl (lv_at hl 0 rfl) ?_
        refine lv_if_ne (tgt := 58) hx hb dX0_leastRadius_49 (by decide) (fun c_49 => ?_) (fun c_49 => ?_)
        · have c_49 := mt (nI_eq (a := i9) (b := 0) (by omega) (by omega)).mpr c_49
          refine lv_aload_n hx hb dX0_leastRadius_58 rfl (lv_at hl 1 rfl) ?_
          refine lv_iload_n hx hb dX0_leastRadius_59 rfl (lv_at hl 0 rfl) ?_
          refine lv_iconst (v := 1) hx hb dX0_leastRadius_60 (by decide) ?_
          refine lv_isubN (x := i9) (y := 1) hx hb dX0_leastRadius_61 (by omega) ?_
          refine lv_iload_n hx hb dX0_leastRadius_62 rfl (lv_at hl 0 rfl) ?_
          refine lv_dload_n hx hb dX0_leastRadius_63 rfl (lv_at hl 2 rfl) ?_
          have hPc := hP.sub (ws' := [(k, .inr (0, [.ref rw, .ref rd, .double sp, .double st])), (rw, .inr (1, [.ref tf, .ref tg, .int (nI n)])), (tf, .inl (cD, 12, .inr (.inr (.inr (.inl T))))), (tg, .inl (cD, 12, .inr (.inr (.inr (.inl R)))))]) [0, 1, 2, 3] rfl
          have hKc := hK.sub (tys' := [(cD, .double)]) [0] rfl
          refine va_calld (va_runV (As := [.int (nI (i9 - 1)), .int (nI i9), .double t]) (rest := []) ⟨hx, hb, hml, hown, hts⟩ (m_X0_radiusBetween l dC dI cD k rw rd sp st tf tg n T R (i9 - 1) i9 t (by omega) (by omega) (by omega) (ht.mono (by omega) : dB 1064 _) hrow) (cwV 3 hts gX0_leastRadius_X0_radiusBetween rfl rfl rfl (by decide +kernel) ⟨(Nat.le_of_ble_eq_true rfl), (Nat.le_of_ble_eq_true rfl)⟩) ⟨PK.blind, va_recv hKc hPc (ci := 0) (q0 := 0) rfl rfl, fun U9 hU9 hW9 => ⟨rfl, PK.at hPc hKc hN hU9 hW9⟩⟩ rfl rfl hl.1 rfl (lv_room (Nat.le_of_ble_eq_true rfl)) dX0_leastRadius_64 ⟨(Nat.le_of_ble_eq_true rfl), (Nat.le_of_ble_eq_true rfl)⟩) hS (fun q _ h => h.elim) (fun q h => h.elim) (fun r_31 u9s t9s H1 locs hht hvm9 hw_64_k_30 hB hz1 hk1 hS => ?_)
          have hP := va_still hP hk1
          generalize H1 = H at hP hS ⊢
          subst hw_64_k_30
          exact W.dret hx hb hr (fun t9s hht hW9 => ⟨⟨FP.dadd (R (i9 - 1)) (FP.ddiv (FP.dmul (FP.dsub t (T (i9 - 1))) (FP.dsub (R i9) (R (i9 - 1)))) (FP.dsub (T i9) (T (i9 - 1)))), (), rfl, (by rw [rRad_mid (i := i9) hrow (by omega) (by omega) (hi.2 _ (by omega)) (by omega)]; rfl), trivial⟩, hS.F hht⟩) hS.2.2 dX0_leastRadius_67
        · have c_49 := (nI_eq (a := i9) (b := 0) (by omega) (by omega)).mp c_49
          refine lv_ldc2d (v := 13830554455654793216) hx hb hown (hts (.constantDouble RX0 43 (13830554455654793216)) (by decide +kernel)) dX0_leastRadius_52 ?_
          refine lv_goto (tgt := 67) hx hb dX0_leastRadius_55 (by decide) ?_
          exact W.dret hx hb hr (fun t9s hht hW9 => ⟨⟨13830554455654793216, (), rfl, (by rw [rRad_first hrow (by omega) (by have e := c_49; subst e; omega)]; rfl), trivial⟩, hS.F hht⟩) hS.2.2 dX0_leastRadius_67
    · have c_23 := (cv_eq ((hrow.T (i := i9) (by omega)).nn (by omega)) (ht.nn (by omega))).mp c_23
      refine lv_aload_n hx hb dX0_leastRadius_26 rfl (lv_at hl 1 rfl) ?_
      refine va_get (D := (dC, dI)) (ci := 0) (v := .ref rw) (C := RX0) (T := TX0) (N := 4) hx hb hts (by decide +kernel) hown hK hP 0 rfl rfl 0 (by decide) (hts (.fieldLink RX0 14 "SteamBends$Kind" "rows" "LSteamBends$Pairs;") (by decide +kernel)) (fun _ h9 => h9) rfl dX0_leastRadius_27 ?_
      refine lv_iload_n hx hb dX0_leastRadius_30 rfl (lv_at hl 0 rfl) ?_
      have hPc := hP.sub (ws' := [(rw, .inr (1, [.ref tf, .ref tg, .int (nI n)])), (tf, .inl (cD, 12, .inr (.inr (.inr (.inl T))))), (tg, .inl (cD, 12, .inr (.inr (.inr (.inl R)))))]) [1, 2, 3] rfl
      have hKc := hK.sub (tys' := [(cD, .double)]) [0] rfl
      refine va_calld (va_runV (As := [.int (nI i9)]) (rest := []) ⟨hx, hb, hml, hown, hts⟩ (m_X1_second l dC dI cD rw tf tg n 12 T R i9 (by omega) (by omega)) (cwV 1 hts gX0_leastRadius_X1_second rfl rfl rfl (by decide +kernel) ⟨(Nat.le_of_ble_eq_true rfl), (Nat.le_of_ble_eq_true rfl)⟩) ⟨PK.blind, va_recv hKc hPc (ci := 1) (q0 := 0) rfl rfl, fun U9 hU9 hW9 => ⟨rfl, PK.at hPc hKc hN hU9 hW9⟩⟩ rfl rfl hl.1 rfl (lv_room (Nat.le_of_ble_eq_true rfl)) dX0_leastRadius_31 ⟨(Nat.le_of_ble_eq_true rfl), (Nat.le_of_ble_eq_true rfl)⟩) hS (fun q _ h => h.elim) (fun q h => h.elim) (fun r_33 u9s t9s H1 locs hht hvm9 hw_31_k_32 hB hz1 hk1 hS => ?_)
      have hP := va_still hP hk1
      generalize H1 = H at hP hS ⊢
      subst hw_31_k_32
      exact W.dret hx hb hr (fun t9s hht hW9 => ⟨⟨R i9, (), rfl, (by rw [rRad_eq hrow (by omega) c_23]; rfl), trivial⟩, hS.F hht⟩) hS.2.2 dX0_leastRadius_34

set_option maxHeartbeats 4000000 in
set_option maxRecDepth 100000 in
theorem m_X0_leastStrips (l : Launch) (dC : Nat → ClassId) (dI : Nat → Nat → Nat) (cD : ClassId) (k rw rd : Nat) (sp st : UInt64) (tf tg : Nat) (n : Nat) (T R : Nat → UInt64) (t w : UInt64) (ht : dB 1060 t) (hw : dB 1060 w) (hrow : rowsOK T R n) : Met l yX0_leastStrips wsX0_leastStrips ({ frames := 4, cells := 0, slots := 0, locals := 97 } : Room) (va_Pc [.ref k, .double t, .double w] (PK (dC, dI) [(cD, .double)] [(k, .inr (0, [.ref rw, .ref rd, .double sp, .double st])), (rw, .inr (1, [.ref tf, .ref tg, .int (nI n)])), (tf, .inl (cD, 12, .inr (.inr (.inr (.inl T))))), (tg, .inl (cD, 12, .inr (.inr (.inr (.inl R)))))])) (va_Qi (fun (r : Int32) (_ : Unit) => r = strp T R n t w 100 1) (fun _ _ => True) (fun _ => False)) 0 0 (fun _ => False) := by
  refine Met.ofW (cc := cX0_leastStrips) (maxL := 8) (ret := (some .int)) (by decide) rfl ?_
  intro p e s m args below meth c s₁ BB hml hv
  obtain ⟨rfl, hP, hK, hN⟩ := hv
  have hx := BB.exec
  have hb := BB.bytes
  have hr := BB.returns
  have hts := atoms_spec (ws := wsX0_leastStrips) BB.pre
  have hown : s.vm.findClass RX0 = some m.cls := findClass_of_methodNamed BB.named
  have hlocks := BB.notSynchronized
  have hS : va_S (fun _ => False) s.heap s.heap [] := va_S.rf
  have hP : va_P (dC, dI) vwCl [(k, .inr (0, [.ref rw, .ref rd, .double sp, .double st])), (rw, .inr (1, [.ref tf, .ref tg, .int (nI n)])), (tf, .inl (cD, 12, .inr (.inr (.inr (.inl T))))), (tg, .inl (cD, 12, .inr (.inr (.inr (.inl R)))))] s.heap := hP
  have hl := lv_entry ([.ref k, .double t, .double w]) (n := 8) (Nat.le_of_ble_eq_true rfl)
  rw [lg_entry_eq]
  generalize (lg_sl ([.ref k, .double t, .double w]) ++ List.replicate (8 - (lg_sl ([.ref k, .double t, .double w])).length) Slot.unset).toArray = ls at hl ⊢
  have hl : lv_has ls 8 [(0, .ref k), (1, .double t), (3, .double w)] := hl
  refine lv_iconst (v := 1) hx hb dX0_leastStrips_0 (by decide) ?_
  refine lv_istore (lv' := [(5, .int 1), (0, .ref k), (1, .double t), (3, .double w)]) hx hb dX0_leastStrips_1 hl (by decide) rfl (fun ls hl => ?_)
  refine w_loop (σ := Nat) (fun n9 x9 H locs ls => lv_has ls 8 [(5, .int (nI x9)), (0, .ref k), (1, .double t), (3, .double w)] ∧ va_P (dC, dI) vwCl [(k, .inr (0, [.ref rw, .ref rd, .double sp, .double st])), (rw, .inr (1, [.ref tf, .ref tg, .int (nI n)])), (tf, .inl (cD, 12, .inr (.inr (.inr (.inl T))))), (tg, .inl (cD, 12, .inr (.inr (.inr (.inl R)))))] H ∧ va_S (fun _ => False) s.heap H locs ∧ x9 + n9 = 101 ∧ 1 ≤ x9 ∧ strp T R n t w n9 x9 = strp T R n t w 100 1) (n0 := 100) (x0 := 1) ⟨lv_sub hl [0, 1, 2, 3] rfl, hP, hS, (show 1 + 100 = 101 ∧ 1 ≤ 1 ∧ strp T R n t w 100 1 = strp T R n t w 100 1 from ⟨by omega, by omega, rfl⟩)⟩ ?_
  rintro n9 k9 H locs ls ⟨hl, hP, hS, hi⟩ ih
  have hl : lv_has ls 8 [(5, .int (nI k9)), (0, .ref k), (1, .double t), (3, .double w)] := hl
  have hP : va_P (dC, dI) vwCl [(k, .inr (0, [.ref rw, .ref rd, .double sp, .double st])), (rw, .inr (1, [.ref tf, .ref tg, .int (nI n)])), (tf, .inl (cD, 12, .inr (.inr (.inr (.inl T))))), (tg, .inl (cD, 12, .inr (.inr (.inr (.inl R)))))] H := hP
  have hi : k9 + n9 = 101 ∧ 1 ≤ k9 ∧ strp T R n t w n9 k9 = strp T R n t w 100 1 := hi
  refine lv_iload hx hb dX0_leastStrips_3 (lv_at hl 0 rfl) ?_
  refine lv_bipush (v := 100) hx hb dX0_leastStrips_5 (by decide) ?_
  refine lv_icmp_gt (tgt := 45) hx hb dX0_leastStrips_7 (by decide) (fun c_7 => ?_) (fun c_7 => ?_)
  · have c_7 := (nI_ltI (a := 100) (b := k9) (by omega) (by omega)).mp c_7
    refine lv_iconst (v := -1) hx hb dX0_leastStrips_45 (by decide) ?_
    exact W.iret hx hb hr (fun t9s hht hW9 => ⟨⟨(-1), (), rfl, (by rw [← hi.2.2, show n9 = 0 by omega]; rfl), trivial⟩, hS.F hht⟩) hS.2.2 dX0_leastStrips_46
  · have c_7 := mt (nI_ltI (a := 100) (b := k9) (by omega) (by omega)).mpr c_7
    obtain ⟨f9, rfl⟩ : ∃ f, n9 = f + 1 := ⟨n9 - 1, by omega⟩
    refine lv_aload_n hx hb dX0_leastStrips_10 rfl (lv_at hl 1 rfl) ?_
    refine lv_dload_n hx hb dX0_leastStrips_11 rfl (lv_at hl 2 rfl) ?_
    refine lv_iload hx hb dX0_leastStrips_12 (lv_at hl 0 rfl) ?_
    refine lv_i2d hx hb dX0_leastStrips_14 ?_
    have b_34 : dB (1061) (FP.ddiv t (FP.i2d (nI k9))) := dB.div ht (i2d_dL (k := k9) (by omega) (by omega)) (i2d_dB (nI k9)) (by omega) (by omega) (by omega) (by omega)
    refine lv_ddiv hx hb dX0_leastStrips_15 (b_34.ok (by omega)) ?_
    have hPc := hP.sub (ws' := [(k, .inr (0, [.ref rw, .ref rd, .double sp, .double st])), (rw, .inr (1, [.ref tf, .ref tg, .int (nI n)])), (tf, .inl (cD, 12, .inr (.inr (.inr (.inl T))))), (tg, .inl (cD, 12, .inr (.inr (.inr (.inl R)))))]) [0, 1, 2, 3] rfl
    have hKc := hK.sub (tys' := [(cD, .double)]) [0] rfl
    refine va_calld (va_runV (As := [.double (FP.ddiv t (FP.i2d (nI k9)))]) (rest := []) ⟨hx, hb, hml, hown, hts⟩ (m_X0_leastRadius l dC dI cD k rw rd sp st tf tg n T R (FP.ddiv t (FP.i2d (nI k9))) (b_34.mono (by omega) : dB 1064 _) hrow) (cwV 1 hts gX0_leastStrips_X0_leastRadius rfl rfl rfl (by decide +kernel) ⟨(Nat.le_of_ble_eq_true rfl), (Nat.le_of_ble_eq_true rfl)⟩) ⟨PK.blind, va_recv hKc hPc (ci := 0) (q0 := 0) rfl rfl, fun U9 hU9 hW9 => ⟨rfl, PK.at hPc hKc hN hU9 hW9⟩⟩ rfl rfl hl.1 rfl (lv_room (Nat.le_of_ble_eq_true rfl)) dX0_leastStrips_16 ⟨(Nat.le_of_ble_eq_true rfl), (Nat.le_of_ble_eq_true rfl)⟩) hS (fun q _ h => h.elim) (fun q h => h.elim) (fun r_36 u9s t9s H1 locs hht hvm9 hw_16_k_35 hB hz1 hk1 hS => ?_)
    have hP := va_still hP hk1
    generalize H1 = H at hP hS ⊢
    subst hw_16_k_35
    refine lv_dstore (lv' := [(6, .double ((rRad T R (FP.ddiv t (FP.i2d (nI k9))) n).getD noR)), (5, .int (nI k9)), (0, .ref k), (1, .double t), (3, .double w)]) hx hb dX0_leastStrips_19 hl (by decide) rfl (fun ls hl => ?_)
    refine lv_dload hx hb dX0_leastStrips_21 (lv_at hl 0 rfl) ?_
    refine va_calli (va_runSN (As := [.double ((rRad T R (FP.ddiv t (FP.i2d (nI k9))) n).getD noR)]) (rest := []) ⟨hx, hb, hml, hown, hts⟩ (m_X3_isNone l ((rRad T R (FP.ddiv t (FP.i2d (nI k9))) n).getD noR) ((rRad_dB hrow (b_34.mono (by omega) : dB 1064 _)).nn (by omega))) ⟨va_cnB 1 hts gX0_leastStrips_X3_isNone_n53 rfl rfl rfl (hN.m 2 rfl) (hts (.initialized RX3) (by decide +kernel)) (by decide +kernel) ⟨(Nat.le_of_ble_eq_true rfl), (Nat.le_of_ble_eq_true rfl)⟩, (hts (.static yX3_isNone) (by decide +kernel)), trivial⟩ ⟨fun a U g mk q => q, fun U9 hU9 hW9 => ⟨rfl, trivial⟩⟩ rfl rfl hl.1 rfl (lv_room (Nat.le_of_ble_eq_true rfl)) dX0_leastStrips_23 ⟨(Nat.le_of_ble_eq_true rfl), (Nat.le_of_ble_eq_true rfl)⟩) hS (fun q _ h => h.elim) (fun q h => h.elim) (fun r_38 u9s t9s H1 locs hht hvm9 hw_23_k_37 hB hz1 hk1 hS => ?_)
    have hP := va_still hP hk1
    generalize H1 = H at hP hS ⊢
    refine lv_if_ne (tgt := 39) hx hb dX0_leastStrips_26 (by decide) (fun c_26 => ?_) (fun c_26 => ?_)
    · have c_26 := (b01n hw_23_k_37).mp c_26
      refine lv_iinc (v := nI (k9 + 1)) (lv' := [(5, .int (nI (k9 + 1))), (6, .double ((rRad T R (FP.ddiv t (FP.i2d (nI k9))) n).getD noR)), (0, .ref k), (1, .double t), (3, .double w)]) hx hb dX0_leastStrips_39 hl (k := 1) rfl (show nI k9 + nI 1 = nI (k9 + 1) from nI_add _ _) (by decide) rfl (fun ls hl => ?_)
      refine lv_goto (tgt := 3) hx hb dX0_leastStrips_42 (by decide) ?_
      exact ih (f9) (by omega) (k9 + 1) _ _ _ ⟨lv_sub hl [0, 2, 3, 4] rfl, hP, hS, (show (k9 + 1) + f9 = 101 ∧ 1 ≤ (k9 + 1) ∧ strp T R n t w f9 (k9 + 1) = strp T R n t w 100 1 from ⟨by omega, by omega, by rw [← strp_go (rRad_neg hrow (part_dB ht (by omega) (by omega))) (Or.inl c_26)]; exact hi.2.2⟩)⟩
    · have c_26 := (b01 hw_23_k_37).mp c_26
      refine lv_dload hx hb dX0_leastStrips_29 (lv_at hl 0 rfl) ?_
      refine lv_dload_n hx hb dX0_leastStrips_31 rfl (lv_at hl 4 rfl) ?_
      refine lv_dcmp hx hb dX0_leastStrips_32 ?_
      refine lv_if_gt (tgt := 39) hx hb dX0_leastStrips_33 (by decide) (fun c_33 => ?_) (fun c_33 => ?_)
      · have c_33 := (cv_gt ((rRad_dB hrow (b_34.mono (by omega) : dB 1064 _)).nn (by omega)) (hw.nn (by omega))).mp c_33
        refine lv_iinc (v := nI (k9 + 1)) (lv' := [(5, .int (nI (k9 + 1))), (6, .double ((rRad T R (FP.ddiv t (FP.i2d (nI k9))) n).getD noR)), (0, .ref k), (1, .double t), (3, .double w)]) hx hb dX0_leastStrips_39 hl (k := 1) rfl (show nI k9 + nI 1 = nI (k9 + 1) from nI_add _ _) (by decide) rfl (fun ls hl => ?_)
        refine lv_goto (tgt := 3) hx hb dX0_leastStrips_42 (by decide) ?_
        exact ih (f9) (by omega) (k9 + 1) _ _ _ ⟨lv_sub hl [0, 2, 3, 4] rfl, hP, hS, (show (k9 + 1) + f9 = 101 ∧ 1 ≤ (k9 + 1) ∧ strp T R n t w f9 (k9 + 1) = strp T R n t w 100 1 from ⟨by omega, by omega, by rw [← strp_go (rRad_neg hrow (part_dB ht (by omega) (by omega))) (Or.inr (by omega))]; exact hi.2.2⟩)⟩
      · have c_33 := mt (cv_gt ((rRad_dB hrow (b_34.mono (by omega) : dB 1064 _)).nn (by omega)) (hw.nn (by omega))).mpr c_33
        refine lv_iload hx hb dX0_leastStrips_36 (lv_at hl 1 rfl) ?_
        exact W.iret hx hb hr (fun t9s hht hW9 => ⟨⟨nI k9, (), rfl, (by rw [← hi.2.2, strp_stop (rRad_neg hrow (part_dB ht (by omega) (by omega))) c_26 (by omega)]), trivial⟩, hS.F hht⟩) hS.2.2 dX0_leastStrips_38

set_option maxHeartbeats 4000000 in
set_option maxRecDepth 100000 in
theorem m_X0_residue (l : Launch) (dC : Nat → ClassId) (dI : Nat → Nat → Nat) (cD : ClassId) (k rw rd : Nat) (sp st : UInt64) (bf bg : Nat) (n : Nat) (B K : Nat → UInt64) (s9 : UInt64) (hs9 : dB 1040 s9) (hrd : readsOK B K n) : Met l yX0_residue wsX0_residue ({ frames := 2, cells := 0, slots := 0, locals := 42 } : Room) (va_Pc [.ref k, .double s9] (PK (dC, dI) [(cD, .double)] [(k, .inr (0, [.ref rw, .ref rd, .double sp, .double st])), (rd, .inr (1, [.ref bf, .ref bg, .int (nI n)])), (bf, .inl (cD, 20, .inr (.inr (.inr (.inl B))))), (bg, .inl (cD, 20, .inr (.inr (.inr (.inl K)))))])) (va_Qd (fun (r : UInt64) (_ : Unit) => r = rsd B K s9 n) (fun _ _ => True) (fun _ => False)) 0 0 (fun _ => False) := by
  refine Met.ofW (cc := cX0_residue) (maxL := 8) (ret := (some .double)) (by decide) rfl ?_
  intro p e s m args below meth c s₁ BB hml hv
  obtain ⟨rfl, hP, hK, hN⟩ := hv
  have hx := BB.exec
  have hb := BB.bytes
  have hr := BB.returns
  have hts := atoms_spec (ws := wsX0_residue) BB.pre
  have hown : s.vm.findClass RX0 = some m.cls := findClass_of_methodNamed BB.named
  have hlocks := BB.notSynchronized
  have hS : va_S (fun _ => False) s.heap s.heap [] := va_S.rf
  have hP : va_P (dC, dI) vwCl [(k, .inr (0, [.ref rw, .ref rd, .double sp, .double st])), (rd, .inr (1, [.ref bf, .ref bg, .int (nI n)])), (bf, .inl (cD, 20, .inr (.inr (.inr (.inl B))))), (bg, .inl (cD, 20, .inr (.inr (.inr (.inl K)))))] s.heap := hP
  have hl := lv_entry ([.ref k, .double s9]) (n := 8) (Nat.le_of_ble_eq_true rfl)
  rw [lg_entry_eq]
  generalize (lg_sl ([.ref k, .double s9]) ++ List.replicate (8 - (lg_sl ([.ref k, .double s9])).length) Slot.unset).toArray = ls at hl ⊢
  have hl : lv_has ls 8 [(0, .ref k), (1, .double s9)] := hl
  have hn20 := hrd.1
  refine lv_dconst0 hx hb dX0_residue_0 ?_
  refine lv_dstore_n (lv' := [(3, .double FP.dconst0), (0, .ref k), (1, .double s9)]) hx hb dX0_residue_1 rfl hl (by decide) rfl (fun ls hl => ?_)
  refine lv_iconst (v := 0) hx hb dX0_residue_2 (by decide) ?_
  refine lv_istore (lv' := [(5, .int 0), (3, .double FP.dconst0), (0, .ref k), (1, .double s9)]) hx hb dX0_residue_3 hl (by decide) rfl (fun ls hl => ?_)
  refine w_loop (σ := Nat) (fun n9 x9 H locs ls => lv_has ls 8 [(5, .int (nI x9)), (3, .double (rsd B K s9 x9)), (0, .ref k), (1, .double s9)] ∧ va_P (dC, dI) vwCl [(k, .inr (0, [.ref rw, .ref rd, .double sp, .double st])), (rd, .inr (1, [.ref bf, .ref bg, .int (nI n)])), (bf, .inl (cD, 20, .inr (.inr (.inr (.inl B))))), (bg, .inl (cD, 20, .inr (.inr (.inr (.inl K)))))] H ∧ va_S (fun _ => False) s.heap H locs ∧ x9 + n9 = n) (n0 := n) (x0 := 0) ⟨lv_sub hl [0, 1, 2, 3] rfl, hP, hS, (show 0 + n = n from by omega)⟩ ?_
  rintro n9 i9 H locs ls ⟨hl, hP, hS, hi⟩ ih
  have hl : lv_has ls 8 [(5, .int (nI i9)), (3, .double (rsd B K s9 i9)), (0, .ref k), (1, .double s9)] := hl
  have hP : va_P (dC, dI) vwCl [(k, .inr (0, [.ref rw, .ref rd, .double sp, .double st])), (rd, .inr (1, [.ref bf, .ref bg, .int (nI n)])), (bf, .inl (cD, 20, .inr (.inr (.inr (.inl B))))), (bg, .inl (cD, 20, .inr (.inr (.inr (.inl K)))))] H := hP
  have hi : i9 + n9 = n := hi
  refine lv_iload hx hb dX0_residue_5 (lv_at hl 0 rfl) ?_
  refine lv_aload_n hx hb dX0_residue_7 rfl (lv_at hl 2 rfl) ?_
  refine va_get (D := (dC, dI)) (ci := 0) (v := .ref rd) (C := RX0) (T := TX0) (N := 4) hx hb hts (by decide +kernel) hown hK hP 0 rfl rfl 1 (by decide) (hts (.fieldLink RX0 20 "SteamBends$Kind" "readings" "LSteamBends$Pairs;") (by decide +kernel)) (fun _ h9 => h9) rfl dX0_residue_8 ?_
  refine va_getN (D := (dC, dI)) (ci := 1) (v := .int (nI n)) (C := RX1) (T := TX1) (N := 3) (host := "SteamBends") hx hb hts (by decide +kernel) hown hK hP 1 rfl rfl 2 (by decide) (va_Nw.use rfl (hN.f 5 rfl)) (fun _ h9 => h9) rfl dX0_residue_11 ?_
  refine lv_icmp_ge (tgt := 56) hx hb dX0_residue_14 (by decide) (fun c_14 => ?_) (fun c_14 => ?_)
  · have c_14 := (nI_leI (a := n) (b := i9) (by omega) (by omega)).mp c_14
    refine lv_dload_n hx hb dX0_residue_56 rfl (lv_at hl 1 rfl) ?_
    exact W.dret hx hb hr (fun t9s hht hW9 => ⟨⟨rsd B K s9 i9, (), rfl, (by rw [show n = i9 by omega]), trivial⟩, hS.F hht⟩) hS.2.2 dX0_residue_57
  · have c_14 := mt (nI_leI (a := n) (b := i9) (by omega) (by omega)).mpr c_14
    refine lv_aload_n hx hb dX0_residue_17 rfl (lv_at hl 2 rfl) ?_
    refine va_get (D := (dC, dI)) (ci := 0) (v := .ref rd) (C := RX0) (T := TX0) (N := 4) hx hb hts (by decide +kernel) hown hK hP 0 rfl rfl 1 (by decide) (hts (.fieldLink RX0 20 "SteamBends$Kind" "readings" "LSteamBends$Pairs;") (by decide +kernel)) (fun _ h9 => h9) rfl dX0_residue_18 ?_
    refine lv_iload hx hb dX0_residue_21 (lv_at hl 0 rfl) ?_
    have hPc := hP.sub (ws' := [(rd, .inr (1, [.ref bf, .ref bg, .int (nI n)])), (bf, .inl (cD, 20, .inr (.inr (.inr (.inl B))))), (bg, .inl (cD, 20, .inr (.inr (.inr (.inl K)))))]) [1, 2, 3] rfl
    have hKc := hK.sub (tys' := [(cD, .double)]) [0] rfl
    refine va_calld (va_runV (As := [.int (nI i9)]) (rest := []) ⟨hx, hb, hml, hown, hts⟩ (m_X1_second l dC dI cD rd bf bg n 20 B K i9 (by omega) (by omega)) (cwV 1 hts gX0_residue_X1_second rfl rfl rfl (by decide +kernel) ⟨(Nat.le_of_ble_eq_true rfl), (Nat.le_of_ble_eq_true rfl)⟩) ⟨PK.blind, va_recv hKc hPc (ci := 1) (q0 := 0) rfl rfl, fun U9 hU9 hW9 => ⟨rfl, PK.at hPc hKc hN hU9 hW9⟩⟩ rfl rfl hl.1 rfl (lv_room (Nat.le_of_ble_eq_true rfl)) dX0_residue_23 ⟨(Nat.le_of_ble_eq_true rfl), (Nat.le_of_ble_eq_true rfl)⟩) hS (fun q _ h => h.elim) (fun q h => h.elim) (fun r_40 u9s t9s H1 locs hht hvm9 hw_23_k_39 hB hz1 hk1 hS => ?_)
    have hP := va_still hP hk1
    generalize H1 = H at hP hS ⊢
    subst hw_23_k_39
    refine lv_aload_n hx hb dX0_residue_26 rfl (lv_at hl 2 rfl) ?_
    refine va_get (D := (dC, dI)) (ci := 0) (v := .ref rd) (C := RX0) (T := TX0) (N := 4) hx hb hts (by decide +kernel) hown hK hP 0 rfl rfl 1 (by decide) (hts (.fieldLink RX0 20 "SteamBends$Kind" "readings" "LSteamBends$Pairs;") (by decide +kernel)) (fun _ h9 => h9) rfl dX0_residue_27 ?_
    refine lv_iload hx hb dX0_residue_30 (lv_at hl 0 rfl) ?_
    have hPc := hP.sub (ws' := [(rd, .inr (1, [.ref bf, .ref bg, .int (nI n)])), (bf, .inl (cD, 20, .inr (.inr (.inr (.inl B))))), (bg, .inl (cD, 20, .inr (.inr (.inr (.inl K)))))]) [1, 2, 3] rfl
    have hKc := hK.sub (tys' := [(cD, .double)]) [0] rfl
    refine va_calld (va_runV (As := [.int (nI i9)]) (rest := [.double (K i9)]) ⟨hx, hb, hml, hown, hts⟩ (m_X1_first l dC dI cD rd bf bg n 20 B K i9 (by omega) (by omega)) (cwV 1 hts gX0_residue_X1_first rfl rfl rfl (by decide +kernel) ⟨(Nat.le_of_ble_eq_true rfl), (Nat.le_of_ble_eq_true rfl)⟩) ⟨PK.blind, va_recv hKc hPc (ci := 1) (q0 := 0) rfl rfl, fun U9 hU9 hW9 => ⟨rfl, PK.at hPc hKc hN hU9 hW9⟩⟩ rfl rfl hl.1 rfl (lv_room (Nat.le_of_ble_eq_true rfl)) dX0_residue_32 ⟨(Nat.le_of_ble_eq_true rfl), (Nat.le_of_ble_eq_true rfl)⟩) hS (fun q _ h => h.elim) (fun q h => h.elim) (fun r_42 u9s t9s H1 locs hht hvm9 hw_32_k_41 hB hz1 hk1 hS => ?_)
    have hP := va_still hP hk1
    generalize H1 = H at hP hS ⊢
    subst hw_32_k_41
    refine lv_dconst1 hx hb dX0_residue_35 ?_
    refine lv_dload_n hx hb dX0_residue_36 rfl (lv_at hl 3 rfl) ?_
    have b_43 : dB (1042) (FP.dadd FP.dconst1 s9) := dB.add dB_d1 hs9 (M := 1040) (by omega) (by omega) (by omega)
    refine lv_dadd hx hb dX0_residue_37 (b_43.ok (by omega)) ?_
    have b_44 : dB (1080) (FP.dmul (B i9) (FP.dadd FP.dconst1 s9)) := dB.mul ((hrd.2 (i9) (by omega)).1) b_43 (by omega) (by omega) (by omega)
    refine lv_dmul hx hb dX0_residue_38 (b_44.ok (by omega)) ?_
    have b_45 : dB (1082) (FP.dsub (K i9) (FP.dmul (B i9) (FP.dadd FP.dconst1 s9))) := dB.sub ((hrd.2 (i9) (by omega)).2) b_44 (M := 1080) (by omega) (by omega) (by omega)
    refine lv_dsub hx hb dX0_residue_39 (b_45.ok (by omega)) ?_
    refine lv_dstore (lv' := [(6, .double (FP.dsub (K i9) (FP.dmul (B i9) (FP.dadd FP.dconst1 s9)))), (5, .int (nI i9)), (3, .double (rsd B K s9 i9)), (0, .ref k), (1, .double s9)]) hx hb dX0_residue_40 hl (by decide) rfl (fun ls hl => ?_)
    refine lv_dload_n hx hb dX0_residue_42 rfl (lv_at hl 2 rfl) ?_
    refine lv_dload hx hb dX0_residue_43 (lv_at hl 0 rfl) ?_
    refine lv_dload hx hb dX0_residue_45 (lv_at hl 0 rfl) ?_
    have b_46 : dB (1142) (FP.dmul (FP.dsub (K i9) (FP.dmul (B i9) (FP.dadd FP.dconst1 s9))) (FP.dsub (K i9) (FP.dmul (B i9) (FP.dadd FP.dconst1 s9)))) := dB.mul b_45 b_45 (by omega) (by omega) (by omega)
    refine lv_dmul hx hb dX0_residue_47 (b_46.ok (by omega)) ?_
    have b_47 : dB (1150 + 2 * i9 + 2) (FP.dadd (rsd B K s9 i9) (FP.dmul (FP.dsub (K i9) (FP.dmul (B i9) (FP.dadd FP.dconst1 s9))) (FP.dsub (K i9) (FP.dmul (B i9) (FP.dadd FP.dconst1 s9))))) := dB.add (rsd_dB hrd hs9 i9 (by omega)) b_46 (M := 1150 + 2 * i9) (by omega) (by omega) (by omega)
    refine lv_dadd hx hb dX0_residue_48 (b_47.ok (by omega)) ?_
    refine lv_dstore_n (lv' := [(3, .double (FP.dadd (rsd B K s9 i9) (FP.dmul (FP.dsub (K i9) (FP.dmul (B i9) (FP.dadd FP.dconst1 s9))) (FP.dsub (K i9) (FP.dmul (B i9) (FP.dadd FP.dconst1 s9)))))), (6, .double (FP.dsub (K i9) (FP.dmul (B i9) (FP.dadd FP.dconst1 s9)))), (5, .int (nI i9)), (0, .ref k), (1, .double s9)]) hx hb dX0_residue_49 rfl hl (by decide) rfl (fun ls hl => ?_)
    refine lv_iinc (v := nI (i9 + 1)) (lv' := [(5, .int (nI (i9 + 1))), (3, .double (FP.dadd (rsd B K s9 i9) (FP.dmul (FP.dsub (K i9) (FP.dmul (B i9) (FP.dadd FP.dconst1 s9))) (FP.dsub (K i9) (FP.dmul (B i9) (FP.dadd FP.dconst1 s9)))))), (6, .double (FP.dsub (K i9) (FP.dmul (B i9) (FP.dadd FP.dconst1 s9)))), (0, .ref k), (1, .double s9)]) hx hb dX0_residue_50 hl (k := 2) rfl (show nI i9 + nI 1 = nI (i9 + 1) from nI_add _ _) (by decide) rfl (fun ls hl => ?_)
    refine lv_goto (tgt := 5) hx hb dX0_residue_53 (by decide) ?_
    exact ih (n9 - 1) (by omega) (i9 + 1) _ _ _ ⟨(by
        simp only [rsd]
        exact lv_sub hl [0, 1, 3, 4] rfl), hP, hS, (show (i9 + 1) + (n9 - 1) = n from by omega)⟩

set_option maxHeartbeats 4000000 in
set_option maxRecDepth 100000 in
theorem m_X0_fitsBetter (l : Launch) (dC : Nat → ClassId) (dI : Nat → Nat → Nat) (sz : Nat) (cD : ClassId) (k rw rd : Nat) (sp st : UInt64) (bf bg : Nat) (n : Nat) (B K : Nat → UInt64) (hs : dB 1038 sp) (hh : dB 1030 st) (hrd : readsOK B K n) : Met l yX0_fitsBetter wsX0_fitsBetter ({ frames := 3, cells := 0, slots := 0, locals := 69 } : Room) (va_Pc [.ref k] (PW (dC, dI) [(cD, .double)] [(k, .inr (0, [.ref rw, .ref rd, .double sp, .double st])), (rd, .inr (1, [.ref bf, .ref bg, .int (nI n)])), (bf, .inl (cD, 20, .inr (.inr (.inr (.inl B))))), (bg, .inl (cD, 20, .inr (.inr (.inr (.inl K)))))] sz)) (va_Qi (fun (r : Int32) (u : UInt64 × UInt64 × Bool) => r = (if u.2.2 = true then 1 else 0) ∧ u = rnd B K n sp st) (fun (u : UInt64 × UInt64 × Bool) => QW (dC, dI) [(k, .inr (0, [.ref rw, .ref rd, .double u.1, .double u.2.1])), (rd, .inr (1, [.ref bf, .ref bg, .int (nI n)])), (bf, .inl (cD, 20, .inr (.inr (.inr (.inl B))))), (bg, .inl (cD, 20, .inr (.inr (.inr (.inl K)))))] (va_A [(k, .inr (0, [.ref rw, .ref rd, .double sp, .double st])), (rd, .inr (1, [.ref bf, .ref bg, .int (nI n)])), (bf, .inl (cD, 20, .inr (.inr (.inr (.inl B))))), (bg, .inl (cD, 20, .inr (.inr (.inr (.inl K)))))] sz)) (va_A [(k, .inr (0, [.ref rw, .ref rd, .double sp, .double st])), (rd, .inr (1, [.ref bf, .ref bg, .int (nI n)])), (bf, .inl (cD, 20, .inr (.inr (.inr (.inl B))))), (bg, .inl (cD, 20, .inr (.inr (.inr (.inl K)))))] sz)) 0 0 (va_A [(k, .inr (0, [.ref rw, .ref rd, .double sp, .double st])), (rd, .inr (1, [.ref bf, .ref bg, .int (nI n)])), (bf, .inl (cD, 20, .inr (.inr (.inr (.inl B))))), (bg, .inl (cD, 20, .inr (.inr (.inr (.inl K)))))] sz) := by
  refine Met.ofW (cc := cX0_fitsBetter) (maxL := 7) (ret := (some .boolean)) (by decide) rfl ?_
  intro p e s m args below meth c s₁ BB hml hv
  obtain ⟨rfl, hsz, hP, hK, hD0, hN⟩ := hv
  have hx := BB.exec
  have hb := BB.bytes
  have hr := BB.returns
  have hts := atoms_spec (ws := wsX0_fitsBetter) BB.pre
  have hown : s.vm.findClass RX0 = some m.cls := findClass_of_methodNamed BB.named
  have hlocks := BB.notSynchronized
  subst hsz
  have hD := hD0.self (sz := s.heap.size)
  generalize hAe : va_A [(k, .inr (0, [.ref rw, .ref rd, .double sp, .double st])), (rd, .inr (1, [.ref bf, .ref bg, .int (nI n)])), (bf, .inl (cD, 20, .inr (.inr (.inr (.inl B))))), (bg, .inl (cD, 20, .inr (.inr (.inr (.inl K)))))] s.heap.size = A at hD ⊢
  have hA : ∀ q : Nat, s.heap.size ≤ q → A q := fun q h => by rw [← hAe]; exact Or.inr h
  have hS : va_S A s.heap s.heap [] := va_S.rf
  have hP : va_P (dC, dI) vwCl [(k, .inr (0, [.ref rw, .ref rd, .double sp, .double st])), (rd, .inr (1, [.ref bf, .ref bg, .int (nI n)])), (bf, .inl (cD, 20, .inr (.inr (.inr (.inl B))))), (bg, .inl (cD, 20, .inr (.inr (.inr (.inl K)))))] s.heap := hP
  have hl := lv_entry ([.ref k]) (n := 7) (Nat.le_of_ble_eq_true rfl)
  rw [lg_entry_eq]
  generalize (lg_sl ([.ref k]) ++ List.replicate (7 - (lg_sl ([.ref k])).length) Slot.unset).toArray = ls at hl ⊢
  have hl : lv_has ls 7 [(0, .ref k)] := hl
  have hn20 := hrd.1
  have d0 := dv_d0
  refine lv_aload_n hx hb dX0_fitsBetter_0 rfl (lv_at hl 0 rfl) ?_
  refine lv_aload_n hx hb dX0_fitsBetter_1 rfl (lv_at hl 0 rfl) ?_
  refine va_get (D := (dC, dI)) (ci := 0) (v := .double sp) (C := RX0) (T := TX0) (N := 4) hx hb hts (by decide +kernel) hown hK hP 0 rfl rfl 2 (by decide) (hts (.fieldLink RX0 25 "SteamBends$Kind" "spring" "D") (by decide +kernel)) (fun _ h9 => h9) rfl dX0_fitsBetter_2 ?_
  have hPc := hP.sub (ws' := [(k, .inr (0, [.ref rw, .ref rd, .double sp, .double st])), (rd, .inr (1, [.ref bf, .ref bg, .int (nI n)])), (bf, .inl (cD, 20, .inr (.inr (.inr (.inl B))))), (bg, .inl (cD, 20, .inr (.inr (.inr (.inl K)))))]) [0, 1, 2, 3] rfl
  have hKc := hK.sub (tys' := [(cD, .double)]) [0] rfl
  refine va_calld (va_runV (As := [.double sp]) (rest := []) ⟨hx, hb, hml, hown, hts⟩ (m_X0_residue l dC dI cD k rw rd sp st bf bg n B K sp (hs.mono (by omega) : dB 1040 _) hrd) (cwV 1 hts gX0_fitsBetter_X0_residue rfl rfl rfl (by decide +kernel) ⟨(Nat.le_of_ble_eq_true rfl), (Nat.le_of_ble_eq_true rfl)⟩) ⟨PK.blind, va_recv hKc hPc (ci := 0) (q0 := 0) rfl rfl, fun U9 hU9 hW9 => ⟨rfl, PK.at hPc hKc hN hU9 hW9⟩⟩ rfl rfl hl.1 rfl (lv_room (Nat.le_of_ble_eq_true rfl)) dX0_fitsBetter_5 ⟨(Nat.le_of_ble_eq_true rfl), (Nat.le_of_ble_eq_true rfl)⟩) hS (fun q _ h => h.elim) (fun q h => h.elim) (fun r_49 u9s t9s H1 locs hht hvm9 hw_5_k_48 hB hz1 hk1 hS => ?_)
  have hP := va_still hP hk1
  generalize H1 = H at hP hS ⊢
  subst hw_5_k_48
  refine lv_dstore_n (lv' := [(1, .double (rsd B K sp n)), (0, .ref k)]) hx hb dX0_fitsBetter_8 rfl hl (by decide) rfl (fun ls hl => ?_)
  refine lv_aload_n hx hb dX0_fitsBetter_9 rfl (lv_at hl 1 rfl) ?_
  refine va_get (D := (dC, dI)) (ci := 0) (v := .double sp) (C := RX0) (T := TX0) (N := 4) hx hb hts (by decide +kernel) hown hK hP 0 rfl rfl 2 (by decide) (hts (.fieldLink RX0 25 "SteamBends$Kind" "spring" "D") (by decide +kernel)) (fun _ h9 => h9) rfl dX0_fitsBetter_10 ?_
  refine lv_aload_n hx hb dX0_fitsBetter_13 rfl (lv_at hl 1 rfl) ?_
  refine va_get (D := (dC, dI)) (ci := 0) (v := .double st) (C := RX0) (T := TX0) (N := 4) hx hb hts (by decide +kernel) hown hK hP 0 rfl rfl 3 (by decide) (hts (.fieldLink RX0 29 "SteamBends$Kind" "step" "D") (by decide +kernel)) (fun _ h9 => h9) rfl dX0_fitsBetter_14 ?_
  have b_50 : dB (1040) (FP.dadd sp st) := dB.add hs hh (M := 1038) (by omega) (by omega) (by omega)
  refine lv_dadd hx hb dX0_fitsBetter_17 (b_50.ok (by omega)) ?_
  refine lv_dstore_n (lv' := [(3, .double (FP.dadd sp st)), (1, .double (rsd B K sp n)), (0, .ref k)]) hx hb dX0_fitsBetter_18 rfl hl (by decide) rfl (fun ls hl => ?_)
  refine lv_aload_n hx hb dX0_fitsBetter_19 rfl (lv_at hl 2 rfl) ?_
  refine lv_dload_n hx hb dX0_fitsBetter_20 rfl (lv_at hl 0 rfl) ?_
  have hPc := hP.sub (ws' := [(k, .inr (0, [.ref rw, .ref rd, .double sp, .double st])), (rd, .inr (1, [.ref bf, .ref bg, .int (nI n)])), (bf, .inl (cD, 20, .inr (.inr (.inr (.inl B))))), (bg, .inl (cD, 20, .inr (.inr (.inr (.inl K)))))]) [0, 1, 2, 3] rfl
  have hKc := hK.sub (tys' := [(cD, .double)]) [0] rfl
  refine va_calld (va_runV (As := [.double (FP.dadd sp st)]) (rest := []) ⟨hx, hb, hml, hown, hts⟩ (m_X0_residue l dC dI cD k rw rd sp st bf bg n B K (FP.dadd sp st) (b_50.mono (by omega) : dB 1040 _) hrd) (cwV 1 hts gX0_fitsBetter_X0_residue rfl rfl rfl (by decide +kernel) ⟨(Nat.le_of_ble_eq_true rfl), (Nat.le_of_ble_eq_true rfl)⟩) ⟨PK.blind, va_recv hKc hPc (ci := 0) (q0 := 0) rfl rfl, fun U9 hU9 hW9 => ⟨rfl, PK.at hPc hKc hN hU9 hW9⟩⟩ rfl rfl hl.1 rfl (lv_room (Nat.le_of_ble_eq_true rfl)) dX0_fitsBetter_21 ⟨(Nat.le_of_ble_eq_true rfl), (Nat.le_of_ble_eq_true rfl)⟩) hS (fun q _ h => h.elim) (fun q h => h.elim) (fun r_52 u9s t9s H1 locs hht hvm9 hw_21_k_51 hB hz1 hk1 hS => ?_)
  have hP := va_still hP hk1
  generalize H1 = H at hP hS ⊢
  subst hw_21_k_51
  refine lv_dload_n hx hb dX0_fitsBetter_24 rfl (lv_at hl 1 rfl) ?_
  refine lv_dcmp hx hb dX0_fitsBetter_25 ?_
  refine lv_if_ge (tgt := 36) hx hb dX0_fitsBetter_26 (by decide) (fun c_26 => ?_) (fun c_26 => ?_)
  · have c_26 := (cv_ge (((rsd_dB hrd (b_50.mono (by omega) : dB 1040 _) n (Nat.le_refl _)).mono (by have := hrd.1; omega) : dB 1190 _).nn (by omega)) (((rsd_dB hrd (hs.mono (by omega) : dB 1040 _) n (Nat.le_refl _)).mono (by have := hrd.1; omega) : dB 1190 _).nn (by omega))).mp c_26
    refine lv_aload_n hx hb dX0_fitsBetter_36 rfl (lv_at hl 2 rfl) ?_
    refine va_get (D := (dC, dI)) (ci := 0) (v := .double sp) (C := RX0) (T := TX0) (N := 4) hx hb hts (by decide +kernel) hown hK hP 0 rfl rfl 2 (by decide) (hts (.fieldLink RX0 25 "SteamBends$Kind" "spring" "D") (by decide +kernel)) (fun _ h9 => h9) rfl dX0_fitsBetter_37 ?_
    refine lv_aload_n hx hb dX0_fitsBetter_40 rfl (lv_at hl 2 rfl) ?_
    refine va_get (D := (dC, dI)) (ci := 0) (v := .double st) (C := RX0) (T := TX0) (N := 4) hx hb hts (by decide +kernel) hown hK hP 0 rfl rfl 3 (by decide) (hts (.fieldLink RX0 29 "SteamBends$Kind" "step" "D") (by decide +kernel)) (fun _ h9 => h9) rfl dX0_fitsBetter_41 ?_
    have b_53 : dB (1040) (FP.dsub sp st) := dB.sub hs hh (M := 1038) (by omega) (by omega) (by omega)
    refine lv_dsub hx hb dX0_fitsBetter_44 (b_53.ok (by omega)) ?_
    refine lv_dstore (lv' := [(5, .double (FP.dsub sp st)), (3, .double (FP.dadd sp st)), (1, .double (rsd B K sp n)), (0, .ref k)]) hx hb dX0_fitsBetter_45 hl (by decide) rfl (fun ls hl => ?_)
    refine lv_dload hx hb dX0_fitsBetter_47 (lv_at hl 0 rfl) ?_
    refine lv_dconst0 hx hb dX0_fitsBetter_49 ?_
    refine lv_dcmp hx hb dX0_fitsBetter_50 ?_
    refine lv_if_lt (tgt := 73) hx hb dX0_fitsBetter_51 (by decide) (fun c_51 => ?_) (fun c_51 => ?_)
    · have c_51 := (cv_lt (b_53.nn (by omega)) (dB_d0.nn (by omega))).mp c_51
      refine lv_aload_n hx hb dX0_fitsBetter_73 rfl (lv_at hl 3 rfl) ?_
      refine lv_aload_n hx hb dX0_fitsBetter_74 rfl (lv_at hl 3 rfl) ?_
      refine va_get (D := (dC, dI)) (ci := 0) (v := .double st) (C := RX0) (T := TX0) (N := 4) hx hb hts (by decide +kernel) hown hK hP 0 rfl rfl 3 (by decide) (hts (.fieldLink RX0 29 "SteamBends$Kind" "step" "D") (by decide +kernel)) (fun _ h9 => h9) rfl dX0_fitsBetter_75 ?_
      refine lv_ldc2d (v := 4611686018427387904) hx hb hown (hts (.constantDouble RX0 60 (4611686018427387904)) (by decide +kernel)) dX0_fitsBetter_78 ?_
      have b_54 : dB (1030) (FP.ddiv st 4611686018427387904) := dB.div hh (by unfold dL; decide +kernel : dL 1024 4611686018427387904) (by unfold dB; decide +kernel : dB 1025 4611686018427387904) (by omega) (by omega) (by omega) (by omega)
      refine lv_ddiv hx hb dX0_fitsBetter_81 (b_54.ok (by omega)) ?_
      refine va_put (D := (dC, dI)) (ci := 0) (v := .double (FP.ddiv st 4611686018427387904)) (ty := .double) (C := RX0) (T := TX0) (N := 4) hx hb hts (by decide +kernel) tyX0 tyX0_ok nmX0 hown hK hP hD hS 0 rfl rfl 3 (by decide) (hts (.fieldLink RX0 29 "SteamBends$Kind" "step" "D") (by decide +kernel)) (fun _ h9 => h9) rfl (by decide +kernel) rfl rfl (Nat.le_of_ble_eq_true rfl) dX0_fitsBetter_82 (fun H locs hP hD hS => ?_)
      have hP : va_P (dC, dI) vwCl [(k, .inr (0, [.ref rw, .ref rd, .double sp, .double (FP.ddiv st 4611686018427387904)])), (rd, .inr (1, [.ref bf, .ref bg, .int (nI n)])), (bf, .inl (cD, 20, .inr (.inr (.inr (.inl B))))), (bg, .inl (cD, 20, .inr (.inr (.inr (.inl K)))))] H := hP
      have hD : va_D A [(k, .inr (0, [.ref rw, .ref rd, .double sp, .double (FP.ddiv st 4611686018427387904)])), (rd, .inr (1, [.ref bf, .ref bg, .int (nI n)])), (bf, .inl (cD, 20, .inr (.inr (.inr (.inl B))))), (bg, .inl (cD, 20, .inr (.inr (.inr (.inl K)))))] := hD
      refine lv_iconst (v := 0) hx hb dX0_fitsBetter_85 (by decide) ?_
      have hP9 := hP.sub (ws' := [(k, .inr (0, [.ref rw, .ref rd, .double sp, .double (FP.ddiv st 4611686018427387904)])), (rd, .inr (1, [.ref bf, .ref bg, .int (nI n)])), (bf, .inl (cD, 20, .inr (.inr (.inr (.inl B))))), (bg, .inl (cD, 20, .inr (.inr (.inr (.inl K)))))]) [0, 1, 2, 3] rfl
      have hD9 := hD.sub (ws' := [(k, .inr (0, [.ref rw, .ref rd, .double sp, .double (FP.ddiv st 4611686018427387904)])), (rd, .inr (1, [.ref bf, .ref bg, .int (nI n)])), (bf, .inl (cD, 20, .inr (.inr (.inr (.inl B))))), (bg, .inl (cD, 20, .inr (.inr (.inr (.inl K)))))]) [0, 1, 2, 3] (by decide) rfl
      exact W.zret hx hb hr (by decide) (fun t9s hht hW9 => ⟨⟨0, (sp, FP.ddiv st 4611686018427387904, false), rfl, ⟨rfl, by rw [rnd, if_neg (by omega), if_neg (by intro z; omega)]⟩, ⟨by rw [hht]; exact hP9, hD9⟩⟩, hS.F hht⟩) hS.2.2 dX0_fitsBetter_86
    · have c_51 := mt (cv_lt (b_53.nn (by omega)) (dB_d0.nn (by omega))).mpr c_51
      refine lv_aload_n hx hb dX0_fitsBetter_54 rfl (lv_at hl 3 rfl) ?_
      refine lv_dload hx hb dX0_fitsBetter_55 (lv_at hl 0 rfl) ?_
      have hPc := hP.sub (ws' := [(k, .inr (0, [.ref rw, .ref rd, .double sp, .double st])), (rd, .inr (1, [.ref bf, .ref bg, .int (nI n)])), (bf, .inl (cD, 20, .inr (.inr (.inr (.inl B))))), (bg, .inl (cD, 20, .inr (.inr (.inr (.inl K)))))]) [0, 1, 2, 3] rfl
      have hKc := hK.sub (tys' := [(cD, .double)]) [0] rfl
      refine va_calld (va_runV (As := [.double (FP.dsub sp st)]) (rest := []) ⟨hx, hb, hml, hown, hts⟩ (m_X0_residue l dC dI cD k rw rd sp st bf bg n B K (FP.dsub sp st) (b_53.mono (by omega) : dB 1040 _) hrd) (cwV 1 hts gX0_fitsBetter_X0_residue rfl rfl rfl (by decide +kernel) ⟨(Nat.le_of_ble_eq_true rfl), (Nat.le_of_ble_eq_true rfl)⟩) ⟨PK.blind, va_recv hKc hPc (ci := 0) (q0 := 0) rfl rfl, fun U9 hU9 hW9 => ⟨rfl, PK.at hPc hKc hN hU9 hW9⟩⟩ rfl rfl hl.1 rfl (lv_room (Nat.le_of_ble_eq_true rfl)) dX0_fitsBetter_57 ⟨(Nat.le_of_ble_eq_true rfl), (Nat.le_of_ble_eq_true rfl)⟩) hS (fun q _ h => h.elim) (fun q h => h.elim) (fun r_56 u9s t9s H1 locs hht hvm9 hw_57_k_55 hB hz1 hk1 hS => ?_)
      have hP := va_still hP hk1
      generalize H1 = H at hP hS ⊢
      subst hw_57_k_55
      refine lv_dload_n hx hb dX0_fitsBetter_60 rfl (lv_at hl 2 rfl) ?_
      refine lv_dcmp hx hb dX0_fitsBetter_61 ?_
      refine lv_if_ge (tgt := 73) hx hb dX0_fitsBetter_62 (by decide) (fun c_62 => ?_) (fun c_62 => ?_)
      · have c_62 := (cv_ge (((rsd_dB hrd (b_53.mono (by omega) : dB 1040 _) n (Nat.le_refl _)).mono (by have := hrd.1; omega) : dB 1190 _).nn (by omega)) (((rsd_dB hrd (hs.mono (by omega) : dB 1040 _) n (Nat.le_refl _)).mono (by have := hrd.1; omega) : dB 1190 _).nn (by omega))).mp c_62
        refine lv_aload_n hx hb dX0_fitsBetter_73 rfl (lv_at hl 3 rfl) ?_
        refine lv_aload_n hx hb dX0_fitsBetter_74 rfl (lv_at hl 3 rfl) ?_
        refine va_get (D := (dC, dI)) (ci := 0) (v := .double st) (C := RX0) (T := TX0) (N := 4) hx hb hts (by decide +kernel) hown hK hP 0 rfl rfl 3 (by decide) (hts (.fieldLink RX0 29 "SteamBends$Kind" "step" "D") (by decide +kernel)) (fun _ h9 => h9) rfl dX0_fitsBetter_75 ?_
        refine lv_ldc2d (v := 4611686018427387904) hx hb hown (hts (.constantDouble RX0 60 (4611686018427387904)) (by decide +kernel)) dX0_fitsBetter_78 ?_
        have b_57 : dB (1030) (FP.ddiv st 4611686018427387904) := dB.div hh (by unfold dL; decide +kernel : dL 1024 4611686018427387904) (by unfold dB; decide +kernel : dB 1025 4611686018427387904) (by omega) (by omega) (by omega) (by omega)
        refine lv_ddiv hx hb dX0_fitsBetter_81 (b_57.ok (by omega)) ?_
        refine va_put (D := (dC, dI)) (ci := 0) (v := .double (FP.ddiv st 4611686018427387904)) (ty := .double) (C := RX0) (T := TX0) (N := 4) hx hb hts (by decide +kernel) tyX0 tyX0_ok nmX0 hown hK hP hD hS 0 rfl rfl 3 (by decide) (hts (.fieldLink RX0 29 "SteamBends$Kind" "step" "D") (by decide +kernel)) (fun _ h9 => h9) rfl (by decide +kernel) rfl rfl (Nat.le_of_ble_eq_true rfl) dX0_fitsBetter_82 (fun H locs hP hD hS => ?_)
        have hP : va_P (dC, dI) vwCl [(k, .inr (0, [.ref rw, .ref rd, .double sp, .double (FP.ddiv st 4611686018427387904)])), (rd, .inr (1, [.ref bf, .ref bg, .int (nI n)])), (bf, .inl (cD, 20, .inr (.inr (.inr (.inl B))))), (bg, .inl (cD, 20, .inr (.inr (.inr (.inl K)))))] H := hP
        have hD : va_D A [(k, .inr (0, [.ref rw, .ref rd, .double sp, .double (FP.ddiv st 4611686018427387904)])), (rd, .inr (1, [.ref bf, .ref bg, .int (nI n)])), (bf, .inl (cD, 20, .inr (.inr (.inr (.inl B))))), (bg, .inl (cD, 20, .inr (.inr (.inr (.inl K)))))] := hD
        refine lv_iconst (v := 0) hx hb dX0_fitsBetter_85 (by decide) ?_
        have hP9 := hP.sub (ws' := [(k, .inr (0, [.ref rw, .ref rd, .double sp, .double (FP.ddiv st 4611686018427387904)])), (rd, .inr (1, [.ref bf, .ref bg, .int (nI n)])), (bf, .inl (cD, 20, .inr (.inr (.inr (.inl B))))), (bg, .inl (cD, 20, .inr (.inr (.inr (.inl K)))))]) [0, 1, 2, 3] rfl
        have hD9 := hD.sub (ws' := [(k, .inr (0, [.ref rw, .ref rd, .double sp, .double (FP.ddiv st 4611686018427387904)])), (rd, .inr (1, [.ref bf, .ref bg, .int (nI n)])), (bf, .inl (cD, 20, .inr (.inr (.inr (.inl B))))), (bg, .inl (cD, 20, .inr (.inr (.inr (.inl K)))))]) [0, 1, 2, 3] (by decide) rfl
        exact W.zret hx hb hr (by decide) (fun t9s hht hW9 => ⟨⟨0, (sp, FP.ddiv st 4611686018427387904, false), rfl, ⟨rfl, by rw [rnd, if_neg (by omega), if_neg (by intro z; omega)]⟩, ⟨by rw [hht]; exact hP9, hD9⟩⟩, hS.F hht⟩) hS.2.2 dX0_fitsBetter_86
      · have c_62 := mt (cv_ge (((rsd_dB hrd (b_53.mono (by omega) : dB 1040 _) n (Nat.le_refl _)).mono (by have := hrd.1; omega) : dB 1190 _).nn (by omega)) (((rsd_dB hrd (hs.mono (by omega) : dB 1040 _) n (Nat.le_refl _)).mono (by have := hrd.1; omega) : dB 1190 _).nn (by omega))).mpr c_62
        refine lv_aload_n hx hb dX0_fitsBetter_65 rfl (lv_at hl 3 rfl) ?_
        refine lv_dload hx hb dX0_fitsBetter_66 (lv_at hl 0 rfl) ?_
        refine va_put (D := (dC, dI)) (ci := 0) (v := .double (FP.dsub sp st)) (ty := .double) (C := RX0) (T := TX0) (N := 4) hx hb hts (by decide +kernel) tyX0 tyX0_ok nmX0 hown hK hP hD hS 0 rfl rfl 2 (by decide) (hts (.fieldLink RX0 25 "SteamBends$Kind" "spring" "D") (by decide +kernel)) (fun _ h9 => h9) rfl (by decide +kernel) rfl rfl (Nat.le_of_ble_eq_true rfl) dX0_fitsBetter_68 (fun H locs hP hD hS => ?_)
        have hP : va_P (dC, dI) vwCl [(k, .inr (0, [.ref rw, .ref rd, .double (FP.dsub sp st), .double st])), (rd, .inr (1, [.ref bf, .ref bg, .int (nI n)])), (bf, .inl (cD, 20, .inr (.inr (.inr (.inl B))))), (bg, .inl (cD, 20, .inr (.inr (.inr (.inl K)))))] H := hP
        have hD : va_D A [(k, .inr (0, [.ref rw, .ref rd, .double (FP.dsub sp st), .double st])), (rd, .inr (1, [.ref bf, .ref bg, .int (nI n)])), (bf, .inl (cD, 20, .inr (.inr (.inr (.inl B))))), (bg, .inl (cD, 20, .inr (.inr (.inr (.inl K)))))] := hD
        refine lv_iconst (v := 1) hx hb dX0_fitsBetter_71 (by decide) ?_
        have hP9 := hP.sub (ws' := [(k, .inr (0, [.ref rw, .ref rd, .double (FP.dsub sp st), .double st])), (rd, .inr (1, [.ref bf, .ref bg, .int (nI n)])), (bf, .inl (cD, 20, .inr (.inr (.inr (.inl B))))), (bg, .inl (cD, 20, .inr (.inr (.inr (.inl K)))))]) [0, 1, 2, 3] rfl
        have hD9 := hD.sub (ws' := [(k, .inr (0, [.ref rw, .ref rd, .double (FP.dsub sp st), .double st])), (rd, .inr (1, [.ref bf, .ref bg, .int (nI n)])), (bf, .inl (cD, 20, .inr (.inr (.inr (.inl B))))), (bg, .inl (cD, 20, .inr (.inr (.inr (.inl K)))))]) [0, 1, 2, 3] (by decide) rfl
        exact W.zret hx hb hr (by decide) (fun t9s hht hW9 => ⟨⟨1, (FP.dsub sp st, st, true), rfl, ⟨rfl, by rw [rnd, if_neg (by omega), if_pos ⟨by omega, by omega⟩]⟩, ⟨by rw [hht]; exact hP9, hD9⟩⟩, hS.F hht⟩) hS.2.2 dX0_fitsBetter_72
  · have c_26 := mt (cv_ge (((rsd_dB hrd (b_50.mono (by omega) : dB 1040 _) n (Nat.le_refl _)).mono (by have := hrd.1; omega) : dB 1190 _).nn (by omega)) (((rsd_dB hrd (hs.mono (by omega) : dB 1040 _) n (Nat.le_refl _)).mono (by have := hrd.1; omega) : dB 1190 _).nn (by omega))).mpr c_26
    refine lv_aload_n hx hb dX0_fitsBetter_29 rfl (lv_at hl 2 rfl) ?_
    refine lv_dload_n hx hb dX0_fitsBetter_30 rfl (lv_at hl 0 rfl) ?_
    refine va_put (D := (dC, dI)) (ci := 0) (v := .double (FP.dadd sp st)) (ty := .double) (C := RX0) (T := TX0) (N := 4) hx hb hts (by decide +kernel) tyX0 tyX0_ok nmX0 hown hK hP hD hS 0 rfl rfl 2 (by decide) (hts (.fieldLink RX0 25 "SteamBends$Kind" "spring" "D") (by decide +kernel)) (fun _ h9 => h9) rfl (by decide +kernel) rfl rfl (Nat.le_of_ble_eq_true rfl) dX0_fitsBetter_31 (fun H locs hP hD hS => ?_)
    have hP : va_P (dC, dI) vwCl [(k, .inr (0, [.ref rw, .ref rd, .double (FP.dadd sp st), .double st])), (rd, .inr (1, [.ref bf, .ref bg, .int (nI n)])), (bf, .inl (cD, 20, .inr (.inr (.inr (.inl B))))), (bg, .inl (cD, 20, .inr (.inr (.inr (.inl K)))))] H := hP
    have hD : va_D A [(k, .inr (0, [.ref rw, .ref rd, .double (FP.dadd sp st), .double st])), (rd, .inr (1, [.ref bf, .ref bg, .int (nI n)])), (bf, .inl (cD, 20, .inr (.inr (.inr (.inl B))))), (bg, .inl (cD, 20, .inr (.inr (.inr (.inl K)))))] := hD
    refine lv_iconst (v := 1) hx hb dX0_fitsBetter_34 (by decide) ?_
    have hP9 := hP.sub (ws' := [(k, .inr (0, [.ref rw, .ref rd, .double (FP.dadd sp st), .double st])), (rd, .inr (1, [.ref bf, .ref bg, .int (nI n)])), (bf, .inl (cD, 20, .inr (.inr (.inr (.inl B))))), (bg, .inl (cD, 20, .inr (.inr (.inr (.inl K)))))]) [0, 1, 2, 3] rfl
    have hD9 := hD.sub (ws' := [(k, .inr (0, [.ref rw, .ref rd, .double (FP.dadd sp st), .double st])), (rd, .inr (1, [.ref bf, .ref bg, .int (nI n)])), (bf, .inl (cD, 20, .inr (.inr (.inr (.inl B))))), (bg, .inl (cD, 20, .inr (.inr (.inr (.inl K)))))]) [0, 1, 2, 3] (by decide) rfl
    exact W.zret hx hb hr (by decide) (fun t9s hht hW9 => ⟨⟨1, (FP.dadd sp st, st, true), rfl, ⟨rfl, by rw [rnd, if_pos (by omega)]⟩, ⟨by rw [hht]; exact hP9, hD9⟩⟩, hS.F hht⟩) hS.2.2 dX0_fitsBetter_35

set_option maxHeartbeats 4000000 in
set_option maxRecDepth 100000 in
theorem m_X0_formFor (l : Launch) (dC : Nat → ClassId) (dI : Nat → Nat → Nat) (cD : ClassId) (k rw rd : Nat) (sp st : UInt64) (hs : dB 1038 sp) (w : UInt64) (hw : dB 1060 w) : Met l yX0_formFor wsX0_formFor ({ frames := 0, cells := 0, slots := 0, locals := 0 } : Room) (va_Pc [.ref k, .double w] (PK (dC, dI) [(cD, .double)] [(k, .inr (0, [.ref rw, .ref rd, .double sp, .double st]))])) (va_Qd (fun (r : UInt64) (_ : Unit) => r = (frm sp w 40).2) (fun _ _ => True) (fun _ => False)) 0 0 (fun _ => False) := by
  refine Met.ofW (cc := cX0_formFor) (maxL := 10) (ret := (some .double)) (by decide) rfl ?_
  intro p e s m args below meth c s₁ BB hml hv
  obtain ⟨rfl, hP, hK, hN⟩ := hv
  have hx := BB.exec
  have hb := BB.bytes
  have hr := BB.returns
  have hts := atoms_spec (ws := wsX0_formFor) BB.pre
  have hown : s.vm.findClass RX0 = some m.cls := findClass_of_methodNamed BB.named
  have hlocks := BB.notSynchronized
  have hS : va_S (fun _ => False) s.heap s.heap [] := va_S.rf
  have hP : va_P (dC, dI) vwCl [(k, .inr (0, [.ref rw, .ref rd, .double sp, .double st]))] s.heap := hP
  have hl := lv_entry ([.ref k, .double w]) (n := 10) (Nat.le_of_ble_eq_true rfl)
  rw [lg_entry_eq]
  generalize (lg_sl ([.ref k, .double w]) ++ List.replicate (10 - (lg_sl ([.ref k, .double w])).length) Slot.unset).toArray = ls at hl ⊢
  have hl : lv_has ls 10 [(0, .ref k), (1, .double w)] := hl
  refine lv_dconst0 hx hb dX0_formFor_0 ?_
  refine lv_dstore_n (lv' := [(3, .double FP.dconst0), (0, .ref k), (1, .double w)]) hx hb dX0_formFor_1 rfl hl (by decide) rfl (fun ls hl => ?_)
  refine lv_dload_n hx hb dX0_formFor_2 rfl (lv_at hl 2 rfl) ?_
  refine lv_dstore (lv' := [(5, .double w), (3, .double FP.dconst0), (0, .ref k), (1, .double w)]) hx hb dX0_formFor_3 hl (by decide) rfl (fun ls hl => ?_)
  refine lv_iconst (v := 0) hx hb dX0_formFor_5 (by decide) ?_
  refine lv_istore (lv' := [(7, .int 0), (5, .double w), (3, .double FP.dconst0), (0, .ref k), (1, .double w)]) hx hb dX0_formFor_6 hl (by decide) rfl (fun ls hl => ?_)
  refine w_loop (σ := Nat) (fun n9 x9 H locs ls => lv_has ls 10 [(7, .int (nI x9)), (5, .double ((frm sp w x9).2)), (3, .double ((frm sp w x9).1)), (0, .ref k), (1, .double w)] ∧ va_P (dC, dI) vwCl [(k, .inr (0, [.ref rw, .ref rd, .double sp, .double st]))] H ∧ va_S (fun _ => False) s.heap H locs ∧ x9 + n9 = 40) (n0 := 40) (x0 := 0) ⟨lv_sub hl [0, 1, 2, 3, 4] rfl, hP, hS, (show 0 + 40 = 40 from by omega)⟩ ?_
  rintro n9 i9 H locs ls ⟨hl, hP, hS, hi⟩ ih
  have hl : lv_has ls 10 [(7, .int (nI i9)), (5, .double ((frm sp w i9).2)), (3, .double ((frm sp w i9).1)), (0, .ref k), (1, .double w)] := hl
  have hP : va_P (dC, dI) vwCl [(k, .inr (0, [.ref rw, .ref rd, .double sp, .double st]))] H := hP
  have hi : i9 + n9 = 40 := hi
  refine lv_iload hx hb dX0_formFor_8 (lv_at hl 0 rfl) ?_
  refine lv_bipush (v := 40) hx hb dX0_formFor_10 (by decide) ?_
  refine lv_icmp_ge (tgt := 55) hx hb dX0_formFor_12 (by decide) (fun c_12 => ?_) (fun c_12 => ?_)
  · have c_12 := (nI_leI (a := 40) (b := i9) (by omega) (by omega)).mp c_12
    refine lv_dload hx hb dX0_formFor_55 (lv_at hl 1 rfl) ?_
    exact W.dret hx hb hr (fun t9s hht hW9 => ⟨⟨(frm sp w i9).2, (), rfl, (by rw [show i9 = 40 by omega]), trivial⟩, hS.F hht⟩) hS.2.2 dX0_formFor_57
  · have c_12 := mt (nI_leI (a := 40) (b := i9) (by omega) (by omega)).mpr c_12
    refine lv_dload_n hx hb dX0_formFor_15 rfl (lv_at hl 2 rfl) ?_
    refine lv_dload hx hb dX0_formFor_16 (lv_at hl 1 rfl) ?_
    have b_58 : dB (1060 + 2 * i9 + 2) (FP.dadd ((frm sp w i9).1) ((frm sp w i9).2)) := dB.add ((frm_dB (s := sp) hw i9 (by omega)).1) ((frm_dB (s := sp) hw i9 (by omega)).2) (M := 1060 + 2 * i9) (by omega) (by omega) (by omega)
    refine lv_dadd hx hb dX0_formFor_18 (b_58.ok (by omega)) ?_
    refine lv_ldc2d (v := 4611686018427387904) hx hb hown (hts (.constantDouble RX0 60 (4611686018427387904)) (by decide +kernel)) dX0_formFor_19 ?_
    have b_59 : dB (1060 + 2 * i9 + 2 + 0) (FP.ddiv (FP.dadd ((frm sp w i9).1) ((frm sp w i9).2)) 4611686018427387904) := dB.div b_58 (by unfold dL; decide +kernel : dL 1024 4611686018427387904) (by unfold dB; decide +kernel : dB 1025 4611686018427387904) (by omega) (by omega) (by omega) (by omega)
    refine lv_ddiv hx hb dX0_formFor_22 (b_59.ok (by omega)) ?_
    refine lv_dstore (lv' := [(8, .double (FP.ddiv (FP.dadd ((frm sp w i9).1) ((frm sp w i9).2)) 4611686018427387904)), (7, .int (nI i9)), (5, .double ((frm sp w i9).2)), (3, .double ((frm sp w i9).1)), (0, .ref k), (1, .double w)]) hx hb dX0_formFor_23 hl (by decide) rfl (fun ls hl => ?_)
    refine lv_dload hx hb dX0_formFor_25 (lv_at hl 0 rfl) ?_
    refine lv_dconst1 hx hb dX0_formFor_27 ?_
    refine lv_aload_n hx hb dX0_formFor_28 rfl (lv_at hl 4 rfl) ?_
    refine va_get (D := (dC, dI)) (ci := 0) (v := .double sp) (C := RX0) (T := TX0) (N := 4) hx hb hts (by decide +kernel) hown hK hP 0 rfl rfl 2 (by decide) (hts (.fieldLink RX0 25 "SteamBends$Kind" "spring" "D") (by decide +kernel)) (fun _ h9 => h9) rfl dX0_formFor_29 ?_
    have b_60 : dB (1040) (FP.dadd FP.dconst1 sp) := dB.add dB_d1 hs (M := 1038) (by omega) (by omega) (by omega)
    refine lv_dadd hx hb dX0_formFor_32 (b_60.ok (by omega)) ?_
    have b_61 : dB (1060 + 2 * i9 + 2 + 0 + 18) (FP.dmul (FP.ddiv (FP.dadd ((frm sp w i9).1) ((frm sp w i9).2)) 4611686018427387904) (FP.dadd FP.dconst1 sp)) := dB.mul b_59 b_60 (by omega) (by omega) (by omega)
    refine lv_dmul hx hb dX0_formFor_33 (b_61.ok (by omega)) ?_
    refine lv_dload_n hx hb dX0_formFor_34 rfl (lv_at hl 5 rfl) ?_
    refine lv_dcmp hx hb dX0_formFor_35 ?_
    refine lv_if_ge (tgt := 45) hx hb dX0_formFor_36 (by decide) (fun c_36 => ?_) (fun c_36 => ?_)
    · have c_36 := (cv_ge (b_61.nn (by omega)) (hw.nn (by omega))).mp c_36
      refine lv_dload hx hb dX0_formFor_45 (lv_at hl 0 rfl) ?_
      refine lv_dstore (lv' := [(5, .double (FP.ddiv (FP.dadd ((frm sp w i9).1) ((frm sp w i9).2)) 4611686018427387904)), (8, .double (FP.ddiv (FP.dadd ((frm sp w i9).1) ((frm sp w i9).2)) 4611686018427387904)), (7, .int (nI i9)), (3, .double ((frm sp w i9).1)), (0, .ref k), (1, .double w)]) hx hb dX0_formFor_47 hl (by decide) rfl (fun ls hl => ?_)
      refine lv_iinc (v := nI (i9 + 1)) (lv' := [(7, .int (nI (i9 + 1))), (5, .double (FP.ddiv (FP.dadd ((frm sp w i9).1) ((frm sp w i9).2)) 4611686018427387904)), (8, .double (FP.ddiv (FP.dadd ((frm sp w i9).1) ((frm sp w i9).2)) 4611686018427387904)), (3, .double ((frm sp w i9).1)), (0, .ref k), (1, .double w)]) hx hb dX0_formFor_49 hl (k := 2) rfl (show nI i9 + nI 1 = nI (i9 + 1) from nI_add _ _) (by decide) rfl (fun ls hl => ?_)
      refine lv_goto (tgt := 8) hx hb dX0_formFor_52 (by decide) ?_
      exact ih (n9 - 1) (by omega) (i9 + 1) _ _ _ ⟨(by
          simp only [frm]
          rw [if_neg (show ¬ dv _ < dv _ by omega)]
          exact lv_sub hl [0, 1, 3, 4, 5] rfl), hP, hS, (show (i9 + 1) + (n9 - 1) = 40 from by omega)⟩
    · have c_36 := mt (cv_ge (b_61.nn (by omega)) (hw.nn (by omega))).mpr c_36
      refine lv_dload hx hb dX0_formFor_39 (lv_at hl 0 rfl) ?_
      refine lv_dstore_n (lv' := [(3, .double (FP.ddiv (FP.dadd ((frm sp w i9).1) ((frm sp w i9).2)) 4611686018427387904)), (8, .double (FP.ddiv (FP.dadd ((frm sp w i9).1) ((frm sp w i9).2)) 4611686018427387904)), (7, .int (nI i9)), (5, .double ((frm sp w i9).2)), (0, .ref k), (1, .double w)]) hx hb dX0_formFor_41 rfl hl (by decide) rfl (fun ls hl => ?_)
      refine lv_goto (tgt := 49) hx hb dX0_formFor_42 (by decide) ?_
      refine lv_iinc (v := nI (i9 + 1)) (lv' := [(7, .int (nI (i9 + 1))), (3, .double (FP.ddiv (FP.dadd ((frm sp w i9).1) ((frm sp w i9).2)) 4611686018427387904)), (8, .double (FP.ddiv (FP.dadd ((frm sp w i9).1) ((frm sp w i9).2)) 4611686018427387904)), (5, .double ((frm sp w i9).2)), (0, .ref k), (1, .double w)]) hx hb dX0_formFor_49 hl (k := 2) rfl (show nI i9 + nI 1 = nI (i9 + 1) from nI_add _ _) (by decide) rfl (fun ls hl => ?_)
      refine lv_goto (tgt := 8) hx hb dX0_formFor_52 (by decide) ?_
      exact ih (n9 - 1) (by omega) (i9 + 1) _ _ _ ⟨(by
          simp only [frm]
          rw [if_pos (show dv _ < dv _ by omega)]
          exact lv_sub hl [0, 3, 1, 4, 5] rfl), hP, hS, (show (i9 + 1) + (n9 - 1) = 40 from by omega)⟩

set_option maxHeartbeats 4000000 in
set_option maxRecDepth 100000 in
theorem m_X2_isBendable (l : Launch) (dC : Nat → ClassId) (dI : Nat → Nat → Nat) (cD : ClassId) (sh pc tf tg : Nat) (n : Nat) (L D : Nat → UInt64) (t : UInt64) (ht : dB 1060 t) (hpc : piecesOK L D n) : Met l yX2_isBendable wsX2_isBendable ({ frames := 2, cells := 0, slots := 0, locals := 42 } : Room) (va_Pc [.ref sh, .double t] (PK (dC, dI) [(cD, .double)] [(sh, .inr (2, [.ref pc])), (pc, .inr (1, [.ref tf, .ref tg, .int (nI n)])), (tf, .inl (cD, 12, .inr (.inr (.inr (.inl L))))), (tg, .inl (cD, 12, .inr (.inr (.inr (.inl D)))))])) (va_Qi (fun (r : Int32) (_ : Unit) => r = if bends D t n = true then 1 else 0) (fun _ _ => True) (fun _ => False)) 0 0 (fun _ => False) := by
  refine Met.ofW (cc := cX2_isBendable) (maxL := 6) (ret := (some .boolean)) (by decide) rfl ?_
  intro p e s m args below meth c s₁ BB hml hv
  obtain ⟨rfl, hP, hK, hN⟩ := hv
  have hx := BB.exec
  have hb := BB.bytes
  have hr := BB.returns
  have hts := atoms_spec (ws := wsX2_isBendable) BB.pre
  have hown : s.vm.findClass RX2 = some m.cls := findClass_of_methodNamed BB.named
  have hlocks := BB.notSynchronized
  have hS : va_S (fun _ => False) s.heap s.heap [] := va_S.rf
  have hP : va_P (dC, dI) vwCl [(sh, .inr (2, [.ref pc])), (pc, .inr (1, [.ref tf, .ref tg, .int (nI n)])), (tf, .inl (cD, 12, .inr (.inr (.inr (.inl L))))), (tg, .inl (cD, 12, .inr (.inr (.inr (.inl D)))))] s.heap := hP
  have hl := lv_entry ([.ref sh, .double t]) (n := 6) (Nat.le_of_ble_eq_true rfl)
  rw [lg_entry_eq]
  generalize (lg_sl ([.ref sh, .double t]) ++ List.replicate (6 - (lg_sl ([.ref sh, .double t])).length) Slot.unset).toArray = ls at hl ⊢
  have hl : lv_has ls 6 [(0, .ref sh), (1, .double t)] := hl
  have hn12 := hpc.1
  have d0 := dv_d0
  refine lv_iconst (v := 0) hx hb dX2_isBendable_0 (by decide) ?_
  refine lv_istore_n (lv' := [(3, .int 0), (0, .ref sh), (1, .double t)]) hx hb dX2_isBendable_1 rfl hl (by decide) rfl (fun ls hl => ?_)
  refine w_loop (σ := Nat) (fun n9 x9 H locs ls => lv_has ls 6 [(3, .int (nI x9)), (0, .ref sh), (1, .double t)] ∧ va_P (dC, dI) vwCl [(sh, .inr (2, [.ref pc])), (pc, .inr (1, [.ref tf, .ref tg, .int (nI n)])), (tf, .inl (cD, 12, .inr (.inr (.inr (.inl L))))), (tg, .inl (cD, 12, .inr (.inr (.inr (.inl D)))))] H ∧ va_S (fun _ => False) s.heap H locs ∧ x9 + n9 = n ∧ bends D t x9 = true) (n0 := n) (x0 := 0) ⟨lv_sub hl [0, 1, 2] rfl, hP, hS, (show 0 + n = n ∧ bends D t 0 = true from ⟨by omega, rfl⟩)⟩ ?_
  rintro n9 i9 H locs ls ⟨hl, hP, hS, hi⟩ ih
  have hl : lv_has ls 6 [(3, .int (nI i9)), (0, .ref sh), (1, .double t)] := hl
  have hP : va_P (dC, dI) vwCl [(sh, .inr (2, [.ref pc])), (pc, .inr (1, [.ref tf, .ref tg, .int (nI n)])), (tf, .inl (cD, 12, .inr (.inr (.inr (.inl L))))), (tg, .inl (cD, 12, .inr (.inr (.inr (.inl D)))))] H := hP
  have hi : i9 + n9 = n ∧ bends D t i9 = true := hi
  refine lv_iload_n hx hb dX2_isBendable_2 rfl (lv_at hl 0 rfl) ?_
  refine lv_aload_n hx hb dX2_isBendable_3 rfl (lv_at hl 1 rfl) ?_
  refine va_get (D := (dC, dI)) (ci := 2) (v := .ref pc) (C := RX2) (T := TX2) (N := 1) hx hb hts (by decide +kernel) hown hK hP 0 rfl rfl 0 (by decide) (hts (.fieldLink RX2 14 "SteamBends$Shape" "pieces" "LSteamBends$Pairs;") (by decide +kernel)) (fun _ h9 => h9) rfl dX2_isBendable_4 ?_
  refine va_getN (D := (dC, dI)) (ci := 1) (v := .int (nI n)) (C := RX1) (T := TX1) (N := 3) (host := "SteamBends") hx hb hts (by decide +kernel) hown hK hP 1 rfl rfl 2 (by decide) (va_Nw.use rfl (hN.f 6 rfl)) (fun _ h9 => h9) rfl dX2_isBendable_7 ?_
  refine lv_icmp_ge (tgt := 49) hx hb dX2_isBendable_10 (by decide) (fun c_10 => ?_) (fun c_10 => ?_)
  · have c_10 := (nI_leI (a := n) (b := i9) (by omega) (by omega)).mp c_10
    refine lv_iconst (v := 1) hx hb dX2_isBendable_49 (by decide) ?_
    exact W.zret hx hb hr (by decide) (fun t9s hht hW9 => ⟨⟨1, (), rfl, (by rw [if_pos (by rw [show n = i9 by omega]; exact hi.2)]), trivial⟩, hS.F hht⟩) hS.2.2 dX2_isBendable_50
  · have c_10 := mt (nI_leI (a := n) (b := i9) (by omega) (by omega)).mpr c_10
    refine lv_aload_n hx hb dX2_isBendable_13 rfl (lv_at hl 1 rfl) ?_
    refine va_get (D := (dC, dI)) (ci := 2) (v := .ref pc) (C := RX2) (T := TX2) (N := 1) hx hb hts (by decide +kernel) hown hK hP 0 rfl rfl 0 (by decide) (hts (.fieldLink RX2 14 "SteamBends$Shape" "pieces" "LSteamBends$Pairs;") (by decide +kernel)) (fun _ h9 => h9) rfl dX2_isBendable_14 ?_
    refine lv_iload_n hx hb dX2_isBendable_17 rfl (lv_at hl 0 rfl) ?_
    have hPc := hP.sub (ws' := [(pc, .inr (1, [.ref tf, .ref tg, .int (nI n)])), (tf, .inl (cD, 12, .inr (.inr (.inr (.inl L))))), (tg, .inl (cD, 12, .inr (.inr (.inr (.inl D)))))]) [1, 2, 3] rfl
    have hKc := hK.sub (tys' := [(cD, .double)]) [0] rfl
    refine va_calld (va_runV (As := [.int (nI i9)]) (rest := []) ⟨hx, hb, hml, hown, hts⟩ (m_X1_second l dC dI cD pc tf tg n 12 L D i9 (by omega) (by omega)) (cwV 1 hts gX2_isBendable_X1_second rfl rfl rfl (by decide +kernel) ⟨(Nat.le_of_ble_eq_true rfl), (Nat.le_of_ble_eq_true rfl)⟩) ⟨PK.blind, va_recv hKc hPc (ci := 1) (q0 := 0) rfl rfl, fun U9 hU9 hW9 => ⟨rfl, PK.at hPc hKc hN hU9 hW9⟩⟩ rfl rfl hl.1 rfl (lv_room (Nat.le_of_ble_eq_true rfl)) dX2_isBendable_18 ⟨(Nat.le_of_ble_eq_true rfl), (Nat.le_of_ble_eq_true rfl)⟩) hS (fun q _ h => h.elim) (fun q h => h.elim) (fun r_63 u9s t9s H1 locs hht hvm9 hw_18_k_62 hB hz1 hk1 hS => ?_)
    have hP := va_still hP hk1
    generalize H1 = H at hP hS ⊢
    subst hw_18_k_62
    refine lv_dstore (lv' := [(4, .double (D i9)), (3, .int (nI i9)), (0, .ref sh), (1, .double t)]) hx hb dX2_isBendable_21 hl (by decide) rfl (fun ls hl => ?_)
    refine lv_dload hx hb dX2_isBendable_23 (lv_at hl 0 rfl) ?_
    refine lv_dconst0 hx hb dX2_isBendable_25 ?_
    refine lv_dcmp hx hb dX2_isBendable_26 ?_
    refine lv_if_le (tgt := 43) hx hb dX2_isBendable_27 (by decide) (fun c_27 => ?_) (fun c_27 => ?_)
    · have c_27 := (cv_le (((hpc.2 (i9) (by omega)).2.1).nn (by omega)) (dB_d0.nn (by omega))).mp c_27
      refine lv_iinc (v := nI (i9 + 1)) (lv' := [(3, .int (nI (i9 + 1))), (4, .double (D i9)), (0, .ref sh), (1, .double t)]) hx hb dX2_isBendable_43 hl (k := 1) rfl (show nI i9 + nI 1 = nI (i9 + 1) from nI_add _ _) (by decide) rfl (fun ls hl => ?_)
      refine lv_goto (tgt := 2) hx hb dX2_isBendable_46 (by decide) ?_
      exact ih (n9 - 1) (by omega) (i9 + 1) _ _ _ ⟨lv_sub hl [0, 2, 3] rfl, hP, hS, (show (i9 + 1) + (n9 - 1) = n ∧ bends D t (i9 + 1) = true from ⟨by omega, bends_yes hi.2 (by omega)⟩)⟩
    · have c_27 := mt (cv_le (((hpc.2 (i9) (by omega)).2.1).nn (by omega)) (dB_d0.nn (by omega))).mpr c_27
      refine lv_dload_n hx hb dX2_isBendable_30 rfl (lv_at hl 3 rfl) ?_
      refine lv_ldc2d (v := 4611686018427387904) hx hb hown (hts (.constantDouble RX2 28 (4611686018427387904)) (by decide +kernel)) dX2_isBendable_31 ?_
      refine lv_dload hx hb dX2_isBendable_34 (lv_at hl 0 rfl) ?_
      have b_64 : dB (1063) (FP.dmul 4611686018427387904 (D i9)) := dB.mul (by unfold dB; decide +kernel : dB 1025 4611686018427387904) ((hpc.2 (i9) (by omega)).2.1) (by omega) (by omega) (by omega)
      refine lv_dmul hx hb dX2_isBendable_36 (b_64.ok (by omega)) ?_
      refine lv_dcmp hx hb dX2_isBendable_37 ?_
      refine lv_if_le (tgt := 43) hx hb dX2_isBendable_38 (by decide) (fun c_38 => ?_) (fun c_38 => ?_)
      · have c_38 := (cv_le (ht.nn (by omega)) (b_64.nn (by omega))).mp c_38
        refine lv_iinc (v := nI (i9 + 1)) (lv' := [(3, .int (nI (i9 + 1))), (4, .double (D i9)), (0, .ref sh), (1, .double t)]) hx hb dX2_isBendable_43 hl (k := 1) rfl (show nI i9 + nI 1 = nI (i9 + 1) from nI_add _ _) (by decide) rfl (fun ls hl => ?_)
        refine lv_goto (tgt := 2) hx hb dX2_isBendable_46 (by decide) ?_
        exact ih (n9 - 1) (by omega) (i9 + 1) _ _ _ ⟨lv_sub hl [0, 2, 3] rfl, hP, hS, (show (i9 + 1) + (n9 - 1) = n ∧ bends D t (i9 + 1) = true from ⟨by omega, bends_yes hi.2 (by omega)⟩)⟩
      · have c_38 := mt (cv_le (ht.nn (by omega)) (b_64.nn (by omega))).mpr c_38
        refine lv_iconst (v := 0) hx hb dX2_isBendable_41 (by decide) ?_
        exact W.zret hx hb hr (by decide) (fun t9s hht hW9 => ⟨⟨0, (), rfl, (by rw [if_neg (by rw [bends_no (i := i9) (by omega) (by omega) n (by omega)]; decide)]), trivial⟩, hS.F hht⟩) hS.2.2 dX2_isBendable_42

set_option maxHeartbeats 4000000 in
set_option maxRecDepth 100000 in
theorem m_X2_lengthOf (l : Launch) (dC : Nat → ClassId) (dI : Nat → Nat → Nat) (cD : ClassId) (sh pc tf tg : Nat) (n : Nat) (L D : Nat → UInt64) (i : Nat) (o : Int32) (t : UInt64) (hi9 : i < n) (ht : dB 1060 t) (hpc : piecesOK L D n) : Met l yX2_lengthOf wsX2_lengthOf ({ frames := 2, cells := 0, slots := 0, locals := 42 } : Room) (va_Pc [.ref sh, .int (nI i), .int o, .double t] (PK (dC, dI) [(cD, .double)] [(sh, .inr (2, [.ref pc])), (pc, .inr (1, [.ref tf, .ref tg, .int (nI n)])), (tf, .inl (cD, 12, .inr (.inr (.inr (.inl L))))), (tg, .inl (cD, 12, .inr (.inr (.inr (.inl D)))))])) (va_Qd (fun (r : UInt64) (_ : Unit) => r = lenOf (L i) (D i) o t) (fun _ _ => True) (fun _ => False)) 0 0 (fun _ => False) := by
  refine Met.ofW (cc := cX2_lengthOf) (maxL := 11) (ret := (some .double)) (by decide) rfl ?_
  intro p e s m args below meth c s₁ BB hml hv
  obtain ⟨rfl, hP, hK, hN⟩ := hv
  have hx := BB.exec
  have hb := BB.bytes
  have hr := BB.returns
  have hts := atoms_spec (ws := wsX2_lengthOf) BB.pre
  have hown : s.vm.findClass RX2 = some m.cls := findClass_of_methodNamed BB.named
  have hlocks := BB.notSynchronized
  have hS : va_S (fun _ => False) s.heap s.heap [] := va_S.rf
  have hP : va_P (dC, dI) vwCl [(sh, .inr (2, [.ref pc])), (pc, .inr (1, [.ref tf, .ref tg, .int (nI n)])), (tf, .inl (cD, 12, .inr (.inr (.inr (.inl L))))), (tg, .inl (cD, 12, .inr (.inr (.inr (.inl D)))))] s.heap := hP
  have hl := lv_entry ([.ref sh, .int (nI i), .int o, .double t]) (n := 11) (Nat.le_of_ble_eq_true rfl)
  rw [lg_entry_eq]
  generalize (lg_sl ([.ref sh, .int (nI i), .int o, .double t]) ++ List.replicate (11 - (lg_sl ([.ref sh, .int (nI i), .int o, .double t])).length) Slot.unset).toArray = ls at hl ⊢
  have hl : lv_has ls 11 [(0, .ref sh), (1, .int (nI i)), (2, .int o), (3, .double t)] := hl
  have hn12 := hpc.1
  have d0 := dv_d0
  refine lv_aload_n hx hb dX2_lengthOf_0 rfl (lv_at hl 0 rfl) ?_
  refine va_get (D := (dC, dI)) (ci := 2) (v := .ref pc) (C := RX2) (T := TX2) (N := 1) hx hb hts (by decide +kernel) hown hK hP 0 rfl rfl 0 (by decide) (hts (.fieldLink RX2 14 "SteamBends$Shape" "pieces" "LSteamBends$Pairs;") (by decide +kernel)) (fun _ h9 => h9) rfl dX2_lengthOf_1 ?_
  refine lv_iload_n hx hb dX2_lengthOf_4 rfl (lv_at hl 1 rfl) ?_
  have hPc := hP.sub (ws' := [(pc, .inr (1, [.ref tf, .ref tg, .int (nI n)])), (tf, .inl (cD, 12, .inr (.inr (.inr (.inl L))))), (tg, .inl (cD, 12, .inr (.inr (.inr (.inl D)))))]) [1, 2, 3] rfl
  have hKc := hK.sub (tys' := [(cD, .double)]) [0] rfl
  refine va_calld (va_runV (As := [.int (nI i)]) (rest := []) ⟨hx, hb, hml, hown, hts⟩ (m_X1_first l dC dI cD pc tf tg n 12 L D i (by omega) (by omega)) (cwV 1 hts gX2_lengthOf_X1_first rfl rfl rfl (by decide +kernel) ⟨(Nat.le_of_ble_eq_true rfl), (Nat.le_of_ble_eq_true rfl)⟩) ⟨PK.blind, va_recv hKc hPc (ci := 1) (q0 := 0) rfl rfl, fun U9 hU9 hW9 => ⟨rfl, PK.at hPc hKc hN hU9 hW9⟩⟩ rfl rfl hl.1 rfl (lv_room (Nat.le_of_ble_eq_true rfl)) dX2_lengthOf_5 ⟨(Nat.le_of_ble_eq_true rfl), (Nat.le_of_ble_eq_true rfl)⟩) hS (fun q _ h => h.elim) (fun q h => h.elim) (fun r_66 u9s t9s H1 locs hht hvm9 hw_5_k_65 hB hz1 hk1 hS => ?_)
  have hP := va_still hP hk1
  generalize H1 = H at hP hS ⊢
  subst hw_5_k_65
  refine lv_dstore (lv' := [(5, .double (L i)), (0, .ref sh), (1, .int (nI i)), (2, .int o), (3, .double t)]) hx hb dX2_lengthOf_8 hl (by decide) rfl (fun ls hl => ?_)
  refine lv_aload_n hx hb dX2_lengthOf_10 rfl (lv_at hl 1 rfl) ?_
  refine va_get (D := (dC, dI)) (ci := 2) (v := .ref pc) (C := RX2) (T := TX2) (N := 1) hx hb hts (by decide +kernel) hown hK hP 0 rfl rfl 0 (by decide) (hts (.fieldLink RX2 14 "SteamBends$Shape" "pieces" "LSteamBends$Pairs;") (by decide +kernel)) (fun _ h9 => h9) rfl dX2_lengthOf_11 ?_
  refine lv_iload_n hx hb dX2_lengthOf_14 rfl (lv_at hl 2 rfl) ?_
  have hPc := hP.sub (ws' := [(pc, .inr (1, [.ref tf, .ref tg, .int (nI n)])), (tf, .inl (cD, 12, .inr (.inr (.inr (.inl L))))), (tg, .inl (cD, 12, .inr (.inr (.inr (.inl D)))))]) [1, 2, 3] rfl
  have hKc := hK.sub (tys' := [(cD, .double)]) [0] rfl
  refine va_calld (va_runV (As := [.int (nI i)]) (rest := []) ⟨hx, hb, hml, hown, hts⟩ (m_X1_second l dC dI cD pc tf tg n 12 L D i (by omega) (by omega)) (cwV 1 hts gX2_lengthOf_X1_second rfl rfl rfl (by decide +kernel) ⟨(Nat.le_of_ble_eq_true rfl), (Nat.le_of_ble_eq_true rfl)⟩) ⟨PK.blind, va_recv hKc hPc (ci := 1) (q0 := 0) rfl rfl, fun U9 hU9 hW9 => ⟨rfl, PK.at hPc hKc hN hU9 hW9⟩⟩ rfl rfl hl.1 rfl (lv_room (Nat.le_of_ble_eq_true rfl)) dX2_lengthOf_15 ⟨(Nat.le_of_ble_eq_true rfl), (Nat.le_of_ble_eq_true rfl)⟩) hS (fun q _ h => h.elim) (fun q h => h.elim) (fun r_68 u9s t9s H1 locs hht hvm9 hw_15_k_67 hB hz1 hk1 hS => ?_)
  have hP := va_still hP hk1
  generalize H1 = H at hP hS ⊢
  subst hw_15_k_67
  refine lv_dstore (lv' := [(7, .double (D i)), (5, .double (L i)), (0, .ref sh), (1, .int (nI i)), (2, .int o), (3, .double t)]) hx hb dX2_lengthOf_18 hl (by decide) rfl (fun ls hl => ?_)
  refine lv_dload hx hb dX2_lengthOf_20 (lv_at hl 0 rfl) ?_
  refine lv_dconst0 hx hb dX2_lengthOf_22 ?_
  refine lv_dcmp hx hb dX2_lengthOf_23 ?_
  refine lv_if_gt (tgt := 30) hx hb dX2_lengthOf_24 (by decide) (fun c_24 => ?_) (fun c_24 => ?_)
  · have c_24 := (cv_gt (((hpc.2 (i) (by omega)).2.1).nn (by omega)) (dB_d0.nn (by omega))).mp c_24
    refine lv_iload_n hx hb dX2_lengthOf_30 rfl (lv_at hl 4 rfl) ?_
    refine lv_if_eq (tgt := 45) hx hb dX2_lengthOf_31 (by decide) (fun c_31 => ?_) (fun c_31 => ?_)
    · refine lv_dload hx hb dX2_lengthOf_45 (lv_at hl 0 rfl) ?_
      refine lv_dload_n hx hb dX2_lengthOf_47 rfl (lv_at hl 5 rfl) ?_
      refine lv_ldc2d (v := 4611686018427387904) hx hb hown (hts (.constantDouble RX2 28 (4611686018427387904)) (by decide +kernel)) dX2_lengthOf_48 ?_
      have b_69 : dB (1060) (FP.ddiv t 4611686018427387904) := dB.div ht (by unfold dL; decide +kernel : dL 1024 4611686018427387904) (by unfold dB; decide +kernel : dB 1025 4611686018427387904) (by omega) (by omega) (by omega) (by omega)
      refine lv_ddiv hx hb dX2_lengthOf_51 (b_69.ok (by omega)) ?_
      have b_70 : dB (1062) (FP.dsub (D i) (FP.ddiv t 4611686018427387904)) := dB.sub ((hpc.2 (i) (by omega)).2.1) b_69 (M := 1060) (by omega) (by omega) (by omega)
      refine lv_dsub hx hb dX2_lengthOf_52 (b_70.ok (by omega)) ?_
      refine lv_dstore (lv' := [(9, .double (FP.dsub (D i) (FP.ddiv t 4611686018427387904))), (7, .double (D i)), (5, .double (L i)), (0, .ref sh), (1, .int (nI i)), (2, .int o), (3, .double t)]) hx hb dX2_lengthOf_53 hl (by decide) rfl (fun ls hl => ?_)
      refine lv_dload hx hb dX2_lengthOf_55 (lv_at hl 2 rfl) ?_
      refine lv_dload hx hb dX2_lengthOf_57 (lv_at hl 0 rfl) ?_
      have b_71 : dB (1100) (FP.dmul (L i) (FP.dsub (D i) (FP.ddiv t 4611686018427387904))) := dB.mul ((hpc.2 (i) (by omega)).1) b_70 (by omega) (by omega) (by omega)
      refine lv_dmul hx hb dX2_lengthOf_59 (b_71.ok (by omega)) ?_
      refine lv_dload hx hb dX2_lengthOf_60 (lv_at hl 1 rfl) ?_
      have b_72 : dB (1101) (FP.ddiv (FP.dmul (L i) (FP.dsub (D i) (FP.ddiv t 4611686018427387904))) (D i)) := dB.div b_71 (hpc.dL (i := i) (by omega) (by omega)) ((hpc.2 (i) (by omega)).2.1) (by omega) (by omega) (by omega) (by omega)
      refine lv_ddiv hx hb dX2_lengthOf_62 (b_72.ok (by omega)) ?_
      exact W.dret hx hb hr (fun t9s hht hW9 => ⟨⟨FP.ddiv (FP.dmul (L i) (FP.dsub (D i) (FP.ddiv t 4611686018427387904))) (D i), (), rfl, (by rw [lenOf, if_pos (by omega), if_pos c_31]), trivial⟩, hS.F hht⟩) hS.2.2 dX2_lengthOf_63
    · refine lv_dload hx hb dX2_lengthOf_34 (lv_at hl 0 rfl) ?_
      refine lv_dload_n hx hb dX2_lengthOf_36 rfl (lv_at hl 5 rfl) ?_
      refine lv_ldc2d (v := 4611686018427387904) hx hb hown (hts (.constantDouble RX2 28 (4611686018427387904)) (by decide +kernel)) dX2_lengthOf_37 ?_
      have b_73 : dB (1060) (FP.ddiv t 4611686018427387904) := dB.div ht (by unfold dL; decide +kernel : dL 1024 4611686018427387904) (by unfold dB; decide +kernel : dB 1025 4611686018427387904) (by omega) (by omega) (by omega) (by omega)
      refine lv_ddiv hx hb dX2_lengthOf_40 (b_73.ok (by omega)) ?_
      have b_74 : dB (1062) (FP.dadd (D i) (FP.ddiv t 4611686018427387904)) := dB.add ((hpc.2 (i) (by omega)).2.1) b_73 (M := 1060) (by omega) (by omega) (by omega)
      refine lv_dadd hx hb dX2_lengthOf_41 (b_74.ok (by omega)) ?_
      refine lv_goto (tgt := 53) hx hb dX2_lengthOf_42 (by decide) ?_
      refine lv_dstore (lv' := [(9, .double (FP.dadd (D i) (FP.ddiv t 4611686018427387904))), (7, .double (D i)), (5, .double (L i)), (0, .ref sh), (1, .int (nI i)), (2, .int o), (3, .double t)]) hx hb dX2_lengthOf_53 hl (by decide) rfl (fun ls hl => ?_)
      refine lv_dload hx hb dX2_lengthOf_55 (lv_at hl 2 rfl) ?_
      refine lv_dload hx hb dX2_lengthOf_57 (lv_at hl 0 rfl) ?_
      have b_75 : dB (1100) (FP.dmul (L i) (FP.dadd (D i) (FP.ddiv t 4611686018427387904))) := dB.mul ((hpc.2 (i) (by omega)).1) b_74 (by omega) (by omega) (by omega)
      refine lv_dmul hx hb dX2_lengthOf_59 (b_75.ok (by omega)) ?_
      refine lv_dload hx hb dX2_lengthOf_60 (lv_at hl 1 rfl) ?_
      have b_76 : dB (1101) (FP.ddiv (FP.dmul (L i) (FP.dadd (D i) (FP.ddiv t 4611686018427387904))) (D i)) := dB.div b_75 (hpc.dL (i := i) (by omega) (by omega)) ((hpc.2 (i) (by omega)).2.1) (by omega) (by omega) (by omega) (by omega)
      refine lv_ddiv hx hb dX2_lengthOf_62 (b_76.ok (by omega)) ?_
      exact W.dret hx hb hr (fun t9s hht hW9 => ⟨⟨FP.ddiv (FP.dmul (L i) (FP.dadd (D i) (FP.ddiv t 4611686018427387904))) (D i), (), rfl, (by rw [lenOf, if_pos (by omega), if_neg c_31]), trivial⟩, hS.F hht⟩) hS.2.2 dX2_lengthOf_63
  · have c_24 := mt (cv_gt (((hpc.2 (i) (by omega)).2.1).nn (by omega)) (dB_d0.nn (by omega))).mpr c_24
    refine lv_dload hx hb dX2_lengthOf_27 (lv_at hl 1 rfl) ?_
    exact W.dret hx hb hr (fun t9s hht hW9 => ⟨⟨L i, (), rfl, (by rw [lenOf, if_neg (by omega)]), trivial⟩, hS.F hht⟩) hS.2.2 dX2_lengthOf_29

set_option maxHeartbeats 4000000 in
set_option maxRecDepth 100000 in
theorem m_X2_sumOfLengths (l : Launch) (dC : Nat → ClassId) (dI : Nat → Nat → Nat) (cD : ClassId) (sh pc tf tg : Nat) (n : Nat) (L D : Nat → UInt64) (o : Int32) (t : UInt64) (ht : dB 1060 t) (hpc : piecesOK L D n) : Met l yX2_sumOfLengths wsX2_sumOfLengths ({ frames := 3, cells := 0, slots := 0, locals := 72 } : Room) (va_Pc [.ref sh, .int o, .double t] (PK (dC, dI) [(cD, .double)] [(sh, .inr (2, [.ref pc])), (pc, .inr (1, [.ref tf, .ref tg, .int (nI n)])), (tf, .inl (cD, 12, .inr (.inr (.inr (.inl L))))), (tg, .inl (cD, 12, .inr (.inr (.inr (.inl D)))))])) (va_Qd (fun (r : UInt64) (_ : Unit) => r = sumL L D o t n) (fun _ _ => True) (fun _ => False)) 0 0 (fun _ => False) := by
  refine Met.ofW (cc := cX2_sumOfLengths) (maxL := 7) (ret := (some .double)) (by decide) rfl ?_
  intro p e s m args below meth c s₁ BB hml hv
  obtain ⟨rfl, hP, hK, hN⟩ := hv
  have hx := BB.exec
  have hb := BB.bytes
  have hr := BB.returns
  have hts := atoms_spec (ws := wsX2_sumOfLengths) BB.pre
  have hown : s.vm.findClass RX2 = some m.cls := findClass_of_methodNamed BB.named
  have hlocks := BB.notSynchronized
  have hS : va_S (fun _ => False) s.heap s.heap [] := va_S.rf
  have hP : va_P (dC, dI) vwCl [(sh, .inr (2, [.ref pc])), (pc, .inr (1, [.ref tf, .ref tg, .int (nI n)])), (tf, .inl (cD, 12, .inr (.inr (.inr (.inl L))))), (tg, .inl (cD, 12, .inr (.inr (.inr (.inl D)))))] s.heap := hP
  have hl := lv_entry ([.ref sh, .int o, .double t]) (n := 7) (Nat.le_of_ble_eq_true rfl)
  rw [lg_entry_eq]
  generalize (lg_sl ([.ref sh, .int o, .double t]) ++ List.replicate (7 - (lg_sl ([.ref sh, .int o, .double t])).length) Slot.unset).toArray = ls at hl ⊢
  have hl : lv_has ls 7 [(0, .ref sh), (1, .int o), (2, .double t)] := hl
  have hn12 := hpc.1
  have d0 := dv_d0
  refine lv_dconst0 hx hb dX2_sumOfLengths_0 ?_
  refine lv_dstore (lv' := [(4, .double FP.dconst0), (0, .ref sh), (1, .int o), (2, .double t)]) hx hb dX2_sumOfLengths_1 hl (by decide) rfl (fun ls hl => ?_)
  refine lv_iconst (v := 0) hx hb dX2_sumOfLengths_3 (by decide) ?_
  refine lv_istore (lv' := [(6, .int 0), (4, .double FP.dconst0), (0, .ref sh), (1, .int o), (2, .double t)]) hx hb dX2_sumOfLengths_4 hl (by decide) rfl (fun ls hl => ?_)
  refine w_loop (σ := Nat) (fun n9 x9 H locs ls => lv_has ls 7 [(6, .int (nI x9)), (4, .double (sumL L D o t x9)), (0, .ref sh), (1, .int o), (2, .double t)] ∧ va_P (dC, dI) vwCl [(sh, .inr (2, [.ref pc])), (pc, .inr (1, [.ref tf, .ref tg, .int (nI n)])), (tf, .inl (cD, 12, .inr (.inr (.inr (.inl L))))), (tg, .inl (cD, 12, .inr (.inr (.inr (.inl D)))))] H ∧ va_S (fun _ => False) s.heap H locs ∧ x9 + n9 = n) (n0 := n) (x0 := 0) ⟨lv_sub hl [0, 1, 2, 3, 4] rfl, hP, hS, (show 0 + n = n from by omega)⟩ ?_
  rintro n9 i9 H locs ls ⟨hl, hP, hS, hi⟩ ih
  have hl : lv_has ls 7 [(6, .int (nI i9)), (4, .double (sumL L D o t i9)), (0, .ref sh), (1, .int o), (2, .double t)] := hl
  have hP : va_P (dC, dI) vwCl [(sh, .inr (2, [.ref pc])), (pc, .inr (1, [.ref tf, .ref tg, .int (nI n)])), (tf, .inl (cD, 12, .inr (.inr (.inr (.inl L))))), (tg, .inl (cD, 12, .inr (.inr (.inr (.inl D)))))] H := hP
  have hi : i9 + n9 = n := hi
  refine lv_iload hx hb dX2_sumOfLengths_6 (lv_at hl 0 rfl) ?_
  refine lv_aload_n hx hb dX2_sumOfLengths_8 rfl (lv_at hl 2 rfl) ?_
  refine va_get (D := (dC, dI)) (ci := 2) (v := .ref pc) (C := RX2) (T := TX2) (N := 1) hx hb hts (by decide +kernel) hown hK hP 0 rfl rfl 0 (by decide) (hts (.fieldLink RX2 14 "SteamBends$Shape" "pieces" "LSteamBends$Pairs;") (by decide +kernel)) (fun _ h9 => h9) rfl dX2_sumOfLengths_9 ?_
  refine va_getN (D := (dC, dI)) (ci := 1) (v := .int (nI n)) (C := RX1) (T := TX1) (N := 3) (host := "SteamBends") hx hb hts (by decide +kernel) hown hK hP 1 rfl rfl 2 (by decide) (va_Nw.use rfl (hN.f 6 rfl)) (fun _ h9 => h9) rfl dX2_sumOfLengths_12 ?_
  refine lv_icmp_ge (tgt := 37) hx hb dX2_sumOfLengths_15 (by decide) (fun c_15 => ?_) (fun c_15 => ?_)
  · have c_15 := (nI_leI (a := n) (b := i9) (by omega) (by omega)).mp c_15
    refine lv_dload hx hb dX2_sumOfLengths_37 (lv_at hl 1 rfl) ?_
    exact W.dret hx hb hr (fun t9s hht hW9 => ⟨⟨sumL L D o t i9, (), rfl, (by rw [show n = i9 by omega]), trivial⟩, hS.F hht⟩) hS.2.2 dX2_sumOfLengths_39
  · have c_15 := mt (nI_leI (a := n) (b := i9) (by omega) (by omega)).mpr c_15
    refine lv_dload hx hb dX2_sumOfLengths_18 (lv_at hl 1 rfl) ?_
    refine lv_aload_n hx hb dX2_sumOfLengths_20 rfl (lv_at hl 2 rfl) ?_
    refine lv_iload hx hb dX2_sumOfLengths_21 (lv_at hl 0 rfl) ?_
    refine lv_iload_n hx hb dX2_sumOfLengths_23 rfl (lv_at hl 3 rfl) ?_
    refine lv_dload_n hx hb dX2_sumOfLengths_24 rfl (lv_at hl 4 rfl) ?_
    have hPc := hP.sub (ws' := [(sh, .inr (2, [.ref pc])), (pc, .inr (1, [.ref tf, .ref tg, .int (nI n)])), (tf, .inl (cD, 12, .inr (.inr (.inr (.inl L))))), (tg, .inl (cD, 12, .inr (.inr (.inr (.inl D)))))]) [0, 1, 2, 3] rfl
    have hKc := hK.sub (tys' := [(cD, .double)]) [0] rfl
    refine va_calld (va_runV (As := [.int (nI i9), .int o, .double t]) (rest := [.double (sumL L D o t i9)]) ⟨hx, hb, hml, hown, hts⟩ (m_X2_lengthOf l dC dI cD sh pc tf tg n L D i9 o t (by omega) (ht.mono (by omega) : dB 1060 _) hpc) (cwV 3 hts gX2_sumOfLengths_X2_lengthOf rfl rfl rfl (by decide +kernel) ⟨(Nat.le_of_ble_eq_true rfl), (Nat.le_of_ble_eq_true rfl)⟩) ⟨PK.blind, va_recv hKc hPc (ci := 2) (q0 := 0) rfl rfl, fun U9 hU9 hW9 => ⟨rfl, PK.at hPc hKc hN hU9 hW9⟩⟩ rfl rfl hl.1 rfl (lv_room (Nat.le_of_ble_eq_true rfl)) dX2_sumOfLengths_25 ⟨(Nat.le_of_ble_eq_true rfl), (Nat.le_of_ble_eq_true rfl)⟩) hS (fun q _ h => h.elim) (fun q h => h.elim) (fun r_78 u9s t9s H1 locs hht hvm9 hw_25_k_77 hB hz1 hk1 hS => ?_)
    have hP := va_still hP hk1
    generalize H1 = H at hP hS ⊢
    subst hw_25_k_77
    have b_79 : dB (1110 + 2 * i9 + 2) (FP.dadd (sumL L D o t i9) (lenOf (L i9) (D i9) o t)) := dB.add (sumL_dB (o := o) hpc ht i9 (by omega)) (lenOf_dB (o := o) (hpc.2 i9 (by omega)).1 (hpc.2 i9 (by omega)).2.1 (fun q => hpc.dL (by omega) q) (ht.mono (by omega) : dB 1060 _)) (M := 1110 + 2 * i9) (by omega) (by omega) (by omega)
    refine lv_dadd hx hb dX2_sumOfLengths_28 (b_79.ok (by omega)) ?_
    refine lv_dstore (lv' := [(4, .double (FP.dadd (sumL L D o t i9) (lenOf (L i9) (D i9) o t))), (6, .int (nI i9)), (0, .ref sh), (1, .int o), (2, .double t)]) hx hb dX2_sumOfLengths_29 hl (by decide) rfl (fun ls hl => ?_)
    refine lv_iinc (v := nI (i9 + 1)) (lv' := [(6, .int (nI (i9 + 1))), (4, .double (FP.dadd (sumL L D o t i9) (lenOf (L i9) (D i9) o t))), (0, .ref sh), (1, .int o), (2, .double t)]) hx hb dX2_sumOfLengths_31 hl (k := 1) rfl (show nI i9 + nI 1 = nI (i9 + 1) from nI_add _ _) (by decide) rfl (fun ls hl => ?_)
    refine lv_goto (tgt := 6) hx hb dX2_sumOfLengths_34 (by decide) ?_
    exact ih (n9 - 1) (by omega) (i9 + 1) _ _ _ ⟨(by
        simp only [sumL]
        exact lv_sub hl [0, 1, 2, 3, 4] rfl), hP, hS, (show (i9 + 1) + (n9 - 1) = n from by omega)⟩
