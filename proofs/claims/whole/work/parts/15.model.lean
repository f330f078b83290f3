/-! the reference: what its own ways answer -/
theorem nI_back (a : Nat) : nI a - 1 + 1 = nI a := Int32.sub_add_cancel _ _
theorem rRad_dBk {T R : Nat → UInt64} {t : UInt64} {n k : Nat} (h : rowsOK T R n) (ht : dB 1064 t) (hk : k ≤ n) : dB 1112 ((rRad T R t k).getD FP.dconst0) := by
  cases e : rRad T R t k with
  | none => exact dB_d0.mono (by omega)
  | some r => exact (rRad_some h ht k hk e).1
theorem rRad_a {T R : Nat → UInt64} {t : UInt64} {k : Nat} (h : dv t = dv (T k)) : rRad T R t (k + 1) = some (R k) := by rw [rRad, if_pos h]
theorem rRad_b {T R : Nat → UInt64} {t : UInt64} {k : Nat} (h : ¬ dv t = dv (T k)) (q : 0 < k ∧ dv (T (k - 1)) < dv t ∧ dv t < dv (T k)) : rRad T R t (k + 1) = some (interp T R k t) := by rw [rRad, if_neg h, if_pos q]
theorem rRad_c {T R : Nat → UInt64} {t : UInt64} {k : Nat} (h : ¬ dv t = dv (T k)) (q : ¬ (0 < k ∧ dv (T (k - 1)) < dv t ∧ dv t < dv (T k))) : rRad T R t (k + 1) = rRad T R t k := by rw [rRad, if_neg h, if_neg q]
theorem isS_none {o : Option UInt64} (h : ¬ o.isSome = true) : o = none := by cases o with
  | none => rfl
  | some x => exact absurd rfl h
theorem isS_get {o : Option UInt64} (h : o.isSome = true) (a b : UInt64) : o.getD a = o.getD b := by cases o with
  | none => exact absurd h (by decide)
  | some x => rfl
theorem isS_ne {o : Option UInt64} (h : o.isSome = true) : ¬ o = none := by rintro rfl; exact absurd h (by decide)
theorem strp_go2 {T R : Nat → UInt64} {n f k : Nat} {t w : UInt64} (h : (rRad T R (FP.ddiv t (FP.i2d (nI k))) n).isSome = true → ¬ dv ((rRad T R (FP.ddiv t (FP.i2d (nI k))) n).getD FP.dconst0) ≤ dv w) : strp T R n t w (f + 1) k = strp T R n t w f (k + 1) := by
  cases e : rRad T R (FP.ddiv t (FP.i2d (nI k))) n with
  | none => exact strp_no e
  | some r =>
    rw [e] at h
    exact strp_more e (h rfl)
theorem strp_stop2 {T R : Nat → UInt64} {n f k : Nat} {t w : UInt64} (h0 : (rRad T R (FP.ddiv t (FP.i2d (nI k))) n).isSome = true) (h : dv ((rRad T R (FP.ddiv t (FP.i2d (nI k))) n).getD FP.dconst0) ≤ dv w) : strp T R n t w (f + 1) k = nI k := by
  cases e : rRad T R (FP.ddiv t (FP.i2d (nI k))) n with
  | none => rw [e] at h0; exact absurd h0 (by decide)
  | some r =>
    rw [e] at h
    exact strp_yes e h
/-- is the shape good so far? -/
def gd (t : UInt64) (D : Nat → UInt64) (i : Nat) : Int32 := if (dv FP.dconst0 ≤ dv t ∧ dv t ≤ dv 4652007308841189376) ∧ bends D t i = true then 1 else 0
theorem gd_0 {t : UInt64} {D : Nat → UInt64} {r : Int32} (h : r = if dv FP.dconst0 ≤ dv t ∧ dv t ≤ dv 4652007308841189376 then 1 else 0) : r = gd t D 0 := by
  rw [h, gd]
  by_cases q : dv FP.dconst0 ≤ dv t ∧ dv t ≤ dv 4652007308841189376
  · rw [if_pos q, if_pos ⟨q, rfl⟩]
  · rw [if_neg q, if_neg (fun z => q z.1)]
theorem gd_hw (t : UInt64) (D : Nat → UInt64) (i : Nat) : gd t D i = if (dv FP.dconst0 ≤ dv t ∧ dv t ≤ dv 4652007308841189376) ∧ bends D t i = true then 1 else 0 := rfl
theorem gd_no {t : UInt64} {D : Nat → UInt64} {i : Nat} (h : ¬ ((dv FP.dconst0 ≤ dv t ∧ dv t ≤ dv 4652007308841189376) ∧ bends D t i = true)) : gd t D (i + 1) = 0 := if_neg (fun z => h ⟨z.1, bends_down z.2⟩)
theorem gd_bad {t : UInt64} {D : Nat → UInt64} {i : Nat} (h1 : 0 < dv (D i)) (h2 : dv (FP.dmul 4611686018427387904 (D i)) < dv t) : gd t D (i + 1) = 0 := if_neg (fun z => bends_last z.2 ⟨h1, h2⟩)
theorem gd_yes {t : UInt64} {D : Nat → UInt64} {i : Nat} (h : (dv FP.dconst0 ≤ dv t ∧ dv t ≤ dv 4652007308841189376) ∧ bends D t i = true) (h1 : ¬ (0 < dv (D i) ∧ dv (FP.dmul 4611686018427387904 (D i)) < dv t)) : gd t D (i + 1) = 1 := if_pos ⟨h.1, bends_yes h.2 h1⟩
theorem hf_dB {t : UInt64} (ht : dB 1060 t) : dB 1060 (FP.ddiv t 4611686018427387904) := dB.div (M := 1060) ht (by unfold dL; decide +kernel : dL 1024 (4611686018427387904 : UInt64)) (by unfold dB; decide +kernel : dB 1025 (4611686018427387904 : UInt64)) (by omega) (by omega) (by omega) (by omega)
theorem rx_dL1 {d : Int32} (h : 0 ≤ d.toInt) : dL 1023 (FP.dadd FP.dconst1 (FP.ddiv (FP.i2d d) 4620693217682128896)) := rx_dL h

set_option maxHeartbeats 4000000 in
set_option maxRecDepth 100000 in
theorem m_X4_isIn (l : Launch) (v a b : UInt64) (hv9 : nn v) (ha9 : nn a) (hb9 : nn b) : Met l yX4_isIn wsX4_isIn ({ frames := 0, cells := 0, slots := 0, locals := 0 } : Room) (va_Pc [.double v, .double a, .double b] (fun _ => True)) (va_Qi (fun (r : Int32) (_ : Unit) => r = if dv a ≤ dv v ∧ dv v ≤ dv b then 1 else 0) (fun _ _ => True) (fun _ => False)) 0 0 (fun _ => False) := by
  refine Met.ofW (cc := cX4_isIn) (maxL := 6) (ret := (some .boolean)) (by decide) rfl ?_
  intro p e s m args below meth c s₁ BB hml hv
  obtain ⟨rfl, -⟩ := hv
  have hx := BB.exec
  have hb := BB.bytes
  have hr := BB.returns
  have hts := atoms_spec (ws := wsX4_isIn) BB.pre
  have hown : s.vm.findClass RX4 = some m.cls := findClass_of_methodNamed BB.named
  have hlocks := BB.notSynchronized
  have hS : va_S (fun _ => False) s.heap s.heap [] := va_S.rf
  have hl := lv_entry ([.double v, .double a, .double b]) (n := 6) (Nat.le_of_ble_eq_true rfl)
  rw [lg_entry_eq]
  generalize (lg_sl ([.double v, .double a, .double b]) ++ List.replicate (6 - (lg_sl ([.double v, .double a, .double b])).length) Slot.unset).toArray = ls at hl ⊢
  have hl : lv_has ls 6 [(0, .double v), (2, .double a), (4, .double b)] := hl
  refine lv_dload_n hx hb dX4_isIn_0 rfl (lv_at hl 0 rfl) ?_
  refine lv_dload_n hx hb dX4_isIn_1 rfl (lv_at hl 1 rfl) ?_
  refine lv_dcmp hx hb dX4_isIn_2 ?_
  refine lv_if_lt (tgt := 17) hx hb dX4_isIn_3 (by decide) (fun c_3 => ?_) (fun c_3 => ?_)
  · have c_3 := (cv_lt hv9 ha9).mp c_3
    refine lv_iconst (v := 0) hx hb dX4_isIn_17 (by decide) ?_
    exact W.zret hx hb hr (by decide) (fun t9s hht hW9 => ⟨⟨0, (), rfl, (by split <;> first | rfl | (exfalso; omega)), trivial⟩, hS.F hht⟩) hS.2.2 dX4_isIn_18
  · have c_3 := mt (cv_lt hv9 ha9).mpr c_3
    refine lv_dload_n hx hb dX4_isIn_6 rfl (lv_at hl 0 rfl) ?_
    refine lv_dload hx hb dX4_isIn_7 (lv_at hl 2 rfl) ?_
    refine lv_dcmp hx hb dX4_isIn_9 ?_
    refine lv_if_gt (tgt := 17) hx hb dX4_isIn_10 (by decide) (fun c_10 => ?_) (fun c_10 => ?_)
    · have c_10 := (cv_gt hv9 hb9).mp c_10
      refine lv_iconst (v := 0) hx hb dX4_isIn_17 (by decide) ?_
      exact W.zret hx hb hr (by decide) (fun t9s hht hW9 => ⟨⟨0, (), rfl, (by split <;> first | rfl | (exfalso; omega)), trivial⟩, hS.F hht⟩) hS.2.2 dX4_isIn_18
    · have c_10 := mt (cv_gt hv9 hb9).mpr c_10
      refine lv_iconst (v := 1) hx hb dX4_isIn_13 (by decide) ?_
      refine lv_goto (tgt := 18) hx hb dX4_isIn_14 (by decide) ?_
      exact W.zret hx hb hr (by decide) (fun t9s hht hW9 => ⟨⟨1, (), rfl, (by split <;> first | rfl | (exfalso; omega)), trivial⟩, hS.F hht⟩) hS.2.2 dX4_isIn_18

set_option maxHeartbeats 4000000 in
set_option maxRecDepth 100000 in
theorem m_X4_isKind (l : Launch) (kd : Int32) : Met l yX4_isKind wsX4_isKind ({ frames := 0, cells := 0, slots := 0, locals := 0 } : Room) (va_Pc [.int kd] (fun _ => True)) (va_Qi (fun (r : Int32) (_ : Unit) => r = if 0 ≤ kd.toInt ∧ kd.toInt < 4 then 1 else 0) (fun _ _ => True) (fun _ => False)) 0 0 (fun _ => False) := by
  refine Met.ofW (cc := cX4_isKind) (maxL := 1) (ret := (some .boolean)) (by decide) rfl ?_
  intro p e s m args below meth c s₁ BB hml hv
  obtain ⟨rfl, -⟩ := hv
  have hx := BB.exec
  have hb := BB.bytes
  have hr := BB.returns
  have hts := atoms_spec (ws := wsX4_isKind) BB.pre
  have hown : s.vm.findClass RX4 = some m.cls := findClass_of_methodNamed BB.named
  have hlocks := BB.notSynchronized
  have hS : va_S (fun _ => False) s.heap s.heap [] := va_S.rf
  have hl := lv_entry ([.int kd]) (n := 1) (Nat.le_of_ble_eq_true rfl)
  rw [lg_entry_eq]
  generalize (lg_sl ([.int kd]) ++ List.replicate (1 - (lg_sl ([.int kd])).length) Slot.unset).toArray = ls at hl ⊢
  have hl : lv_has ls 1 [(0, .int kd)] := hl
  refine lv_iload_n hx hb dX4_isKind_0 rfl (lv_at hl 0 rfl) ?_
  refine lv_if_lt (tgt := 13) hx hb dX4_isKind_1 (by decide) (fun c_1 => ?_) (fun c_1 => ?_)
  · have c_1 := (z_lt (a := kd.toInt) (b := 0) rfl (by decide)).mp c_1
    refine lv_iconst (v := 0) hx hb dX4_isKind_13 (by decide) ?_
    exact W.zret hx hb hr (by decide) (fun t9s hht hW9 => ⟨⟨0, (), rfl, (by split <;> first | rfl | (exfalso; omega)), trivial⟩, hS.F hht⟩) hS.2.2 dX4_isKind_14
  · have c_1 := mt (z_lt (a := kd.toInt) (b := 0) rfl (by decide)).mpr c_1
    refine lv_iload_n hx hb dX4_isKind_4 rfl (lv_at hl 0 rfl) ?_
    refine lv_iconst (v := 4) hx hb dX4_isKind_5 (by decide) ?_
    refine lv_icmp_ge (tgt := 13) hx hb dX4_isKind_6 (by decide) (fun c_6 => ?_) (fun c_6 => ?_)
    · have c_6 := (z_le (a := 4) (b := kd.toInt) (by decide) rfl).mp c_6
      refine lv_iconst (v := 0) hx hb dX4_isKind_13 (by decide) ?_
      exact W.zret hx hb hr (by decide) (fun t9s hht hW9 => ⟨⟨0, (), rfl, (by split <;> first | rfl | (exfalso; omega)), trivial⟩, hS.F hht⟩) hS.2.2 dX4_isKind_14
    · have c_6 := mt (z_le (a := 4) (b := kd.toInt) (by decide) rfl).mpr c_6
      refine lv_iconst (v := 1) hx hb dX4_isKind_9 (by decide) ?_
      refine lv_goto (tgt := 14) hx hb dX4_isKind_10 (by decide) ?_
      exact W.zret hx hb hr (by decide) (fun t9s hht hW9 => ⟨⟨1, (), rfl, (by split <;> first | rfl | (exfalso; omega)), trivial⟩, hS.F hht⟩) hS.2.2 dX4_isKind_14

set_option maxHeartbeats 4000000 in
set_option maxRecDepth 100000 in
theorem m_X4_thrown (l : Launch) (dC : Nat → ClassId) (dI : Nat → Nat → Nat) (cI cD : ClassId) (mo a1 a2 a3 a4 a5 a6 a7 a8 a10 a11 : Nat) (cd : Int32) (np kc : Nat) (kr : UInt64) (fd : Int32) : Met l yX4_thrown wsX4_thrown ({ frames := 0, cells := 0, slots := 0, locals := 0 } : Room) (va_Pc [.ref mo] (PK (dC, dI) [(cD, .double)] [(mo, .inr (4, [.int cd, .ref a1, .ref a2, .ref a3, .ref a4, .ref a5, .ref a6, .ref a7, .ref a8, .int (nI np), .ref a10, .ref a11, .int (nI kc), .double kr, .int fd]))])) (va_Qi (fun (r : Int32) (_ : Unit) => r = cd) (fun _ _ => True) (fun _ => False)) 0 0 (fun _ => False) := by
  refine Met.ofW (cc := cX4_thrown) (maxL := 1) (ret := (some .int)) (by decide) rfl ?_
  intro p e s m args below meth c s₁ BB hml hv
  obtain ⟨rfl, hP, hK, hN⟩ := hv
  have hx := BB.exec
  have hb := BB.bytes
  have hr := BB.returns
  have hts := atoms_spec (ws := wsX4_thrown) BB.pre
  have hown : s.vm.findClass RX4 = some m.cls := findClass_of_methodNamed BB.named
  have hlocks := BB.notSynchronized
  have hS : va_S (fun _ => False) s.heap s.heap [] := va_S.rf
  have hP : va_P (dC, dI) vwCl [(mo, .inr (4, [.int cd, .ref a1, .ref a2, .ref a3, .ref a4, .ref a5, .ref a6, .ref a7, .ref a8, .int (nI np), .ref a10, .ref a11, .int (nI kc), .double kr, .int fd]))] s.heap := hP
  have hl := lv_entry ([.ref mo]) (n := 1) (Nat.le_of_ble_eq_true rfl)
  rw [lg_entry_eq]
  generalize (lg_sl ([.ref mo]) ++ List.replicate (1 - (lg_sl ([.ref mo])).length) Slot.unset).toArray = ls at hl ⊢
  have hl : lv_has ls 1 [(0, .ref mo)] := hl
  refine lv_aload_n hx hb dX4_thrown_0 rfl (lv_at hl 0 rfl) ?_
  refine va_get (D := (dC, dI)) (ci := 4) (v := .int cd) (C := RX4) (T := TX4) (N := 15) hx hb hts (by decide +kernel) hown hK hP 0 rfl rfl 0 (by decide) (hts (.fieldLink RX4 43 "SteamBendsModel" "code" "I") (by decide +kernel)) (fun _ h9 => h9) rfl dX4_thrown_1 ?_
  exact W.iret hx hb hr (fun t9s hht hW9 => ⟨⟨cd, (), rfl, rfl, trivial⟩, hS.F hht⟩) hS.2.2 dX4_thrown_4

set_option maxHeartbeats 4000000 in
set_option maxRecDepth 100000 in
theorem m_X4_table (l : Launch) (dC : Nat → ClassId) (dI : Nat → Nat → Nat) (sz : Nat) (cI cD : ClassId) (mo a1 a2 a3 a4 a5 a6 a7 a8 a10 a11 : Nat) (cd : Int32) (np kc : Nat) (kr : UInt64) (fd : Int32) (nr : Nat → Nat) (T2 R2 : Nat → Nat → UInt64) (kd : Int32) (j : Nat) (hj : j < 4) (hkj : kOK kd → kd = nI j) (t rr : UInt64) (ht : dB 1060 t) (hrr : dB 1060 rr) (hrow : rowsOK (T2 j) (R2 j) (nr j)) : Met l yX4_table wsX4_table ({ frames := 1, cells := 0, slots := 0, locals := 25 } : Room) (va_Pc [.ref mo, .int kd, .double t, .double rr] (PW (dC, dI) [(cI, .int), (cD, .double)] [(mo, .inr (4, [.int cd, .ref a1, .ref a2, .ref a3, .ref a4, .ref a5, .ref a6, .ref a7, .ref a8, .int (nI np), .ref a10, .ref a11, .int (nI kc), .double kr, .int fd])), (a1, .inl (cI, 4, .inl (cnt nr))), (a2, .inl (cD, 48, .inr (.inr (.inr (.inl (flat 12 T2)))))), (a3, .inl (cD, 48, .inr (.inr (.inr (.inl (flat 12 R2))))))] sz)) (va_Qi (fun (r : Int32) (u : Nat × (Nat → Nat) × (Nat → Nat → UInt64) × (Nat → Nat → UInt64)) => u.1 = cTab kd t rr (nr j) (T2 j) ∧ (u.1 = 0 → r = nI (nr j + 1)) ∧ u.2 = (if u.1 = 0 then (vf_upd nr j (nr j + 1), up2 T2 j (nr j) t, up2 R2 j (nr j) rr) else (nr, T2, R2))) (fun (u : Nat × (Nat → Nat) × (Nat → Nat → UInt64) × (Nat → Nat → UInt64)) => QW (dC, dI) [(mo, .inr (4, [.int (nI u.1), .ref a1, .ref a2, .ref a3, .ref a4, .ref a5, .ref a6, .ref a7, .ref a8, .int (nI np), .ref a10, .ref a11, .int (nI kc), .double kr, .int fd])), (a1, .inl (cI, 4, .inl (cnt u.2.1))), (a2, .inl (cD, 48, .inr (.inr (.inr (.inl (flat 12 u.2.2.1)))))), (a3, .inl (cD, 48, .inr (.inr (.inr (.inl (flat 12 u.2.2.2))))))] (va_A [(mo, .inr (4, [.int cd, .ref a1, .ref a2, .ref a3, .ref a4, .ref a5, .ref a6, .ref a7, .ref a8, .int (nI np), .ref a10, .ref a11, .int (nI kc), .double kr, .int fd])), (a1, .inl (cI, 4, .inl (cnt nr))), (a2, .inl (cD, 48, .inr (.inr (.inr (.inl (flat 12 T2)))))), (a3, .inl (cD, 48, .inr (.inr (.inr (.inl (flat 12 R2))))))] sz)) (va_A [(mo, .inr (4, [.int cd, .ref a1, .ref a2, .ref a3, .ref a4, .ref a5, .ref a6, .ref a7, .ref a8, .int (nI np), .ref a10, .ref a11, .int (nI kc), .double kr, .int fd])), (a1, .inl (cI, 4, .inl (cnt nr))), (a2, .inl (cD, 48, .inr (.inr (.inr (.inl (flat 12 T2)))))), (a3, .inl (cD, 48, .inr (.inr (.inr (.inl (flat 12 R2))))))] sz)) 0 0 (va_A [(mo, .inr (4, [.int cd, .ref a1, .ref a2, .ref a3, .ref a4, .ref a5, .ref a6, .ref a7, .ref a8, .int (nI np), .ref a10, .ref a11, .int (nI kc), .double kr, .int fd])), (a1, .inl (cI, 4, .inl (cnt nr))), (a2, .inl (cD, 48, .inr (.inr (.inr (.inl (flat 12 T2)))))), (a3, .inl (cD, 48, .inr (.inr (.inr (.inl (flat 12 R2))))))] sz) := by
  refine Met.ofW (cc := cX4_table) (maxL := 8) (ret := (some .int)) (by decide) rfl ?_
  intro p e s m args below meth c s₁ BB hml hv
  obtain ⟨rfl, hsz, hP, hK, hD0, hN⟩ := hv
  have hx := BB.exec
  have hb := BB.bytes
  have hr := BB.returns
  have hts := atoms_spec (ws := wsX4_table) BB.pre
  have hown : s.vm.findClass RX4 = some m.cls := findClass_of_methodNamed BB.named
  have hlocks := BB.notSynchronized
  subst hsz
  have hD := hD0.self (sz := s.heap.size)
  generalize hAe : va_A [(mo, .inr (4, [.int cd, .ref a1, .ref a2, .ref a3, .ref a4, .ref a5, .ref a6, .ref a7, .ref a8, .int (nI np), .ref a10, .ref a11, .int (nI kc), .double kr, .int fd])), (a1, .inl (cI, 4, .inl (cnt nr))), (a2, .inl (cD, 48, .inr (.inr (.inr (.inl (flat 12 T2)))))), (a3, .inl (cD, 48, .inr (.inr (.inr (.inl (flat 12 R2))))))] s.heap.size = A at hD ⊢
  have hA : ∀ q : Nat, s.heap.size ≤ q → A q := fun q h => by rw [← hAe]; exact Or.inr h
  have hS : va_S A s.heap s.heap [] := va_S.rf
  have hP : va_P (dC, dI) vwCl [(mo, .inr (4, [.int cd, .ref a1, .ref a2, .ref a3, .ref a4, .ref a5, .ref a6, .ref a7, .ref a8, .int (nI np), .ref a10, .ref a11, .int (nI kc), .double kr, .int fd])), (a1, .inl (cI, 4, .inl (cnt nr))), (a2, .inl (cD, 48, .inr (.inr (.inr (.inl (flat 12 T2)))))), (a3, .inl (cD, 48, .inr (.inr (.inr (.inl (flat 12 R2))))))] s.heap := hP
  have hl := lv_entry ([.ref mo, .int kd, .double t, .double rr]) (n := 8) (Nat.le_of_ble_eq_true rfl)
  rw [lg_entry_eq]
  generalize (lg_sl ([.ref mo, .int kd, .double t, .double rr]) ++ List.replicate (8 - (lg_sl ([.ref mo, .int kd, .double t, .double rr])).length) Slot.unset).toArray = ls at hl ⊢
  have hl : lv_has ls 8 [(0, .ref mo), (1, .int kd), (2, .double t), (4, .double rr)] := hl
  have hn12 := hrow.1
  refine lv_aload_n hx hb dX4_table_0 rfl (lv_at hl 0 rfl) ?_
  refine lv_iload_n hx hb dX4_table_1 rfl (lv_at hl 1 rfl) ?_
  refine va_calli (va_runS (As := [.int kd]) (rest := [.ref mo]) ⟨hx, hb, hml, hown, hts⟩ (m_X4_isKind l kd) (va_cwS 1 hts gX4_table_X4_isKind rfl rfl rfl (by decide +kernel) ⟨(Nat.le_of_ble_eq_true rfl), (Nat.le_of_ble_eq_true rfl)⟩) ⟨fun a U g mk q => q, fun U9 hU9 hW9 => ⟨rfl, trivial⟩⟩ rfl rfl hl.1 rfl (lv_room (Nat.le_of_ble_eq_true rfl)) dX4_table_2 ⟨(Nat.le_of_ble_eq_true rfl), (Nat.le_of_ble_eq_true rfl)⟩) hS (fun q _ h => h.elim) (fun q h => h.elim) (fun r_81 u9s t9s H1 locs hht hvm9 hw_2_k_80 hB hz1 hk1 hS => ?_)
  have hP := va_still hP hk1
  generalize H1 = H at hP hS ⊢
  refine lv_if_eq (tgt := 12) hx hb dX4_table_5 (by decide) (fun c_5 => ?_) (fun c_5 => ?_)
  · have c_5 := (b01 hw_2_k_80).mp c_5
    refine lv_iconst (v := 1) hx hb dX4_table_12 (by decide) ?_
    refine va_put (D := (dC, dI)) (ci := 4) (v := .int 1) (ty := .int) (C := RX4) (T := TX4) (N := 15) hx hb hts (by decide +kernel) tyX4 tyX4_ok nmX4 hown hK hP hD hS 0 rfl rfl 0 (by decide) (hts (.fieldLink RX4 43 "SteamBendsModel" "code" "I") (by decide +kernel)) (fun _ h9 => h9) rfl (by decide +kernel) rfl rfl (Nat.le_of_ble_eq_true rfl) dX4_table_13 (fun H locs hP hD hS => ?_)
    have hP : va_P (dC, dI) vwCl [(mo, .inr (4, [.int 1, .ref a1, .ref a2, .ref a3, .ref a4, .ref a5, .ref a6, .ref a7, .ref a8, .int (nI np), .ref a10, .ref a11, .int (nI kc), .double kr, .int fd])), (a1, .inl (cI, 4, .inl (cnt nr))), (a2, .inl (cD, 48, .inr (.inr (.inr (.inl (flat 12 T2)))))), (a3, .inl (cD, 48, .inr (.inr (.inr (.inl (flat 12 R2))))))] H := hP
    have hD : va_D A [(mo, .inr (4, [.int 1, .ref a1, .ref a2, .ref a3, .ref a4, .ref a5, .ref a6, .ref a7, .ref a8, .int (nI np), .ref a10, .ref a11, .int (nI kc), .double kr, .int fd])), (a1, .inl (cI, 4, .inl (cnt nr))), (a2, .inl (cD, 48, .inr (.inr (.inr (.inl (flat 12 T2)))))), (a3, .inl (cD, 48, .inr (.inr (.inr (.inl (flat 12 R2))))))] := hD
    refine lv_aload_n hx hb dX4_table_16 rfl (lv_at hl 0 rfl) ?_
    refine va_get (D := (dC, dI)) (ci := 4) (v := .int 1) (C := RX4) (T := TX4) (N := 15) hx hb hts (by decide +kernel) hown hK hP 0 rfl rfl 0 (by decide) (hts (.fieldLink RX4 43 "SteamBendsModel" "code" "I") (by decide +kernel)) (fun _ h9 => h9) rfl dX4_table_17 ?_
    refine lv_if_le (tgt := 25) hx hb dX4_table_20 (by decide) (fun c_20 => ?_) (fun c_20 => ?_)
    · exact absurd c_20 (by decide)
    · refine lv_iconst (v := 0) hx hb dX4_table_23 (by decide) ?_
      have hP9 := hP.sub (ws' := [(mo, .inr (4, [.int 1, .ref a1, .ref a2, .ref a3, .ref a4, .ref a5, .ref a6, .ref a7, .ref a8, .int (nI np), .ref a10, .ref a11, .int (nI kc), .double kr, .int fd])), (a1, .inl (cI, 4, .inl (cnt nr))), (a2, .inl (cD, 48, .inr (.inr (.inr (.inl (flat 12 T2)))))), (a3, .inl (cD, 48, .inr (.inr (.inr (.inl (flat 12 R2))))))]) [0, 1, 2, 3] rfl
      have hD9 := hD.sub (ws' := [(mo, .inr (4, [.int 1, .ref a1, .ref a2, .ref a3, .ref a4, .ref a5, .ref a6, .ref a7, .ref a8, .int (nI np), .ref a10, .ref a11, .int (nI kc), .double kr, .int fd])), (a1, .inl (cI, 4, .inl (cnt nr))), (a2, .inl (cD, 48, .inr (.inr (.inr (.inl (flat 12 T2)))))), (a3, .inl (cD, 48, .inr (.inr (.inr (.inl (flat 12 R2))))))]) [0, 1, 2, 3] (by decide) rfl
      exact W.iret hx hb hr (fun t9s hht hW9 => ⟨⟨0, (1, (nr, T2, R2)), rfl, ⟨(by show (1 : Nat) = _; unfold cTab; (repeat' split) <;> omega), fun z => absurd z (by simp), (if_neg (show ¬ (1 : Nat) = 0 by decide)).symm⟩, ⟨by rw [hht]; exact hP9, hD9⟩⟩, hS.F hht⟩) hS.2.2 dX4_table_24
  · have c_5 := (b01n hw_2_k_80).mp c_5
    have hkd := hkj c_5
    subst hkd
    have hz9 : (nI j).toInt = (j : Int) := nI_toInt (by omega)
    have hl : lv_has ls 8 [(0, .ref mo), (1, .int (nI j)), (2, .double t), (4, .double rr)] := hl
    refine lv_iconst (v := 0) hx hb dX4_table_8 (by decide) ?_
    refine lv_goto (tgt := 13) hx hb dX4_table_9 (by decide) ?_
    refine va_put (D := (dC, dI)) (ci := 4) (v := .int 0) (ty := .int) (C := RX4) (T := TX4) (N := 15) hx hb hts (by decide +kernel) tyX4 tyX4_ok nmX4 hown hK hP hD hS 0 rfl rfl 0 (by decide) (hts (.fieldLink RX4 43 "SteamBendsModel" "code" "I") (by decide +kernel)) (fun _ h9 => h9) rfl (by decide +kernel) rfl rfl (Nat.le_of_ble_eq_true rfl) dX4_table_13 (fun H locs hP hD hS => ?_)
    have hP : va_P (dC, dI) vwCl [(mo, .inr (4, [.int 0, .ref a1, .ref a2, .ref a3, .ref a4, .ref a5, .ref a6, .ref a7, .ref a8, .int (nI np), .ref a10, .ref a11, .int (nI kc), .double kr, .int fd])), (a1, .inl (cI, 4, .inl (cnt nr))), (a2, .inl (cD, 48, .inr (.inr (.inr (.inl (flat 12 T2)))))), (a3, .inl (cD, 48, .inr (.inr (.inr (.inl (flat 12 R2))))))] H := hP
    have hD : va_D A [(mo, .inr (4, [.int 0, .ref a1, .ref a2, .ref a3, .ref a4, .ref a5, .ref a6, .ref a7, .ref a8, .int (nI np), .ref a10, .ref a11, .int (nI kc), .double kr, .int fd])), (a1, .inl (cI, 4, .inl (cnt nr))), (a2, .inl (cD, 48, .inr (.inr (.inr (.inl (flat 12 T2)))))), (a3, .inl (cD, 48, .inr (.inr (.inr (.inl (flat 12 R2))))))] := hD
    refine lv_aload_n hx hb dX4_table_16 rfl (lv_at hl 0 rfl) ?_
    refine va_get (D := (dC, dI)) (ci := 4) (v := .int 0) (C := RX4) (T := TX4) (N := 15) hx hb hts (by decide +kernel) hown hK hP 0 rfl rfl 0 (by decide) (hts (.fieldLink RX4 43 "SteamBendsModel" "code" "I") (by decide +kernel)) (fun _ h9 => h9) rfl dX4_table_17 ?_
    refine lv_if_le (tgt := 25) hx hb dX4_table_20 (by decide) (fun c_20 => ?_) (fun c_20 => ?_)
    · refine lv_bipush (v := 12) hx hb dX4_table_25 (by decide) ?_
      refine lv_iload_n hx hb dX4_table_27 rfl (lv_at hl 1 rfl) ?_
      refine lv_imulN (x := 12) (y := j) hx hb dX4_table_28 ?_
      refine lv_aload_n hx hb dX4_table_29 rfl (lv_at hl 0 rfl) ?_
      refine va_get (D := (dC, dI)) (ci := 4) (v := .ref a1) (C := RX4) (T := TX4) (N := 15) hx hb hts (by decide +kernel) hown hK hP 0 rfl rfl 1 (by decide) (hts (.fieldLink RX4 7 "SteamBendsModel" "rows" "[I") (by decide +kernel)) (fun _ h9 => h9) rfl dX4_table_30 ?_
      refine lv_iload_n hx hb dX4_table_33 rfl (lv_at hl 1 rfl) ?_
      refine va_ialdV hx hb hK hP 1 0 rfl rfl (j := j) (v := nI (nr j)) rfl (by omega) (by omega) dX4_table_34 ?_
      refine lv_iaddN (x := 12 * j) (y := nr j) hx hb dX4_table_35 ?_
      refine lv_iconst (v := 1) hx hb dX4_table_36 (by decide) ?_
      refine lv_isub hx hb dX4_table_37 ?_
      refine lv_istore (lv' := [(6, .int (nI (12 * j + nr j) - 1)), (0, .ref mo), (1, .int (nI j)), (2, .double t), (4, .double rr)]) hx hb dX4_table_38 hl (by decide) rfl (fun ls hl => ?_)
      refine lv_dload_n hx hb dX4_table_40 rfl (lv_at hl 3 rfl) ?_
      refine lv_ldc2d (v := 4593671619917905920) hx hb hown (hts (.constantDouble RX4 51 (4593671619917905920)) (by decide +kernel)) dX4_table_41 ?_
      refine lv_ldc2d (v := 4652007308841189376) hx hb hown (hts (.constantDouble RX4 53 (4652007308841189376)) (by decide +kernel)) dX4_table_44 ?_
      refine va_calli (va_runS (As := [.double t, .double 4593671619917905920, .double 4652007308841189376]) (rest := []) ⟨hx, hb, hml, hown, hts⟩ (m_X4_isIn l t 4593671619917905920 4652007308841189376 (ht.nn (by omega)) ((by unfold dB; decide +kernel : dB 1021 4593671619917905920).nn (by omega)) ((by unfold dB; decide +kernel : dB 1033 4652007308841189376).nn (by omega))) (va_cwS 3 hts gX4_table_X4_isIn rfl rfl rfl (by decide +kernel) ⟨(Nat.le_of_ble_eq_true rfl), (Nat.le_of_ble_eq_true rfl)⟩) ⟨fun a U g mk q => q, fun U9 hU9 hW9 => ⟨rfl, trivial⟩⟩ rfl rfl hl.1 rfl (lv_room (Nat.le_of_ble_eq_true rfl)) dX4_table_47 ⟨(Nat.le_of_ble_eq_true rfl), (Nat.le_of_ble_eq_true rfl)⟩) hS (fun q _ h => h.elim) (fun q h => h.elim) (fun r_83 u9s t9s H1 locs hht hvm9 hw_47_k_82 hB hz1 hk1 hS => ?_)
      have hP := va_still hP hk1
      generalize H1 = H at hP hS ⊢
      refine lv_if_eq (tgt := 92) hx hb dX4_table_50 (by decide) (fun c_50 => ?_) (fun c_50 => ?_)
      · have c_50 := (b01 hw_47_k_82).mp c_50
        refine lv_iconst (v := 0) hx hb dX4_table_92 (by decide) ?_
        refine lv_istore (lv' := [(7, .int 0), (6, .int (nI (12 * j + nr j) - 1)), (0, .ref mo), (1, .int (nI j)), (2, .double t), (4, .double rr)]) hx hb dX4_table_93 hl (by decide) rfl (fun ls hl => ?_)
        refine lv_aload_n hx hb dX4_table_95 rfl (lv_at hl 2 rfl) ?_
        refine lv_iload hx hb dX4_table_96 (lv_at hl 0 rfl) ?_
        refine lv_if_ne (tgt := 105) hx hb dX4_table_98 (by decide) (fun c_98 => ?_) (fun c_98 => ?_)
        · exact absurd c_98 (by decide)
        · refine lv_iconst (v := 2) hx hb dX4_table_101 (by decide) ?_
          refine lv_goto (tgt := 121) hx hb dX4_table_102 (by decide) ?_
          refine va_put (D := (dC, dI)) (ci := 4) (v := .int 2) (ty := .int) (C := RX4) (T := TX4) (N := 15) hx hb hts (by decide +kernel) tyX4 tyX4_ok nmX4 hown hK hP hD hS 0 rfl rfl 0 (by decide) (hts (.fieldLink RX4 43 "SteamBendsModel" "code" "I") (by decide +kernel)) (fun _ h9 => h9) rfl (by decide +kernel) rfl rfl (Nat.le_of_ble_eq_true rfl) dX4_table_121 (fun H locs hP hD hS => ?_)
          have hP : va_P (dC, dI) vwCl [(mo, .inr (4, [.int 2, .ref a1, .ref a2, .ref a3, .ref a4, .ref a5, .ref a6, .ref a7, .ref a8, .int (nI np), .ref a10, .ref a11, .int (nI kc), .double kr, .int fd])), (a1, .inl (cI, 4, .inl (cnt nr))), (a2, .inl (cD, 48, .inr (.inr (.inr (.inl (flat 12 T2)))))), (a3, .inl (cD, 48, .inr (.inr (.inr (.inl (flat 12 R2))))))] H := hP
          have hD : va_D A [(mo, .inr (4, [.int 2, .ref a1, .ref a2, .ref a3, .ref a4, .ref a5, .ref a6, .ref a7, .ref a8, .int (nI np), .ref a10, .ref a11, .int (nI kc), .double kr, .int fd])), (a1, .inl (cI, 4, .inl (cnt nr))), (a2, .inl (cD, 48, .inr (.inr (.inr (.inl (flat 12 T2)))))), (a3, .inl (cD, 48, .inr (.inr (.inr (.inl (flat 12 R2))))))] := hD
          refine lv_aload_n hx hb dX4_table_124 rfl (lv_at hl 2 rfl) ?_
          refine va_get (D := (dC, dI)) (ci := 4) (v := .int 2) (C := RX4) (T := TX4) (N := 15) hx hb hts (by decide +kernel) hown hK hP 0 rfl rfl 0 (by decide) (hts (.fieldLink RX4 43 "SteamBendsModel" "code" "I") (by decide +kernel)) (fun _ h9 => h9) rfl dX4_table_125 ?_
          refine lv_if_le (tgt := 133) hx hb dX4_table_128 (by decide) (fun c_128 => ?_) (fun c_128 => ?_)
          · exact absurd c_128 (by decide)
          · refine lv_iconst (v := 0) hx hb dX4_table_131 (by decide) ?_
            have hP9 := hP.sub (ws' := [(mo, .inr (4, [.int 2, .ref a1, .ref a2, .ref a3, .ref a4, .ref a5, .ref a6, .ref a7, .ref a8, .int (nI np), .ref a10, .ref a11, .int (nI kc), .double kr, .int fd])), (a1, .inl (cI, 4, .inl (cnt nr))), (a2, .inl (cD, 48, .inr (.inr (.inr (.inl (flat 12 T2)))))), (a3, .inl (cD, 48, .inr (.inr (.inr (.inl (flat 12 R2))))))]) [0, 1, 2, 3] rfl
            have hD9 := hD.sub (ws' := [(mo, .inr (4, [.int 2, .ref a1, .ref a2, .ref a3, .ref a4, .ref a5, .ref a6, .ref a7, .ref a8, .int (nI np), .ref a10, .ref a11, .int (nI kc), .double kr, .int fd])), (a1, .inl (cI, 4, .inl (cnt nr))), (a2, .inl (cD, 48, .inr (.inr (.inr (.inl (flat 12 T2)))))), (a3, .inl (cD, 48, .inr (.inr (.inr (.inl (flat 12 R2))))))]) [0, 1, 2, 3] (by decide) rfl
            exact W.iret hx hb hr (fun t9s hht hW9 => ⟨⟨0, (2, (nr, T2, R2)), rfl, ⟨(by show (2 : Nat) = _; unfold cTab; (repeat' split) <;> omega), fun z => absurd z (by simp), (if_neg (show ¬ (2 : Nat) = 0 by decide)).symm⟩, ⟨by rw [hht]; exact hP9, hD9⟩⟩, hS.F hht⟩) hS.2.2 dX4_table_132
      · have c_50 := (b01n hw_47_k_82).mp c_50
        refine lv_dload hx hb dX4_table_53 (lv_at hl 4 rfl) ?_
        refine lv_ldc2d (v := 4593671619917905920) hx hb hown (hts (.constantDouble RX4 51 (4593671619917905920)) (by decide +kernel)) dX4_table_55 ?_
        refine lv_ldc2d (v := 4666723172467343360) hx hb hown (hts (.constantDouble RX4 59 (4666723172467343360)) (by decide +kernel)) dX4_table_58 ?_
        refine va_calli (va_runS (As := [.double rr, .double 4593671619917905920, .double 4666723172467343360]) (rest := []) ⟨hx, hb, hml, hown, hts⟩ (m_X4_isIn l rr 4593671619917905920 4666723172467343360 (hrr.nn (by omega)) ((by unfold dB; decide +kernel : dB 1021 4593671619917905920).nn (by omega)) ((by unfold dB; decide +kernel : dB 1037 4666723172467343360).nn (by omega))) (va_cwS 3 hts gX4_table_X4_isIn rfl rfl rfl (by decide +kernel) ⟨(Nat.le_of_ble_eq_true rfl), (Nat.le_of_ble_eq_true rfl)⟩) ⟨fun a U g mk q => q, fun U9 hU9 hW9 => ⟨rfl, trivial⟩⟩ rfl rfl hl.1 rfl (lv_room (Nat.le_of_ble_eq_true rfl)) dX4_table_61 ⟨(Nat.le_of_ble_eq_true rfl), (Nat.le_of_ble_eq_true rfl)⟩) hS (fun q _ h => h.elim) (fun q h => h.elim) (fun r_85 u9s t9s H1 locs hht hvm9 hw_61_k_84 hB hz1 hk1 hS => ?_)
        have hP := va_still hP hk1
        generalize H1 = H at hP hS ⊢
        refine lv_if_eq (tgt := 92) hx hb dX4_table_64 (by decide) (fun c_64 => ?_) (fun c_64 => ?_)
        · have c_64 := (b01 hw_61_k_84).mp c_64
          refine lv_iconst (v := 0) hx hb dX4_table_92 (by decide) ?_
          refine lv_istore (lv' := [(7, .int 0), (6, .int (nI (12 * j + nr j) - 1)), (0, .ref mo), (1, .int (nI j)), (2, .double t), (4, .double rr)]) hx hb dX4_table_93 hl (by decide) rfl (fun ls hl => ?_)
          refine lv_aload_n hx hb dX4_table_95 rfl (lv_at hl 2 rfl) ?_
          refine lv_iload hx hb dX4_table_96 (lv_at hl 0 rfl) ?_
          refine lv_if_ne (tgt := 105) hx hb dX4_table_98 (by decide) (fun c_98 => ?_) (fun c_98 => ?_)
          · exact absurd c_98 (by decide)
          · refine lv_iconst (v := 2) hx hb dX4_table_101 (by decide) ?_
            refine lv_goto (tgt := 121) hx hb dX4_table_102 (by decide) ?_
            refine va_put (D := (dC, dI)) (ci := 4) (v := .int 2) (ty := .int) (C := RX4) (T := TX4) (N := 15) hx hb hts (by decide +kernel) tyX4 tyX4_ok nmX4 hown hK hP hD hS 0 rfl rfl 0 (by decide) (hts (.fieldLink RX4 43 "SteamBendsModel" "code" "I") (by decide +kernel)) (fun _ h9 => h9) rfl (by decide +kernel) rfl rfl (Nat.le_of_ble_eq_true rfl) dX4_table_121 (fun H locs hP hD hS => ?_)
            have hP : va_P (dC, dI) vwCl [(mo, .inr (4, [.int 2, .ref a1, .ref a2, .ref a3, .ref a4, .ref a5, .ref a6, .ref a7, .ref a8, .int (nI np), .ref a10, .ref a11, .int (nI kc), .double kr, .int fd])), (a1, .inl (cI, 4, .inl (cnt nr))), (a2, .inl (cD, 48, .inr (.inr (.inr (.inl (flat 12 T2)))))), (a3, .inl (cD, 48, .inr (.inr (.inr (.inl (flat 12 R2))))))] H := hP
            have hD : va_D A [(mo, .inr (4, [.int 2, .ref a1, .ref a2, .ref a3, .ref a4, .ref a5, .ref a6, .ref a7, .ref a8, .int (nI np), .ref a10, .ref a11, .int (nI kc), .double kr, .int fd])), (a1, .inl (cI, 4, .inl (cnt nr))), (a2, .inl (cD, 48, .inr (.inr (.inr (.inl (flat 12 T2)))))), (a3, .inl (cD, 48, .inr (.inr (.inr (.inl (flat 12 R2))))))] := hD
            refine lv_aload_n hx hb dX4_table_124 rfl (lv_at hl 2 rfl) ?_
            refine va_get (D := (dC, dI)) (ci := 4) (v := .int 2) (C := RX4) (T := TX4) (N := 15) hx hb hts (by decide +kernel) hown hK hP 0 rfl rfl 0 (by decide) (hts (.fieldLink RX4 43 "SteamBendsModel" "code" "I") (by decide +kernel)) (fun _ h9 => h9) rfl dX4_table_125 ?_
            refine lv_if_le (tgt := 133) hx hb dX4_table_128 (by decide) (fun c_128 => ?_) (fun c_128 => ?_)
            · exact absurd c_128 (by decide)
            · refine lv_iconst (v := 0) hx hb dX4_table_131 (by decide) ?_
              have hP9 := hP.sub (ws' := [(mo, .inr (4, [.int 2, .ref a1, .ref a2, .ref a3, .ref a4, .ref a5, .ref a6, .ref a7, .ref a8, .int (nI np), .ref a10, .ref a11, .int (nI kc), .double kr, .int fd])), (a1, .inl (cI, 4, .inl (cnt nr))), (a2, .inl (cD, 48, .inr (.inr (.inr (.inl (flat 12 T2)))))), (a3, .inl (cD, 48, .inr (.inr (.inr (.inl (flat 12 R2))))))]) [0, 1, 2, 3] rfl
              have hD9 := hD.sub (ws' := [(mo, .inr (4, [.int 2, .ref a1, .ref a2, .ref a3, .ref a4, .ref a5, .ref a6, .ref a7, .ref a8, .int (nI np), .ref a10, .ref a11, .int (nI kc), .double kr, .int fd])), (a1, .inl (cI, 4, .inl (cnt nr))), (a2, .inl (cD, 48, .inr (.inr (.inr (.inl (flat 12 T2)))))), (a3, .inl (cD, 48, .inr (.inr (.inr (.inl (flat 12 R2))))))]) [0, 1, 2, 3] (by decide) rfl
              exact W.iret hx hb hr (fun t9s hht hW9 => ⟨⟨0, (2, (nr, T2, R2)), rfl, ⟨(by show (2 : Nat) = _; unfold cTab; (repeat' split) <;> omega), fun z => absurd z (by simp), (if_neg (show ¬ (2 : Nat) = 0 by decide)).symm⟩, ⟨by rw [hht]; exact hP9, hD9⟩⟩, hS.F hht⟩) hS.2.2 dX4_table_132
        · have c_64 := (b01n hw_61_k_84).mp c_64
          refine lv_aload_n hx hb dX4_table_67 rfl (lv_at hl 1 rfl) ?_
          refine va_get (D := (dC, dI)) (ci := 4) (v := .ref a1) (C := RX4) (T := TX4) (N := 15) hx hb hts (by decide +kernel) hown hK hP 0 rfl rfl 1 (by decide) (hts (.fieldLink RX4 7 "SteamBendsModel" "rows" "[I") (by decide +kernel)) (fun _ h9 => h9) rfl dX4_table_68 ?_
          refine lv_iload_n hx hb dX4_table_71 rfl (lv_at hl 2 rfl) ?_
          refine va_ialdV hx hb hK hP 1 0 rfl rfl (j := j) (v := nI (nr j)) rfl (by omega) (by omega) dX4_table_72 ?_
          refine lv_if_eq (tgt := 88) hx hb dX4_table_73 (by decide) (fun c_73 => ?_) (fun c_73 => ?_)
          · have c_73 := (nI_eq (a := nr j) (b := 0) (by omega) (by omega)).mp c_73
            refine lv_iconst (v := 1) hx hb dX4_table_88 (by decide) ?_
            refine lv_goto (tgt := 93) hx hb dX4_table_89 (by decide) ?_
            refine lv_istore (lv' := [(7, .int 1), (6, .int (nI (12 * j + nr j) - 1)), (0, .ref mo), (1, .int (nI j)), (2, .double t), (4, .double rr)]) hx hb dX4_table_93 hl (by decide) rfl (fun ls hl => ?_)
            refine lv_aload_n hx hb dX4_table_95 rfl (lv_at hl 2 rfl) ?_
            refine lv_iload hx hb dX4_table_96 (lv_at hl 0 rfl) ?_
            refine lv_if_ne (tgt := 105) hx hb dX4_table_98 (by decide) (fun c_98 => ?_) (fun c_98 => ?_)
            · refine lv_aload_n hx hb dX4_table_105 rfl (lv_at hl 2 rfl) ?_
              refine va_get (D := (dC, dI)) (ci := 4) (v := .ref a1) (C := RX4) (T := TX4) (N := 15) hx hb hts (by decide +kernel) hown hK hP 0 rfl rfl 1 (by decide) (hts (.fieldLink RX4 7 "SteamBendsModel" "rows" "[I") (by decide +kernel)) (fun _ h9 => h9) rfl dX4_table_106 ?_
              refine lv_iload_n hx hb dX4_table_109 rfl (lv_at hl 3 rfl) ?_
              refine va_ialdV hx hb hK hP 1 0 rfl rfl (j := j) (v := nI (nr j)) rfl (by omega) (by omega) dX4_table_110 ?_
              refine lv_bipush (v := 12) hx hb dX4_table_111 (by decide) ?_
              refine lv_icmp_ne (tgt := 120) hx hb dX4_table_113 (by decide) (fun c_113 => ?_) (fun c_113 => ?_)
              · have c_113 := mt (nI_eq (a := nr j) (b := 12) (by omega) (by omega)).mpr c_113
                refine lv_iconst (v := 0) hx hb dX4_table_120 (by decide) ?_
                refine va_put (D := (dC, dI)) (ci := 4) (v := .int 0) (ty := .int) (C := RX4) (T := TX4) (N := 15) hx hb hts (by decide +kernel) tyX4 tyX4_ok nmX4 hown hK hP hD hS 0 rfl rfl 0 (by decide) (hts (.fieldLink RX4 43 "SteamBendsModel" "code" "I") (by decide +kernel)) (fun _ h9 => h9) rfl (by decide +kernel) rfl rfl (Nat.le_of_ble_eq_true rfl) dX4_table_121 (fun H locs hP hD hS => ?_)
                have hP : va_P (dC, dI) vwCl [(mo, .inr (4, [.int 0, .ref a1, .ref a2, .ref a3, .ref a4, .ref a5, .ref a6, .ref a7, .ref a8, .int (nI np), .ref a10, .ref a11, .int (nI kc), .double kr, .int fd])), (a1, .inl (cI, 4, .inl (cnt nr))), (a2, .inl (cD, 48, .inr (.inr (.inr (.inl (flat 12 T2)))))), (a3, .inl (cD, 48, .inr (.inr (.inr (.inl (flat 12 R2))))))] H := hP
                have hD : va_D A [(mo, .inr (4, [.int 0, .ref a1, .ref a2, .ref a3, .ref a4, .ref a5, .ref a6, .ref a7, .ref a8, .int (nI np), .ref a10, .ref a11, .int (nI kc), .double kr, .int fd])), (a1, .inl (cI, 4, .inl (cnt nr))), (a2, .inl (cD, 48, .inr (.inr (.inr (.inl (flat 12 T2)))))), (a3, .inl (cD, 48, .inr (.inr (.inr (.inl (flat 12 R2))))))] := hD
                refine lv_aload_n hx hb dX4_table_124 rfl (lv_at hl 2 rfl) ?_
                refine va_get (D := (dC, dI)) (ci := 4) (v := .int 0) (C := RX4) (T := TX4) (N := 15) hx hb hts (by decide +kernel) hown hK hP 0 rfl rfl 0 (by decide) (hts (.fieldLink RX4 43 "SteamBendsModel" "code" "I") (by decide +kernel)) (fun _ h9 => h9) rfl dX4_table_125 ?_
                refine lv_if_le (tgt := 133) hx hb dX4_table_128 (by decide) (fun c_128 => ?_) (fun c_128 => ?_)
                · refine lv_aload_n hx hb dX4_table_133 rfl (lv_at hl 2 rfl) ?_
                  refine va_get (D := (dC, dI)) (ci := 4) (v := .ref a2) (C := RX4) (T := TX4) (N := 15) hx hb hts (by decide +kernel) hown hK hP 0 rfl rfl 2 (by decide) (hts (.fieldLink RX4 13 "SteamBendsModel" "thicks" "[D") (by decide +kernel)) (fun _ h9 => h9) rfl dX4_table_134 ?_
                  refine lv_iload hx hb dX4_table_137 (lv_at hl 1 rfl) ?_
                  refine lv_iconst (v := 1) hx hb dX4_table_139 (by decide) ?_
                  refine lv_iadd hx hb dX4_table_140 ?_
                  refine W.eq (g2 := F0 m 141 ls (.int (nI (12 * j + nr j)) :: [.ref a2])) (by rw [show (nI (12 * j + nr j) - 1) + 1 = nI (12 * j + nr j) from nI_back _]) ?_
                  refine lv_dload_n hx hb dX4_table_141 rfl (lv_at hl 4 rfl) ?_
                  refine va_dastN hx hb hK hP hD hS 2 1 rfl rfl (j := 12 * j + nr j) (by omega) (by omega) dX4_table_142 (fun H locs hP hD hS => ?_)
                  rw [flat_upd (k := j) (j := nr j) rfl (by omega)] at hP hD
                  have hP : va_P (dC, dI) vwCl [(mo, .inr (4, [.int 0, .ref a1, .ref a2, .ref a3, .ref a4, .ref a5, .ref a6, .ref a7, .ref a8, .int (nI np), .ref a10, .ref a11, .int (nI kc), .double kr, .int fd])), (a1, .inl (cI, 4, .inl (cnt nr))), (a2, .inl (cD, 48, .inr (.inr (.inr (.inl (flat 12 (up2 T2 j (nr j) t))))))), (a3, .inl (cD, 48, .inr (.inr (.inr (.inl (flat 12 R2))))))] H := hP
                  have hD : va_D A [(mo, .inr (4, [.int 0, .ref a1, .ref a2, .ref a3, .ref a4, .ref a5, .ref a6, .ref a7, .ref a8, .int (nI np), .ref a10, .ref a11, .int (nI kc), .double kr, .int fd])), (a1, .inl (cI, 4, .inl (cnt nr))), (a2, .inl (cD, 48, .inr (.inr (.inr (.inl (flat 12 (up2 T2 j (nr j) t))))))), (a3, .inl (cD, 48, .inr (.inr (.inr (.inl (flat 12 R2))))))] := hD
                  refine lv_aload_n hx hb dX4_table_143 rfl (lv_at hl 2 rfl) ?_
                  refine va_get (D := (dC, dI)) (ci := 4) (v := .ref a3) (C := RX4) (T := TX4) (N := 15) hx hb hts (by decide +kernel) hown hK hP 0 rfl rfl 3 (by decide) (hts (.fieldLink RX4 17 "SteamBendsModel" "radii" "[D") (by decide +kernel)) (fun _ h9 => h9) rfl dX4_table_144 ?_
                  refine lv_iload hx hb dX4_table_147 (lv_at hl 1 rfl) ?_
                  refine lv_iconst (v := 1) hx hb dX4_table_149 (by decide) ?_
                  refine lv_iadd hx hb dX4_table_150 ?_
                  refine W.eq (g2 := F0 m 151 ls (.int (nI (12 * j + nr j)) :: [.ref a3])) (by rw [show (nI (12 * j + nr j) - 1) + 1 = nI (12 * j + nr j) from nI_back _]) ?_
                  refine lv_dload hx hb dX4_table_151 (lv_at hl 5 rfl) ?_
                  refine va_dastN hx hb hK hP hD hS 3 1 rfl rfl (j := 12 * j + nr j) (by omega) (by omega) dX4_table_153 (fun H locs hP hD hS => ?_)
                  rw [flat_upd (k := j) (j := nr j) rfl (by omega)] at hP hD
                  have hP : va_P (dC, dI) vwCl [(mo, .inr (4, [.int 0, .ref a1, .ref a2, .ref a3, .ref a4, .ref a5, .ref a6, .ref a7, .ref a8, .int (nI np), .ref a10, .ref a11, .int (nI kc), .double kr, .int fd])), (a1, .inl (cI, 4, .inl (cnt nr))), (a2, .inl (cD, 48, .inr (.inr (.inr (.inl (flat 12 (up2 T2 j (nr j) t))))))), (a3, .inl (cD, 48, .inr (.inr (.inr (.inl (flat 12 (up2 R2 j (nr j) rr)))))))] H := hP
                  have hD : va_D A [(mo, .inr (4, [.int 0, .ref a1, .ref a2, .ref a3, .ref a4, .ref a5, .ref a6, .ref a7, .ref a8, .int (nI np), .ref a10, .ref a11, .int (nI kc), .double kr, .int fd])), (a1, .inl (cI, 4, .inl (cnt nr))), (a2, .inl (cD, 48, .inr (.inr (.inr (.inl (flat 12 (up2 T2 j (nr j) t))))))), (a3, .inl (cD, 48, .inr (.inr (.inr (.inl (flat 12 (up2 R2 j (nr j) rr)))))))] := hD
                  refine lv_aload_n hx hb dX4_table_154 rfl (lv_at hl 2 rfl) ?_
                  refine va_get (D := (dC, dI)) (ci := 4) (v := .ref a1) (C := RX4) (T := TX4) (N := 15) hx hb hts (by decide +kernel) hown hK hP 0 rfl rfl 1 (by decide) (hts (.fieldLink RX4 7 "SteamBendsModel" "rows" "[I") (by decide +kernel)) (fun _ h9 => h9) rfl dX4_table_155 ?_
                  refine lv_iload_n hx hb dX4_table_158 rfl (lv_at hl 3 rfl) ?_
                  refine lv_dup2_11 hx hb dX4_table_159 rfl rfl ?_
                  refine va_ialdV hx hb hK hP 1 0 rfl rfl (j := j) (v := nI (nr j)) rfl (by omega) (by omega) dX4_table_160 ?_
                  refine lv_iconst (v := 1) hx hb dX4_table_161 (by decide) ?_
                  refine lv_iaddN (x := nr j) (y := 1) hx hb dX4_table_162 ?_
                  refine va_iastN hx hb hK hP hD hS 1 0 rfl rfl (j := j) (by omega) (by omega) dX4_table_163 (fun H locs hP hD hS => ?_)
                  rw [cnt_upd] at hP hD
                  have hP : va_P (dC, dI) vwCl [(mo, .inr (4, [.int 0, .ref a1, .ref a2, .ref a3, .ref a4, .ref a5, .ref a6, .ref a7, .ref a8, .int (nI np), .ref a10, .ref a11, .int (nI kc), .double kr, .int fd])), (a1, .inl (cI, 4, .inl (cnt (vf_upd nr j ((nr j) + 1))))), (a2, .inl (cD, 48, .inr (.inr (.inr (.inl (flat 12 (up2 T2 j (nr j) t))))))), (a3, .inl (cD, 48, .inr (.inr (.inr (.inl (flat 12 (up2 R2 j (nr j) rr)))))))] H := hP
                  have hD : va_D A [(mo, .inr (4, [.int 0, .ref a1, .ref a2, .ref a3, .ref a4, .ref a5, .ref a6, .ref a7, .ref a8, .int (nI np), .ref a10, .ref a11, .int (nI kc), .double kr, .int fd])), (a1, .inl (cI, 4, .inl (cnt (vf_upd nr j ((nr j) + 1))))), (a2, .inl (cD, 48, .inr (.inr (.inr (.inl (flat 12 (up2 T2 j (nr j) t))))))), (a3, .inl (cD, 48, .inr (.inr (.inr (.inl (flat 12 (up2 R2 j (nr j) rr)))))))] := hD
                  refine lv_aload_n hx hb dX4_table_164 rfl (lv_at hl 2 rfl) ?_
                  refine va_get (D := (dC, dI)) (ci := 4) (v := .ref a1) (C := RX4) (T := TX4) (N := 15) hx hb hts (by decide +kernel) hown hK hP 0 rfl rfl 1 (by decide) (hts (.fieldLink RX4 7 "SteamBendsModel" "rows" "[I") (by decide +kernel)) (fun _ h9 => h9) rfl dX4_table_165 ?_
                  refine lv_iload_n hx hb dX4_table_168 rfl (lv_at hl 3 rfl) ?_
                  refine va_ialdV hx hb hK hP 1 0 rfl rfl (j := j) (v := nI ((nr j) + 1)) (by show nI ((vf_upd nr j ((nr j) + 1)) j) = _; rw [vf_at]) (by omega) (by omega) dX4_table_169 ?_
                  have hP9 := hP.sub (ws' := [(mo, .inr (4, [.int 0, .ref a1, .ref a2, .ref a3, .ref a4, .ref a5, .ref a6, .ref a7, .ref a8, .int (nI np), .ref a10, .ref a11, .int (nI kc), .double kr, .int fd])), (a1, .inl (cI, 4, .inl (cnt (vf_upd nr j ((nr j) + 1))))), (a2, .inl (cD, 48, .inr (.inr (.inr (.inl (flat 12 (up2 T2 j (nr j) t))))))), (a3, .inl (cD, 48, .inr (.inr (.inr (.inl (flat 12 (up2 R2 j (nr j) rr)))))))]) [0, 1, 2, 3] rfl
                  have hD9 := hD.sub (ws' := [(mo, .inr (4, [.int 0, .ref a1, .ref a2, .ref a3, .ref a4, .ref a5, .ref a6, .ref a7, .ref a8, .int (nI np), .ref a10, .ref a11, .int (nI kc), .double kr, .int fd])), (a1, .inl (cI, 4, .inl (cnt (vf_upd nr j ((nr j) + 1))))), (a2, .inl (cD, 48, .inr (.inr (.inr (.inl (flat 12 (up2 T2 j (nr j) t))))))), (a3, .inl (cD, 48, .inr (.inr (.inr (.inl (flat 12 (up2 R2 j (nr j) rr)))))))]) [0, 1, 2, 3] (by decide) rfl
                  exact W.iret hx hb hr (fun t9s hht hW9 => ⟨⟨nI ((nr j) + 1), (0, (vf_upd nr j (nr j + 1), up2 T2 j (nr j) t, up2 R2 j (nr j) rr)), rfl, ⟨(by show (0 : Nat) = _; unfold cTab; (repeat' split) <;> omega), fun _ => rfl, (if_pos rfl).symm⟩, ⟨by rw [hht]; exact hP9, hD9⟩⟩, hS.F hht⟩) hS.2.2 dX4_table_170
                · exact absurd c_128 (by decide)
              · have c_113 := (nI_eq (a := nr j) (b := 12) (by omega) (by omega)).mp c_113
                refine lv_iconst (v := 3) hx hb dX4_table_116 (by decide) ?_
                refine lv_goto (tgt := 121) hx hb dX4_table_117 (by decide) ?_
                refine va_put (D := (dC, dI)) (ci := 4) (v := .int 3) (ty := .int) (C := RX4) (T := TX4) (N := 15) hx hb hts (by decide +kernel) tyX4 tyX4_ok nmX4 hown hK hP hD hS 0 rfl rfl 0 (by decide) (hts (.fieldLink RX4 43 "SteamBendsModel" "code" "I") (by decide +kernel)) (fun _ h9 => h9) rfl (by decide +kernel) rfl rfl (Nat.le_of_ble_eq_true rfl) dX4_table_121 (fun H locs hP hD hS => ?_)
                have hP : va_P (dC, dI) vwCl [(mo, .inr (4, [.int 3, .ref a1, .ref a2, .ref a3, .ref a4, .ref a5, .ref a6, .ref a7, .ref a8, .int (nI np), .ref a10, .ref a11, .int (nI kc), .double kr, .int fd])), (a1, .inl (cI, 4, .inl (cnt nr))), (a2, .inl (cD, 48, .inr (.inr (.inr (.inl (flat 12 T2)))))), (a3, .inl (cD, 48, .inr (.inr (.inr (.inl (flat 12 R2))))))] H := hP
                have hD : va_D A [(mo, .inr (4, [.int 3, .ref a1, .ref a2, .ref a3, .ref a4, .ref a5, .ref a6, .ref a7, .ref a8, .int (nI np), .ref a10, .ref a11, .int (nI kc), .double kr, .int fd])), (a1, .inl (cI, 4, .inl (cnt nr))), (a2, .inl (cD, 48, .inr (.inr (.inr (.inl (flat 12 T2)))))), (a3, .inl (cD, 48, .inr (.inr (.inr (.inl (flat 12 R2))))))] := hD
                refine lv_aload_n hx hb dX4_table_124 rfl (lv_at hl 2 rfl) ?_
                refine va_get (D := (dC, dI)) (ci := 4) (v := .int 3) (C := RX4) (T := TX4) (N := 15) hx hb hts (by decide +kernel) hown hK hP 0 rfl rfl 0 (by decide) (hts (.fieldLink RX4 43 "SteamBendsModel" "code" "I") (by decide +kernel)) (fun _ h9 => h9) rfl dX4_table_125 ?_
                refine lv_if_le (tgt := 133) hx hb dX4_table_128 (by decide) (fun c_128 => ?_) (fun c_128 => ?_)
                · exact absurd c_128 (by decide)
                · refine lv_iconst (v := 0) hx hb dX4_table_131 (by decide) ?_
                  have hP9 := hP.sub (ws' := [(mo, .inr (4, [.int 3, .ref a1, .ref a2, .ref a3, .ref a4, .ref a5, .ref a6, .ref a7, .ref a8, .int (nI np), .ref a10, .ref a11, .int (nI kc), .double kr, .int fd])), (a1, .inl (cI, 4, .inl (cnt nr))), (a2, .inl (cD, 48, .inr (.inr (.inr (.inl (flat 12 T2)))))), (a3, .inl (cD, 48, .inr (.inr (.inr (.inl (flat 12 R2))))))]) [0, 1, 2, 3] rfl
                  have hD9 := hD.sub (ws' := [(mo, .inr (4, [.int 3, .ref a1, .ref a2, .ref a3, .ref a4, .ref a5, .ref a6, .ref a7, .ref a8, .int (nI np), .ref a10, .ref a11, .int (nI kc), .double kr, .int fd])), (a1, .inl (cI, 4, .inl (cnt nr))), (a2, .inl (cD, 48, .inr (.inr (.inr (.inl (flat 12 T2)))))), (a3, .inl (cD, 48, .inr (.inr (.inr (.inl (flat 12 R2))))))]) [0, 1, 2, 3] (by decide) rfl
                  exact W.iret hx hb hr (fun t9s hht hW9 => ⟨⟨0, (3, (nr, T2, R2)), rfl, ⟨(by show (3 : Nat) = _; unfold cTab; (repeat' split) <;> omega), fun z => absurd z (by simp), (if_neg (show ¬ (3 : Nat) = 0 by decide)).symm⟩, ⟨by rw [hht]; exact hP9, hD9⟩⟩, hS.F hht⟩) hS.2.2 dX4_table_132
            · exact absurd c_98 (by decide)
          · have c_73 := mt (nI_eq (a := nr j) (b := 0) (by omega) (by omega)).mpr c_73
            refine lv_dload_n hx hb dX4_table_76 rfl (lv_at hl 3 rfl) ?_
            refine lv_aload_n hx hb dX4_table_77 rfl (lv_at hl 1 rfl) ?_
            refine va_get (D := (dC, dI)) (ci := 4) (v := .ref a2) (C := RX4) (T := TX4) (N := 15) hx hb hts (by decide +kernel) hown hK hP 0 rfl rfl 2 (by decide) (hts (.fieldLink RX4 13 "SteamBendsModel" "thicks" "[D") (by decide +kernel)) (fun _ h9 => h9) rfl dX4_table_78 ?_
            refine lv_iload hx hb dX4_table_81 (lv_at hl 0 rfl) ?_
            refine W.eq (g2 := F0 m 83 ls (.int (nI (12 * j + (nr j - 1))) :: [.ref a2, .double t])) (by rw [show nI (12 * j + nr j) - 1 = nI (12 * j + (nr j - 1)) from by rw [show (1 : Int32) = nI 1 from rfl, pk_sub (by omega), show 12 * j + nr j - 1 = 12 * j + (nr j - 1) by omega]]) ?_
            refine va_daldV hx hb hK hP 2 1 rfl rfl (j := 12 * j + (nr j - 1)) (v := T2 j (nr j - 1)) (flat_at (k := j) (j := (nr j - 1)) rfl (by omega)) (by omega) (by omega) dX4_table_83 ?_
            refine lv_dcmp hx hb dX4_table_84 ?_
            refine lv_if_le (tgt := 92) hx hb dX4_table_85 (by decide) (fun c_85 => ?_) (fun c_85 => ?_)
            · have c_85 := (cv_le (ht.nn (by omega)) ((hrow.T (i := (nr j - 1)) (by omega)).nn (by omega))).mp c_85
              refine lv_iconst (v := 0) hx hb dX4_table_92 (by decide) ?_
              refine lv_istore (lv' := [(7, .int 0), (6, .int (nI (12 * j + nr j) - 1)), (0, .ref mo), (1, .int (nI j)), (2, .double t), (4, .double rr)]) hx hb dX4_table_93 hl (by decide) rfl (fun ls hl => ?_)
              refine lv_aload_n hx hb dX4_table_95 rfl (lv_at hl 2 rfl) ?_
              refine lv_iload hx hb dX4_table_96 (lv_at hl 0 rfl) ?_
              refine lv_if_ne (tgt := 105) hx hb dX4_table_98 (by decide) (fun c_98 => ?_) (fun c_98 => ?_)
              · exact absurd c_98 (by decide)
              · refine lv_iconst (v := 2) hx hb dX4_table_101 (by decide) ?_
                refine lv_goto (tgt := 121) hx hb dX4_table_102 (by decide) ?_
                refine va_put (D := (dC, dI)) (ci := 4) (v := .int 2) (ty := .int) (C := RX4) (T := TX4) (N := 15) hx hb hts (by decide +kernel) tyX4 tyX4_ok nmX4 hown hK hP hD hS 0 rfl rfl 0 (by decide) (hts (.fieldLink RX4 43 "SteamBendsModel" "code" "I") (by decide +kernel)) (fun _ h9 => h9) rfl (by decide +kernel) rfl rfl (Nat.le_of_ble_eq_true rfl) dX4_table_121 (fun H locs hP hD hS => ?_)
                have hP : va_P (dC, dI) vwCl [(mo, .inr (4, [.int 2, .ref a1, .ref a2, .ref a3, .ref a4, .ref a5, .ref a6, .ref a7, .ref a8, .int (nI np), .ref a10, .ref a11, .int (nI kc), .double kr, .int fd])), (a1, .inl (cI, 4, .inl (cnt nr))), (a2, .inl (cD, 48, .inr (.inr (.inr (.inl (flat 12 T2)))))), (a3, .inl (cD, 48, .inr (.inr (.inr (.inl (flat 12 R2))))))] H := hP
                have hD : va_D A [(mo, .inr (4, [.int 2, .ref a1, .ref a2, .ref a3, .ref a4, .ref a5, .ref a6, .ref a7, .ref a8, .int (nI np), .ref a10, .ref a11, .int (nI kc), .double kr, .int fd])), (a1, .inl (cI, 4, .inl (cnt nr))), (a2, .inl (cD, 48, .inr (.inr (.inr (.inl (flat 12 T2)))))), (a3, .inl (cD, 48, .inr (.inr (.inr (.inl (flat 12 R2))))))] := hD
                refine lv_aload_n hx hb dX4_table_124 rfl (lv_at hl 2 rfl) ?_
                refine va_get (D := (dC, dI)) (ci := 4) (v := .int 2) (C := RX4) (T := TX4) (N := 15) hx hb hts (by decide +kernel) hown hK hP 0 rfl rfl 0 (by decide) (hts (.fieldLink RX4 43 "SteamBendsModel" "code" "I") (by decide +kernel)) (fun _ h9 => h9) rfl dX4_table_125 ?_
                refine lv_if_le (tgt := 133) hx hb dX4_table_128 (by decide) (fun c_128 => ?_) (fun c_128 => ?_)
                · exact absurd c_128 (by decide)
                · refine lv_iconst (v := 0) hx hb dX4_table_131 (by decide) ?_
                  have hP9 := hP.sub (ws' := [(mo, .inr (4, [.int 2, .ref a1, .ref a2, .ref a3, .ref a4, .ref a5, .ref a6, .ref a7, .ref a8, .int (nI np), .ref a10, .ref a11, .int (nI kc), .double kr, .int fd])), (a1, .inl (cI, 4, .inl (cnt nr))), (a2, .inl (cD, 48, .inr (.inr (.inr (.inl (flat 12 T2)))))), (a3, .inl (cD, 48, .inr (.inr (.inr (.inl (flat 12 R2))))))]) [0, 1, 2, 3] rfl
                  have hD9 := hD.sub (ws' := [(mo, .inr (4, [.int 2, .ref a1, .ref a2, .ref a3, .ref a4, .ref a5, .ref a6, .ref a7, .ref a8, .int (nI np), .ref a10, .ref a11, .int (nI kc), .double kr, .int fd])), (a1, .inl (cI, 4, .inl (cnt nr))), (a2, .inl (cD, 48, .inr (.inr (.inr (.inl (flat 12 T2)))))), (a3, .inl (cD, 48, .inr (.inr (.inr (.inl (flat 12 R2))))))]) [0, 1, 2, 3] (by decide) rfl
                  exact W.iret hx hb hr (fun t9s hht hW9 => ⟨⟨0, (2, (nr, T2, R2)), rfl, ⟨(by show (2 : Nat) = _; unfold cTab; (repeat' split) <;> omega), fun z => absurd z (by simp), (if_neg (show ¬ (2 : Nat) = 0 by decide)).symm⟩, ⟨by rw [hht]; exact hP9, hD9⟩⟩, hS.F hht⟩) hS.2.2 dX4_table_132
            · have c_85 := mt (cv_le (ht.nn (by omega)) ((hrow.T (i := (nr j - 1)) (by omega)).nn (by omega))).mpr c_85
              refine lv_iconst (v := 1) hx hb dX4_table_88 (by decide) ?_
              refine lv_goto (tgt := 93) hx hb dX4_table_89 (by decide) ?_
              refine lv_istore (lv' := [(7, .int 1), (6, .int (nI (12 * j + nr j) - 1)), (0, .ref mo), (1, .int (nI j)), (2, .double t), (4, .double rr)]) hx hb dX4_table_93 hl (by decide) rfl (fun ls hl => ?_)
              refine lv_aload_n hx hb dX4_table_95 rfl (lv_at hl 2 rfl) ?_
              refine lv_iload hx hb dX4_table_96 (lv_at hl 0 rfl) ?_
              refine lv_if_ne (tgt := 105) hx hb dX4_table_98 (by decide) (fun c_98 => ?_) (fun c_98 => ?_)
              · refine lv_aload_n hx hb dX4_table_105 rfl (lv_at hl 2 rfl) ?_
                refine va_get (D := (dC, dI)) (ci := 4) (v := .ref a1) (C := RX4) (T := TX4) (N := 15) hx hb hts (by decide +kernel) hown hK hP 0 rfl rfl 1 (by decide) (hts (.fieldLink RX4 7 "SteamBendsModel" "rows" "[I") (by decide +kernel)) (fun _ h9 => h9) rfl dX4_table_106 ?_
                refine lv_iload_n hx hb dX4_table_109 rfl (lv_at hl 3 rfl) ?_
                refine va_ialdV hx hb hK hP 1 0 rfl rfl (j := j) (v := nI (nr j)) rfl (by omega) (by omega) dX4_table_110 ?_
                refine lv_bipush (v := 12) hx hb dX4_table_111 (by decide) ?_
                refine lv_icmp_ne (tgt := 120) hx hb dX4_table_113 (by decide) (fun c_113 => ?_) (fun c_113 => ?_)
                · have c_113 := mt (nI_eq (a := nr j) (b := 12) (by omega) (by omega)).mpr c_113
                  refine lv_iconst (v := 0) hx hb dX4_table_120 (by decide) ?_
                  refine va_put (D := (dC, dI)) (ci := 4) (v := .int 0) (ty := .int) (C := RX4) (T := TX4) (N := 15) hx hb hts (by decide +kernel) tyX4 tyX4_ok nmX4 hown hK hP hD hS 0 rfl rfl 0 (by decide) (hts (.fieldLink RX4 43 "SteamBendsModel" "code" "I") (by decide +kernel)) (fun _ h9 => h9) rfl (by decide +kernel) rfl rfl (Nat.le_of_ble_eq_true rfl) dX4_table_121 (fun H locs hP hD hS => ?_)
                  have hP : va_P (dC, dI) vwCl [(mo, .inr (4, [.int 0, .ref a1, .ref a2, .ref a3, .ref a4, .ref a5, .ref a6, .ref a7, .ref a8, .int (nI np), .ref a10, .ref a11, .int (nI kc), .double kr, .int fd])), (a1, .inl (cI, 4, .inl (cnt nr))), (a2, .inl (cD, 48, .inr (.inr (.inr (.inl (flat 12 T2)))))), (a3, .inl (cD, 48, .inr (.inr (.inr (.inl (flat 12 R2))))))] H := hP
                  have hD : va_D A [(mo, .inr (4, [.int 0, .ref a1, .ref a2, .ref a3, .ref a4, .ref a5, .ref a6, .ref a7, .ref a8, .int (nI np), .ref a10, .ref a11, .int (nI kc), .double kr, .int fd])), (a1, .inl (cI, 4, .inl (cnt nr))), (a2, .inl (cD, 48, .inr (.inr (.inr (.inl (flat 12 T2)))))), (a3, .inl (cD, 48, .inr (.inr (.inr (.inl (flat 12 R2))))))] := hD
                  refine lv_aload_n hx hb dX4_table_124 rfl (lv_at hl 2 rfl) ?_
                  refine va_get (D := (dC, dI)) (ci := 4) (v := .int 0) (C := RX4) (T := TX4) (N := 15) hx hb hts (by decide +kernel) hown hK hP 0 rfl rfl 0 (by decide) (hts (.fieldLink RX4 43 "SteamBendsModel" "code" "I") (by decide +kernel)) (fun _ h9 => h9) rfl dX4_table_125 ?_
                  refine lv_if_le (tgt := 133) hx hb dX4_table_128 (by decide) (fun c_128 => ?_) (fun c_128 => ?_)
                  · refine lv_aload_n hx hb dX4_table_133 rfl (lv_at hl 2 rfl) ?_
                    refine va_get (D := (dC, dI)) (ci := 4) (v := .ref a2) (C := RX4) (T := TX4) (N := 15) hx hb hts (by decide +kernel) hown hK hP 0 rfl rfl 2 (by decide) (hts (.fieldLink RX4 13 "SteamBendsModel" "thicks" "[D") (by decide +kernel)) (fun _ h9 => h9) rfl dX4_table_134 ?_
                    refine lv_iload hx hb dX4_table_137 (lv_at hl 1 rfl) ?_
                    refine lv_iconst (v := 1) hx hb dX4_table_139 (by decide) ?_
                    refine lv_iadd hx hb dX4_table_140 ?_
                    refine W.eq (g2 := F0 m 141 ls (.int (nI (12 * j + nr j)) :: [.ref a2])) (by rw [show (nI (12 * j + nr j) - 1) + 1 = nI (12 * j + nr j) from nI_back _]) ?_
                    refine lv_dload_n hx hb dX4_table_141 rfl (lv_at hl 4 rfl) ?_
                    refine va_dastN hx hb hK hP hD hS 2 1 rfl rfl (j := 12 * j + nr j) (by omega) (by omega) dX4_table_142 (fun H locs hP hD hS => ?_)
                    rw [flat_upd (k := j) (j := nr j) rfl (by omega)] at hP hD
                    have hP : va_P (dC, dI) vwCl [(mo, .inr (4, [.int 0, .ref a1, .ref a2, .ref a3, .ref a4, .ref a5, .ref a6, .ref a7, .ref a8, .int (nI np), .ref a10, .ref a11, .int (nI kc), .double kr, .int fd])), (a1, .inl (cI, 4, .inl (cnt nr))), (a2, .inl (cD, 48, .inr (.inr (.inr (.inl (flat 12 (up2 T2 j (nr j) t))))))), (a3, .inl (cD, 48, .inr (.inr (.inr (.inl (flat 12 R2))))))] H := hP
                    have hD : va_D A [(mo, .inr (4, [.int 0, .ref a1, .ref a2, .ref a3, .ref a4, .ref a5, .ref a6, .ref a7, .ref a8, .int (nI np), .ref a10, .ref a11, .int (nI kc), .double kr, .int fd])), (a1, .inl (cI, 4, .inl (cnt nr))), (a2, .inl (cD, 48, .inr (.inr (.inr (.inl (flat 12 (up2 T2 j (nr j) t))))))), (a3, .inl (cD, 48, .inr (.inr (.inr (.inl (flat 12 R2))))))] := hD
                    refine lv_aload_n hx hb dX4_table_143 rfl (lv_at hl 2 rfl) ?_
                    refine va_get (D := (dC, dI)) (ci := 4) (v := .ref a3) (C := RX4) (T := TX4) (N := 15) hx hb hts (by decide +kernel) hown hK hP 0 rfl rfl 3 (by decide) (hts (.fieldLink RX4 17 "SteamBendsModel" "radii" "[D") (by decide +kernel)) (fun _ h9 => h9) rfl dX4_table_144 ?_
                    refine lv_iload hx hb dX4_table_147 (lv_at hl 1 rfl) ?_
                    refine lv_iconst (v := 1) hx hb dX4_table_149 (by decide) ?_
                    refine lv_iadd hx hb dX4_table_150 ?_
                    refine W.eq (g2 := F0 m 151 ls (.int (nI (12 * j + nr j)) :: [.ref a3])) (by rw [show (nI (12 * j + nr j) - 1) + 1 = nI (12 * j + nr j) from nI_back _]) ?_
                    refine lv_dload hx hb dX4_table_151 (lv_at hl 5 rfl) ?_
                    refine va_dastN hx hb hK hP hD hS 3 1 rfl rfl (j := 12 * j + nr j) (by omega) (by omega) dX4_table_153 (fun H locs hP hD hS => ?_)
                    rw [flat_upd (k := j) (j := nr j) rfl (by omega)] at hP hD
                    have hP : va_P (dC, dI) vwCl [(mo, .inr (4, [.int 0, .ref a1, .ref a2, .ref a3, .ref a4, .ref a5, .ref a6, .ref a7, .ref a8, .int (nI np), .ref a10, .ref a11, .int (nI kc), .double kr, .int fd])), (a1, .inl (cI, 4, .inl (cnt nr))), (a2, .inl (cD, 48, .inr (.inr (.inr (.inl (flat 12 (up2 T2 j (nr j) t))))))), (a3, .inl (cD, 48, .inr (.inr (.inr (.inl (flat 12 (up2 R2 j (nr j) rr)))))))] H := hP
                    have hD : va_D A [(mo, .inr (4, [.int 0, .ref a1, .ref a2, .ref a3, .ref a4, .ref a5, .ref a6, .ref a7, .ref a8, .int (nI np), .ref a10, .ref a11, .int (nI kc), .double kr, .int fd])), (a1, .inl (cI, 4, .inl (cnt nr))), (a2, .inl (cD, 48, .inr (.inr (.inr (.inl (flat 12 (up2 T2 j (nr j) t))))))), (a3, .inl (cD, 48, .inr (.inr (.inr (.inl (flat 12 (up2 R2 j (nr j) rr)))))))] := hD
                    refine lv_aload_n hx hb dX4_table_154 rfl (lv_at hl 2 rfl) ?_
                    refine va_get (D := (dC, dI)) (ci := 4) (v := .ref a1) (C := RX4) (T := TX4) (N := 15) hx hb hts (by decide +kernel) hown hK hP 0 rfl rfl 1 (by decide) (hts (.fieldLink RX4 7 "SteamBendsModel" "rows" "[I") (by decide +kernel)) (fun _ h9 => h9) rfl dX4_table_155 ?_
                    refine lv_iload_n hx hb dX4_table_158 rfl (lv_at hl 3 rfl) ?_
                    refine lv_dup2_11 hx hb dX4_table_159 rfl rfl ?_
                    refine va_ialdV hx hb hK hP 1 0 rfl rfl (j := j) (v := nI (nr j)) rfl (by omega) (by omega) dX4_table_160 ?_
                    refine lv_iconst (v := 1) hx hb dX4_table_161 (by decide) ?_
                    refine lv_iaddN (x := nr j) (y := 1) hx hb dX4_table_162 ?_
                    refine va_iastN hx hb hK hP hD hS 1 0 rfl rfl (j := j) (by omega) (by omega) dX4_table_163 (fun H locs hP hD hS => ?_)
                    rw [cnt_upd] at hP hD
                    have hP : va_P (dC, dI) vwCl [(mo, .inr (4, [.int 0, .ref a1, .ref a2, .ref a3, .ref a4, .ref a5, .ref a6, .ref a7, .ref a8, .int (nI np), .ref a10, .ref a11, .int (nI kc), .double kr, .int fd])), (a1, .inl (cI, 4, .inl (cnt (vf_upd nr j ((nr j) + 1))))), (a2, .inl (cD, 48, .inr (.inr (.inr (.inl (flat 12 (up2 T2 j (nr j) t))))))), (a3, .inl (cD, 48, .inr (.inr (.inr (.inl (flat 12 (up2 R2 j (nr j) rr)))))))] H := hP
                    have hD : va_D A [(mo, .inr (4, [.int 0, .ref a1, .ref a2, .ref a3, .ref a4, .ref a5, .ref a6, .ref a7, .ref a8, .int (nI np), .ref a10, .ref a11, .int (nI kc), .double kr, .int fd])), (a1, .inl (cI, 4, .inl (cnt (vf_upd nr j ((nr j) + 1))))), (a2, .inl (cD, 48, .inr (.inr (.inr (.inl (flat 12 (up2 T2 j (nr j) t))))))), (a3, .inl (cD, 48, .inr (.inr (.inr (.inl (flat 12 (up2 R2 j (nr j) rr)))))))] := hD
                    refine lv_aload_n hx hb dX4_table_164 rfl (lv_at hl 2 rfl) ?_
                    refine va_get (D := (dC, dI)) (ci := 4) (v := .ref a1) (C := RX4) (T := TX4) (N := 15) hx hb hts (by decide +kernel) hown hK hP 0 rfl rfl 1 (by decide) (hts (.fieldLink RX4 7 "SteamBendsModel" "rows" "[I") (by decide +kernel)) (fun _ h9 => h9) rfl dX4_table_165 ?_
                    refine lv_iload_n hx hb dX4_table_168 rfl (lv_at hl 3 rfl) ?_
                    refine va_ialdV hx hb hK hP 1 0 rfl rfl (j := j) (v := nI ((nr j) + 1)) (by show nI ((vf_upd nr j ((nr j) + 1)) j) = _; rw [vf_at]) (by omega) (by omega) dX4_table_169 ?_
                    have hP9 := hP.sub (ws' := [(mo, .inr (4, [.int 0, .ref a1, .ref a2, .ref a3, .ref a4, .ref a5, .ref a6, .ref a7, .ref a8, .int (nI np), .ref a10, .ref a11, .int (nI kc), .double kr, .int fd])), (a1, .inl (cI, 4, .inl (cnt (vf_upd nr j ((nr j) + 1))))), (a2, .inl (cD, 48, .inr (.inr (.inr (.inl (flat 12 (up2 T2 j (nr j) t))))))), (a3, .inl (cD, 48, .inr (.inr (.inr (.inl (flat 12 (up2 R2 j (nr j) rr)))))))]) [0, 1, 2, 3] rfl
                    have hD9 := hD.sub (ws' := [(mo, .inr (4, [.int 0, .ref a1, .ref a2, .ref a3, .ref a4, .ref a5, .ref a6, .ref a7, .ref a8, .int (nI np), .ref a10, .ref a11, .int (nI kc), .double kr, .int fd])), (a1, .inl (cI, 4, .inl (cnt (vf_upd nr j ((nr j) + 1))))), (a2, .inl (cD, 48, .inr (.inr (.inr (.inl (flat 12 (up2 T2 j (nr j) t))))))), (a3, .inl (cD, 48, .inr (.inr (.inr (.inl (flat 12 (up2 R2 j (nr j) rr)))))))]) [0, 1, 2, 3] (by decide) rfl
                    exact W.iret hx hb hr (fun t9s hht hW9 => ⟨⟨nI ((nr j) + 1), (0, (vf_upd nr j (nr j + 1), up2 T2 j (nr j) t, up2 R2 j (nr j) rr)), rfl, ⟨(by show (0 : Nat) = _; unfold cTab; (repeat' split) <;> omega), fun _ => rfl, (if_pos rfl).symm⟩, ⟨by rw [hht]; exact hP9, hD9⟩⟩, hS.F hht⟩) hS.2.2 dX4_table_170
                  · exact absurd c_128 (by decide)
                · have c_113 := (nI_eq (a := nr j) (b := 12) (by omega) (by omega)).mp c_113
                  refine lv_iconst (v := 3) hx hb dX4_table_116 (by decide) ?_
                  refine lv_goto (tgt := 121) hx hb dX4_table_117 (by decide) ?_
                  refine va_put (D := (dC, dI)) (ci := 4) (v := .int 3) (ty := .int) (C := RX4) (T := TX4) (N := 15) hx hb hts (by decide +kernel) tyX4 tyX4_ok nmX4 hown hK hP hD hS 0 rfl rfl 0 (by decide) (hts (.fieldLink RX4 43 "SteamBendsModel" "code" "I") (by decide +kernel)) (fun _ h9 => h9) rfl (by decide +kernel) rfl rfl (Nat.le_of_ble_eq_true rfl) dX4_table_121 (fun H locs hP hD hS => ?_)
                  have hP : va_P (dC, dI) vwCl [(mo, .inr (4, [.int 3, .ref a1, .ref a2, .ref a3, .ref a4, .ref a5, .ref a6, .ref a7, .ref a8, .int (nI np), .ref a10, .ref a11, .int (nI kc), .double kr, .int fd])), (a1, .inl (cI, 4, .inl (cnt nr))), (a2, .inl (cD, 48, .inr (.inr (.inr (.inl (flat 12 T2)))))), (a3, .inl (cD, 48, .inr (.inr (.inr (.inl (flat 12 R2))))))] H := hP
                  have hD : va_D A [(mo, .inr (4, [.int 3, .ref a1, .ref a2, .ref a3, .ref a4, .ref a5, .ref a6, .ref a7, .ref a8, .int (nI np), .ref a10, .ref a11, .int (nI kc), .double kr, .int fd])), (a1, .inl (cI, 4, .inl (cnt nr))), (a2, .inl (cD, 48, .inr (.inr (.inr (.inl (flat 12 T2)))))), (a3, .inl (cD, 48, .inr (.inr (.inr (.inl (flat 12 R2))))))] := hD
                  refine lv_aload_n hx hb dX4_table_124 rfl (lv_at hl 2 rfl) ?_
                  refine va_get (D := (dC, dI)) (ci := 4) (v := .int 3) (C := RX4) (T := TX4) (N := 15) hx hb hts (by decide +kernel) hown hK hP 0 rfl rfl 0 (by decide) (hts (.fieldLink RX4 43 "SteamBendsModel" "code" "I") (by decide +kernel)) (fun _ h9 => h9) rfl dX4_table_125 ?_
                  refine lv_if_le (tgt := 133) hx hb dX4_table_128 (by decide) (fun c_128 => ?_) (fun c_128 => ?_)
                  · exact absurd c_128 (by decide)
                  · refine lv_iconst (v := 0) hx hb dX4_table_131 (by decide) ?_
                    have hP9 := hP.sub (ws' := [(mo, .inr (4, [.int 3, .ref a1, .ref a2, .ref a3, .ref a4, .ref a5, .ref a6, .ref a7, .ref a8, .int (nI np), .ref a10, .ref a11, .int (nI kc), .double kr, .int fd])), (a1, .inl (cI, 4, .inl (cnt nr))), (a2, .inl (cD, 48, .inr (.inr (.inr (.inl (flat 12 T2)))))), (a3, .inl (cD, 48, .inr (.inr (.inr (.inl (flat 12 R2))))))]) [0, 1, 2, 3] rfl
                    have hD9 := hD.sub (ws' := [(mo, .inr (4, [.int 3, .ref a1, .ref a2, .ref a3, .ref a4, .ref a5, .ref a6, .ref a7, .ref a8, .int (nI np), .ref a10, .ref a11, .int (nI kc), .double kr, .int fd])), (a1, .inl (cI, 4, .inl (cnt nr))), (a2, .inl (cD, 48, .inr (.inr (.inr (.inl (flat 12 T2)))))), (a3, .inl (cD, 48, .inr (.inr (.inr (.inl (flat 12 R2))))))]) [0, 1, 2, 3] (by decide) rfl
                    exact W.iret hx hb hr (fun t9s hht hW9 => ⟨⟨0, (3, (nr, T2, R2)), rfl, ⟨(by show (3 : Nat) = _; unfold cTab; (repeat' split) <;> omega), fun z => absurd z (by simp), (if_neg (show ¬ (3 : Nat) = 0 by decide)).symm⟩, ⟨by rw [hht]; exact hP9, hD9⟩⟩, hS.F hht⟩) hS.2.2 dX4_table_132
              · exact absurd c_98 (by decide)
    · exact absurd c_20 (by decide)

set_option maxHeartbeats 4000000 in
set_option maxRecDepth 100000 in
theorem m_X4_radiusAt (l : Launch) (dC : Nat → ClassId) (dI : Nat → Nat → Nat) (sz : Nat) (cI cD : ClassId) (mo a1 a2 a3 a4 a5 a6 a7 a8 a10 a11 : Nat) (cd : Int32) (np kc : Nat) (kr : UInt64) (fd : Int32) (nr : Nat → Nat) (T2 R2 : Nat → Nat → UInt64) (j : Nat) (hj : j < 4) (t : UInt64) (ht : dB 1064 t) (hrow : rowsOK (T2 j) (R2 j) (nr j)) : Met l yX4_radiusAt wsX4_radiusAt ({ frames := 0, cells := 0, slots := 0, locals := 0 } : Room) (va_Pc [.ref mo, .int (nI j), .double t] (PW (dC, dI) [(cI, .int), (cD, .double)] [(mo, .inr (4, [.int cd, .ref a1, .ref a2, .ref a3, .ref a4, .ref a5, .ref a6, .ref a7, .ref a8, .int (nI np), .ref a10, .ref a11, .int (nI kc), .double kr, .int fd])), (a1, .inl (cI, 4, .inl (cnt nr))), (a2, .inl (cD, 48, .inr (.inr (.inr (.inl (flat 12 T2)))))), (a3, .inl (cD, 48, .inr (.inr (.inr (.inl (flat 12 R2))))))] sz)) (va_Qd (fun (r : UInt64) (u : Option UInt64) => r = u.getD FP.dconst0 ∧ u = rRad (T2 j) (R2 j) t (nr j)) (fun (u : Option UInt64) => QW (dC, dI) [(mo, .inr (4, [.int cd, .ref a1, .ref a2, .ref a3, .ref a4, .ref a5, .ref a6, .ref a7, .ref a8, .int (nI np), .ref a10, .ref a11, .int (nI kc), .double kr, .int (fnd u)])), (a1, .inl (cI, 4, .inl (cnt nr))), (a2, .inl (cD, 48, .inr (.inr (.inr (.inl (flat 12 T2)))))), (a3, .inl (cD, 48, .inr (.inr (.inr (.inl (flat 12 R2))))))] (va_A [(mo, .inr (4, [.int cd, .ref a1, .ref a2, .ref a3, .ref a4, .ref a5, .ref a6, .ref a7, .ref a8, .int (nI np), .ref a10, .ref a11, .int (nI kc), .double kr, .int fd])), (a1, .inl (cI, 4, .inl (cnt nr))), (a2, .inl (cD, 48, .inr (.inr (.inr (.inl (flat 12 T2)))))), (a3, .inl (cD, 48, .inr (.inr (.inr (.inl (flat 12 R2))))))] sz)) (va_A [(mo, .inr (4, [.int cd, .ref a1, .ref a2, .ref a3, .ref a4, .ref a5, .ref a6, .ref a7, .ref a8, .int (nI np), .ref a10, .ref a11, .int (nI kc), .double kr, .int fd])), (a1, .inl (cI, 4, .inl (cnt nr))), (a2, .inl (cD, 48, .inr (.inr (.inr (.inl (flat 12 T2)))))), (a3, .inl (cD, 48, .inr (.inr (.inr (.inl (flat 12 R2))))))] sz)) 0 0 (va_A [(mo, .inr (4, [.int cd, .ref a1, .ref a2, .ref a3, .ref a4, .ref a5, .ref a6, .ref a7, .ref a8, .int (nI np), .ref a10, .ref a11, .int (nI kc), .double kr, .int fd])), (a1, .inl (cI, 4, .inl (cnt nr))), (a2, .inl (cD, 48, .inr (.inr (.inr (.inl (flat 12 T2)))))), (a3, .inl (cD, 48, .inr (.inr (.inr (.inl (flat 12 R2))))))] sz) := by
  refine Met.ofW (cc := cX4_radiusAt) (maxL := 7) (ret := (some .double)) (by decide) rfl ?_
  intro p e s m args below meth c s₁ BB hml hv
  obtain ⟨rfl, hsz, hP, hK, hD0, hN⟩ := hv
  have hx := BB.exec
  have hb := BB.bytes
  have hr := BB.returns
  have hts := atoms_spec (ws := wsX4_radiusAt) BB.pre
  have hown : s.vm.findClass RX4 = some m.cls := findClass_of_methodNamed BB.named
  have hlocks := BB.notSynchronized
  subst hsz
  have hD := hD0.self (sz := s.heap.size)
  generalize hAe : va_A [(mo, .inr (4, [.int cd, .ref a1, .ref a2, .ref a3, .ref a4, .ref a5, .ref a6, .ref a7, .ref a8, .int (nI np), .ref a10, .ref a11, .int (nI kc), .double kr, .int fd])), (a1, .inl (cI, 4, .inl (cnt nr))), (a2, .inl (cD, 48, .inr (.inr (.inr (.inl (flat 12 T2)))))), (a3, .inl (cD, 48, .inr (.inr (.inr (.inl (flat 12 R2))))))] s.heap.size = A at hD ⊢
  have hA : ∀ q : Nat, s.heap.size ≤ q → A q := fun q h => by rw [← hAe]; exact Or.inr h
  have hS : va_S A s.heap s.heap [] := va_S.rf
  have hP : va_P (dC, dI) vwCl [(mo, .inr (4, [.int cd, .ref a1, .ref a2, .ref a3, .ref a4, .ref a5, .ref a6, .ref a7, .ref a8, .int (nI np), .ref a10, .ref a11, .int (nI kc), .double kr, .int fd])), (a1, .inl (cI, 4, .inl (cnt nr))), (a2, .inl (cD, 48, .inr (.inr (.inr (.inl (flat 12 T2)))))), (a3, .inl (cD, 48, .inr (.inr (.inr (.inl (flat 12 R2))))))] s.heap := hP
  have hl := lv_entry ([.ref mo, .int (nI j), .double t]) (n := 7) (Nat.le_of_ble_eq_true rfl)
  rw [lg_entry_eq]
  generalize (lg_sl ([.ref mo, .int (nI j), .double t]) ++ List.replicate (7 - (lg_sl ([.ref mo, .int (nI j), .double t])).length) Slot.unset).toArray = ls at hl ⊢
  have hl : lv_has ls 7 [(0, .ref mo), (1, .int (nI j)), (2, .double t)] := hl
  have hn12 := hrow.1
  refine lv_aload_n hx hb dX4_radiusAt_0 rfl (lv_at hl 0 rfl) ?_
  refine lv_iconst (v := 0) hx hb dX4_radiusAt_1 (by decide) ?_
  refine va_put (D := (dC, dI)) (ci := 4) (v := .int 0) (ty := .boolean) (C := RX4) (T := TX4) (N := 15) hx hb hts (by decide +kernel) tyX4 tyX4_ok nmX4 hown hK hP hD hS 0 rfl rfl 14 (by decide) (hts (.fieldLink RX4 61 "SteamBendsModel" "isFound" "Z") (by decide +kernel)) (fun _ h9 => h9) rfl (by decide +kernel) (by decide) rfl (Nat.le_of_ble_eq_true rfl) dX4_radiusAt_2 (fun H locs hP hD hS => ?_)
  have hP : va_P (dC, dI) vwCl [(mo, .inr (4, [.int cd, .ref a1, .ref a2, .ref a3, .ref a4, .ref a5, .ref a6, .ref a7, .ref a8, .int (nI np), .ref a10, .ref a11, .int (nI kc), .double kr, .int 0])), (a1, .inl (cI, 4, .inl (cnt nr))), (a2, .inl (cD, 48, .inr (.inr (.inr (.inl (flat 12 T2)))))), (a3, .inl (cD, 48, .inr (.inr (.inr (.inl (flat 12 R2))))))] H := hP
  have hD : va_D A [(mo, .inr (4, [.int cd, .ref a1, .ref a2, .ref a3, .ref a4, .ref a5, .ref a6, .ref a7, .ref a8, .int (nI np), .ref a10, .ref a11, .int (nI kc), .double kr, .int 0])), (a1, .inl (cI, 4, .inl (cnt nr))), (a2, .inl (cD, 48, .inr (.inr (.inr (.inl (flat 12 T2)))))), (a3, .inl (cD, 48, .inr (.inr (.inr (.inl (flat 12 R2))))))] := hD
  refine lv_dconst0 hx hb dX4_radiusAt_5 ?_
  refine lv_dstore (lv' := [(4, .double FP.dconst0), (0, .ref mo), (1, .int (nI j)), (2, .double t)]) hx hb dX4_radiusAt_6 hl (by decide) rfl (fun ls hl => ?_)
  refine lv_bipush (v := 12) hx hb dX4_radiusAt_8 (by decide) ?_
  refine lv_iload_n hx hb dX4_radiusAt_10 rfl (lv_at hl 2 rfl) ?_
  refine lv_imulN (x := 12) (y := j) hx hb dX4_radiusAt_11 ?_
  refine lv_istore (lv' := [(6, .int (nI (12 * j))), (4, .double FP.dconst0), (0, .ref mo), (1, .int (nI j)), (2, .double t)]) hx hb dX4_radiusAt_12 hl (by decide) rfl (fun ls hl => ?_)
  refine w_loop (σ := Nat) (fun n9 x9 H locs ls => lv_has ls 7 [(6, .int (nI (12 * j + x9))), (4, .double ((rRad (T2 j) (R2 j) t x9).getD FP.dconst0)), (0, .ref mo), (1, .int (nI j)), (2, .double t)] ∧ va_P (dC, dI) vwCl [(mo, .inr (4, [.int cd, .ref a1, .ref a2, .ref a3, .ref a4, .ref a5, .ref a6, .ref a7, .ref a8, .int (nI np), .ref a10, .ref a11, .int (nI kc), .double kr, .int (fnd (rRad (T2 j) (R2 j) t x9))])), (a1, .inl (cI, 4, .inl (cnt nr))), (a2, .inl (cD, 48, .inr (.inr (.inr (.inl (flat 12 T2)))))), (a3, .inl (cD, 48, .inr (.inr (.inr (.inl (flat 12 R2))))))] H ∧ va_D A [(mo, .inr (4, [.int cd, .ref a1, .ref a2, .ref a3, .ref a4, .ref a5, .ref a6, .ref a7, .ref a8, .int (nI np), .ref a10, .ref a11, .int (nI kc), .double kr, .int (fnd (rRad (T2 j) (R2 j) t x9))])), (a1, .inl (cI, 4, .inl (cnt nr))), (a2, .inl (cD, 48, .inr (.inr (.inr (.inl (flat 12 T2)))))), (a3, .inl (cD, 48, .inr (.inr (.inr (.inl (flat 12 R2))))))] ∧ va_S A s.heap H locs ∧ x9 + n9 = nr j) (n0 := nr j) (x0 := 0) ⟨lv_sub hl [0, 1, 2, 3, 4] rfl, hP.sub [0, 1, 2, 3] rfl, hD.sub [0, 1, 2, 3] (by decide) rfl, hS, (show 0 + (nr j) = nr j from by omega)⟩ ?_
  rintro n9 i9 H locs ls ⟨hl, hP, hD, hS, hi⟩ ih
  have hl : lv_has ls 7 [(6, .int (nI (12 * j + i9))), (4, .double ((rRad (T2 j) (R2 j) t i9).getD FP.dconst0)), (0, .ref mo), (1, .int (nI j)), (2, .double t)] := hl
  have hP : va_P (dC, dI) vwCl [(mo, .inr (4, [.int cd, .ref a1, .ref a2, .ref a3, .ref a4, .ref a5, .ref a6, .ref a7, .ref a8, .int (nI np), .ref a10, .ref a11, .int (nI kc), .double kr, .int (fnd (rRad (T2 j) (R2 j) t i9))])), (a1, .inl (cI, 4, .inl (cnt nr))), (a2, .inl (cD, 48, .inr (.inr (.inr (.inl (flat 12 T2)))))), (a3, .inl (cD, 48, .inr (.inr (.inr (.inl (flat 12 R2))))))] H := hP
  have hD : va_D A [(mo, .inr (4, [.int cd, .ref a1, .ref a2, .ref a3, .ref a4, .ref a5, .ref a6, .ref a7, .ref a8, .int (nI np), .ref a10, .ref a11, .int (nI kc), .double kr, .int (fnd (rRad (T2 j) (R2 j) t i9))])), (a1, .inl (cI, 4, .inl (cnt nr))), (a2, .inl (cD, 48, .inr (.inr (.inr (.inl (flat 12 T2)))))), (a3, .inl (cD, 48, .inr (.inr (.inr (.inl (flat 12 R2))))))] := hD
  have hi : i9 + n9 = nr j := hi
  refine lv_iload hx hb dX4_radiusAt_14 (lv_at hl 0 rfl) ?_
  refine lv_bipush (v := 12) hx hb dX4_radiusAt_16 (by decide) ?_
  refine lv_iload_n hx hb dX4_radiusAt_18 rfl (lv_at hl 3 rfl) ?_
  refine lv_imulN (x := 12) (y := j) hx hb dX4_radiusAt_19 ?_
  refine lv_aload_n hx hb dX4_radiusAt_20 rfl (lv_at hl 2 rfl) ?_
  refine va_get (D := (dC, dI)) (ci := 4) (v := .ref a1) (C := RX4) (T := TX4) (N := 15) hx hb hts (by decide +kernel) hown hK hP 0 rfl rfl 1 (by decide) (hts (.fieldLink RX4 7 "SteamBendsModel" "rows" "[I") (by decide +kernel)) (fun _ h9 => h9) rfl dX4_radiusAt_21 ?_
  refine lv_iload_n hx hb dX4_radiusAt_24 rfl (lv_at hl 3 rfl) ?_
  refine va_ialdV hx hb hK hP 1 0 rfl rfl (j := j) (v := nI (nr j)) rfl (by omega) (by omega) dX4_radiusAt_25 ?_
  refine lv_iaddN (x := 12 * j) (y := nr j) hx hb dX4_radiusAt_26 ?_
  refine lv_icmp_ge (tgt := 164) hx hb dX4_radiusAt_27 (by decide) (fun c_27 => ?_) (fun c_27 => ?_)
  · have c_27 := (nI_leI (a := 12 * j + nr j) (b := 12 * j + i9) (by omega) (by omega)).mp c_27
    refine lv_dload hx hb dX4_radiusAt_164 (lv_at hl 1 rfl) ?_
    have hP9 := hP.sub (ws' := [(mo, .inr (4, [.int cd, .ref a1, .ref a2, .ref a3, .ref a4, .ref a5, .ref a6, .ref a7, .ref a8, .int (nI np), .ref a10, .ref a11, .int (nI kc), .double kr, .int (fnd (rRad (T2 j) (R2 j) t i9))])), (a1, .inl (cI, 4, .inl (cnt nr))), (a2, .inl (cD, 48, .inr (.inr (.inr (.inl (flat 12 T2)))))), (a3, .inl (cD, 48, .inr (.inr (.inr (.inl (flat 12 R2))))))]) [0, 1, 2, 3] rfl
    have hD9 := hD.sub (ws' := [(mo, .inr (4, [.int cd, .ref a1, .ref a2, .ref a3, .ref a4, .ref a5, .ref a6, .ref a7, .ref a8, .int (nI np), .ref a10, .ref a11, .int (nI kc), .double kr, .int (fnd (rRad (T2 j) (R2 j) t i9))])), (a1, .inl (cI, 4, .inl (cnt nr))), (a2, .inl (cD, 48, .inr (.inr (.inr (.inl (flat 12 T2)))))), (a3, .inl (cD, 48, .inr (.inr (.inr (.inl (flat 12 R2))))))]) [0, 1, 2, 3] (by decide) rfl
    exact W.dret hx hb hr (fun t9s hht hW9 => ⟨⟨(rRad (T2 j) (R2 j) t i9).getD FP.dconst0, rRad (T2 j) (R2 j) t i9, rfl, ⟨rfl, by rw [show i9 = nr j by omega]⟩, ⟨by rw [hht]; exact hP9, hD9⟩⟩, hS.F hht⟩) hS.2.2 dX4_radiusAt_166
  · have c_27 := mt (nI_leI (a := 12 * j + nr j) (b := 12 * j + i9) (by omega) (by omega)).mpr c_27
    refine lv_dload_n hx hb dX4_radiusAt_30 rfl (lv_at hl 4 rfl) ?_
    refine lv_aload_n hx hb dX4_radiusAt_31 rfl (lv_at hl 2 rfl) ?_
    refine va_get (D := (dC, dI)) (ci := 4) (v := .ref a2) (C := RX4) (T := TX4) (N := 15) hx hb hts (by decide +kernel) hown hK hP 0 rfl rfl 2 (by decide) (hts (.fieldLink RX4 13 "SteamBendsModel" "thicks" "[D") (by decide +kernel)) (fun _ h9 => h9) rfl dX4_radiusAt_32 ?_
    refine lv_iload hx hb dX4_radiusAt_35 (lv_at hl 0 rfl) ?_
    refine va_daldV hx hb hK hP 2 1 rfl rfl (j := 12 * j + i9) (v := T2 j i9) (flat_at (k := j) (j := i9) rfl (by omega)) (by omega) (by omega) dX4_radiusAt_37 ?_
    refine lv_dcmp hx hb dX4_radiusAt_38 ?_
    refine lv_if_ne (tgt := 59) hx hb dX4_radiusAt_39 (by decide) (fun c_39 => ?_) (fun c_39 => ?_)
    · have c_39 := mt (cv_eq (ht.nn (by omega)) ((hrow.T (i := i9) (by omega)).nn (by omega))).mpr c_39
      refine lv_iload hx hb dX4_radiusAt_59 (lv_at hl 0 rfl) ?_
      refine lv_bipush (v := 12) hx hb dX4_radiusAt_61 (by decide) ?_
      refine lv_iload_n hx hb dX4_radiusAt_63 rfl (lv_at hl 3 rfl) ?_
      refine lv_imulN (x := 12) (y := j) hx hb dX4_radiusAt_64 ?_
      refine lv_icmp_le (tgt := 158) hx hb dX4_radiusAt_65 (by decide) (fun c_65 => ?_) (fun c_65 => ?_)
      · have c_65 := (nI_leI (a := 12 * j + i9) (b := 12 * j) (by omega) (by omega)).mp c_65
        refine lv_iinc (v := nI (12 * j + i9 + 1)) (lv' := [(6, .int (nI (12 * j + i9 + 1))), (4, .double ((rRad (T2 j) (R2 j) t i9).getD FP.dconst0)), (0, .ref mo), (1, .int (nI j)), (2, .double t)]) hx hb dX4_radiusAt_158 hl (k := 0) rfl (show nI (12 * j + i9) + nI 1 = nI (12 * j + i9 + 1) from nI_add _ _) (by decide) rfl (fun ls hl => ?_)
        refine lv_goto (tgt := 14) hx hb dX4_radiusAt_161 (by decide) ?_
        have e9 := (rRad_c c_39 (by omega) : rRad (T2 j) (R2 j) t (i9 + 1) = _)
        exact ih (n9 - 1) (by omega) (i9 + 1) _ _ _ ⟨(by rw [e9]; exact lv_sub hl [0, 1, 2, 3, 4] rfl), (by rw [e9]; exact hP.sub [0, 1, 2, 3] rfl), (by rw [e9]; exact hD.sub [0, 1, 2, 3] (by decide) rfl), hS, (show (i9 + 1) + (n9 - 1) = nr j from by omega)⟩
      · have c_65 := mt (nI_leI (a := 12 * j + i9) (b := 12 * j) (by omega) (by omega)).mpr c_65
        refine lv_dload_n hx hb dX4_radiusAt_68 rfl (lv_at hl 4 rfl) ?_
        refine lv_aload_n hx hb dX4_radiusAt_69 rfl (lv_at hl 2 rfl) ?_
        refine va_get (D := (dC, dI)) (ci := 4) (v := .ref a2) (C := RX4) (T := TX4) (N := 15) hx hb hts (by decide +kernel) hown hK hP 0 rfl rfl 2 (by decide) (hts (.fieldLink RX4 13 "SteamBendsModel" "thicks" "[D") (by decide +kernel)) (fun _ h9 => h9) rfl dX4_radiusAt_70 ?_
        refine lv_iload hx hb dX4_radiusAt_73 (lv_at hl 0 rfl) ?_
        refine lv_iconst (v := 1) hx hb dX4_radiusAt_75 (by decide) ?_
        refine lv_isubN (x := 12 * j + i9) (y := 1) hx hb dX4_radiusAt_76 (by omega) ?_
        refine W.eq (g2 := F0 m 77 ls (.int (nI (12 * j + (i9 - 1))) :: [.ref a2, .double t])) (by rw [show nI ((12 * j + i9) - 1) = nI (12 * j + (i9 - 1)) from by rw [show 12 * j + i9 - 1 = 12 * j + (i9 - 1) by omega]]) ?_
        refine va_daldV hx hb hK hP 2 1 rfl rfl (j := 12 * j + (i9 - 1)) (v := T2 j (i9 - 1)) (flat_at (k := j) (j := (i9 - 1)) rfl (by omega)) (by omega) (by omega) dX4_radiusAt_77 ?_
        refine lv_dcmp hx hb dX4_radiusAt_78 ?_
        refine lv_if_le (tgt := 158) hx hb dX4_radiusAt_79 (by decide) (fun c_79 => ?_) (fun c_79 => ?_)
        · have c_79 := (cv_le (ht.nn (by omega)) ((hrow.T (i := (i9 - 1)) (by omega)).nn (by omega))).mp c_79
          refine lv_iinc (v := nI (12 * j + i9 + 1)) (lv' := [(6, .int (nI (12 * j + i9 + 1))), (4, .double ((rRad (T2 j) (R2 j) t i9).getD FP.dconst0)), (0, .ref mo), (1, .int (nI j)), (2, .double t)]) hx hb dX4_radiusAt_158 hl (k := 0) rfl (show nI (12 * j + i9) + nI 1 = nI (12 * j + i9 + 1) from nI_add _ _) (by decide) rfl (fun ls hl => ?_)
          refine lv_goto (tgt := 14) hx hb dX4_radiusAt_161 (by decide) ?_
          have e9 := (rRad_c c_39 (by omega) : rRad (T2 j) (R2 j) t (i9 + 1) = _)
          exact ih (n9 - 1) (by omega) (i9 + 1) _ _ _ ⟨(by rw [e9]; exact lv_sub hl [0, 1, 2, 3, 4] rfl), (by rw [e9]; exact hP.sub [0, 1, 2, 3] rfl), (by rw [e9]; exact hD.sub [0, 1, 2, 3] (by decide) rfl), hS, (show (i9 + 1) + (n9 - 1) = nr j from by omega)⟩
        · have c_79 := mt (cv_le (ht.nn (by omega)) ((hrow.T (i := (i9 - 1)) (by omega)).nn (by omega))).mpr c_79
          refine lv_dload_n hx hb dX4_radiusAt_82 rfl (lv_at hl 4 rfl) ?_
          refine lv_aload_n hx hb dX4_radiusAt_83 rfl (lv_at hl 2 rfl) ?_
          refine va_get (D := (dC, dI)) (ci := 4) (v := .ref a2) (C := RX4) (T := TX4) (N := 15) hx hb hts (by decide +kernel) hown hK hP 0 rfl rfl 2 (by decide) (hts (.fieldLink RX4 13 "SteamBendsModel" "thicks" "[D") (by decide +kernel)) (fun _ h9 => h9) rfl dX4_radiusAt_84 ?_
          refine lv_iload hx hb dX4_radiusAt_87 (lv_at hl 0 rfl) ?_
          refine va_daldV hx hb hK hP 2 1 rfl rfl (j := 12 * j + i9) (v := T2 j i9) (flat_at (k := j) (j := i9) rfl (by omega)) (by omega) (by omega) dX4_radiusAt_89 ?_
          refine lv_dcmp hx hb dX4_radiusAt_90 ?_
          refine lv_if_ge (tgt := 158) hx hb dX4_radiusAt_91 (by decide) (fun c_91 => ?_) (fun c_91 => ?_)
          · have c_91 := (cv_ge (ht.nn (by omega)) ((hrow.T (i := i9) (by omega)).nn (by omega))).mp c_91
            refine lv_iinc (v := nI (12 * j + i9 + 1)) (lv' := [(6, .int (nI (12 * j + i9 + 1))), (4, .double ((rRad (T2 j) (R2 j) t i9).getD FP.dconst0)), (0, .ref mo), (1, .int (nI j)), (2, .double t)]) hx hb dX4_radiusAt_158 hl (k := 0) rfl (show nI (12 * j + i9) + nI 1 = nI (12 * j + i9 + 1) from nI_add _ _) (by decide) rfl (fun ls hl => ?_)
            refine lv_goto (tgt := 14) hx hb dX4_radiusAt_161 (by decide) ?_
            have e9 := (rRad_c c_39 (by omega) : rRad (T2 j) (R2 j) t (i9 + 1) = _)
            exact ih (n9 - 1) (by omega) (i9 + 1) _ _ _ ⟨(by rw [e9]; exact lv_sub hl [0, 1, 2, 3, 4] rfl), (by rw [e9]; exact hP.sub [0, 1, 2, 3] rfl), (by rw [e9]; exact hD.sub [0, 1, 2, 3] (by decide) rfl), hS, (show (i9 + 1) + (n9 - 1) = nr j from by omega)⟩
          · have c_91 := mt (cv_ge (ht.nn (by omega)) ((hrow.T (i := i9) (by omega)).nn (by omega))).mpr c_91
            refine lv_aload_n hx hb dX4_radiusAt_94 rfl (lv_at hl 2 rfl) ?_
            refine lv_iconst (v := 1) hx hb dX4_radiusAt_95 (by decide) ?_
            refine va_put (D := (dC, dI)) (ci := 4) (v := .int 1) (ty := .boolean) (C := RX4) (T := TX4) (N := 15) hx hb hts (by decide +kernel) tyX4 tyX4_ok nmX4 hown hK hP hD hS 0 rfl rfl 14 (by decide) (hts (.fieldLink RX4 61 "SteamBendsModel" "isFound" "Z") (by decide +kernel)) (fun _ h9 => h9) rfl (by decide +kernel) (by decide) rfl (Nat.le_of_ble_eq_true rfl) dX4_radiusAt_96 (fun H locs hP hD hS => ?_)
            have hP : va_P (dC, dI) vwCl [(mo, .inr (4, [.int cd, .ref a1, .ref a2, .ref a3, .ref a4, .ref a5, .ref a6, .ref a7, .ref a8, .int (nI np), .ref a10, .ref a11, .int (nI kc), .double kr, .int 1])), (a1, .inl (cI, 4, .inl (cnt nr))), (a2, .inl (cD, 48, .inr (.inr (.inr (.inl (flat 12 T2)))))), (a3, .inl (cD, 48, .inr (.inr (.inr (.inl (flat 12 R2))))))] H := hP
            have hD : va_D A [(mo, .inr (4, [.int cd, .ref a1, .ref a2, .ref a3, .ref a4, .ref a5, .ref a6, .ref a7, .ref a8, .int (nI np), .ref a10, .ref a11, .int (nI kc), .double kr, .int 1])), (a1, .inl (cI, 4, .inl (cnt nr))), (a2, .inl (cD, 48, .inr (.inr (.inr (.inl (flat 12 T2)))))), (a3, .inl (cD, 48, .inr (.inr (.inr (.inl (flat 12 R2))))))] := hD
            refine lv_aload_n hx hb dX4_radiusAt_99 rfl (lv_at hl 2 rfl) ?_
            refine va_get (D := (dC, dI)) (ci := 4) (v := .ref a3) (C := RX4) (T := TX4) (N := 15) hx hb hts (by decide +kernel) hown hK hP 0 rfl rfl 3 (by decide) (hts (.fieldLink RX4 17 "SteamBendsModel" "radii" "[D") (by decide +kernel)) (fun _ h9 => h9) rfl dX4_radiusAt_100 ?_
            refine lv_iload hx hb dX4_radiusAt_103 (lv_at hl 0 rfl) ?_
            refine lv_iconst (v := 1) hx hb dX4_radiusAt_105 (by decide) ?_
            refine lv_isubN (x := 12 * j + i9) (y := 1) hx hb dX4_radiusAt_106 (by omega) ?_
            refine W.eq (g2 := F0 m 107 ls (.int (nI (12 * j + (i9 - 1))) :: [.ref a3])) (by rw [show nI ((12 * j + i9) - 1) = nI (12 * j + (i9 - 1)) from by rw [show 12 * j + i9 - 1 = 12 * j + (i9 - 1) by omega]]) ?_
            refine va_daldV hx hb hK hP 3 1 rfl rfl (j := 12 * j + (i9 - 1)) (v := R2 j (i9 - 1)) (flat_at (k := j) (j := (i9 - 1)) rfl (by omega)) (by omega) (by omega) dX4_radiusAt_107 ?_
            refine lv_dload_n hx hb dX4_radiusAt_108 rfl (lv_at hl 4 rfl) ?_
            refine lv_aload_n hx hb dX4_radiusAt_109 rfl (lv_at hl 2 rfl) ?_
            refine va_get (D := (dC, dI)) (ci := 4) (v := .ref a2) (C := RX4) (T := TX4) (N := 15) hx hb hts (by decide +kernel) hown hK hP 0 rfl rfl 2 (by decide) (hts (.fieldLink RX4 13 "SteamBendsModel" "thicks" "[D") (by decide +kernel)) (fun _ h9 => h9) rfl dX4_radiusAt_110 ?_
            refine lv_iload hx hb dX4_radiusAt_113 (lv_at hl 0 rfl) ?_
            refine lv_iconst (v := 1) hx hb dX4_radiusAt_115 (by decide) ?_
            refine lv_isubN (x := 12 * j + i9) (y := 1) hx hb dX4_radiusAt_116 (by omega) ?_
            refine W.eq (g2 := F0 m 117 ls (.int (nI (12 * j + (i9 - 1))) :: [.ref a2, .double t, .double (R2 j (i9 - 1))])) (by rw [show nI ((12 * j + i9) - 1) = nI (12 * j + (i9 - 1)) from by rw [show 12 * j + i9 - 1 = 12 * j + (i9 - 1) by omega]]) ?_
            refine va_daldV hx hb hK hP 2 1 rfl rfl (j := 12 * j + (i9 - 1)) (v := T2 j (i9 - 1)) (flat_at (k := j) (j := (i9 - 1)) rfl (by omega)) (by omega) (by omega) dX4_radiusAt_117 ?_
            have b_86 : dB (1066) (FP.dsub t (T2 j (i9 - 1))) := dB.sub ht (hrow.T (i := (i9 - 1)) (by omega)) (M := 1064) (by omega) (by omega) (by omega)
            refine lv_dsub hx hb dX4_radiusAt_118 (b_86.ok (by omega)) ?_
            refine lv_aload_n hx hb dX4_radiusAt_119 rfl (lv_at hl 2 rfl) ?_
            refine va_get (D := (dC, dI)) (ci := 4) (v := .ref a3) (C := RX4) (T := TX4) (N := 15) hx hb hts (by decide +kernel) hown hK hP 0 rfl rfl 3 (by decide) (hts (.fieldLink RX4 17 "SteamBendsModel" "radii" "[D") (by decide +kernel)) (fun _ h9 => h9) rfl dX4_radiusAt_120 ?_
            refine lv_iload hx hb dX4_radiusAt_123 (lv_at hl 0 rfl) ?_
            refine va_daldV hx hb hK hP 3 1 rfl rfl (j := 12 * j + i9) (v := R2 j i9) (flat_at (k := j) (j := i9) rfl (by omega)) (by omega) (by omega) dX4_radiusAt_125 ?_
            refine lv_aload_n hx hb dX4_radiusAt_126 rfl (lv_at hl 2 rfl) ?_
            refine va_get (D := (dC, dI)) (ci := 4) (v := .ref a3) (C := RX4) (T := TX4) (N := 15) hx hb hts (by decide +kernel) hown hK hP 0 rfl rfl 3 (by decide) (hts (.fieldLink RX4 17 "SteamBendsModel" "radii" "[D") (by decide +kernel)) (fun _ h9 => h9) rfl dX4_radiusAt_127 ?_
            refine lv_iload hx hb dX4_radiusAt_130 (lv_at hl 0 rfl) ?_
            refine lv_iconst (v := 1) hx hb dX4_radiusAt_132 (by decide) ?_
            refine lv_isubN (x := 12 * j + i9) (y := 1) hx hb dX4_radiusAt_133 (by omega) ?_
            refine W.eq (g2 := F0 m 134 ls (.int (nI (12 * j + (i9 - 1))) :: [.ref a3, .double (R2 j i9), .double (FP.dsub t (T2 j (i9 - 1))), .double (R2 j (i9 - 1))])) (by rw [show nI ((12 * j + i9) - 1) = nI (12 * j + (i9 - 1)) from by rw [show 12 * j + i9 - 1 = 12 * j + (i9 - 1) by omega]]) ?_
            refine va_daldV hx hb hK hP 3 1 rfl rfl (j := 12 * j + (i9 - 1)) (v := R2 j (i9 - 1)) (flat_at (k := j) (j := (i9 - 1)) rfl (by omega)) (by omega) (by omega) dX4_radiusAt_134 ?_
            have b_87 : dB (1062) (FP.dsub (R2 j i9) (R2 j (i9 - 1))) := dB.sub (hrow.R (i := i9) (by omega)) (hrow.R (i := (i9 - 1)) (by omega)) (M := 1060) (by omega) (by omega) (by omega)
            refine lv_dsub hx hb dX4_radiusAt_135 (b_87.ok (by omega)) ?_
            have b_88 : dB (1106) (FP.dmul (FP.dsub t (T2 j (i9 - 1))) (FP.dsub (R2 j i9) (R2 j (i9 - 1)))) := dB.mul b_86 b_87 (by omega) (by omega) (by omega)
            refine lv_dmul hx hb dX4_radiusAt_136 (b_88.ok (by omega)) ?_
            refine lv_aload_n hx hb dX4_radiusAt_137 rfl (lv_at hl 2 rfl) ?_
            refine va_get (D := (dC, dI)) (ci := 4) (v := .ref a2) (C := RX4) (T := TX4) (N := 15) hx hb hts (by decide +kernel) hown hK hP 0 rfl rfl 2 (by decide) (hts (.fieldLink RX4 13 "SteamBendsModel" "thicks" "[D") (by decide +kernel)) (fun _ h9 => h9) rfl dX4_radiusAt_138 ?_
            refine lv_iload hx hb dX4_radiusAt_141 (lv_at hl 0 rfl) ?_
            refine va_daldV hx hb hK hP 2 1 rfl rfl (j := 12 * j + i9) (v := T2 j i9) (flat_at (k := j) (j := i9) rfl (by omega)) (by omega) (by omega) dX4_radiusAt_143 ?_
            refine lv_aload_n hx hb dX4_radiusAt_144 rfl (lv_at hl 2 rfl) ?_
            refine va_get (D := (dC, dI)) (ci := 4) (v := .ref a2) (C := RX4) (T := TX4) (N := 15) hx hb hts (by decide +kernel) hown hK hP 0 rfl rfl 2 (by decide) (hts (.fieldLink RX4 13 "SteamBendsModel" "thicks" "[D") (by decide +kernel)) (fun _ h9 => h9) rfl dX4_radiusAt_145 ?_
            refine lv_iload hx hb dX4_radiusAt_148 (lv_at hl 0 rfl) ?_
            refine lv_iconst (v := 1) hx hb dX4_radiusAt_150 (by decide) ?_
            refine lv_isubN (x := 12 * j + i9) (y := 1) hx hb dX4_radiusAt_151 (by omega) ?_
            refine W.eq (g2 := F0 m 152 ls (.int (nI (12 * j + (i9 - 1))) :: [.ref a2, .double (T2 j i9), .double (FP.dmul (FP.dsub t (T2 j (i9 - 1))) (FP.dsub (R2 j i9) (R2 j (i9 - 1)))), .double (R2 j (i9 - 1))])) (by rw [show nI ((12 * j + i9) - 1) = nI (12 * j + (i9 - 1)) from by rw [show 12 * j + i9 - 1 = 12 * j + (i9 - 1) by omega]]) ?_
            refine va_daldV hx hb hK hP 2 1 rfl rfl (j := 12 * j + (i9 - 1)) (v := T2 j (i9 - 1)) (flat_at (k := j) (j := (i9 - 1)) rfl (by omega)) (by omega) (by omega) dX4_radiusAt_152 ?_
            have b_89 : dB (1062) (FP.dsub (T2 j i9) (T2 j (i9 - 1))) := dB.sub (hrow.T (i := i9) (by omega)) (hrow.T (i := (i9 - 1)) (by omega)) (M := 1060) (by omega) (by omega) (by omega)
            refine lv_dsub hx hb dX4_radiusAt_153 (b_89.ok (by omega)) ?_
            have b_90 : dB (1110) (FP.ddiv (FP.dmul (FP.dsub t (T2 j (i9 - 1))) (FP.dsub (R2 j i9) (R2 j (i9 - 1)))) (FP.dsub (T2 j i9) (T2 j (i9 - 1)))) := dB.div b_88 (hrow.dL (i := i9 - 1) (j := i9) (by omega) (by omega)) b_89 (by omega) (by omega) (by omega) (by omega)
            refine lv_ddiv hx hb dX4_radiusAt_154 (b_90.ok (by omega)) ?_
            have b_91 : dB (1112) (FP.dadd (R2 j (i9 - 1)) (FP.ddiv (FP.dmul (FP.dsub t (T2 j (i9 - 1))) (FP.dsub (R2 j i9) (R2 j (i9 - 1)))) (FP.dsub (T2 j i9) (T2 j (i9 - 1))))) := dB.add (hrow.R (i := (i9 - 1)) (by omega)) b_90 (M := 1110) (by omega) (by omega) (by omega)
            refine lv_dadd hx hb dX4_radiusAt_155 (b_91.ok (by omega)) ?_
            refine lv_dstore (lv' := [(4, .double (FP.dadd (R2 j (i9 - 1)) (FP.ddiv (FP.dmul (FP.dsub t (T2 j (i9 - 1))) (FP.dsub (R2 j i9) (R2 j (i9 - 1)))) (FP.dsub (T2 j i9) (T2 j (i9 - 1)))))), (6, .int (nI (12 * j + i9))), (0, .ref mo), (1, .int (nI j)), (2, .double t)]) hx hb dX4_radiusAt_156 hl (by decide) rfl (fun ls hl => ?_)
            refine lv_iinc (v := nI (12 * j + i9 + 1)) (lv' := [(6, .int (nI (12 * j + i9 + 1))), (4, .double (FP.dadd (R2 j (i9 - 1)) (FP.ddiv (FP.dmul (FP.dsub t (T2 j (i9 - 1))) (FP.dsub (R2 j i9) (R2 j (i9 - 1)))) (FP.dsub (T2 j i9) (T2 j (i9 - 1)))))), (0, .ref mo), (1, .int (nI j)), (2, .double t)]) hx hb dX4_radiusAt_158 hl (k := 1) rfl (show nI (12 * j + i9) + nI 1 = nI (12 * j + i9 + 1) from nI_add _ _) (by decide) rfl (fun ls hl => ?_)
            refine lv_goto (tgt := 14) hx hb dX4_radiusAt_161 (by decide) ?_
            have e9 := (rRad_b c_39 ⟨by omega, by omega, by omega⟩ : rRad (T2 j) (R2 j) t (i9 + 1) = _)
            exact ih (n9 - 1) (by omega) (i9 + 1) _ _ _ ⟨(by rw [e9]; exact lv_sub hl [0, 1, 2, 3, 4] rfl), (by rw [e9]; exact hP.sub [0, 1, 2, 3] rfl), (by rw [e9]; exact hD.sub [0, 1, 2, 3] (by decide) rfl), hS, (show (i9 + 1) + (n9 - 1) = nr j from by omega)⟩
    · have c_39 := (cv_eq (ht.nn (by omega)) ((hrow.T (i := i9) (by omega)).nn (by omega))).mp c_39
      refine lv_aload_n hx hb dX4_radiusAt_42 rfl (lv_at hl 2 rfl) ?_
      refine lv_iconst (v := 1) hx hb dX4_radiusAt_43 (by decide) ?_
      refine va_put (D := (dC, dI)) (ci := 4) (v := .int 1) (ty := .boolean) (C := RX4) (T := TX4) (N := 15) hx hb hts (by decide +kernel) tyX4 tyX4_ok nmX4 hown hK hP hD hS 0 rfl rfl 14 (by decide) (hts (.fieldLink RX4 61 "SteamBendsModel" "isFound" "Z") (by decide +kernel)) (fun _ h9 => h9) rfl (by decide +kernel) (by decide) rfl (Nat.le_of_ble_eq_true rfl) dX4_radiusAt_44 (fun H locs hP hD hS => ?_)
      have hP : va_P (dC, dI) vwCl [(mo, .inr (4, [.int cd, .ref a1, .ref a2, .ref a3, .ref a4, .ref a5, .ref a6, .ref a7, .ref a8, .int (nI np), .ref a10, .ref a11, .int (nI kc), .double kr, .int 1])), (a1, .inl (cI, 4, .inl (cnt nr))), (a2, .inl (cD, 48, .inr (.inr (.inr (.inl (flat 12 T2)))))), (a3, .inl (cD, 48, .inr (.inr (.inr (.inl (flat 12 R2))))))] H := hP
      have hD : va_D A [(mo, .inr (4, [.int cd, .ref a1, .ref a2, .ref a3, .ref a4, .ref a5, .ref a6, .ref a7, .ref a8, .int (nI np), .ref a10, .ref a11, .int (nI kc), .double kr, .int 1])), (a1, .inl (cI, 4, .inl (cnt nr))), (a2, .inl (cD, 48, .inr (.inr (.inr (.inl (flat 12 T2)))))), (a3, .inl (cD, 48, .inr (.inr (.inr (.inl (flat 12 R2))))))] := hD
      refine lv_aload_n hx hb dX4_radiusAt_47 rfl (lv_at hl 2 rfl) ?_
      refine va_get (D := (dC, dI)) (ci := 4) (v := .ref a3) (C := RX4) (T := TX4) (N := 15) hx hb hts (by decide +kernel) hown hK hP 0 rfl rfl 3 (by decide) (hts (.fieldLink RX4 17 "SteamBendsModel" "radii" "[D") (by decide +kernel)) (fun _ h9 => h9) rfl dX4_radiusAt_48 ?_
      refine lv_iload hx hb dX4_radiusAt_51 (lv_at hl 0 rfl) ?_
      refine va_daldV hx hb hK hP 3 1 rfl rfl (j := 12 * j + i9) (v := R2 j i9) (flat_at (k := j) (j := i9) rfl (by omega)) (by omega) (by omega) dX4_radiusAt_53 ?_
      refine lv_dstore (lv' := [(4, .double (R2 j i9)), (6, .int (nI (12 * j + i9))), (0, .ref mo), (1, .int (nI j)), (2, .double t)]) hx hb dX4_radiusAt_54 hl (by decide) rfl (fun ls hl => ?_)
      refine lv_goto (tgt := 158) hx hb dX4_radiusAt_56 (by decide) ?_
      refine lv_iinc (v := nI (12 * j + i9 + 1)) (lv' := [(6, .int (nI (12 * j + i9 + 1))), (4, .double (R2 j i9)), (0, .ref mo), (1, .int (nI j)), (2, .double t)]) hx hb dX4_radiusAt_158 hl (k := 1) rfl (show nI (12 * j + i9) + nI 1 = nI (12 * j + i9 + 1) from nI_add _ _) (by decide) rfl (fun ls hl => ?_)
      refine lv_goto (tgt := 14) hx hb dX4_radiusAt_161 (by decide) ?_
      have e9 := (rRad_a c_39 : rRad (T2 j) (R2 j) t (i9 + 1) = _)
      exact ih (n9 - 1) (by omega) (i9 + 1) _ _ _ ⟨(by rw [e9]; exact lv_sub hl [0, 1, 2, 3, 4] rfl), (by rw [e9]; exact hP.sub [0, 1, 2, 3] rfl), (by rw [e9]; exact hD.sub [0, 1, 2, 3] (by decide) rfl), hS, (show (i9 + 1) + (n9 - 1) = nr j from by omega)⟩

set_option maxHeartbeats 4000000 in
set_option maxRecDepth 100000 in
theorem m_X4_radius (l : Launch) (dC : Nat → ClassId) (dI : Nat → Nat → Nat) (sz : Nat) (cI cD : ClassId) (mo a1 a2 a3 a4 a5 a6 a7 a8 a10 a11 : Nat) (cd : Int32) (np kc : Nat) (kr : UInt64) (fd : Int32) (nr : Nat → Nat) (T2 R2 : Nat → Nat → UInt64) (kd : Int32) (j : Nat) (hj : j < 4) (hkj : kOK kd → kd = nI j) (t : UInt64) (ht : dB 1060 t) (hrow : rowsOK (T2 j) (R2 j) (nr j)) : Met l yX4_radius wsX4_radius ({ frames := 1, cells := 0, slots := 0, locals := 26 } : Room) (va_Pc [.ref mo, .int kd, .double t] (PW (dC, dI) [(cI, .int), (cD, .double)] [(mo, .inr (4, [.int cd, .ref a1, .ref a2, .ref a3, .ref a4, .ref a5, .ref a6, .ref a7, .ref a8, .int (nI np), .ref a10, .ref a11, .int (nI kc), .double kr, .int fd])), (a1, .inl (cI, 4, .inl (cnt nr))), (a2, .inl (cD, 48, .inr (.inr (.inr (.inl (flat 12 T2)))))), (a3, .inl (cD, 48, .inr (.inr (.inr (.inl (flat 12 R2))))))] sz)) (va_Qd (fun (r : UInt64) (u : Nat × Int32) => u.1 = cRad kd t (nr j) (T2 j) (R2 j) ∧ (u.1 = 0 → r = (rRad (T2 j) (R2 j) t (nr j)).getD noR)) (fun (u : Nat × Int32) => QW (dC, dI) [(mo, .inr (4, [.int (nI u.1), .ref a1, .ref a2, .ref a3, .ref a4, .ref a5, .ref a6, .ref a7, .ref a8, .int (nI np), .ref a10, .ref a11, .int (nI kc), .double kr, .int u.2])), (a1, .inl (cI, 4, .inl (cnt nr))), (a2, .inl (cD, 48, .inr (.inr (.inr (.inl (flat 12 T2)))))), (a3, .inl (cD, 48, .inr (.inr (.inr (.inl (flat 12 R2))))))] (va_A [(mo, .inr (4, [.int cd, .ref a1, .ref a2, .ref a3, .ref a4, .ref a5, .ref a6, .ref a7, .ref a8, .int (nI np), .ref a10, .ref a11, .int (nI kc), .double kr, .int fd])), (a1, .inl (cI, 4, .inl (cnt nr))), (a2, .inl (cD, 48, .inr (.inr (.inr (.inl (flat 12 T2)))))), (a3, .inl (cD, 48, .inr (.inr (.inr (.inl (flat 12 R2))))))] sz)) (va_A [(mo, .inr (4, [.int cd, .ref a1, .ref a2, .ref a3, .ref a4, .ref a5, .ref a6, .ref a7, .ref a8, .int (nI np), .ref a10, .ref a11, .int (nI kc), .double kr, .int fd])), (a1, .inl (cI, 4, .inl (cnt nr))), (a2, .inl (cD, 48, .inr (.inr (.inr (.inl (flat 12 T2)))))), (a3, .inl (cD, 48, .inr (.inr (.inr (.inl (flat 12 R2))))))] sz)) 0 0 (va_A [(mo, .inr (4, [.int cd, .ref a1, .ref a2, .ref a3, .ref a4, .ref a5, .ref a6, .ref a7, .ref a8, .int (nI np), .ref a10, .ref a11, .int (nI kc), .double kr, .int fd])), (a1, .inl (cI, 4, .inl (cnt nr))), (a2, .inl (cD, 48, .inr (.inr (.inr (.inl (flat 12 T2)))))), (a3, .inl (cD, 48, .inr (.inr (.inr (.inl (flat 12 R2))))))] sz) := by
  refine Met.ofW (cc := cX4_radius) (maxL := 6) (ret := (some .double)) (by decide) rfl ?_
  intro p e s m args below meth c s₁ BB hml hv
  obtain ⟨rfl, hsz, hP, hK, hD0, hN⟩ := hv
  have hx := BB.exec
  have hb := BB.bytes
  have hr := BB.returns
  have hts := atoms_spec (ws := wsX4_radius) BB.pre
  have hown : s.vm.findClass RX4 = some m.cls := findClass_of_methodNamed BB.named
  have hlocks := BB.notSynchronized
  subst hsz
  have hD := hD0.self (sz := s.heap.size)
  generalize hAe : va_A [(mo, .inr (4, [.int cd, .ref a1, .ref a2, .ref a3, .ref a4, .ref a5, .ref a6, .ref a7, .ref a8, .int (nI np), .ref a10, .ref a11, .int (nI kc), .double kr, .int fd])), (a1, .inl (cI, 4, .inl (cnt nr))), (a2, .inl (cD, 48, .inr (.inr (.inr (.inl (flat 12 T2)))))), (a3, .inl (cD, 48, .inr (.inr (.inr (.inl (flat 12 R2))))))] s.heap.size = A at hD ⊢
  have hA : ∀ q : Nat, s.heap.size ≤ q → A q := fun q h => by rw [← hAe]; exact Or.inr h
  have hS : va_S A s.heap s.heap [] := va_S.rf
  have hP : va_P (dC, dI) vwCl [(mo, .inr (4, [.int cd, .ref a1, .ref a2, .ref a3, .ref a4, .ref a5, .ref a6, .ref a7, .ref a8, .int (nI np), .ref a10, .ref a11, .int (nI kc), .double kr, .int fd])), (a1, .inl (cI, 4, .inl (cnt nr))), (a2, .inl (cD, 48, .inr (.inr (.inr (.inl (flat 12 T2)))))), (a3, .inl (cD, 48, .inr (.inr (.inr (.inl (flat 12 R2))))))] s.heap := hP
  have hl := lv_entry ([.ref mo, .int kd, .double t]) (n := 6) (Nat.le_of_ble_eq_true rfl)
  rw [lg_entry_eq]
  generalize (lg_sl ([.ref mo, .int kd, .double t]) ++ List.replicate (6 - (lg_sl ([.ref mo, .int kd, .double t])).length) Slot.unset).toArray = ls at hl ⊢
  have hl : lv_has ls 6 [(0, .ref mo), (1, .int kd), (2, .double t)] := hl
  have hn12 := hrow.1
  refine lv_aload_n hx hb dX4_radius_0 rfl (lv_at hl 0 rfl) ?_
  refine lv_iload_n hx hb dX4_radius_1 rfl (lv_at hl 1 rfl) ?_
  refine va_calli (va_runS (As := [.int kd]) (rest := [.ref mo]) ⟨hx, hb, hml, hown, hts⟩ (m_X4_isKind l kd) (va_cwS 1 hts gX4_radius_X4_isKind rfl rfl rfl (by decide +kernel) ⟨(Nat.le_of_ble_eq_true rfl), (Nat.le_of_ble_eq_true rfl)⟩) ⟨fun a U g mk q => q, fun U9 hU9 hW9 => ⟨rfl, trivial⟩⟩ rfl rfl hl.1 rfl (lv_room (Nat.le_of_ble_eq_true rfl)) dX4_radius_2 ⟨(Nat.le_of_ble_eq_true rfl), (Nat.le_of_ble_eq_true rfl)⟩) hS (fun q _ h => h.elim) (fun q h => h.elim) (fun r_93 u9s t9s H1 locs hht hvm9 hw_2_k_92 hB hz1 hk1 hS => ?_)
  have hP := va_still hP hk1
  generalize H1 = H at hP hS ⊢
  refine lv_if_ne (tgt := 12) hx hb dX4_radius_5 (by decide) (fun c_5 => ?_) (fun c_5 => ?_)
  · have c_5 := (b01n hw_2_k_92).mp c_5
    have hkd := hkj c_5
    subst hkd
    have hz9 : (nI j).toInt = (j : Int) := nI_toInt (by omega)
    have hl : lv_has ls 6 [(0, .ref mo), (1, .int (nI j)), (2, .double t)] := hl
    refine lv_dload_n hx hb dX4_radius_12 rfl (lv_at hl 2 rfl) ?_
    refine lv_dconst0 hx hb dX4_radius_13 ?_
    refine lv_ldc2d (v := 4652007308841189376) hx hb hown (hts (.constantDouble RX4 53 (4652007308841189376)) (by decide +kernel)) dX4_radius_14 ?_
    refine va_calli (va_runS (As := [.double t, .double FP.dconst0, .double 4652007308841189376]) (rest := [.ref mo]) ⟨hx, hb, hml, hown, hts⟩ (m_X4_isIn l t FP.dconst0 4652007308841189376 (ht.nn (by omega)) (dB_d0.nn (by omega)) ((by unfold dB; decide +kernel : dB 1033 4652007308841189376).nn (by omega))) (va_cwS 3 hts gX4_radius_X4_isIn rfl rfl rfl (by decide +kernel) ⟨(Nat.le_of_ble_eq_true rfl), (Nat.le_of_ble_eq_true rfl)⟩) ⟨fun a U g mk q => q, fun U9 hU9 hW9 => ⟨rfl, trivial⟩⟩ rfl rfl hl.1 rfl (lv_room (Nat.le_of_ble_eq_true rfl)) dX4_radius_17 ⟨(Nat.le_of_ble_eq_true rfl), (Nat.le_of_ble_eq_true rfl)⟩) hS (fun q _ h => h.elim) (fun q h => h.elim) (fun r_95 u9s t9s H1 locs hht hvm9 hw_17_k_94 hB hz1 hk1 hS => ?_)
    have hP := va_still hP hk1
    generalize H1 = H at hP hS ⊢
    refine lv_if_eq (tgt := 27) hx hb dX4_radius_20 (by decide) (fun c_20 => ?_) (fun c_20 => ?_)
    · have c_20 := (b01 hw_17_k_94).mp c_20
      refine lv_iconst (v := 2) hx hb dX4_radius_27 (by decide) ?_
      refine va_put (D := (dC, dI)) (ci := 4) (v := .int 2) (ty := .int) (C := RX4) (T := TX4) (N := 15) hx hb hts (by decide +kernel) tyX4 tyX4_ok nmX4 hown hK hP hD hS 0 rfl rfl 0 (by decide) (hts (.fieldLink RX4 43 "SteamBendsModel" "code" "I") (by decide +kernel)) (fun _ h9 => h9) rfl (by decide +kernel) rfl rfl (Nat.le_of_ble_eq_true rfl) dX4_radius_28 (fun H locs hP hD hS => ?_)
      have hP : va_P (dC, dI) vwCl [(mo, .inr (4, [.int 2, .ref a1, .ref a2, .ref a3, .ref a4, .ref a5, .ref a6, .ref a7, .ref a8, .int (nI np), .ref a10, .ref a11, .int (nI kc), .double kr, .int fd])), (a1, .inl (cI, 4, .inl (cnt nr))), (a2, .inl (cD, 48, .inr (.inr (.inr (.inl (flat 12 T2)))))), (a3, .inl (cD, 48, .inr (.inr (.inr (.inl (flat 12 R2))))))] H := hP
      have hD : va_D A [(mo, .inr (4, [.int 2, .ref a1, .ref a2, .ref a3, .ref a4, .ref a5, .ref a6, .ref a7, .ref a8, .int (nI np), .ref a10, .ref a11, .int (nI kc), .double kr, .int fd])), (a1, .inl (cI, 4, .inl (cnt nr))), (a2, .inl (cD, 48, .inr (.inr (.inr (.inl (flat 12 T2)))))), (a3, .inl (cD, 48, .inr (.inr (.inr (.inl (flat 12 R2))))))] := hD
      refine lv_aload_n hx hb dX4_radius_31 rfl (lv_at hl 0 rfl) ?_
      refine va_get (D := (dC, dI)) (ci := 4) (v := .int 2) (C := RX4) (T := TX4) (N := 15) hx hb hts (by decide +kernel) hown hK hP 0 rfl rfl 0 (by decide) (hts (.fieldLink RX4 43 "SteamBendsModel" "code" "I") (by decide +kernel)) (fun _ h9 => h9) rfl dX4_radius_32 ?_
      refine lv_if_le (tgt := 40) hx hb dX4_radius_35 (by decide) (fun c_35 => ?_) (fun c_35 => ?_)
      · exact absurd c_35 (by decide)
      · refine lv_dconst0 hx hb dX4_radius_38 ?_
        have hP9 := hP.sub (ws' := [(mo, .inr (4, [.int 2, .ref a1, .ref a2, .ref a3, .ref a4, .ref a5, .ref a6, .ref a7, .ref a8, .int (nI np), .ref a10, .ref a11, .int (nI kc), .double kr, .int fd])), (a1, .inl (cI, 4, .inl (cnt nr))), (a2, .inl (cD, 48, .inr (.inr (.inr (.inl (flat 12 T2)))))), (a3, .inl (cD, 48, .inr (.inr (.inr (.inl (flat 12 R2))))))]) [0, 1, 2, 3] rfl
        have hD9 := hD.sub (ws' := [(mo, .inr (4, [.int 2, .ref a1, .ref a2, .ref a3, .ref a4, .ref a5, .ref a6, .ref a7, .ref a8, .int (nI np), .ref a10, .ref a11, .int (nI kc), .double kr, .int fd])), (a1, .inl (cI, 4, .inl (cnt nr))), (a2, .inl (cD, 48, .inr (.inr (.inr (.inl (flat 12 T2)))))), (a3, .inl (cD, 48, .inr (.inr (.inr (.inl (flat 12 R2))))))]) [0, 1, 2, 3] (by decide) rfl
        exact W.dret hx hb hr (fun t9s hht hW9 => ⟨⟨FP.dconst0, (2, fd), rfl, ⟨(by show (2 : Nat) = _; unfold cRad; rw [if_neg (by omega), if_pos (by omega)]), fun z => absurd z (by simp)⟩, ⟨by rw [hht]; exact hP9, hD9⟩⟩, hS.F hht⟩) hS.2.2 dX4_radius_39
    · have c_20 := (b01n hw_17_k_94).mp c_20
      refine lv_iconst (v := 0) hx hb dX4_radius_23 (by decide) ?_
      refine lv_goto (tgt := 28) hx hb dX4_radius_24 (by decide) ?_
      refine va_put (D := (dC, dI)) (ci := 4) (v := .int 0) (ty := .int) (C := RX4) (T := TX4) (N := 15) hx hb hts (by decide +kernel) tyX4 tyX4_ok nmX4 hown hK hP hD hS 0 rfl rfl 0 (by decide) (hts (.fieldLink RX4 43 "SteamBendsModel" "code" "I") (by decide +kernel)) (fun _ h9 => h9) rfl (by decide +kernel) rfl rfl (Nat.le_of_ble_eq_true rfl) dX4_radius_28 (fun H locs hP hD hS => ?_)
      have hP : va_P (dC, dI) vwCl [(mo, .inr (4, [.int 0, .ref a1, .ref a2, .ref a3, .ref a4, .ref a5, .ref a6, .ref a7, .ref a8, .int (nI np), .ref a10, .ref a11, .int (nI kc), .double kr, .int fd])), (a1, .inl (cI, 4, .inl (cnt nr))), (a2, .inl (cD, 48, .inr (.inr (.inr (.inl (flat 12 T2)))))), (a3, .inl (cD, 48, .inr (.inr (.inr (.inl (flat 12 R2))))))] H := hP
      have hD : va_D A [(mo, .inr (4, [.int 0, .ref a1, .ref a2, .ref a3, .ref a4, .ref a5, .ref a6, .ref a7, .ref a8, .int (nI np), .ref a10, .ref a11, .int (nI kc), .double kr, .int fd])), (a1, .inl (cI, 4, .inl (cnt nr))), (a2, .inl (cD, 48, .inr (.inr (.inr (.inl (flat 12 T2)))))), (a3, .inl (cD, 48, .inr (.inr (.inr (.inl (flat 12 R2))))))] := hD
      refine lv_aload_n hx hb dX4_radius_31 rfl (lv_at hl 0 rfl) ?_
      refine va_get (D := (dC, dI)) (ci := 4) (v := .int 0) (C := RX4) (T := TX4) (N := 15) hx hb hts (by decide +kernel) hown hK hP 0 rfl rfl 0 (by decide) (hts (.fieldLink RX4 43 "SteamBendsModel" "code" "I") (by decide +kernel)) (fun _ h9 => h9) rfl dX4_radius_32 ?_
      refine lv_if_le (tgt := 40) hx hb dX4_radius_35 (by decide) (fun c_35 => ?_) (fun c_35 => ?_)
      · refine lv_aload_n hx hb dX4_radius_40 rfl (lv_at hl 0 rfl) ?_
        refine lv_iload_n hx hb dX4_radius_41 rfl (lv_at hl 1 rfl) ?_
        refine lv_dload_n hx hb dX4_radius_42 rfl (lv_at hl 2 rfl) ?_
        have hPc := hP.sub (ws' := [(mo, .inr (4, [.int 0, .ref a1, .ref a2, .ref a3, .ref a4, .ref a5, .ref a6, .ref a7, .ref a8, .int (nI np), .ref a10, .ref a11, .int (nI kc), .double kr, .int fd])), (a1, .inl (cI, 4, .inl (cnt nr))), (a2, .inl (cD, 48, .inr (.inr (.inr (.inl (flat 12 T2)))))), (a3, .inl (cD, 48, .inr (.inr (.inr (.inl (flat 12 R2))))))]) [0, 1, 2, 3] rfl
        have hKc := hK.sub (tys' := [(cI, .int), (cD, .double)]) [0, 1] rfl
        have hDc := hD.sub (ws' := [(mo, .inr (4, [.int 0, .ref a1, .ref a2, .ref a3, .ref a4, .ref a5, .ref a6, .ref a7, .ref a8, .int (nI np), .ref a10, .ref a11, .int (nI kc), .double kr, .int fd])), (a1, .inl (cI, 4, .inl (cnt nr))), (a2, .inl (cD, 48, .inr (.inr (.inr (.inl (flat 12 T2)))))), (a3, .inl (cD, 48, .inr (.inr (.inr (.inl (flat 12 R2))))))]) [0, 1, 2, 3] (by decide) rfl
        have hFc := va_free (wc := [(mo, .inr (4, [.int 0, .ref a1, .ref a2, .ref a3, .ref a4, .ref a5, .ref a6, .ref a7, .ref a8, .int (nI np), .ref a10, .ref a11, .int (nI kc), .double kr, .int fd])), (a1, .inl (cI, 4, .inl (cnt nr))), (a2, .inl (cD, 48, .inr (.inr (.inr (.inl (flat 12 T2)))))), (a3, .inl (cD, 48, .inr (.inr (.inr (.inl (flat 12 R2))))))]) hD hS hA [0, 1, 2, 3] rfl
        refine va_calld (va_runV (As := [.int (nI j), .double t]) (rest := []) ⟨hx, hb, hml, hown, hts⟩ (m_X4_radiusAt l dC dI H.size cI cD mo a1 a2 a3 a4 a5 a6 a7 a8 a10 a11 0 np kc kr fd nr T2 R2 j hj t (ht.mono (by omega) : dB 1064 _) hrow) (cwV 2 hts gX4_radius_X4_radiusAt rfl rfl rfl (by decide +kernel) ⟨(Nat.le_of_ble_eq_true rfl), (Nat.le_of_ble_eq_true rfl)⟩) ⟨PW.blind, va_recv hKc hPc (ci := 4) (q0 := 0) rfl rfl, fun U9 hU9 hW9 => ⟨rfl, PW.at hPc hKc hDc hN hU9 hW9⟩⟩ rfl rfl hl.1 rfl (lv_room (Nat.le_of_ble_eq_true rfl)) dX4_radius_43 ⟨(Nat.le_of_ble_eq_true rfl), (Nat.le_of_ble_eq_true rfl)⟩) hS (fun q _ h => hFc q h) hFc (fun r_97 u9s t9s H1 locs hht hvm9 hw_43_k_96 hB hz1 hk1 hS => ?_)
        obtain ⟨hP1, hD1⟩ := hB
        rw [hht] at hP1
        obtain ⟨hw1, hw2⟩ := hw_43_k_96
        subst hw2
        subst hw1
        obtain ⟨hP, hD⟩ := va_join (wr := []) (w1 := [(mo, .inr (4, [.int 0, .ref a1, .ref a2, .ref a3, .ref a4, .ref a5, .ref a6, .ref a7, .ref a8, .int (nI np), .ref a10, .ref a11, .int (nI kc), .double kr, .int (fnd (rRad (T2 j) (R2 j) t (nr j)))])), (a1, .inl (cI, 4, .inl (cnt nr))), (a2, .inl (cD, 48, .inr (.inr (.inr (.inl (flat 12 T2)))))), (a3, .inl (cD, 48, .inr (.inr (.inr (.inl (flat 12 R2))))))]) hP hD [0, 1, 2, 3] [] rfl rfl (by decide) (by decide) hk1 hFc hP1 hD1
        generalize H1 = H at hP hS ⊢
        have hP : va_P (dC, dI) vwCl [(mo, .inr (4, [.int 0, .ref a1, .ref a2, .ref a3, .ref a4, .ref a5, .ref a6, .ref a7, .ref a8, .int (nI np), .ref a10, .ref a11, .int (nI kc), .double kr, .int (fnd (rRad (T2 j) (R2 j) t (nr j)))])), (a1, .inl (cI, 4, .inl (cnt nr))), (a2, .inl (cD, 48, .inr (.inr (.inr (.inl (flat 12 T2)))))), (a3, .inl (cD, 48, .inr (.inr (.inr (.inl (flat 12 R2))))))] H := hP
        have hD : va_D A [(mo, .inr (4, [.int 0, .ref a1, .ref a2, .ref a3, .ref a4, .ref a5, .ref a6, .ref a7, .ref a8, .int (nI np), .ref a10, .ref a11, .int (nI kc), .double kr, .int (fnd (rRad (T2 j) (R2 j) t (nr j)))])), (a1, .inl (cI, 4, .inl (cnt nr))), (a2, .inl (cD, 48, .inr (.inr (.inr (.inl (flat 12 T2)))))), (a3, .inl (cD, 48, .inr (.inr (.inr (.inl (flat 12 R2))))))] := hD
        refine lv_dstore (lv' := [(4, .double ((rRad (T2 j) (R2 j) t (nr j)).getD FP.dconst0)), (0, .ref mo), (1, .int (nI j)), (2, .double t)]) hx hb dX4_radius_46 hl (by decide) rfl (fun ls hl => ?_)
        refine lv_aload_n hx hb dX4_radius_48 rfl (lv_at hl 1 rfl) ?_
        refine lv_aload_n hx hb dX4_radius_49 rfl (lv_at hl 1 rfl) ?_
        refine va_get (D := (dC, dI)) (ci := 4) (v := .int (fnd (rRad (T2 j) (R2 j) t (nr j)))) (C := RX4) (T := TX4) (N := 15) hx hb hts (by decide +kernel) hown hK hP 0 rfl rfl 14 (by decide) (hts (.fieldLink RX4 61 "SteamBendsModel" "isFound" "Z") (by decide +kernel)) (fun _ h9 => h9) rfl dX4_radius_50 ?_
        refine lv_if_eq (tgt := 60) hx hb dX4_radius_53 (by decide) (fun c_53 => ?_) (fun c_53 => ?_)
        · have c_53 := (b01 (fnd_hw _)).mp c_53
          refine lv_iconst (v := 3) hx hb dX4_radius_60 (by decide) ?_
          refine va_put (D := (dC, dI)) (ci := 4) (v := .int 3) (ty := .int) (C := RX4) (T := TX4) (N := 15) hx hb hts (by decide +kernel) tyX4 tyX4_ok nmX4 hown hK hP hD hS 0 rfl rfl 0 (by decide) (hts (.fieldLink RX4 43 "SteamBendsModel" "code" "I") (by decide +kernel)) (fun _ h9 => h9) rfl (by decide +kernel) rfl rfl (Nat.le_of_ble_eq_true rfl) dX4_radius_61 (fun H locs hP hD hS => ?_)
          have hP : va_P (dC, dI) vwCl [(mo, .inr (4, [.int 3, .ref a1, .ref a2, .ref a3, .ref a4, .ref a5, .ref a6, .ref a7, .ref a8, .int (nI np), .ref a10, .ref a11, .int (nI kc), .double kr, .int (fnd (rRad (T2 j) (R2 j) t (nr j)))])), (a1, .inl (cI, 4, .inl (cnt nr))), (a2, .inl (cD, 48, .inr (.inr (.inr (.inl (flat 12 T2)))))), (a3, .inl (cD, 48, .inr (.inr (.inr (.inl (flat 12 R2))))))] H := hP
          have hD : va_D A [(mo, .inr (4, [.int 3, .ref a1, .ref a2, .ref a3, .ref a4, .ref a5, .ref a6, .ref a7, .ref a8, .int (nI np), .ref a10, .ref a11, .int (nI kc), .double kr, .int (fnd (rRad (T2 j) (R2 j) t (nr j)))])), (a1, .inl (cI, 4, .inl (cnt nr))), (a2, .inl (cD, 48, .inr (.inr (.inr (.inl (flat 12 T2)))))), (a3, .inl (cD, 48, .inr (.inr (.inr (.inl (flat 12 R2))))))] := hD
          refine lv_aload_n hx hb dX4_radius_64 rfl (lv_at hl 1 rfl) ?_
          refine va_get (D := (dC, dI)) (ci := 4) (v := .int 3) (C := RX4) (T := TX4) (N := 15) hx hb hts (by decide +kernel) hown hK hP 0 rfl rfl 0 (by decide) (hts (.fieldLink RX4 43 "SteamBendsModel" "code" "I") (by decide +kernel)) (fun _ h9 => h9) rfl dX4_radius_65 ?_
          refine lv_if_le (tgt := 75) hx hb dX4_radius_68 (by decide) (fun c_68 => ?_) (fun c_68 => ?_)
          · exact absurd c_68 (by decide)
          · refine lv_dconst0 hx hb dX4_radius_71 ?_
            refine lv_goto (tgt := 77) hx hb dX4_radius_72 (by decide) ?_
            have hP9 := hP.sub (ws' := [(mo, .inr (4, [.int 3, .ref a1, .ref a2, .ref a3, .ref a4, .ref a5, .ref a6, .ref a7, .ref a8, .int (nI np), .ref a10, .ref a11, .int (nI kc), .double kr, .int (fnd (rRad (T2 j) (R2 j) t (nr j)))])), (a1, .inl (cI, 4, .inl (cnt nr))), (a2, .inl (cD, 48, .inr (.inr (.inr (.inl (flat 12 T2)))))), (a3, .inl (cD, 48, .inr (.inr (.inr (.inl (flat 12 R2))))))]) [0, 1, 2, 3] rfl
            have hD9 := hD.sub (ws' := [(mo, .inr (4, [.int 3, .ref a1, .ref a2, .ref a3, .ref a4, .ref a5, .ref a6, .ref a7, .ref a8, .int (nI np), .ref a10, .ref a11, .int (nI kc), .double kr, .int (fnd (rRad (T2 j) (R2 j) t (nr j)))])), (a1, .inl (cI, 4, .inl (cnt nr))), (a2, .inl (cD, 48, .inr (.inr (.inr (.inl (flat 12 T2)))))), (a3, .inl (cD, 48, .inr (.inr (.inr (.inl (flat 12 R2))))))]) [0, 1, 2, 3] (by decide) rfl
            exact W.dret hx hb hr (fun t9s hht hW9 => ⟨⟨FP.dconst0, (3, fnd (rRad (T2 j) (R2 j) t (nr j))), rfl, ⟨(by show (3 : Nat) = _; unfold cRad; rw [if_neg (by omega), if_neg (by omega), if_pos (isS_none c_53)]), fun z => absurd z (by simp)⟩, ⟨by rw [hht]; exact hP9, hD9⟩⟩, hS.F hht⟩) hS.2.2 dX4_radius_77
        · have c_53 := (b01n (fnd_hw _)).mp c_53
          refine lv_iconst (v := 0) hx hb dX4_radius_56 (by decide) ?_
          refine lv_goto (tgt := 61) hx hb dX4_radius_57 (by decide) ?_
          refine va_put (D := (dC, dI)) (ci := 4) (v := .int 0) (ty := .int) (C := RX4) (T := TX4) (N := 15) hx hb hts (by decide +kernel) tyX4 tyX4_ok nmX4 hown hK hP hD hS 0 rfl rfl 0 (by decide) (hts (.fieldLink RX4 43 "SteamBendsModel" "code" "I") (by decide +kernel)) (fun _ h9 => h9) rfl (by decide +kernel) rfl rfl (Nat.le_of_ble_eq_true rfl) dX4_radius_61 (fun H locs hP hD hS => ?_)
          have hP : va_P (dC, dI) vwCl [(mo, .inr (4, [.int 0, .ref a1, .ref a2, .ref a3, .ref a4, .ref a5, .ref a6, .ref a7, .ref a8, .int (nI np), .ref a10, .ref a11, .int (nI kc), .double kr, .int (fnd (rRad (T2 j) (R2 j) t (nr j)))])), (a1, .inl (cI, 4, .inl (cnt nr))), (a2, .inl (cD, 48, .inr (.inr (.inr (.inl (flat 12 T2)))))), (a3, .inl (cD, 48, .inr (.inr (.inr (.inl (flat 12 R2))))))] H := hP
          have hD : va_D A [(mo, .inr (4, [.int 0, .ref a1, .ref a2, .ref a3, .ref a4, .ref a5, .ref a6, .ref a7, .ref a8, .int (nI np), .ref a10, .ref a11, .int (nI kc), .double kr, .int (fnd (rRad (T2 j) (R2 j) t (nr j)))])), (a1, .inl (cI, 4, .inl (cnt nr))), (a2, .inl (cD, 48, .inr (.inr (.inr (.inl (flat 12 T2)))))), (a3, .inl (cD, 48, .inr (.inr (.inr (.inl (flat 12 R2))))))] := hD
          refine lv_aload_n hx hb dX4_radius_64 rfl (lv_at hl 1 rfl) ?_
          refine va_get (D := (dC, dI)) (ci := 4) (v := .int 0) (C := RX4) (T := TX4) (N := 15) hx hb hts (by decide +kernel) hown hK hP 0 rfl rfl 0 (by decide) (hts (.fieldLink RX4 43 "SteamBendsModel" "code" "I") (by decide +kernel)) (fun _ h9 => h9) rfl dX4_radius_65 ?_
          refine lv_if_le (tgt := 75) hx hb dX4_radius_68 (by decide) (fun c_68 => ?_) (fun c_68 => ?_)
          · refine lv_dload hx hb dX4_radius_75 (lv_at hl 0 rfl) ?_
            have hP9 := hP.sub (ws' := [(mo, .inr (4, [.int 0, .ref a1, .ref a2, .ref a3, .ref a4, .ref a5, .ref a6, .ref a7, .ref a8, .int (nI np), .ref a10, .ref a11, .int (nI kc), .double kr, .int (fnd (rRad (T2 j) (R2 j) t (nr j)))])), (a1, .inl (cI, 4, .inl (cnt nr))), (a2, .inl (cD, 48, .inr (.inr (.inr (.inl (flat 12 T2)))))), (a3, .inl (cD, 48, .inr (.inr (.inr (.inl (flat 12 R2))))))]) [0, 1, 2, 3] rfl
            have hD9 := hD.sub (ws' := [(mo, .inr (4, [.int 0, .ref a1, .ref a2, .ref a3, .ref a4, .ref a5, .ref a6, .ref a7, .ref a8, .int (nI np), .ref a10, .ref a11, .int (nI kc), .double kr, .int (fnd (rRad (T2 j) (R2 j) t (nr j)))])), (a1, .inl (cI, 4, .inl (cnt nr))), (a2, .inl (cD, 48, .inr (.inr (.inr (.inl (flat 12 T2)))))), (a3, .inl (cD, 48, .inr (.inr (.inr (.inl (flat 12 R2))))))]) [0, 1, 2, 3] (by decide) rfl
            exact W.dret hx hb hr (fun t9s hht hW9 => ⟨⟨(rRad (T2 j) (R2 j) t (nr j)).getD FP.dconst0, (0, fnd (rRad (T2 j) (R2 j) t (nr j))), rfl, ⟨(by show (0 : Nat) = _; unfold cRad; rw [if_neg (by omega), if_neg (by omega), if_neg (isS_ne c_53)]), fun _ => isS_get c_53 _ _⟩, ⟨by rw [hht]; exact hP9, hD9⟩⟩, hS.F hht⟩) hS.2.2 dX4_radius_77
          · exact absurd c_68 (by decide)
      · exact absurd c_35 (by decide)
  · have c_5 := (b01 hw_2_k_92).mp c_5
    refine lv_iconst (v := 1) hx hb dX4_radius_8 (by decide) ?_
    refine lv_goto (tgt := 28) hx hb dX4_radius_9 (by decide) ?_
    refine va_put (D := (dC, dI)) (ci := 4) (v := .int 1) (ty := .int) (C := RX4) (T := TX4) (N := 15) hx hb hts (by decide +kernel) tyX4 tyX4_ok nmX4 hown hK hP hD hS 0 rfl rfl 0 (by decide) (hts (.fieldLink RX4 43 "SteamBendsModel" "code" "I") (by decide +kernel)) (fun _ h9 => h9) rfl (by decide +kernel) rfl rfl (Nat.le_of_ble_eq_true rfl) dX4_radius_28 (fun H locs hP hD hS => ?_)
    have hP : va_P (dC, dI) vwCl [(mo, .inr (4, [.int 1, .ref a1, .ref a2, .ref a3, .ref a4, .ref a5, .ref a6, .ref a7, .ref a8, .int (nI np), .ref a10, .ref a11, .int (nI kc), .double kr, .int fd])), (a1, .inl (cI, 4, .inl (cnt nr))), (a2, .inl (cD, 48, .inr (.inr (.inr (.inl (flat 12 T2)))))), (a3, .inl (cD, 48, .inr (.inr (.inr (.inl (flat 12 R2))))))] H := hP
    have hD : va_D A [(mo, .inr (4, [.int 1, .ref a1, .ref a2, .ref a3, .ref a4, .ref a5, .ref a6, .ref a7, .ref a8, .int (nI np), .ref a10, .ref a11, .int (nI kc), .double kr, .int fd])), (a1, .inl (cI, 4, .inl (cnt nr))), (a2, .inl (cD, 48, .inr (.inr (.inr (.inl (flat 12 T2)))))), (a3, .inl (cD, 48, .inr (.inr (.inr (.inl (flat 12 R2))))))] := hD
    refine lv_aload_n hx hb dX4_radius_31 rfl (lv_at hl 0 rfl) ?_
    refine va_get (D := (dC, dI)) (ci := 4) (v := .int 1) (C := RX4) (T := TX4) (N := 15) hx hb hts (by decide +kernel) hown hK hP 0 rfl rfl 0 (by decide) (hts (.fieldLink RX4 43 "SteamBendsModel" "code" "I") (by decide +kernel)) (fun _ h9 => h9) rfl dX4_radius_32 ?_
    refine lv_if_le (tgt := 40) hx hb dX4_radius_35 (by decide) (fun c_35 => ?_) (fun c_35 => ?_)
    · exact absurd c_35 (by decide)
    · refine lv_dconst0 hx hb dX4_radius_38 ?_
      have hP9 := hP.sub (ws' := [(mo, .inr (4, [.int 1, .ref a1, .ref a2, .ref a3, .ref a4, .ref a5, .ref a6, .ref a7, .ref a8, .int (nI np), .ref a10, .ref a11, .int (nI kc), .double kr, .int fd])), (a1, .inl (cI, 4, .inl (cnt nr))), (a2, .inl (cD, 48, .inr (.inr (.inr (.inl (flat 12 T2)))))), (a3, .inl (cD, 48, .inr (.inr (.inr (.inl (flat 12 R2))))))]) [0, 1, 2, 3] rfl
      have hD9 := hD.sub (ws' := [(mo, .inr (4, [.int 1, .ref a1, .ref a2, .ref a3, .ref a4, .ref a5, .ref a6, .ref a7, .ref a8, .int (nI np), .ref a10, .ref a11, .int (nI kc), .double kr, .int fd])), (a1, .inl (cI, 4, .inl (cnt nr))), (a2, .inl (cD, 48, .inr (.inr (.inr (.inl (flat 12 T2)))))), (a3, .inl (cD, 48, .inr (.inr (.inr (.inl (flat 12 R2))))))]) [0, 1, 2, 3] (by decide) rfl
      exact W.dret hx hb hr (fun t9s hht hW9 => ⟨⟨FP.dconst0, (1, fd), rfl, ⟨(by show (1 : Nat) = _; unfold cRad; rw [if_pos c_5]), fun z => absurd z (by simp)⟩, ⟨by rw [hht]; exact hP9, hD9⟩⟩, hS.F hht⟩) hS.2.2 dX4_radius_39

set_option maxHeartbeats 4000000 in
set_option maxRecDepth 100000 in
theorem m_X4_strips (l : Launch) (dC : Nat → ClassId) (dI : Nat → Nat → Nat) (sz : Nat) (cI cD : ClassId) (mo a1 a2 a3 a4 a5 a6 a7 a8 a10 a11 : Nat) (cd : Int32) (np kc : Nat) (kr : UInt64) (fd : Int32) (nr : Nat → Nat) (T2 R2 : Nat → Nat → UInt64) (kd : Int32) (j : Nat) (hj : j < 4) (hkj : kOK kd → kd = nI j) (t w : UInt64) (ht : dB 1060 t) (hw : dB 1060 w) (hrow : rowsOK (T2 j) (R2 j) (nr j)) : Met l yX4_strips wsX4_strips ({ frames := 1, cells := 0, slots := 0, locals := 26 } : Room) (va_Pc [.ref mo, .int kd, .double t, .double w] (PW (dC, dI) [(cI, .int), (cD, .double)] [(mo, .inr (4, [.int cd, .ref a1, .ref a2, .ref a3, .ref a4, .ref a5, .ref a6, .ref a7, .ref a8, .int (nI np), .ref a10, .ref a11, .int (nI kc), .double kr, .int fd])), (a1, .inl (cI, 4, .inl (cnt nr))), (a2, .inl (cD, 48, .inr (.inr (.inr (.inl (flat 12 T2)))))), (a3, .inl (cD, 48, .inr (.inr (.inr (.inl (flat 12 R2))))))] sz)) (va_Qi (fun (r : Int32) (u : Nat × Int32) => u.1 = cStr kd t w ∧ (u.1 = 0 → r = strp (T2 j) (R2 j) (nr j) t w 100 1)) (fun (u : Nat × Int32) => QW (dC, dI) [(mo, .inr (4, [.int (nI u.1), .ref a1, .ref a2, .ref a3, .ref a4, .ref a5, .ref a6, .ref a7, .ref a8, .int (nI np), .ref a10, .ref a11, .int (nI kc), .double kr, .int u.2])), (a1, .inl (cI, 4, .inl (cnt nr))), (a2, .inl (cD, 48, .inr (.inr (.inr (.inl (flat 12 T2)))))), (a3, .inl (cD, 48, .inr (.inr (.inr (.inl (flat 12 R2))))))] (va_A [(mo, .inr (4, [.int cd, .ref a1, .ref a2, .ref a3, .ref a4, .ref a5, .ref a6, .ref a7, .ref a8, .int (nI np), .ref a10, .ref a11, .int (nI kc), .double kr, .int fd])), (a1, .inl (cI, 4, .inl (cnt nr))), (a2, .inl (cD, 48, .inr (.inr (.inr (.inl (flat 12 T2)))))), (a3, .inl (cD, 48, .inr (.inr (.inr (.inl (flat 12 R2))))))] sz)) (va_A [(mo, .inr (4, [.int cd, .ref a1, .ref a2, .ref a3, .ref a4, .ref a5, .ref a6, .ref a7, .ref a8, .int (nI np), .ref a10, .ref a11, .int (nI kc), .double kr, .int fd])), (a1, .inl (cI, 4, .inl (cnt nr))), (a2, .inl (cD, 48, .inr (.inr (.inr (.inl (flat 12 T2)))))), (a3, .inl (cD, 48, .inr (.inr (.inr (.inl (flat 12 R2))))))] sz)) 0 0 (va_A [(mo, .inr (4, [.int cd, .ref a1, .ref a2, .ref a3, .ref a4, .ref a5, .ref a6, .ref a7, .ref a8, .int (nI np), .ref a10, .ref a11, .int (nI kc), .double kr, .int fd])), (a1, .inl (cI, 4, .inl (cnt nr))), (a2, .inl (cD, 48, .inr (.inr (.inr (.inl (flat 12 T2)))))), (a3, .inl (cD, 48, .inr (.inr (.inr (.inl (flat 12 R2))))))] sz) := by
  refine Met.ofW (cc := cX4_strips) (maxL := 9) (ret := (some .int)) (by decide) rfl ?_
  intro p e s m args below meth c s₁ BB hml hv
  obtain ⟨rfl, hsz, hP, hK, hD0, hN⟩ := hv
  have hx := BB.exec
  have hb := BB.bytes
  have hr := BB.returns
  have hts := atoms_spec (ws := wsX4_strips) BB.pre
  have hown : s.vm.findClass RX4 = some m.cls := findClass_of_methodNamed BB.named
  have hlocks := BB.notSynchronized
  subst hsz
  have hD := hD0.self (sz := s.heap.size)
  generalize hAe : va_A [(mo, .inr (4, [.int cd, .ref a1, .ref a2, .ref a3, .ref a4, .ref a5, .ref a6, .ref a7, .ref a8, .int (nI np), .ref a10, .ref a11, .int (nI kc), .double kr, .int fd])), (a1, .inl (cI, 4, .inl (cnt nr))), (a2, .inl (cD, 48, .inr (.inr (.inr (.inl (flat 12 T2)))))), (a3, .inl (cD, 48, .inr (.inr (.inr (.inl (flat 12 R2))))))] s.heap.size = A at hD ⊢
  have hA : ∀ q : Nat, s.heap.size ≤ q → A q := fun q h => by rw [← hAe]; exact Or.inr h
  have hS : va_S A s.heap s.heap [] := va_S.rf
  have hP : va_P (dC, dI) vwCl [(mo, .inr (4, [.int cd, .ref a1, .ref a2, .ref a3, .ref a4, .ref a5, .ref a6, .ref a7, .ref a8, .int (nI np), .ref a10, .ref a11, .int (nI kc), .double kr, .int fd])), (a1, .inl (cI, 4, .inl (cnt nr))), (a2, .inl (cD, 48, .inr (.inr (.inr (.inl (flat 12 T2)))))), (a3, .inl (cD, 48, .inr (.inr (.inr (.inl (flat 12 R2))))))] s.heap := hP
  have hl := lv_entry ([.ref mo, .int kd, .double t, .double w]) (n := 9) (Nat.le_of_ble_eq_true rfl)
  rw [lg_entry_eq]
  generalize (lg_sl ([.ref mo, .int kd, .double t, .double w]) ++ List.replicate (9 - (lg_sl ([.ref mo, .int kd, .double t, .double w])).length) Slot.unset).toArray = ls at hl ⊢
  have hl : lv_has ls 9 [(0, .ref mo), (1, .int kd), (2, .double t), (4, .double w)] := hl
  have hn12 := hrow.1
  refine lv_aload_n hx hb dX4_strips_0 rfl (lv_at hl 0 rfl) ?_
  refine lv_iload_n hx hb dX4_strips_1 rfl (lv_at hl 1 rfl) ?_
  refine va_calli (va_runS (As := [.int kd]) (rest := [.ref mo]) ⟨hx, hb, hml, hown, hts⟩ (m_X4_isKind l kd) (va_cwS 1 hts gX4_strips_X4_isKind rfl rfl rfl (by decide +kernel) ⟨(Nat.le_of_ble_eq_true rfl), (Nat.le_of_ble_eq_true rfl)⟩) ⟨fun a U g mk q => q, fun U9 hU9 hW9 => ⟨rfl, trivial⟩⟩ rfl rfl hl.1 rfl (lv_room (Nat.le_of_ble_eq_true rfl)) dX4_strips_2 ⟨(Nat.le_of_ble_eq_true rfl), (Nat.le_of_ble_eq_true rfl)⟩) hS (fun q _ h => h.elim) (fun q h => h.elim) (fun r_99 u9s t9s H1 locs hht hvm9 hw_2_k_98 hB hz1 hk1 hS => ?_)
  have hP := va_still hP hk1
  generalize H1 = H at hP hS ⊢
  refine lv_if_ne (tgt := 12) hx hb dX4_strips_5 (by decide) (fun c_5 => ?_) (fun c_5 => ?_)
  · have c_5 := (b01n hw_2_k_98).mp c_5
    have hkd := hkj c_5
    subst hkd
    have hz9 : (nI j).toInt = (j : Int) := nI_toInt (by omega)
    have hl : lv_has ls 9 [(0, .ref mo), (1, .int (nI j)), (2, .double t), (4, .double w)] := hl
    refine lv_dload_n hx hb dX4_strips_12 rfl (lv_at hl 2 rfl) ?_
    refine lv_ldc2d (v := 4593671619917905920) hx hb hown (hts (.constantDouble RX4 51 (4593671619917905920)) (by decide +kernel)) dX4_strips_13 ?_
    refine lv_ldc2d (v := 4666723172467343360) hx hb hown (hts (.constantDouble RX4 59 (4666723172467343360)) (by decide +kernel)) dX4_strips_16 ?_
    refine va_calli (va_runS (As := [.double t, .double 4593671619917905920, .double 4666723172467343360]) (rest := [.ref mo]) ⟨hx, hb, hml, hown, hts⟩ (m_X4_isIn l t 4593671619917905920 4666723172467343360 (ht.nn (by omega)) ((by unfold dB; decide +kernel : dB 1021 4593671619917905920).nn (by omega)) ((by unfold dB; decide +kernel : dB 1037 4666723172467343360).nn (by omega))) (va_cwS 3 hts gX4_strips_X4_isIn rfl rfl rfl (by decide +kernel) ⟨(Nat.le_of_ble_eq_true rfl), (Nat.le_of_ble_eq_true rfl)⟩) ⟨fun a U g mk q => q, fun U9 hU9 hW9 => ⟨rfl, trivial⟩⟩ rfl rfl hl.1 rfl (lv_room (Nat.le_of_ble_eq_true rfl)) dX4_strips_19 ⟨(Nat.le_of_ble_eq_true rfl), (Nat.le_of_ble_eq_true rfl)⟩) hS (fun q _ h => h.elim) (fun q h => h.elim) (fun r_101 u9s t9s H1 locs hht hvm9 hw_19_k_100 hB hz1 hk1 hS => ?_)
    have hP := va_still hP hk1
    generalize H1 = H at hP hS ⊢
    refine lv_if_eq (tgt := 43) hx hb dX4_strips_22 (by decide) (fun c_22 => ?_) (fun c_22 => ?_)
    · have c_22 := (b01 hw_19_k_100).mp c_22
      refine lv_iconst (v := 2) hx hb dX4_strips_43 (by decide) ?_
      refine va_put (D := (dC, dI)) (ci := 4) (v := .int 2) (ty := .int) (C := RX4) (T := TX4) (N := 15) hx hb hts (by decide +kernel) tyX4 tyX4_ok nmX4 hown hK hP hD hS 0 rfl rfl 0 (by decide) (hts (.fieldLink RX4 43 "SteamBendsModel" "code" "I") (by decide +kernel)) (fun _ h9 => h9) rfl (by decide +kernel) rfl rfl (Nat.le_of_ble_eq_true rfl) dX4_strips_44 (fun H locs hP hD hS => ?_)
      have hP : va_P (dC, dI) vwCl [(mo, .inr (4, [.int 2, .ref a1, .ref a2, .ref a3, .ref a4, .ref a5, .ref a6, .ref a7, .ref a8, .int (nI np), .ref a10, .ref a11, .int (nI kc), .double kr, .int fd])), (a1, .inl (cI, 4, .inl (cnt nr))), (a2, .inl (cD, 48, .inr (.inr (.inr (.inl (flat 12 T2)))))), (a3, .inl (cD, 48, .inr (.inr (.inr (.inl (flat 12 R2))))))] H := hP
      have hD : va_D A [(mo, .inr (4, [.int 2, .ref a1, .ref a2, .ref a3, .ref a4, .ref a5, .ref a6, .ref a7, .ref a8, .int (nI np), .ref a10, .ref a11, .int (nI kc), .double kr, .int fd])), (a1, .inl (cI, 4, .inl (cnt nr))), (a2, .inl (cD, 48, .inr (.inr (.inr (.inl (flat 12 T2)))))), (a3, .inl (cD, 48, .inr (.inr (.inr (.inl (flat 12 R2))))))] := hD
      refine lv_iconst (v := 1) hx hb dX4_strips_47 (by decide) ?_
      refine lv_istore (lv' := [(6, .int 1), (0, .ref mo), (1, .int (nI j)), (2, .double t), (4, .double w)]) hx hb dX4_strips_48 hl (by decide) rfl (fun ls hl => ?_)
      refine lv_iload hx hb dX4_strips_50 (lv_at hl 0 rfl) ?_
      refine lv_bipush (v := 100) hx hb dX4_strips_52 (by decide) ?_
      refine lv_icmp_gt (tgt := 100) hx hb dX4_strips_54 (by decide) (fun c_54 => ?_) (fun c_54 => ?_)
      · have c_54 := (nI_ltI (a := 100) (b := 1) (by omega) (by omega)).mp c_54
        refine lv_aload_n hx hb dX4_strips_100 rfl (lv_at hl 1 rfl) ?_
        refine va_get (D := (dC, dI)) (ci := 4) (v := .int 2) (C := RX4) (T := TX4) (N := 15) hx hb hts (by decide +kernel) hown hK hP 0 rfl rfl 0 (by decide) (hts (.fieldLink RX4 43 "SteamBendsModel" "code" "I") (by decide +kernel)) (fun _ h9 => h9) rfl dX4_strips_101 ?_
        refine lv_if_le (tgt := 111) hx hb dX4_strips_104 (by decide) (fun c_104 => ?_) (fun c_104 => ?_)
        · exact absurd c_104 (by decide)
        · refine lv_iconst (v := 0) hx hb dX4_strips_107 (by decide) ?_
          refine lv_goto (tgt := 112) hx hb dX4_strips_108 (by decide) ?_
          have hP9 := hP.sub (ws' := [(mo, .inr (4, [.int 2, .ref a1, .ref a2, .ref a3, .ref a4, .ref a5, .ref a6, .ref a7, .ref a8, .int (nI np), .ref a10, .ref a11, .int (nI kc), .double kr, .int fd])), (a1, .inl (cI, 4, .inl (cnt nr))), (a2, .inl (cD, 48, .inr (.inr (.inr (.inl (flat 12 T2)))))), (a3, .inl (cD, 48, .inr (.inr (.inr (.inl (flat 12 R2))))))]) [0, 1, 2, 3] rfl
          have hD9 := hD.sub (ws' := [(mo, .inr (4, [.int 2, .ref a1, .ref a2, .ref a3, .ref a4, .ref a5, .ref a6, .ref a7, .ref a8, .int (nI np), .ref a10, .ref a11, .int (nI kc), .double kr, .int fd])), (a1, .inl (cI, 4, .inl (cnt nr))), (a2, .inl (cD, 48, .inr (.inr (.inr (.inl (flat 12 T2)))))), (a3, .inl (cD, 48, .inr (.inr (.inr (.inl (flat 12 R2))))))]) [0, 1, 2, 3] (by decide) rfl
          exact W.iret hx hb hr (fun t9s hht hW9 => ⟨⟨0, (2, fd), rfl, ⟨(by show (2 : Nat) = _; unfold cStr; (repeat' split) <;> omega), fun z => absurd z (by simp)⟩, ⟨by rw [hht]; exact hP9, hD9⟩⟩, hS.F hht⟩) hS.2.2 dX4_strips_112
      · have c_54 := mt (nI_ltI (a := 100) (b := 1) (by omega) (by omega)).mpr c_54
        refine lv_aload_n hx hb dX4_strips_57 rfl (lv_at hl 1 rfl) ?_
        refine va_get (D := (dC, dI)) (ci := 4) (v := .int 2) (C := RX4) (T := TX4) (N := 15) hx hb hts (by decide +kernel) hown hK hP 0 rfl rfl 0 (by decide) (hts (.fieldLink RX4 43 "SteamBendsModel" "code" "I") (by decide +kernel)) (fun _ h9 => h9) rfl dX4_strips_58 ?_
        refine lv_if_ne (tgt := 100) hx hb dX4_strips_61 (by decide) (fun c_61 => ?_) (fun c_61 => ?_)
        · refine lv_aload_n hx hb dX4_strips_100 rfl (lv_at hl 1 rfl) ?_
          refine va_get (D := (dC, dI)) (ci := 4) (v := .int 2) (C := RX4) (T := TX4) (N := 15) hx hb hts (by decide +kernel) hown hK hP 0 rfl rfl 0 (by decide) (hts (.fieldLink RX4 43 "SteamBendsModel" "code" "I") (by decide +kernel)) (fun _ h9 => h9) rfl dX4_strips_101 ?_
          refine lv_if_le (tgt := 111) hx hb dX4_strips_104 (by decide) (fun c_104 => ?_) (fun c_104 => ?_)
          · exact absurd c_104 (by decide)
          · refine lv_iconst (v := 0) hx hb dX4_strips_107 (by decide) ?_
            refine lv_goto (tgt := 112) hx hb dX4_strips_108 (by decide) ?_
            have hP9 := hP.sub (ws' := [(mo, .inr (4, [.int 2, .ref a1, .ref a2, .ref a3, .ref a4, .ref a5, .ref a6, .ref a7, .ref a8, .int (nI np), .ref a10, .ref a11, .int (nI kc), .double kr, .int fd])), (a1, .inl (cI, 4, .inl (cnt nr))), (a2, .inl (cD, 48, .inr (.inr (.inr (.inl (flat 12 T2)))))), (a3, .inl (cD, 48, .inr (.inr (.inr (.inl (flat 12 R2))))))]) [0, 1, 2, 3] rfl
            have hD9 := hD.sub (ws' := [(mo, .inr (4, [.int 2, .ref a1, .ref a2, .ref a3, .ref a4, .ref a5, .ref a6, .ref a7, .ref a8, .int (nI np), .ref a10, .ref a11, .int (nI kc), .double kr, .int fd])), (a1, .inl (cI, 4, .inl (cnt nr))), (a2, .inl (cD, 48, .inr (.inr (.inr (.inl (flat 12 T2)))))), (a3, .inl (cD, 48, .inr (.inr (.inr (.inl (flat 12 R2))))))]) [0, 1, 2, 3] (by decide) rfl
            exact W.iret hx hb hr (fun t9s hht hW9 => ⟨⟨0, (2, fd), rfl, ⟨(by show (2 : Nat) = _; unfold cStr; (repeat' split) <;> omega), fun z => absurd z (by simp)⟩, ⟨by rw [hht]; exact hP9, hD9⟩⟩, hS.F hht⟩) hS.2.2 dX4_strips_112
        · exact absurd c_61 (by decide)
    · have c_22 := (b01n hw_19_k_100).mp c_22
      refine lv_dload hx hb dX4_strips_25 (lv_at hl 3 rfl) ?_
      refine lv_ldc2d (v := 4593671619917905920) hx hb hown (hts (.constantDouble RX4 51 (4593671619917905920)) (by decide +kernel)) dX4_strips_27 ?_
      refine lv_ldc2d (v := 4666723172467343360) hx hb hown (hts (.constantDouble RX4 59 (4666723172467343360)) (by decide +kernel)) dX4_strips_30 ?_
      refine va_calli (va_runS (As := [.double w, .double 4593671619917905920, .double 4666723172467343360]) (rest := [.ref mo]) ⟨hx, hb, hml, hown, hts⟩ (m_X4_isIn l w 4593671619917905920 4666723172467343360 (hw.nn (by omega)) ((by unfold dB; decide +kernel : dB 1021 4593671619917905920).nn (by omega)) ((by unfold dB; decide +kernel : dB 1037 4666723172467343360).nn (by omega))) (va_cwS 3 hts gX4_strips_X4_isIn rfl rfl rfl (by decide +kernel) ⟨(Nat.le_of_ble_eq_true rfl), (Nat.le_of_ble_eq_true rfl)⟩) ⟨fun a U g mk q => q, fun U9 hU9 hW9 => ⟨rfl, trivial⟩⟩ rfl rfl hl.1 rfl (lv_room (Nat.le_of_ble_eq_true rfl)) dX4_strips_33 ⟨(Nat.le_of_ble_eq_true rfl), (Nat.le_of_ble_eq_true rfl)⟩) hS (fun q _ h => h.elim) (fun q h => h.elim) (fun r_103 u9s t9s H1 locs hht hvm9 hw_33_k_102 hB hz1 hk1 hS => ?_)
      have hP := va_still hP hk1
      generalize H1 = H at hP hS ⊢
      refine lv_if_eq (tgt := 43) hx hb dX4_strips_36 (by decide) (fun c_36 => ?_) (fun c_36 => ?_)
      · have c_36 := (b01 hw_33_k_102).mp c_36
        refine lv_iconst (v := 2) hx hb dX4_strips_43 (by decide) ?_
        refine va_put (D := (dC, dI)) (ci := 4) (v := .int 2) (ty := .int) (C := RX4) (T := TX4) (N := 15) hx hb hts (by decide +kernel) tyX4 tyX4_ok nmX4 hown hK hP hD hS 0 rfl rfl 0 (by decide) (hts (.fieldLink RX4 43 "SteamBendsModel" "code" "I") (by decide +kernel)) (fun _ h9 => h9) rfl (by decide +kernel) rfl rfl (Nat.le_of_ble_eq_true rfl) dX4_strips_44 (fun H locs hP hD hS => ?_)
        have hP : va_P (dC, dI) vwCl [(mo, .inr (4, [.int 2, .ref a1, .ref a2, .ref a3, .ref a4, .ref a5, .ref a6, .ref a7, .ref a8, .int (nI np), .ref a10, .ref a11, .int (nI kc), .double kr, .int fd])), (a1, .inl (cI, 4, .inl (cnt nr))), (a2, .inl (cD, 48, .inr (.inr (.inr (.inl (flat 12 T2)))))), (a3, .inl (cD, 48, .inr (.inr (.inr (.inl (flat 12 R2))))))] H := hP
        have hD : va_D A [(mo, .inr (4, [.int 2, .ref a1, .ref a2, .ref a3, .ref a4, .ref a5, .ref a6, .ref a7, .ref a8, .int (nI np), .ref a10, .ref a11, .int (nI kc), .double kr, .int fd])), (a1, .inl (cI, 4, .inl (cnt nr))), (a2, .inl (cD, 48, .inr (.inr (.inr (.inl (flat 12 T2)))))), (a3, .inl (cD, 48, .inr (.inr (.inr (.inl (flat 12 R2))))))] := hD
        refine lv_iconst (v := 1) hx hb dX4_strips_47 (by decide) ?_
        refine lv_istore (lv' := [(6, .int 1), (0, .ref mo), (1, .int (nI j)), (2, .double t), (4, .double w)]) hx hb dX4_strips_48 hl (by decide) rfl (fun ls hl => ?_)
        refine lv_iload hx hb dX4_strips_50 (lv_at hl 0 rfl) ?_
        refine lv_bipush (v := 100) hx hb dX4_strips_52 (by decide) ?_
        refine lv_icmp_gt (tgt := 100) hx hb dX4_strips_54 (by decide) (fun c_54 => ?_) (fun c_54 => ?_)
        · have c_54 := (nI_ltI (a := 100) (b := 1) (by omega) (by omega)).mp c_54
          refine lv_aload_n hx hb dX4_strips_100 rfl (lv_at hl 1 rfl) ?_
          refine va_get (D := (dC, dI)) (ci := 4) (v := .int 2) (C := RX4) (T := TX4) (N := 15) hx hb hts (by decide +kernel) hown hK hP 0 rfl rfl 0 (by decide) (hts (.fieldLink RX4 43 "SteamBendsModel" "code" "I") (by decide +kernel)) (fun _ h9 => h9) rfl dX4_strips_101 ?_
          refine lv_if_le (tgt := 111) hx hb dX4_strips_104 (by decide) (fun c_104 => ?_) (fun c_104 => ?_)
          · exact absurd c_104 (by decide)
          · refine lv_iconst (v := 0) hx hb dX4_strips_107 (by decide) ?_
            refine lv_goto (tgt := 112) hx hb dX4_strips_108 (by decide) ?_
            have hP9 := hP.sub (ws' := [(mo, .inr (4, [.int 2, .ref a1, .ref a2, .ref a3, .ref a4, .ref a5, .ref a6, .ref a7, .ref a8, .int (nI np), .ref a10, .ref a11, .int (nI kc), .double kr, .int fd])), (a1, .inl (cI, 4, .inl (cnt nr))), (a2, .inl (cD, 48, .inr (.inr (.inr (.inl (flat 12 T2)))))), (a3, .inl (cD, 48, .inr (.inr (.inr (.inl (flat 12 R2))))))]) [0, 1, 2, 3] rfl
            have hD9 := hD.sub (ws' := [(mo, .inr (4, [.int 2, .ref a1, .ref a2, .ref a3, .ref a4, .ref a5, .ref a6, .ref a7, .ref a8, .int (nI np), .ref a10, .ref a11, .int (nI kc), .double kr, .int fd])), (a1, .inl (cI, 4, .inl (cnt nr))), (a2, .inl (cD, 48, .inr (.inr (.inr (.inl (flat 12 T2)))))), (a3, .inl (cD, 48, .inr (.inr (.inr (.inl (flat 12 R2))))))]) [0, 1, 2, 3] (by decide) rfl
            exact W.iret hx hb hr (fun t9s hht hW9 => ⟨⟨0, (2, fd), rfl, ⟨(by show (2 : Nat) = _; unfold cStr; (repeat' split) <;> omega), fun z => absurd z (by simp)⟩, ⟨by rw [hht]; exact hP9, hD9⟩⟩, hS.F hht⟩) hS.2.2 dX4_strips_112
        · have c_54 := mt (nI_ltI (a := 100) (b := 1) (by omega) (by omega)).mpr c_54
          refine lv_aload_n hx hb dX4_strips_57 rfl (lv_at hl 1 rfl) ?_
          refine va_get (D := (dC, dI)) (ci := 4) (v := .int 2) (C := RX4) (T := TX4) (N := 15) hx hb hts (by decide +kernel) hown hK hP 0 rfl rfl 0 (by decide) (hts (.fieldLink RX4 43 "SteamBendsModel" "code" "I") (by decide +kernel)) (fun _ h9 => h9) rfl dX4_strips_58 ?_
          refine lv_if_ne (tgt := 100) hx hb dX4_strips_61 (by decide) (fun c_61 => ?_) (fun c_61 => ?_)
          · refine lv_aload_n hx hb dX4_strips_100 rfl (lv_at hl 1 rfl) ?_
            refine va_get (D := (dC, dI)) (ci := 4) (v := .int 2) (C := RX4) (T := TX4) (N := 15) hx hb hts (by decide +kernel) hown hK hP 0 rfl rfl 0 (by decide) (hts (.fieldLink RX4 43 "SteamBendsModel" "code" "I") (by decide +kernel)) (fun _ h9 => h9) rfl dX4_strips_101 ?_
            refine lv_if_le (tgt := 111) hx hb dX4_strips_104 (by decide) (fun c_104 => ?_) (fun c_104 => ?_)
            · exact absurd c_104 (by decide)
            · refine lv_iconst (v := 0) hx hb dX4_strips_107 (by decide) ?_
              refine lv_goto (tgt := 112) hx hb dX4_strips_108 (by decide) ?_
              have hP9 := hP.sub (ws' := [(mo, .inr (4, [.int 2, .ref a1, .ref a2, .ref a3, .ref a4, .ref a5, .ref a6, .ref a7, .ref a8, .int (nI np), .ref a10, .ref a11, .int (nI kc), .double kr, .int fd])), (a1, .inl (cI, 4, .inl (cnt nr))), (a2, .inl (cD, 48, .inr (.inr (.inr (.inl (flat 12 T2)))))), (a3, .inl (cD, 48, .inr (.inr (.inr (.inl (flat 12 R2))))))]) [0, 1, 2, 3] rfl
              have hD9 := hD.sub (ws' := [(mo, .inr (4, [.int 2, .ref a1, .ref a2, .ref a3, .ref a4, .ref a5, .ref a6, .ref a7, .ref a8, .int (nI np), .ref a10, .ref a11, .int (nI kc), .double kr, .int fd])), (a1, .inl (cI, 4, .inl (cnt nr))), (a2, .inl (cD, 48, .inr (.inr (.inr (.inl (flat 12 T2)))))), (a3, .inl (cD, 48, .inr (.inr (.inr (.inl (flat 12 R2))))))]) [0, 1, 2, 3] (by decide) rfl
              exact W.iret hx hb hr (fun t9s hht hW9 => ⟨⟨0, (2, fd), rfl, ⟨(by show (2 : Nat) = _; unfold cStr; (repeat' split) <;> omega), fun z => absurd z (by simp)⟩, ⟨by rw [hht]; exact hP9, hD9⟩⟩, hS.F hht⟩) hS.2.2 dX4_strips_112
          · exact absurd c_61 (by decide)
      · have c_36 := (b01n hw_33_k_102).mp c_36
        refine lv_iconst (v := 0) hx hb dX4_strips_39 (by decide) ?_
        refine lv_goto (tgt := 44) hx hb dX4_strips_40 (by decide) ?_
        refine va_put (D := (dC, dI)) (ci := 4) (v := .int 0) (ty := .int) (C := RX4) (T := TX4) (N := 15) hx hb hts (by decide +kernel) tyX4 tyX4_ok nmX4 hown hK hP hD hS 0 rfl rfl 0 (by decide) (hts (.fieldLink RX4 43 "SteamBendsModel" "code" "I") (by decide +kernel)) (fun _ h9 => h9) rfl (by decide +kernel) rfl rfl (Nat.le_of_ble_eq_true rfl) dX4_strips_44 (fun H locs hP hD hS => ?_)
        have hP : va_P (dC, dI) vwCl [(mo, .inr (4, [.int 0, .ref a1, .ref a2, .ref a3, .ref a4, .ref a5, .ref a6, .ref a7, .ref a8, .int (nI np), .ref a10, .ref a11, .int (nI kc), .double kr, .int fd])), (a1, .inl (cI, 4, .inl (cnt nr))), (a2, .inl (cD, 48, .inr (.inr (.inr (.inl (flat 12 T2)))))), (a3, .inl (cD, 48, .inr (.inr (.inr (.inl (flat 12 R2))))))] H := hP
        have hD : va_D A [(mo, .inr (4, [.int 0, .ref a1, .ref a2, .ref a3, .ref a4, .ref a5, .ref a6, .ref a7, .ref a8, .int (nI np), .ref a10, .ref a11, .int (nI kc), .double kr, .int fd])), (a1, .inl (cI, 4, .inl (cnt nr))), (a2, .inl (cD, 48, .inr (.inr (.inr (.inl (flat 12 T2)))))), (a3, .inl (cD, 48, .inr (.inr (.inr (.inl (flat 12 R2))))))] := hD
        refine lv_iconst (v := 1) hx hb dX4_strips_47 (by decide) ?_
        refine lv_istore (lv' := [(6, .int 1), (0, .ref mo), (1, .int (nI j)), (2, .double t), (4, .double w)]) hx hb dX4_strips_48 hl (by decide) rfl (fun ls hl => ?_)
        refine w_loop (σ := Nat × Int32) (fun n9 x9 H locs ls => lv_has ls 9 [(6, .int (nI x9.1)), (0, .ref mo), (1, .int (nI j)), (2, .double t), (4, .double w)] ∧ va_P (dC, dI) vwCl [(mo, .inr (4, [.int 0, .ref a1, .ref a2, .ref a3, .ref a4, .ref a5, .ref a6, .ref a7, .ref a8, .int (nI np), .ref a10, .ref a11, .int (nI kc), .double kr, .int x9.2])), (a1, .inl (cI, 4, .inl (cnt nr))), (a2, .inl (cD, 48, .inr (.inr (.inr (.inl (flat 12 T2)))))), (a3, .inl (cD, 48, .inr (.inr (.inr (.inl (flat 12 R2))))))] H ∧ va_D A [(mo, .inr (4, [.int 0, .ref a1, .ref a2, .ref a3, .ref a4, .ref a5, .ref a6, .ref a7, .ref a8, .int (nI np), .ref a10, .ref a11, .int (nI kc), .double kr, .int x9.2])), (a1, .inl (cI, 4, .inl (cnt nr))), (a2, .inl (cD, 48, .inr (.inr (.inr (.inl (flat 12 T2)))))), (a3, .inl (cD, 48, .inr (.inr (.inr (.inl (flat 12 R2))))))] ∧ va_S A s.heap H locs ∧ x9.1 + n9 = 101 ∧ 1 ≤ x9.1 ∧ strp (T2 j) (R2 j) (nr j) t w n9 x9.1 = strp (T2 j) (R2 j) (nr j) t w 100 1) (n0 := 100) (x0 := (1, fd)) ⟨lv_sub hl [0, 1, 2, 3, 4] rfl, hP.sub [0, 1, 2, 3] rfl, hD.sub [0, 1, 2, 3] (by decide) rfl, hS, (show 1 + 100 = 101 ∧ 1 ≤ 1 ∧ strp (T2 j) (R2 j) (nr j) t w 100 1 = strp (T2 j) (R2 j) (nr j) t w 100 1 from ⟨by omega, by omega, rfl⟩)⟩ ?_
        rintro n9 ⟨k9, fd9⟩ H locs ls ⟨hl, hP, hD, hS, hi⟩ ih
        have hl : lv_has ls 9 [(6, .int (nI k9)), (0, .ref mo), (1, .int (nI j)), (2, .double t), (4, .double w)] := hl
        have hP : va_P (dC, dI) vwCl [(mo, .inr (4, [.int 0, .ref a1, .ref a2, .ref a3, .ref a4, .ref a5, .ref a6, .ref a7, .ref a8, .int (nI np), .ref a10, .ref a11, .int (nI kc), .double kr, .int fd9])), (a1, .inl (cI, 4, .inl (cnt nr))), (a2, .inl (cD, 48, .inr (.inr (.inr (.inl (flat 12 T2)))))), (a3, .inl (cD, 48, .inr (.inr (.inr (.inl (flat 12 R2))))))] H := hP
        have hD : va_D A [(mo, .inr (4, [.int 0, .ref a1, .ref a2, .ref a3, .ref a4, .ref a5, .ref a6, .ref a7, .ref a8, .int (nI np), .ref a10, .ref a11, .int (nI kc), .double kr, .int fd9])), (a1, .inl (cI, 4, .inl (cnt nr))), (a2, .inl (cD, 48, .inr (.inr (.inr (.inl (flat 12 T2)))))), (a3, .inl (cD, 48, .inr (.inr (.inr (.inl (flat 12 R2))))))] := hD
        have hi : k9 + n9 = 101 ∧ 1 ≤ k9 ∧ strp (T2 j) (R2 j) (nr j) t w n9 k9 = strp (T2 j) (R2 j) (nr j) t w 100 1 := hi
        refine lv_iload hx hb dX4_strips_50 (lv_at hl 0 rfl) ?_
        refine lv_bipush (v := 100) hx hb dX4_strips_52 (by decide) ?_
        refine lv_icmp_gt (tgt := 100) hx hb dX4_strips_54 (by decide) (fun c_54 => ?_) (fun c_54 => ?_)
        · have c_54 := (nI_ltI (a := 100) (b := k9) (by omega) (by omega)).mp c_54
          refine lv_aload_n hx hb dX4_strips_100 rfl (lv_at hl 1 rfl) ?_
          refine va_get (D := (dC, dI)) (ci := 4) (v := .int 0) (C := RX4) (T := TX4) (N := 15) hx hb hts (by decide +kernel) hown hK hP 0 rfl rfl 0 (by decide) (hts (.fieldLink RX4 43 "SteamBendsModel" "code" "I") (by decide +kernel)) (fun _ h9 => h9) rfl dX4_strips_101 ?_
          refine lv_if_le (tgt := 111) hx hb dX4_strips_104 (by decide) (fun c_104 => ?_) (fun c_104 => ?_)
          · refine lv_iconst (v := -1) hx hb dX4_strips_111 (by decide) ?_
            have hP9 := hP.sub (ws' := [(mo, .inr (4, [.int 0, .ref a1, .ref a2, .ref a3, .ref a4, .ref a5, .ref a6, .ref a7, .ref a8, .int (nI np), .ref a10, .ref a11, .int (nI kc), .double kr, .int fd9])), (a1, .inl (cI, 4, .inl (cnt nr))), (a2, .inl (cD, 48, .inr (.inr (.inr (.inl (flat 12 T2)))))), (a3, .inl (cD, 48, .inr (.inr (.inr (.inl (flat 12 R2))))))]) [0, 1, 2, 3] rfl
            have hD9 := hD.sub (ws' := [(mo, .inr (4, [.int 0, .ref a1, .ref a2, .ref a3, .ref a4, .ref a5, .ref a6, .ref a7, .ref a8, .int (nI np), .ref a10, .ref a11, .int (nI kc), .double kr, .int fd9])), (a1, .inl (cI, 4, .inl (cnt nr))), (a2, .inl (cD, 48, .inr (.inr (.inr (.inl (flat 12 T2)))))), (a3, .inl (cD, 48, .inr (.inr (.inr (.inl (flat 12 R2))))))]) [0, 1, 2, 3] (by decide) rfl
            exact W.iret hx hb hr (fun t9s hht hW9 => ⟨⟨(-1), (0, fd9), rfl, ⟨(by show (0 : Nat) = _; unfold cStr; (repeat' split) <;> omega), fun _ => (by rw [← hi.2.2, show n9 = 0 by omega]; rfl)⟩, ⟨by rw [hht]; exact hP9, hD9⟩⟩, hS.F hht⟩) hS.2.2 dX4_strips_112
          · exact absurd c_104 (by decide)
        · have c_54 := mt (nI_ltI (a := 100) (b := k9) (by omega) (by omega)).mpr c_54
          obtain ⟨f9, rfl⟩ : ∃ f, n9 = f + 1 := ⟨n9 - 1, by omega⟩
          refine lv_aload_n hx hb dX4_strips_57 rfl (lv_at hl 1 rfl) ?_
          refine va_get (D := (dC, dI)) (ci := 4) (v := .int 0) (C := RX4) (T := TX4) (N := 15) hx hb hts (by decide +kernel) hown hK hP 0 rfl rfl 0 (by decide) (hts (.fieldLink RX4 43 "SteamBendsModel" "code" "I") (by decide +kernel)) (fun _ h9 => h9) rfl dX4_strips_58 ?_
          refine lv_if_ne (tgt := 100) hx hb dX4_strips_61 (by decide) (fun c_61 => ?_) (fun c_61 => ?_)
          · exact absurd c_61 (by decide)
          · refine lv_aload_n hx hb dX4_strips_64 rfl (lv_at hl 1 rfl) ?_
            refine lv_iload_n hx hb dX4_strips_65 rfl (lv_at hl 2 rfl) ?_
            refine lv_dload_n hx hb dX4_strips_66 rfl (lv_at hl 3 rfl) ?_
            refine lv_iload hx hb dX4_strips_67 (lv_at hl 0 rfl) ?_
            refine lv_i2d hx hb dX4_strips_69 ?_
            have b_104 : dB (1061) (FP.ddiv t (FP.i2d (nI k9))) := dB.div ht (i2d_dL (k := k9) (by omega) (by omega)) (i2d_dB (nI k9)) (by omega) (by omega) (by omega) (by omega)
            refine lv_ddiv hx hb dX4_strips_70 (b_104.ok (by omega)) ?_
            have hPc := hP.sub (ws' := [(mo, .inr (4, [.int 0, .ref a1, .ref a2, .ref a3, .ref a4, .ref a5, .ref a6, .ref a7, .ref a8, .int (nI np), .ref a10, .ref a11, .int (nI kc), .double kr, .int fd9])), (a1, .inl (cI, 4, .inl (cnt nr))), (a2, .inl (cD, 48, .inr (.inr (.inr (.inl (flat 12 T2)))))), (a3, .inl (cD, 48, .inr (.inr (.inr (.inl (flat 12 R2))))))]) [0, 1, 2, 3] rfl
            have hKc := hK.sub (tys' := [(cI, .int), (cD, .double)]) [0, 1] rfl
            have hDc := hD.sub (ws' := [(mo, .inr (4, [.int 0, .ref a1, .ref a2, .ref a3, .ref a4, .ref a5, .ref a6, .ref a7, .ref a8, .int (nI np), .ref a10, .ref a11, .int (nI kc), .double kr, .int fd9])), (a1, .inl (cI, 4, .inl (cnt nr))), (a2, .inl (cD, 48, .inr (.inr (.inr (.inl (flat 12 T2)))))), (a3, .inl (cD, 48, .inr (.inr (.inr (.inl (flat 12 R2))))))]) [0, 1, 2, 3] (by decide) rfl
            have hFc := va_free (wc := [(mo, .inr (4, [.int 0, .ref a1, .ref a2, .ref a3, .ref a4, .ref a5, .ref a6, .ref a7, .ref a8, .int (nI np), .ref a10, .ref a11, .int (nI kc), .double kr, .int fd9])), (a1, .inl (cI, 4, .inl (cnt nr))), (a2, .inl (cD, 48, .inr (.inr (.inr (.inl (flat 12 T2)))))), (a3, .inl (cD, 48, .inr (.inr (.inr (.inl (flat 12 R2))))))]) hD hS hA [0, 1, 2, 3] rfl
            refine va_calld (va_runV (As := [.int (nI j), .double (FP.ddiv t (FP.i2d (nI k9)))]) (rest := []) ⟨hx, hb, hml, hown, hts⟩ (m_X4_radiusAt l dC dI H.size cI cD mo a1 a2 a3 a4 a5 a6 a7 a8 a10 a11 0 np kc kr fd9 nr T2 R2 j hj (FP.ddiv t (FP.i2d (nI k9))) (b_104.mono (by omega) : dB 1064 _) hrow) (cwV 2 hts gX4_strips_X4_radiusAt rfl rfl rfl (by decide +kernel) ⟨(Nat.le_of_ble_eq_true rfl), (Nat.le_of_ble_eq_true rfl)⟩) ⟨PW.blind, va_recv hKc hPc (ci := 4) (q0 := 0) rfl rfl, fun U9 hU9 hW9 => ⟨rfl, PW.at hPc hKc hDc hN hU9 hW9⟩⟩ rfl rfl hl.1 rfl (lv_room (Nat.le_of_ble_eq_true rfl)) dX4_strips_71 ⟨(Nat.le_of_ble_eq_true rfl), (Nat.le_of_ble_eq_true rfl)⟩) hS (fun q _ h => hFc q h) hFc (fun r_106 u9s t9s H1 locs hht hvm9 hw_71_k_105 hB hz1 hk1 hS => ?_)
            obtain ⟨hP1, hD1⟩ := hB
            rw [hht] at hP1
            obtain ⟨hw1, hw2⟩ := hw_71_k_105
            subst hw2
            subst hw1
            obtain ⟨hP, hD⟩ := va_join (wr := []) (w1 := [(mo, .inr (4, [.int 0, .ref a1, .ref a2, .ref a3, .ref a4, .ref a5, .ref a6, .ref a7, .ref a8, .int (nI np), .ref a10, .ref a11, .int (nI kc), .double kr, .int (fnd (rRad (T2 j) (R2 j) (FP.ddiv t (FP.i2d (nI k9))) (nr j)))])), (a1, .inl (cI, 4, .inl (cnt nr))), (a2, .inl (cD, 48, .inr (.inr (.inr (.inl (flat 12 T2)))))), (a3, .inl (cD, 48, .inr (.inr (.inr (.inl (flat 12 R2))))))]) hP hD [0, 1, 2, 3] [] rfl rfl (by decide) (by decide) hk1 hFc hP1 hD1
            generalize H1 = H at hP hS ⊢
            have hP : va_P (dC, dI) vwCl [(mo, .inr (4, [.int 0, .ref a1, .ref a2, .ref a3, .ref a4, .ref a5, .ref a6, .ref a7, .ref a8, .int (nI np), .ref a10, .ref a11, .int (nI kc), .double kr, .int (fnd (rRad (T2 j) (R2 j) (FP.ddiv t (FP.i2d (nI k9))) (nr j)))])), (a1, .inl (cI, 4, .inl (cnt nr))), (a2, .inl (cD, 48, .inr (.inr (.inr (.inl (flat 12 T2)))))), (a3, .inl (cD, 48, .inr (.inr (.inr (.inl (flat 12 R2))))))] H := hP
            have hD : va_D A [(mo, .inr (4, [.int 0, .ref a1, .ref a2, .ref a3, .ref a4, .ref a5, .ref a6, .ref a7, .ref a8, .int (nI np), .ref a10, .ref a11, .int (nI kc), .double kr, .int (fnd (rRad (T2 j) (R2 j) (FP.ddiv t (FP.i2d (nI k9))) (nr j)))])), (a1, .inl (cI, 4, .inl (cnt nr))), (a2, .inl (cD, 48, .inr (.inr (.inr (.inl (flat 12 T2)))))), (a3, .inl (cD, 48, .inr (.inr (.inr (.inl (flat 12 R2))))))] := hD
            refine lv_dstore (lv' := [(7, .double ((rRad (T2 j) (R2 j) (FP.ddiv t (FP.i2d (nI k9))) (nr j)).getD FP.dconst0)), (6, .int (nI k9)), (0, .ref mo), (1, .int (nI j)), (2, .double t), (4, .double w)]) hx hb dX4_strips_74 hl (by decide) rfl (fun ls hl => ?_)
            refine lv_aload_n hx hb dX4_strips_76 rfl (lv_at hl 2 rfl) ?_
            refine va_get (D := (dC, dI)) (ci := 4) (v := .int (fnd (rRad (T2 j) (R2 j) (FP.ddiv t (FP.i2d (nI k9))) (nr j)))) (C := RX4) (T := TX4) (N := 15) hx hb hts (by decide +kernel) hown hK hP 0 rfl rfl 14 (by decide) (hts (.fieldLink RX4 61 "SteamBendsModel" "isFound" "Z") (by decide +kernel)) (fun _ h9 => h9) rfl dX4_strips_77 ?_
            refine lv_if_eq (tgt := 94) hx hb dX4_strips_80 (by decide) (fun c_80 => ?_) (fun c_80 => ?_)
            · have c_80 := (b01 (fnd_hw _)).mp c_80
              refine lv_iinc (v := nI (k9 + 1)) (lv' := [(6, .int (nI (k9 + 1))), (7, .double ((rRad (T2 j) (R2 j) (FP.ddiv t (FP.i2d (nI k9))) (nr j)).getD FP.dconst0)), (0, .ref mo), (1, .int (nI j)), (2, .double t), (4, .double w)]) hx hb dX4_strips_94 hl (k := 1) rfl (show nI k9 + nI 1 = nI (k9 + 1) from nI_add _ _) (by decide) rfl (fun ls hl => ?_)
              refine lv_goto (tgt := 50) hx hb dX4_strips_97 (by decide) ?_
              exact ih (f9) (by omega) (k9 + 1, fnd (rRad (T2 j) (R2 j) (FP.ddiv t (FP.i2d (nI k9))) (nr j))) _ _ _ ⟨lv_sub hl [0, 2, 3, 4, 5] rfl, hP.sub [0, 1, 2, 3] rfl, hD.sub [0, 1, 2, 3] (by decide) rfl, hS, (show (k9 + 1) + f9 = 101 ∧ 1 ≤ (k9 + 1) ∧ strp (T2 j) (R2 j) (nr j) t w f9 (k9 + 1) = strp (T2 j) (R2 j) (nr j) t w 100 1 from ⟨by omega, by omega, by rw [← strp_go2 (fun z => absurd z c_80)]; exact hi.2.2⟩)⟩
            · have c_80 := (b01n (fnd_hw _)).mp c_80
              refine lv_dload hx hb dX4_strips_83 (lv_at hl 0 rfl) ?_
              refine lv_dload hx hb dX4_strips_85 (lv_at hl 5 rfl) ?_
              refine lv_dcmp hx hb dX4_strips_87 ?_
              refine lv_if_gt (tgt := 94) hx hb dX4_strips_88 (by decide) (fun c_88 => ?_) (fun c_88 => ?_)
              · have c_88 := (cv_gt ((rRad_dBk hrow (b_104.mono (by omega) : dB 1064 _) (Nat.le_refl _)).nn (by omega)) (hw.nn (by omega))).mp c_88
                refine lv_iinc (v := nI (k9 + 1)) (lv' := [(6, .int (nI (k9 + 1))), (7, .double ((rRad (T2 j) (R2 j) (FP.ddiv t (FP.i2d (nI k9))) (nr j)).getD FP.dconst0)), (0, .ref mo), (1, .int (nI j)), (2, .double t), (4, .double w)]) hx hb dX4_strips_94 hl (k := 1) rfl (show nI k9 + nI 1 = nI (k9 + 1) from nI_add _ _) (by decide) rfl (fun ls hl => ?_)
                refine lv_goto (tgt := 50) hx hb dX4_strips_97 (by decide) ?_
                exact ih (f9) (by omega) (k9 + 1, fnd (rRad (T2 j) (R2 j) (FP.ddiv t (FP.i2d (nI k9))) (nr j))) _ _ _ ⟨lv_sub hl [0, 2, 3, 4, 5] rfl, hP.sub [0, 1, 2, 3] rfl, hD.sub [0, 1, 2, 3] (by decide) rfl, hS, (show (k9 + 1) + f9 = 101 ∧ 1 ≤ (k9 + 1) ∧ strp (T2 j) (R2 j) (nr j) t w f9 (k9 + 1) = strp (T2 j) (R2 j) (nr j) t w 100 1 from ⟨by omega, by omega, by rw [← strp_go2 (fun _ => by omega)]; exact hi.2.2⟩)⟩
              · have c_88 := mt (cv_gt ((rRad_dBk hrow (b_104.mono (by omega) : dB 1064 _) (Nat.le_refl _)).nn (by omega)) (hw.nn (by omega))).mpr c_88
                refine lv_iload hx hb dX4_strips_91 (lv_at hl 1 rfl) ?_
                have hP9 := hP.sub (ws' := [(mo, .inr (4, [.int 0, .ref a1, .ref a2, .ref a3, .ref a4, .ref a5, .ref a6, .ref a7, .ref a8, .int (nI np), .ref a10, .ref a11, .int (nI kc), .double kr, .int (fnd (rRad (T2 j) (R2 j) (FP.ddiv t (FP.i2d (nI k9))) (nr j)))])), (a1, .inl (cI, 4, .inl (cnt nr))), (a2, .inl (cD, 48, .inr (.inr (.inr (.inl (flat 12 T2)))))), (a3, .inl (cD, 48, .inr (.inr (.inr (.inl (flat 12 R2))))))]) [0, 1, 2, 3] rfl
                have hD9 := hD.sub (ws' := [(mo, .inr (4, [.int 0, .ref a1, .ref a2, .ref a3, .ref a4, .ref a5, .ref a6, .ref a7, .ref a8, .int (nI np), .ref a10, .ref a11, .int (nI kc), .double kr, .int (fnd (rRad (T2 j) (R2 j) (FP.ddiv t (FP.i2d (nI k9))) (nr j)))])), (a1, .inl (cI, 4, .inl (cnt nr))), (a2, .inl (cD, 48, .inr (.inr (.inr (.inl (flat 12 T2)))))), (a3, .inl (cD, 48, .inr (.inr (.inr (.inl (flat 12 R2))))))]) [0, 1, 2, 3] (by decide) rfl
                exact W.iret hx hb hr (fun t9s hht hW9 => ⟨⟨nI k9, (0, fnd (rRad (T2 j) (R2 j) (FP.ddiv t (FP.i2d (nI k9))) (nr j))), rfl, ⟨(by show (0 : Nat) = _; unfold cStr; (repeat' split) <;> omega), fun _ => (by rw [← hi.2.2]; exact (strp_stop2 c_80 (by omega)).symm)⟩, ⟨by rw [hht]; exact hP9, hD9⟩⟩, hS.F hht⟩) hS.2.2 dX4_strips_93
  · have c_5 := (b01 hw_2_k_98).mp c_5
    refine lv_iconst (v := 1) hx hb dX4_strips_8 (by decide) ?_
    refine lv_goto (tgt := 44) hx hb dX4_strips_9 (by decide) ?_
    refine va_put (D := (dC, dI)) (ci := 4) (v := .int 1) (ty := .int) (C := RX4) (T := TX4) (N := 15) hx hb hts (by decide +kernel) tyX4 tyX4_ok nmX4 hown hK hP hD hS 0 rfl rfl 0 (by decide) (hts (.fieldLink RX4 43 "SteamBendsModel" "code" "I") (by decide +kernel)) (fun _ h9 => h9) rfl (by decide +kernel) rfl rfl (Nat.le_of_ble_eq_true rfl) dX4_strips_44 (fun H locs hP hD hS => ?_)
    have hP : va_P (dC, dI) vwCl [(mo, .inr (4, [.int 1, .ref a1, .ref a2, .ref a3, .ref a4, .ref a5, .ref a6, .ref a7, .ref a8, .int (nI np), .ref a10, .ref a11, .int (nI kc), .double kr, .int fd])), (a1, .inl (cI, 4, .inl (cnt nr))), (a2, .inl (cD, 48, .inr (.inr (.inr (.inl (flat 12 T2)))))), (a3, .inl (cD, 48, .inr (.inr (.inr (.inl (flat 12 R2))))))] H := hP
    have hD : va_D A [(mo, .inr (4, [.int 1, .ref a1, .ref a2, .ref a3, .ref a4, .ref a5, .ref a6, .ref a7, .ref a8, .int (nI np), .ref a10, .ref a11, .int (nI kc), .double kr, .int fd])), (a1, .inl (cI, 4, .inl (cnt nr))), (a2, .inl (cD, 48, .inr (.inr (.inr (.inl (flat 12 T2)))))), (a3, .inl (cD, 48, .inr (.inr (.inr (.inl (flat 12 R2))))))] := hD
    refine lv_iconst (v := 1) hx hb dX4_strips_47 (by decide) ?_
    refine lv_istore (lv' := [(6, .int 1), (0, .ref mo), (1, .int kd), (2, .double t), (4, .double w)]) hx hb dX4_strips_48 hl (by decide) rfl (fun ls hl => ?_)
    refine lv_iload hx hb dX4_strips_50 (lv_at hl 0 rfl) ?_
    refine lv_bipush (v := 100) hx hb dX4_strips_52 (by decide) ?_
    refine lv_icmp_gt (tgt := 100) hx hb dX4_strips_54 (by decide) (fun c_54 => ?_) (fun c_54 => ?_)
    · have c_54 := (nI_ltI (a := 100) (b := 1) (by omega) (by omega)).mp c_54
      refine lv_aload_n hx hb dX4_strips_100 rfl (lv_at hl 1 rfl) ?_
      refine va_get (D := (dC, dI)) (ci := 4) (v := .int 1) (C := RX4) (T := TX4) (N := 15) hx hb hts (by decide +kernel) hown hK hP 0 rfl rfl 0 (by decide) (hts (.fieldLink RX4 43 "SteamBendsModel" "code" "I") (by decide +kernel)) (fun _ h9 => h9) rfl dX4_strips_101 ?_
      refine lv_if_le (tgt := 111) hx hb dX4_strips_104 (by decide) (fun c_104 => ?_) (fun c_104 => ?_)
      · exact absurd c_104 (by decide)
      · refine lv_iconst (v := 0) hx hb dX4_strips_107 (by decide) ?_
        refine lv_goto (tgt := 112) hx hb dX4_strips_108 (by decide) ?_
        have hP9 := hP.sub (ws' := [(mo, .inr (4, [.int 1, .ref a1, .ref a2, .ref a3, .ref a4, .ref a5, .ref a6, .ref a7, .ref a8, .int (nI np), .ref a10, .ref a11, .int (nI kc), .double kr, .int fd])), (a1, .inl (cI, 4, .inl (cnt nr))), (a2, .inl (cD, 48, .inr (.inr (.inr (.inl (flat 12 T2)))))), (a3, .inl (cD, 48, .inr (.inr (.inr (.inl (flat 12 R2))))))]) [0, 1, 2, 3] rfl
        have hD9 := hD.sub (ws' := [(mo, .inr (4, [.int 1, .ref a1, .ref a2, .ref a3, .ref a4, .ref a5, .ref a6, .ref a7, .ref a8, .int (nI np), .ref a10, .ref a11, .int (nI kc), .double kr, .int fd])), (a1, .inl (cI, 4, .inl (cnt nr))), (a2, .inl (cD, 48, .inr (.inr (.inr (.inl (flat 12 T2)))))), (a3, .inl (cD, 48, .inr (.inr (.inr (.inl (flat 12 R2))))))]) [0, 1, 2, 3] (by decide) rfl
        exact W.iret hx hb hr (fun t9s hht hW9 => ⟨⟨0, (1, fd), rfl, ⟨(by show (1 : Nat) = _; unfold cStr; (repeat' split) <;> omega), fun z => absurd z (by simp)⟩, ⟨by rw [hht]; exact hP9, hD9⟩⟩, hS.F hht⟩) hS.2.2 dX4_strips_112
    · have c_54 := mt (nI_ltI (a := 100) (b := 1) (by omega) (by omega)).mpr c_54
      refine lv_aload_n hx hb dX4_strips_57 rfl (lv_at hl 1 rfl) ?_
      refine va_get (D := (dC, dI)) (ci := 4) (v := .int 1) (C := RX4) (T := TX4) (N := 15) hx hb hts (by decide +kernel) hown hK hP 0 rfl rfl 0 (by decide) (hts (.fieldLink RX4 43 "SteamBendsModel" "code" "I") (by decide +kernel)) (fun _ h9 => h9) rfl dX4_strips_58 ?_
      refine lv_if_ne (tgt := 100) hx hb dX4_strips_61 (by decide) (fun c_61 => ?_) (fun c_61 => ?_)
      · refine lv_aload_n hx hb dX4_strips_100 rfl (lv_at hl 1 rfl) ?_
        refine va_get (D := (dC, dI)) (ci := 4) (v := .int 1) (C := RX4) (T := TX4) (N := 15) hx hb hts (by decide +kernel) hown hK hP 0 rfl rfl 0 (by decide) (hts (.fieldLink RX4 43 "SteamBendsModel" "code" "I") (by decide +kernel)) (fun _ h9 => h9) rfl dX4_strips_101 ?_
        refine lv_if_le (tgt := 111) hx hb dX4_strips_104 (by decide) (fun c_104 => ?_) (fun c_104 => ?_)
        · exact absurd c_104 (by decide)
        · refine lv_iconst (v := 0) hx hb dX4_strips_107 (by decide) ?_
          refine lv_goto (tgt := 112) hx hb dX4_strips_108 (by decide) ?_
          have hP9 := hP.sub (ws' := [(mo, .inr (4, [.int 1, .ref a1, .ref a2, .ref a3, .ref a4, .ref a5, .ref a6, .ref a7, .ref a8, .int (nI np), .ref a10, .ref a11, .int (nI kc), .double kr, .int fd])), (a1, .inl (cI, 4, .inl (cnt nr))), (a2, .inl (cD, 48, .inr (.inr (.inr (.inl (flat 12 T2)))))), (a3, .inl (cD, 48, .inr (.inr (.inr (.inl (flat 12 R2))))))]) [0, 1, 2, 3] rfl
          have hD9 := hD.sub (ws' := [(mo, .inr (4, [.int 1, .ref a1, .ref a2, .ref a3, .ref a4, .ref a5, .ref a6, .ref a7, .ref a8, .int (nI np), .ref a10, .ref a11, .int (nI kc), .double kr, .int fd])), (a1, .inl (cI, 4, .inl (cnt nr))), (a2, .inl (cD, 48, .inr (.inr (.inr (.inl (flat 12 T2)))))), (a3, .inl (cD, 48, .inr (.inr (.inr (.inl (flat 12 R2))))))]) [0, 1, 2, 3] (by decide) rfl
          exact W.iret hx hb hr (fun t9s hht hW9 => ⟨⟨0, (1, fd), rfl, ⟨(by show (1 : Nat) = _; unfold cStr; (repeat' split) <;> omega), fun z => absurd z (by simp)⟩, ⟨by rw [hht]; exact hP9, hD9⟩⟩, hS.F hht⟩) hS.2.2 dX4_strips_112
      · exact absurd c_61 (by decide)

set_option maxHeartbeats 4000000 in
set_option maxRecDepth 100000 in
theorem m_X4_read (l : Launch) (dC : Nat → ClassId) (dI : Nat → Nat → Nat) (sz : Nat) (cI cD : ClassId) (mo a1 a2 a3 a4 a5 a6 a7 a8 a10 a11 : Nat) (cd : Int32) (np kc : Nat) (kr : UInt64) (fd : Int32) (ng : Nat → Nat) (B2 K2 : Nat → Nat → UInt64) (kd : Int32) (j : Nat) (hj : j < 4) (hkj : kOK kd → kd = nI j) (b9 k9 : UInt64) (hb9 : dB 1060 b9) (hk9 : dB 1060 k9) (hrd : readsOK (B2 j) (K2 j) (ng j)) : Met l yX4_read wsX4_read ({ frames := 1, cells := 0, slots := 0, locals := 25 } : Room) (va_Pc [.ref mo, .int kd, .double b9, .double k9] (PW (dC, dI) [(cI, .int), (cD, .double)] [(mo, .inr (4, [.int cd, .ref a1, .ref a2, .ref a3, .ref a4, .ref a5, .ref a6, .ref a7, .ref a8, .int (nI np), .ref a10, .ref a11, .int (nI kc), .double kr, .int fd])), (a4, .inl (cI, 4, .inl (cnt ng))), (a5, .inl (cD, 80, .inr (.inr (.inr (.inl (flat 20 B2)))))), (a6, .inl (cD, 80, .inr (.inr (.inr (.inl (flat 20 K2))))))] sz)) (va_Qi (fun (r : Int32) (u : Nat × (Nat → Nat) × (Nat → Nat → UInt64) × (Nat → Nat → UInt64)) => u.1 = cRd kd b9 k9 (ng j) ∧ (u.1 = 0 → r = nI (ng j + 1)) ∧ u.2 = (if u.1 = 0 then (vf_upd ng j (ng j + 1), up2 B2 j (ng j) b9, up2 K2 j (ng j) k9) else (ng, B2, K2))) (fun (u : Nat × (Nat → Nat) × (Nat → Nat → UInt64) × (Nat → Nat → UInt64)) => QW (dC, dI) [(mo, .inr (4, [.int (nI u.1), .ref a1, .ref a2, .ref a3, .ref a4, .ref a5, .ref a6, .ref a7, .ref a8, .int (nI np), .ref a10, .ref a11, .int (nI kc), .double kr, .int fd])), (a4, .inl (cI, 4, .inl (cnt u.2.1))), (a5, .inl (cD, 80, .inr (.inr (.inr (.inl (flat 20 u.2.2.1)))))), (a6, .inl (cD, 80, .inr (.inr (.inr (.inl (flat 20 u.2.2.2))))))] (va_A [(mo, .inr (4, [.int cd, .ref a1, .ref a2, .ref a3, .ref a4, .ref a5, .ref a6, .ref a7, .ref a8, .int (nI np), .ref a10, .ref a11, .int (nI kc), .double kr, .int fd])), (a4, .inl (cI, 4, .inl (cnt ng))), (a5, .inl (cD, 80, .inr (.inr (.inr (.inl (flat 20 B2)))))), (a6, .inl (cD, 80, .inr (.inr (.inr (.inl (flat 20 K2))))))] sz)) (va_A [(mo, .inr (4, [.int cd, .ref a1, .ref a2, .ref a3, .ref a4, .ref a5, .ref a6, .ref a7, .ref a8, .int (nI np), .ref a10, .ref a11, .int (nI kc), .double kr, .int fd])), (a4, .inl (cI, 4, .inl (cnt ng))), (a5, .inl (cD, 80, .inr (.inr (.inr (.inl (flat 20 B2)))))), (a6, .inl (cD, 80, .inr (.inr (.inr (.inl (flat 20 K2))))))] sz)) 0 0 (va_A [(mo, .inr (4, [.int cd, .ref a1, .ref a2, .ref a3, .ref a4, .ref a5, .ref a6, .ref a7, .ref a8, .int (nI np), .ref a10, .ref a11, .int (nI kc), .double kr, .int fd])), (a4, .inl (cI, 4, .inl (cnt ng))), (a5, .inl (cD, 80, .inr (.inr (.inr (.inl (flat 20 B2)))))), (a6, .inl (cD, 80, .inr (.inr (.inr (.inl (flat 20 K2))))))] sz) := by
  refine Met.ofW (cc := cX4_read) (maxL := 7) (ret := (some .int)) (by decide) rfl ?_
  intro p e s m args below meth c s₁ BB hml hv
  obtain ⟨rfl, hsz, hP, hK, hD0, hN⟩ := hv
  have hx := BB.exec
  have hb := BB.bytes
  have hr := BB.returns
  have hts := atoms_spec (ws := wsX4_read) BB.pre
  have hown : s.vm.findClass RX4 = some m.cls := findClass_of_methodNamed BB.named
  have hlocks := BB.notSynchronized
  subst hsz
  have hD := hD0.self (sz := s.heap.size)
  generalize hAe : va_A [(mo, .inr (4, [.int cd, .ref a1, .ref a2, .ref a3, .ref a4, .ref a5, .ref a6, .ref a7, .ref a8, .int (nI np), .ref a10, .ref a11, .int (nI kc), .double kr, .int fd])), (a4, .inl (cI, 4, .inl (cnt ng))), (a5, .inl (cD, 80, .inr (.inr (.inr (.inl (flat 20 B2)))))), (a6, .inl (cD, 80, .inr (.inr (.inr (.inl (flat 20 K2))))))] s.heap.size = A at hD ⊢
  have hA : ∀ q : Nat, s.heap.size ≤ q → A q := fun q h => by rw [← hAe]; exact Or.inr h
  have hS : va_S A s.heap s.heap [] := va_S.rf
  have hP : va_P (dC, dI) vwCl [(mo, .inr (4, [.int cd, .ref a1, .ref a2, .ref a3, .ref a4, .ref a5, .ref a6, .ref a7, .ref a8, .int (nI np), .ref a10, .ref a11, .int (nI kc), .double kr, .int fd])), (a4, .inl (cI, 4, .inl (cnt ng))), (a5, .inl (cD, 80, .inr (.inr (.inr (.inl (flat 20 B2)))))), (a6, .inl (cD, 80, .inr (.inr (.inr (.inl (flat 20 K2))))))] s.heap := hP
  have hl := lv_entry ([.ref mo, .int kd, .double b9, .double k9]) (n := 7) (Nat.le_of_ble_eq_true rfl)
  rw [lg_entry_eq]
  generalize (lg_sl ([.ref mo, .int kd, .double b9, .double k9]) ++ List.replicate (7 - (lg_sl ([.ref mo, .int kd, .double b9, .double k9])).length) Slot.unset).toArray = ls at hl ⊢
  have hl : lv_has ls 7 [(0, .ref mo), (1, .int kd), (2, .double b9), (4, .double k9)] := hl
  have hn20 := hrd.1
  refine lv_aload_n hx hb dX4_read_0 rfl (lv_at hl 0 rfl) ?_
  refine lv_iload_n hx hb dX4_read_1 rfl (lv_at hl 1 rfl) ?_
  refine va_calli (va_runS (As := [.int kd]) (rest := [.ref mo]) ⟨hx, hb, hml, hown, hts⟩ (m_X4_isKind l kd) (va_cwS 1 hts gX4_read_X4_isKind rfl rfl rfl (by decide +kernel) ⟨(Nat.le_of_ble_eq_true rfl), (Nat.le_of_ble_eq_true rfl)⟩) ⟨fun a U g mk q => q, fun U9 hU9 hW9 => ⟨rfl, trivial⟩⟩ rfl rfl hl.1 rfl (lv_room (Nat.le_of_ble_eq_true rfl)) dX4_read_2 ⟨(Nat.le_of_ble_eq_true rfl), (Nat.le_of_ble_eq_true rfl)⟩) hS (fun q _ h => h.elim) (fun q h => h.elim) (fun r_108 u9s t9s H1 locs hht hvm9 hw_2_k_107 hB hz1 hk1 hS => ?_)
  have hP := va_still hP hk1
  generalize H1 = H at hP hS ⊢
  refine lv_if_ne (tgt := 12) hx hb dX4_read_5 (by decide) (fun c_5 => ?_) (fun c_5 => ?_)
  · have c_5 := (b01n hw_2_k_107).mp c_5
    have hkd := hkj c_5
    subst hkd
    have hz9 : (nI j).toInt = (j : Int) := nI_toInt (by omega)
    have hl : lv_has ls 7 [(0, .ref mo), (1, .int (nI j)), (2, .double b9), (4, .double k9)] := hl
    refine lv_dload_n hx hb dX4_read_12 rfl (lv_at hl 2 rfl) ?_
    refine lv_ldc2d (v := 4593671619917905920) hx hb hown (hts (.constantDouble RX4 51 (4593671619917905920)) (by decide +kernel)) dX4_read_13 ?_
    refine lv_ldc2d (v := 4666723172467343360) hx hb hown (hts (.constantDouble RX4 59 (4666723172467343360)) (by decide +kernel)) dX4_read_16 ?_
    refine va_calli (va_runS (As := [.double b9, .double 4593671619917905920, .double 4666723172467343360]) (rest := [.ref mo]) ⟨hx, hb, hml, hown, hts⟩ (m_X4_isIn l b9 4593671619917905920 4666723172467343360 (hb9.nn (by omega)) ((by unfold dB; decide +kernel : dB 1021 4593671619917905920).nn (by omega)) ((by unfold dB; decide +kernel : dB 1037 4666723172467343360).nn (by omega))) (va_cwS 3 hts gX4_read_X4_isIn rfl rfl rfl (by decide +kernel) ⟨(Nat.le_of_ble_eq_true rfl), (Nat.le_of_ble_eq_true rfl)⟩) ⟨fun a U g mk q => q, fun U9 hU9 hW9 => ⟨rfl, trivial⟩⟩ rfl rfl hl.1 rfl (lv_room (Nat.le_of_ble_eq_true rfl)) dX4_read_19 ⟨(Nat.le_of_ble_eq_true rfl), (Nat.le_of_ble_eq_true rfl)⟩) hS (fun q _ h => h.elim) (fun q h => h.elim) (fun r_110 u9s t9s H1 locs hht hvm9 hw_19_k_109 hB hz1 hk1 hS => ?_)
    have hP := va_still hP hk1
    generalize H1 = H at hP hS ⊢
    refine lv_if_eq (tgt := 37) hx hb dX4_read_22 (by decide) (fun c_22 => ?_) (fun c_22 => ?_)
    · have c_22 := (b01 hw_19_k_109).mp c_22
      refine lv_iconst (v := 2) hx hb dX4_read_37 (by decide) ?_
      refine lv_goto (tgt := 57) hx hb dX4_read_38 (by decide) ?_
      refine va_put (D := (dC, dI)) (ci := 4) (v := .int 2) (ty := .int) (C := RX4) (T := TX4) (N := 15) hx hb hts (by decide +kernel) tyX4 tyX4_ok nmX4 hown hK hP hD hS 0 rfl rfl 0 (by decide) (hts (.fieldLink RX4 43 "SteamBendsModel" "code" "I") (by decide +kernel)) (fun _ h9 => h9) rfl (by decide +kernel) rfl rfl (Nat.le_of_ble_eq_true rfl) dX4_read_57 (fun H locs hP hD hS => ?_)
      have hP : va_P (dC, dI) vwCl [(mo, .inr (4, [.int 2, .ref a1, .ref a2, .ref a3, .ref a4, .ref a5, .ref a6, .ref a7, .ref a8, .int (nI np), .ref a10, .ref a11, .int (nI kc), .double kr, .int fd])), (a4, .inl (cI, 4, .inl (cnt ng))), (a5, .inl (cD, 80, .inr (.inr (.inr (.inl (flat 20 B2)))))), (a6, .inl (cD, 80, .inr (.inr (.inr (.inl (flat 20 K2))))))] H := hP
      have hD : va_D A [(mo, .inr (4, [.int 2, .ref a1, .ref a2, .ref a3, .ref a4, .ref a5, .ref a6, .ref a7, .ref a8, .int (nI np), .ref a10, .ref a11, .int (nI kc), .double kr, .int fd])), (a4, .inl (cI, 4, .inl (cnt ng))), (a5, .inl (cD, 80, .inr (.inr (.inr (.inl (flat 20 B2)))))), (a6, .inl (cD, 80, .inr (.inr (.inr (.inl (flat 20 K2))))))] := hD
      refine lv_aload_n hx hb dX4_read_60 rfl (lv_at hl 0 rfl) ?_
      refine va_get (D := (dC, dI)) (ci := 4) (v := .int 2) (C := RX4) (T := TX4) (N := 15) hx hb hts (by decide +kernel) hown hK hP 0 rfl rfl 0 (by decide) (hts (.fieldLink RX4 43 "SteamBendsModel" "code" "I") (by decide +kernel)) (fun _ h9 => h9) rfl dX4_read_61 ?_
      refine lv_if_le (tgt := 69) hx hb dX4_read_64 (by decide) (fun c_64 => ?_) (fun c_64 => ?_)
      · exact absurd c_64 (by decide)
      · refine lv_iconst (v := 0) hx hb dX4_read_67 (by decide) ?_
        have hP9 := hP.sub (ws' := [(mo, .inr (4, [.int 2, .ref a1, .ref a2, .ref a3, .ref a4, .ref a5, .ref a6, .ref a7, .ref a8, .int (nI np), .ref a10, .ref a11, .int (nI kc), .double kr, .int fd])), (a4, .inl (cI, 4, .inl (cnt ng))), (a5, .inl (cD, 80, .inr (.inr (.inr (.inl (flat 20 B2)))))), (a6, .inl (cD, 80, .inr (.inr (.inr (.inl (flat 20 K2))))))]) [0, 1, 2, 3] rfl
        have hD9 := hD.sub (ws' := [(mo, .inr (4, [.int 2, .ref a1, .ref a2, .ref a3, .ref a4, .ref a5, .ref a6, .ref a7, .ref a8, .int (nI np), .ref a10, .ref a11, .int (nI kc), .double kr, .int fd])), (a4, .inl (cI, 4, .inl (cnt ng))), (a5, .inl (cD, 80, .inr (.inr (.inr (.inl (flat 20 B2)))))), (a6, .inl (cD, 80, .inr (.inr (.inr (.inl (flat 20 K2))))))]) [0, 1, 2, 3] (by decide) rfl
        exact W.iret hx hb hr (fun t9s hht hW9 => ⟨⟨0, (2, (ng, B2, K2)), rfl, ⟨(by show (2 : Nat) = _; unfold cRd; (repeat' split) <;> omega), fun z => absurd z (by simp), (if_neg (show ¬ (2 : Nat) = 0 by decide)).symm⟩, ⟨by rw [hht]; exact hP9, hD9⟩⟩, hS.F hht⟩) hS.2.2 dX4_read_68
    · have c_22 := (b01n hw_19_k_109).mp c_22
      refine lv_dload hx hb dX4_read_25 (lv_at hl 3 rfl) ?_
      refine lv_dload_n hx hb dX4_read_27 rfl (lv_at hl 2 rfl) ?_
      refine lv_ldc2d (v := 4681608360884174848) hx hb hown (hts (.constantDouble RX4 69 (4681608360884174848)) (by decide +kernel)) dX4_read_28 ?_
      refine va_calli (va_runS (As := [.double k9, .double b9, .double 4681608360884174848]) (rest := [.ref mo]) ⟨hx, hb, hml, hown, hts⟩ (m_X4_isIn l k9 b9 4681608360884174848 (hk9.nn (by omega)) (hb9.nn (by omega)) ((by unfold dB; decide +kernel : dB 1040 4681608360884174848).nn (by omega))) (va_cwS 3 hts gX4_read_X4_isIn rfl rfl rfl (by decide +kernel) ⟨(Nat.le_of_ble_eq_true rfl), (Nat.le_of_ble_eq_true rfl)⟩) ⟨fun a U g mk q => q, fun U9 hU9 hW9 => ⟨rfl, trivial⟩⟩ rfl rfl hl.1 rfl (lv_room (Nat.le_of_ble_eq_true rfl)) dX4_read_31 ⟨(Nat.le_of_ble_eq_true rfl), (Nat.le_of_ble_eq_true rfl)⟩) hS (fun q _ h => h.elim) (fun q h => h.elim) (fun r_112 u9s t9s H1 locs hht hvm9 hw_31_k_111 hB hz1 hk1 hS => ?_)
      have hP := va_still hP hk1
      generalize H1 = H at hP hS ⊢
      refine lv_if_ne (tgt := 41) hx hb dX4_read_34 (by decide) (fun c_34 => ?_) (fun c_34 => ?_)
      · have c_34 := (b01n hw_31_k_111).mp c_34
        refine lv_aload_n hx hb dX4_read_41 rfl (lv_at hl 0 rfl) ?_
        refine va_get (D := (dC, dI)) (ci := 4) (v := .ref a4) (C := RX4) (T := TX4) (N := 15) hx hb hts (by decide +kernel) hown hK hP 0 rfl rfl 4 (by decide) (hts (.fieldLink RX4 20 "SteamBendsModel" "readings" "[I") (by decide +kernel)) (fun _ h9 => h9) rfl dX4_read_42 ?_
        refine lv_iload_n hx hb dX4_read_45 rfl (lv_at hl 1 rfl) ?_
        refine va_ialdV hx hb hK hP 1 0 rfl rfl (j := j) (v := nI (ng j)) rfl (by omega) (by omega) dX4_read_46 ?_
        refine lv_bipush (v := 20) hx hb dX4_read_47 (by decide) ?_
        refine lv_icmp_ne (tgt := 56) hx hb dX4_read_49 (by decide) (fun c_49 => ?_) (fun c_49 => ?_)
        · have c_49 := mt (nI_eq (a := ng j) (b := 20) (by omega) (by omega)).mpr c_49
          refine lv_iconst (v := 0) hx hb dX4_read_56 (by decide) ?_
          refine va_put (D := (dC, dI)) (ci := 4) (v := .int 0) (ty := .int) (C := RX4) (T := TX4) (N := 15) hx hb hts (by decide +kernel) tyX4 tyX4_ok nmX4 hown hK hP hD hS 0 rfl rfl 0 (by decide) (hts (.fieldLink RX4 43 "SteamBendsModel" "code" "I") (by decide +kernel)) (fun _ h9 => h9) rfl (by decide +kernel) rfl rfl (Nat.le_of_ble_eq_true rfl) dX4_read_57 (fun H locs hP hD hS => ?_)
          have hP : va_P (dC, dI) vwCl [(mo, .inr (4, [.int 0, .ref a1, .ref a2, .ref a3, .ref a4, .ref a5, .ref a6, .ref a7, .ref a8, .int (nI np), .ref a10, .ref a11, .int (nI kc), .double kr, .int fd])), (a4, .inl (cI, 4, .inl (cnt ng))), (a5, .inl (cD, 80, .inr (.inr (.inr (.inl (flat 20 B2)))))), (a6, .inl (cD, 80, .inr (.inr (.inr (.inl (flat 20 K2))))))] H := hP
          have hD : va_D A [(mo, .inr (4, [.int 0, .ref a1, .ref a2, .ref a3, .ref a4, .ref a5, .ref a6, .ref a7, .ref a8, .int (nI np), .ref a10, .ref a11, .int (nI kc), .double kr, .int fd])), (a4, .inl (cI, 4, .inl (cnt ng))), (a5, .inl (cD, 80, .inr (.inr (.inr (.inl (flat 20 B2)))))), (a6, .inl (cD, 80, .inr (.inr (.inr (.inl (flat 20 K2))))))] := hD
          refine lv_aload_n hx hb dX4_read_60 rfl (lv_at hl 0 rfl) ?_
          refine va_get (D := (dC, dI)) (ci := 4) (v := .int 0) (C := RX4) (T := TX4) (N := 15) hx hb hts (by decide +kernel) hown hK hP 0 rfl rfl 0 (by decide) (hts (.fieldLink RX4 43 "SteamBendsModel" "code" "I") (by decide +kernel)) (fun _ h9 => h9) rfl dX4_read_61 ?_
          refine lv_if_le (tgt := 69) hx hb dX4_read_64 (by decide) (fun c_64 => ?_) (fun c_64 => ?_)
          · refine lv_bipush (v := 20) hx hb dX4_read_69 (by decide) ?_
            refine lv_iload_n hx hb dX4_read_71 rfl (lv_at hl 1 rfl) ?_
            refine lv_imulN (x := 20) (y := j) hx hb dX4_read_72 ?_
            refine lv_aload_n hx hb dX4_read_73 rfl (lv_at hl 0 rfl) ?_
            refine va_get (D := (dC, dI)) (ci := 4) (v := .ref a4) (C := RX4) (T := TX4) (N := 15) hx hb hts (by decide +kernel) hown hK hP 0 rfl rfl 4 (by decide) (hts (.fieldLink RX4 20 "SteamBendsModel" "readings" "[I") (by decide +kernel)) (fun _ h9 => h9) rfl dX4_read_74 ?_
            refine lv_iload_n hx hb dX4_read_77 rfl (lv_at hl 1 rfl) ?_
            refine va_ialdV hx hb hK hP 1 0 rfl rfl (j := j) (v := nI (ng j)) rfl (by omega) (by omega) dX4_read_78 ?_
            refine lv_iaddN (x := 20 * j) (y := ng j) hx hb dX4_read_79 ?_
            refine lv_istore (lv' := [(6, .int (nI (20 * j + ng j))), (0, .ref mo), (1, .int (nI j)), (2, .double b9), (4, .double k9)]) hx hb dX4_read_80 hl (by decide) rfl (fun ls hl => ?_)
            refine lv_aload_n hx hb dX4_read_82 rfl (lv_at hl 1 rfl) ?_
            refine va_get (D := (dC, dI)) (ci := 4) (v := .ref a5) (C := RX4) (T := TX4) (N := 15) hx hb hts (by decide +kernel) hown hK hP 0 rfl rfl 5 (by decide) (hts (.fieldLink RX4 23 "SteamBendsModel" "bents" "[D") (by decide +kernel)) (fun _ h9 => h9) rfl dX4_read_83 ?_
            refine lv_iload hx hb dX4_read_86 (lv_at hl 0 rfl) ?_
            refine lv_dload_n hx hb dX4_read_88 rfl (lv_at hl 3 rfl) ?_
            refine va_dastN hx hb hK hP hD hS 2 1 rfl rfl (j := 20 * j + ng j) (by omega) (by omega) dX4_read_89 (fun H locs hP hD hS => ?_)
            rw [flat_upd (k := j) (j := ng j) rfl (by omega)] at hP hD
            have hP : va_P (dC, dI) vwCl [(mo, .inr (4, [.int 0, .ref a1, .ref a2, .ref a3, .ref a4, .ref a5, .ref a6, .ref a7, .ref a8, .int (nI np), .ref a10, .ref a11, .int (nI kc), .double kr, .int fd])), (a4, .inl (cI, 4, .inl (cnt ng))), (a5, .inl (cD, 80, .inr (.inr (.inr (.inl (flat 20 (up2 B2 j (ng j) b9))))))), (a6, .inl (cD, 80, .inr (.inr (.inr (.inl (flat 20 K2))))))] H := hP
            have hD : va_D A [(mo, .inr (4, [.int 0, .ref a1, .ref a2, .ref a3, .ref a4, .ref a5, .ref a6, .ref a7, .ref a8, .int (nI np), .ref a10, .ref a11, .int (nI kc), .double kr, .int fd])), (a4, .inl (cI, 4, .inl (cnt ng))), (a5, .inl (cD, 80, .inr (.inr (.inr (.inl (flat 20 (up2 B2 j (ng j) b9))))))), (a6, .inl (cD, 80, .inr (.inr (.inr (.inl (flat 20 K2))))))] := hD
            refine lv_aload_n hx hb dX4_read_90 rfl (lv_at hl 1 rfl) ?_
            refine va_get (D := (dC, dI)) (ci := 4) (v := .ref a6) (C := RX4) (T := TX4) (N := 15) hx hb hts (by decide +kernel) hown hK hP 0 rfl rfl 6 (by decide) (hts (.fieldLink RX4 26 "SteamBendsModel" "kepts" "[D") (by decide +kernel)) (fun _ h9 => h9) rfl dX4_read_91 ?_
            refine lv_iload hx hb dX4_read_94 (lv_at hl 0 rfl) ?_
            refine lv_dload hx hb dX4_read_96 (lv_at hl 4 rfl) ?_
            refine va_dastN hx hb hK hP hD hS 3 1 rfl rfl (j := 20 * j + ng j) (by omega) (by omega) dX4_read_98 (fun H locs hP hD hS => ?_)
            rw [flat_upd (k := j) (j := ng j) rfl (by omega)] at hP hD
            have hP : va_P (dC, dI) vwCl [(mo, .inr (4, [.int 0, .ref a1, .ref a2, .ref a3, .ref a4, .ref a5, .ref a6, .ref a7, .ref a8, .int (nI np), .ref a10, .ref a11, .int (nI kc), .double kr, .int fd])), (a4, .inl (cI, 4, .inl (cnt ng))), (a5, .inl (cD, 80, .inr (.inr (.inr (.inl (flat 20 (up2 B2 j (ng j) b9))))))), (a6, .inl (cD, 80, .inr (.inr (.inr (.inl (flat 20 (up2 K2 j (ng j) k9)))))))] H := hP
            have hD : va_D A [(mo, .inr (4, [.int 0, .ref a1, .ref a2, .ref a3, .ref a4, .ref a5, .ref a6, .ref a7, .ref a8, .int (nI np), .ref a10, .ref a11, .int (nI kc), .double kr, .int fd])), (a4, .inl (cI, 4, .inl (cnt ng))), (a5, .inl (cD, 80, .inr (.inr (.inr (.inl (flat 20 (up2 B2 j (ng j) b9))))))), (a6, .inl (cD, 80, .inr (.inr (.inr (.inl (flat 20 (up2 K2 j (ng j) k9)))))))] := hD
            refine lv_aload_n hx hb dX4_read_99 rfl (lv_at hl 1 rfl) ?_
            refine va_get (D := (dC, dI)) (ci := 4) (v := .ref a4) (C := RX4) (T := TX4) (N := 15) hx hb hts (by decide +kernel) hown hK hP 0 rfl rfl 4 (by decide) (hts (.fieldLink RX4 20 "SteamBendsModel" "readings" "[I") (by decide +kernel)) (fun _ h9 => h9) rfl dX4_read_100 ?_
            refine lv_iload_n hx hb dX4_read_103 rfl (lv_at hl 2 rfl) ?_
            refine lv_dup2_11 hx hb dX4_read_104 rfl rfl ?_
            refine va_ialdV hx hb hK hP 1 0 rfl rfl (j := j) (v := nI (ng j)) rfl (by omega) (by omega) dX4_read_105 ?_
            refine lv_iconst (v := 1) hx hb dX4_read_106 (by decide) ?_
            refine lv_iaddN (x := ng j) (y := 1) hx hb dX4_read_107 ?_
            refine va_iastN hx hb hK hP hD hS 1 0 rfl rfl (j := j) (by omega) (by omega) dX4_read_108 (fun H locs hP hD hS => ?_)
            rw [cnt_upd] at hP hD
            have hP : va_P (dC, dI) vwCl [(mo, .inr (4, [.int 0, .ref a1, .ref a2, .ref a3, .ref a4, .ref a5, .ref a6, .ref a7, .ref a8, .int (nI np), .ref a10, .ref a11, .int (nI kc), .double kr, .int fd])), (a4, .inl (cI, 4, .inl (cnt (vf_upd ng j ((ng j) + 1))))), (a5, .inl (cD, 80, .inr (.inr (.inr (.inl (flat 20 (up2 B2 j (ng j) b9))))))), (a6, .inl (cD, 80, .inr (.inr (.inr (.inl (flat 20 (up2 K2 j (ng j) k9)))))))] H := hP
            have hD : va_D A [(mo, .inr (4, [.int 0, .ref a1, .ref a2, .ref a3, .ref a4, .ref a5, .ref a6, .ref a7, .ref a8, .int (nI np), .ref a10, .ref a11, .int (nI kc), .double kr, .int fd])), (a4, .inl (cI, 4, .inl (cnt (vf_upd ng j ((ng j) + 1))))), (a5, .inl (cD, 80, .inr (.inr (.inr (.inl (flat 20 (up2 B2 j (ng j) b9))))))), (a6, .inl (cD, 80, .inr (.inr (.inr (.inl (flat 20 (up2 K2 j (ng j) k9)))))))] := hD
            refine lv_aload_n hx hb dX4_read_109 rfl (lv_at hl 1 rfl) ?_
            refine va_get (D := (dC, dI)) (ci := 4) (v := .ref a4) (C := RX4) (T := TX4) (N := 15) hx hb hts (by decide +kernel) hown hK hP 0 rfl rfl 4 (by decide) (hts (.fieldLink RX4 20 "SteamBendsModel" "readings" "[I") (by decide +kernel)) (fun _ h9 => h9) rfl dX4_read_110 ?_
            refine lv_iload_n hx hb dX4_read_113 rfl (lv_at hl 2 rfl) ?_
            refine va_ialdV hx hb hK hP 1 0 rfl rfl (j := j) (v := nI ((ng j) + 1)) (by show nI ((vf_upd ng j ((ng j) + 1)) j) = _; rw [vf_at]) (by omega) (by omega) dX4_read_114 ?_
            have hP9 := hP.sub (ws' := [(mo, .inr (4, [.int 0, .ref a1, .ref a2, .ref a3, .ref a4, .ref a5, .ref a6, .ref a7, .ref a8, .int (nI np), .ref a10, .ref a11, .int (nI kc), .double kr, .int fd])), (a4, .inl (cI, 4, .inl (cnt (vf_upd ng j ((ng j) + 1))))), (a5, .inl (cD, 80, .inr (.inr (.inr (.inl (flat 20 (up2 B2 j (ng j) b9))))))), (a6, .inl (cD, 80, .inr (.inr (.inr (.inl (flat 20 (up2 K2 j (ng j) k9)))))))]) [0, 1, 2, 3] rfl
            have hD9 := hD.sub (ws' := [(mo, .inr (4, [.int 0, .ref a1, .ref a2, .ref a3, .ref a4, .ref a5, .ref a6, .ref a7, .ref a8, .int (nI np), .ref a10, .ref a11, .int (nI kc), .double kr, .int fd])), (a4, .inl (cI, 4, .inl (cnt (vf_upd ng j ((ng j) + 1))))), (a5, .inl (cD, 80, .inr (.inr (.inr (.inl (flat 20 (up2 B2 j (ng j) b9))))))), (a6, .inl (cD, 80, .inr (.inr (.inr (.inl (flat 20 (up2 K2 j (ng j) k9)))))))]) [0, 1, 2, 3] (by decide) rfl
            exact W.iret hx hb hr (fun t9s hht hW9 => ⟨⟨nI ((ng j) + 1), (0, (vf_upd ng j (ng j + 1), up2 B2 j (ng j) b9, up2 K2 j (ng j) k9)), rfl, ⟨(by show (0 : Nat) = _; unfold cRd; (repeat' split) <;> omega), fun _ => rfl, (if_pos rfl).symm⟩, ⟨by rw [hht]; exact hP9, hD9⟩⟩, hS.F hht⟩) hS.2.2 dX4_read_115
          · exact absurd c_64 (by decide)
        · have c_49 := (nI_eq (a := ng j) (b := 20) (by omega) (by omega)).mp c_49
          refine lv_iconst (v := 3) hx hb dX4_read_52 (by decide) ?_
          refine lv_goto (tgt := 57) hx hb dX4_read_53 (by decide) ?_
          refine va_put (D := (dC, dI)) (ci := 4) (v := .int 3) (ty := .int) (C := RX4) (T := TX4) (N := 15) hx hb hts (by decide +kernel) tyX4 tyX4_ok nmX4 hown hK hP hD hS 0 rfl rfl 0 (by decide) (hts (.fieldLink RX4 43 "SteamBendsModel" "code" "I") (by decide +kernel)) (fun _ h9 => h9) rfl (by decide +kernel) rfl rfl (Nat.le_of_ble_eq_true rfl) dX4_read_57 (fun H locs hP hD hS => ?_)
          have hP : va_P (dC, dI) vwCl [(mo, .inr (4, [.int 3, .ref a1, .ref a2, .ref a3, .ref a4, .ref a5, .ref a6, .ref a7, .ref a8, .int (nI np), .ref a10, .ref a11, .int (nI kc), .double kr, .int fd])), (a4, .inl (cI, 4, .inl (cnt ng))), (a5, .inl (cD, 80, .inr (.inr (.inr (.inl (flat 20 B2)))))), (a6, .inl (cD, 80, .inr (.inr (.inr (.inl (flat 20 K2))))))] H := hP
          have hD : va_D A [(mo, .inr (4, [.int 3, .ref a1, .ref a2, .ref a3, .ref a4, .ref a5, .ref a6, .ref a7, .ref a8, .int (nI np), .ref a10, .ref a11, .int (nI kc), .double kr, .int fd])), (a4, .inl (cI, 4, .inl (cnt ng))), (a5, .inl (cD, 80, .inr (.inr (.inr (.inl (flat 20 B2)))))), (a6, .inl (cD, 80, .inr (.inr (.inr (.inl (flat 20 K2))))))] := hD
          refine lv_aload_n hx hb dX4_read_60 rfl (lv_at hl 0 rfl) ?_
          refine va_get (D := (dC, dI)) (ci := 4) (v := .int 3) (C := RX4) (T := TX4) (N := 15) hx hb hts (by decide +kernel) hown hK hP 0 rfl rfl 0 (by decide) (hts (.fieldLink RX4 43 "SteamBendsModel" "code" "I") (by decide +kernel)) (fun _ h9 => h9) rfl dX4_read_61 ?_
          refine lv_if_le (tgt := 69) hx hb dX4_read_64 (by decide) (fun c_64 => ?_) (fun c_64 => ?_)
          · exact absurd c_64 (by decide)
          · refine lv_iconst (v := 0) hx hb dX4_read_67 (by decide) ?_
            have hP9 := hP.sub (ws' := [(mo, .inr (4, [.int 3, .ref a1, .ref a2, .ref a3, .ref a4, .ref a5, .ref a6, .ref a7, .ref a8, .int (nI np), .ref a10, .ref a11, .int (nI kc), .double kr, .int fd])), (a4, .inl (cI, 4, .inl (cnt ng))), (a5, .inl (cD, 80, .inr (.inr (.inr (.inl (flat 20 B2)))))), (a6, .inl (cD, 80, .inr (.inr (.inr (.inl (flat 20 K2))))))]) [0, 1, 2, 3] rfl
            have hD9 := hD.sub (ws' := [(mo, .inr (4, [.int 3, .ref a1, .ref a2, .ref a3, .ref a4, .ref a5, .ref a6, .ref a7, .ref a8, .int (nI np), .ref a10, .ref a11, .int (nI kc), .double kr, .int fd])), (a4, .inl (cI, 4, .inl (cnt ng))), (a5, .inl (cD, 80, .inr (.inr (.inr (.inl (flat 20 B2)))))), (a6, .inl (cD, 80, .inr (.inr (.inr (.inl (flat 20 K2))))))]) [0, 1, 2, 3] (by decide) rfl
            exact W.iret hx hb hr (fun t9s hht hW9 => ⟨⟨0, (3, (ng, B2, K2)), rfl, ⟨(by show (3 : Nat) = _; unfold cRd; (repeat' split) <;> omega), fun z => absurd z (by simp), (if_neg (show ¬ (3 : Nat) = 0 by decide)).symm⟩, ⟨by rw [hht]; exact hP9, hD9⟩⟩, hS.F hht⟩) hS.2.2 dX4_read_68
      · have c_34 := (b01 hw_31_k_111).mp c_34
        refine lv_iconst (v := 2) hx hb dX4_read_37 (by decide) ?_
        refine lv_goto (tgt := 57) hx hb dX4_read_38 (by decide) ?_
        refine va_put (D := (dC, dI)) (ci := 4) (v := .int 2) (ty := .int) (C := RX4) (T := TX4) (N := 15) hx hb hts (by decide +kernel) tyX4 tyX4_ok nmX4 hown hK hP hD hS 0 rfl rfl 0 (by decide) (hts (.fieldLink RX4 43 "SteamBendsModel" "code" "I") (by decide +kernel)) (fun _ h9 => h9) rfl (by decide +kernel) rfl rfl (Nat.le_of_ble_eq_true rfl) dX4_read_57 (fun H locs hP hD hS => ?_)
        have hP : va_P (dC, dI) vwCl [(mo, .inr (4, [.int 2, .ref a1, .ref a2, .ref a3, .ref a4, .ref a5, .ref a6, .ref a7, .ref a8, .int (nI np), .ref a10, .ref a11, .int (nI kc), .double kr, .int fd])), (a4, .inl (cI, 4, .inl (cnt ng))), (a5, .inl (cD, 80, .inr (.inr (.inr (.inl (flat 20 B2)))))), (a6, .inl (cD, 80, .inr (.inr (.inr (.inl (flat 20 K2))))))] H := hP
        have hD : va_D A [(mo, .inr (4, [.int 2, .ref a1, .ref a2, .ref a3, .ref a4, .ref a5, .ref a6, .ref a7, .ref a8, .int (nI np), .ref a10, .ref a11, .int (nI kc), .double kr, .int fd])), (a4, .inl (cI, 4, .inl (cnt ng))), (a5, .inl (cD, 80, .inr (.inr (.inr (.inl (flat 20 B2)))))), (a6, .inl (cD, 80, .inr (.inr (.inr (.inl (flat 20 K2))))))] := hD
        refine lv_aload_n hx hb dX4_read_60 rfl (lv_at hl 0 rfl) ?_
        refine va_get (D := (dC, dI)) (ci := 4) (v := .int 2) (C := RX4) (T := TX4) (N := 15) hx hb hts (by decide +kernel) hown hK hP 0 rfl rfl 0 (by decide) (hts (.fieldLink RX4 43 "SteamBendsModel" "code" "I") (by decide +kernel)) (fun _ h9 => h9) rfl dX4_read_61 ?_
        refine lv_if_le (tgt := 69) hx hb dX4_read_64 (by decide) (fun c_64 => ?_) (fun c_64 => ?_)
        · exact absurd c_64 (by decide)
        · refine lv_iconst (v := 0) hx hb dX4_read_67 (by decide) ?_
          have hP9 := hP.sub (ws' := [(mo, .inr (4, [.int 2, .ref a1, .ref a2, .ref a3, .ref a4, .ref a5, .ref a6, .ref a7, .ref a8, .int (nI np), .ref a10, .ref a11, .int (nI kc), .double kr, .int fd])), (a4, .inl (cI, 4, .inl (cnt ng))), (a5, .inl (cD, 80, .inr (.inr (.inr (.inl (flat 20 B2)))))), (a6, .inl (cD, 80, .inr (.inr (.inr (.inl (flat 20 K2))))))]) [0, 1, 2, 3] rfl
          have hD9 := hD.sub (ws' := [(mo, .inr (4, [.int 2, .ref a1, .ref a2, .ref a3, .ref a4, .ref a5, .ref a6, .ref a7, .ref a8, .int (nI np), .ref a10, .ref a11, .int (nI kc), .double kr, .int fd])), (a4, .inl (cI, 4, .inl (cnt ng))), (a5, .inl (cD, 80, .inr (.inr (.inr (.inl (flat 20 B2)))))), (a6, .inl (cD, 80, .inr (.inr (.inr (.inl (flat 20 K2))))))]) [0, 1, 2, 3] (by decide) rfl
          exact W.iret hx hb hr (fun t9s hht hW9 => ⟨⟨0, (2, (ng, B2, K2)), rfl, ⟨(by show (2 : Nat) = _; unfold cRd; (repeat' split) <;> omega), fun z => absurd z (by simp), (if_neg (show ¬ (2 : Nat) = 0 by decide)).symm⟩, ⟨by rw [hht]; exact hP9, hD9⟩⟩, hS.F hht⟩) hS.2.2 dX4_read_68
  · have c_5 := (b01 hw_2_k_107).mp c_5
    refine lv_iconst (v := 1) hx hb dX4_read_8 (by decide) ?_
    refine lv_goto (tgt := 57) hx hb dX4_read_9 (by decide) ?_
    refine va_put (D := (dC, dI)) (ci := 4) (v := .int 1) (ty := .int) (C := RX4) (T := TX4) (N := 15) hx hb hts (by decide +kernel) tyX4 tyX4_ok nmX4 hown hK hP hD hS 0 rfl rfl 0 (by decide) (hts (.fieldLink RX4 43 "SteamBendsModel" "code" "I") (by decide +kernel)) (fun _ h9 => h9) rfl (by decide +kernel) rfl rfl (Nat.le_of_ble_eq_true rfl) dX4_read_57 (fun H locs hP hD hS => ?_)
    have hP : va_P (dC, dI) vwCl [(mo, .inr (4, [.int 1, .ref a1, .ref a2, .ref a3, .ref a4, .ref a5, .ref a6, .ref a7, .ref a8, .int (nI np), .ref a10, .ref a11, .int (nI kc), .double kr, .int fd])), (a4, .inl (cI, 4, .inl (cnt ng))), (a5, .inl (cD, 80, .inr (.inr (.inr (.inl (flat 20 B2)))))), (a6, .inl (cD, 80, .inr (.inr (.inr (.inl (flat 20 K2))))))] H := hP
    have hD : va_D A [(mo, .inr (4, [.int 1, .ref a1, .ref a2, .ref a3, .ref a4, .ref a5, .ref a6, .ref a7, .ref a8, .int (nI np), .ref a10, .ref a11, .int (nI kc), .double kr, .int fd])), (a4, .inl (cI, 4, .inl (cnt ng))), (a5, .inl (cD, 80, .inr (.inr (.inr (.inl (flat 20 B2)))))), (a6, .inl (cD, 80, .inr (.inr (.inr (.inl (flat 20 K2))))))] := hD
    refine lv_aload_n hx hb dX4_read_60 rfl (lv_at hl 0 rfl) ?_
    refine va_get (D := (dC, dI)) (ci := 4) (v := .int 1) (C := RX4) (T := TX4) (N := 15) hx hb hts (by decide +kernel) hown hK hP 0 rfl rfl 0 (by decide) (hts (.fieldLink RX4 43 "SteamBendsModel" "code" "I") (by decide +kernel)) (fun _ h9 => h9) rfl dX4_read_61 ?_
    refine lv_if_le (tgt := 69) hx hb dX4_read_64 (by decide) (fun c_64 => ?_) (fun c_64 => ?_)
    · exact absurd c_64 (by decide)
    · refine lv_iconst (v := 0) hx hb dX4_read_67 (by decide) ?_
      have hP9 := hP.sub (ws' := [(mo, .inr (4, [.int 1, .ref a1, .ref a2, .ref a3, .ref a4, .ref a5, .ref a6, .ref a7, .ref a8, .int (nI np), .ref a10, .ref a11, .int (nI kc), .double kr, .int fd])), (a4, .inl (cI, 4, .inl (cnt ng))), (a5, .inl (cD, 80, .inr (.inr (.inr (.inl (flat 20 B2)))))), (a6, .inl (cD, 80, .inr (.inr (.inr (.inl (flat 20 K2))))))]) [0, 1, 2, 3] rfl
      have hD9 := hD.sub (ws' := [(mo, .inr (4, [.int 1, .ref a1, .ref a2, .ref a3, .ref a4, .ref a5, .ref a6, .ref a7, .ref a8, .int (nI np), .ref a10, .ref a11, .int (nI kc), .double kr, .int fd])), (a4, .inl (cI, 4, .inl (cnt ng))), (a5, .inl (cD, 80, .inr (.inr (.inr (.inl (flat 20 B2)))))), (a6, .inl (cD, 80, .inr (.inr (.inr (.inl (flat 20 K2))))))]) [0, 1, 2, 3] (by decide) rfl
      exact W.iret hx hb hr (fun t9s hht hW9 => ⟨⟨0, (1, (ng, B2, K2)), rfl, ⟨(by show (1 : Nat) = _; unfold cRd; (repeat' split) <;> omega), fun z => absurd z (by simp), (if_neg (show ¬ (1 : Nat) = 0 by decide)).symm⟩, ⟨by rw [hht]; exact hP9, hD9⟩⟩, hS.F hht⟩) hS.2.2 dX4_read_68

set_option maxHeartbeats 4000000 in
set_option maxRecDepth 100000 in
theorem m_X4_residue (l : Launch) (dC : Nat → ClassId) (dI : Nat → Nat → Nat) (cI cD : ClassId) (mo a1 a2 a3 a4 a5 a6 a7 a8 a10 a11 : Nat) (cd : Int32) (np kc : Nat) (kr : UInt64) (fd : Int32) (ng : Nat → Nat) (B2 K2 : Nat → Nat → UInt64) (j : Nat) (hj : j < 4) (s9 : UInt64) (hs9 : dB 1040 s9) (hrd : readsOK (B2 j) (K2 j) (ng j)) : Met l yX4_residue wsX4_residue ({ frames := 0, cells := 0, slots := 0, locals := 0 } : Room) (va_Pc [.ref mo, .int (nI j), .double s9] (PK (dC, dI) [(cI, .int), (cD, .double)] [(mo, .inr (4, [.int cd, .ref a1, .ref a2, .ref a3, .ref a4, .ref a5, .ref a6, .ref a7, .ref a8, .int (nI np), .ref a10, .ref a11, .int (nI kc), .double kr, .int fd])), (a4, .inl (cI, 4, .inl (cnt ng))), (a5, .inl (cD, 80, .inr (.inr (.inr (.inl (flat 20 B2)))))), (a6, .inl (cD, 80, .inr (.inr (.inr (.inl (flat 20 K2))))))])) (va_Qd (fun (r : UInt64) (_ : Unit) => r = rsd (B2 j) (K2 j) s9 (ng j)) (fun _ _ => True) (fun _ => False)) 0 0 (fun _ => False) := by
  refine Met.ofW (cc := cX4_residue) (maxL := 9) (ret := (some .double)) (by decide) rfl ?_
  intro p e s m args below meth c s₁ BB hml hv
  obtain ⟨rfl, hP, hK, hN⟩ := hv
  have hx := BB.exec
  have hb := BB.bytes
  have hr := BB.returns
  have hts := atoms_spec (ws := wsX4_residue) BB.pre
  have hown : s.vm.findClass RX4 = some m.cls := findClass_of_methodNamed BB.named
  have hlocks := BB.notSynchronized
  have hS : va_S (fun _ => False) s.heap s.heap [] := va_S.rf
  have hP : va_P (dC, dI) vwCl [(mo, .inr (4, [.int cd, .ref a1, .ref a2, .ref a3, .ref a4, .ref a5, .ref a6, .ref a7, .ref a8, .int (nI np), .ref a10, .ref a11, .int (nI kc), .double kr, .int fd])), (a4, .inl (cI, 4, .inl (cnt ng))), (a5, .inl (cD, 80, .inr (.inr (.inr (.inl (flat 20 B2)))))), (a6, .inl (cD, 80, .inr (.inr (.inr (.inl (flat 20 K2))))))] s.heap := hP
  have hl := lv_entry ([.ref mo, .int (nI j), .double s9]) (n := 9) (Nat.le_of_ble_eq_true rfl)
  rw [lg_entry_eq]
  generalize (lg_sl ([.ref mo, .int (nI j), .double s9]) ++ List.replicate (9 - (lg_sl ([.ref mo, .int (nI j), .double s9])).length) Slot.unset).toArray = ls at hl ⊢
  have hl : lv_has ls 9 [(0, .ref mo), (1, .int (nI j)), (2, .double s9)] := hl
  have hn20 := hrd.1
  refine lv_dconst0 hx hb dX4_residue_0 ?_
  refine lv_dstore (lv' := [(4, .double FP.dconst0), (0, .ref mo), (1, .int (nI j)), (2, .double s9)]) hx hb dX4_residue_1 hl (by decide) rfl (fun ls hl => ?_)
  refine lv_bipush (v := 20) hx hb dX4_residue_3 (by decide) ?_
  refine lv_iload_n hx hb dX4_residue_5 rfl (lv_at hl 2 rfl) ?_
  refine lv_imulN (x := 20) (y := j) hx hb dX4_residue_6 ?_
  refine lv_istore (lv' := [(6, .int (nI (20 * j))), (4, .double FP.dconst0), (0, .ref mo), (1, .int (nI j)), (2, .double s9)]) hx hb dX4_residue_7 hl (by decide) rfl (fun ls hl => ?_)
  refine w_loop (σ := Nat) (fun n9 x9 H locs ls => lv_has ls 9 [(6, .int (nI (20 * j + x9))), (4, .double (rsd (B2 j) (K2 j) s9 x9)), (0, .ref mo), (1, .int (nI j)), (2, .double s9)] ∧ va_P (dC, dI) vwCl [(mo, .inr (4, [.int cd, .ref a1, .ref a2, .ref a3, .ref a4, .ref a5, .ref a6, .ref a7, .ref a8, .int (nI np), .ref a10, .ref a11, .int (nI kc), .double kr, .int fd])), (a4, .inl (cI, 4, .inl (cnt ng))), (a5, .inl (cD, 80, .inr (.inr (.inr (.inl (flat 20 B2)))))), (a6, .inl (cD, 80, .inr (.inr (.inr (.inl (flat 20 K2))))))] H ∧ va_S (fun _ => False) s.heap H locs ∧ x9 + n9 = ng j) (n0 := ng j) (x0 := 0) ⟨lv_sub hl [0, 1, 2, 3, 4] rfl, hP, hS, (show 0 + (ng j) = ng j from by omega)⟩ ?_
  rintro n9 i9 H locs ls ⟨hl, hP, hS, hi⟩ ih
  have hl : lv_has ls 9 [(6, .int (nI (20 * j + i9))), (4, .double (rsd (B2 j) (K2 j) s9 i9)), (0, .ref mo), (1, .int (nI j)), (2, .double s9)] := hl
  have hP : va_P (dC, dI) vwCl [(mo, .inr (4, [.int cd, .ref a1, .ref a2, .ref a3, .ref a4, .ref a5, .ref a6, .ref a7, .ref a8, .int (nI np), .ref a10, .ref a11, .int (nI kc), .double kr, .int fd])), (a4, .inl (cI, 4, .inl (cnt ng))), (a5, .inl (cD, 80, .inr (.inr (.inr (.inl (flat 20 B2)))))), (a6, .inl (cD, 80, .inr (.inr (.inr (.inl (flat 20 K2))))))] H := hP
  have hi : i9 + n9 = ng j := hi
  refine lv_iload hx hb dX4_residue_9 (lv_at hl 0 rfl) ?_
  refine lv_bipush (v := 20) hx hb dX4_residue_11 (by decide) ?_
  refine lv_iload_n hx hb dX4_residue_13 rfl (lv_at hl 3 rfl) ?_
  refine lv_imulN (x := 20) (y := j) hx hb dX4_residue_14 ?_
  refine lv_aload_n hx hb dX4_residue_15 rfl (lv_at hl 2 rfl) ?_
  refine va_get (D := (dC, dI)) (ci := 4) (v := .ref a4) (C := RX4) (T := TX4) (N := 15) hx hb hts (by decide +kernel) hown hK hP 0 rfl rfl 4 (by decide) (hts (.fieldLink RX4 20 "SteamBendsModel" "readings" "[I") (by decide +kernel)) (fun _ h9 => h9) rfl dX4_residue_16 ?_
  refine lv_iload_n hx hb dX4_residue_19 rfl (lv_at hl 3 rfl) ?_
  refine va_ialdV hx hb hK hP 1 0 rfl rfl (j := j) (v := nI (ng j)) rfl (by omega) (by omega) dX4_residue_20 ?_
  refine lv_iaddN (x := 20 * j) (y := ng j) hx hb dX4_residue_21 ?_
  refine lv_icmp_ge (tgt := 62) hx hb dX4_residue_22 (by decide) (fun c_22 => ?_) (fun c_22 => ?_)
  · have c_22 := (nI_leI (a := 20 * j + ng j) (b := 20 * j + i9) (by omega) (by omega)).mp c_22
    refine lv_dload hx hb dX4_residue_62 (lv_at hl 1 rfl) ?_
    exact W.dret hx hb hr (fun t9s hht hW9 => ⟨⟨rsd (B2 j) (K2 j) s9 i9, (), rfl, (by rw [show ng j = i9 by omega]), trivial⟩, hS.F hht⟩) hS.2.2 dX4_residue_64
  · have c_22 := mt (nI_leI (a := 20 * j + ng j) (b := 20 * j + i9) (by omega) (by omega)).mpr c_22
    refine lv_aload_n hx hb dX4_residue_25 rfl (lv_at hl 2 rfl) ?_
    refine va_get (D := (dC, dI)) (ci := 4) (v := .ref a6) (C := RX4) (T := TX4) (N := 15) hx hb hts (by decide +kernel) hown hK hP 0 rfl rfl 6 (by decide) (hts (.fieldLink RX4 26 "SteamBendsModel" "kepts" "[D") (by decide +kernel)) (fun _ h9 => h9) rfl dX4_residue_26 ?_
    refine lv_iload hx hb dX4_residue_29 (lv_at hl 0 rfl) ?_
    refine va_daldV hx hb hK hP 3 1 rfl rfl (j := 20 * j + i9) (v := K2 j i9) (flat_at (k := j) (j := i9) rfl (by omega)) (by omega) (by omega) dX4_residue_31 ?_
    refine lv_aload_n hx hb dX4_residue_32 rfl (lv_at hl 2 rfl) ?_
    refine va_get (D := (dC, dI)) (ci := 4) (v := .ref a5) (C := RX4) (T := TX4) (N := 15) hx hb hts (by decide +kernel) hown hK hP 0 rfl rfl 5 (by decide) (hts (.fieldLink RX4 23 "SteamBendsModel" "bents" "[D") (by decide +kernel)) (fun _ h9 => h9) rfl dX4_residue_33 ?_
    refine lv_iload hx hb dX4_residue_36 (lv_at hl 0 rfl) ?_
    refine va_daldV hx hb hK hP 2 1 rfl rfl (j := 20 * j + i9) (v := B2 j i9) (flat_at (k := j) (j := i9) rfl (by omega)) (by omega) (by omega) dX4_residue_38 ?_
    refine lv_dconst1 hx hb dX4_residue_39 ?_
    refine lv_dload_n hx hb dX4_residue_40 rfl (lv_at hl 4 rfl) ?_
    have b_113 : dB (1042) (FP.dadd FP.dconst1 s9) := dB.add dB_d1 hs9 (M := 1040) (by omega) (by omega) (by omega)
    refine lv_dadd hx hb dX4_residue_41 (b_113.ok (by omega)) ?_
    have b_114 : dB (1080) (FP.dmul (B2 j i9) (FP.dadd FP.dconst1 s9)) := dB.mul ((hrd.2 (i9) (by omega)).1) b_113 (by omega) (by omega) (by omega)
    refine lv_dmul hx hb dX4_residue_42 (b_114.ok (by omega)) ?_
    have b_115 : dB (1082) (FP.dsub (K2 j i9) (FP.dmul (B2 j i9) (FP.dadd FP.dconst1 s9))) := dB.sub ((hrd.2 (i9) (by omega)).2) b_114 (M := 1080) (by omega) (by omega) (by omega)
    refine lv_dsub hx hb dX4_residue_43 (b_115.ok (by omega)) ?_
    refine lv_dstore (lv' := [(7, .double (FP.dsub (K2 j i9) (FP.dmul (B2 j i9) (FP.dadd FP.dconst1 s9)))), (6, .int (nI (20 * j + i9))), (4, .double (rsd (B2 j) (K2 j) s9 i9)), (0, .ref mo), (1, .int (nI j)), (2, .double s9)]) hx hb dX4_residue_44 hl (by decide) rfl (fun ls hl => ?_)
    refine lv_dload hx hb dX4_residue_46 (lv_at hl 2 rfl) ?_
    refine lv_dload hx hb dX4_residue_48 (lv_at hl 0 rfl) ?_
    refine lv_dload hx hb dX4_residue_50 (lv_at hl 0 rfl) ?_
    have b_116 : dB (1142) (FP.dmul (FP.dsub (K2 j i9) (FP.dmul (B2 j i9) (FP.dadd FP.dconst1 s9))) (FP.dsub (K2 j i9) (FP.dmul (B2 j i9) (FP.dadd FP.dconst1 s9)))) := dB.mul b_115 b_115 (by omega) (by omega) (by omega)
    refine lv_dmul hx hb dX4_residue_52 (b_116.ok (by omega)) ?_
    have b_117 : dB (1150 + 2 * i9 + 2) (FP.dadd (rsd (B2 j) (K2 j) s9 i9) (FP.dmul (FP.dsub (K2 j i9) (FP.dmul (B2 j i9) (FP.dadd FP.dconst1 s9))) (FP.dsub (K2 j i9) (FP.dmul (B2 j i9) (FP.dadd FP.dconst1 s9))))) := dB.add (rsd_dB hrd hs9 i9 (by omega)) b_116 (M := 1150 + 2 * i9) (by omega) (by omega) (by omega)
    refine lv_dadd hx hb dX4_residue_53 (b_117.ok (by omega)) ?_
    refine lv_dstore (lv' := [(4, .double (FP.dadd (rsd (B2 j) (K2 j) s9 i9) (FP.dmul (FP.dsub (K2 j i9) (FP.dmul (B2 j i9) (FP.dadd FP.dconst1 s9))) (FP.dsub (K2 j i9) (FP.dmul (B2 j i9) (FP.dadd FP.dconst1 s9)))))), (7, .double (FP.dsub (K2 j i9) (FP.dmul (B2 j i9) (FP.dadd FP.dconst1 s9)))), (6, .int (nI (20 * j + i9))), (0, .ref mo), (1, .int (nI j)), (2, .double s9)]) hx hb dX4_residue_54 hl (by decide) rfl (fun ls hl => ?_)
    refine lv_iinc (v := nI (20 * j + i9 + 1)) (lv' := [(6, .int (nI (20 * j + i9 + 1))), (4, .double (FP.dadd (rsd (B2 j) (K2 j) s9 i9) (FP.dmul (FP.dsub (K2 j i9) (FP.dmul (B2 j i9) (FP.dadd FP.dconst1 s9))) (FP.dsub (K2 j i9) (FP.dmul (B2 j i9) (FP.dadd FP.dconst1 s9)))))), (7, .double (FP.dsub (K2 j i9) (FP.dmul (B2 j i9) (FP.dadd FP.dconst1 s9)))), (0, .ref mo), (1, .int (nI j)), (2, .double s9)]) hx hb dX4_residue_56 hl (k := 2) rfl (show nI (20 * j + i9) + nI 1 = nI (20 * j + i9 + 1) from nI_add _ _) (by decide) rfl (fun ls hl => ?_)
    refine lv_goto (tgt := 9) hx hb dX4_residue_59 (by decide) ?_
    exact ih (n9 - 1) (by omega) (i9 + 1) _ _ _ ⟨(by
        simp only [rsd]
        exact lv_sub hl [0, 1, 3, 4, 5] rfl), hP, hS, (show (i9 + 1) + (n9 - 1) = ng j from by omega)⟩

set_option maxHeartbeats 4000000 in
set_option maxRecDepth 100000 in
theorem m_X4_improves (l : Launch) (dC : Nat → ClassId) (dI : Nat → Nat → Nat) (sz : Nat) (cI cD : ClassId) (mo a1 a2 a3 a4 a5 a6 a7 a8 a10 a11 : Nat) (cd : Int32) (np kc : Nat) (kr : UInt64) (fd : Int32) (ng : Nat → Nat) (B2 K2 : Nat → Nat → UInt64) (sp2 st2 : Nat → UInt64) (j : Nat) (hj : j < 4) (sp st : UInt64) (es : sp2 j = sp) (eh : st2 j = st) (hs : dB 1038 sp) (hh : dB 1030 st) (hrd : readsOK (B2 j) (K2 j) (ng j)) : Met l yX4_improves wsX4_improves ({ frames := 1, cells := 0, slots := 0, locals := 28 } : Room) (va_Pc [.ref mo, .int (nI j)] (PW (dC, dI) [(cI, .int), (cD, .double)] [(mo, .inr (4, [.int cd, .ref a1, .ref a2, .ref a3, .ref a4, .ref a5, .ref a6, .ref a7, .ref a8, .int (nI np), .ref a10, .ref a11, .int (nI kc), .double kr, .int fd])), (a4, .inl (cI, 4, .inl (cnt ng))), (a5, .inl (cD, 80, .inr (.inr (.inr (.inl (flat 20 B2)))))), (a6, .inl (cD, 80, .inr (.inr (.inr (.inl (flat 20 K2)))))), (a7, .inl (cD, 4, .inr (.inr (.inr (.inl sp2))))), (a8, .inl (cD, 4, .inr (.inr (.inr (.inl st2)))))] sz)) (va_Qi (fun (r : Int32) (u : UInt64 × UInt64 × Bool) => r = (if u.2.2 = true then 1 else 0) ∧ u = rnd (B2 j) (K2 j) (ng j) sp st) (fun (u : UInt64 × UInt64 × Bool) => QW (dC, dI) [(mo, .inr (4, [.int cd, .ref a1, .ref a2, .ref a3, .ref a4, .ref a5, .ref a6, .ref a7, .ref a8, .int (nI np), .ref a10, .ref a11, .int (nI kc), .double kr, .int fd])), (a4, .inl (cI, 4, .inl (cnt ng))), (a5, .inl (cD, 80, .inr (.inr (.inr (.inl (flat 20 B2)))))), (a6, .inl (cD, 80, .inr (.inr (.inr (.inl (flat 20 K2)))))), (a7, .inl (cD, 4, .inr (.inr (.inr (.inl (vf_upd sp2 j u.1)))))), (a8, .inl (cD, 4, .inr (.inr (.inr (.inl (vf_upd st2 j u.2.1))))))] (va_A [(mo, .inr (4, [.int cd, .ref a1, .ref a2, .ref a3, .ref a4, .ref a5, .ref a6, .ref a7, .ref a8, .int (nI np), .ref a10, .ref a11, .int (nI kc), .double kr, .int fd])), (a4, .inl (cI, 4, .inl (cnt ng))), (a5, .inl (cD, 80, .inr (.inr (.inr (.inl (flat 20 B2)))))), (a6, .inl (cD, 80, .inr (.inr (.inr (.inl (flat 20 K2)))))), (a7, .inl (cD, 4, .inr (.inr (.inr (.inl sp2))))), (a8, .inl (cD, 4, .inr (.inr (.inr (.inl st2)))))] sz)) (va_A [(mo, .inr (4, [.int cd, .ref a1, .ref a2, .ref a3, .ref a4, .ref a5, .ref a6, .ref a7, .ref a8, .int (nI np), .ref a10, .ref a11, .int (nI kc), .double kr, .int fd])), (a4, .inl (cI, 4, .inl (cnt ng))), (a5, .inl (cD, 80, .inr (.inr (.inr (.inl (flat 20 B2)))))), (a6, .inl (cD, 80, .inr (.inr (.inr (.inl (flat 20 K2)))))), (a7, .inl (cD, 4, .inr (.inr (.inr (.inl sp2))))), (a8, .inl (cD, 4, .inr (.inr (.inr (.inl st2)))))] sz)) 0 0 (va_A [(mo, .inr (4, [.int cd, .ref a1, .ref a2, .ref a3, .ref a4, .ref a5, .ref a6, .ref a7, .ref a8, .int (nI np), .ref a10, .ref a11, .int (nI kc), .double kr, .int fd])), (a4, .inl (cI, 4, .inl (cnt ng))), (a5, .inl (cD, 80, .inr (.inr (.inr (.inl (flat 20 B2)))))), (a6, .inl (cD, 80, .inr (.inr (.inr (.inl (flat 20 K2)))))), (a7, .inl (cD, 4, .inr (.inr (.inr (.inl sp2))))), (a8, .inl (cD, 4, .inr (.inr (.inr (.inl st2)))))] sz) := by
  refine Met.ofW (cc := cX4_improves) (maxL := 8) (ret := (some .boolean)) (by decide) rfl ?_
  intro p e s m args below meth c s₁ BB hml hv
  obtain ⟨rfl, hsz, hP, hK, hD0, hN⟩ := hv
  have hx := BB.exec
  have hb := BB.bytes
  have hr := BB.returns
  have hts := atoms_spec (ws := wsX4_improves) BB.pre
  have hown : s.vm.findClass RX4 = some m.cls := findClass_of_methodNamed BB.named
  have hlocks := BB.notSynchronized
  subst hsz
  have hD := hD0.self (sz := s.heap.size)
  generalize hAe : va_A [(mo, .inr (4, [.int cd, .ref a1, .ref a2, .ref a3, .ref a4, .ref a5, .ref a6, .ref a7, .ref a8, .int (nI np), .ref a10, .ref a11, .int (nI kc), .double kr, .int fd])), (a4, .inl (cI, 4, .inl (cnt ng))), (a5, .inl (cD, 80, .inr (.inr (.inr (.inl (flat 20 B2)))))), (a6, .inl (cD, 80, .inr (.inr (.inr (.inl (flat 20 K2)))))), (a7, .inl (cD, 4, .inr (.inr (.inr (.inl sp2))))), (a8, .inl (cD, 4, .inr (.inr (.inr (.inl st2)))))] s.heap.size = A at hD ⊢
  have hA : ∀ q : Nat, s.heap.size ≤ q → A q := fun q h => by rw [← hAe]; exact Or.inr h
  have hS : va_S A s.heap s.heap [] := va_S.rf
  have hP : va_P (dC, dI) vwCl [(mo, .inr (4, [.int cd, .ref a1, .ref a2, .ref a3, .ref a4, .ref a5, .ref a6, .ref a7, .ref a8, .int (nI np), .ref a10, .ref a11, .int (nI kc), .double kr, .int fd])), (a4, .inl (cI, 4, .inl (cnt ng))), (a5, .inl (cD, 80, .inr (.inr (.inr (.inl (flat 20 B2)))))), (a6, .inl (cD, 80, .inr (.inr (.inr (.inl (flat 20 K2)))))), (a7, .inl (cD, 4, .inr (.inr (.inr (.inl sp2))))), (a8, .inl (cD, 4, .inr (.inr (.inr (.inl st2)))))] s.heap := hP
  have hl := lv_entry ([.ref mo, .int (nI j)]) (n := 8) (Nat.le_of_ble_eq_true rfl)
  rw [lg_entry_eq]
  generalize (lg_sl ([.ref mo, .int (nI j)]) ++ List.replicate (8 - (lg_sl ([.ref mo, .int (nI j)])).length) Slot.unset).toArray = ls at hl ⊢
  have hl : lv_has ls 8 [(0, .ref mo), (1, .int (nI j))] := hl
  have hn20 := hrd.1
  have d0 := dv_d0
  refine lv_aload_n hx hb dX4_improves_0 rfl (lv_at hl 0 rfl) ?_
  refine va_get (D := (dC, dI)) (ci := 4) (v := .ref a7) (C := RX4) (T := TX4) (N := 15) hx hb hts (by decide +kernel) hown hK hP 0 rfl rfl 7 (by decide) (hts (.fieldLink RX4 29 "SteamBendsModel" "springs" "[D") (by decide +kernel)) (fun _ h9 => h9) rfl dX4_improves_1 ?_
  refine lv_iload_n hx hb dX4_improves_4 rfl (lv_at hl 1 rfl) ?_
  refine va_daldV hx hb hK hP 4 1 rfl rfl (j := j) (v := sp) es (by omega) (by omega) dX4_improves_5 ?_
  refine lv_dstore_n (lv' := [(2, .double sp), (0, .ref mo), (1, .int (nI j))]) hx hb dX4_improves_6 rfl hl (by decide) rfl (fun ls hl => ?_)
  refine lv_aload_n hx hb dX4_improves_7 rfl (lv_at hl 1 rfl) ?_
  refine va_get (D := (dC, dI)) (ci := 4) (v := .ref a8) (C := RX4) (T := TX4) (N := 15) hx hb hts (by decide +kernel) hown hK hP 0 rfl rfl 8 (by decide) (hts (.fieldLink RX4 32 "SteamBendsModel" "steps" "[D") (by decide +kernel)) (fun _ h9 => h9) rfl dX4_improves_8 ?_
  refine lv_iload_n hx hb dX4_improves_11 rfl (lv_at hl 2 rfl) ?_
  refine va_daldV hx hb hK hP 5 1 rfl rfl (j := j) (v := st) eh (by omega) (by omega) dX4_improves_12 ?_
  refine lv_dstore (lv' := [(4, .double st), (2, .double sp), (0, .ref mo), (1, .int (nI j))]) hx hb dX4_improves_13 hl (by decide) rfl (fun ls hl => ?_)
  refine lv_aload_n hx hb dX4_improves_15 rfl (lv_at hl 2 rfl) ?_
  refine lv_iload_n hx hb dX4_improves_16 rfl (lv_at hl 3 rfl) ?_
  refine lv_dload_n hx hb dX4_improves_17 rfl (lv_at hl 1 rfl) ?_
  have hPc := hP.sub (ws' := [(mo, .inr (4, [.int cd, .ref a1, .ref a2, .ref a3, .ref a4, .ref a5, .ref a6, .ref a7, .ref a8, .int (nI np), .ref a10, .ref a11, .int (nI kc), .double kr, .int fd])), (a4, .inl (cI, 4, .inl (cnt ng))), (a5, .inl (cD, 80, .inr (.inr (.inr (.inl (flat 20 B2)))))), (a6, .inl (cD, 80, .inr (.inr (.inr (.inl (flat 20 K2))))))]) [0, 1, 2, 3] rfl
  have hKc := hK.sub (tys' := [(cI, .int), (cD, .double)]) [0, 1] rfl
  refine va_calld (va_runV (As := [.int (nI j), .double sp]) (rest := []) ⟨hx, hb, hml, hown, hts⟩ (m_X4_residue l dC dI cI cD mo a1 a2 a3 a4 a5 a6 a7 a8 a10 a11 cd np kc kr fd ng B2 K2 j hj sp (hs.mono (by omega) : dB 1040 _) hrd) (cwV 2 hts gX4_improves_X4_residue rfl rfl rfl (by decide +kernel) ⟨(Nat.le_of_ble_eq_true rfl), (Nat.le_of_ble_eq_true rfl)⟩) ⟨PK.blind, va_recv hKc hPc (ci := 4) (q0 := 0) rfl rfl, fun U9 hU9 hW9 => ⟨rfl, PK.at hPc hKc hN hU9 hW9⟩⟩ rfl rfl hl.1 rfl (lv_room (Nat.le_of_ble_eq_true rfl)) dX4_improves_18 ⟨(Nat.le_of_ble_eq_true rfl), (Nat.le_of_ble_eq_true rfl)⟩) hS (fun q _ h => h.elim) (fun q h => h.elim) (fun r_119 u9s t9s H1 locs hht hvm9 hw_18_k_118 hB hz1 hk1 hS => ?_)
  have hP := va_still hP hk1
  generalize H1 = H at hP hS ⊢
  subst hw_18_k_118
  refine lv_dstore (lv' := [(6, .double (rsd (B2 j) (K2 j) sp (ng j))), (4, .double st), (2, .double sp), (0, .ref mo), (1, .int (nI j))]) hx hb dX4_improves_21 hl (by decide) rfl (fun ls hl => ?_)
  refine lv_aload_n hx hb dX4_improves_23 rfl (lv_at hl 3 rfl) ?_
  refine lv_iload_n hx hb dX4_improves_24 rfl (lv_at hl 4 rfl) ?_
  refine lv_dload_n hx hb dX4_improves_25 rfl (lv_at hl 2 rfl) ?_
  refine lv_dload hx hb dX4_improves_26 (lv_at hl 1 rfl) ?_
  have b_120 : dB (1040) (FP.dadd sp st) := dB.add hs hh (M := 1038) (by omega) (by omega) (by omega)
  refine lv_dadd hx hb dX4_improves_28 (b_120.ok (by omega)) ?_
  have hPc := hP.sub (ws' := [(mo, .inr (4, [.int cd, .ref a1, .ref a2, .ref a3, .ref a4, .ref a5, .ref a6, .ref a7, .ref a8, .int (nI np), .ref a10, .ref a11, .int (nI kc), .double kr, .int fd])), (a4, .inl (cI, 4, .inl (cnt ng))), (a5, .inl (cD, 80, .inr (.inr (.inr (.inl (flat 20 B2)))))), (a6, .inl (cD, 80, .inr (.inr (.inr (.inl (flat 20 K2))))))]) [0, 1, 2, 3] rfl
  have hKc := hK.sub (tys' := [(cI, .int), (cD, .double)]) [0, 1] rfl
  refine va_calld (va_runV (As := [.int (nI j), .double (FP.dadd sp st)]) (rest := []) ⟨hx, hb, hml, hown, hts⟩ (m_X4_residue l dC dI cI cD mo a1 a2 a3 a4 a5 a6 a7 a8 a10 a11 cd np kc kr fd ng B2 K2 j hj (FP.dadd sp st) (b_120.mono (by omega) : dB 1040 _) hrd) (cwV 2 hts gX4_improves_X4_residue rfl rfl rfl (by decide +kernel) ⟨(Nat.le_of_ble_eq_true rfl), (Nat.le_of_ble_eq_true rfl)⟩) ⟨PK.blind, va_recv hKc hPc (ci := 4) (q0 := 0) rfl rfl, fun U9 hU9 hW9 => ⟨rfl, PK.at hPc hKc hN hU9 hW9⟩⟩ rfl rfl hl.1 rfl (lv_room (Nat.le_of_ble_eq_true rfl)) dX4_improves_29 ⟨(Nat.le_of_ble_eq_true rfl), (Nat.le_of_ble_eq_true rfl)⟩) hS (fun q _ h => h.elim) (fun q h => h.elim) (fun r_122 u9s t9s H1 locs hht hvm9 hw_29_k_121 hB hz1 hk1 hS => ?_)
  have hP := va_still hP hk1
  generalize H1 = H at hP hS ⊢
  subst hw_29_k_121
  refine lv_dload hx hb dX4_improves_32 (lv_at hl 0 rfl) ?_
  refine lv_dcmp hx hb dX4_improves_34 ?_
  refine lv_if_ge (tgt := 50) hx hb dX4_improves_35 (by decide) (fun c_35 => ?_) (fun c_35 => ?_)
  · have c_35 := (cv_ge (((rsd_dB hrd (b_120.mono (by omega) : dB 1040 _) _ (Nat.le_refl _)).mono (by have := hrd.1; omega) : dB 1190 _).nn (by omega)) (((rsd_dB hrd (hs.mono (by omega) : dB 1040 _) _ (Nat.le_refl _)).mono (by have := hrd.1; omega) : dB 1190 _).nn (by omega))).mp c_35
    refine lv_dload_n hx hb dX4_improves_50 rfl (lv_at hl 2 rfl) ?_
    refine lv_dload hx hb dX4_improves_51 (lv_at hl 1 rfl) ?_
    have b_123 : dB (1040) (FP.dsub sp st) := dB.sub hs hh (M := 1038) (by omega) (by omega) (by omega)
    refine lv_dsub hx hb dX4_improves_53 (b_123.ok (by omega)) ?_
    refine lv_dconst0 hx hb dX4_improves_54 ?_
    refine lv_dcmp hx hb dX4_improves_55 ?_
    refine lv_if_lt (tgt := 86) hx hb dX4_improves_56 (by decide) (fun c_56 => ?_) (fun c_56 => ?_)
    · have c_56 := (cv_lt (b_123.nn (by omega)) (dB_d0.nn (by omega))).mp c_56
      refine lv_aload_n hx hb dX4_improves_86 rfl (lv_at hl 3 rfl) ?_
      refine va_get (D := (dC, dI)) (ci := 4) (v := .ref a8) (C := RX4) (T := TX4) (N := 15) hx hb hts (by decide +kernel) hown hK hP 0 rfl rfl 8 (by decide) (hts (.fieldLink RX4 32 "SteamBendsModel" "steps" "[D") (by decide +kernel)) (fun _ h9 => h9) rfl dX4_improves_87 ?_
      refine lv_iload_n hx hb dX4_improves_90 rfl (lv_at hl 4 rfl) ?_
      refine lv_dload hx hb dX4_improves_91 (lv_at hl 1 rfl) ?_
      refine lv_ldc2d (v := 4611686018427387904) hx hb hown (hts (.constantDouble RX4 74 (4611686018427387904)) (by decide +kernel)) dX4_improves_93 ?_
      have b_124 : dB (1030) (FP.ddiv st 4611686018427387904) := dB.div hh (by unfold dL; decide +kernel : dL 1024 4611686018427387904) (by unfold dB; decide +kernel : dB 1025 4611686018427387904) (by omega) (by omega) (by omega) (by omega)
      refine lv_ddiv hx hb dX4_improves_96 (b_124.ok (by omega)) ?_
      refine va_dastN hx hb hK hP hD hS 5 1 rfl rfl (j := j) (by omega) (by omega) dX4_improves_97 (fun H locs hP hD hS => ?_)
      have hP : va_P (dC, dI) vwCl [(mo, .inr (4, [.int cd, .ref a1, .ref a2, .ref a3, .ref a4, .ref a5, .ref a6, .ref a7, .ref a8, .int (nI np), .ref a10, .ref a11, .int (nI kc), .double kr, .int fd])), (a4, .inl (cI, 4, .inl (cnt ng))), (a5, .inl (cD, 80, .inr (.inr (.inr (.inl (flat 20 B2)))))), (a6, .inl (cD, 80, .inr (.inr (.inr (.inl (flat 20 K2)))))), (a7, .inl (cD, 4, .inr (.inr (.inr (.inl sp2))))), (a8, .inl (cD, 4, .inr (.inr (.inr (.inl (vf_upd st2 j (FP.ddiv st 4611686018427387904)))))))] H := hP
      have hD : va_D A [(mo, .inr (4, [.int cd, .ref a1, .ref a2, .ref a3, .ref a4, .ref a5, .ref a6, .ref a7, .ref a8, .int (nI np), .ref a10, .ref a11, .int (nI kc), .double kr, .int fd])), (a4, .inl (cI, 4, .inl (cnt ng))), (a5, .inl (cD, 80, .inr (.inr (.inr (.inl (flat 20 B2)))))), (a6, .inl (cD, 80, .inr (.inr (.inr (.inl (flat 20 K2)))))), (a7, .inl (cD, 4, .inr (.inr (.inr (.inl sp2))))), (a8, .inl (cD, 4, .inr (.inr (.inr (.inl (vf_upd st2 j (FP.ddiv st 4611686018427387904)))))))] := hD
      refine lv_iconst (v := 0) hx hb dX4_improves_98 (by decide) ?_
      have hP9 := hP.sub (ws' := [(mo, .inr (4, [.int cd, .ref a1, .ref a2, .ref a3, .ref a4, .ref a5, .ref a6, .ref a7, .ref a8, .int (nI np), .ref a10, .ref a11, .int (nI kc), .double kr, .int fd])), (a4, .inl (cI, 4, .inl (cnt ng))), (a5, .inl (cD, 80, .inr (.inr (.inr (.inl (flat 20 B2)))))), (a6, .inl (cD, 80, .inr (.inr (.inr (.inl (flat 20 K2)))))), (a7, .inl (cD, 4, .inr (.inr (.inr (.inl sp2))))), (a8, .inl (cD, 4, .inr (.inr (.inr (.inl (vf_upd st2 j (FP.ddiv st 4611686018427387904)))))))]) [0, 1, 2, 3, 4, 5] rfl
      have hD9 := hD.sub (ws' := [(mo, .inr (4, [.int cd, .ref a1, .ref a2, .ref a3, .ref a4, .ref a5, .ref a6, .ref a7, .ref a8, .int (nI np), .ref a10, .ref a11, .int (nI kc), .double kr, .int fd])), (a4, .inl (cI, 4, .inl (cnt ng))), (a5, .inl (cD, 80, .inr (.inr (.inr (.inl (flat 20 B2)))))), (a6, .inl (cD, 80, .inr (.inr (.inr (.inl (flat 20 K2)))))), (a7, .inl (cD, 4, .inr (.inr (.inr (.inl sp2))))), (a8, .inl (cD, 4, .inr (.inr (.inr (.inl (vf_upd st2 j (FP.ddiv st 4611686018427387904)))))))]) [0, 1, 2, 3, 4, 5] (by decide) rfl
      exact W.zret hx hb hr (by decide) (fun t9s hht hW9 => ⟨⟨0, (sp, FP.ddiv st 4611686018427387904, false), rfl, ⟨rfl, by rw [rnd, if_neg (by omega), if_neg (by intro z; omega)]⟩, ⟨by show va_P _ _ _ _; rw [hht, show vf_upd sp2 j sp = sp2 from by rw [← es]; exact vf_self _ _]; exact hP9, by show va_D _ _; rw [show vf_upd sp2 j sp = sp2 from by rw [← es]; exact vf_self _ _]; exact hD9⟩⟩, hS.F hht⟩) hS.2.2 dX4_improves_99
    · have c_56 := mt (cv_lt (b_123.nn (by omega)) (dB_d0.nn (by omega))).mpr c_56
      refine lv_aload_n hx hb dX4_improves_59 rfl (lv_at hl 3 rfl) ?_
      refine lv_iload_n hx hb dX4_improves_60 rfl (lv_at hl 4 rfl) ?_
      refine lv_dload_n hx hb dX4_improves_61 rfl (lv_at hl 2 rfl) ?_
      refine lv_dload hx hb dX4_improves_62 (lv_at hl 1 rfl) ?_
      have b_125 : dB (1040) (FP.dsub sp st) := dB.sub hs hh (M := 1038) (by omega) (by omega) (by omega)
      refine lv_dsub hx hb dX4_improves_64 (b_125.ok (by omega)) ?_
      have hPc := hP.sub (ws' := [(mo, .inr (4, [.int cd, .ref a1, .ref a2, .ref a3, .ref a4, .ref a5, .ref a6, .ref a7, .ref a8, .int (nI np), .ref a10, .ref a11, .int (nI kc), .double kr, .int fd])), (a4, .inl (cI, 4, .inl (cnt ng))), (a5, .inl (cD, 80, .inr (.inr (.inr (.inl (flat 20 B2)))))), (a6, .inl (cD, 80, .inr (.inr (.inr (.inl (flat 20 K2))))))]) [0, 1, 2, 3] rfl
      have hKc := hK.sub (tys' := [(cI, .int), (cD, .double)]) [0, 1] rfl
      refine va_calld (va_runV (As := [.int (nI j), .double (FP.dsub sp st)]) (rest := []) ⟨hx, hb, hml, hown, hts⟩ (m_X4_residue l dC dI cI cD mo a1 a2 a3 a4 a5 a6 a7 a8 a10 a11 cd np kc kr fd ng B2 K2 j hj (FP.dsub sp st) (b_125.mono (by omega) : dB 1040 _) hrd) (cwV 2 hts gX4_improves_X4_residue rfl rfl rfl (by decide +kernel) ⟨(Nat.le_of_ble_eq_true rfl), (Nat.le_of_ble_eq_true rfl)⟩) ⟨PK.blind, va_recv hKc hPc (ci := 4) (q0 := 0) rfl rfl, fun U9 hU9 hW9 => ⟨rfl, PK.at hPc hKc hN hU9 hW9⟩⟩ rfl rfl hl.1 rfl (lv_room (Nat.le_of_ble_eq_true rfl)) dX4_improves_65 ⟨(Nat.le_of_ble_eq_true rfl), (Nat.le_of_ble_eq_true rfl)⟩) hS (fun q _ h => h.elim) (fun q h => h.elim) (fun r_127 u9s t9s H1 locs hht hvm9 hw_65_k_126 hB hz1 hk1 hS => ?_)
      have hP := va_still hP hk1
      generalize H1 = H at hP hS ⊢
      subst hw_65_k_126
      refine lv_dload hx hb dX4_improves_68 (lv_at hl 0 rfl) ?_
      refine lv_dcmp hx hb dX4_improves_70 ?_
      refine lv_if_ge (tgt := 86) hx hb dX4_improves_71 (by decide) (fun c_71 => ?_) (fun c_71 => ?_)
      · have c_71 := (cv_ge (((rsd_dB hrd (b_125.mono (by omega) : dB 1040 _) _ (Nat.le_refl _)).mono (by have := hrd.1; omega) : dB 1190 _).nn (by omega)) (((rsd_dB hrd (hs.mono (by omega) : dB 1040 _) _ (Nat.le_refl _)).mono (by have := hrd.1; omega) : dB 1190 _).nn (by omega))).mp c_71
        refine lv_aload_n hx hb dX4_improves_86 rfl (lv_at hl 3 rfl) ?_
        refine va_get (D := (dC, dI)) (ci := 4) (v := .ref a8) (C := RX4) (T := TX4) (N := 15) hx hb hts (by decide +kernel) hown hK hP 0 rfl rfl 8 (by decide) (hts (.fieldLink RX4 32 "SteamBendsModel" "steps" "[D") (by decide +kernel)) (fun _ h9 => h9) rfl dX4_improves_87 ?_
        refine lv_iload_n hx hb dX4_improves_90 rfl (lv_at hl 4 rfl) ?_
        refine lv_dload hx hb dX4_improves_91 (lv_at hl 1 rfl) ?_
        refine lv_ldc2d (v := 4611686018427387904) hx hb hown (hts (.constantDouble RX4 74 (4611686018427387904)) (by decide +kernel)) dX4_improves_93 ?_
        have b_128 : dB (1030) (FP.ddiv st 4611686018427387904) := dB.div hh (by unfold dL; decide +kernel : dL 1024 4611686018427387904) (by unfold dB; decide +kernel : dB 1025 4611686018427387904) (by omega) (by omega) (by omega) (by omega)
        refine lv_ddiv hx hb dX4_improves_96 (b_128.ok (by omega)) ?_
        refine va_dastN hx hb hK hP hD hS 5 1 rfl rfl (j := j) (by omega) (by omega) dX4_improves_97 (fun H locs hP hD hS => ?_)
        have hP : va_P (dC, dI) vwCl [(mo, .inr (4, [.int cd, .ref a1, .ref a2, .ref a3, .ref a4, .ref a5, .ref a6, .ref a7, .ref a8, .int (nI np), .ref a10, .ref a11, .int (nI kc), .double kr, .int fd])), (a4, .inl (cI, 4, .inl (cnt ng))), (a5, .inl (cD, 80, .inr (.inr (.inr (.inl (flat 20 B2)))))), (a6, .inl (cD, 80, .inr (.inr (.inr (.inl (flat 20 K2)))))), (a7, .inl (cD, 4, .inr (.inr (.inr (.inl sp2))))), (a8, .inl (cD, 4, .inr (.inr (.inr (.inl (vf_upd st2 j (FP.ddiv st 4611686018427387904)))))))] H := hP
        have hD : va_D A [(mo, .inr (4, [.int cd, .ref a1, .ref a2, .ref a3, .ref a4, .ref a5, .ref a6, .ref a7, .ref a8, .int (nI np), .ref a10, .ref a11, .int (nI kc), .double kr, .int fd])), (a4, .inl (cI, 4, .inl (cnt ng))), (a5, .inl (cD, 80, .inr (.inr (.inr (.inl (flat 20 B2)))))), (a6, .inl (cD, 80, .inr (.inr (.inr (.inl (flat 20 K2)))))), (a7, .inl (cD, 4, .inr (.inr (.inr (.inl sp2))))), (a8, .inl (cD, 4, .inr (.inr (.inr (.inl (vf_upd st2 j (FP.ddiv st 4611686018427387904)))))))] := hD
        refine lv_iconst (v := 0) hx hb dX4_improves_98 (by decide) ?_
        have hP9 := hP.sub (ws' := [(mo, .inr (4, [.int cd, .ref a1, .ref a2, .ref a3, .ref a4, .ref a5, .ref a6, .ref a7, .ref a8, .int (nI np), .ref a10, .ref a11, .int (nI kc), .double kr, .int fd])), (a4, .inl (cI, 4, .inl (cnt ng))), (a5, .inl (cD, 80, .inr (.inr (.inr (.inl (flat 20 B2)))))), (a6, .inl (cD, 80, .inr (.inr (.inr (.inl (flat 20 K2)))))), (a7, .inl (cD, 4, .inr (.inr (.inr (.inl sp2))))), (a8, .inl (cD, 4, .inr (.inr (.inr (.inl (vf_upd st2 j (FP.ddiv st 4611686018427387904)))))))]) [0, 1, 2, 3, 4, 5] rfl
        have hD9 := hD.sub (ws' := [(mo, .inr (4, [.int cd, .ref a1, .ref a2, .ref a3, .ref a4, .ref a5, .ref a6, .ref a7, .ref a8, .int (nI np), .ref a10, .ref a11, .int (nI kc), .double kr, .int fd])), (a4, .inl (cI, 4, .inl (cnt ng))), (a5, .inl (cD, 80, .inr (.inr (.inr (.inl (flat 20 B2)))))), (a6, .inl (cD, 80, .inr (.inr (.inr (.inl (flat 20 K2)))))), (a7, .inl (cD, 4, .inr (.inr (.inr (.inl sp2))))), (a8, .inl (cD, 4, .inr (.inr (.inr (.inl (vf_upd st2 j (FP.ddiv st 4611686018427387904)))))))]) [0, 1, 2, 3, 4, 5] (by decide) rfl
        exact W.zret hx hb hr (by decide) (fun t9s hht hW9 => ⟨⟨0, (sp, FP.ddiv st 4611686018427387904, false), rfl, ⟨rfl, by rw [rnd, if_neg (by omega), if_neg (by intro z; omega)]⟩, ⟨by show va_P _ _ _ _; rw [hht, show vf_upd sp2 j sp = sp2 from by rw [← es]; exact vf_self _ _]; exact hP9, by show va_D _ _; rw [show vf_upd sp2 j sp = sp2 from by rw [← es]; exact vf_self _ _]; exact hD9⟩⟩, hS.F hht⟩) hS.2.2 dX4_improves_99
      · have c_71 := mt (cv_ge (((rsd_dB hrd (b_125.mono (by omega) : dB 1040 _) _ (Nat.le_refl _)).mono (by have := hrd.1; omega) : dB 1190 _).nn (by omega)) (((rsd_dB hrd (hs.mono (by omega) : dB 1040 _) _ (Nat.le_refl _)).mono (by have := hrd.1; omega) : dB 1190 _).nn (by omega))).mpr c_71
        refine lv_aload_n hx hb dX4_improves_74 rfl (lv_at hl 3 rfl) ?_
        refine va_get (D := (dC, dI)) (ci := 4) (v := .ref a7) (C := RX4) (T := TX4) (N := 15) hx hb hts (by decide +kernel) hown hK hP 0 rfl rfl 7 (by decide) (hts (.fieldLink RX4 29 "SteamBendsModel" "springs" "[D") (by decide +kernel)) (fun _ h9 => h9) rfl dX4_improves_75 ?_
        refine lv_iload_n hx hb dX4_improves_78 rfl (lv_at hl 4 rfl) ?_
        refine lv_dload_n hx hb dX4_improves_79 rfl (lv_at hl 2 rfl) ?_
        refine lv_dload hx hb dX4_improves_80 (lv_at hl 1 rfl) ?_
        have b_129 : dB (1040) (FP.dsub sp st) := dB.sub hs hh (M := 1038) (by omega) (by omega) (by omega)
        refine lv_dsub hx hb dX4_improves_82 (b_129.ok (by omega)) ?_
        refine va_dastN hx hb hK hP hD hS 4 1 rfl rfl (j := j) (by omega) (by omega) dX4_improves_83 (fun H locs hP hD hS => ?_)
        have hP : va_P (dC, dI) vwCl [(mo, .inr (4, [.int cd, .ref a1, .ref a2, .ref a3, .ref a4, .ref a5, .ref a6, .ref a7, .ref a8, .int (nI np), .ref a10, .ref a11, .int (nI kc), .double kr, .int fd])), (a4, .inl (cI, 4, .inl (cnt ng))), (a5, .inl (cD, 80, .inr (.inr (.inr (.inl (flat 20 B2)))))), (a6, .inl (cD, 80, .inr (.inr (.inr (.inl (flat 20 K2)))))), (a7, .inl (cD, 4, .inr (.inr (.inr (.inl (vf_upd sp2 j (FP.dsub sp st))))))), (a8, .inl (cD, 4, .inr (.inr (.inr (.inl st2)))))] H := hP
        have hD : va_D A [(mo, .inr (4, [.int cd, .ref a1, .ref a2, .ref a3, .ref a4, .ref a5, .ref a6, .ref a7, .ref a8, .int (nI np), .ref a10, .ref a11, .int (nI kc), .double kr, .int fd])), (a4, .inl (cI, 4, .inl (cnt ng))), (a5, .inl (cD, 80, .inr (.inr (.inr (.inl (flat 20 B2)))))), (a6, .inl (cD, 80, .inr (.inr (.inr (.inl (flat 20 K2)))))), (a7, .inl (cD, 4, .inr (.inr (.inr (.inl (vf_upd sp2 j (FP.dsub sp st))))))), (a8, .inl (cD, 4, .inr (.inr (.inr (.inl st2)))))] := hD
        refine lv_iconst (v := 1) hx hb dX4_improves_84 (by decide) ?_
        have hP9 := hP.sub (ws' := [(mo, .inr (4, [.int cd, .ref a1, .ref a2, .ref a3, .ref a4, .ref a5, .ref a6, .ref a7, .ref a8, .int (nI np), .ref a10, .ref a11, .int (nI kc), .double kr, .int fd])), (a4, .inl (cI, 4, .inl (cnt ng))), (a5, .inl (cD, 80, .inr (.inr (.inr (.inl (flat 20 B2)))))), (a6, .inl (cD, 80, .inr (.inr (.inr (.inl (flat 20 K2)))))), (a7, .inl (cD, 4, .inr (.inr (.inr (.inl (vf_upd sp2 j (FP.dsub sp st))))))), (a8, .inl (cD, 4, .inr (.inr (.inr (.inl st2)))))]) [0, 1, 2, 3, 4, 5] rfl
        have hD9 := hD.sub (ws' := [(mo, .inr (4, [.int cd, .ref a1, .ref a2, .ref a3, .ref a4, .ref a5, .ref a6, .ref a7, .ref a8, .int (nI np), .ref a10, .ref a11, .int (nI kc), .double kr, .int fd])), (a4, .inl (cI, 4, .inl (cnt ng))), (a5, .inl (cD, 80, .inr (.inr (.inr (.inl (flat 20 B2)))))), (a6, .inl (cD, 80, .inr (.inr (.inr (.inl (flat 20 K2)))))), (a7, .inl (cD, 4, .inr (.inr (.inr (.inl (vf_upd sp2 j (FP.dsub sp st))))))), (a8, .inl (cD, 4, .inr (.inr (.inr (.inl st2)))))]) [0, 1, 2, 3, 4, 5] (by decide) rfl
        exact W.zret hx hb hr (by decide) (fun t9s hht hW9 => ⟨⟨1, (FP.dsub sp st, st, true), rfl, ⟨rfl, by rw [rnd, if_neg (by omega), if_pos ⟨by omega, by omega⟩]⟩, ⟨by show va_P _ _ _ _; rw [hht, show vf_upd st2 j st = st2 from by rw [← eh]; exact vf_self _ _]; exact hP9, by show va_D _ _; rw [show vf_upd st2 j st = st2 from by rw [← eh]; exact vf_self _ _]; exact hD9⟩⟩, hS.F hht⟩) hS.2.2 dX4_improves_85
  · have c_35 := mt (cv_ge (((rsd_dB hrd (b_120.mono (by omega) : dB 1040 _) _ (Nat.le_refl _)).mono (by have := hrd.1; omega) : dB 1190 _).nn (by omega)) (((rsd_dB hrd (hs.mono (by omega) : dB 1040 _) _ (Nat.le_refl _)).mono (by have := hrd.1; omega) : dB 1190 _).nn (by omega))).mpr c_35
    refine lv_aload_n hx hb dX4_improves_38 rfl (lv_at hl 3 rfl) ?_
    refine va_get (D := (dC, dI)) (ci := 4) (v := .ref a7) (C := RX4) (T := TX4) (N := 15) hx hb hts (by decide +kernel) hown hK hP 0 rfl rfl 7 (by decide) (hts (.fieldLink RX4 29 "SteamBendsModel" "springs" "[D") (by decide +kernel)) (fun _ h9 => h9) rfl dX4_improves_39 ?_
    refine lv_iload_n hx hb dX4_improves_42 rfl (lv_at hl 4 rfl) ?_
    refine lv_dload_n hx hb dX4_improves_43 rfl (lv_at hl 2 rfl) ?_
    refine lv_dload hx hb dX4_improves_44 (lv_at hl 1 rfl) ?_
    have b_130 : dB (1040) (FP.dadd sp st) := dB.add hs hh (M := 1038) (by omega) (by omega) (by omega)
    refine lv_dadd hx hb dX4_improves_46 (b_130.ok (by omega)) ?_
    refine va_dastN hx hb hK hP hD hS 4 1 rfl rfl (j := j) (by omega) (by omega) dX4_improves_47 (fun H locs hP hD hS => ?_)
    have hP : va_P (dC, dI) vwCl [(mo, .inr (4, [.int cd, .ref a1, .ref a2, .ref a3, .ref a4, .ref a5, .ref a6, .ref a7, .ref a8, .int (nI np), .ref a10, .ref a11, .int (nI kc), .double kr, .int fd])), (a4, .inl (cI, 4, .inl (cnt ng))), (a5, .inl (cD, 80, .inr (.inr (.inr (.inl (flat 20 B2)))))), (a6, .inl (cD, 80, .inr (.inr (.inr (.inl (flat 20 K2)))))), (a7, .inl (cD, 4, .inr (.inr (.inr (.inl (vf_upd sp2 j (FP.dadd sp st))))))), (a8, .inl (cD, 4, .inr (.inr (.inr (.inl st2)))))] H := hP
    have hD : va_D A [(mo, .inr (4, [.int cd, .ref a1, .ref a2, .ref a3, .ref a4, .ref a5, .ref a6, .ref a7, .ref a8, .int (nI np), .ref a10, .ref a11, .int (nI kc), .double kr, .int fd])), (a4, .inl (cI, 4, .inl (cnt ng))), (a5, .inl (cD, 80, .inr (.inr (.inr (.inl (flat 20 B2)))))), (a6, .inl (cD, 80, .inr (.inr (.inr (.inl (flat 20 K2)))))), (a7, .inl (cD, 4, .inr (.inr (.inr (.inl (vf_upd sp2 j (FP.dadd sp st))))))), (a8, .inl (cD, 4, .inr (.inr (.inr (.inl st2)))))] := hD
    refine lv_iconst (v := 1) hx hb dX4_improves_48 (by decide) ?_
    have hP9 := hP.sub (ws' := [(mo, .inr (4, [.int cd, .ref a1, .ref a2, .ref a3, .ref a4, .ref a5, .ref a6, .ref a7, .ref a8, .int (nI np), .ref a10, .ref a11, .int (nI kc), .double kr, .int fd])), (a4, .inl (cI, 4, .inl (cnt ng))), (a5, .inl (cD, 80, .inr (.inr (.inr (.inl (flat 20 B2)))))), (a6, .inl (cD, 80, .inr (.inr (.inr (.inl (flat 20 K2)))))), (a7, .inl (cD, 4, .inr (.inr (.inr (.inl (vf_upd sp2 j (FP.dadd sp st))))))), (a8, .inl (cD, 4, .inr (.inr (.inr (.inl st2)))))]) [0, 1, 2, 3, 4, 5] rfl
    have hD9 := hD.sub (ws' := [(mo, .inr (4, [.int cd, .ref a1, .ref a2, .ref a3, .ref a4, .ref a5, .ref a6, .ref a7, .ref a8, .int (nI np), .ref a10, .ref a11, .int (nI kc), .double kr, .int fd])), (a4, .inl (cI, 4, .inl (cnt ng))), (a5, .inl (cD, 80, .inr (.inr (.inr (.inl (flat 20 B2)))))), (a6, .inl (cD, 80, .inr (.inr (.inr (.inl (flat 20 K2)))))), (a7, .inl (cD, 4, .inr (.inr (.inr (.inl (vf_upd sp2 j (FP.dadd sp st))))))), (a8, .inl (cD, 4, .inr (.inr (.inr (.inl st2)))))]) [0, 1, 2, 3, 4, 5] (by decide) rfl
    exact W.zret hx hb hr (by decide) (fun t9s hht hW9 => ⟨⟨1, (FP.dadd sp st, st, true), rfl, ⟨rfl, by rw [rnd, if_pos (by omega)]⟩, ⟨by show va_P _ _ _ _; rw [hht, show vf_upd st2 j st = st2 from by rw [← eh]; exact vf_self _ _]; exact hP9, by show va_D _ _; rw [show vf_upd st2 j st = st2 from by rw [← eh]; exact vf_self _ _]; exact hD9⟩⟩, hS.F hht⟩) hS.2.2 dX4_improves_49

set_option maxHeartbeats 4000000 in
set_option maxRecDepth 100000 in
theorem m_X4_fit (l : Launch) (dC : Nat → ClassId) (dI : Nat → Nat → Nat) (sz : Nat) (cI cD : ClassId) (mo a1 a2 a3 a4 a5 a6 a7 a8 a10 a11 : Nat) (cd : Int32) (np kc : Nat) (kr : UInt64) (fd : Int32) (ng : Nat → Nat) (B2 K2 : Nat → Nat → UInt64) (sp2 st2 : Nat → UInt64) (kd : Int32) (j : Nat) (hj : j < 4) (hkj : kOK kd → kd = nI j) (rs : Int32) (sp st : UInt64) (es : sp2 j = sp) (eh : st2 j = st) (N : Nat) (hsp : spOK N sp st) (hN9 : N ≤ 59000) (hrd : readsOK (B2 j) (K2 j) (ng j)) : Met l yX4_fit wsX4_fit ({ frames := 2, cells := 0, slots := 0, locals := 55 } : Room) (va_Pc [.ref mo, .int kd, .int rs] (PW (dC, dI) [(cI, .int), (cD, .double)] [(mo, .inr (4, [.int cd, .ref a1, .ref a2, .ref a3, .ref a4, .ref a5, .ref a6, .ref a7, .ref a8, .int (nI np), .ref a10, .ref a11, .int (nI kc), .double kr, .int fd])), (a4, .inl (cI, 4, .inl (cnt ng))), (a5, .inl (cD, 80, .inr (.inr (.inr (.inl (flat 20 B2)))))), (a6, .inl (cD, 80, .inr (.inr (.inr (.inl (flat 20 K2)))))), (a7, .inl (cD, 4, .inr (.inr (.inr (.inl sp2))))), (a8, .inl (cD, 4, .inr (.inr (.inr (.inl st2)))))] sz)) (va_Qi (fun (r : Int32) (u : Nat × (Nat → UInt64) × (Nat → UInt64)) => u.1 = cFit kd rs ∧ (u.1 = 0 → r = nI (fitN (B2 j) (K2 j) (ng j) sp st rs.toInt.toNat).2.2) ∧ u.2 = (if u.1 = 0 then (vf_upd sp2 j (fitN (B2 j) (K2 j) (ng j) sp st rs.toInt.toNat).1, vf_upd st2 j (fitN (B2 j) (K2 j) (ng j) sp st rs.toInt.toNat).2.1) else (sp2, st2))) (fun (u : Nat × (Nat → UInt64) × (Nat → UInt64)) => QW (dC, dI) [(mo, .inr (4, [.int (nI u.1), .ref a1, .ref a2, .ref a3, .ref a4, .ref a5, .ref a6, .ref a7, .ref a8, .int (nI np), .ref a10, .ref a11, .int (nI kc), .double kr, .int fd])), (a4, .inl (cI, 4, .inl (cnt ng))), (a5, .inl (cD, 80, .inr (.inr (.inr (.inl (flat 20 B2)))))), (a6, .inl (cD, 80, .inr (.inr (.inr (.inl (flat 20 K2)))))), (a7, .inl (cD, 4, .inr (.inr (.inr (.inl u.2.1))))), (a8, .inl (cD, 4, .inr (.inr (.inr (.inl u.2.2)))))] (va_A [(mo, .inr (4, [.int cd, .ref a1, .ref a2, .ref a3, .ref a4, .ref a5, .ref a6, .ref a7, .ref a8, .int (nI np), .ref a10, .ref a11, .int (nI kc), .double kr, .int fd])), (a4, .inl (cI, 4, .inl (cnt ng))), (a5, .inl (cD, 80, .inr (.inr (.inr (.inl (flat 20 B2)))))), (a6, .inl (cD, 80, .inr (.inr (.inr (.inl (flat 20 K2)))))), (a7, .inl (cD, 4, .inr (.inr (.inr (.inl sp2))))), (a8, .inl (cD, 4, .inr (.inr (.inr (.inl st2)))))] sz)) (va_A [(mo, .inr (4, [.int cd, .ref a1, .ref a2, .ref a3, .ref a4, .ref a5, .ref a6, .ref a7, .ref a8, .int (nI np), .ref a10, .ref a11, .int (nI kc), .double kr, .int fd])), (a4, .inl (cI, 4, .inl (cnt ng))), (a5, .inl (cD, 80, .inr (.inr (.inr (.inl (flat 20 B2)))))), (a6, .inl (cD, 80, .inr (.inr (.inr (.inl (flat 20 K2)))))), (a7, .inl (cD, 4, .inr (.inr (.inr (.inl sp2))))), (a8, .inl (cD, 4, .inr (.inr (.inr (.inl st2)))))] sz)) 0 0 (va_A [(mo, .inr (4, [.int cd, .ref a1, .ref a2, .ref a3, .ref a4, .ref a5, .ref a6, .ref a7, .ref a8, .int (nI np), .ref a10, .ref a11, .int (nI kc), .double kr, .int fd])), (a4, .inl (cI, 4, .inl (cnt ng))), (a5, .inl (cD, 80, .inr (.inr (.inr (.inl (flat 20 B2)))))), (a6, .inl (cD, 80, .inr (.inr (.inr (.inl (flat 20 K2)))))), (a7, .inl (cD, 4, .inr (.inr (.inr (.inl sp2))))), (a8, .inl (cD, 4, .inr (.inr (.inr (.inl st2)))))] sz) := by
  refine Met.ofW (cc := cX4_fit) (maxL := 5) (ret := (some .int)) (by decide) rfl ?_
  intro p e s m args below meth c s₁ BB hml hv
  obtain ⟨rfl, hsz, hP, hK, hD0, hN⟩ := hv
  have hx := BB.exec
  have hb := BB.bytes
  have hr := BB.returns
  have hts := atoms_spec (ws := wsX4_fit) BB.pre
  have hown : s.vm.findClass RX4 = some m.cls := findClass_of_methodNamed BB.named
  have hlocks := BB.notSynchronized
  subst hsz
  have hD := hD0.self (sz := s.heap.size)
  generalize hAe : va_A [(mo, .inr (4, [.int cd, .ref a1, .ref a2, .ref a3, .ref a4, .ref a5, .ref a6, .ref a7, .ref a8, .int (nI np), .ref a10, .ref a11, .int (nI kc), .double kr, .int fd])), (a4, .inl (cI, 4, .inl (cnt ng))), (a5, .inl (cD, 80, .inr (.inr (.inr (.inl (flat 20 B2)))))), (a6, .inl (cD, 80, .inr (.inr (.inr (.inl (flat 20 K2)))))), (a7, .inl (cD, 4, .inr (.inr (.inr (.inl sp2))))), (a8, .inl (cD, 4, .inr (.inr (.inr (.inl st2)))))] s.heap.size = A at hD ⊢
  have hA : ∀ q : Nat, s.heap.size ≤ q → A q := fun q h => by rw [← hAe]; exact Or.inr h
  have hS : va_S A s.heap s.heap [] := va_S.rf
  have hP : va_P (dC, dI) vwCl [(mo, .inr (4, [.int cd, .ref a1, .ref a2, .ref a3, .ref a4, .ref a5, .ref a6, .ref a7, .ref a8, .int (nI np), .ref a10, .ref a11, .int (nI kc), .double kr, .int fd])), (a4, .inl (cI, 4, .inl (cnt ng))), (a5, .inl (cD, 80, .inr (.inr (.inr (.inl (flat 20 B2)))))), (a6, .inl (cD, 80, .inr (.inr (.inr (.inl (flat 20 K2)))))), (a7, .inl (cD, 4, .inr (.inr (.inr (.inl sp2))))), (a8, .inl (cD, 4, .inr (.inr (.inr (.inl st2)))))] s.heap := hP
  have hl := lv_entry ([.ref mo, .int kd, .int rs]) (n := 5) (Nat.le_of_ble_eq_true rfl)
  rw [lg_entry_eq]
  generalize (lg_sl ([.ref mo, .int kd, .int rs]) ++ List.replicate (5 - (lg_sl ([.ref mo, .int kd, .int rs])).length) Slot.unset).toArray = ls at hl ⊢
  have hl : lv_has ls 5 [(0, .ref mo), (1, .int kd), (2, .int rs)] := hl
  have hn20 := hrd.1
  refine lv_aload_n hx hb dX4_fit_0 rfl (lv_at hl 0 rfl) ?_
  refine lv_iload_n hx hb dX4_fit_1 rfl (lv_at hl 1 rfl) ?_
  refine va_calli (va_runS (As := [.int kd]) (rest := [.ref mo]) ⟨hx, hb, hml, hown, hts⟩ (m_X4_isKind l kd) (va_cwS 1 hts gX4_fit_X4_isKind rfl rfl rfl (by decide +kernel) ⟨(Nat.le_of_ble_eq_true rfl), (Nat.le_of_ble_eq_true rfl)⟩) ⟨fun a U g mk q => q, fun U9 hU9 hW9 => ⟨rfl, trivial⟩⟩ rfl rfl hl.1 rfl (lv_room (Nat.le_of_ble_eq_true rfl)) dX4_fit_2 ⟨(Nat.le_of_ble_eq_true rfl), (Nat.le_of_ble_eq_true rfl)⟩) hS (fun q _ h => h.elim) (fun q h => h.elim) (fun r_132 u9s t9s H1 locs hht hvm9 hw_2_k_131 hB hz1 hk1 hS => ?_)
  have hP := va_still hP hk1
  generalize H1 = H at hP hS ⊢
  refine lv_if_ne (tgt := 12) hx hb dX4_fit_5 (by decide) (fun c_5 => ?_) (fun c_5 => ?_)
  · have c_5 := (b01n hw_2_k_131).mp c_5
    have hkd := hkj c_5
    subst hkd
    have hz9 : (nI j).toInt = (j : Int) := nI_toInt (by omega)
    have hl : lv_has ls 5 [(0, .ref mo), (1, .int (nI j)), (2, .int rs)] := hl
    refine lv_iload_n hx hb dX4_fit_12 rfl (lv_at hl 2 rfl) ?_
    refine lv_if_lt (tgt := 22) hx hb dX4_fit_13 (by decide) (fun c_13 => ?_) (fun c_13 => ?_)
    · have c_13 := (z_lt (a := rs.toInt) (b := 0) rfl (by decide)).mp c_13
      refine lv_iconst (v := 2) hx hb dX4_fit_22 (by decide) ?_
      refine lv_goto (tgt := 27) hx hb dX4_fit_23 (by decide) ?_
      refine va_put (D := (dC, dI)) (ci := 4) (v := .int 2) (ty := .int) (C := RX4) (T := TX4) (N := 15) hx hb hts (by decide +kernel) tyX4 tyX4_ok nmX4 hown hK hP hD hS 0 rfl rfl 0 (by decide) (hts (.fieldLink RX4 43 "SteamBendsModel" "code" "I") (by decide +kernel)) (fun _ h9 => h9) rfl (by decide +kernel) rfl rfl (Nat.le_of_ble_eq_true rfl) dX4_fit_27 (fun H locs hP hD hS => ?_)
      have hP : va_P (dC, dI) vwCl [(mo, .inr (4, [.int 2, .ref a1, .ref a2, .ref a3, .ref a4, .ref a5, .ref a6, .ref a7, .ref a8, .int (nI np), .ref a10, .ref a11, .int (nI kc), .double kr, .int fd])), (a4, .inl (cI, 4, .inl (cnt ng))), (a5, .inl (cD, 80, .inr (.inr (.inr (.inl (flat 20 B2)))))), (a6, .inl (cD, 80, .inr (.inr (.inr (.inl (flat 20 K2)))))), (a7, .inl (cD, 4, .inr (.inr (.inr (.inl sp2))))), (a8, .inl (cD, 4, .inr (.inr (.inr (.inl st2)))))] H := hP
      have hD : va_D A [(mo, .inr (4, [.int 2, .ref a1, .ref a2, .ref a3, .ref a4, .ref a5, .ref a6, .ref a7, .ref a8, .int (nI np), .ref a10, .ref a11, .int (nI kc), .double kr, .int fd])), (a4, .inl (cI, 4, .inl (cnt ng))), (a5, .inl (cD, 80, .inr (.inr (.inr (.inl (flat 20 B2)))))), (a6, .inl (cD, 80, .inr (.inr (.inr (.inl (flat 20 K2)))))), (a7, .inl (cD, 4, .inr (.inr (.inr (.inl sp2))))), (a8, .inl (cD, 4, .inr (.inr (.inr (.inl st2)))))] := hD
      refine lv_iconst (v := 0) hx hb dX4_fit_30 (by decide) ?_
      refine lv_istore_n (lv' := [(3, .int 0), (0, .ref mo), (1, .int (nI j)), (2, .int rs)]) hx hb dX4_fit_31 rfl hl (by decide) rfl (fun ls hl => ?_)
      refine lv_iconst (v := 0) hx hb dX4_fit_32 (by decide) ?_
      refine lv_istore (lv' := [(4, .int 0), (3, .int 0), (0, .ref mo), (1, .int (nI j)), (2, .int rs)]) hx hb dX4_fit_33 hl (by decide) rfl (fun ls hl => ?_)
      refine lv_iload hx hb dX4_fit_35 (lv_at hl 0 rfl) ?_
      refine lv_iload_n hx hb dX4_fit_37 rfl (lv_at hl 4 rfl) ?_
      refine lv_icmp_ge (tgt := 70) hx hb dX4_fit_38 (by decide) (fun c_38 => ?_) (fun c_38 => ?_)
      · have c_38 := (z_le (a := rs.toInt) (b := 0) rfl (by decide)).mp c_38
        refine lv_iload_n hx hb dX4_fit_70 rfl (lv_at hl 1 rfl) ?_
        have hP9 := hP.sub (ws' := [(mo, .inr (4, [.int 2, .ref a1, .ref a2, .ref a3, .ref a4, .ref a5, .ref a6, .ref a7, .ref a8, .int (nI np), .ref a10, .ref a11, .int (nI kc), .double kr, .int fd])), (a4, .inl (cI, 4, .inl (cnt ng))), (a5, .inl (cD, 80, .inr (.inr (.inr (.inl (flat 20 B2)))))), (a6, .inl (cD, 80, .inr (.inr (.inr (.inl (flat 20 K2)))))), (a7, .inl (cD, 4, .inr (.inr (.inr (.inl sp2))))), (a8, .inl (cD, 4, .inr (.inr (.inr (.inl st2)))))]) [0, 1, 2, 3, 4, 5] rfl
        have hD9 := hD.sub (ws' := [(mo, .inr (4, [.int 2, .ref a1, .ref a2, .ref a3, .ref a4, .ref a5, .ref a6, .ref a7, .ref a8, .int (nI np), .ref a10, .ref a11, .int (nI kc), .double kr, .int fd])), (a4, .inl (cI, 4, .inl (cnt ng))), (a5, .inl (cD, 80, .inr (.inr (.inr (.inl (flat 20 B2)))))), (a6, .inl (cD, 80, .inr (.inr (.inr (.inl (flat 20 K2)))))), (a7, .inl (cD, 4, .inr (.inr (.inr (.inl sp2))))), (a8, .inl (cD, 4, .inr (.inr (.inr (.inl st2)))))]) [0, 1, 2, 3, 4, 5] (by decide) rfl
        exact W.iret hx hb hr (fun t9s hht hW9 => ⟨⟨0, (2, (sp2, st2)), rfl, ⟨(by show (2 : Nat) = _; unfold cFit; (repeat' split) <;> omega), fun z => absurd z (by simp), (if_neg (show ¬ (2 : Nat) = 0 by decide)).symm⟩, ⟨by rw [hht]; exact hP9, hD9⟩⟩, hS.F hht⟩) hS.2.2 dX4_fit_71
      · have c_38 := mt (z_le (a := rs.toInt) (b := 0) rfl (by decide)).mpr c_38
        refine lv_aload_n hx hb dX4_fit_41 rfl (lv_at hl 2 rfl) ?_
        refine va_get (D := (dC, dI)) (ci := 4) (v := .int 2) (C := RX4) (T := TX4) (N := 15) hx hb hts (by decide +kernel) hown hK hP 0 rfl rfl 0 (by decide) (hts (.fieldLink RX4 43 "SteamBendsModel" "code" "I") (by decide +kernel)) (fun _ h9 => h9) rfl dX4_fit_42 ?_
        refine lv_if_ne (tgt := 70) hx hb dX4_fit_45 (by decide) (fun c_45 => ?_) (fun c_45 => ?_)
        · refine lv_iload_n hx hb dX4_fit_70 rfl (lv_at hl 1 rfl) ?_
          have hP9 := hP.sub (ws' := [(mo, .inr (4, [.int 2, .ref a1, .ref a2, .ref a3, .ref a4, .ref a5, .ref a6, .ref a7, .ref a8, .int (nI np), .ref a10, .ref a11, .int (nI kc), .double kr, .int fd])), (a4, .inl (cI, 4, .inl (cnt ng))), (a5, .inl (cD, 80, .inr (.inr (.inr (.inl (flat 20 B2)))))), (a6, .inl (cD, 80, .inr (.inr (.inr (.inl (flat 20 K2)))))), (a7, .inl (cD, 4, .inr (.inr (.inr (.inl sp2))))), (a8, .inl (cD, 4, .inr (.inr (.inr (.inl st2)))))]) [0, 1, 2, 3, 4, 5] rfl
          have hD9 := hD.sub (ws' := [(mo, .inr (4, [.int 2, .ref a1, .ref a2, .ref a3, .ref a4, .ref a5, .ref a6, .ref a7, .ref a8, .int (nI np), .ref a10, .ref a11, .int (nI kc), .double kr, .int fd])), (a4, .inl (cI, 4, .inl (cnt ng))), (a5, .inl (cD, 80, .inr (.inr (.inr (.inl (flat 20 B2)))))), (a6, .inl (cD, 80, .inr (.inr (.inr (.inl (flat 20 K2)))))), (a7, .inl (cD, 4, .inr (.inr (.inr (.inl sp2))))), (a8, .inl (cD, 4, .inr (.inr (.inr (.inl st2)))))]) [0, 1, 2, 3, 4, 5] (by decide) rfl
          exact W.iret hx hb hr (fun t9s hht hW9 => ⟨⟨0, (2, (sp2, st2)), rfl, ⟨(by show (2 : Nat) = _; unfold cFit; (repeat' split) <;> omega), fun z => absurd z (by simp), (if_neg (show ¬ (2 : Nat) = 0 by decide)).symm⟩, ⟨by rw [hht]; exact hP9, hD9⟩⟩, hS.F hht⟩) hS.2.2 dX4_fit_71
        · exact absurd c_45 (by decide)
    · have c_13 := mt (z_lt (a := rs.toInt) (b := 0) rfl (by decide)).mpr c_13
      refine lv_iload_n hx hb dX4_fit_16 rfl (lv_at hl 2 rfl) ?_
      refine lv_bipush (v := 100) hx hb dX4_fit_17 (by decide) ?_
      refine lv_icmp_le (tgt := 26) hx hb dX4_fit_19 (by decide) (fun c_19 => ?_) (fun c_19 => ?_)
      · have c_19 := (z_le (a := rs.toInt) (b := 100) rfl (by decide)).mp c_19
        refine lv_iconst (v := 0) hx hb dX4_fit_26 (by decide) ?_
        refine va_put (D := (dC, dI)) (ci := 4) (v := .int 0) (ty := .int) (C := RX4) (T := TX4) (N := 15) hx hb hts (by decide +kernel) tyX4 tyX4_ok nmX4 hown hK hP hD hS 0 rfl rfl 0 (by decide) (hts (.fieldLink RX4 43 "SteamBendsModel" "code" "I") (by decide +kernel)) (fun _ h9 => h9) rfl (by decide +kernel) rfl rfl (Nat.le_of_ble_eq_true rfl) dX4_fit_27 (fun H locs hP hD hS => ?_)
        have hP : va_P (dC, dI) vwCl [(mo, .inr (4, [.int 0, .ref a1, .ref a2, .ref a3, .ref a4, .ref a5, .ref a6, .ref a7, .ref a8, .int (nI np), .ref a10, .ref a11, .int (nI kc), .double kr, .int fd])), (a4, .inl (cI, 4, .inl (cnt ng))), (a5, .inl (cD, 80, .inr (.inr (.inr (.inl (flat 20 B2)))))), (a6, .inl (cD, 80, .inr (.inr (.inr (.inl (flat 20 K2)))))), (a7, .inl (cD, 4, .inr (.inr (.inr (.inl sp2))))), (a8, .inl (cD, 4, .inr (.inr (.inr (.inl st2)))))] H := hP
        have hD : va_D A [(mo, .inr (4, [.int 0, .ref a1, .ref a2, .ref a3, .ref a4, .ref a5, .ref a6, .ref a7, .ref a8, .int (nI np), .ref a10, .ref a11, .int (nI kc), .double kr, .int fd])), (a4, .inl (cI, 4, .inl (cnt ng))), (a5, .inl (cD, 80, .inr (.inr (.inr (.inl (flat 20 B2)))))), (a6, .inl (cD, 80, .inr (.inr (.inr (.inl (flat 20 K2)))))), (a7, .inl (cD, 4, .inr (.inr (.inr (.inl sp2))))), (a8, .inl (cD, 4, .inr (.inr (.inr (.inl st2)))))] := hD
        refine lv_iconst (v := 0) hx hb dX4_fit_30 (by decide) ?_
        refine lv_istore_n (lv' := [(3, .int 0), (0, .ref mo), (1, .int (nI j)), (2, .int rs)]) hx hb dX4_fit_31 rfl hl (by decide) rfl (fun ls hl => ?_)
        refine lv_iconst (v := 0) hx hb dX4_fit_32 (by decide) ?_
        refine lv_istore (lv' := [(4, .int 0), (3, .int 0), (0, .ref mo), (1, .int (nI j)), (2, .int rs)]) hx hb dX4_fit_33 hl (by decide) rfl (fun ls hl => ?_)
        refine w_loop (σ := Nat) (fun n9 x9 H locs ls => lv_has ls 5 [(4, .int (nI x9)), (3, .int (nI ((fitN (B2 j) (K2 j) (ng j) sp st x9).2.2))), (0, .ref mo), (1, .int (nI j)), (2, .int rs)] ∧ va_P (dC, dI) vwCl [(mo, .inr (4, [.int 0, .ref a1, .ref a2, .ref a3, .ref a4, .ref a5, .ref a6, .ref a7, .ref a8, .int (nI np), .ref a10, .ref a11, .int (nI kc), .double kr, .int fd])), (a4, .inl (cI, 4, .inl (cnt ng))), (a5, .inl (cD, 80, .inr (.inr (.inr (.inl (flat 20 B2)))))), (a6, .inl (cD, 80, .inr (.inr (.inr (.inl (flat 20 K2)))))), (a7, .inl (cD, 4, .inr (.inr (.inr (.inl (vf_upd sp2 j (fitN (B2 j) (K2 j) (ng j) sp st x9).1)))))), (a8, .inl (cD, 4, .inr (.inr (.inr (.inl (vf_upd st2 j (fitN (B2 j) (K2 j) (ng j) sp st x9).2.1))))))] H ∧ va_D A [(mo, .inr (4, [.int 0, .ref a1, .ref a2, .ref a3, .ref a4, .ref a5, .ref a6, .ref a7, .ref a8, .int (nI np), .ref a10, .ref a11, .int (nI kc), .double kr, .int fd])), (a4, .inl (cI, 4, .inl (cnt ng))), (a5, .inl (cD, 80, .inr (.inr (.inr (.inl (flat 20 B2)))))), (a6, .inl (cD, 80, .inr (.inr (.inr (.inl (flat 20 K2)))))), (a7, .inl (cD, 4, .inr (.inr (.inr (.inl (vf_upd sp2 j (fitN (B2 j) (K2 j) (ng j) sp st x9).1)))))), (a8, .inl (cD, 4, .inr (.inr (.inr (.inl (vf_upd st2 j (fitN (B2 j) (K2 j) (ng j) sp st x9).2.1))))))] ∧ va_S A s.heap H locs ∧ x9 + n9 = rs.toInt.toNat ∧ x9 ≤ 100) (n0 := rs.toInt.toNat) (x0 := 0) ⟨lv_sub hl [0, 1, 2, 3, 4] rfl, (by show va_P _ _ _ _; rw [show vf_upd sp2 j (fitN (B2 j) (K2 j) (ng j) sp st 0).1 = sp2 from (by rw [← es]; exact vf_self _ _), show vf_upd st2 j (fitN (B2 j) (K2 j) (ng j) sp st 0).2.1 = st2 from (by rw [← eh]; exact vf_self _ _)]; exact hP.sub [0, 1, 2, 3, 4, 5] rfl), (by show va_D _ _; rw [show vf_upd sp2 j (fitN (B2 j) (K2 j) (ng j) sp st 0).1 = sp2 from (by rw [← es]; exact vf_self _ _), show vf_upd st2 j (fitN (B2 j) (K2 j) (ng j) sp st 0).2.1 = st2 from (by rw [← eh]; exact vf_self _ _)]; exact hD.sub [0, 1, 2, 3, 4, 5] (by decide) rfl), hS, (show 0 + rs.toInt.toNat = rs.toInt.toNat ∧ 0 ≤ 100 from ⟨by omega, by omega⟩)⟩ ?_
        rintro n9 i9 H locs ls ⟨hl, hP, hD, hS, hi⟩ ih
        have hl : lv_has ls 5 [(4, .int (nI i9)), (3, .int (nI ((fitN (B2 j) (K2 j) (ng j) sp st i9).2.2))), (0, .ref mo), (1, .int (nI j)), (2, .int rs)] := hl
        have hP : va_P (dC, dI) vwCl [(mo, .inr (4, [.int 0, .ref a1, .ref a2, .ref a3, .ref a4, .ref a5, .ref a6, .ref a7, .ref a8, .int (nI np), .ref a10, .ref a11, .int (nI kc), .double kr, .int fd])), (a4, .inl (cI, 4, .inl (cnt ng))), (a5, .inl (cD, 80, .inr (.inr (.inr (.inl (flat 20 B2)))))), (a6, .inl (cD, 80, .inr (.inr (.inr (.inl (flat 20 K2)))))), (a7, .inl (cD, 4, .inr (.inr (.inr (.inl (vf_upd sp2 j (fitN (B2 j) (K2 j) (ng j) sp st i9).1)))))), (a8, .inl (cD, 4, .inr (.inr (.inr (.inl (vf_upd st2 j (fitN (B2 j) (K2 j) (ng j) sp st i9).2.1))))))] H := hP
        have hD : va_D A [(mo, .inr (4, [.int 0, .ref a1, .ref a2, .ref a3, .ref a4, .ref a5, .ref a6, .ref a7, .ref a8, .int (nI np), .ref a10, .ref a11, .int (nI kc), .double kr, .int fd])), (a4, .inl (cI, 4, .inl (cnt ng))), (a5, .inl (cD, 80, .inr (.inr (.inr (.inl (flat 20 B2)))))), (a6, .inl (cD, 80, .inr (.inr (.inr (.inl (flat 20 K2)))))), (a7, .inl (cD, 4, .inr (.inr (.inr (.inl (vf_upd sp2 j (fitN (B2 j) (K2 j) (ng j) sp st i9).1)))))), (a8, .inl (cD, 4, .inr (.inr (.inr (.inl (vf_upd st2 j (fitN (B2 j) (K2 j) (ng j) sp st i9).2.1))))))] := hD
        have hi : i9 + n9 = rs.toInt.toNat ∧ i9 ≤ 100 := hi
        refine lv_iload hx hb dX4_fit_35 (lv_at hl 0 rfl) ?_
        refine lv_iload_n hx hb dX4_fit_37 rfl (lv_at hl 4 rfl) ?_
        refine lv_icmp_ge (tgt := 70) hx hb dX4_fit_38 (by decide) (fun c_38 => ?_) (fun c_38 => ?_)
        · have c_38 := (z_le (a := rs.toInt) (b := ((i9 : Nat) : Int)) rfl (nI_toInt (by omega))).mp c_38
          refine lv_iload_n hx hb dX4_fit_70 rfl (lv_at hl 1 rfl) ?_
          have hP9 := hP.sub (ws' := [(mo, .inr (4, [.int 0, .ref a1, .ref a2, .ref a3, .ref a4, .ref a5, .ref a6, .ref a7, .ref a8, .int (nI np), .ref a10, .ref a11, .int (nI kc), .double kr, .int fd])), (a4, .inl (cI, 4, .inl (cnt ng))), (a5, .inl (cD, 80, .inr (.inr (.inr (.inl (flat 20 B2)))))), (a6, .inl (cD, 80, .inr (.inr (.inr (.inl (flat 20 K2)))))), (a7, .inl (cD, 4, .inr (.inr (.inr (.inl (vf_upd sp2 j (fitN (B2 j) (K2 j) (ng j) sp st i9).1)))))), (a8, .inl (cD, 4, .inr (.inr (.inr (.inl (vf_upd st2 j (fitN (B2 j) (K2 j) (ng j) sp st i9).2.1))))))]) [0, 1, 2, 3, 4, 5] rfl
          have hD9 := hD.sub (ws' := [(mo, .inr (4, [.int 0, .ref a1, .ref a2, .ref a3, .ref a4, .ref a5, .ref a6, .ref a7, .ref a8, .int (nI np), .ref a10, .ref a11, .int (nI kc), .double kr, .int fd])), (a4, .inl (cI, 4, .inl (cnt ng))), (a5, .inl (cD, 80, .inr (.inr (.inr (.inl (flat 20 B2)))))), (a6, .inl (cD, 80, .inr (.inr (.inr (.inl (flat 20 K2)))))), (a7, .inl (cD, 4, .inr (.inr (.inr (.inl (vf_upd sp2 j (fitN (B2 j) (K2 j) (ng j) sp st i9).1)))))), (a8, .inl (cD, 4, .inr (.inr (.inr (.inl (vf_upd st2 j (fitN (B2 j) (K2 j) (ng j) sp st i9).2.1))))))]) [0, 1, 2, 3, 4, 5] (by decide) rfl
          have e9 : rs.toInt.toNat = i9 := by omega
          exact W.iret hx hb hr (fun t9s hht hW9 => ⟨⟨nI ((fitN (B2 j) (K2 j) (ng j) sp st i9).2.2), (0, (vf_upd sp2 j (fitN (B2 j) (K2 j) (ng j) sp st rs.toInt.toNat).1, vf_upd st2 j (fitN (B2 j) (K2 j) (ng j) sp st rs.toInt.toNat).2.1)), rfl, ⟨(by show (0 : Nat) = _; unfold cFit; (repeat' split) <;> omega), fun _ => by rw [e9], (if_pos rfl).symm⟩, ⟨by rw [hht, e9]; exact hP9, by rw [e9]; exact hD9⟩⟩, hS.F hht⟩) hS.2.2 dX4_fit_71
        · have c_38 := mt (z_le (a := rs.toInt) (b := ((i9 : Nat) : Int)) rfl (nI_toInt (by omega))).mpr c_38
          refine lv_aload_n hx hb dX4_fit_41 rfl (lv_at hl 2 rfl) ?_
          refine va_get (D := (dC, dI)) (ci := 4) (v := .int 0) (C := RX4) (T := TX4) (N := 15) hx hb hts (by decide +kernel) hown hK hP 0 rfl rfl 0 (by decide) (hts (.fieldLink RX4 43 "SteamBendsModel" "code" "I") (by decide +kernel)) (fun _ h9 => h9) rfl dX4_fit_42 ?_
          refine lv_if_ne (tgt := 70) hx hb dX4_fit_45 (by decide) (fun c_45 => ?_) (fun c_45 => ?_)
          · exact absurd c_45 (by decide)
          · refine lv_aload_n hx hb dX4_fit_48 rfl (lv_at hl 2 rfl) ?_
            refine lv_iload_n hx hb dX4_fit_49 rfl (lv_at hl 3 rfl) ?_
            have hPc := hP.sub (ws' := [(mo, .inr (4, [.int 0, .ref a1, .ref a2, .ref a3, .ref a4, .ref a5, .ref a6, .ref a7, .ref a8, .int (nI np), .ref a10, .ref a11, .int (nI kc), .double kr, .int fd])), (a4, .inl (cI, 4, .inl (cnt ng))), (a5, .inl (cD, 80, .inr (.inr (.inr (.inl (flat 20 B2)))))), (a6, .inl (cD, 80, .inr (.inr (.inr (.inl (flat 20 K2)))))), (a7, .inl (cD, 4, .inr (.inr (.inr (.inl (vf_upd sp2 j (fitN (B2 j) (K2 j) (ng j) sp st i9).1)))))), (a8, .inl (cD, 4, .inr (.inr (.inr (.inl (vf_upd st2 j (fitN (B2 j) (K2 j) (ng j) sp st i9).2.1))))))]) [0, 1, 2, 3, 4, 5] rfl
            have hKc := hK.sub (tys' := [(cI, .int), (cD, .double)]) [0, 1] rfl
            have hDc := hD.sub (ws' := [(mo, .inr (4, [.int 0, .ref a1, .ref a2, .ref a3, .ref a4, .ref a5, .ref a6, .ref a7, .ref a8, .int (nI np), .ref a10, .ref a11, .int (nI kc), .double kr, .int fd])), (a4, .inl (cI, 4, .inl (cnt ng))), (a5, .inl (cD, 80, .inr (.inr (.inr (.inl (flat 20 B2)))))), (a6, .inl (cD, 80, .inr (.inr (.inr (.inl (flat 20 K2)))))), (a7, .inl (cD, 4, .inr (.inr (.inr (.inl (vf_upd sp2 j (fitN (B2 j) (K2 j) (ng j) sp st i9).1)))))), (a8, .inl (cD, 4, .inr (.inr (.inr (.inl (vf_upd st2 j (fitN (B2 j) (K2 j) (ng j) sp st i9).2.1))))))]) [0, 1, 2, 3, 4, 5] (by decide) rfl
            have hFc := va_free (wc := [(mo, .inr (4, [.int 0, .ref a1, .ref a2, .ref a3, .ref a4, .ref a5, .ref a6, .ref a7, .ref a8, .int (nI np), .ref a10, .ref a11, .int (nI kc), .double kr, .int fd])), (a4, .inl (cI, 4, .inl (cnt ng))), (a5, .inl (cD, 80, .inr (.inr (.inr (.inl (flat 20 B2)))))), (a6, .inl (cD, 80, .inr (.inr (.inr (.inl (flat 20 K2)))))), (a7, .inl (cD, 4, .inr (.inr (.inr (.inl (vf_upd sp2 j (fitN (B2 j) (K2 j) (ng j) sp st i9).1)))))), (a8, .inl (cD, 4, .inr (.inr (.inr (.inl (vf_upd st2 j (fitN (B2 j) (K2 j) (ng j) sp st i9).2.1))))))]) hD hS hA [0, 1, 2, 3, 4, 5] rfl
            refine va_calli (va_runV (As := [.int (nI j)]) (rest := []) ⟨hx, hb, hml, hown, hts⟩ (m_X4_improves l dC dI H.size cI cD mo a1 a2 a3 a4 a5 a6 a7 a8 a10 a11 0 np kc kr fd ng B2 K2 (vf_upd sp2 j (fitN (B2 j) (K2 j) (ng j) sp st i9).1) (vf_upd st2 j (fitN (B2 j) (K2 j) (ng j) sp st i9).2.1) j hj (fitN (B2 j) (K2 j) (ng j) sp st i9).1 (fitN (B2 j) (K2 j) (ng j) sp st i9).2.1 (vf_at _ _ _) (vf_at _ _ _) ((fitN_ok hsp i9 (by omega)).dB (by omega)).1 ((fitN_ok hsp i9 (by omega)).dB (by omega)).2 hrd) (cwV 1 hts gX4_fit_X4_improves rfl rfl rfl (by decide +kernel) ⟨(Nat.le_of_ble_eq_true rfl), (Nat.le_of_ble_eq_true rfl)⟩) ⟨PW.blind, va_recv hKc hPc (ci := 4) (q0 := 0) rfl rfl, fun U9 hU9 hW9 => ⟨rfl, PW.at hPc hKc hDc hN hU9 hW9⟩⟩ rfl rfl hl.1 rfl (lv_room (Nat.le_of_ble_eq_true rfl)) dX4_fit_50 ⟨(Nat.le_of_ble_eq_true rfl), (Nat.le_of_ble_eq_true rfl)⟩) hS (fun q _ h => hFc q h) hFc (fun r_134 u9s t9s H1 locs hht hvm9 hw_50_k_133 hB hz1 hk1 hS => ?_)
            obtain ⟨hP1, hD1⟩ := hB
            rw [hht] at hP1
            obtain ⟨hw1, hw2⟩ := hw_50_k_133
            subst hw2
            simp only [vf_twice] at hP1 hD1
            obtain ⟨hP, hD⟩ := va_join (wr := []) (w1 := [(mo, .inr (4, [.int 0, .ref a1, .ref a2, .ref a3, .ref a4, .ref a5, .ref a6, .ref a7, .ref a8, .int (nI np), .ref a10, .ref a11, .int (nI kc), .double kr, .int fd])), (a4, .inl (cI, 4, .inl (cnt ng))), (a5, .inl (cD, 80, .inr (.inr (.inr (.inl (flat 20 B2)))))), (a6, .inl (cD, 80, .inr (.inr (.inr (.inl (flat 20 K2)))))), (a7, .inl (cD, 4, .inr (.inr (.inr (.inl (vf_upd sp2 j (rnd (B2 j) (K2 j) (ng j) (fitN (B2 j) (K2 j) (ng j) sp st i9).1 (fitN (B2 j) (K2 j) (ng j) sp st i9).2.1).1)))))), (a8, .inl (cD, 4, .inr (.inr (.inr (.inl (vf_upd st2 j (rnd (B2 j) (K2 j) (ng j) (fitN (B2 j) (K2 j) (ng j) sp st i9).1 (fitN (B2 j) (K2 j) (ng j) sp st i9).2.1).2.1))))))]) hP hD [0, 1, 2, 3, 4, 5] [] rfl rfl (by decide) (by decide) hk1 hFc hP1 hD1
            generalize H1 = H at hP hS ⊢
            have hP : va_P (dC, dI) vwCl [(mo, .inr (4, [.int 0, .ref a1, .ref a2, .ref a3, .ref a4, .ref a5, .ref a6, .ref a7, .ref a8, .int (nI np), .ref a10, .ref a11, .int (nI kc), .double kr, .int fd])), (a4, .inl (cI, 4, .inl (cnt ng))), (a5, .inl (cD, 80, .inr (.inr (.inr (.inl (flat 20 B2)))))), (a6, .inl (cD, 80, .inr (.inr (.inr (.inl (flat 20 K2)))))), (a7, .inl (cD, 4, .inr (.inr (.inr (.inl (vf_upd sp2 j (rnd (B2 j) (K2 j) (ng j) (fitN (B2 j) (K2 j) (ng j) sp st i9).1 (fitN (B2 j) (K2 j) (ng j) sp st i9).2.1).1)))))), (a8, .inl (cD, 4, .inr (.inr (.inr (.inl (vf_upd st2 j (rnd (B2 j) (K2 j) (ng j) (fitN (B2 j) (K2 j) (ng j) sp st i9).1 (fitN (B2 j) (K2 j) (ng j) sp st i9).2.1).2.1))))))] H := hP
            have hD : va_D A [(mo, .inr (4, [.int 0, .ref a1, .ref a2, .ref a3, .ref a4, .ref a5, .ref a6, .ref a7, .ref a8, .int (nI np), .ref a10, .ref a11, .int (nI kc), .double kr, .int fd])), (a4, .inl (cI, 4, .inl (cnt ng))), (a5, .inl (cD, 80, .inr (.inr (.inr (.inl (flat 20 B2)))))), (a6, .inl (cD, 80, .inr (.inr (.inr (.inl (flat 20 K2)))))), (a7, .inl (cD, 4, .inr (.inr (.inr (.inl (vf_upd sp2 j (rnd (B2 j) (K2 j) (ng j) (fitN (B2 j) (K2 j) (ng j) sp st i9).1 (fitN (B2 j) (K2 j) (ng j) sp st i9).2.1).1)))))), (a8, .inl (cD, 4, .inr (.inr (.inr (.inl (vf_upd st2 j (rnd (B2 j) (K2 j) (ng j) (fitN (B2 j) (K2 j) (ng j) sp st i9).1 (fitN (B2 j) (K2 j) (ng j) sp st i9).2.1).2.1))))))] := hD
            refine lv_if_eq (tgt := 62) hx hb dX4_fit_53 (by decide) (fun c_53 => ?_) (fun c_53 => ?_)
            · have c_53 := (b01 hw1).mp c_53
              refine lv_iload_n hx hb dX4_fit_62 rfl (lv_at hl 1 rfl) ?_
              refine lv_istore_n (lv' := [(3, .int (nI ((fitN (B2 j) (K2 j) (ng j) sp st i9).2.2))), (4, .int (nI i9)), (0, .ref mo), (1, .int (nI j)), (2, .int rs)]) hx hb dX4_fit_63 rfl hl (by decide) rfl (fun ls hl => ?_)
              refine lv_iinc (v := nI (i9 + 1)) (lv' := [(4, .int (nI (i9 + 1))), (3, .int (nI ((fitN (B2 j) (K2 j) (ng j) sp st i9).2.2))), (0, .ref mo), (1, .int (nI j)), (2, .int rs)]) hx hb dX4_fit_64 hl (k := 1) rfl (show nI i9 + nI 1 = nI (i9 + 1) from nI_add _ _) (by decide) rfl (fun ls hl => ?_)
              refine lv_goto (tgt := 35) hx hb dX4_fit_67 (by decide) ?_
              exact ih (n9 - 1) (by omega) (i9 + 1) _ _ _ ⟨(by
                  simp only [fitN]
                  rw [if_neg c_53]
                  exact lv_sub hl [0, 1, 2, 3, 4] rfl), hP.sub [0, 1, 2, 3, 4, 5] rfl, hD.sub [0, 1, 2, 3, 4, 5] (by decide) rfl, hS, (show (i9 + 1) + (n9 - 1) = rs.toInt.toNat ∧ (i9 + 1) ≤ 100 from ⟨by omega, by omega⟩)⟩
            · have c_53 := (b01n hw1).mp c_53
              refine lv_iload_n hx hb dX4_fit_56 rfl (lv_at hl 1 rfl) ?_
              refine lv_iconst (v := 1) hx hb dX4_fit_57 (by decide) ?_
              refine lv_iaddN (x := (fitN (B2 j) (K2 j) (ng j) sp st i9).2.2) (y := 1) hx hb dX4_fit_58 ?_
              refine lv_goto (tgt := 63) hx hb dX4_fit_59 (by decide) ?_
              refine lv_istore_n (lv' := [(3, .int (nI (((fitN (B2 j) (K2 j) (ng j) sp st i9).2.2) + 1))), (4, .int (nI i9)), (0, .ref mo), (1, .int (nI j)), (2, .int rs)]) hx hb dX4_fit_63 rfl hl (by decide) rfl (fun ls hl => ?_)
              refine lv_iinc (v := nI (i9 + 1)) (lv' := [(4, .int (nI (i9 + 1))), (3, .int (nI (((fitN (B2 j) (K2 j) (ng j) sp st i9).2.2) + 1))), (0, .ref mo), (1, .int (nI j)), (2, .int rs)]) hx hb dX4_fit_64 hl (k := 1) rfl (show nI i9 + nI 1 = nI (i9 + 1) from nI_add _ _) (by decide) rfl (fun ls hl => ?_)
              refine lv_goto (tgt := 35) hx hb dX4_fit_67 (by decide) ?_
              exact ih (n9 - 1) (by omega) (i9 + 1) _ _ _ ⟨(by
                  simp only [fitN]
                  rw [if_pos c_53]
                  exact lv_sub hl [0, 1, 2, 3, 4] rfl), hP.sub [0, 1, 2, 3, 4, 5] rfl, hD.sub [0, 1, 2, 3, 4, 5] (by decide) rfl, hS, (show (i9 + 1) + (n9 - 1) = rs.toInt.toNat ∧ (i9 + 1) ≤ 100 from ⟨by omega, by omega⟩)⟩
      · have c_19 := mt (z_le (a := rs.toInt) (b := 100) rfl (by decide)).mpr c_19
        refine lv_iconst (v := 2) hx hb dX4_fit_22 (by decide) ?_
        refine lv_goto (tgt := 27) hx hb dX4_fit_23 (by decide) ?_
        refine va_put (D := (dC, dI)) (ci := 4) (v := .int 2) (ty := .int) (C := RX4) (T := TX4) (N := 15) hx hb hts (by decide +kernel) tyX4 tyX4_ok nmX4 hown hK hP hD hS 0 rfl rfl 0 (by decide) (hts (.fieldLink RX4 43 "SteamBendsModel" "code" "I") (by decide +kernel)) (fun _ h9 => h9) rfl (by decide +kernel) rfl rfl (Nat.le_of_ble_eq_true rfl) dX4_fit_27 (fun H locs hP hD hS => ?_)
        have hP : va_P (dC, dI) vwCl [(mo, .inr (4, [.int 2, .ref a1, .ref a2, .ref a3, .ref a4, .ref a5, .ref a6, .ref a7, .ref a8, .int (nI np), .ref a10, .ref a11, .int (nI kc), .double kr, .int fd])), (a4, .inl (cI, 4, .inl (cnt ng))), (a5, .inl (cD, 80, .inr (.inr (.inr (.inl (flat 20 B2)))))), (a6, .inl (cD, 80, .inr (.inr (.inr (.inl (flat 20 K2)))))), (a7, .inl (cD, 4, .inr (.inr (.inr (.inl sp2))))), (a8, .inl (cD, 4, .inr (.inr (.inr (.inl st2)))))] H := hP
        have hD : va_D A [(mo, .inr (4, [.int 2, .ref a1, .ref a2, .ref a3, .ref a4, .ref a5, .ref a6, .ref a7, .ref a8, .int (nI np), .ref a10, .ref a11, .int (nI kc), .double kr, .int fd])), (a4, .inl (cI, 4, .inl (cnt ng))), (a5, .inl (cD, 80, .inr (.inr (.inr (.inl (flat 20 B2)))))), (a6, .inl (cD, 80, .inr (.inr (.inr (.inl (flat 20 K2)))))), (a7, .inl (cD, 4, .inr (.inr (.inr (.inl sp2))))), (a8, .inl (cD, 4, .inr (.inr (.inr (.inl st2)))))] := hD
        refine lv_iconst (v := 0) hx hb dX4_fit_30 (by decide) ?_
        refine lv_istore_n (lv' := [(3, .int 0), (0, .ref mo), (1, .int (nI j)), (2, .int rs)]) hx hb dX4_fit_31 rfl hl (by decide) rfl (fun ls hl => ?_)
        refine lv_iconst (v := 0) hx hb dX4_fit_32 (by decide) ?_
        refine lv_istore (lv' := [(4, .int 0), (3, .int 0), (0, .ref mo), (1, .int (nI j)), (2, .int rs)]) hx hb dX4_fit_33 hl (by decide) rfl (fun ls hl => ?_)
        refine lv_iload hx hb dX4_fit_35 (lv_at hl 0 rfl) ?_
        refine lv_iload_n hx hb dX4_fit_37 rfl (lv_at hl 4 rfl) ?_
        refine lv_icmp_ge (tgt := 70) hx hb dX4_fit_38 (by decide) (fun c_38 => ?_) (fun c_38 => ?_)
        · have c_38 := (z_le (a := rs.toInt) (b := 0) rfl (by decide)).mp c_38
          refine lv_iload_n hx hb dX4_fit_70 rfl (lv_at hl 1 rfl) ?_
          have hP9 := hP.sub (ws' := [(mo, .inr (4, [.int 2, .ref a1, .ref a2, .ref a3, .ref a4, .ref a5, .ref a6, .ref a7, .ref a8, .int (nI np), .ref a10, .ref a11, .int (nI kc), .double kr, .int fd])), (a4, .inl (cI, 4, .inl (cnt ng))), (a5, .inl (cD, 80, .inr (.inr (.inr (.inl (flat 20 B2)))))), (a6, .inl (cD, 80, .inr (.inr (.inr (.inl (flat 20 K2)))))), (a7, .inl (cD, 4, .inr (.inr (.inr (.inl sp2))))), (a8, .inl (cD, 4, .inr (.inr (.inr (.inl st2)))))]) [0, 1, 2, 3, 4, 5] rfl
          have hD9 := hD.sub (ws' := [(mo, .inr (4, [.int 2, .ref a1, .ref a2, .ref a3, .ref a4, .ref a5, .ref a6, .ref a7, .ref a8, .int (nI np), .ref a10, .ref a11, .int (nI kc), .double kr, .int fd])), (a4, .inl (cI, 4, .inl (cnt ng))), (a5, .inl (cD, 80, .inr (.inr (.inr (.inl (flat 20 B2)))))), (a6, .inl (cD, 80, .inr (.inr (.inr (.inl (flat 20 K2)))))), (a7, .inl (cD, 4, .inr (.inr (.inr (.inl sp2))))), (a8, .inl (cD, 4, .inr (.inr (.inr (.inl st2)))))]) [0, 1, 2, 3, 4, 5] (by decide) rfl
          exact W.iret hx hb hr (fun t9s hht hW9 => ⟨⟨0, (2, (sp2, st2)), rfl, ⟨(by show (2 : Nat) = _; unfold cFit; (repeat' split) <;> omega), fun z => absurd z (by simp), (if_neg (show ¬ (2 : Nat) = 0 by decide)).symm⟩, ⟨by rw [hht]; exact hP9, hD9⟩⟩, hS.F hht⟩) hS.2.2 dX4_fit_71
        · have c_38 := mt (z_le (a := rs.toInt) (b := 0) rfl (by decide)).mpr c_38
          refine lv_aload_n hx hb dX4_fit_41 rfl (lv_at hl 2 rfl) ?_
          refine va_get (D := (dC, dI)) (ci := 4) (v := .int 2) (C := RX4) (T := TX4) (N := 15) hx hb hts (by decide +kernel) hown hK hP 0 rfl rfl 0 (by decide) (hts (.fieldLink RX4 43 "SteamBendsModel" "code" "I") (by decide +kernel)) (fun _ h9 => h9) rfl dX4_fit_42 ?_
          refine lv_if_ne (tgt := 70) hx hb dX4_fit_45 (by decide) (fun c_45 => ?_) (fun c_45 => ?_)
          · refine lv_iload_n hx hb dX4_fit_70 rfl (lv_at hl 1 rfl) ?_
            have hP9 := hP.sub (ws' := [(mo, .inr (4, [.int 2, .ref a1, .ref a2, .ref a3, .ref a4, .ref a5, .ref a6, .ref a7, .ref a8, .int (nI np), .ref a10, .ref a11, .int (nI kc), .double kr, .int fd])), (a4, .inl (cI, 4, .inl (cnt ng))), (a5, .inl (cD, 80, .inr (.inr (.inr (.inl (flat 20 B2)))))), (a6, .inl (cD, 80, .inr (.inr (.inr (.inl (flat 20 K2)))))), (a7, .inl (cD, 4, .inr (.inr (.inr (.inl sp2))))), (a8, .inl (cD, 4, .inr (.inr (.inr (.inl st2)))))]) [0, 1, 2, 3, 4, 5] rfl
            have hD9 := hD.sub (ws' := [(mo, .inr (4, [.int 2, .ref a1, .ref a2, .ref a3, .ref a4, .ref a5, .ref a6, .ref a7, .ref a8, .int (nI np), .ref a10, .ref a11, .int (nI kc), .double kr, .int fd])), (a4, .inl (cI, 4, .inl (cnt ng))), (a5, .inl (cD, 80, .inr (.inr (.inr (.inl (flat 20 B2)))))), (a6, .inl (cD, 80, .inr (.inr (.inr (.inl (flat 20 K2)))))), (a7, .inl (cD, 4, .inr (.inr (.inr (.inl sp2))))), (a8, .inl (cD, 4, .inr (.inr (.inr (.inl st2)))))]) [0, 1, 2, 3, 4, 5] (by decide) rfl
            exact W.iret hx hb hr (fun t9s hht hW9 => ⟨⟨0, (2, (sp2, st2)), rfl, ⟨(by show (2 : Nat) = _; unfold cFit; (repeat' split) <;> omega), fun z => absurd z (by simp), (if_neg (show ¬ (2 : Nat) = 0 by decide)).symm⟩, ⟨by rw [hht]; exact hP9, hD9⟩⟩, hS.F hht⟩) hS.2.2 dX4_fit_71
          · exact absurd c_45 (by decide)
  · have c_5 := (b01 hw_2_k_131).mp c_5
    refine lv_iconst (v := 1) hx hb dX4_fit_8 (by decide) ?_
    refine lv_goto (tgt := 27) hx hb dX4_fit_9 (by decide) ?_
    refine va_put (D := (dC, dI)) (ci := 4) (v := .int 1) (ty := .int) (C := RX4) (T := TX4) (N := 15) hx hb hts (by decide +kernel) tyX4 tyX4_ok nmX4 hown hK hP hD hS 0 rfl rfl 0 (by decide) (hts (.fieldLink RX4 43 "SteamBendsModel" "code" "I") (by decide +kernel)) (fun _ h9 => h9) rfl (by decide +kernel) rfl rfl (Nat.le_of_ble_eq_true rfl) dX4_fit_27 (fun H locs hP hD hS => ?_)
    have hP : va_P (dC, dI) vwCl [(mo, .inr (4, [.int 1, .ref a1, .ref a2, .ref a3, .ref a4, .ref a5, .ref a6, .ref a7, .ref a8, .int (nI np), .ref a10, .ref a11, .int (nI kc), .double kr, .int fd])), (a4, .inl (cI, 4, .inl (cnt ng))), (a5, .inl (cD, 80, .inr (.inr (.inr (.inl (flat 20 B2)))))), (a6, .inl (cD, 80, .inr (.inr (.inr (.inl (flat 20 K2)))))), (a7, .inl (cD, 4, .inr (.inr (.inr (.inl sp2))))), (a8, .inl (cD, 4, .inr (.inr (.inr (.inl st2)))))] H := hP
    have hD : va_D A [(mo, .inr (4, [.int 1, .ref a1, .ref a2, .ref a3, .ref a4, .ref a5, .ref a6, .ref a7, .ref a8, .int (nI np), .ref a10, .ref a11, .int (nI kc), .double kr, .int fd])), (a4, .inl (cI, 4, .inl (cnt ng))), (a5, .inl (cD, 80, .inr (.inr (.inr (.inl (flat 20 B2)))))), (a6, .inl (cD, 80, .inr (.inr (.inr (.inl (flat 20 K2)))))), (a7, .inl (cD, 4, .inr (.inr (.inr (.inl sp2))))), (a8, .inl (cD, 4, .inr (.inr (.inr (.inl st2)))))] := hD
    refine lv_iconst (v := 0) hx hb dX4_fit_30 (by decide) ?_
    refine lv_istore_n (lv' := [(3, .int 0), (0, .ref mo), (1, .int kd), (2, .int rs)]) hx hb dX4_fit_31 rfl hl (by decide) rfl (fun ls hl => ?_)
    refine lv_iconst (v := 0) hx hb dX4_fit_32 (by decide) ?_
    refine lv_istore (lv' := [(4, .int 0), (3, .int 0), (0, .ref mo), (1, .int kd), (2, .int rs)]) hx hb dX4_fit_33 hl (by decide) rfl (fun ls hl => ?_)
    refine lv_iload hx hb dX4_fit_35 (lv_at hl 0 rfl) ?_
    refine lv_iload_n hx hb dX4_fit_37 rfl (lv_at hl 4 rfl) ?_
    refine lv_icmp_ge (tgt := 70) hx hb dX4_fit_38 (by decide) (fun c_38 => ?_) (fun c_38 => ?_)
    · have c_38 := (z_le (a := rs.toInt) (b := 0) rfl (by decide)).mp c_38
      refine lv_iload_n hx hb dX4_fit_70 rfl (lv_at hl 1 rfl) ?_
      have hP9 := hP.sub (ws' := [(mo, .inr (4, [.int 1, .ref a1, .ref a2, .ref a3, .ref a4, .ref a5, .ref a6, .ref a7, .ref a8, .int (nI np), .ref a10, .ref a11, .int (nI kc), .double kr, .int fd])), (a4, .inl (cI, 4, .inl (cnt ng))), (a5, .inl (cD, 80, .inr (.inr (.inr (.inl (flat 20 B2)))))), (a6, .inl (cD, 80, .inr (.inr (.inr (.inl (flat 20 K2)))))), (a7, .inl (cD, 4, .inr (.inr (.inr (.inl sp2))))), (a8, .inl (cD, 4, .inr (.inr (.inr (.inl st2)))))]) [0, 1, 2, 3, 4, 5] rfl
      have hD9 := hD.sub (ws' := [(mo, .inr (4, [.int 1, .ref a1, .ref a2, .ref a3, .ref a4, .ref a5, .ref a6, .ref a7, .ref a8, .int (nI np), .ref a10, .ref a11, .int (nI kc), .double kr, .int fd])), (a4, .inl (cI, 4, .inl (cnt ng))), (a5, .inl (cD, 80, .inr (.inr (.inr (.inl (flat 20 B2)))))), (a6, .inl (cD, 80, .inr (.inr (.inr (.inl (flat 20 K2)))))), (a7, .inl (cD, 4, .inr (.inr (.inr (.inl sp2))))), (a8, .inl (cD, 4, .inr (.inr (.inr (.inl st2)))))]) [0, 1, 2, 3, 4, 5] (by decide) rfl
      exact W.iret hx hb hr (fun t9s hht hW9 => ⟨⟨0, (1, (sp2, st2)), rfl, ⟨(by show (1 : Nat) = _; unfold cFit; (repeat' split) <;> omega), fun z => absurd z (by simp), (if_neg (show ¬ (1 : Nat) = 0 by decide)).symm⟩, ⟨by rw [hht]; exact hP9, hD9⟩⟩, hS.F hht⟩) hS.2.2 dX4_fit_71
    · have c_38 := mt (z_le (a := rs.toInt) (b := 0) rfl (by decide)).mpr c_38
      refine lv_aload_n hx hb dX4_fit_41 rfl (lv_at hl 2 rfl) ?_
      refine va_get (D := (dC, dI)) (ci := 4) (v := .int 1) (C := RX4) (T := TX4) (N := 15) hx hb hts (by decide +kernel) hown hK hP 0 rfl rfl 0 (by decide) (hts (.fieldLink RX4 43 "SteamBendsModel" "code" "I") (by decide +kernel)) (fun _ h9 => h9) rfl dX4_fit_42 ?_
      refine lv_if_ne (tgt := 70) hx hb dX4_fit_45 (by decide) (fun c_45 => ?_) (fun c_45 => ?_)
      · refine lv_iload_n hx hb dX4_fit_70 rfl (lv_at hl 1 rfl) ?_
        have hP9 := hP.sub (ws' := [(mo, .inr (4, [.int 1, .ref a1, .ref a2, .ref a3, .ref a4, .ref a5, .ref a6, .ref a7, .ref a8, .int (nI np), .ref a10, .ref a11, .int (nI kc), .double kr, .int fd])), (a4, .inl (cI, 4, .inl (cnt ng))), (a5, .inl (cD, 80, .inr (.inr (.inr (.inl (flat 20 B2)))))), (a6, .inl (cD, 80, .inr (.inr (.inr (.inl (flat 20 K2)))))), (a7, .inl (cD, 4, .inr (.inr (.inr (.inl sp2))))), (a8, .inl (cD, 4, .inr (.inr (.inr (.inl st2)))))]) [0, 1, 2, 3, 4, 5] rfl
        have hD9 := hD.sub (ws' := [(mo, .inr (4, [.int 1, .ref a1, .ref a2, .ref a3, .ref a4, .ref a5, .ref a6, .ref a7, .ref a8, .int (nI np), .ref a10, .ref a11, .int (nI kc), .double kr, .int fd])), (a4, .inl (cI, 4, .inl (cnt ng))), (a5, .inl (cD, 80, .inr (.inr (.inr (.inl (flat 20 B2)))))), (a6, .inl (cD, 80, .inr (.inr (.inr (.inl (flat 20 K2)))))), (a7, .inl (cD, 4, .inr (.inr (.inr (.inl sp2))))), (a8, .inl (cD, 4, .inr (.inr (.inr (.inl st2)))))]) [0, 1, 2, 3, 4, 5] (by decide) rfl
        exact W.iret hx hb hr (fun t9s hht hW9 => ⟨⟨0, (1, (sp2, st2)), rfl, ⟨(by show (1 : Nat) = _; unfold cFit; (repeat' split) <;> omega), fun z => absurd z (by simp), (if_neg (show ¬ (1 : Nat) = 0 by decide)).symm⟩, ⟨by rw [hht]; exact hP9, hD9⟩⟩, hS.F hht⟩) hS.2.2 dX4_fit_71
      · exact absurd c_45 (by decide)

set_option maxHeartbeats 4000000 in
set_option maxRecDepth 100000 in
theorem m_X4_back (l : Launch) (dC : Nat → ClassId) (dI : Nat → Nat → Nat) (sz : Nat) (cI cD : ClassId) (mo a1 a2 a3 a4 a5 a6 a7 a8 a10 a11 : Nat) (cd : Int32) (np kc : Nat) (kr : UInt64) (fd : Int32) (ng : Nat → Nat) (B2 K2 : Nat → Nat → UInt64) (sp2 st2 : Nat → UInt64) (kd : Int32) (j : Nat) (hj : j < 4) (hkj : kOK kd → kd = nI j) (wh : Int32) (sp st : UInt64) (es : sp2 j = sp) (eh : st2 j = st) (hs : dB 1038 sp) (hh : dB 1030 st) (hrd : readsOK (B2 j) (K2 j) (ng j)) : Met l yX4_back wsX4_back ({ frames := 1, cells := 0, slots := 0, locals := 28 } : Room) (va_Pc [.ref mo, .int kd, .int wh] (PW (dC, dI) [(cI, .int), (cD, .double)] [(mo, .inr (4, [.int cd, .ref a1, .ref a2, .ref a3, .ref a4, .ref a5, .ref a6, .ref a7, .ref a8, .int (nI np), .ref a10, .ref a11, .int (nI kc), .double kr, .int fd])), (a4, .inl (cI, 4, .inl (cnt ng))), (a5, .inl (cD, 80, .inr (.inr (.inr (.inl (flat 20 B2)))))), (a6, .inl (cD, 80, .inr (.inr (.inr (.inl (flat 20 K2)))))), (a7, .inl (cD, 4, .inr (.inr (.inr (.inl sp2))))), (a8, .inl (cD, 4, .inr (.inr (.inr (.inl st2)))))] sz)) (va_Qd (fun (r : UInt64) (u : Nat) => u = cBack kd wh ∧ (u = 0 → r = vBack wh sp st (B2 j) (K2 j) (ng j))) (fun (u : Nat) => QW (dC, dI) [(mo, .inr (4, [.int (nI u), .ref a1, .ref a2, .ref a3, .ref a4, .ref a5, .ref a6, .ref a7, .ref a8, .int (nI np), .ref a10, .ref a11, .int (nI kc), .double kr, .int fd])), (a4, .inl (cI, 4, .inl (cnt ng))), (a5, .inl (cD, 80, .inr (.inr (.inr (.inl (flat 20 B2)))))), (a6, .inl (cD, 80, .inr (.inr (.inr (.inl (flat 20 K2)))))), (a7, .inl (cD, 4, .inr (.inr (.inr (.inl sp2))))), (a8, .inl (cD, 4, .inr (.inr (.inr (.inl st2)))))] (va_A [(mo, .inr (4, [.int cd, .ref a1, .ref a2, .ref a3, .ref a4, .ref a5, .ref a6, .ref a7, .ref a8, .int (nI np), .ref a10, .ref a11, .int (nI kc), .double kr, .int fd])), (a4, .inl (cI, 4, .inl (cnt ng))), (a5, .inl (cD, 80, .inr (.inr (.inr (.inl (flat 20 B2)))))), (a6, .inl (cD, 80, .inr (.inr (.inr (.inl (flat 20 K2)))))), (a7, .inl (cD, 4, .inr (.inr (.inr (.inl sp2))))), (a8, .inl (cD, 4, .inr (.inr (.inr (.inl st2)))))] sz)) (va_A [(mo, .inr (4, [.int cd, .ref a1, .ref a2, .ref a3, .ref a4, .ref a5, .ref a6, .ref a7, .ref a8, .int (nI np), .ref a10, .ref a11, .int (nI kc), .double kr, .int fd])), (a4, .inl (cI, 4, .inl (cnt ng))), (a5, .inl (cD, 80, .inr (.inr (.inr (.inl (flat 20 B2)))))), (a6, .inl (cD, 80, .inr (.inr (.inr (.inl (flat 20 K2)))))), (a7, .inl (cD, 4, .inr (.inr (.inr (.inl sp2))))), (a8, .inl (cD, 4, .inr (.inr (.inr (.inl st2)))))] sz)) 0 0 (va_A [(mo, .inr (4, [.int cd, .ref a1, .ref a2, .ref a3, .ref a4, .ref a5, .ref a6, .ref a7, .ref a8, .int (nI np), .ref a10, .ref a11, .int (nI kc), .double kr, .int fd])), (a4, .inl (cI, 4, .inl (cnt ng))), (a5, .inl (cD, 80, .inr (.inr (.inr (.inl (flat 20 B2)))))), (a6, .inl (cD, 80, .inr (.inr (.inr (.inl (flat 20 K2)))))), (a7, .inl (cD, 4, .inr (.inr (.inr (.inl sp2))))), (a8, .inl (cD, 4, .inr (.inr (.inr (.inl st2)))))] sz) := by
  refine Met.ofW (cc := cX4_back) (maxL := 3) (ret := (some .double)) (by decide) rfl ?_
  intro p e s m args below meth c s₁ BB hml hv
  obtain ⟨rfl, hsz, hP, hK, hD0, hN⟩ := hv
  have hx := BB.exec
  have hb := BB.bytes
  have hr := BB.returns
  have hts := atoms_spec (ws := wsX4_back) BB.pre
  have hown : s.vm.findClass RX4 = some m.cls := findClass_of_methodNamed BB.named
  have hlocks := BB.notSynchronized
  subst hsz
  have hD := hD0.self (sz := s.heap.size)
  generalize hAe : va_A [(mo, .inr (4, [.int cd, .ref a1, .ref a2, .ref a3, .ref a4, .ref a5, .ref a6, .ref a7, .ref a8, .int (nI np), .ref a10, .ref a11, .int (nI kc), .double kr, .int fd])), (a4, .inl (cI, 4, .inl (cnt ng))), (a5, .inl (cD, 80, .inr (.inr (.inr (.inl (flat 20 B2)))))), (a6, .inl (cD, 80, .inr (.inr (.inr (.inl (flat 20 K2)))))), (a7, .inl (cD, 4, .inr (.inr (.inr (.inl sp2))))), (a8, .inl (cD, 4, .inr (.inr (.inr (.inl st2)))))] s.heap.size = A at hD ⊢
  have hA : ∀ q : Nat, s.heap.size ≤ q → A q := fun q h => by rw [← hAe]; exact Or.inr h
  have hS : va_S A s.heap s.heap [] := va_S.rf
  have hP : va_P (dC, dI) vwCl [(mo, .inr (4, [.int cd, .ref a1, .ref a2, .ref a3, .ref a4, .ref a5, .ref a6, .ref a7, .ref a8, .int (nI np), .ref a10, .ref a11, .int (nI kc), .double kr, .int fd])), (a4, .inl (cI, 4, .inl (cnt ng))), (a5, .inl (cD, 80, .inr (.inr (.inr (.inl (flat 20 B2)))))), (a6, .inl (cD, 80, .inr (.inr (.inr (.inl (flat 20 K2)))))), (a7, .inl (cD, 4, .inr (.inr (.inr (.inl sp2))))), (a8, .inl (cD, 4, .inr (.inr (.inr (.inl st2)))))] s.heap := hP
  have hl := lv_entry ([.ref mo, .int kd, .int wh]) (n := 3) (Nat.le_of_ble_eq_true rfl)
  rw [lg_entry_eq]
  generalize (lg_sl ([.ref mo, .int kd, .int wh]) ++ List.replicate (3 - (lg_sl ([.ref mo, .int kd, .int wh])).length) Slot.unset).toArray = ls at hl ⊢
  have hl : lv_has ls 3 [(0, .ref mo), (1, .int kd), (2, .int wh)] := hl
  have hn20 := hrd.1
  refine lv_aload_n hx hb dX4_back_0 rfl (lv_at hl 0 rfl) ?_
  refine lv_iload_n hx hb dX4_back_1 rfl (lv_at hl 1 rfl) ?_
  refine va_calli (va_runS (As := [.int kd]) (rest := [.ref mo]) ⟨hx, hb, hml, hown, hts⟩ (m_X4_isKind l kd) (va_cwS 1 hts gX4_back_X4_isKind rfl rfl rfl (by decide +kernel) ⟨(Nat.le_of_ble_eq_true rfl), (Nat.le_of_ble_eq_true rfl)⟩) ⟨fun a U g mk q => q, fun U9 hU9 hW9 => ⟨rfl, trivial⟩⟩ rfl rfl hl.1 rfl (lv_room (Nat.le_of_ble_eq_true rfl)) dX4_back_2 ⟨(Nat.le_of_ble_eq_true rfl), (Nat.le_of_ble_eq_true rfl)⟩) hS (fun q _ h => h.elim) (fun q h => h.elim) (fun r_136 u9s t9s H1 locs hht hvm9 hw_2_k_135 hB hz1 hk1 hS => ?_)
  have hP := va_still hP hk1
  generalize H1 = H at hP hS ⊢
  refine lv_if_eq (tgt := 21) hx hb dX4_back_5 (by decide) (fun c_5 => ?_) (fun c_5 => ?_)
  · have c_5 := (b01 hw_2_k_135).mp c_5
    refine lv_iconst (v := 1) hx hb dX4_back_21 (by decide) ?_
    refine va_put (D := (dC, dI)) (ci := 4) (v := .int 1) (ty := .int) (C := RX4) (T := TX4) (N := 15) hx hb hts (by decide +kernel) tyX4 tyX4_ok nmX4 hown hK hP hD hS 0 rfl rfl 0 (by decide) (hts (.fieldLink RX4 43 "SteamBendsModel" "code" "I") (by decide +kernel)) (fun _ h9 => h9) rfl (by decide +kernel) rfl rfl (Nat.le_of_ble_eq_true rfl) dX4_back_22 (fun H locs hP hD hS => ?_)
    have hP : va_P (dC, dI) vwCl [(mo, .inr (4, [.int 1, .ref a1, .ref a2, .ref a3, .ref a4, .ref a5, .ref a6, .ref a7, .ref a8, .int (nI np), .ref a10, .ref a11, .int (nI kc), .double kr, .int fd])), (a4, .inl (cI, 4, .inl (cnt ng))), (a5, .inl (cD, 80, .inr (.inr (.inr (.inl (flat 20 B2)))))), (a6, .inl (cD, 80, .inr (.inr (.inr (.inl (flat 20 K2)))))), (a7, .inl (cD, 4, .inr (.inr (.inr (.inl sp2))))), (a8, .inl (cD, 4, .inr (.inr (.inr (.inl st2)))))] H := hP
    have hD : va_D A [(mo, .inr (4, [.int 1, .ref a1, .ref a2, .ref a3, .ref a4, .ref a5, .ref a6, .ref a7, .ref a8, .int (nI np), .ref a10, .ref a11, .int (nI kc), .double kr, .int fd])), (a4, .inl (cI, 4, .inl (cnt ng))), (a5, .inl (cD, 80, .inr (.inr (.inr (.inl (flat 20 B2)))))), (a6, .inl (cD, 80, .inr (.inr (.inr (.inl (flat 20 K2)))))), (a7, .inl (cD, 4, .inr (.inr (.inr (.inl sp2))))), (a8, .inl (cD, 4, .inr (.inr (.inr (.inl st2)))))] := hD
    refine lv_aload_n hx hb dX4_back_25 rfl (lv_at hl 0 rfl) ?_
    refine va_get (D := (dC, dI)) (ci := 4) (v := .int 1) (C := RX4) (T := TX4) (N := 15) hx hb hts (by decide +kernel) hown hK hP 0 rfl rfl 0 (by decide) (hts (.fieldLink RX4 43 "SteamBendsModel" "code" "I") (by decide +kernel)) (fun _ h9 => h9) rfl dX4_back_26 ?_
    refine lv_if_le (tgt := 34) hx hb dX4_back_29 (by decide) (fun c_29 => ?_) (fun c_29 => ?_)
    · exact absurd c_29 (by decide)
    · refine lv_dconst0 hx hb dX4_back_32 ?_
      have hP9 := hP.sub (ws' := [(mo, .inr (4, [.int 1, .ref a1, .ref a2, .ref a3, .ref a4, .ref a5, .ref a6, .ref a7, .ref a8, .int (nI np), .ref a10, .ref a11, .int (nI kc), .double kr, .int fd])), (a4, .inl (cI, 4, .inl (cnt ng))), (a5, .inl (cD, 80, .inr (.inr (.inr (.inl (flat 20 B2)))))), (a6, .inl (cD, 80, .inr (.inr (.inr (.inl (flat 20 K2)))))), (a7, .inl (cD, 4, .inr (.inr (.inr (.inl sp2))))), (a8, .inl (cD, 4, .inr (.inr (.inr (.inl st2)))))]) [0, 1, 2, 3, 4, 5] rfl
      have hD9 := hD.sub (ws' := [(mo, .inr (4, [.int 1, .ref a1, .ref a2, .ref a3, .ref a4, .ref a5, .ref a6, .ref a7, .ref a8, .int (nI np), .ref a10, .ref a11, .int (nI kc), .double kr, .int fd])), (a4, .inl (cI, 4, .inl (cnt ng))), (a5, .inl (cD, 80, .inr (.inr (.inr (.inl (flat 20 B2)))))), (a6, .inl (cD, 80, .inr (.inr (.inr (.inl (flat 20 K2)))))), (a7, .inl (cD, 4, .inr (.inr (.inr (.inl sp2))))), (a8, .inl (cD, 4, .inr (.inr (.inr (.inl st2)))))]) [0, 1, 2, 3, 4, 5] (by decide) rfl
      exact W.dret hx hb hr (fun t9s hht hW9 => ⟨⟨FP.dconst0, 1, rfl, ⟨(by show (1 : Nat) = _; unfold cBack; (repeat' split) <;> omega), fun z => absurd z (by simp)⟩, ⟨by rw [hht]; exact hP9, hD9⟩⟩, hS.F hht⟩) hS.2.2 dX4_back_33
  · have c_5 := (b01n hw_2_k_135).mp c_5
    have hkd := hkj c_5
    subst hkd
    have hz9 : (nI j).toInt = (j : Int) := nI_toInt (by omega)
    have hl : lv_has ls 3 [(0, .ref mo), (1, .int (nI j)), (2, .int wh)] := hl
    refine lv_iload_n hx hb dX4_back_8 rfl (lv_at hl 2 rfl) ?_
    refine lv_if_lt (tgt := 21) hx hb dX4_back_9 (by decide) (fun c_9 => ?_) (fun c_9 => ?_)
    · have c_9 := (z_lt (a := wh.toInt) (b := 0) rfl (by decide)).mp c_9
      refine lv_iconst (v := 1) hx hb dX4_back_21 (by decide) ?_
      refine va_put (D := (dC, dI)) (ci := 4) (v := .int 1) (ty := .int) (C := RX4) (T := TX4) (N := 15) hx hb hts (by decide +kernel) tyX4 tyX4_ok nmX4 hown hK hP hD hS 0 rfl rfl 0 (by decide) (hts (.fieldLink RX4 43 "SteamBendsModel" "code" "I") (by decide +kernel)) (fun _ h9 => h9) rfl (by decide +kernel) rfl rfl (Nat.le_of_ble_eq_true rfl) dX4_back_22 (fun H locs hP hD hS => ?_)
      have hP : va_P (dC, dI) vwCl [(mo, .inr (4, [.int 1, .ref a1, .ref a2, .ref a3, .ref a4, .ref a5, .ref a6, .ref a7, .ref a8, .int (nI np), .ref a10, .ref a11, .int (nI kc), .double kr, .int fd])), (a4, .inl (cI, 4, .inl (cnt ng))), (a5, .inl (cD, 80, .inr (.inr (.inr (.inl (flat 20 B2)))))), (a6, .inl (cD, 80, .inr (.inr (.inr (.inl (flat 20 K2)))))), (a7, .inl (cD, 4, .inr (.inr (.inr (.inl sp2))))), (a8, .inl (cD, 4, .inr (.inr (.inr (.inl st2)))))] H := hP
      have hD : va_D A [(mo, .inr (4, [.int 1, .ref a1, .ref a2, .ref a3, .ref a4, .ref a5, .ref a6, .ref a7, .ref a8, .int (nI np), .ref a10, .ref a11, .int (nI kc), .double kr, .int fd])), (a4, .inl (cI, 4, .inl (cnt ng))), (a5, .inl (cD, 80, .inr (.inr (.inr (.inl (flat 20 B2)))))), (a6, .inl (cD, 80, .inr (.inr (.inr (.inl (flat 20 K2)))))), (a7, .inl (cD, 4, .inr (.inr (.inr (.inl sp2))))), (a8, .inl (cD, 4, .inr (.inr (.inr (.inl st2)))))] := hD
      refine lv_aload_n hx hb dX4_back_25 rfl (lv_at hl 0 rfl) ?_
      refine va_get (D := (dC, dI)) (ci := 4) (v := .int 1) (C := RX4) (T := TX4) (N := 15) hx hb hts (by decide +kernel) hown hK hP 0 rfl rfl 0 (by decide) (hts (.fieldLink RX4 43 "SteamBendsModel" "code" "I") (by decide +kernel)) (fun _ h9 => h9) rfl dX4_back_26 ?_
      refine lv_if_le (tgt := 34) hx hb dX4_back_29 (by decide) (fun c_29 => ?_) (fun c_29 => ?_)
      · exact absurd c_29 (by decide)
      · refine lv_dconst0 hx hb dX4_back_32 ?_
        have hP9 := hP.sub (ws' := [(mo, .inr (4, [.int 1, .ref a1, .ref a2, .ref a3, .ref a4, .ref a5, .ref a6, .ref a7, .ref a8, .int (nI np), .ref a10, .ref a11, .int (nI kc), .double kr, .int fd])), (a4, .inl (cI, 4, .inl (cnt ng))), (a5, .inl (cD, 80, .inr (.inr (.inr (.inl (flat 20 B2)))))), (a6, .inl (cD, 80, .inr (.inr (.inr (.inl (flat 20 K2)))))), (a7, .inl (cD, 4, .inr (.inr (.inr (.inl sp2))))), (a8, .inl (cD, 4, .inr (.inr (.inr (.inl st2)))))]) [0, 1, 2, 3, 4, 5] rfl
        have hD9 := hD.sub (ws' := [(mo, .inr (4, [.int 1, .ref a1, .ref a2, .ref a3, .ref a4, .ref a5, .ref a6, .ref a7, .ref a8, .int (nI np), .ref a10, .ref a11, .int (nI kc), .double kr, .int fd])), (a4, .inl (cI, 4, .inl (cnt ng))), (a5, .inl (cD, 80, .inr (.inr (.inr (.inl (flat 20 B2)))))), (a6, .inl (cD, 80, .inr (.inr (.inr (.inl (flat 20 K2)))))), (a7, .inl (cD, 4, .inr (.inr (.inr (.inl sp2))))), (a8, .inl (cD, 4, .inr (.inr (.inr (.inl st2)))))]) [0, 1, 2, 3, 4, 5] (by decide) rfl
        exact W.dret hx hb hr (fun t9s hht hW9 => ⟨⟨FP.dconst0, 1, rfl, ⟨(by show (1 : Nat) = _; unfold cBack; (repeat' split) <;> omega), fun z => absurd z (by simp)⟩, ⟨by rw [hht]; exact hP9, hD9⟩⟩, hS.F hht⟩) hS.2.2 dX4_back_33
    · have c_9 := mt (z_lt (a := wh.toInt) (b := 0) rfl (by decide)).mpr c_9
      refine lv_iload_n hx hb dX4_back_12 rfl (lv_at hl 2 rfl) ?_
      refine lv_iconst (v := 2) hx hb dX4_back_13 (by decide) ?_
      refine lv_icmp_gt (tgt := 21) hx hb dX4_back_14 (by decide) (fun c_14 => ?_) (fun c_14 => ?_)
      · have c_14 := (z_lt (a := 2) (b := wh.toInt) (by decide) rfl).mp c_14
        refine lv_iconst (v := 1) hx hb dX4_back_21 (by decide) ?_
        refine va_put (D := (dC, dI)) (ci := 4) (v := .int 1) (ty := .int) (C := RX4) (T := TX4) (N := 15) hx hb hts (by decide +kernel) tyX4 tyX4_ok nmX4 hown hK hP hD hS 0 rfl rfl 0 (by decide) (hts (.fieldLink RX4 43 "SteamBendsModel" "code" "I") (by decide +kernel)) (fun _ h9 => h9) rfl (by decide +kernel) rfl rfl (Nat.le_of_ble_eq_true rfl) dX4_back_22 (fun H locs hP hD hS => ?_)
        have hP : va_P (dC, dI) vwCl [(mo, .inr (4, [.int 1, .ref a1, .ref a2, .ref a3, .ref a4, .ref a5, .ref a6, .ref a7, .ref a8, .int (nI np), .ref a10, .ref a11, .int (nI kc), .double kr, .int fd])), (a4, .inl (cI, 4, .inl (cnt ng))), (a5, .inl (cD, 80, .inr (.inr (.inr (.inl (flat 20 B2)))))), (a6, .inl (cD, 80, .inr (.inr (.inr (.inl (flat 20 K2)))))), (a7, .inl (cD, 4, .inr (.inr (.inr (.inl sp2))))), (a8, .inl (cD, 4, .inr (.inr (.inr (.inl st2)))))] H := hP
        have hD : va_D A [(mo, .inr (4, [.int 1, .ref a1, .ref a2, .ref a3, .ref a4, .ref a5, .ref a6, .ref a7, .ref a8, .int (nI np), .ref a10, .ref a11, .int (nI kc), .double kr, .int fd])), (a4, .inl (cI, 4, .inl (cnt ng))), (a5, .inl (cD, 80, .inr (.inr (.inr (.inl (flat 20 B2)))))), (a6, .inl (cD, 80, .inr (.inr (.inr (.inl (flat 20 K2)))))), (a7, .inl (cD, 4, .inr (.inr (.inr (.inl sp2))))), (a8, .inl (cD, 4, .inr (.inr (.inr (.inl st2)))))] := hD
        refine lv_aload_n hx hb dX4_back_25 rfl (lv_at hl 0 rfl) ?_
        refine va_get (D := (dC, dI)) (ci := 4) (v := .int 1) (C := RX4) (T := TX4) (N := 15) hx hb hts (by decide +kernel) hown hK hP 0 rfl rfl 0 (by decide) (hts (.fieldLink RX4 43 "SteamBendsModel" "code" "I") (by decide +kernel)) (fun _ h9 => h9) rfl dX4_back_26 ?_
        refine lv_if_le (tgt := 34) hx hb dX4_back_29 (by decide) (fun c_29 => ?_) (fun c_29 => ?_)
        · exact absurd c_29 (by decide)
        · refine lv_dconst0 hx hb dX4_back_32 ?_
          have hP9 := hP.sub (ws' := [(mo, .inr (4, [.int 1, .ref a1, .ref a2, .ref a3, .ref a4, .ref a5, .ref a6, .ref a7, .ref a8, .int (nI np), .ref a10, .ref a11, .int (nI kc), .double kr, .int fd])), (a4, .inl (cI, 4, .inl (cnt ng))), (a5, .inl (cD, 80, .inr (.inr (.inr (.inl (flat 20 B2)))))), (a6, .inl (cD, 80, .inr (.inr (.inr (.inl (flat 20 K2)))))), (a7, .inl (cD, 4, .inr (.inr (.inr (.inl sp2))))), (a8, .inl (cD, 4, .inr (.inr (.inr (.inl st2)))))]) [0, 1, 2, 3, 4, 5] rfl
          have hD9 := hD.sub (ws' := [(mo, .inr (4, [.int 1, .ref a1, .ref a2, .ref a3, .ref a4, .ref a5, .ref a6, .ref a7, .ref a8, .int (nI np), .ref a10, .ref a11, .int (nI kc), .double kr, .int fd])), (a4, .inl (cI, 4, .inl (cnt ng))), (a5, .inl (cD, 80, .inr (.inr (.inr (.inl (flat 20 B2)))))), (a6, .inl (cD, 80, .inr (.inr (.inr (.inl (flat 20 K2)))))), (a7, .inl (cD, 4, .inr (.inr (.inr (.inl sp2))))), (a8, .inl (cD, 4, .inr (.inr (.inr (.inl st2)))))]) [0, 1, 2, 3, 4, 5] (by decide) rfl
          exact W.dret hx hb hr (fun t9s hht hW9 => ⟨⟨FP.dconst0, 1, rfl, ⟨(by show (1 : Nat) = _; unfold cBack; (repeat' split) <;> omega), fun z => absurd z (by simp)⟩, ⟨by rw [hht]; exact hP9, hD9⟩⟩, hS.F hht⟩) hS.2.2 dX4_back_33
      · have c_14 := mt (z_lt (a := 2) (b := wh.toInt) (by decide) rfl).mpr c_14
        refine lv_iconst (v := 0) hx hb dX4_back_17 (by decide) ?_
        refine lv_goto (tgt := 22) hx hb dX4_back_18 (by decide) ?_
        refine va_put (D := (dC, dI)) (ci := 4) (v := .int 0) (ty := .int) (C := RX4) (T := TX4) (N := 15) hx hb hts (by decide +kernel) tyX4 tyX4_ok nmX4 hown hK hP hD hS 0 rfl rfl 0 (by decide) (hts (.fieldLink RX4 43 "SteamBendsModel" "code" "I") (by decide +kernel)) (fun _ h9 => h9) rfl (by decide +kernel) rfl rfl (Nat.le_of_ble_eq_true rfl) dX4_back_22 (fun H locs hP hD hS => ?_)
        have hP : va_P (dC, dI) vwCl [(mo, .inr (4, [.int 0, .ref a1, .ref a2, .ref a3, .ref a4, .ref a5, .ref a6, .ref a7, .ref a8, .int (nI np), .ref a10, .ref a11, .int (nI kc), .double kr, .int fd])), (a4, .inl (cI, 4, .inl (cnt ng))), (a5, .inl (cD, 80, .inr (.inr (.inr (.inl (flat 20 B2)))))), (a6, .inl (cD, 80, .inr (.inr (.inr (.inl (flat 20 K2)))))), (a7, .inl (cD, 4, .inr (.inr (.inr (.inl sp2))))), (a8, .inl (cD, 4, .inr (.inr (.inr (.inl st2)))))] H := hP
        have hD : va_D A [(mo, .inr (4, [.int 0, .ref a1, .ref a2, .ref a3, .ref a4, .ref a5, .ref a6, .ref a7, .ref a8, .int (nI np), .ref a10, .ref a11, .int (nI kc), .double kr, .int fd])), (a4, .inl (cI, 4, .inl (cnt ng))), (a5, .inl (cD, 80, .inr (.inr (.inr (.inl (flat 20 B2)))))), (a6, .inl (cD, 80, .inr (.inr (.inr (.inl (flat 20 K2)))))), (a7, .inl (cD, 4, .inr (.inr (.inr (.inl sp2))))), (a8, .inl (cD, 4, .inr (.inr (.inr (.inl st2)))))] := hD
        refine lv_aload_n hx hb dX4_back_25 rfl (lv_at hl 0 rfl) ?_
        refine va_get (D := (dC, dI)) (ci := 4) (v := .int 0) (C := RX4) (T := TX4) (N := 15) hx hb hts (by decide +kernel) hown hK hP 0 rfl rfl 0 (by decide) (hts (.fieldLink RX4 43 "SteamBendsModel" "code" "I") (by decide +kernel)) (fun _ h9 => h9) rfl dX4_back_26 ?_
        refine lv_if_le (tgt := 34) hx hb dX4_back_29 (by decide) (fun c_29 => ?_) (fun c_29 => ?_)
        · refine lv_iload_n hx hb dX4_back_34 rfl (lv_at hl 2 rfl) ?_
          refine lv_if_ne (tgt := 47) hx hb dX4_back_35 (by decide) (fun c_35 => ?_) (fun c_35 => ?_)
          · have c_35 := mt (z_eq (a := wh.toInt) (b := 0) rfl (by decide)).mpr c_35
            refine lv_iload_n hx hb dX4_back_47 rfl (lv_at hl 2 rfl) ?_
            refine lv_iconst (v := 1) hx hb dX4_back_48 (by decide) ?_
            refine lv_icmp_ne (tgt := 61) hx hb dX4_back_49 (by decide) (fun c_49 => ?_) (fun c_49 => ?_)
            · have c_49 := mt (z_eq (a := wh.toInt) (b := 1) rfl (by decide)).mpr c_49
              refine lv_aload_n hx hb dX4_back_61 rfl (lv_at hl 0 rfl) ?_
              refine lv_iload_n hx hb dX4_back_62 rfl (lv_at hl 1 rfl) ?_
              refine lv_aload_n hx hb dX4_back_63 rfl (lv_at hl 0 rfl) ?_
              refine va_get (D := (dC, dI)) (ci := 4) (v := .ref a7) (C := RX4) (T := TX4) (N := 15) hx hb hts (by decide +kernel) hown hK hP 0 rfl rfl 7 (by decide) (hts (.fieldLink RX4 29 "SteamBendsModel" "springs" "[D") (by decide +kernel)) (fun _ h9 => h9) rfl dX4_back_64 ?_
              refine lv_iload_n hx hb dX4_back_67 rfl (lv_at hl 1 rfl) ?_
              refine va_daldV hx hb hK hP 4 1 rfl rfl (j := j) (v := sp) es (by omega) (by omega) dX4_back_68 ?_
              have hPc := hP.sub (ws' := [(mo, .inr (4, [.int 0, .ref a1, .ref a2, .ref a3, .ref a4, .ref a5, .ref a6, .ref a7, .ref a8, .int (nI np), .ref a10, .ref a11, .int (nI kc), .double kr, .int fd])), (a4, .inl (cI, 4, .inl (cnt ng))), (a5, .inl (cD, 80, .inr (.inr (.inr (.inl (flat 20 B2)))))), (a6, .inl (cD, 80, .inr (.inr (.inr (.inl (flat 20 K2))))))]) [0, 1, 2, 3] rfl
              have hKc := hK.sub (tys' := [(cI, .int), (cD, .double)]) [0, 1] rfl
              refine va_calld (va_runV (As := [.int (nI j), .double sp]) (rest := []) ⟨hx, hb, hml, hown, hts⟩ (m_X4_residue l dC dI cI cD mo a1 a2 a3 a4 a5 a6 a7 a8 a10 a11 0 np kc kr fd ng B2 K2 j hj sp (hs.mono (by omega) : dB 1040 _) hrd) (cwV 2 hts gX4_back_X4_residue rfl rfl rfl (by decide +kernel) ⟨(Nat.le_of_ble_eq_true rfl), (Nat.le_of_ble_eq_true rfl)⟩) ⟨PK.blind, va_recv hKc hPc (ci := 4) (q0 := 0) rfl rfl, fun U9 hU9 hW9 => ⟨rfl, PK.at hPc hKc hN hU9 hW9⟩⟩ rfl rfl hl.1 rfl (lv_room (Nat.le_of_ble_eq_true rfl)) dX4_back_69 ⟨(Nat.le_of_ble_eq_true rfl), (Nat.le_of_ble_eq_true rfl)⟩) hS (fun q _ h => h.elim) (fun q h => h.elim) (fun r_138 u9s t9s H1 locs hht hvm9 hw_69_k_137 hB hz1 hk1 hS => ?_)
              have hP := va_still hP hk1
              generalize H1 = H at hP hS ⊢
              subst hw_69_k_137
              have hP9 := hP.sub (ws' := [(mo, .inr (4, [.int 0, .ref a1, .ref a2, .ref a3, .ref a4, .ref a5, .ref a6, .ref a7, .ref a8, .int (nI np), .ref a10, .ref a11, .int (nI kc), .double kr, .int fd])), (a4, .inl (cI, 4, .inl (cnt ng))), (a5, .inl (cD, 80, .inr (.inr (.inr (.inl (flat 20 B2)))))), (a6, .inl (cD, 80, .inr (.inr (.inr (.inl (flat 20 K2)))))), (a7, .inl (cD, 4, .inr (.inr (.inr (.inl sp2))))), (a8, .inl (cD, 4, .inr (.inr (.inr (.inl st2)))))]) [0, 1, 2, 3, 4, 5] rfl
              have hD9 := hD.sub (ws' := [(mo, .inr (4, [.int 0, .ref a1, .ref a2, .ref a3, .ref a4, .ref a5, .ref a6, .ref a7, .ref a8, .int (nI np), .ref a10, .ref a11, .int (nI kc), .double kr, .int fd])), (a4, .inl (cI, 4, .inl (cnt ng))), (a5, .inl (cD, 80, .inr (.inr (.inr (.inl (flat 20 B2)))))), (a6, .inl (cD, 80, .inr (.inr (.inr (.inl (flat 20 K2)))))), (a7, .inl (cD, 4, .inr (.inr (.inr (.inl sp2))))), (a8, .inl (cD, 4, .inr (.inr (.inr (.inl st2)))))]) [0, 1, 2, 3, 4, 5] (by decide) rfl
              exact W.dret hx hb hr (fun t9s hht hW9 => ⟨⟨rsd (B2 j) (K2 j) sp (ng j), 0, rfl, ⟨(by show (0 : Nat) = _; unfold cBack; (repeat' split) <;> omega), fun _ => (by unfold vBack; rw [if_neg (by omega), if_neg (by omega)])⟩, ⟨by rw [hht]; exact hP9, hD9⟩⟩, hS.F hht⟩) hS.2.2 dX4_back_72
            · have c_49 := (z_eq (a := wh.toInt) (b := 1) rfl (by decide)).mp c_49
              refine lv_aload_n hx hb dX4_back_52 rfl (lv_at hl 0 rfl) ?_
              refine va_get (D := (dC, dI)) (ci := 4) (v := .ref a8) (C := RX4) (T := TX4) (N := 15) hx hb hts (by decide +kernel) hown hK hP 0 rfl rfl 8 (by decide) (hts (.fieldLink RX4 32 "SteamBendsModel" "steps" "[D") (by decide +kernel)) (fun _ h9 => h9) rfl dX4_back_53 ?_
              refine lv_iload_n hx hb dX4_back_56 rfl (lv_at hl 1 rfl) ?_
              refine va_daldV hx hb hK hP 5 1 rfl rfl (j := j) (v := st) eh (by omega) (by omega) dX4_back_57 ?_
              refine lv_goto (tgt := 72) hx hb dX4_back_58 (by decide) ?_
              have hP9 := hP.sub (ws' := [(mo, .inr (4, [.int 0, .ref a1, .ref a2, .ref a3, .ref a4, .ref a5, .ref a6, .ref a7, .ref a8, .int (nI np), .ref a10, .ref a11, .int (nI kc), .double kr, .int fd])), (a4, .inl (cI, 4, .inl (cnt ng))), (a5, .inl (cD, 80, .inr (.inr (.inr (.inl (flat 20 B2)))))), (a6, .inl (cD, 80, .inr (.inr (.inr (.inl (flat 20 K2)))))), (a7, .inl (cD, 4, .inr (.inr (.inr (.inl sp2))))), (a8, .inl (cD, 4, .inr (.inr (.inr (.inl st2)))))]) [0, 1, 2, 3, 4, 5] rfl
              have hD9 := hD.sub (ws' := [(mo, .inr (4, [.int 0, .ref a1, .ref a2, .ref a3, .ref a4, .ref a5, .ref a6, .ref a7, .ref a8, .int (nI np), .ref a10, .ref a11, .int (nI kc), .double kr, .int fd])), (a4, .inl (cI, 4, .inl (cnt ng))), (a5, .inl (cD, 80, .inr (.inr (.inr (.inl (flat 20 B2)))))), (a6, .inl (cD, 80, .inr (.inr (.inr (.inl (flat 20 K2)))))), (a7, .inl (cD, 4, .inr (.inr (.inr (.inl sp2))))), (a8, .inl (cD, 4, .inr (.inr (.inr (.inl st2)))))]) [0, 1, 2, 3, 4, 5] (by decide) rfl
              exact W.dret hx hb hr (fun t9s hht hW9 => ⟨⟨st, 0, rfl, ⟨(by show (0 : Nat) = _; unfold cBack; (repeat' split) <;> omega), fun _ => (by unfold vBack; rw [if_neg (by omega), if_pos (by omega)])⟩, ⟨by rw [hht]; exact hP9, hD9⟩⟩, hS.F hht⟩) hS.2.2 dX4_back_72
          · have c_35 := (z_eq (a := wh.toInt) (b := 0) rfl (by decide)).mp c_35
            refine lv_aload_n hx hb dX4_back_38 rfl (lv_at hl 0 rfl) ?_
            refine va_get (D := (dC, dI)) (ci := 4) (v := .ref a7) (C := RX4) (T := TX4) (N := 15) hx hb hts (by decide +kernel) hown hK hP 0 rfl rfl 7 (by decide) (hts (.fieldLink RX4 29 "SteamBendsModel" "springs" "[D") (by decide +kernel)) (fun _ h9 => h9) rfl dX4_back_39 ?_
            refine lv_iload_n hx hb dX4_back_42 rfl (lv_at hl 1 rfl) ?_
            refine va_daldV hx hb hK hP 4 1 rfl rfl (j := j) (v := sp) es (by omega) (by omega) dX4_back_43 ?_
            refine lv_goto (tgt := 72) hx hb dX4_back_44 (by decide) ?_
            have hP9 := hP.sub (ws' := [(mo, .inr (4, [.int 0, .ref a1, .ref a2, .ref a3, .ref a4, .ref a5, .ref a6, .ref a7, .ref a8, .int (nI np), .ref a10, .ref a11, .int (nI kc), .double kr, .int fd])), (a4, .inl (cI, 4, .inl (cnt ng))), (a5, .inl (cD, 80, .inr (.inr (.inr (.inl (flat 20 B2)))))), (a6, .inl (cD, 80, .inr (.inr (.inr (.inl (flat 20 K2)))))), (a7, .inl (cD, 4, .inr (.inr (.inr (.inl sp2))))), (a8, .inl (cD, 4, .inr (.inr (.inr (.inl st2)))))]) [0, 1, 2, 3, 4, 5] rfl
            have hD9 := hD.sub (ws' := [(mo, .inr (4, [.int 0, .ref a1, .ref a2, .ref a3, .ref a4, .ref a5, .ref a6, .ref a7, .ref a8, .int (nI np), .ref a10, .ref a11, .int (nI kc), .double kr, .int fd])), (a4, .inl (cI, 4, .inl (cnt ng))), (a5, .inl (cD, 80, .inr (.inr (.inr (.inl (flat 20 B2)))))), (a6, .inl (cD, 80, .inr (.inr (.inr (.inl (flat 20 K2)))))), (a7, .inl (cD, 4, .inr (.inr (.inr (.inl sp2))))), (a8, .inl (cD, 4, .inr (.inr (.inr (.inl st2)))))]) [0, 1, 2, 3, 4, 5] (by decide) rfl
            exact W.dret hx hb hr (fun t9s hht hW9 => ⟨⟨sp, 0, rfl, ⟨(by show (0 : Nat) = _; unfold cBack; (repeat' split) <;> omega), fun _ => (by unfold vBack; rw [if_pos (by omega)])⟩, ⟨by rw [hht]; exact hP9, hD9⟩⟩, hS.F hht⟩) hS.2.2 dX4_back_72
        · exact absurd c_29 (by decide)

set_option maxHeartbeats 4000000 in
set_option maxRecDepth 100000 in
theorem m_X4_form (l : Launch) (dC : Nat → ClassId) (dI : Nat → Nat → Nat) (sz : Nat) (cI cD : ClassId) (mo a1 a2 a3 a4 a5 a6 a7 a8 a10 a11 : Nat) (cd : Int32) (np kc : Nat) (kr : UInt64) (fd : Int32) (sp2 st2 : Nat → UInt64) (kd : Int32) (j : Nat) (hj : j < 4) (hkj : kOK kd → kd = nI j) (w : UInt64) (hw : dB 1060 w) (sp st : UInt64) (es : sp2 j = sp) (eh : st2 j = st) (hs : dB 1038 sp) (hh : dB 1030 st) : Met l yX4_form wsX4_form ({ frames := 1, cells := 0, slots := 0, locals := 25 } : Room) (va_Pc [.ref mo, .int kd, .double w] (PW (dC, dI) [(cD, .double)] [(mo, .inr (4, [.int cd, .ref a1, .ref a2, .ref a3, .ref a4, .ref a5, .ref a6, .ref a7, .ref a8, .int (nI np), .ref a10, .ref a11, .int (nI kc), .double kr, .int fd])), (a7, .inl (cD, 4, .inr (.inr (.inr (.inl sp2))))), (a8, .inl (cD, 4, .inr (.inr (.inr (.inl st2)))))] sz)) (va_Qd (fun (r : UInt64) (u : Nat) => u = cFrm kd w ∧ (u = 0 → r = (frm sp w 40).2)) (fun (u : Nat) => QW (dC, dI) [(mo, .inr (4, [.int (nI u), .ref a1, .ref a2, .ref a3, .ref a4, .ref a5, .ref a6, .ref a7, .ref a8, .int (nI np), .ref a10, .ref a11, .int (nI kc), .double kr, .int fd])), (a7, .inl (cD, 4, .inr (.inr (.inr (.inl sp2))))), (a8, .inl (cD, 4, .inr (.inr (.inr (.inl st2)))))] (va_A [(mo, .inr (4, [.int cd, .ref a1, .ref a2, .ref a3, .ref a4, .ref a5, .ref a6, .ref a7, .ref a8, .int (nI np), .ref a10, .ref a11, .int (nI kc), .double kr, .int fd])), (a7, .inl (cD, 4, .inr (.inr (.inr (.inl sp2))))), (a8, .inl (cD, 4, .inr (.inr (.inr (.inl st2)))))] sz)) (va_A [(mo, .inr (4, [.int cd, .ref a1, .ref a2, .ref a3, .ref a4, .ref a5, .ref a6, .ref a7, .ref a8, .int (nI np), .ref a10, .ref a11, .int (nI kc), .double kr, .int fd])), (a7, .inl (cD, 4, .inr (.inr (.inr (.inl sp2))))), (a8, .inl (cD, 4, .inr (.inr (.inr (.inl st2)))))] sz)) 0 0 (va_A [(mo, .inr (4, [.int cd, .ref a1, .ref a2, .ref a3, .ref a4, .ref a5, .ref a6, .ref a7, .ref a8, .int (nI np), .ref a10, .ref a11, .int (nI kc), .double kr, .int fd])), (a7, .inl (cD, 4, .inr (.inr (.inr (.inl sp2))))), (a8, .inl (cD, 4, .inr (.inr (.inr (.inl st2)))))] sz) := by
  refine Met.ofW (cc := cX4_form) (maxL := 12) (ret := (some .double)) (by decide) rfl ?_
  intro p e s m args below meth c s₁ BB hml hv
  obtain ⟨rfl, hsz, hP, hK, hD0, hN⟩ := hv
  have hx := BB.exec
  have hb := BB.bytes
  have hr := BB.returns
  have hts := atoms_spec (ws := wsX4_form) BB.pre
  have hown : s.vm.findClass RX4 = some m.cls := findClass_of_methodNamed BB.named
  have hlocks := BB.notSynchronized
  subst hsz
  have hD := hD0.self (sz := s.heap.size)
  generalize hAe : va_A [(mo, .inr (4, [.int cd, .ref a1, .ref a2, .ref a3, .ref a4, .ref a5, .ref a6, .ref a7, .ref a8, .int (nI np), .ref a10, .ref a11, .int (nI kc), .double kr, .int fd])), (a7, .inl (cD, 4, .inr (.inr (.inr (.inl sp2))))), (a8, .inl (cD, 4, .inr (.inr (.inr (.inl st2)))))] s.heap.size = A at hD ⊢
  have hA : ∀ q : Nat, s.heap.size ≤ q → A q := fun q h => by rw [← hAe]; exact Or.inr h
  have hS : va_S A s.heap s.heap [] := va_S.rf
  have hP : va_P (dC, dI) vwCl [(mo, .inr (4, [.int cd, .ref a1, .ref a2, .ref a3, .ref a4, .ref a5, .ref a6, .ref a7, .ref a8, .int (nI np), .ref a10, .ref a11, .int (nI kc), .double kr, .int fd])), (a7, .inl (cD, 4, .inr (.inr (.inr (.inl sp2))))), (a8, .inl (cD, 4, .inr (.inr (.inr (.inl st2)))))] s.heap := hP
  have hl := lv_entry ([.ref mo, .int kd, .double w]) (n := 12) (Nat.le_of_ble_eq_true rfl)
  rw [lg_entry_eq]
  generalize (lg_sl ([.ref mo, .int kd, .double w]) ++ List.replicate (12 - (lg_sl ([.ref mo, .int kd, .double w])).length) Slot.unset).toArray = ls at hl ⊢
  have hl : lv_has ls 12 [(0, .ref mo), (1, .int kd), (2, .double w)] := hl
  refine lv_aload_n hx hb dX4_form_0 rfl (lv_at hl 0 rfl) ?_
  refine lv_iload_n hx hb dX4_form_1 rfl (lv_at hl 1 rfl) ?_
  refine va_calli (va_runS (As := [.int kd]) (rest := [.ref mo]) ⟨hx, hb, hml, hown, hts⟩ (m_X4_isKind l kd) (va_cwS 1 hts gX4_form_X4_isKind rfl rfl rfl (by decide +kernel) ⟨(Nat.le_of_ble_eq_true rfl), (Nat.le_of_ble_eq_true rfl)⟩) ⟨fun a U g mk q => q, fun U9 hU9 hW9 => ⟨rfl, trivial⟩⟩ rfl rfl hl.1 rfl (lv_room (Nat.le_of_ble_eq_true rfl)) dX4_form_2 ⟨(Nat.le_of_ble_eq_true rfl), (Nat.le_of_ble_eq_true rfl)⟩) hS (fun q _ h => h.elim) (fun q h => h.elim) (fun r_140 u9s t9s H1 locs hht hvm9 hw_2_k_139 hB hz1 hk1 hS => ?_)
  have hP := va_still hP hk1
  generalize H1 = H at hP hS ⊢
  refine lv_if_ne (tgt := 12) hx hb dX4_form_5 (by decide) (fun c_5 => ?_) (fun c_5 => ?_)
  · have c_5 := (b01n hw_2_k_139).mp c_5
    have hkd := hkj c_5
    subst hkd
    have hz9 : (nI j).toInt = (j : Int) := nI_toInt (by omega)
    have hl : lv_has ls 12 [(0, .ref mo), (1, .int (nI j)), (2, .double w)] := hl
    refine lv_dload_n hx hb dX4_form_12 rfl (lv_at hl 2 rfl) ?_
    refine lv_ldc2d (v := 4593671619917905920) hx hb hown (hts (.constantDouble RX4 51 (4593671619917905920)) (by decide +kernel)) dX4_form_13 ?_
    refine lv_ldc2d (v := 4681608360884174848) hx hb hown (hts (.constantDouble RX4 69 (4681608360884174848)) (by decide +kernel)) dX4_form_16 ?_
    refine va_calli (va_runS (As := [.double w, .double 4593671619917905920, .double 4681608360884174848]) (rest := [.ref mo]) ⟨hx, hb, hml, hown, hts⟩ (m_X4_isIn l w 4593671619917905920 4681608360884174848 (hw.nn (by omega)) ((by unfold dB; decide +kernel : dB 1021 4593671619917905920).nn (by omega)) ((by unfold dB; decide +kernel : dB 1040 4681608360884174848).nn (by omega))) (va_cwS 3 hts gX4_form_X4_isIn rfl rfl rfl (by decide +kernel) ⟨(Nat.le_of_ble_eq_true rfl), (Nat.le_of_ble_eq_true rfl)⟩) ⟨fun a U g mk q => q, fun U9 hU9 hW9 => ⟨rfl, trivial⟩⟩ rfl rfl hl.1 rfl (lv_room (Nat.le_of_ble_eq_true rfl)) dX4_form_19 ⟨(Nat.le_of_ble_eq_true rfl), (Nat.le_of_ble_eq_true rfl)⟩) hS (fun q _ h => h.elim) (fun q h => h.elim) (fun r_142 u9s t9s H1 locs hht hvm9 hw_19_k_141 hB hz1 hk1 hS => ?_)
    have hP := va_still hP hk1
    generalize H1 = H at hP hS ⊢
    refine lv_if_eq (tgt := 29) hx hb dX4_form_22 (by decide) (fun c_22 => ?_) (fun c_22 => ?_)
    · have c_22 := (b01 hw_19_k_141).mp c_22
      refine lv_iconst (v := 2) hx hb dX4_form_29 (by decide) ?_
      refine va_put (D := (dC, dI)) (ci := 4) (v := .int 2) (ty := .int) (C := RX4) (T := TX4) (N := 15) hx hb hts (by decide +kernel) tyX4 tyX4_ok nmX4 hown hK hP hD hS 0 rfl rfl 0 (by decide) (hts (.fieldLink RX4 43 "SteamBendsModel" "code" "I") (by decide +kernel)) (fun _ h9 => h9) rfl (by decide +kernel) rfl rfl (Nat.le_of_ble_eq_true rfl) dX4_form_30 (fun H locs hP hD hS => ?_)
      have hP : va_P (dC, dI) vwCl [(mo, .inr (4, [.int 2, .ref a1, .ref a2, .ref a3, .ref a4, .ref a5, .ref a6, .ref a7, .ref a8, .int (nI np), .ref a10, .ref a11, .int (nI kc), .double kr, .int fd])), (a7, .inl (cD, 4, .inr (.inr (.inr (.inl sp2))))), (a8, .inl (cD, 4, .inr (.inr (.inr (.inl st2)))))] H := hP
      have hD : va_D A [(mo, .inr (4, [.int 2, .ref a1, .ref a2, .ref a3, .ref a4, .ref a5, .ref a6, .ref a7, .ref a8, .int (nI np), .ref a10, .ref a11, .int (nI kc), .double kr, .int fd])), (a7, .inl (cD, 4, .inr (.inr (.inr (.inl sp2))))), (a8, .inl (cD, 4, .inr (.inr (.inr (.inl st2)))))] := hD
      refine lv_aload_n hx hb dX4_form_33 rfl (lv_at hl 0 rfl) ?_
      refine va_get (D := (dC, dI)) (ci := 4) (v := .int 2) (C := RX4) (T := TX4) (N := 15) hx hb hts (by decide +kernel) hown hK hP 0 rfl rfl 0 (by decide) (hts (.fieldLink RX4 43 "SteamBendsModel" "code" "I") (by decide +kernel)) (fun _ h9 => h9) rfl dX4_form_34 ?_
      refine lv_if_le (tgt := 42) hx hb dX4_form_37 (by decide) (fun c_37 => ?_) (fun c_37 => ?_)
      · exact absurd c_37 (by decide)
      · refine lv_dconst0 hx hb dX4_form_40 ?_
        have hP9 := hP.sub (ws' := [(mo, .inr (4, [.int 2, .ref a1, .ref a2, .ref a3, .ref a4, .ref a5, .ref a6, .ref a7, .ref a8, .int (nI np), .ref a10, .ref a11, .int (nI kc), .double kr, .int fd])), (a7, .inl (cD, 4, .inr (.inr (.inr (.inl sp2))))), (a8, .inl (cD, 4, .inr (.inr (.inr (.inl st2)))))]) [0, 1, 2] rfl
        have hD9 := hD.sub (ws' := [(mo, .inr (4, [.int 2, .ref a1, .ref a2, .ref a3, .ref a4, .ref a5, .ref a6, .ref a7, .ref a8, .int (nI np), .ref a10, .ref a11, .int (nI kc), .double kr, .int fd])), (a7, .inl (cD, 4, .inr (.inr (.inr (.inl sp2))))), (a8, .inl (cD, 4, .inr (.inr (.inr (.inl st2)))))]) [0, 1, 2] (by decide) rfl
        exact W.dret hx hb hr (fun t9s hht hW9 => ⟨⟨FP.dconst0, 2, rfl, ⟨(by show (2 : Nat) = _; unfold cFrm; (repeat' split) <;> omega), fun z => absurd z (by simp)⟩, ⟨by rw [hht]; exact hP9, hD9⟩⟩, hS.F hht⟩) hS.2.2 dX4_form_41
    · have c_22 := (b01n hw_19_k_141).mp c_22
      refine lv_iconst (v := 0) hx hb dX4_form_25 (by decide) ?_
      refine lv_goto (tgt := 30) hx hb dX4_form_26 (by decide) ?_
      refine va_put (D := (dC, dI)) (ci := 4) (v := .int 0) (ty := .int) (C := RX4) (T := TX4) (N := 15) hx hb hts (by decide +kernel) tyX4 tyX4_ok nmX4 hown hK hP hD hS 0 rfl rfl 0 (by decide) (hts (.fieldLink RX4 43 "SteamBendsModel" "code" "I") (by decide +kernel)) (fun _ h9 => h9) rfl (by decide +kernel) rfl rfl (Nat.le_of_ble_eq_true rfl) dX4_form_30 (fun H locs hP hD hS => ?_)
      have hP : va_P (dC, dI) vwCl [(mo, .inr (4, [.int 0, .ref a1, .ref a2, .ref a3, .ref a4, .ref a5, .ref a6, .ref a7, .ref a8, .int (nI np), .ref a10, .ref a11, .int (nI kc), .double kr, .int fd])), (a7, .inl (cD, 4, .inr (.inr (.inr (.inl sp2))))), (a8, .inl (cD, 4, .inr (.inr (.inr (.inl st2)))))] H := hP
      have hD : va_D A [(mo, .inr (4, [.int 0, .ref a1, .ref a2, .ref a3, .ref a4, .ref a5, .ref a6, .ref a7, .ref a8, .int (nI np), .ref a10, .ref a11, .int (nI kc), .double kr, .int fd])), (a7, .inl (cD, 4, .inr (.inr (.inr (.inl sp2))))), (a8, .inl (cD, 4, .inr (.inr (.inr (.inl st2)))))] := hD
      refine lv_aload_n hx hb dX4_form_33 rfl (lv_at hl 0 rfl) ?_
      refine va_get (D := (dC, dI)) (ci := 4) (v := .int 0) (C := RX4) (T := TX4) (N := 15) hx hb hts (by decide +kernel) hown hK hP 0 rfl rfl 0 (by decide) (hts (.fieldLink RX4 43 "SteamBendsModel" "code" "I") (by decide +kernel)) (fun _ h9 => h9) rfl dX4_form_34 ?_
      refine lv_if_le (tgt := 42) hx hb dX4_form_37 (by decide) (fun c_37 => ?_) (fun c_37 => ?_)
      · refine lv_dconst0 hx hb dX4_form_42 ?_
        refine lv_dstore (lv' := [(4, .double FP.dconst0), (0, .ref mo), (1, .int (nI j)), (2, .double w)]) hx hb dX4_form_43 hl (by decide) rfl (fun ls hl => ?_)
        refine lv_dload_n hx hb dX4_form_45 rfl (lv_at hl 3 rfl) ?_
        refine lv_dstore (lv' := [(6, .double w), (4, .double FP.dconst0), (0, .ref mo), (1, .int (nI j)), (2, .double w)]) hx hb dX4_form_46 hl (by decide) rfl (fun ls hl => ?_)
        refine lv_iconst (v := 0) hx hb dX4_form_48 (by decide) ?_
        refine lv_istore (lv' := [(8, .int 0), (6, .double w), (4, .double FP.dconst0), (0, .ref mo), (1, .int (nI j)), (2, .double w)]) hx hb dX4_form_49 hl (by decide) rfl (fun ls hl => ?_)
        refine w_loop (σ := Nat) (fun n9 x9 H locs ls => lv_has ls 12 [(8, .int (nI x9)), (6, .double ((frm sp w x9).2)), (4, .double ((frm sp w x9).1)), (0, .ref mo), (1, .int (nI j)), (2, .double w)] ∧ va_P (dC, dI) vwCl [(mo, .inr (4, [.int 0, .ref a1, .ref a2, .ref a3, .ref a4, .ref a5, .ref a6, .ref a7, .ref a8, .int (nI np), .ref a10, .ref a11, .int (nI kc), .double kr, .int fd])), (a7, .inl (cD, 4, .inr (.inr (.inr (.inl sp2))))), (a8, .inl (cD, 4, .inr (.inr (.inr (.inl st2)))))] H ∧ va_D A [(mo, .inr (4, [.int 0, .ref a1, .ref a2, .ref a3, .ref a4, .ref a5, .ref a6, .ref a7, .ref a8, .int (nI np), .ref a10, .ref a11, .int (nI kc), .double kr, .int fd])), (a7, .inl (cD, 4, .inr (.inr (.inr (.inl sp2))))), (a8, .inl (cD, 4, .inr (.inr (.inr (.inl st2)))))] ∧ va_S A s.heap H locs ∧ x9 + n9 = 40) (n0 := 40) (x0 := 0) ⟨lv_sub hl [0, 1, 2, 3, 4, 5] rfl, hP, hD, hS, (show 0 + 40 = 40 from by omega)⟩ ?_
        rintro n9 i9 H locs ls ⟨hl, hP, hD, hS, hi⟩ ih
        have hl : lv_has ls 12 [(8, .int (nI i9)), (6, .double ((frm sp w i9).2)), (4, .double ((frm sp w i9).1)), (0, .ref mo), (1, .int (nI j)), (2, .double w)] := hl
        have hP : va_P (dC, dI) vwCl [(mo, .inr (4, [.int 0, .ref a1, .ref a2, .ref a3, .ref a4, .ref a5, .ref a6, .ref a7, .ref a8, .int (nI np), .ref a10, .ref a11, .int (nI kc), .double kr, .int fd])), (a7, .inl (cD, 4, .inr (.inr (.inr (.inl sp2))))), (a8, .inl (cD, 4, .inr (.inr (.inr (.inl st2)))))] H := hP
        have hD : va_D A [(mo, .inr (4, [.int 0, .ref a1, .ref a2, .ref a3, .ref a4, .ref a5, .ref a6, .ref a7, .ref a8, .int (nI np), .ref a10, .ref a11, .int (nI kc), .double kr, .int fd])), (a7, .inl (cD, 4, .inr (.inr (.inr (.inl sp2))))), (a8, .inl (cD, 4, .inr (.inr (.inr (.inl st2)))))] := hD
        have hi : i9 + n9 = 40 := hi
        refine lv_iload hx hb dX4_form_51 (lv_at hl 0 rfl) ?_
        refine lv_bipush (v := 40) hx hb dX4_form_53 (by decide) ?_
        refine lv_icmp_ge (tgt := 126) hx hb dX4_form_55 (by decide) (fun c_55 => ?_) (fun c_55 => ?_)
        · have c_55 := (nI_leI (a := 40) (b := i9) (by omega) (by omega)).mp c_55
          refine lv_dload hx hb dX4_form_126 (lv_at hl 1 rfl) ?_
          have hP9 := hP.sub (ws' := [(mo, .inr (4, [.int 0, .ref a1, .ref a2, .ref a3, .ref a4, .ref a5, .ref a6, .ref a7, .ref a8, .int (nI np), .ref a10, .ref a11, .int (nI kc), .double kr, .int fd])), (a7, .inl (cD, 4, .inr (.inr (.inr (.inl sp2))))), (a8, .inl (cD, 4, .inr (.inr (.inr (.inl st2)))))]) [0, 1, 2] rfl
          have hD9 := hD.sub (ws' := [(mo, .inr (4, [.int 0, .ref a1, .ref a2, .ref a3, .ref a4, .ref a5, .ref a6, .ref a7, .ref a8, .int (nI np), .ref a10, .ref a11, .int (nI kc), .double kr, .int fd])), (a7, .inl (cD, 4, .inr (.inr (.inr (.inl sp2))))), (a8, .inl (cD, 4, .inr (.inr (.inr (.inl st2)))))]) [0, 1, 2] (by decide) rfl
          exact W.dret hx hb hr (fun t9s hht hW9 => ⟨⟨(frm sp w i9).2, 0, rfl, ⟨(by show (0 : Nat) = _; unfold cFrm; (repeat' split) <;> omega), fun _ => (by rw [show i9 = 40 by omega])⟩, ⟨by rw [hht]; exact hP9, hD9⟩⟩, hS.F hht⟩) hS.2.2 dX4_form_128
        · have c_55 := mt (nI_leI (a := 40) (b := i9) (by omega) (by omega)).mpr c_55
          refine lv_dload hx hb dX4_form_58 (lv_at hl 2 rfl) ?_
          refine lv_dload hx hb dX4_form_60 (lv_at hl 1 rfl) ?_
          have b_143 : dB (1060 + 2 * i9 + 2) (FP.dadd ((frm sp w i9).1) ((frm sp w i9).2)) := dB.add ((frm_dB (s := sp) hw i9 (by omega)).1) ((frm_dB (s := sp) hw i9 (by omega)).2) (M := 1060 + 2 * i9) (by omega) (by omega) (by omega)
          refine lv_dadd hx hb dX4_form_62 (b_143.ok (by omega)) ?_
          refine lv_ldc2d (v := 4611686018427387904) hx hb hown (hts (.constantDouble RX4 74 (4611686018427387904)) (by decide +kernel)) dX4_form_63 ?_
          have b_144 : dB (1060 + 2 * i9 + 2 + 0) (FP.ddiv (FP.dadd ((frm sp w i9).1) ((frm sp w i9).2)) 4611686018427387904) := dB.div b_143 (by unfold dL; decide +kernel : dL 1024 4611686018427387904) (by unfold dB; decide +kernel : dB 1025 4611686018427387904) (by omega) (by omega) (by omega) (by omega)
          refine lv_ddiv hx hb dX4_form_66 (b_144.ok (by omega)) ?_
          refine lv_dstore (lv' := [(9, .double (FP.ddiv (FP.dadd ((frm sp w i9).1) ((frm sp w i9).2)) 4611686018427387904)), (8, .int (nI i9)), (6, .double ((frm sp w i9).2)), (4, .double ((frm sp w i9).1)), (0, .ref mo), (1, .int (nI j)), (2, .double w)]) hx hb dX4_form_67 hl (by decide) rfl (fun ls hl => ?_)
          refine lv_dload hx hb dX4_form_69 (lv_at hl 0 rfl) ?_
          refine lv_dconst1 hx hb dX4_form_71 ?_
          refine lv_aload_n hx hb dX4_form_72 rfl (lv_at hl 4 rfl) ?_
          refine va_get (D := (dC, dI)) (ci := 4) (v := .ref a7) (C := RX4) (T := TX4) (N := 15) hx hb hts (by decide +kernel) hown hK hP 0 rfl rfl 7 (by decide) (hts (.fieldLink RX4 29 "SteamBendsModel" "springs" "[D") (by decide +kernel)) (fun _ h9 => h9) rfl dX4_form_73 ?_
          refine lv_iload_n hx hb dX4_form_76 rfl (lv_at hl 5 rfl) ?_
          refine va_daldV hx hb hK hP 1 0 rfl rfl (j := j) (v := sp) es (by omega) (by omega) dX4_form_77 ?_
          have b_145 : dB (1040) (FP.dadd FP.dconst1 sp) := dB.add dB_d1 hs (M := 1038) (by omega) (by omega) (by omega)
          refine lv_dadd hx hb dX4_form_78 (b_145.ok (by omega)) ?_
          have b_146 : dB (1060 + 2 * i9 + 2 + 0 + 18) (FP.dmul (FP.ddiv (FP.dadd ((frm sp w i9).1) ((frm sp w i9).2)) 4611686018427387904) (FP.dadd FP.dconst1 sp)) := dB.mul b_144 b_145 (by omega) (by omega) (by omega)
          refine lv_dmul hx hb dX4_form_79 (b_146.ok (by omega)) ?_
          refine lv_dload_n hx hb dX4_form_80 rfl (lv_at hl 6 rfl) ?_
          refine lv_dcmp hx hb dX4_form_81 ?_
          refine lv_if_ge (tgt := 89) hx hb dX4_form_82 (by decide) (fun c_82 => ?_) (fun c_82 => ?_)
          · have c_82 := (cv_ge (b_146.nn (by omega)) (hw.nn (by omega))).mp c_82
            refine lv_iconst (v := 0) hx hb dX4_form_89 (by decide) ?_
            refine lv_istore (lv' := [(11, .int 0), (9, .double (FP.ddiv (FP.dadd ((frm sp w i9).1) ((frm sp w i9).2)) 4611686018427387904)), (8, .int (nI i9)), (6, .double ((frm sp w i9).2)), (4, .double ((frm sp w i9).1)), (0, .ref mo), (1, .int (nI j)), (2, .double w)]) hx hb dX4_form_90 hl (by decide) rfl (fun ls hl => ?_)
            refine lv_iload hx hb dX4_form_92 (lv_at hl 0 rfl) ?_
            refine lv_if_eq (tgt := 102) hx hb dX4_form_94 (by decide) (fun c_94 => ?_) (fun c_94 => ?_)
            · refine lv_dload hx hb dX4_form_102 (lv_at hl 4 rfl) ?_
              refine lv_dstore (lv' := [(4, .double ((frm sp w i9).1)), (11, .int 0), (9, .double (FP.ddiv (FP.dadd ((frm sp w i9).1) ((frm sp w i9).2)) 4611686018427387904)), (8, .int (nI i9)), (6, .double ((frm sp w i9).2)), (0, .ref mo), (1, .int (nI j)), (2, .double w)]) hx hb dX4_form_104 hl (by decide) rfl (fun ls hl => ?_)
              refine lv_iload hx hb dX4_form_106 (lv_at hl 1 rfl) ?_
              refine lv_if_eq (tgt := 116) hx hb dX4_form_108 (by decide) (fun c_108 => ?_) (fun c_108 => ?_)
              · refine lv_dload hx hb dX4_form_116 (lv_at hl 2 rfl) ?_
                refine lv_dstore (lv' := [(6, .double (FP.ddiv (FP.dadd ((frm sp w i9).1) ((frm sp w i9).2)) 4611686018427387904)), (4, .double ((frm sp w i9).1)), (11, .int 0), (9, .double (FP.ddiv (FP.dadd ((frm sp w i9).1) ((frm sp w i9).2)) 4611686018427387904)), (8, .int (nI i9)), (0, .ref mo), (1, .int (nI j)), (2, .double w)]) hx hb dX4_form_118 hl (by decide) rfl (fun ls hl => ?_)
                refine lv_iinc (v := nI (i9 + 1)) (lv' := [(8, .int (nI (i9 + 1))), (6, .double (FP.ddiv (FP.dadd ((frm sp w i9).1) ((frm sp w i9).2)) 4611686018427387904)), (4, .double ((frm sp w i9).1)), (11, .int 0), (9, .double (FP.ddiv (FP.dadd ((frm sp w i9).1) ((frm sp w i9).2)) 4611686018427387904)), (0, .ref mo), (1, .int (nI j)), (2, .double w)]) hx hb dX4_form_120 hl (k := 4) rfl (show nI i9 + nI 1 = nI (i9 + 1) from nI_add _ _) (by decide) rfl (fun ls hl => ?_)
                refine lv_goto (tgt := 51) hx hb dX4_form_123 (by decide) ?_
                exact ih (n9 - 1) (by omega) (i9 + 1) _ _ _ ⟨(by
                    simp only [frm]
                    rw [if_neg (show ¬ dv _ < dv _ by omega)]
                    exact lv_sub hl [0, 1, 2, 5, 6, 7] rfl), hP, hD, hS, (show (i9 + 1) + (n9 - 1) = 40 from by omega)⟩
              · exact absurd c_108 (by decide)
            · exact absurd c_94 (by decide)
          · have c_82 := mt (cv_ge (b_146.nn (by omega)) (hw.nn (by omega))).mpr c_82
            refine lv_iconst (v := 1) hx hb dX4_form_85 (by decide) ?_
            refine lv_goto (tgt := 90) hx hb dX4_form_86 (by decide) ?_
            refine lv_istore (lv' := [(11, .int 1), (9, .double (FP.ddiv (FP.dadd ((frm sp w i9).1) ((frm sp w i9).2)) 4611686018427387904)), (8, .int (nI i9)), (6, .double ((frm sp w i9).2)), (4, .double ((frm sp w i9).1)), (0, .ref mo), (1, .int (nI j)), (2, .double w)]) hx hb dX4_form_90 hl (by decide) rfl (fun ls hl => ?_)
            refine lv_iload hx hb dX4_form_92 (lv_at hl 0 rfl) ?_
            refine lv_if_eq (tgt := 102) hx hb dX4_form_94 (by decide) (fun c_94 => ?_) (fun c_94 => ?_)
            · exact absurd c_94 (by decide)
            · refine lv_dload hx hb dX4_form_97 (lv_at hl 1 rfl) ?_
              refine lv_goto (tgt := 104) hx hb dX4_form_99 (by decide) ?_
              refine lv_dstore (lv' := [(4, .double (FP.ddiv (FP.dadd ((frm sp w i9).1) ((frm sp w i9).2)) 4611686018427387904)), (11, .int 1), (9, .double (FP.ddiv (FP.dadd ((frm sp w i9).1) ((frm sp w i9).2)) 4611686018427387904)), (8, .int (nI i9)), (6, .double ((frm sp w i9).2)), (0, .ref mo), (1, .int (nI j)), (2, .double w)]) hx hb dX4_form_104 hl (by decide) rfl (fun ls hl => ?_)
              refine lv_iload hx hb dX4_form_106 (lv_at hl 1 rfl) ?_
              refine lv_if_eq (tgt := 116) hx hb dX4_form_108 (by decide) (fun c_108 => ?_) (fun c_108 => ?_)
              · exact absurd c_108 (by decide)
              · refine lv_dload hx hb dX4_form_111 (lv_at hl 4 rfl) ?_
                refine lv_goto (tgt := 118) hx hb dX4_form_113 (by decide) ?_
                refine lv_dstore (lv' := [(6, .double ((frm sp w i9).2)), (4, .double (FP.ddiv (FP.dadd ((frm sp w i9).1) ((frm sp w i9).2)) 4611686018427387904)), (11, .int 1), (9, .double (FP.ddiv (FP.dadd ((frm sp w i9).1) ((frm sp w i9).2)) 4611686018427387904)), (8, .int (nI i9)), (0, .ref mo), (1, .int (nI j)), (2, .double w)]) hx hb dX4_form_118 hl (by decide) rfl (fun ls hl => ?_)
                refine lv_iinc (v := nI (i9 + 1)) (lv' := [(8, .int (nI (i9 + 1))), (6, .double ((frm sp w i9).2)), (4, .double (FP.ddiv (FP.dadd ((frm sp w i9).1) ((frm sp w i9).2)) 4611686018427387904)), (11, .int 1), (9, .double (FP.ddiv (FP.dadd ((frm sp w i9).1) ((frm sp w i9).2)) 4611686018427387904)), (0, .ref mo), (1, .int (nI j)), (2, .double w)]) hx hb dX4_form_120 hl (k := 4) rfl (show nI i9 + nI 1 = nI (i9 + 1) from nI_add _ _) (by decide) rfl (fun ls hl => ?_)
                refine lv_goto (tgt := 51) hx hb dX4_form_123 (by decide) ?_
                exact ih (n9 - 1) (by omega) (i9 + 1) _ _ _ ⟨(by
                    simp only [frm]
                    rw [if_pos (show dv _ < dv _ by omega)]
                    exact lv_sub hl [0, 1, 2, 5, 6, 7] rfl), hP, hD, hS, (show (i9 + 1) + (n9 - 1) = 40 from by omega)⟩
      · exact absurd c_37 (by decide)
  · have c_5 := (b01 hw_2_k_139).mp c_5
    refine lv_iconst (v := 1) hx hb dX4_form_8 (by decide) ?_
    refine lv_goto (tgt := 30) hx hb dX4_form_9 (by decide) ?_
    refine va_put (D := (dC, dI)) (ci := 4) (v := .int 1) (ty := .int) (C := RX4) (T := TX4) (N := 15) hx hb hts (by decide +kernel) tyX4 tyX4_ok nmX4 hown hK hP hD hS 0 rfl rfl 0 (by decide) (hts (.fieldLink RX4 43 "SteamBendsModel" "code" "I") (by decide +kernel)) (fun _ h9 => h9) rfl (by decide +kernel) rfl rfl (Nat.le_of_ble_eq_true rfl) dX4_form_30 (fun H locs hP hD hS => ?_)
    have hP : va_P (dC, dI) vwCl [(mo, .inr (4, [.int 1, .ref a1, .ref a2, .ref a3, .ref a4, .ref a5, .ref a6, .ref a7, .ref a8, .int (nI np), .ref a10, .ref a11, .int (nI kc), .double kr, .int fd])), (a7, .inl (cD, 4, .inr (.inr (.inr (.inl sp2))))), (a8, .inl (cD, 4, .inr (.inr (.inr (.inl st2)))))] H := hP
    have hD : va_D A [(mo, .inr (4, [.int 1, .ref a1, .ref a2, .ref a3, .ref a4, .ref a5, .ref a6, .ref a7, .ref a8, .int (nI np), .ref a10, .ref a11, .int (nI kc), .double kr, .int fd])), (a7, .inl (cD, 4, .inr (.inr (.inr (.inl sp2))))), (a8, .inl (cD, 4, .inr (.inr (.inr (.inl st2)))))] := hD
    refine lv_aload_n hx hb dX4_form_33 rfl (lv_at hl 0 rfl) ?_
    refine va_get (D := (dC, dI)) (ci := 4) (v := .int 1) (C := RX4) (T := TX4) (N := 15) hx hb hts (by decide +kernel) hown hK hP 0 rfl rfl 0 (by decide) (hts (.fieldLink RX4 43 "SteamBendsModel" "code" "I") (by decide +kernel)) (fun _ h9 => h9) rfl dX4_form_34 ?_
    refine lv_if_le (tgt := 42) hx hb dX4_form_37 (by decide) (fun c_37 => ?_) (fun c_37 => ?_)
    · exact absurd c_37 (by decide)
    · refine lv_dconst0 hx hb dX4_form_40 ?_
      have hP9 := hP.sub (ws' := [(mo, .inr (4, [.int 1, .ref a1, .ref a2, .ref a3, .ref a4, .ref a5, .ref a6, .ref a7, .ref a8, .int (nI np), .ref a10, .ref a11, .int (nI kc), .double kr, .int fd])), (a7, .inl (cD, 4, .inr (.inr (.inr (.inl sp2))))), (a8, .inl (cD, 4, .inr (.inr (.inr (.inl st2)))))]) [0, 1, 2] rfl
      have hD9 := hD.sub (ws' := [(mo, .inr (4, [.int 1, .ref a1, .ref a2, .ref a3, .ref a4, .ref a5, .ref a6, .ref a7, .ref a8, .int (nI np), .ref a10, .ref a11, .int (nI kc), .double kr, .int fd])), (a7, .inl (cD, 4, .inr (.inr (.inr (.inl sp2))))), (a8, .inl (cD, 4, .inr (.inr (.inr (.inl st2)))))]) [0, 1, 2] (by decide) rfl
      exact W.dret hx hb hr (fun t9s hht hW9 => ⟨⟨FP.dconst0, 1, rfl, ⟨(by show (1 : Nat) = _; unfold cFrm; (repeat' split) <;> omega), fun z => absurd z (by simp)⟩, ⟨by rw [hht]; exact hP9, hD9⟩⟩, hS.F hht⟩) hS.2.2 dX4_form_41

set_option maxHeartbeats 4000000 in
set_option maxRecDepth 100000 in
theorem m_X4_minutes (l : Launch) (dC : Nat → ClassId) (dI : Nat → Nat → Nat) (sz : Nat) (cI cD : ClassId) (mo a1 a2 a3 a4 a5 a6 a7 a8 a10 a11 : Nat) (cd : Int32) (np kc : Nat) (kr : UInt64) (fd : Int32) (t : UInt64) (ht : dB 1060 t) : Met l yX4_minutes wsX4_minutes ({ frames := 1, cells := 0, slots := 0, locals := 25 } : Room) (va_Pc [.ref mo, .double t] (PW (dC, dI) [(cD, .double)] [(mo, .inr (4, [.int cd, .ref a1, .ref a2, .ref a3, .ref a4, .ref a5, .ref a6, .ref a7, .ref a8, .int (nI np), .ref a10, .ref a11, .int (nI kc), .double kr, .int fd]))] sz)) (va_Qd (fun (r : UInt64) (u : Nat) => u = cMin t ∧ (u = 0 → r = vMin t)) (fun (u : Nat) => QW (dC, dI) [(mo, .inr (4, [.int (nI u), .ref a1, .ref a2, .ref a3, .ref a4, .ref a5, .ref a6, .ref a7, .ref a8, .int (nI np), .ref a10, .ref a11, .int (nI kc), .double kr, .int fd]))] (va_A [(mo, .inr (4, [.int cd, .ref a1, .ref a2, .ref a3, .ref a4, .ref a5, .ref a6, .ref a7, .ref a8, .int (nI np), .ref a10, .ref a11, .int (nI kc), .double kr, .int fd]))] sz)) (va_A [(mo, .inr (4, [.int cd, .ref a1, .ref a2, .ref a3, .ref a4, .ref a5, .ref a6, .ref a7, .ref a8, .int (nI np), .ref a10, .ref a11, .int (nI kc), .double kr, .int fd]))] sz)) 0 0 (va_A [(mo, .inr (4, [.int cd, .ref a1, .ref a2, .ref a3, .ref a4, .ref a5, .ref a6, .ref a7, .ref a8, .int (nI np), .ref a10, .ref a11, .int (nI kc), .double kr, .int fd]))] sz) := by
  refine Met.ofW (cc := cX4_minutes) (maxL := 3) (ret := (some .double)) (by decide) rfl ?_
  intro p e s m args below meth c s₁ BB hml hv
  obtain ⟨rfl, hsz, hP, hK, hD0, hN⟩ := hv
  have hx := BB.exec
  have hb := BB.bytes
  have hr := BB.returns
  have hts := atoms_spec (ws := wsX4_minutes) BB.pre
  have hown : s.vm.findClass RX4 = some m.cls := findClass_of_methodNamed BB.named
  have hlocks := BB.notSynchronized
  subst hsz
  have hD := hD0.self (sz := s.heap.size)
  generalize hAe : va_A [(mo, .inr (4, [.int cd, .ref a1, .ref a2, .ref a3, .ref a4, .ref a5, .ref a6, .ref a7, .ref a8, .int (nI np), .ref a10, .ref a11, .int (nI kc), .double kr, .int fd]))] s.heap.size = A at hD ⊢
  have hA : ∀ q : Nat, s.heap.size ≤ q → A q := fun q h => by rw [← hAe]; exact Or.inr h
  have hS : va_S A s.heap s.heap [] := va_S.rf
  have hP : va_P (dC, dI) vwCl [(mo, .inr (4, [.int cd, .ref a1, .ref a2, .ref a3, .ref a4, .ref a5, .ref a6, .ref a7, .ref a8, .int (nI np), .ref a10, .ref a11, .int (nI kc), .double kr, .int fd]))] s.heap := hP
  have hl := lv_entry ([.ref mo, .double t]) (n := 3) (Nat.le_of_ble_eq_true rfl)
  rw [lg_entry_eq]
  generalize (lg_sl ([.ref mo, .double t]) ++ List.replicate (3 - (lg_sl ([.ref mo, .double t])).length) Slot.unset).toArray = ls at hl ⊢
  have hl : lv_has ls 3 [(0, .ref mo), (1, .double t)] := hl
  refine lv_aload_n hx hb dX4_minutes_0 rfl (lv_at hl 0 rfl) ?_
  refine lv_dload_n hx hb dX4_minutes_1 rfl (lv_at hl 1 rfl) ?_
  refine lv_dconst0 hx hb dX4_minutes_2 ?_
  refine lv_ldc2d (v := 4652007308841189376) hx hb hown (hts (.constantDouble RX4 53 (4652007308841189376)) (by decide +kernel)) dX4_minutes_3 ?_
  refine va_calli (va_runS (As := [.double t, .double FP.dconst0, .double 4652007308841189376]) (rest := [.ref mo]) ⟨hx, hb, hml, hown, hts⟩ (m_X4_isIn l t FP.dconst0 4652007308841189376 (ht.nn (by omega)) (dB_d0.nn (by omega)) ((by unfold dB; decide +kernel : dB 1033 4652007308841189376).nn (by omega))) (va_cwS 3 hts gX4_minutes_X4_isIn rfl rfl rfl (by decide +kernel) ⟨(Nat.le_of_ble_eq_true rfl), (Nat.le_of_ble_eq_true rfl)⟩) ⟨fun a U g mk q => q, fun U9 hU9 hW9 => ⟨rfl, trivial⟩⟩ rfl rfl hl.1 rfl (lv_room (Nat.le_of_ble_eq_true rfl)) dX4_minutes_6 ⟨(Nat.le_of_ble_eq_true rfl), (Nat.le_of_ble_eq_true rfl)⟩) hS (fun q _ h => h.elim) (fun q h => h.elim) (fun r_148 u9s t9s H1 locs hht hvm9 hw_6_k_147 hB hz1 hk1 hS => ?_)
  have hP := va_still hP hk1
  generalize H1 = H at hP hS ⊢
  refine lv_if_eq (tgt := 16) hx hb dX4_minutes_9 (by decide) (fun c_9 => ?_) (fun c_9 => ?_)
  · have c_9 := (b01 hw_6_k_147).mp c_9
    refine lv_iconst (v := 1) hx hb dX4_minutes_16 (by decide) ?_
    refine va_put (D := (dC, dI)) (ci := 4) (v := .int 1) (ty := .int) (C := RX4) (T := TX4) (N := 15) hx hb hts (by decide +kernel) tyX4 tyX4_ok nmX4 hown hK hP hD hS 0 rfl rfl 0 (by decide) (hts (.fieldLink RX4 43 "SteamBendsModel" "code" "I") (by decide +kernel)) (fun _ h9 => h9) rfl (by decide +kernel) rfl rfl (Nat.le_of_ble_eq_true rfl) dX4_minutes_17 (fun H locs hP hD hS => ?_)
    have hP : va_P (dC, dI) vwCl [(mo, .inr (4, [.int 1, .ref a1, .ref a2, .ref a3, .ref a4, .ref a5, .ref a6, .ref a7, .ref a8, .int (nI np), .ref a10, .ref a11, .int (nI kc), .double kr, .int fd]))] H := hP
    have hD : va_D A [(mo, .inr (4, [.int 1, .ref a1, .ref a2, .ref a3, .ref a4, .ref a5, .ref a6, .ref a7, .ref a8, .int (nI np), .ref a10, .ref a11, .int (nI kc), .double kr, .int fd]))] := hD
    refine lv_aload_n hx hb dX4_minutes_20 rfl (lv_at hl 0 rfl) ?_
    refine va_get (D := (dC, dI)) (ci := 4) (v := .int 1) (C := RX4) (T := TX4) (N := 15) hx hb hts (by decide +kernel) hown hK hP 0 rfl rfl 0 (by decide) (hts (.fieldLink RX4 43 "SteamBendsModel" "code" "I") (by decide +kernel)) (fun _ h9 => h9) rfl dX4_minutes_21 ?_
    refine lv_if_le (tgt := 31) hx hb dX4_minutes_24 (by decide) (fun c_24 => ?_) (fun c_24 => ?_)
    · exact absurd c_24 (by decide)
    · refine lv_dconst0 hx hb dX4_minutes_27 ?_
      refine lv_goto (tgt := 56) hx hb dX4_minutes_28 (by decide) ?_
      have hP9 := hP.sub (ws' := [(mo, .inr (4, [.int 1, .ref a1, .ref a2, .ref a3, .ref a4, .ref a5, .ref a6, .ref a7, .ref a8, .int (nI np), .ref a10, .ref a11, .int (nI kc), .double kr, .int fd]))]) [0] rfl
      have hD9 := hD.sub (ws' := [(mo, .inr (4, [.int 1, .ref a1, .ref a2, .ref a3, .ref a4, .ref a5, .ref a6, .ref a7, .ref a8, .int (nI np), .ref a10, .ref a11, .int (nI kc), .double kr, .int fd]))]) [0] (by decide) rfl
      exact W.dret hx hb hr (fun t9s hht hW9 => ⟨⟨FP.dconst0, 1, rfl, ⟨(by show (1 : Nat) = _; unfold cMin; (repeat' split) <;> omega), fun z => absurd z (by simp)⟩, ⟨by rw [hht]; exact hP9, hD9⟩⟩, hS.F hht⟩) hS.2.2 dX4_minutes_56
  · have c_9 := (b01n hw_6_k_147).mp c_9
    refine lv_iconst (v := 0) hx hb dX4_minutes_12 (by decide) ?_
    refine lv_goto (tgt := 17) hx hb dX4_minutes_13 (by decide) ?_
    refine va_put (D := (dC, dI)) (ci := 4) (v := .int 0) (ty := .int) (C := RX4) (T := TX4) (N := 15) hx hb hts (by decide +kernel) tyX4 tyX4_ok nmX4 hown hK hP hD hS 0 rfl rfl 0 (by decide) (hts (.fieldLink RX4 43 "SteamBendsModel" "code" "I") (by decide +kernel)) (fun _ h9 => h9) rfl (by decide +kernel) rfl rfl (Nat.le_of_ble_eq_true rfl) dX4_minutes_17 (fun H locs hP hD hS => ?_)
    have hP : va_P (dC, dI) vwCl [(mo, .inr (4, [.int 0, .ref a1, .ref a2, .ref a3, .ref a4, .ref a5, .ref a6, .ref a7, .ref a8, .int (nI np), .ref a10, .ref a11, .int (nI kc), .double kr, .int fd]))] H := hP
    have hD : va_D A [(mo, .inr (4, [.int 0, .ref a1, .ref a2, .ref a3, .ref a4, .ref a5, .ref a6, .ref a7, .ref a8, .int (nI np), .ref a10, .ref a11, .int (nI kc), .double kr, .int fd]))] := hD
    refine lv_aload_n hx hb dX4_minutes_20 rfl (lv_at hl 0 rfl) ?_
    refine va_get (D := (dC, dI)) (ci := 4) (v := .int 0) (C := RX4) (T := TX4) (N := 15) hx hb hts (by decide +kernel) hown hK hP 0 rfl rfl 0 (by decide) (hts (.fieldLink RX4 43 "SteamBendsModel" "code" "I") (by decide +kernel)) (fun _ h9 => h9) rfl dX4_minutes_21 ?_
    refine lv_if_le (tgt := 31) hx hb dX4_minutes_24 (by decide) (fun c_24 => ?_) (fun c_24 => ?_)
    · refine lv_dload_n hx hb dX4_minutes_31 rfl (lv_at hl 1 rfl) ?_
      refine lv_ldc2d (v := 4632233691727265792) hx hb hown (hts (.constantDouble RX4 79 (4632233691727265792)) (by decide +kernel)) dX4_minutes_32 ?_
      refine lv_dcmp hx hb dX4_minutes_35 ?_
      refine lv_if_le (tgt := 51) hx hb dX4_minutes_36 (by decide) (fun c_36 => ?_) (fun c_36 => ?_)
      · have c_36 := (cv_le (ht.nn (by omega)) ((by unfold dB; decide +kernel : dB 1029 4632233691727265792).nn (by omega))).mp c_36
        refine lv_dload_n hx hb dX4_minutes_51 rfl (lv_at hl 1 rfl) ?_
        refine lv_ldc2d (v := 4612811918334230528) hx hb hown (hts (.constantDouble RX4 81 (4612811918334230528)) (by decide +kernel)) dX4_minutes_52 ?_
        have b_149 : dB (1063) (FP.dmul t 4612811918334230528) := dB.mul ht (by unfold dB; decide +kernel : dB 1025 4612811918334230528) (by omega) (by omega) (by omega)
        refine lv_dmul hx hb dX4_minutes_55 (b_149.ok (by omega)) ?_
        have hP9 := hP.sub (ws' := [(mo, .inr (4, [.int 0, .ref a1, .ref a2, .ref a3, .ref a4, .ref a5, .ref a6, .ref a7, .ref a8, .int (nI np), .ref a10, .ref a11, .int (nI kc), .double kr, .int fd]))]) [0] rfl
        have hD9 := hD.sub (ws' := [(mo, .inr (4, [.int 0, .ref a1, .ref a2, .ref a3, .ref a4, .ref a5, .ref a6, .ref a7, .ref a8, .int (nI np), .ref a10, .ref a11, .int (nI kc), .double kr, .int fd]))]) [0] (by decide) rfl
        exact W.dret hx hb hr (fun t9s hht hW9 => ⟨⟨FP.dmul t 4612811918334230528, 0, rfl, ⟨(by show (0 : Nat) = _; unfold cMin; (repeat' split) <;> omega), fun _ => (by unfold vMin; rw [if_neg (by omega)])⟩, ⟨by rw [hht]; exact hP9, hD9⟩⟩, hS.F hht⟩) hS.2.2 dX4_minutes_56
      · have c_36 := mt (cv_le (ht.nn (by omega)) ((by unfold dB; decide +kernel : dB 1029 4632233691727265792).nn (by omega))).mpr c_36
        refine lv_dload_n hx hb dX4_minutes_39 rfl (lv_at hl 1 rfl) ?_
        refine lv_ldc2d (v := 4612811918334230528) hx hb hown (hts (.constantDouble RX4 81 (4612811918334230528)) (by decide +kernel)) dX4_minutes_40 ?_
        have b_150 : dB (1063) (FP.dmul t 4612811918334230528) := dB.mul ht (by unfold dB; decide +kernel : dB 1025 4612811918334230528) (by omega) (by omega) (by omega)
        refine lv_dmul hx hb dX4_minutes_43 (b_150.ok (by omega)) ?_
        refine lv_ldc2d (v := 4626322717216342016) hx hb hown (hts (.constantDouble RX4 83 (4626322717216342016)) (by decide +kernel)) dX4_minutes_44 ?_
        have b_151 : dB (1065) (FP.dadd (FP.dmul t 4612811918334230528) 4626322717216342016) := dB.add b_150 (by unfold dB; decide +kernel : dB 1028 4626322717216342016) (M := 1063) (by omega) (by omega) (by omega)
        refine lv_dadd hx hb dX4_minutes_47 (b_151.ok (by omega)) ?_
        refine lv_goto (tgt := 56) hx hb dX4_minutes_48 (by decide) ?_
        have hP9 := hP.sub (ws' := [(mo, .inr (4, [.int 0, .ref a1, .ref a2, .ref a3, .ref a4, .ref a5, .ref a6, .ref a7, .ref a8, .int (nI np), .ref a10, .ref a11, .int (nI kc), .double kr, .int fd]))]) [0] rfl
        have hD9 := hD.sub (ws' := [(mo, .inr (4, [.int 0, .ref a1, .ref a2, .ref a3, .ref a4, .ref a5, .ref a6, .ref a7, .ref a8, .int (nI np), .ref a10, .ref a11, .int (nI kc), .double kr, .int fd]))]) [0] (by decide) rfl
        exact W.dret hx hb hr (fun t9s hht hW9 => ⟨⟨FP.dadd (FP.dmul t 4612811918334230528) 4626322717216342016, 0, rfl, ⟨(by show (0 : Nat) = _; unfold cMin; (repeat' split) <;> omega), fun _ => (by unfold vMin; rw [if_pos (by omega)])⟩, ⟨by rw [hht]; exact hP9, hD9⟩⟩, hS.F hht⟩) hS.2.2 dX4_minutes_56
    · exact absurd c_24 (by decide)

set_option maxHeartbeats 4000000 in
set_option maxRecDepth 100000 in
theorem m_X4_piece (l : Launch) (dC : Nat → ClassId) (dI : Nat → Nat → Nat) (sz : Nat) (cI cD : ClassId) (mo a1 a2 a3 a4 a5 a6 a7 a8 a10 a11 : Nat) (cd : Int32) (np kc : Nat) (kr : UInt64) (fd : Int32) (L D : Nat → UInt64) (len d : UInt64) (hlen : dB 1060 len) (hd9 : dB 1060 d) (hpc : piecesOK L D np) : Met l yX4_piece wsX4_piece ({ frames := 1, cells := 0, slots := 0, locals := 25 } : Room) (va_Pc [.ref mo, .double len, .double d] (PW (dC, dI) [(cD, .double)] [(mo, .inr (4, [.int cd, .ref a1, .ref a2, .ref a3, .ref a4, .ref a5, .ref a6, .ref a7, .ref a8, .int (nI np), .ref a10, .ref a11, .int (nI kc), .double kr, .int fd])), (a10, .inl (cD, 12, .inr (.inr (.inr (.inl L))))), (a11, .inl (cD, 12, .inr (.inr (.inr (.inl D)))))] sz)) (va_Qi (fun (r : Int32) (u : Nat × Nat × (Nat → UInt64) × (Nat → UInt64)) => u.1 = cPc len d np ∧ (u.1 = 0 → r = nI (np + 1)) ∧ u.2 = (if u.1 = 0 then (np + 1, vf_upd L np len, vf_upd D np d) else (np, L, D))) (fun (u : Nat × Nat × (Nat → UInt64) × (Nat → UInt64)) => QW (dC, dI) [(mo, .inr (4, [.int (nI u.1), .ref a1, .ref a2, .ref a3, .ref a4, .ref a5, .ref a6, .ref a7, .ref a8, .int (nI u.2.1), .ref a10, .ref a11, .int (nI kc), .double kr, .int fd])), (a10, .inl (cD, 12, .inr (.inr (.inr (.inl u.2.2.1))))), (a11, .inl (cD, 12, .inr (.inr (.inr (.inl u.2.2.2)))))] (va_A [(mo, .inr (4, [.int cd, .ref a1, .ref a2, .ref a3, .ref a4, .ref a5, .ref a6, .ref a7, .ref a8, .int (nI np), .ref a10, .ref a11, .int (nI kc), .double kr, .int fd])), (a10, .inl (cD, 12, .inr (.inr (.inr (.inl L))))), (a11, .inl (cD, 12, .inr (.inr (.inr (.inl D)))))] sz)) (va_A [(mo, .inr (4, [.int cd, .ref a1, .ref a2, .ref a3, .ref a4, .ref a5, .ref a6, .ref a7, .ref a8, .int (nI np), .ref a10, .ref a11, .int (nI kc), .double kr, .int fd])), (a10, .inl (cD, 12, .inr (.inr (.inr (.inl L))))), (a11, .inl (cD, 12, .inr (.inr (.inr (.inl D)))))] sz)) 0 0 (va_A [(mo, .inr (4, [.int cd, .ref a1, .ref a2, .ref a3, .ref a4, .ref a5, .ref a6, .ref a7, .ref a8, .int (nI np), .ref a10, .ref a11, .int (nI kc), .double kr, .int fd])), (a10, .inl (cD, 12, .inr (.inr (.inr (.inl L))))), (a11, .inl (cD, 12, .inr (.inr (.inr (.inl D)))))] sz) := by
  refine Met.ofW (cc := cX4_piece) (maxL := 5) (ret := (some .int)) (by decide) rfl ?_
  intro p e s m args below meth c s₁ BB hml hv
  obtain ⟨rfl, hsz, hP, hK, hD0, hN⟩ := hv
  have hx := BB.exec
  have hb := BB.bytes
  have hr := BB.returns
  have hts := atoms_spec (ws := wsX4_piece) BB.pre
  have hown : s.vm.findClass RX4 = some m.cls := findClass_of_methodNamed BB.named
  have hlocks := BB.notSynchronized
  subst hsz
  have hD := hD0.self (sz := s.heap.size)
  generalize hAe : va_A [(mo, .inr (4, [.int cd, .ref a1, .ref a2, .ref a3, .ref a4, .ref a5, .ref a6, .ref a7, .ref a8, .int (nI np), .ref a10, .ref a11, .int (nI kc), .double kr, .int fd])), (a10, .inl (cD, 12, .inr (.inr (.inr (.inl L))))), (a11, .inl (cD, 12, .inr (.inr (.inr (.inl D)))))] s.heap.size = A at hD ⊢
  have hA : ∀ q : Nat, s.heap.size ≤ q → A q := fun q h => by rw [← hAe]; exact Or.inr h
  have hS : va_S A s.heap s.heap [] := va_S.rf
  have hP : va_P (dC, dI) vwCl [(mo, .inr (4, [.int cd, .ref a1, .ref a2, .ref a3, .ref a4, .ref a5, .ref a6, .ref a7, .ref a8, .int (nI np), .ref a10, .ref a11, .int (nI kc), .double kr, .int fd])), (a10, .inl (cD, 12, .inr (.inr (.inr (.inl L))))), (a11, .inl (cD, 12, .inr (.inr (.inr (.inl D)))))] s.heap := hP
  have hl := lv_entry ([.ref mo, .double len, .double d]) (n := 5) (Nat.le_of_ble_eq_true rfl)
  rw [lg_entry_eq]
  generalize (lg_sl ([.ref mo, .double len, .double d]) ++ List.replicate (5 - (lg_sl ([.ref mo, .double len, .double d])).length) Slot.unset).toArray = ls at hl ⊢
  have hl : lv_has ls 5 [(0, .ref mo), (1, .double len), (3, .double d)] := hl
  have hn12 := hpc.1
  refine lv_aload_n hx hb dX4_piece_0 rfl (lv_at hl 0 rfl) ?_
  refine lv_dload_n hx hb dX4_piece_1 rfl (lv_at hl 1 rfl) ?_
  refine lv_dconst0 hx hb dX4_piece_2 ?_
  refine lv_ldc2d (v := 4666723172467343360) hx hb hown (hts (.constantDouble RX4 59 (4666723172467343360)) (by decide +kernel)) dX4_piece_3 ?_
  refine va_calli (va_runS (As := [.double len, .double FP.dconst0, .double 4666723172467343360]) (rest := [.ref mo]) ⟨hx, hb, hml, hown, hts⟩ (m_X4_isIn l len FP.dconst0 4666723172467343360 (hlen.nn (by omega)) (dB_d0.nn (by omega)) ((by unfold dB; decide +kernel : dB 1037 4666723172467343360).nn (by omega))) (va_cwS 3 hts gX4_piece_X4_isIn rfl rfl rfl (by decide +kernel) ⟨(Nat.le_of_ble_eq_true rfl), (Nat.le_of_ble_eq_true rfl)⟩) ⟨fun a U g mk q => q, fun U9 hU9 hW9 => ⟨rfl, trivial⟩⟩ rfl rfl hl.1 rfl (lv_room (Nat.le_of_ble_eq_true rfl)) dX4_piece_6 ⟨(Nat.le_of_ble_eq_true rfl), (Nat.le_of_ble_eq_true rfl)⟩) hS (fun q _ h => h.elim) (fun q h => h.elim) (fun r_153 u9s t9s H1 locs hht hvm9 hw_6_k_152 hB hz1 hk1 hS => ?_)
  have hP := va_still hP hk1
  generalize H1 = H at hP hS ⊢
  refine lv_if_eq (tgt := 29) hx hb dX4_piece_9 (by decide) (fun c_9 => ?_) (fun c_9 => ?_)
  · have c_9 := (b01 hw_6_k_152).mp c_9
    refine lv_iconst (v := 1) hx hb dX4_piece_29 (by decide) ?_
    refine lv_goto (tgt := 47) hx hb dX4_piece_30 (by decide) ?_
    refine va_put (D := (dC, dI)) (ci := 4) (v := .int 1) (ty := .int) (C := RX4) (T := TX4) (N := 15) hx hb hts (by decide +kernel) tyX4 tyX4_ok nmX4 hown hK hP hD hS 0 rfl rfl 0 (by decide) (hts (.fieldLink RX4 43 "SteamBendsModel" "code" "I") (by decide +kernel)) (fun _ h9 => h9) rfl (by decide +kernel) rfl rfl (Nat.le_of_ble_eq_true rfl) dX4_piece_47 (fun H locs hP hD hS => ?_)
    have hP : va_P (dC, dI) vwCl [(mo, .inr (4, [.int 1, .ref a1, .ref a2, .ref a3, .ref a4, .ref a5, .ref a6, .ref a7, .ref a8, .int (nI np), .ref a10, .ref a11, .int (nI kc), .double kr, .int fd])), (a10, .inl (cD, 12, .inr (.inr (.inr (.inl L))))), (a11, .inl (cD, 12, .inr (.inr (.inr (.inl D)))))] H := hP
    have hD : va_D A [(mo, .inr (4, [.int 1, .ref a1, .ref a2, .ref a3, .ref a4, .ref a5, .ref a6, .ref a7, .ref a8, .int (nI np), .ref a10, .ref a11, .int (nI kc), .double kr, .int fd])), (a10, .inl (cD, 12, .inr (.inr (.inr (.inl L))))), (a11, .inl (cD, 12, .inr (.inr (.inr (.inl D)))))] := hD
    refine lv_aload_n hx hb dX4_piece_50 rfl (lv_at hl 0 rfl) ?_
    refine va_get (D := (dC, dI)) (ci := 4) (v := .int 1) (C := RX4) (T := TX4) (N := 15) hx hb hts (by decide +kernel) hown hK hP 0 rfl rfl 0 (by decide) (hts (.fieldLink RX4 43 "SteamBendsModel" "code" "I") (by decide +kernel)) (fun _ h9 => h9) rfl dX4_piece_51 ?_
    refine lv_if_le (tgt := 59) hx hb dX4_piece_54 (by decide) (fun c_54 => ?_) (fun c_54 => ?_)
    · exact absurd c_54 (by decide)
    · refine lv_iconst (v := 0) hx hb dX4_piece_57 (by decide) ?_
      have hP9 := hP.sub (ws' := [(mo, .inr (4, [.int 1, .ref a1, .ref a2, .ref a3, .ref a4, .ref a5, .ref a6, .ref a7, .ref a8, .int (nI np), .ref a10, .ref a11, .int (nI kc), .double kr, .int fd])), (a10, .inl (cD, 12, .inr (.inr (.inr (.inl L))))), (a11, .inl (cD, 12, .inr (.inr (.inr (.inl D)))))]) [0, 1, 2] rfl
      have hD9 := hD.sub (ws' := [(mo, .inr (4, [.int 1, .ref a1, .ref a2, .ref a3, .ref a4, .ref a5, .ref a6, .ref a7, .ref a8, .int (nI np), .ref a10, .ref a11, .int (nI kc), .double kr, .int fd])), (a10, .inl (cD, 12, .inr (.inr (.inr (.inl L))))), (a11, .inl (cD, 12, .inr (.inr (.inr (.inl D)))))]) [0, 1, 2] (by decide) rfl
      exact W.iret hx hb hr (fun t9s hht hW9 => ⟨⟨0, (1, (np, L, D)), rfl, ⟨(by show (1 : Nat) = _; unfold cPc; (repeat' split) <;> omega), fun z => absurd z (by simp), (if_neg (show ¬ (1 : Nat) = 0 by decide)).symm⟩, ⟨by rw [hht]; exact hP9, hD9⟩⟩, hS.F hht⟩) hS.2.2 dX4_piece_58
  · have c_9 := (b01n hw_6_k_152).mp c_9
    refine lv_dload_n hx hb dX4_piece_12 rfl (lv_at hl 2 rfl) ?_
    refine lv_dconst0 hx hb dX4_piece_13 ?_
    refine lv_dcmp hx hb dX4_piece_14 ?_
    refine lv_if_eq (tgt := 33) hx hb dX4_piece_15 (by decide) (fun c_15 => ?_) (fun c_15 => ?_)
    · have c_15 := (cv_eq (hd9.nn (by omega)) (dB_d0.nn (by omega))).mp c_15
      refine lv_aload_n hx hb dX4_piece_33 rfl (lv_at hl 0 rfl) ?_
      refine va_get (D := (dC, dI)) (ci := 4) (v := .int (nI np)) (C := RX4) (T := TX4) (N := 15) hx hb hts (by decide +kernel) hown hK hP 0 rfl rfl 9 (by decide) (hts (.fieldLink RX4 85 "SteamBendsModel" "pieces" "I") (by decide +kernel)) (fun _ h9 => h9) rfl dX4_piece_34 ?_
      refine lv_bipush (v := 12) hx hb dX4_piece_37 (by decide) ?_
      refine lv_icmp_ne (tgt := 46) hx hb dX4_piece_39 (by decide) (fun c_39 => ?_) (fun c_39 => ?_)
      · have c_39 := mt (nI_eq (a := np) (b := 12) (by omega) (by omega)).mpr c_39
        refine lv_iconst (v := 0) hx hb dX4_piece_46 (by decide) ?_
        refine va_put (D := (dC, dI)) (ci := 4) (v := .int 0) (ty := .int) (C := RX4) (T := TX4) (N := 15) hx hb hts (by decide +kernel) tyX4 tyX4_ok nmX4 hown hK hP hD hS 0 rfl rfl 0 (by decide) (hts (.fieldLink RX4 43 "SteamBendsModel" "code" "I") (by decide +kernel)) (fun _ h9 => h9) rfl (by decide +kernel) rfl rfl (Nat.le_of_ble_eq_true rfl) dX4_piece_47 (fun H locs hP hD hS => ?_)
        have hP : va_P (dC, dI) vwCl [(mo, .inr (4, [.int 0, .ref a1, .ref a2, .ref a3, .ref a4, .ref a5, .ref a6, .ref a7, .ref a8, .int (nI np), .ref a10, .ref a11, .int (nI kc), .double kr, .int fd])), (a10, .inl (cD, 12, .inr (.inr (.inr (.inl L))))), (a11, .inl (cD, 12, .inr (.inr (.inr (.inl D)))))] H := hP
        have hD : va_D A [(mo, .inr (4, [.int 0, .ref a1, .ref a2, .ref a3, .ref a4, .ref a5, .ref a6, .ref a7, .ref a8, .int (nI np), .ref a10, .ref a11, .int (nI kc), .double kr, .int fd])), (a10, .inl (cD, 12, .inr (.inr (.inr (.inl L))))), (a11, .inl (cD, 12, .inr (.inr (.inr (.inl D)))))] := hD
        refine lv_aload_n hx hb dX4_piece_50 rfl (lv_at hl 0 rfl) ?_
        refine va_get (D := (dC, dI)) (ci := 4) (v := .int 0) (C := RX4) (T := TX4) (N := 15) hx hb hts (by decide +kernel) hown hK hP 0 rfl rfl 0 (by decide) (hts (.fieldLink RX4 43 "SteamBendsModel" "code" "I") (by decide +kernel)) (fun _ h9 => h9) rfl dX4_piece_51 ?_
        refine lv_if_le (tgt := 59) hx hb dX4_piece_54 (by decide) (fun c_54 => ?_) (fun c_54 => ?_)
        · refine lv_aload_n hx hb dX4_piece_59 rfl (lv_at hl 0 rfl) ?_
          refine va_get (D := (dC, dI)) (ci := 4) (v := .ref a10) (C := RX4) (T := TX4) (N := 15) hx hb hts (by decide +kernel) hown hK hP 0 rfl rfl 10 (by decide) (hts (.fieldLink RX4 35 "SteamBendsModel" "lengths" "[D") (by decide +kernel)) (fun _ h9 => h9) rfl dX4_piece_60 ?_
          refine lv_aload_n hx hb dX4_piece_63 rfl (lv_at hl 0 rfl) ?_
          refine va_get (D := (dC, dI)) (ci := 4) (v := .int (nI np)) (C := RX4) (T := TX4) (N := 15) hx hb hts (by decide +kernel) hown hK hP 0 rfl rfl 9 (by decide) (hts (.fieldLink RX4 85 "SteamBendsModel" "pieces" "I") (by decide +kernel)) (fun _ h9 => h9) rfl dX4_piece_64 ?_
          refine lv_dload_n hx hb dX4_piece_67 rfl (lv_at hl 1 rfl) ?_
          refine va_dastN hx hb hK hP hD hS 1 0 rfl rfl (j := np) (by omega) (by omega) dX4_piece_68 (fun H locs hP hD hS => ?_)
          have hP : va_P (dC, dI) vwCl [(mo, .inr (4, [.int 0, .ref a1, .ref a2, .ref a3, .ref a4, .ref a5, .ref a6, .ref a7, .ref a8, .int (nI np), .ref a10, .ref a11, .int (nI kc), .double kr, .int fd])), (a10, .inl (cD, 12, .inr (.inr (.inr (.inl (vf_upd L np len)))))), (a11, .inl (cD, 12, .inr (.inr (.inr (.inl D)))))] H := hP
          have hD : va_D A [(mo, .inr (4, [.int 0, .ref a1, .ref a2, .ref a3, .ref a4, .ref a5, .ref a6, .ref a7, .ref a8, .int (nI np), .ref a10, .ref a11, .int (nI kc), .double kr, .int fd])), (a10, .inl (cD, 12, .inr (.inr (.inr (.inl (vf_upd L np len)))))), (a11, .inl (cD, 12, .inr (.inr (.inr (.inl D)))))] := hD
          refine lv_aload_n hx hb dX4_piece_69 rfl (lv_at hl 0 rfl) ?_
          refine va_get (D := (dC, dI)) (ci := 4) (v := .ref a11) (C := RX4) (T := TX4) (N := 15) hx hb hts (by decide +kernel) hown hK hP 0 rfl rfl 11 (by decide) (hts (.fieldLink RX4 38 "SteamBendsModel" "bends" "[D") (by decide +kernel)) (fun _ h9 => h9) rfl dX4_piece_70 ?_
          refine lv_aload_n hx hb dX4_piece_73 rfl (lv_at hl 0 rfl) ?_
          refine va_get (D := (dC, dI)) (ci := 4) (v := .int (nI np)) (C := RX4) (T := TX4) (N := 15) hx hb hts (by decide +kernel) hown hK hP 0 rfl rfl 9 (by decide) (hts (.fieldLink RX4 85 "SteamBendsModel" "pieces" "I") (by decide +kernel)) (fun _ h9 => h9) rfl dX4_piece_74 ?_
          refine lv_dload_n hx hb dX4_piece_77 rfl (lv_at hl 2 rfl) ?_
          refine va_dastN hx hb hK hP hD hS 2 0 rfl rfl (j := np) (by omega) (by omega) dX4_piece_78 (fun H locs hP hD hS => ?_)
          have hP : va_P (dC, dI) vwCl [(mo, .inr (4, [.int 0, .ref a1, .ref a2, .ref a3, .ref a4, .ref a5, .ref a6, .ref a7, .ref a8, .int (nI np), .ref a10, .ref a11, .int (nI kc), .double kr, .int fd])), (a10, .inl (cD, 12, .inr (.inr (.inr (.inl (vf_upd L np len)))))), (a11, .inl (cD, 12, .inr (.inr (.inr (.inl (vf_upd D np d))))))] H := hP
          have hD : va_D A [(mo, .inr (4, [.int 0, .ref a1, .ref a2, .ref a3, .ref a4, .ref a5, .ref a6, .ref a7, .ref a8, .int (nI np), .ref a10, .ref a11, .int (nI kc), .double kr, .int fd])), (a10, .inl (cD, 12, .inr (.inr (.inr (.inl (vf_upd L np len)))))), (a11, .inl (cD, 12, .inr (.inr (.inr (.inl (vf_upd D np d))))))] := hD
          refine lv_aload_n hx hb dX4_piece_79 rfl (lv_at hl 0 rfl) ?_
          refine lv_dup hx hb dX4_piece_80 rfl ?_
          refine va_get (D := (dC, dI)) (ci := 4) (v := .int (nI np)) (C := RX4) (T := TX4) (N := 15) hx hb hts (by decide +kernel) hown hK hP 0 rfl rfl 9 (by decide) (hts (.fieldLink RX4 85 "SteamBendsModel" "pieces" "I") (by decide +kernel)) (fun _ h9 => h9) rfl dX4_piece_81 ?_
          refine lv_iconst (v := 1) hx hb dX4_piece_84 (by decide) ?_
          refine lv_iaddN (x := np) (y := 1) hx hb dX4_piece_85 ?_
          refine va_put (D := (dC, dI)) (ci := 4) (v := .int (nI (np + 1))) (ty := .int) (C := RX4) (T := TX4) (N := 15) hx hb hts (by decide +kernel) tyX4 tyX4_ok nmX4 hown hK hP hD hS 0 rfl rfl 9 (by decide) (hts (.fieldLink RX4 85 "SteamBendsModel" "pieces" "I") (by decide +kernel)) (fun _ h9 => h9) rfl (by decide +kernel) rfl rfl (Nat.le_of_ble_eq_true rfl) dX4_piece_86 (fun H locs hP hD hS => ?_)
          have hP : va_P (dC, dI) vwCl [(mo, .inr (4, [.int 0, .ref a1, .ref a2, .ref a3, .ref a4, .ref a5, .ref a6, .ref a7, .ref a8, .int (nI (np + 1)), .ref a10, .ref a11, .int (nI kc), .double kr, .int fd])), (a10, .inl (cD, 12, .inr (.inr (.inr (.inl (vf_upd L np len)))))), (a11, .inl (cD, 12, .inr (.inr (.inr (.inl (vf_upd D np d))))))] H := hP
          have hD : va_D A [(mo, .inr (4, [.int 0, .ref a1, .ref a2, .ref a3, .ref a4, .ref a5, .ref a6, .ref a7, .ref a8, .int (nI (np + 1)), .ref a10, .ref a11, .int (nI kc), .double kr, .int fd])), (a10, .inl (cD, 12, .inr (.inr (.inr (.inl (vf_upd L np len)))))), (a11, .inl (cD, 12, .inr (.inr (.inr (.inl (vf_upd D np d))))))] := hD
          refine lv_aload_n hx hb dX4_piece_89 rfl (lv_at hl 0 rfl) ?_
          refine va_get (D := (dC, dI)) (ci := 4) (v := .int (nI (np + 1))) (C := RX4) (T := TX4) (N := 15) hx hb hts (by decide +kernel) hown hK hP 0 rfl rfl 9 (by decide) (hts (.fieldLink RX4 85 "SteamBendsModel" "pieces" "I") (by decide +kernel)) (fun _ h9 => h9) rfl dX4_piece_90 ?_
          have hP9 := hP.sub (ws' := [(mo, .inr (4, [.int 0, .ref a1, .ref a2, .ref a3, .ref a4, .ref a5, .ref a6, .ref a7, .ref a8, .int (nI (np + 1)), .ref a10, .ref a11, .int (nI kc), .double kr, .int fd])), (a10, .inl (cD, 12, .inr (.inr (.inr (.inl (vf_upd L np len)))))), (a11, .inl (cD, 12, .inr (.inr (.inr (.inl (vf_upd D np d))))))]) [0, 1, 2] rfl
          have hD9 := hD.sub (ws' := [(mo, .inr (4, [.int 0, .ref a1, .ref a2, .ref a3, .ref a4, .ref a5, .ref a6, .ref a7, .ref a8, .int (nI (np + 1)), .ref a10, .ref a11, .int (nI kc), .double kr, .int fd])), (a10, .inl (cD, 12, .inr (.inr (.inr (.inl (vf_upd L np len)))))), (a11, .inl (cD, 12, .inr (.inr (.inr (.inl (vf_upd D np d))))))]) [0, 1, 2] (by decide) rfl
          exact W.iret hx hb hr (fun t9s hht hW9 => ⟨⟨nI (np + 1), (0, (np + 1, vf_upd L np len, vf_upd D np d)), rfl, ⟨(by show (0 : Nat) = _; unfold cPc; (repeat' split) <;> omega), fun _ => rfl, (if_pos rfl).symm⟩, ⟨by rw [hht]; exact hP9, hD9⟩⟩, hS.F hht⟩) hS.2.2 dX4_piece_93
        · exact absurd c_54 (by decide)
      · have c_39 := (nI_eq (a := np) (b := 12) (by omega) (by omega)).mp c_39
        refine lv_iconst (v := 2) hx hb dX4_piece_42 (by decide) ?_
        refine lv_goto (tgt := 47) hx hb dX4_piece_43 (by decide) ?_
        refine va_put (D := (dC, dI)) (ci := 4) (v := .int 2) (ty := .int) (C := RX4) (T := TX4) (N := 15) hx hb hts (by decide +kernel) tyX4 tyX4_ok nmX4 hown hK hP hD hS 0 rfl rfl 0 (by decide) (hts (.fieldLink RX4 43 "SteamBendsModel" "code" "I") (by decide +kernel)) (fun _ h9 => h9) rfl (by decide +kernel) rfl rfl (Nat.le_of_ble_eq_true rfl) dX4_piece_47 (fun H locs hP hD hS => ?_)
        have hP : va_P (dC, dI) vwCl [(mo, .inr (4, [.int 2, .ref a1, .ref a2, .ref a3, .ref a4, .ref a5, .ref a6, .ref a7, .ref a8, .int (nI np), .ref a10, .ref a11, .int (nI kc), .double kr, .int fd])), (a10, .inl (cD, 12, .inr (.inr (.inr (.inl L))))), (a11, .inl (cD, 12, .inr (.inr (.inr (.inl D)))))] H := hP
        have hD : va_D A [(mo, .inr (4, [.int 2, .ref a1, .ref a2, .ref a3, .ref a4, .ref a5, .ref a6, .ref a7, .ref a8, .int (nI np), .ref a10, .ref a11, .int (nI kc), .double kr, .int fd])), (a10, .inl (cD, 12, .inr (.inr (.inr (.inl L))))), (a11, .inl (cD, 12, .inr (.inr (.inr (.inl D)))))] := hD
        refine lv_aload_n hx hb dX4_piece_50 rfl (lv_at hl 0 rfl) ?_
        refine va_get (D := (dC, dI)) (ci := 4) (v := .int 2) (C := RX4) (T := TX4) (N := 15) hx hb hts (by decide +kernel) hown hK hP 0 rfl rfl 0 (by decide) (hts (.fieldLink RX4 43 "SteamBendsModel" "code" "I") (by decide +kernel)) (fun _ h9 => h9) rfl dX4_piece_51 ?_
        refine lv_if_le (tgt := 59) hx hb dX4_piece_54 (by decide) (fun c_54 => ?_) (fun c_54 => ?_)
        · exact absurd c_54 (by decide)
        · refine lv_iconst (v := 0) hx hb dX4_piece_57 (by decide) ?_
          have hP9 := hP.sub (ws' := [(mo, .inr (4, [.int 2, .ref a1, .ref a2, .ref a3, .ref a4, .ref a5, .ref a6, .ref a7, .ref a8, .int (nI np), .ref a10, .ref a11, .int (nI kc), .double kr, .int fd])), (a10, .inl (cD, 12, .inr (.inr (.inr (.inl L))))), (a11, .inl (cD, 12, .inr (.inr (.inr (.inl D)))))]) [0, 1, 2] rfl
          have hD9 := hD.sub (ws' := [(mo, .inr (4, [.int 2, .ref a1, .ref a2, .ref a3, .ref a4, .ref a5, .ref a6, .ref a7, .ref a8, .int (nI np), .ref a10, .ref a11, .int (nI kc), .double kr, .int fd])), (a10, .inl (cD, 12, .inr (.inr (.inr (.inl L))))), (a11, .inl (cD, 12, .inr (.inr (.inr (.inl D)))))]) [0, 1, 2] (by decide) rfl
          exact W.iret hx hb hr (fun t9s hht hW9 => ⟨⟨0, (2, (np, L, D)), rfl, ⟨(by show (2 : Nat) = _; unfold cPc; (repeat' split) <;> omega), fun z => absurd z (by simp), (if_neg (show ¬ (2 : Nat) = 0 by decide)).symm⟩, ⟨by rw [hht]; exact hP9, hD9⟩⟩, hS.F hht⟩) hS.2.2 dX4_piece_58
    · have c_15 := mt (cv_eq (hd9.nn (by omega)) (dB_d0.nn (by omega))).mpr c_15
      refine lv_dload_n hx hb dX4_piece_18 rfl (lv_at hl 2 rfl) ?_
      refine lv_dconst1 hx hb dX4_piece_19 ?_
      refine lv_ldc2d (v := 4666723172467343360) hx hb hown (hts (.constantDouble RX4 59 (4666723172467343360)) (by decide +kernel)) dX4_piece_20 ?_
      refine va_calli (va_runS (As := [.double d, .double FP.dconst1, .double 4666723172467343360]) (rest := [.ref mo]) ⟨hx, hb, hml, hown, hts⟩ (m_X4_isIn l d FP.dconst1 4666723172467343360 (hd9.nn (by omega)) (dB_d1.nn (by omega)) ((by unfold dB; decide +kernel : dB 1037 4666723172467343360).nn (by omega))) (va_cwS 3 hts gX4_piece_X4_isIn rfl rfl rfl (by decide +kernel) ⟨(Nat.le_of_ble_eq_true rfl), (Nat.le_of_ble_eq_true rfl)⟩) ⟨fun a U g mk q => q, fun U9 hU9 hW9 => ⟨rfl, trivial⟩⟩ rfl rfl hl.1 rfl (lv_room (Nat.le_of_ble_eq_true rfl)) dX4_piece_23 ⟨(Nat.le_of_ble_eq_true rfl), (Nat.le_of_ble_eq_true rfl)⟩) hS (fun q _ h => h.elim) (fun q h => h.elim) (fun r_155 u9s t9s H1 locs hht hvm9 hw_23_k_154 hB hz1 hk1 hS => ?_)
      have hP := va_still hP hk1
      generalize H1 = H at hP hS ⊢
      refine lv_if_ne (tgt := 33) hx hb dX4_piece_26 (by decide) (fun c_26 => ?_) (fun c_26 => ?_)
      · have c_26 := (b01n hw_23_k_154).mp c_26
        refine lv_aload_n hx hb dX4_piece_33 rfl (lv_at hl 0 rfl) ?_
        refine va_get (D := (dC, dI)) (ci := 4) (v := .int (nI np)) (C := RX4) (T := TX4) (N := 15) hx hb hts (by decide +kernel) hown hK hP 0 rfl rfl 9 (by decide) (hts (.fieldLink RX4 85 "SteamBendsModel" "pieces" "I") (by decide +kernel)) (fun _ h9 => h9) rfl dX4_piece_34 ?_
        refine lv_bipush (v := 12) hx hb dX4_piece_37 (by decide) ?_
        refine lv_icmp_ne (tgt := 46) hx hb dX4_piece_39 (by decide) (fun c_39 => ?_) (fun c_39 => ?_)
        · have c_39 := mt (nI_eq (a := np) (b := 12) (by omega) (by omega)).mpr c_39
          refine lv_iconst (v := 0) hx hb dX4_piece_46 (by decide) ?_
          refine va_put (D := (dC, dI)) (ci := 4) (v := .int 0) (ty := .int) (C := RX4) (T := TX4) (N := 15) hx hb hts (by decide +kernel) tyX4 tyX4_ok nmX4 hown hK hP hD hS 0 rfl rfl 0 (by decide) (hts (.fieldLink RX4 43 "SteamBendsModel" "code" "I") (by decide +kernel)) (fun _ h9 => h9) rfl (by decide +kernel) rfl rfl (Nat.le_of_ble_eq_true rfl) dX4_piece_47 (fun H locs hP hD hS => ?_)
          have hP : va_P (dC, dI) vwCl [(mo, .inr (4, [.int 0, .ref a1, .ref a2, .ref a3, .ref a4, .ref a5, .ref a6, .ref a7, .ref a8, .int (nI np), .ref a10, .ref a11, .int (nI kc), .double kr, .int fd])), (a10, .inl (cD, 12, .inr (.inr (.inr (.inl L))))), (a11, .inl (cD, 12, .inr (.inr (.inr (.inl D)))))] H := hP
          have hD : va_D A [(mo, .inr (4, [.int 0, .ref a1, .ref a2, .ref a3, .ref a4, .ref a5, .ref a6, .ref a7, .ref a8, .int (nI np), .ref a10, .ref a11, .int (nI kc), .double kr, .int fd])), (a10, .inl (cD, 12, .inr (.inr (.inr (.inl L))))), (a11, .inl (cD, 12, .inr (.inr (.inr (.inl D)))))] := hD
          refine lv_aload_n hx hb dX4_piece_50 rfl (lv_at hl 0 rfl) ?_
          refine va_get (D := (dC, dI)) (ci := 4) (v := .int 0) (C := RX4) (T := TX4) (N := 15) hx hb hts (by decide +kernel) hown hK hP 0 rfl rfl 0 (by decide) (hts (.fieldLink RX4 43 "SteamBendsModel" "code" "I") (by decide +kernel)) (fun _ h9 => h9) rfl dX4_piece_51 ?_
          refine lv_if_le (tgt := 59) hx hb dX4_piece_54 (by decide) (fun c_54 => ?_) (fun c_54 => ?_)
          · refine lv_aload_n hx hb dX4_piece_59 rfl (lv_at hl 0 rfl) ?_
            refine va_get (D := (dC, dI)) (ci := 4) (v := .ref a10) (C := RX4) (T := TX4) (N := 15) hx hb hts (by decide +kernel) hown hK hP 0 rfl rfl 10 (by decide) (hts (.fieldLink RX4 35 "SteamBendsModel" "lengths" "[D") (by decide +kernel)) (fun _ h9 => h9) rfl dX4_piece_60 ?_
            refine lv_aload_n hx hb dX4_piece_63 rfl (lv_at hl 0 rfl) ?_
            refine va_get (D := (dC, dI)) (ci := 4) (v := .int (nI np)) (C := RX4) (T := TX4) (N := 15) hx hb hts (by decide +kernel) hown hK hP 0 rfl rfl 9 (by decide) (hts (.fieldLink RX4 85 "SteamBendsModel" "pieces" "I") (by decide +kernel)) (fun _ h9 => h9) rfl dX4_piece_64 ?_
            refine lv_dload_n hx hb dX4_piece_67 rfl (lv_at hl 1 rfl) ?_
            refine va_dastN hx hb hK hP hD hS 1 0 rfl rfl (j := np) (by omega) (by omega) dX4_piece_68 (fun H locs hP hD hS => ?_)
            have hP : va_P (dC, dI) vwCl [(mo, .inr (4, [.int 0, .ref a1, .ref a2, .ref a3, .ref a4, .ref a5, .ref a6, .ref a7, .ref a8, .int (nI np), .ref a10, .ref a11, .int (nI kc), .double kr, .int fd])), (a10, .inl (cD, 12, .inr (.inr (.inr (.inl (vf_upd L np len)))))), (a11, .inl (cD, 12, .inr (.inr (.inr (.inl D)))))] H := hP
            have hD : va_D A [(mo, .inr (4, [.int 0, .ref a1, .ref a2, .ref a3, .ref a4, .ref a5, .ref a6, .ref a7, .ref a8, .int (nI np), .ref a10, .ref a11, .int (nI kc), .double kr, .int fd])), (a10, .inl (cD, 12, .inr (.inr (.inr (.inl (vf_upd L np len)))))), (a11, .inl (cD, 12, .inr (.inr (.inr (.inl D)))))] := hD
            refine lv_aload_n hx hb dX4_piece_69 rfl (lv_at hl 0 rfl) ?_
            refine va_get (D := (dC, dI)) (ci := 4) (v := .ref a11) (C := RX4) (T := TX4) (N := 15) hx hb hts (by decide +kernel) hown hK hP 0 rfl rfl 11 (by decide) (hts (.fieldLink RX4 38 "SteamBendsModel" "bends" "[D") (by decide +kernel)) (fun _ h9 => h9) rfl dX4_piece_70 ?_
            refine lv_aload_n hx hb dX4_piece_73 rfl (lv_at hl 0 rfl) ?_
            refine va_get (D := (dC, dI)) (ci := 4) (v := .int (nI np)) (C := RX4) (T := TX4) (N := 15) hx hb hts (by decide +kernel) hown hK hP 0 rfl rfl 9 (by decide) (hts (.fieldLink RX4 85 "SteamBendsModel" "pieces" "I") (by decide +kernel)) (fun _ h9 => h9) rfl dX4_piece_74 ?_
            refine lv_dload_n hx hb dX4_piece_77 rfl (lv_at hl 2 rfl) ?_
            refine va_dastN hx hb hK hP hD hS 2 0 rfl rfl (j := np) (by omega) (by omega) dX4_piece_78 (fun H locs hP hD hS => ?_)
            have hP : va_P (dC, dI) vwCl [(mo, .inr (4, [.int 0, .ref a1, .ref a2, .ref a3, .ref a4, .ref a5, .ref a6, .ref a7, .ref a8, .int (nI np), .ref a10, .ref a11, .int (nI kc), .double kr, .int fd])), (a10, .inl (cD, 12, .inr (.inr (.inr (.inl (vf_upd L np len)))))), (a11, .inl (cD, 12, .inr (.inr (.inr (.inl (vf_upd D np d))))))] H := hP
            have hD : va_D A [(mo, .inr (4, [.int 0, .ref a1, .ref a2, .ref a3, .ref a4, .ref a5, .ref a6, .ref a7, .ref a8, .int (nI np), .ref a10, .ref a11, .int (nI kc), .double kr, .int fd])), (a10, .inl (cD, 12, .inr (.inr (.inr (.inl (vf_upd L np len)))))), (a11, .inl (cD, 12, .inr (.inr (.inr (.inl (vf_upd D np d))))))] := hD
            refine lv_aload_n hx hb dX4_piece_79 rfl (lv_at hl 0 rfl) ?_
            refine lv_dup hx hb dX4_piece_80 rfl ?_
            refine va_get (D := (dC, dI)) (ci := 4) (v := .int (nI np)) (C := RX4) (T := TX4) (N := 15) hx hb hts (by decide +kernel) hown hK hP 0 rfl rfl 9 (by decide) (hts (.fieldLink RX4 85 "SteamBendsModel" "pieces" "I") (by decide +kernel)) (fun _ h9 => h9) rfl dX4_piece_81 ?_
            refine lv_iconst (v := 1) hx hb dX4_piece_84 (by decide) ?_
            refine lv_iaddN (x := np) (y := 1) hx hb dX4_piece_85 ?_
            refine va_put (D := (dC, dI)) (ci := 4) (v := .int (nI (np + 1))) (ty := .int) (C := RX4) (T := TX4) (N := 15) hx hb hts (by decide +kernel) tyX4 tyX4_ok nmX4 hown hK hP hD hS 0 rfl rfl 9 (by decide) (hts (.fieldLink RX4 85 "SteamBendsModel" "pieces" "I") (by decide +kernel)) (fun _ h9 => h9) rfl (by decide +kernel) rfl rfl (Nat.le_of_ble_eq_true rfl) dX4_piece_86 (fun H locs hP hD hS => ?_)
            have hP : va_P (dC, dI) vwCl [(mo, .inr (4, [.int 0, .ref a1, .ref a2, .ref a3, .ref a4, .ref a5, .ref a6, .ref a7, .ref a8, .int (nI (np + 1)), .ref a10, .ref a11, .int (nI kc), .double kr, .int fd])), (a10, .inl (cD, 12, .inr (.inr (.inr (.inl (vf_upd L np len)))))), (a11, .inl (cD, 12, .inr (.inr (.inr (.inl (vf_upd D np d))))))] H := hP
            have hD : va_D A [(mo, .inr (4, [.int 0, .ref a1, .ref a2, .ref a3, .ref a4, .ref a5, .ref a6, .ref a7, .ref a8, .int (nI (np + 1)), .ref a10, .ref a11, .int (nI kc), .double kr, .int fd])), (a10, .inl (cD, 12, .inr (.inr (.inr (.inl (vf_upd L np len)))))), (a11, .inl (cD, 12, .inr (.inr (.inr (.inl (vf_upd D np d))))))] := hD
            refine lv_aload_n hx hb dX4_piece_89 rfl (lv_at hl 0 rfl) ?_
            refine va_get (D := (dC, dI)) (ci := 4) (v := .int (nI (np + 1))) (C := RX4) (T := TX4) (N := 15) hx hb hts (by decide +kernel) hown hK hP 0 rfl rfl 9 (by decide) (hts (.fieldLink RX4 85 "SteamBendsModel" "pieces" "I") (by decide +kernel)) (fun _ h9 => h9) rfl dX4_piece_90 ?_
            have hP9 := hP.sub (ws' := [(mo, .inr (4, [.int 0, .ref a1, .ref a2, .ref a3, .ref a4, .ref a5, .ref a6, .ref a7, .ref a8, .int (nI (np + 1)), .ref a10, .ref a11, .int (nI kc), .double kr, .int fd])), (a10, .inl (cD, 12, .inr (.inr (.inr (.inl (vf_upd L np len)))))), (a11, .inl (cD, 12, .inr (.inr (.inr (.inl (vf_upd D np d))))))]) [0, 1, 2] rfl
            have hD9 := hD.sub (ws' := [(mo, .inr (4, [.int 0, .ref a1, .ref a2, .ref a3, .ref a4, .ref a5, .ref a6, .ref a7, .ref a8, .int (nI (np + 1)), .ref a10, .ref a11, .int (nI kc), .double kr, .int fd])), (a10, .inl (cD, 12, .inr (.inr (.inr (.inl (vf_upd L np len)))))), (a11, .inl (cD, 12, .inr (.inr (.inr (.inl (vf_upd D np d))))))]) [0, 1, 2] (by decide) rfl
            exact W.iret hx hb hr (fun t9s hht hW9 => ⟨⟨nI (np + 1), (0, (np + 1, vf_upd L np len, vf_upd D np d)), rfl, ⟨(by show (0 : Nat) = _; unfold cPc; (repeat' split) <;> omega), fun _ => rfl, (if_pos rfl).symm⟩, ⟨by rw [hht]; exact hP9, hD9⟩⟩, hS.F hht⟩) hS.2.2 dX4_piece_93
          · exact absurd c_54 (by decide)
        · have c_39 := (nI_eq (a := np) (b := 12) (by omega) (by omega)).mp c_39
          refine lv_iconst (v := 2) hx hb dX4_piece_42 (by decide) ?_
          refine lv_goto (tgt := 47) hx hb dX4_piece_43 (by decide) ?_
          refine va_put (D := (dC, dI)) (ci := 4) (v := .int 2) (ty := .int) (C := RX4) (T := TX4) (N := 15) hx hb hts (by decide +kernel) tyX4 tyX4_ok nmX4 hown hK hP hD hS 0 rfl rfl 0 (by decide) (hts (.fieldLink RX4 43 "SteamBendsModel" "code" "I") (by decide +kernel)) (fun _ h9 => h9) rfl (by decide +kernel) rfl rfl (Nat.le_of_ble_eq_true rfl) dX4_piece_47 (fun H locs hP hD hS => ?_)
          have hP : va_P (dC, dI) vwCl [(mo, .inr (4, [.int 2, .ref a1, .ref a2, .ref a3, .ref a4, .ref a5, .ref a6, .ref a7, .ref a8, .int (nI np), .ref a10, .ref a11, .int (nI kc), .double kr, .int fd])), (a10, .inl (cD, 12, .inr (.inr (.inr (.inl L))))), (a11, .inl (cD, 12, .inr (.inr (.inr (.inl D)))))] H := hP
          have hD : va_D A [(mo, .inr (4, [.int 2, .ref a1, .ref a2, .ref a3, .ref a4, .ref a5, .ref a6, .ref a7, .ref a8, .int (nI np), .ref a10, .ref a11, .int (nI kc), .double kr, .int fd])), (a10, .inl (cD, 12, .inr (.inr (.inr (.inl L))))), (a11, .inl (cD, 12, .inr (.inr (.inr (.inl D)))))] := hD
          refine lv_aload_n hx hb dX4_piece_50 rfl (lv_at hl 0 rfl) ?_
          refine va_get (D := (dC, dI)) (ci := 4) (v := .int 2) (C := RX4) (T := TX4) (N := 15) hx hb hts (by decide +kernel) hown hK hP 0 rfl rfl 0 (by decide) (hts (.fieldLink RX4 43 "SteamBendsModel" "code" "I") (by decide +kernel)) (fun _ h9 => h9) rfl dX4_piece_51 ?_
          refine lv_if_le (tgt := 59) hx hb dX4_piece_54 (by decide) (fun c_54 => ?_) (fun c_54 => ?_)
          · exact absurd c_54 (by decide)
          · refine lv_iconst (v := 0) hx hb dX4_piece_57 (by decide) ?_
            have hP9 := hP.sub (ws' := [(mo, .inr (4, [.int 2, .ref a1, .ref a2, .ref a3, .ref a4, .ref a5, .ref a6, .ref a7, .ref a8, .int (nI np), .ref a10, .ref a11, .int (nI kc), .double kr, .int fd])), (a10, .inl (cD, 12, .inr (.inr (.inr (.inl L))))), (a11, .inl (cD, 12, .inr (.inr (.inr (.inl D)))))]) [0, 1, 2] rfl
            have hD9 := hD.sub (ws' := [(mo, .inr (4, [.int 2, .ref a1, .ref a2, .ref a3, .ref a4, .ref a5, .ref a6, .ref a7, .ref a8, .int (nI np), .ref a10, .ref a11, .int (nI kc), .double kr, .int fd])), (a10, .inl (cD, 12, .inr (.inr (.inr (.inl L))))), (a11, .inl (cD, 12, .inr (.inr (.inr (.inl D)))))]) [0, 1, 2] (by decide) rfl
            exact W.iret hx hb hr (fun t9s hht hW9 => ⟨⟨0, (2, (np, L, D)), rfl, ⟨(by show (2 : Nat) = _; unfold cPc; (repeat' split) <;> omega), fun z => absurd z (by simp), (if_neg (show ¬ (2 : Nat) = 0 by decide)).symm⟩, ⟨by rw [hht]; exact hP9, hD9⟩⟩, hS.F hht⟩) hS.2.2 dX4_piece_58
      · have c_26 := (b01 hw_23_k_154).mp c_26
        refine lv_iconst (v := 1) hx hb dX4_piece_29 (by decide) ?_
        refine lv_goto (tgt := 47) hx hb dX4_piece_30 (by decide) ?_
        refine va_put (D := (dC, dI)) (ci := 4) (v := .int 1) (ty := .int) (C := RX4) (T := TX4) (N := 15) hx hb hts (by decide +kernel) tyX4 tyX4_ok nmX4 hown hK hP hD hS 0 rfl rfl 0 (by decide) (hts (.fieldLink RX4 43 "SteamBendsModel" "code" "I") (by decide +kernel)) (fun _ h9 => h9) rfl (by decide +kernel) rfl rfl (Nat.le_of_ble_eq_true rfl) dX4_piece_47 (fun H locs hP hD hS => ?_)
        have hP : va_P (dC, dI) vwCl [(mo, .inr (4, [.int 1, .ref a1, .ref a2, .ref a3, .ref a4, .ref a5, .ref a6, .ref a7, .ref a8, .int (nI np), .ref a10, .ref a11, .int (nI kc), .double kr, .int fd])), (a10, .inl (cD, 12, .inr (.inr (.inr (.inl L))))), (a11, .inl (cD, 12, .inr (.inr (.inr (.inl D)))))] H := hP
        have hD : va_D A [(mo, .inr (4, [.int 1, .ref a1, .ref a2, .ref a3, .ref a4, .ref a5, .ref a6, .ref a7, .ref a8, .int (nI np), .ref a10, .ref a11, .int (nI kc), .double kr, .int fd])), (a10, .inl (cD, 12, .inr (.inr (.inr (.inl L))))), (a11, .inl (cD, 12, .inr (.inr (.inr (.inl D)))))] := hD
        refine lv_aload_n hx hb dX4_piece_50 rfl (lv_at hl 0 rfl) ?_
        refine va_get (D := (dC, dI)) (ci := 4) (v := .int 1) (C := RX4) (T := TX4) (N := 15) hx hb hts (by decide +kernel) hown hK hP 0 rfl rfl 0 (by decide) (hts (.fieldLink RX4 43 "SteamBendsModel" "code" "I") (by decide +kernel)) (fun _ h9 => h9) rfl dX4_piece_51 ?_
        refine lv_if_le (tgt := 59) hx hb dX4_piece_54 (by decide) (fun c_54 => ?_) (fun c_54 => ?_)
        · exact absurd c_54 (by decide)
        · refine lv_iconst (v := 0) hx hb dX4_piece_57 (by decide) ?_
          have hP9 := hP.sub (ws' := [(mo, .inr (4, [.int 1, .ref a1, .ref a2, .ref a3, .ref a4, .ref a5, .ref a6, .ref a7, .ref a8, .int (nI np), .ref a10, .ref a11, .int (nI kc), .double kr, .int fd])), (a10, .inl (cD, 12, .inr (.inr (.inr (.inl L))))), (a11, .inl (cD, 12, .inr (.inr (.inr (.inl D)))))]) [0, 1, 2] rfl
          have hD9 := hD.sub (ws' := [(mo, .inr (4, [.int 1, .ref a1, .ref a2, .ref a3, .ref a4, .ref a5, .ref a6, .ref a7, .ref a8, .int (nI np), .ref a10, .ref a11, .int (nI kc), .double kr, .int fd])), (a10, .inl (cD, 12, .inr (.inr (.inr (.inl L))))), (a11, .inl (cD, 12, .inr (.inr (.inr (.inl D)))))]) [0, 1, 2] (by decide) rfl
          exact W.iret hx hb hr (fun t9s hht hW9 => ⟨⟨0, (1, (np, L, D)), rfl, ⟨(by show (1 : Nat) = _; unfold cPc; (repeat' split) <;> omega), fun z => absurd z (by simp), (if_neg (show ¬ (1 : Nat) = 0 by decide)).symm⟩, ⟨by rw [hht]; exact hP9, hD9⟩⟩, hS.F hht⟩) hS.2.2 dX4_piece_58

set_option maxHeartbeats 4000000 in
set_option maxRecDepth 100000 in
theorem m_X4_clear (l : Launch) (dC : Nat → ClassId) (dI : Nat → Nat → Nat) (sz : Nat) (cI cD : ClassId) (mo a1 a2 a3 a4 a5 a6 a7 a8 a10 a11 : Nat) (cd : Int32) (np kc : Nat) (kr : UInt64) (fd : Int32) : Met l yX4_clear wsX4_clear ({ frames := 0, cells := 0, slots := 0, locals := 0 } : Room) (va_Pc [.ref mo] (PW (dC, dI) [(cD, .double)] [(mo, .inr (4, [.int cd, .ref a1, .ref a2, .ref a3, .ref a4, .ref a5, .ref a6, .ref a7, .ref a8, .int (nI np), .ref a10, .ref a11, .int (nI kc), .double kr, .int fd]))] sz)) (va_Qv (fun (u : Unit) => True) (fun (u : Unit) => QW (dC, dI) [(mo, .inr (4, [.int 0, .ref a1, .ref a2, .ref a3, .ref a4, .ref a5, .ref a6, .ref a7, .ref a8, .int (nI 0), .ref a10, .ref a11, .int (nI kc), .double kr, .int fd]))] (va_A [(mo, .inr (4, [.int cd, .ref a1, .ref a2, .ref a3, .ref a4, .ref a5, .ref a6, .ref a7, .ref a8, .int (nI np), .ref a10, .ref a11, .int (nI kc), .double kr, .int fd]))] sz)) (va_A [(mo, .inr (4, [.int cd, .ref a1, .ref a2, .ref a3, .ref a4, .ref a5, .ref a6, .ref a7, .ref a8, .int (nI np), .ref a10, .ref a11, .int (nI kc), .double kr, .int fd]))] sz)) 0 0 (va_A [(mo, .inr (4, [.int cd, .ref a1, .ref a2, .ref a3, .ref a4, .ref a5, .ref a6, .ref a7, .ref a8, .int (nI np), .ref a10, .ref a11, .int (nI kc), .double kr, .int fd]))] sz) := by
  refine Met.ofW (cc := cX4_clear) (maxL := 1) (ret := none) (by decide) rfl ?_
  intro p e s m args below meth c s₁ BB hml hv
  obtain ⟨rfl, hsz, hP, hK, hD0, hN⟩ := hv
  have hx := BB.exec
  have hb := BB.bytes
  have hr := BB.returns
  have hts := atoms_spec (ws := wsX4_clear) BB.pre
  have hown : s.vm.findClass RX4 = some m.cls := findClass_of_methodNamed BB.named
  have hlocks := BB.notSynchronized
  subst hsz
  have hD := hD0.self (sz := s.heap.size)
  generalize hAe : va_A [(mo, .inr (4, [.int cd, .ref a1, .ref a2, .ref a3, .ref a4, .ref a5, .ref a6, .ref a7, .ref a8, .int (nI np), .ref a10, .ref a11, .int (nI kc), .double kr, .int fd]))] s.heap.size = A at hD ⊢
  have hA : ∀ q : Nat, s.heap.size ≤ q → A q := fun q h => by rw [← hAe]; exact Or.inr h
  have hS : va_S A s.heap s.heap [] := va_S.rf
  have hP : va_P (dC, dI) vwCl [(mo, .inr (4, [.int cd, .ref a1, .ref a2, .ref a3, .ref a4, .ref a5, .ref a6, .ref a7, .ref a8, .int (nI np), .ref a10, .ref a11, .int (nI kc), .double kr, .int fd]))] s.heap := hP
  have hl := lv_entry ([.ref mo]) (n := 1) (Nat.le_of_ble_eq_true rfl)
  rw [lg_entry_eq]
  generalize (lg_sl ([.ref mo]) ++ List.replicate (1 - (lg_sl ([.ref mo])).length) Slot.unset).toArray = ls at hl ⊢
  have hl : lv_has ls 1 [(0, .ref mo)] := hl
  refine lv_aload_n hx hb dX4_clear_0 rfl (lv_at hl 0 rfl) ?_
  refine lv_iconst (v := 0) hx hb dX4_clear_1 (by decide) ?_
  refine va_put (D := (dC, dI)) (ci := 4) (v := .int 0) (ty := .int) (C := RX4) (T := TX4) (N := 15) hx hb hts (by decide +kernel) tyX4 tyX4_ok nmX4 hown hK hP hD hS 0 rfl rfl 0 (by decide) (hts (.fieldLink RX4 43 "SteamBendsModel" "code" "I") (by decide +kernel)) (fun _ h9 => h9) rfl (by decide +kernel) rfl rfl (Nat.le_of_ble_eq_true rfl) dX4_clear_2 (fun H locs hP hD hS => ?_)
  have hP : va_P (dC, dI) vwCl [(mo, .inr (4, [.int 0, .ref a1, .ref a2, .ref a3, .ref a4, .ref a5, .ref a6, .ref a7, .ref a8, .int (nI np), .ref a10, .ref a11, .int (nI kc), .double kr, .int fd]))] H := hP
  have hD : va_D A [(mo, .inr (4, [.int 0, .ref a1, .ref a2, .ref a3, .ref a4, .ref a5, .ref a6, .ref a7, .ref a8, .int (nI np), .ref a10, .ref a11, .int (nI kc), .double kr, .int fd]))] := hD
  refine lv_aload_n hx hb dX4_clear_5 rfl (lv_at hl 0 rfl) ?_
  refine lv_iconst (v := 0) hx hb dX4_clear_6 (by decide) ?_
  refine va_put (D := (dC, dI)) (ci := 4) (v := .int 0) (ty := .int) (C := RX4) (T := TX4) (N := 15) hx hb hts (by decide +kernel) tyX4 tyX4_ok nmX4 hown hK hP hD hS 0 rfl rfl 9 (by decide) (hts (.fieldLink RX4 85 "SteamBendsModel" "pieces" "I") (by decide +kernel)) (fun _ h9 => h9) rfl (by decide +kernel) rfl rfl (Nat.le_of_ble_eq_true rfl) dX4_clear_7 (fun H locs hP hD hS => ?_)
  have hP : va_P (dC, dI) vwCl [(mo, .inr (4, [.int 0, .ref a1, .ref a2, .ref a3, .ref a4, .ref a5, .ref a6, .ref a7, .ref a8, .int 0, .ref a10, .ref a11, .int (nI kc), .double kr, .int fd]))] H := hP
  have hD : va_D A [(mo, .inr (4, [.int 0, .ref a1, .ref a2, .ref a3, .ref a4, .ref a5, .ref a6, .ref a7, .ref a8, .int 0, .ref a10, .ref a11, .int (nI kc), .double kr, .int fd]))] := hD
  have hP9 := hP.sub (ws' := [(mo, .inr (4, [.int 0, .ref a1, .ref a2, .ref a3, .ref a4, .ref a5, .ref a6, .ref a7, .ref a8, .int 0, .ref a10, .ref a11, .int (nI kc), .double kr, .int fd]))]) [0] rfl
  have hD9 := hD.sub (ws' := [(mo, .inr (4, [.int 0, .ref a1, .ref a2, .ref a3, .ref a4, .ref a5, .ref a6, .ref a7, .ref a8, .int 0, .ref a10, .ref a11, .int (nI kc), .double kr, .int fd]))]) [0] (by decide) rfl
  exact W.vret hx hb hr (fun t9s hht hW9 => ⟨⟨(), rfl, trivial, ⟨by rw [hht]; exact hP9, hD9⟩⟩, hS.F hht⟩) hS.2.2 dX4_clear_10

set_option maxHeartbeats 4000000 in
set_option maxRecDepth 100000 in
theorem m_X4_length (l : Launch) (dC : Nat → ClassId) (dI : Nat → Nat → Nat) (sz : Nat) (cI cD : ClassId) (mo a1 a2 a3 a4 a5 a6 a7 a8 a10 a11 : Nat) (cd : Int32) (np kc : Nat) (kr : UInt64) (fd : Int32) (L D : Nat → UInt64) (o : Int32) (t : UInt64) (ht : dB 1060 t) (hpc : piecesOK L D np) : Met l yX4_length wsX4_length ({ frames := 1, cells := 0, slots := 0, locals := 25 } : Room) (va_Pc [.ref mo, .int o, .double t] (PW (dC, dI) [(cD, .double)] [(mo, .inr (4, [.int cd, .ref a1, .ref a2, .ref a3, .ref a4, .ref a5, .ref a6, .ref a7, .ref a8, .int (nI np), .ref a10, .ref a11, .int (nI kc), .double kr, .int fd])), (a10, .inl (cD, 12, .inr (.inr (.inr (.inl L))))), (a11, .inl (cD, 12, .inr (.inr (.inr (.inl D)))))] sz)) (va_Qd (fun (r : UInt64) (u : Nat) => u = cLen t D np ∧ (u = 0 → r = sumL L D o t np)) (fun (u : Nat) => QW (dC, dI) [(mo, .inr (4, [.int (nI u), .ref a1, .ref a2, .ref a3, .ref a4, .ref a5, .ref a6, .ref a7, .ref a8, .int (nI np), .ref a10, .ref a11, .int (nI kc), .double kr, .int fd])), (a10, .inl (cD, 12, .inr (.inr (.inr (.inl L))))), (a11, .inl (cD, 12, .inr (.inr (.inr (.inl D)))))] (va_A [(mo, .inr (4, [.int cd, .ref a1, .ref a2, .ref a3, .ref a4, .ref a5, .ref a6, .ref a7, .ref a8, .int (nI np), .ref a10, .ref a11, .int (nI kc), .double kr, .int fd])), (a10, .inl (cD, 12, .inr (.inr (.inr (.inl L))))), (a11, .inl (cD, 12, .inr (.inr (.inr (.inl D)))))] sz)) (va_A [(mo, .inr (4, [.int cd, .ref a1, .ref a2, .ref a3, .ref a4, .ref a5, .ref a6, .ref a7, .ref a8, .int (nI np), .ref a10, .ref a11, .int (nI kc), .double kr, .int fd])), (a10, .inl (cD, 12, .inr (.inr (.inr (.inl L))))), (a11, .inl (cD, 12, .inr (.inr (.inr (.inl D)))))] sz)) 0 0 (va_A [(mo, .inr (4, [.int cd, .ref a1, .ref a2, .ref a3, .ref a4, .ref a5, .ref a6, .ref a7, .ref a8, .int (nI np), .ref a10, .ref a11, .int (nI kc), .double kr, .int fd])), (a10, .inl (cD, 12, .inr (.inr (.inr (.inl L))))), (a11, .inl (cD, 12, .inr (.inr (.inr (.inl D)))))] sz) := by
  refine Met.ofW (cc := cX4_length) (maxL := 12) (ret := (some .double)) (by decide) rfl ?_
  intro p e s m args below meth c s₁ BB hml hv
  obtain ⟨rfl, hsz, hP, hK, hD0, hN⟩ := hv
  have hx := BB.exec
  have hb := BB.bytes
  have hr := BB.returns
  have hts := atoms_spec (ws := wsX4_length) BB.pre
  have hown : s.vm.findClass RX4 = some m.cls := findClass_of_methodNamed BB.named
  have hlocks := BB.notSynchronized
  subst hsz
  have hD := hD0.self (sz := s.heap.size)
  generalize hAe : va_A [(mo, .inr (4, [.int cd, .ref a1, .ref a2, .ref a3, .ref a4, .ref a5, .ref a6, .ref a7, .ref a8, .int (nI np), .ref a10, .ref a11, .int (nI kc), .double kr, .int fd])), (a10, .inl (cD, 12, .inr (.inr (.inr (.inl L))))), (a11, .inl (cD, 12, .inr (.inr (.inr (.inl D)))))] s.heap.size = A at hD ⊢
  have hA : ∀ q : Nat, s.heap.size ≤ q → A q := fun q h => by rw [← hAe]; exact Or.inr h
  have hS : va_S A s.heap s.heap [] := va_S.rf
  have hP : va_P (dC, dI) vwCl [(mo, .inr (4, [.int cd, .ref a1, .ref a2, .ref a3, .ref a4, .ref a5, .ref a6, .ref a7, .ref a8, .int (nI np), .ref a10, .ref a11, .int (nI kc), .double kr, .int fd])), (a10, .inl (cD, 12, .inr (.inr (.inr (.inl L))))), (a11, .inl (cD, 12, .inr (.inr (.inr (.inl D)))))] s.heap := hP
  have hl := lv_entry ([.ref mo, .int o, .double t]) (n := 12) (Nat.le_of_ble_eq_true rfl)
  rw [lg_entry_eq]
  generalize (lg_sl ([.ref mo, .int o, .double t]) ++ List.replicate (12 - (lg_sl ([.ref mo, .int o, .double t])).length) Slot.unset).toArray = ls at hl ⊢
  have hl : lv_has ls 12 [(0, .ref mo), (1, .int o), (2, .double t)] := hl
  have hn12 := hpc.1
  have d0 := dv_d0
  have hhf := hf_dB ht
  refine lv_dload_n hx hb dX4_length_0 rfl (lv_at hl 2 rfl) ?_
  refine lv_dconst0 hx hb dX4_length_1 ?_
  refine lv_ldc2d (v := 4652007308841189376) hx hb hown (hts (.constantDouble RX4 53 (4652007308841189376)) (by decide +kernel)) dX4_length_2 ?_
  refine va_calli (va_runS (As := [.double t, .double FP.dconst0, .double 4652007308841189376]) (rest := []) ⟨hx, hb, hml, hown, hts⟩ (m_X4_isIn l t FP.dconst0 4652007308841189376 (ht.nn (by omega)) (dB_d0.nn (by omega)) ((by unfold dB; decide +kernel : dB 1033 4652007308841189376).nn (by omega))) (va_cwS 3 hts gX4_length_X4_isIn rfl rfl rfl (by decide +kernel) ⟨(Nat.le_of_ble_eq_true rfl), (Nat.le_of_ble_eq_true rfl)⟩) ⟨fun a U g mk q => q, fun U9 hU9 hW9 => ⟨rfl, trivial⟩⟩ rfl rfl hl.1 rfl (lv_room (Nat.le_of_ble_eq_true rfl)) dX4_length_5 ⟨(Nat.le_of_ble_eq_true rfl), (Nat.le_of_ble_eq_true rfl)⟩) hS (fun q _ h => h.elim) (fun q h => h.elim) (fun r_157 u9s t9s H1 locs hht hvm9 hw_5_k_156 hB hz1 hk1 hS => ?_)
  have hP := va_still hP hk1
  generalize H1 = H at hP hS ⊢
  refine W.eq (g2 := F0 m 8 ls (.int (gd t D 0) :: [])) (by rw [show r_157 = gd t D 0 from gd_0 hw_5_k_156]) ?_
  refine lv_istore (lv' := [(4, .int (gd t D 0)), (0, .ref mo), (1, .int o), (2, .double t)]) hx hb dX4_length_8 hl (by decide) rfl (fun ls hl => ?_)
  refine lv_iconst (v := 0) hx hb dX4_length_10 (by decide) ?_
  refine lv_istore (lv' := [(5, .int 0), (4, .int (gd t D 0)), (0, .ref mo), (1, .int o), (2, .double t)]) hx hb dX4_length_11 hl (by decide) rfl (fun ls hl => ?_)
  refine w_loop (σ := Nat) (fun n9 x9 H locs ls => lv_has ls 12 [(5, .int (nI x9)), (4, .int (gd t D x9)), (0, .ref mo), (1, .int o), (2, .double t)] ∧ va_P (dC, dI) vwCl [(mo, .inr (4, [.int cd, .ref a1, .ref a2, .ref a3, .ref a4, .ref a5, .ref a6, .ref a7, .ref a8, .int (nI np), .ref a10, .ref a11, .int (nI kc), .double kr, .int fd])), (a10, .inl (cD, 12, .inr (.inr (.inr (.inl L))))), (a11, .inl (cD, 12, .inr (.inr (.inr (.inl D)))))] H ∧ va_D A [(mo, .inr (4, [.int cd, .ref a1, .ref a2, .ref a3, .ref a4, .ref a5, .ref a6, .ref a7, .ref a8, .int (nI np), .ref a10, .ref a11, .int (nI kc), .double kr, .int fd])), (a10, .inl (cD, 12, .inr (.inr (.inr (.inl L))))), (a11, .inl (cD, 12, .inr (.inr (.inr (.inl D)))))] ∧ va_S A s.heap H locs ∧ x9 + n9 = np) (n0 := np) (x0 := 0) ⟨lv_sub hl [0, 1, 2, 3, 4] rfl, hP, hD, hS, (show 0 + np = np from by omega)⟩ ?_
  rintro n9 i9 H locs ls ⟨hl, hP, hD, hS, hi⟩ ih
  have hl : lv_has ls 12 [(5, .int (nI i9)), (4, .int (gd t D i9)), (0, .ref mo), (1, .int o), (2, .double t)] := hl
  have hP : va_P (dC, dI) vwCl [(mo, .inr (4, [.int cd, .ref a1, .ref a2, .ref a3, .ref a4, .ref a5, .ref a6, .ref a7, .ref a8, .int (nI np), .ref a10, .ref a11, .int (nI kc), .double kr, .int fd])), (a10, .inl (cD, 12, .inr (.inr (.inr (.inl L))))), (a11, .inl (cD, 12, .inr (.inr (.inr (.inl D)))))] H := hP
  have hD : va_D A [(mo, .inr (4, [.int cd, .ref a1, .ref a2, .ref a3, .ref a4, .ref a5, .ref a6, .ref a7, .ref a8, .int (nI np), .ref a10, .ref a11, .int (nI kc), .double kr, .int fd])), (a10, .inl (cD, 12, .inr (.inr (.inr (.inl L))))), (a11, .inl (cD, 12, .inr (.inr (.inr (.inl D)))))] := hD
  have hi : i9 + n9 = np := hi
  refine lv_iload hx hb dX4_length_13 (lv_at hl 0 rfl) ?_
  refine lv_aload_n hx hb dX4_length_15 rfl (lv_at hl 2 rfl) ?_
  refine va_get (D := (dC, dI)) (ci := 4) (v := .int (nI np)) (C := RX4) (T := TX4) (N := 15) hx hb hts (by decide +kernel) hown hK hP 0 rfl rfl 9 (by decide) (hts (.fieldLink RX4 85 "SteamBendsModel" "pieces" "I") (by decide +kernel)) (fun _ h9 => h9) rfl dX4_length_16 ?_
  refine lv_icmp_ge (tgt := 68) hx hb dX4_length_19 (by decide) (fun c_19 => ?_) (fun c_19 => ?_)
  · have c_19 := (nI_leI (a := np) (b := i9) (by omega) (by omega)).mp c_19
    refine lv_aload_n hx hb dX4_length_68 rfl (lv_at hl 2 rfl) ?_
    refine lv_iload hx hb dX4_length_69 (lv_at hl 1 rfl) ?_
    refine lv_if_eq (tgt := 78) hx hb dX4_length_71 (by decide) (fun c_71 => ?_) (fun c_71 => ?_)
    · have c_71 := (b01 (gd_hw t D i9)).mp c_71
      have e9 : i9 = np := by omega
      rw [e9] at c_71 hl
      rw [show gd t D np = 0 from if_neg c_71] at hl
      have c_71 := c_71
      have hl : lv_has ls 12 [(5, .int (nI np)), (4, .int 0), (0, .ref mo), (1, .int o), (2, .double t)] := hl
      refine lv_iconst (v := 1) hx hb dX4_length_78 (by decide) ?_
      refine va_put (D := (dC, dI)) (ci := 4) (v := .int 1) (ty := .int) (C := RX4) (T := TX4) (N := 15) hx hb hts (by decide +kernel) tyX4 tyX4_ok nmX4 hown hK hP hD hS 0 rfl rfl 0 (by decide) (hts (.fieldLink RX4 43 "SteamBendsModel" "code" "I") (by decide +kernel)) (fun _ h9 => h9) rfl (by decide +kernel) rfl rfl (Nat.le_of_ble_eq_true rfl) dX4_length_79 (fun H locs hP hD hS => ?_)
      have hP : va_P (dC, dI) vwCl [(mo, .inr (4, [.int 1, .ref a1, .ref a2, .ref a3, .ref a4, .ref a5, .ref a6, .ref a7, .ref a8, .int (nI np), .ref a10, .ref a11, .int (nI kc), .double kr, .int fd])), (a10, .inl (cD, 12, .inr (.inr (.inr (.inl L))))), (a11, .inl (cD, 12, .inr (.inr (.inr (.inl D)))))] H := hP
      have hD : va_D A [(mo, .inr (4, [.int 1, .ref a1, .ref a2, .ref a3, .ref a4, .ref a5, .ref a6, .ref a7, .ref a8, .int (nI np), .ref a10, .ref a11, .int (nI kc), .double kr, .int fd])), (a10, .inl (cD, 12, .inr (.inr (.inr (.inl L))))), (a11, .inl (cD, 12, .inr (.inr (.inr (.inl D)))))] := hD
      refine lv_dload_n hx hb dX4_length_82 rfl (lv_at hl 4 rfl) ?_
      refine lv_ldc2d (v := 4611686018427387904) hx hb hown (hts (.constantDouble RX4 74 (4611686018427387904)) (by decide +kernel)) dX4_length_83 ?_
      have b_158 : dB (1060) (FP.ddiv t 4611686018427387904) := dB.div ht (by unfold dL; decide +kernel : dL 1024 4611686018427387904) (by unfold dB; decide +kernel : dB 1025 4611686018427387904) (by omega) (by omega) (by omega) (by omega)
      refine lv_ddiv hx hb dX4_length_86 (b_158.ok (by omega)) ?_
      refine lv_dstore (lv' := [(5, .double (FP.ddiv t 4611686018427387904)), (4, .int 0), (0, .ref mo), (1, .int o), (2, .double t)]) hx hb dX4_length_87 hl (by decide) rfl (fun ls hl => ?_)
      refine lv_dconst0 hx hb dX4_length_89 ?_
      refine lv_dstore (lv' := [(7, .double FP.dconst0), (5, .double (FP.ddiv t 4611686018427387904)), (4, .int 0), (0, .ref mo), (1, .int o), (2, .double t)]) hx hb dX4_length_90 hl (by decide) rfl (fun ls hl => ?_)
      refine lv_iconst (v := 0) hx hb dX4_length_92 (by decide) ?_
      refine lv_istore (lv' := [(9, .int 0), (7, .double FP.dconst0), (5, .double (FP.ddiv t 4611686018427387904)), (4, .int 0), (0, .ref mo), (1, .int o), (2, .double t)]) hx hb dX4_length_93 hl (by decide) rfl (fun ls hl => ?_)
      refine lv_iload hx hb dX4_length_95 (lv_at hl 0 rfl) ?_
      refine lv_aload_n hx hb dX4_length_97 rfl (lv_at hl 4 rfl) ?_
      refine va_get (D := (dC, dI)) (ci := 4) (v := .int (nI np)) (C := RX4) (T := TX4) (N := 15) hx hb hts (by decide +kernel) hown hK hP 0 rfl rfl 9 (by decide) (hts (.fieldLink RX4 85 "SteamBendsModel" "pieces" "I") (by decide +kernel)) (fun _ h9 => h9) rfl dX4_length_98 ?_
      refine lv_icmp_ge (tgt := 174) hx hb dX4_length_101 (by decide) (fun c_101 => ?_) (fun c_101 => ?_)
      · have c_101 := (nI_leI (a := np) (b := 0) (by omega) (by omega)).mp c_101
        refine lv_dload hx hb dX4_length_174 (lv_at hl 1 rfl) ?_
        have hP9 := hP.sub (ws' := [(mo, .inr (4, [.int 1, .ref a1, .ref a2, .ref a3, .ref a4, .ref a5, .ref a6, .ref a7, .ref a8, .int (nI np), .ref a10, .ref a11, .int (nI kc), .double kr, .int fd])), (a10, .inl (cD, 12, .inr (.inr (.inr (.inl L))))), (a11, .inl (cD, 12, .inr (.inr (.inr (.inl D)))))]) [0, 1, 2] rfl
        have hD9 := hD.sub (ws' := [(mo, .inr (4, [.int 1, .ref a1, .ref a2, .ref a3, .ref a4, .ref a5, .ref a6, .ref a7, .ref a8, .int (nI np), .ref a10, .ref a11, .int (nI kc), .double kr, .int fd])), (a10, .inl (cD, 12, .inr (.inr (.inr (.inl L))))), (a11, .inl (cD, 12, .inr (.inr (.inr (.inl D)))))]) [0, 1, 2] (by decide) rfl
        exact W.dret hx hb hr (fun t9s hht hW9 => ⟨⟨FP.dconst0, 1, rfl, ⟨(by show (1 : Nat) = _; unfold cLen; rw [if_pos c_71]), fun z => absurd z (by simp)⟩, ⟨by rw [hht]; exact hP9, hD9⟩⟩, hS.F hht⟩) hS.2.2 dX4_length_176
      · have c_101 := mt (nI_leI (a := np) (b := 0) (by omega) (by omega)).mpr c_101
        refine lv_iload hx hb dX4_length_104 (lv_at hl 3 rfl) ?_
        refine lv_if_eq (tgt := 174) hx hb dX4_length_106 (by decide) (fun c_106 => ?_) (fun c_106 => ?_)
        · refine lv_dload hx hb dX4_length_174 (lv_at hl 1 rfl) ?_
          have hP9 := hP.sub (ws' := [(mo, .inr (4, [.int 1, .ref a1, .ref a2, .ref a3, .ref a4, .ref a5, .ref a6, .ref a7, .ref a8, .int (nI np), .ref a10, .ref a11, .int (nI kc), .double kr, .int fd])), (a10, .inl (cD, 12, .inr (.inr (.inr (.inl L))))), (a11, .inl (cD, 12, .inr (.inr (.inr (.inl D)))))]) [0, 1, 2] rfl
          have hD9 := hD.sub (ws' := [(mo, .inr (4, [.int 1, .ref a1, .ref a2, .ref a3, .ref a4, .ref a5, .ref a6, .ref a7, .ref a8, .int (nI np), .ref a10, .ref a11, .int (nI kc), .double kr, .int fd])), (a10, .inl (cD, 12, .inr (.inr (.inr (.inl L))))), (a11, .inl (cD, 12, .inr (.inr (.inr (.inl D)))))]) [0, 1, 2] (by decide) rfl
          exact W.dret hx hb hr (fun t9s hht hW9 => ⟨⟨FP.dconst0, 1, rfl, ⟨(by show (1 : Nat) = _; unfold cLen; rw [if_pos c_71]), fun z => absurd z (by simp)⟩, ⟨by rw [hht]; exact hP9, hD9⟩⟩, hS.F hht⟩) hS.2.2 dX4_length_176
        · exact absurd c_106 (by decide)
    · have c_71 := (b01n (gd_hw t D i9)).mp c_71
      have e9 : i9 = np := by omega
      rw [e9] at c_71 hl
      rw [show gd t D np = 1 from if_pos c_71] at hl
      have c_71 := c_71
      have hl : lv_has ls 12 [(5, .int (nI np)), (4, .int 1), (0, .ref mo), (1, .int o), (2, .double t)] := hl
      refine lv_iconst (v := 0) hx hb dX4_length_74 (by decide) ?_
      refine lv_goto (tgt := 79) hx hb dX4_length_75 (by decide) ?_
      refine va_put (D := (dC, dI)) (ci := 4) (v := .int 0) (ty := .int) (C := RX4) (T := TX4) (N := 15) hx hb hts (by decide +kernel) tyX4 tyX4_ok nmX4 hown hK hP hD hS 0 rfl rfl 0 (by decide) (hts (.fieldLink RX4 43 "SteamBendsModel" "code" "I") (by decide +kernel)) (fun _ h9 => h9) rfl (by decide +kernel) rfl rfl (Nat.le_of_ble_eq_true rfl) dX4_length_79 (fun H locs hP hD hS => ?_)
      have hP : va_P (dC, dI) vwCl [(mo, .inr (4, [.int 0, .ref a1, .ref a2, .ref a3, .ref a4, .ref a5, .ref a6, .ref a7, .ref a8, .int (nI np), .ref a10, .ref a11, .int (nI kc), .double kr, .int fd])), (a10, .inl (cD, 12, .inr (.inr (.inr (.inl L))))), (a11, .inl (cD, 12, .inr (.inr (.inr (.inl D)))))] H := hP
      have hD : va_D A [(mo, .inr (4, [.int 0, .ref a1, .ref a2, .ref a3, .ref a4, .ref a5, .ref a6, .ref a7, .ref a8, .int (nI np), .ref a10, .ref a11, .int (nI kc), .double kr, .int fd])), (a10, .inl (cD, 12, .inr (.inr (.inr (.inl L))))), (a11, .inl (cD, 12, .inr (.inr (.inr (.inl D)))))] := hD
      refine lv_dload_n hx hb dX4_length_82 rfl (lv_at hl 4 rfl) ?_
      refine lv_ldc2d (v := 4611686018427387904) hx hb hown (hts (.constantDouble RX4 74 (4611686018427387904)) (by decide +kernel)) dX4_length_83 ?_
      have b_159 : dB (1060) (FP.ddiv t 4611686018427387904) := dB.div ht (by unfold dL; decide +kernel : dL 1024 4611686018427387904) (by unfold dB; decide +kernel : dB 1025 4611686018427387904) (by omega) (by omega) (by omega) (by omega)
      refine lv_ddiv hx hb dX4_length_86 (b_159.ok (by omega)) ?_
      refine lv_dstore (lv' := [(5, .double (FP.ddiv t 4611686018427387904)), (4, .int 1), (0, .ref mo), (1, .int o), (2, .double t)]) hx hb dX4_length_87 hl (by decide) rfl (fun ls hl => ?_)
      refine lv_dconst0 hx hb dX4_length_89 ?_
      refine lv_dstore (lv' := [(7, .double FP.dconst0), (5, .double (FP.ddiv t 4611686018427387904)), (4, .int 1), (0, .ref mo), (1, .int o), (2, .double t)]) hx hb dX4_length_90 hl (by decide) rfl (fun ls hl => ?_)
      refine lv_iconst (v := 0) hx hb dX4_length_92 (by decide) ?_
      refine lv_istore (lv' := [(9, .int 0), (7, .double FP.dconst0), (5, .double (FP.ddiv t 4611686018427387904)), (4, .int 1), (0, .ref mo), (1, .int o), (2, .double t)]) hx hb dX4_length_93 hl (by decide) rfl (fun ls hl => ?_)
      refine w_loop (σ := Nat) (fun n9 x9 H locs ls => lv_has ls 12 [(9, .int (nI x9)), (7, .double (sumL L D o t x9)), (5, .double (FP.ddiv t 4611686018427387904)), (4, .int 1), (0, .ref mo), (1, .int o), (2, .double t)] ∧ va_P (dC, dI) vwCl [(mo, .inr (4, [.int 0, .ref a1, .ref a2, .ref a3, .ref a4, .ref a5, .ref a6, .ref a7, .ref a8, .int (nI np), .ref a10, .ref a11, .int (nI kc), .double kr, .int fd])), (a10, .inl (cD, 12, .inr (.inr (.inr (.inl L))))), (a11, .inl (cD, 12, .inr (.inr (.inr (.inl D)))))] H ∧ va_D A [(mo, .inr (4, [.int 0, .ref a1, .ref a2, .ref a3, .ref a4, .ref a5, .ref a6, .ref a7, .ref a8, .int (nI np), .ref a10, .ref a11, .int (nI kc), .double kr, .int fd])), (a10, .inl (cD, 12, .inr (.inr (.inr (.inl L))))), (a11, .inl (cD, 12, .inr (.inr (.inr (.inl D)))))] ∧ va_S A s.heap H locs ∧ x9 + n9 = np) (n0 := np) (x0 := 0) ⟨lv_sub hl [0, 1, 2, 3, 4, 5, 6] rfl, hP, hD, hS, (show 0 + np = np from by omega)⟩ ?_
      rintro n9 i9 H locs ls ⟨hl, hP, hD, hS, hi⟩ ih
      have hl : lv_has ls 12 [(9, .int (nI i9)), (7, .double (sumL L D o t i9)), (5, .double (FP.ddiv t 4611686018427387904)), (4, .int 1), (0, .ref mo), (1, .int o), (2, .double t)] := hl
      have hP : va_P (dC, dI) vwCl [(mo, .inr (4, [.int 0, .ref a1, .ref a2, .ref a3, .ref a4, .ref a5, .ref a6, .ref a7, .ref a8, .int (nI np), .ref a10, .ref a11, .int (nI kc), .double kr, .int fd])), (a10, .inl (cD, 12, .inr (.inr (.inr (.inl L))))), (a11, .inl (cD, 12, .inr (.inr (.inr (.inl D)))))] H := hP
      have hD : va_D A [(mo, .inr (4, [.int 0, .ref a1, .ref a2, .ref a3, .ref a4, .ref a5, .ref a6, .ref a7, .ref a8, .int (nI np), .ref a10, .ref a11, .int (nI kc), .double kr, .int fd])), (a10, .inl (cD, 12, .inr (.inr (.inr (.inl L))))), (a11, .inl (cD, 12, .inr (.inr (.inr (.inl D)))))] := hD
      have hi : i9 + n9 = np := hi
      refine lv_iload hx hb dX4_length_95 (lv_at hl 0 rfl) ?_
      refine lv_aload_n hx hb dX4_length_97 rfl (lv_at hl 4 rfl) ?_
      refine va_get (D := (dC, dI)) (ci := 4) (v := .int (nI np)) (C := RX4) (T := TX4) (N := 15) hx hb hts (by decide +kernel) hown hK hP 0 rfl rfl 9 (by decide) (hts (.fieldLink RX4 85 "SteamBendsModel" "pieces" "I") (by decide +kernel)) (fun _ h9 => h9) rfl dX4_length_98 ?_
      refine lv_icmp_ge (tgt := 174) hx hb dX4_length_101 (by decide) (fun c_101 => ?_) (fun c_101 => ?_)
      · have c_101 := (nI_leI (a := np) (b := i9) (by omega) (by omega)).mp c_101
        refine lv_dload hx hb dX4_length_174 (lv_at hl 1 rfl) ?_
        have hP9 := hP.sub (ws' := [(mo, .inr (4, [.int 0, .ref a1, .ref a2, .ref a3, .ref a4, .ref a5, .ref a6, .ref a7, .ref a8, .int (nI np), .ref a10, .ref a11, .int (nI kc), .double kr, .int fd])), (a10, .inl (cD, 12, .inr (.inr (.inr (.inl L))))), (a11, .inl (cD, 12, .inr (.inr (.inr (.inl D)))))]) [0, 1, 2] rfl
        have hD9 := hD.sub (ws' := [(mo, .inr (4, [.int 0, .ref a1, .ref a2, .ref a3, .ref a4, .ref a5, .ref a6, .ref a7, .ref a8, .int (nI np), .ref a10, .ref a11, .int (nI kc), .double kr, .int fd])), (a10, .inl (cD, 12, .inr (.inr (.inr (.inl L))))), (a11, .inl (cD, 12, .inr (.inr (.inr (.inl D)))))]) [0, 1, 2] (by decide) rfl
        exact W.dret hx hb hr (fun t9s hht hW9 => ⟨⟨sumL L D o t i9, 0, rfl, ⟨(by show (0 : Nat) = _; unfold cLen; rw [if_neg (fun z => z c_71)]), fun _ => (by rw [show np = i9 by omega])⟩, ⟨by rw [hht]; exact hP9, hD9⟩⟩, hS.F hht⟩) hS.2.2 dX4_length_176
      · have c_101 := mt (nI_leI (a := np) (b := i9) (by omega) (by omega)).mpr c_101
        refine lv_iload hx hb dX4_length_104 (lv_at hl 3 rfl) ?_
        refine lv_if_eq (tgt := 174) hx hb dX4_length_106 (by decide) (fun c_106 => ?_) (fun c_106 => ?_)
        · exact absurd c_106 (by decide)
        · refine lv_aload_n hx hb dX4_length_109 rfl (lv_at hl 4 rfl) ?_
          refine va_get (D := (dC, dI)) (ci := 4) (v := .ref a11) (C := RX4) (T := TX4) (N := 15) hx hb hts (by decide +kernel) hown hK hP 0 rfl rfl 11 (by decide) (hts (.fieldLink RX4 38 "SteamBendsModel" "bends" "[D") (by decide +kernel)) (fun _ h9 => h9) rfl dX4_length_110 ?_
          refine lv_iload hx hb dX4_length_113 (lv_at hl 0 rfl) ?_
          refine va_daldN hx hb hK hP 2 0 rfl rfl (j := i9) (by omega) (by omega) dX4_length_115 ?_
          refine lv_dstore (lv' := [(10, .double (D i9)), (9, .int (nI i9)), (7, .double (sumL L D o t i9)), (5, .double (FP.ddiv t 4611686018427387904)), (4, .int 1), (0, .ref mo), (1, .int o), (2, .double t)]) hx hb dX4_length_116 hl (by decide) rfl (fun ls hl => ?_)
          refine lv_dload hx hb dX4_length_118 (lv_at hl 2 rfl) ?_
          refine lv_dload hx hb dX4_length_120 (lv_at hl 0 rfl) ?_
          refine lv_dconst0 hx hb dX4_length_122 ?_
          refine lv_dcmp hx hb dX4_length_123 ?_
          refine lv_if_ne (tgt := 137) hx hb dX4_length_124 (by decide) (fun c_124 => ?_) (fun c_124 => ?_)
          · have c_124 := mt (cv_eq (((hpc.2 (i9) (by omega)).2.1).nn (by omega)) (dB_d0.nn (by omega))).mpr c_124
            refine lv_aload_n hx hb dX4_length_137 rfl (lv_at hl 5 rfl) ?_
            refine va_get (D := (dC, dI)) (ci := 4) (v := .ref a10) (C := RX4) (T := TX4) (N := 15) hx hb hts (by decide +kernel) hown hK hP 0 rfl rfl 10 (by decide) (hts (.fieldLink RX4 35 "SteamBendsModel" "lengths" "[D") (by decide +kernel)) (fun _ h9 => h9) rfl dX4_length_138 ?_
            refine lv_iload hx hb dX4_length_141 (lv_at hl 1 rfl) ?_
            refine va_daldN hx hb hK hP 1 0 rfl rfl (j := i9) (by omega) (by omega) dX4_length_143 ?_
            refine lv_iload_n hx hb dX4_length_144 rfl (lv_at hl 6 rfl) ?_
            refine lv_if_eq (tgt := 156) hx hb dX4_length_145 (by decide) (fun c_145 => ?_) (fun c_145 => ?_)
            · refine lv_dload hx hb dX4_length_156 (lv_at hl 0 rfl) ?_
              refine lv_dload hx hb dX4_length_158 (lv_at hl 3 rfl) ?_
              have b_160 : dB (1062) (FP.dsub (D i9) (FP.ddiv t 4611686018427387904)) := dB.sub ((hpc.2 (i9) (by omega)).2.1) hhf (M := 1060) (by omega) (by omega) (by omega)
              refine lv_dsub hx hb dX4_length_160 (b_160.ok (by omega)) ?_
              have b_161 : dB (1100) (FP.dmul (L i9) (FP.dsub (D i9) (FP.ddiv t 4611686018427387904))) := dB.mul ((hpc.2 (i9) (by omega)).1) b_160 (by omega) (by omega) (by omega)
              refine lv_dmul hx hb dX4_length_161 (b_161.ok (by omega)) ?_
              refine lv_dload hx hb dX4_length_162 (lv_at hl 0 rfl) ?_
              have b_162 : dB (1101) (FP.ddiv (FP.dmul (L i9) (FP.dsub (D i9) (FP.ddiv t 4611686018427387904))) (D i9)) := dB.div b_161 (hpc.dL (i := i9) (by omega) (by have := (hpc.2 i9 (by omega)).2.2; have := dv_d1; have := U8_pos; omega)) ((hpc.2 (i9) (by omega)).2.1) (by omega) (by omega) (by omega) (by omega)
              refine lv_ddiv hx hb dX4_length_164 (b_162.ok (by omega)) ?_
              have b_163 : dB (1110 + 2 * i9 + 2) (FP.dadd (sumL L D o t i9) (FP.ddiv (FP.dmul (L i9) (FP.dsub (D i9) (FP.ddiv t 4611686018427387904))) (D i9))) := dB.add (sumL_dB (o := o) hpc ht i9 (by omega)) b_162 (M := 1110 + 2 * i9) (by omega) (by omega) (by omega)
              refine lv_dadd hx hb dX4_length_165 (b_163.ok (by omega)) ?_
              refine lv_dstore (lv' := [(7, .double (FP.dadd (sumL L D o t i9) (FP.ddiv (FP.dmul (L i9) (FP.dsub (D i9) (FP.ddiv t 4611686018427387904))) (D i9)))), (10, .double (D i9)), (9, .int (nI i9)), (5, .double (FP.ddiv t 4611686018427387904)), (4, .int 1), (0, .ref mo), (1, .int o), (2, .double t)]) hx hb dX4_length_166 hl (by decide) rfl (fun ls hl => ?_)
              refine lv_iinc (v := nI (i9 + 1)) (lv' := [(9, .int (nI (i9 + 1))), (7, .double (FP.dadd (sumL L D o t i9) (FP.ddiv (FP.dmul (L i9) (FP.dsub (D i9) (FP.ddiv t 4611686018427387904))) (D i9)))), (10, .double (D i9)), (5, .double (FP.ddiv t 4611686018427387904)), (4, .int 1), (0, .ref mo), (1, .int o), (2, .double t)]) hx hb dX4_length_168 hl (k := 2) rfl (show nI i9 + nI 1 = nI (i9 + 1) from nI_add _ _) (by decide) rfl (fun ls hl => ?_)
              refine lv_goto (tgt := 95) hx hb dX4_length_171 (by decide) ?_
              exact ih (n9 - 1) (by omega) (i9 + 1) _ _ _ ⟨(by
                  simp only [sumL, lenOf]
                  rw [if_pos (by have q9 := (hpc.2 i9 (by omega)).2.2; have := dv_d1; have := U8_pos; omega), if_pos c_145]
                  exact lv_sub hl [0, 1, 3, 4, 5, 6, 7] rfl), hP, hD, hS, (show (i9 + 1) + (n9 - 1) = np from by omega)⟩
            · refine lv_dload hx hb dX4_length_148 (lv_at hl 0 rfl) ?_
              refine lv_dload hx hb dX4_length_150 (lv_at hl 3 rfl) ?_
              have b_164 : dB (1062) (FP.dadd (D i9) (FP.ddiv t 4611686018427387904)) := dB.add ((hpc.2 (i9) (by omega)).2.1) hhf (M := 1060) (by omega) (by omega) (by omega)
              refine lv_dadd hx hb dX4_length_152 (b_164.ok (by omega)) ?_
              refine lv_goto (tgt := 161) hx hb dX4_length_153 (by decide) ?_
              have b_165 : dB (1100) (FP.dmul (L i9) (FP.dadd (D i9) (FP.ddiv t 4611686018427387904))) := dB.mul ((hpc.2 (i9) (by omega)).1) b_164 (by omega) (by omega) (by omega)
              refine lv_dmul hx hb dX4_length_161 (b_165.ok (by omega)) ?_
              refine lv_dload hx hb dX4_length_162 (lv_at hl 0 rfl) ?_
              have b_166 : dB (1101) (FP.ddiv (FP.dmul (L i9) (FP.dadd (D i9) (FP.ddiv t 4611686018427387904))) (D i9)) := dB.div b_165 (hpc.dL (i := i9) (by omega) (by have := (hpc.2 i9 (by omega)).2.2; have := dv_d1; have := U8_pos; omega)) ((hpc.2 (i9) (by omega)).2.1) (by omega) (by omega) (by omega) (by omega)
              refine lv_ddiv hx hb dX4_length_164 (b_166.ok (by omega)) ?_
              have b_167 : dB (1110 + 2 * i9 + 2) (FP.dadd (sumL L D o t i9) (FP.ddiv (FP.dmul (L i9) (FP.dadd (D i9) (FP.ddiv t 4611686018427387904))) (D i9))) := dB.add (sumL_dB (o := o) hpc ht i9 (by omega)) b_166 (M := 1110 + 2 * i9) (by omega) (by omega) (by omega)
              refine lv_dadd hx hb dX4_length_165 (b_167.ok (by omega)) ?_
              refine lv_dstore (lv' := [(7, .double (FP.dadd (sumL L D o t i9) (FP.ddiv (FP.dmul (L i9) (FP.dadd (D i9) (FP.ddiv t 4611686018427387904))) (D i9)))), (10, .double (D i9)), (9, .int (nI i9)), (5, .double (FP.ddiv t 4611686018427387904)), (4, .int 1), (0, .ref mo), (1, .int o), (2, .double t)]) hx hb dX4_length_166 hl (by decide) rfl (fun ls hl => ?_)
              refine lv_iinc (v := nI (i9 + 1)) (lv' := [(9, .int (nI (i9 + 1))), (7, .double (FP.dadd (sumL L D o t i9) (FP.ddiv (FP.dmul (L i9) (FP.dadd (D i9) (FP.ddiv t 4611686018427387904))) (D i9)))), (10, .double (D i9)), (5, .double (FP.ddiv t 4611686018427387904)), (4, .int 1), (0, .ref mo), (1, .int o), (2, .double t)]) hx hb dX4_length_168 hl (k := 2) rfl (show nI i9 + nI 1 = nI (i9 + 1) from nI_add _ _) (by decide) rfl (fun ls hl => ?_)
              refine lv_goto (tgt := 95) hx hb dX4_length_171 (by decide) ?_
              exact ih (n9 - 1) (by omega) (i9 + 1) _ _ _ ⟨(by
                  simp only [sumL, lenOf]
                  rw [if_pos (by have q9 := (hpc.2 i9 (by omega)).2.2; have := dv_d1; have := U8_pos; omega), if_neg c_145]
                  exact lv_sub hl [0, 1, 3, 4, 5, 6, 7] rfl), hP, hD, hS, (show (i9 + 1) + (n9 - 1) = np from by omega)⟩
          · have c_124 := (cv_eq (((hpc.2 (i9) (by omega)).2.1).nn (by omega)) (dB_d0.nn (by omega))).mp c_124
            refine lv_aload_n hx hb dX4_length_127 rfl (lv_at hl 5 rfl) ?_
            refine va_get (D := (dC, dI)) (ci := 4) (v := .ref a10) (C := RX4) (T := TX4) (N := 15) hx hb hts (by decide +kernel) hown hK hP 0 rfl rfl 10 (by decide) (hts (.fieldLink RX4 35 "SteamBendsModel" "lengths" "[D") (by decide +kernel)) (fun _ h9 => h9) rfl dX4_length_128 ?_
            refine lv_iload hx hb dX4_length_131 (lv_at hl 1 rfl) ?_
            refine va_daldN hx hb hK hP 1 0 rfl rfl (j := i9) (by omega) (by omega) dX4_length_133 ?_
            refine lv_goto (tgt := 165) hx hb dX4_length_134 (by decide) ?_
            have b_168 : dB (1110 + 2 * i9 + 2) (FP.dadd (sumL L D o t i9) (L i9)) := dB.add (sumL_dB (o := o) hpc ht i9 (by omega)) ((hpc.2 (i9) (by omega)).1) (M := 1110 + 2 * i9) (by omega) (by omega) (by omega)
            refine lv_dadd hx hb dX4_length_165 (b_168.ok (by omega)) ?_
            refine lv_dstore (lv' := [(7, .double (FP.dadd (sumL L D o t i9) (L i9))), (10, .double (D i9)), (9, .int (nI i9)), (5, .double (FP.ddiv t 4611686018427387904)), (4, .int 1), (0, .ref mo), (1, .int o), (2, .double t)]) hx hb dX4_length_166 hl (by decide) rfl (fun ls hl => ?_)
            refine lv_iinc (v := nI (i9 + 1)) (lv' := [(9, .int (nI (i9 + 1))), (7, .double (FP.dadd (sumL L D o t i9) (L i9))), (10, .double (D i9)), (5, .double (FP.ddiv t 4611686018427387904)), (4, .int 1), (0, .ref mo), (1, .int o), (2, .double t)]) hx hb dX4_length_168 hl (k := 2) rfl (show nI i9 + nI 1 = nI (i9 + 1) from nI_add _ _) (by decide) rfl (fun ls hl => ?_)
            refine lv_goto (tgt := 95) hx hb dX4_length_171 (by decide) ?_
            exact ih (n9 - 1) (by omega) (i9 + 1) _ _ _ ⟨(by
                simp only [sumL, lenOf]
                rw [if_neg (by omega)]
                exact lv_sub hl [0, 1, 3, 4, 5, 6, 7] rfl), hP, hD, hS, (show (i9 + 1) + (n9 - 1) = np from by omega)⟩
  · have c_19 := mt (nI_leI (a := np) (b := i9) (by omega) (by omega)).mpr c_19
    refine lv_iload hx hb dX4_length_22 (lv_at hl 1 rfl) ?_
    refine lv_if_eq (tgt := 59) hx hb dX4_length_24 (by decide) (fun c_24 => ?_) (fun c_24 => ?_)
    · have c_24 := (b01 (gd_hw t D i9)).mp c_24
      refine lv_iconst (v := 0) hx hb dX4_length_59 (by decide) ?_
      refine lv_istore (lv' := [(4, .int 0), (5, .int (nI i9)), (0, .ref mo), (1, .int o), (2, .double t)]) hx hb dX4_length_60 hl (by decide) rfl (fun ls hl => ?_)
      refine lv_iinc (v := nI (i9 + 1)) (lv' := [(5, .int (nI (i9 + 1))), (4, .int 0), (0, .ref mo), (1, .int o), (2, .double t)]) hx hb dX4_length_62 hl (k := 1) rfl (show nI i9 + nI 1 = nI (i9 + 1) from nI_add _ _) (by decide) rfl (fun ls hl => ?_)
      refine lv_goto (tgt := 13) hx hb dX4_length_65 (by decide) ?_
      have e9 : gd t D (i9 + 1) = _ := gd_no c_24
      exact ih (n9 - 1) (by omega) (i9 + 1) _ _ _ ⟨(by rw [e9]; exact lv_sub hl [0, 1, 2, 3, 4] rfl), hP, hD, hS, (show (i9 + 1) + (n9 - 1) = np from by omega)⟩
    · have c_24 := (b01n (gd_hw t D i9)).mp c_24
      refine lv_aload_n hx hb dX4_length_27 rfl (lv_at hl 2 rfl) ?_
      refine va_get (D := (dC, dI)) (ci := 4) (v := .ref a11) (C := RX4) (T := TX4) (N := 15) hx hb hts (by decide +kernel) hown hK hP 0 rfl rfl 11 (by decide) (hts (.fieldLink RX4 38 "SteamBendsModel" "bends" "[D") (by decide +kernel)) (fun _ h9 => h9) rfl dX4_length_28 ?_
      refine lv_iload hx hb dX4_length_31 (lv_at hl 0 rfl) ?_
      refine va_daldN hx hb hK hP 2 0 rfl rfl (j := i9) (by omega) (by omega) dX4_length_33 ?_
      refine lv_dconst0 hx hb dX4_length_34 ?_
      refine lv_dcmp hx hb dX4_length_35 ?_
      refine lv_if_eq (tgt := 55) hx hb dX4_length_36 (by decide) (fun c_36 => ?_) (fun c_36 => ?_)
      · have c_36 := (cv_eq (((hpc.2 (i9) (by omega)).2.1).nn (by omega)) (dB_d0.nn (by omega))).mp c_36
        refine lv_iconst (v := 1) hx hb dX4_length_55 (by decide) ?_
        refine lv_goto (tgt := 60) hx hb dX4_length_56 (by decide) ?_
        refine lv_istore (lv' := [(4, .int 1), (5, .int (nI i9)), (0, .ref mo), (1, .int o), (2, .double t)]) hx hb dX4_length_60 hl (by decide) rfl (fun ls hl => ?_)
        refine lv_iinc (v := nI (i9 + 1)) (lv' := [(5, .int (nI (i9 + 1))), (4, .int 1), (0, .ref mo), (1, .int o), (2, .double t)]) hx hb dX4_length_62 hl (k := 1) rfl (show nI i9 + nI 1 = nI (i9 + 1) from nI_add _ _) (by decide) rfl (fun ls hl => ?_)
        refine lv_goto (tgt := 13) hx hb dX4_length_65 (by decide) ?_
        have e9 : gd t D (i9 + 1) = _ := gd_yes c_24 (by omega)
        exact ih (n9 - 1) (by omega) (i9 + 1) _ _ _ ⟨(by rw [e9]; exact lv_sub hl [0, 1, 2, 3, 4] rfl), hP, hD, hS, (show (i9 + 1) + (n9 - 1) = np from by omega)⟩
      · have c_36 := mt (cv_eq (((hpc.2 (i9) (by omega)).2.1).nn (by omega)) (dB_d0.nn (by omega))).mpr c_36
        refine lv_dload_n hx hb dX4_length_39 rfl (lv_at hl 4 rfl) ?_
        refine lv_ldc2d (v := 4611686018427387904) hx hb hown (hts (.constantDouble RX4 74 (4611686018427387904)) (by decide +kernel)) dX4_length_40 ?_
        refine lv_aload_n hx hb dX4_length_43 rfl (lv_at hl 2 rfl) ?_
        refine va_get (D := (dC, dI)) (ci := 4) (v := .ref a11) (C := RX4) (T := TX4) (N := 15) hx hb hts (by decide +kernel) hown hK hP 0 rfl rfl 11 (by decide) (hts (.fieldLink RX4 38 "SteamBendsModel" "bends" "[D") (by decide +kernel)) (fun _ h9 => h9) rfl dX4_length_44 ?_
        refine lv_iload hx hb dX4_length_47 (lv_at hl 0 rfl) ?_
        refine va_daldN hx hb hK hP 2 0 rfl rfl (j := i9) (by omega) (by omega) dX4_length_49 ?_
        have b_169 : dB (1063) (FP.dmul 4611686018427387904 (D i9)) := dB.mul (by unfold dB; decide +kernel : dB 1025 4611686018427387904) ((hpc.2 (i9) (by omega)).2.1) (by omega) (by omega) (by omega)
        refine lv_dmul hx hb dX4_length_50 (b_169.ok (by omega)) ?_
        refine lv_dcmp hx hb dX4_length_51 ?_
        refine lv_if_gt (tgt := 59) hx hb dX4_length_52 (by decide) (fun c_52 => ?_) (fun c_52 => ?_)
        · have c_52 := (cv_gt (ht.nn (by omega)) (b_169.nn (by omega))).mp c_52
          refine lv_iconst (v := 0) hx hb dX4_length_59 (by decide) ?_
          refine lv_istore (lv' := [(4, .int 0), (5, .int (nI i9)), (0, .ref mo), (1, .int o), (2, .double t)]) hx hb dX4_length_60 hl (by decide) rfl (fun ls hl => ?_)
          refine lv_iinc (v := nI (i9 + 1)) (lv' := [(5, .int (nI (i9 + 1))), (4, .int 0), (0, .ref mo), (1, .int o), (2, .double t)]) hx hb dX4_length_62 hl (k := 1) rfl (show nI i9 + nI 1 = nI (i9 + 1) from nI_add _ _) (by decide) rfl (fun ls hl => ?_)
          refine lv_goto (tgt := 13) hx hb dX4_length_65 (by decide) ?_
          have e9 : gd t D (i9 + 1) = _ := gd_bad (by have q9 := (hpc.2 i9 (by omega)).2.2; have := dv_d1; have := U8_pos; omega) (by omega)
          exact ih (n9 - 1) (by omega) (i9 + 1) _ _ _ ⟨(by rw [e9]; exact lv_sub hl [0, 1, 2, 3, 4] rfl), hP, hD, hS, (show (i9 + 1) + (n9 - 1) = np from by omega)⟩
        · have c_52 := mt (cv_gt (ht.nn (by omega)) (b_169.nn (by omega))).mpr c_52
          refine lv_iconst (v := 1) hx hb dX4_length_55 (by decide) ?_
          refine lv_goto (tgt := 60) hx hb dX4_length_56 (by decide) ?_
          refine lv_istore (lv' := [(4, .int 1), (5, .int (nI i9)), (0, .ref mo), (1, .int o), (2, .double t)]) hx hb dX4_length_60 hl (by decide) rfl (fun ls hl => ?_)
          refine lv_iinc (v := nI (i9 + 1)) (lv' := [(5, .int (nI (i9 + 1))), (4, .int 1), (0, .ref mo), (1, .int o), (2, .double t)]) hx hb dX4_length_62 hl (k := 1) rfl (show nI i9 + nI 1 = nI (i9 + 1) from nI_add _ _) (by decide) rfl (fun ls hl => ?_)
          refine lv_goto (tgt := 13) hx hb dX4_length_65 (by decide) ?_
          have e9 : gd t D (i9 + 1) = _ := gd_yes c_24 (by omega)
          exact ih (n9 - 1) (by omega) (i9 + 1) _ _ _ ⟨(by rw [e9]; exact lv_sub hl [0, 1, 2, 3, 4] rfl), hP, hD, hS, (show (i9 + 1) + (n9 - 1) = np from by omega)⟩

set_option maxHeartbeats 4000000 in
set_option maxRecDepth 100000 in
theorem m_X4_kerfs (l : Launch) (dC : Nat → ClassId) (dI : Nat → Nat → Nat) (sz : Nat) (cI cD : ClassId) (mo a1 a2 a3 a4 a5 a6 a7 a8 a10 a11 : Nat) (cd : Int32) (np kc : Nat) (kr : UInt64) (fd : Int32) (a t st sw : UInt64) (za zt zs zw : Int) (ha : d8 za a) (ht : d8 zt t) (hs : d8 zs st) (hw : d8 zw sw) : Met l yX4_kerfs wsX4_kerfs ({ frames := 1, cells := 0, slots := 0, locals := 25 } : Room) (va_Pc [.ref mo, .double a, .double t, .double st, .double sw] (PW (dC, dI) [(cD, .double)] [(mo, .inr (4, [.int cd, .ref a1, .ref a2, .ref a3, .ref a4, .ref a5, .ref a6, .ref a7, .ref a8, .int (nI np), .ref a10, .ref a11, .int (nI kc), .double kr, .int fd]))] sz)) (va_Qi (fun (r : Int32) (u : Nat × Nat × UInt64) => u.1 = cKf a t st sw ∧ (u.1 = 0 → r = nI u.2.1 ∧ kerfN a (kfC t st sw) u.2.1 ∧ u.2.2 = FP.dsub (FP.dmul (FP.i2d (nI u.2.1)) (kfC t st sw)) a) ∧ (¬ u.1 = 0 → u.2 = (kc, kr))) (fun (u : Nat × Nat × UInt64) => QW (dC, dI) [(mo, .inr (4, [.int (nI u.1), .ref a1, .ref a2, .ref a3, .ref a4, .ref a5, .ref a6, .ref a7, .ref a8, .int (nI np), .ref a10, .ref a11, .int (nI u.2.1), .double u.2.2, .int fd]))] (va_A [(mo, .inr (4, [.int cd, .ref a1, .ref a2, .ref a3, .ref a4, .ref a5, .ref a6, .ref a7, .ref a8, .int (nI np), .ref a10, .ref a11, .int (nI kc), .double kr, .int fd]))] sz)) (va_A [(mo, .inr (4, [.int cd, .ref a1, .ref a2, .ref a3, .ref a4, .ref a5, .ref a6, .ref a7, .ref a8, .int (nI np), .ref a10, .ref a11, .int (nI kc), .double kr, .int fd]))] sz)) 0 0 (va_A [(mo, .inr (4, [.int cd, .ref a1, .ref a2, .ref a3, .ref a4, .ref a5, .ref a6, .ref a7, .ref a8, .int (nI np), .ref a10, .ref a11, .int (nI kc), .double kr, .int fd]))] sz) := by
  refine Met.ofW (cc := cX4_kerfs) (maxL := 13) (ret := (some .int)) (by decide) rfl ?_
  intro p e s m args below meth c s₁ BB hml hv
  obtain ⟨rfl, hsz, hP, hK, hD0, hN⟩ := hv
  have hx := BB.exec
  have hb := BB.bytes
  have hr := BB.returns
  have hts := atoms_spec (ws := wsX4_kerfs) BB.pre
  have hown : s.vm.findClass RX4 = some m.cls := findClass_of_methodNamed BB.named
  have hlocks := BB.notSynchronized
  subst hsz
  have hD := hD0.self (sz := s.heap.size)
  generalize hAe : va_A [(mo, .inr (4, [.int cd, .ref a1, .ref a2, .ref a3, .ref a4, .ref a5, .ref a6, .ref a7, .ref a8, .int (nI np), .ref a10, .ref a11, .int (nI kc), .double kr, .int fd]))] s.heap.size = A at hD ⊢
  have hA : ∀ q : Nat, s.heap.size ≤ q → A q := fun q h => by rw [← hAe]; exact Or.inr h
  have hS : va_S A s.heap s.heap [] := va_S.rf
  have hP : va_P (dC, dI) vwCl [(mo, .inr (4, [.int cd, .ref a1, .ref a2, .ref a3, .ref a4, .ref a5, .ref a6, .ref a7, .ref a8, .int (nI np), .ref a10, .ref a11, .int (nI kc), .double kr, .int fd]))] s.heap := hP
  have hl := lv_entry ([.ref mo, .double a, .double t, .double st, .double sw]) (n := 13) (Nat.le_of_ble_eq_true rfl)
  rw [lg_entry_eq]
  generalize (lg_sl ([.ref mo, .double a, .double t, .double st, .double sw]) ++ List.replicate (13 - (lg_sl ([.ref mo, .double a, .double t, .double st, .double sw])).length) Slot.unset).toArray = ls at hl ⊢
  have hl : lv_has ls 13 [(0, .ref mo), (1, .double a), (3, .double t), (5, .double st), (7, .double sw)] := hl
  refine lv_dload_n hx hb dX4_kerfs_0 rfl (lv_at hl 1 rfl) ?_
  refine lv_dconst1 hx hb dX4_kerfs_1 ?_
  refine lv_ldc2d (v := 4645040803167600640) hx hb hown (hts (.constantDouble RX4 88 (4645040803167600640)) (by decide +kernel)) dX4_kerfs_2 ?_
  refine va_calli (va_runS (As := [.double a, .double FP.dconst1, .double 4645040803167600640]) (rest := []) ⟨hx, hb, hml, hown, hts⟩ (m_X4_isIn l a FP.dconst1 4645040803167600640 (ha.1.nn (by omega)) (dB_d1.nn (by omega)) ((by unfold dB; decide +kernel : dB 1032 4645040803167600640).nn (by omega))) (va_cwS 3 hts gX4_kerfs_X4_isIn rfl rfl rfl (by decide +kernel) ⟨(Nat.le_of_ble_eq_true rfl), (Nat.le_of_ble_eq_true rfl)⟩) ⟨fun a U g mk q => q, fun U9 hU9 hW9 => ⟨rfl, trivial⟩⟩ rfl rfl hl.1 rfl (lv_room (Nat.le_of_ble_eq_true rfl)) dX4_kerfs_5 ⟨(Nat.le_of_ble_eq_true rfl), (Nat.le_of_ble_eq_true rfl)⟩) hS (fun q _ h => h.elim) (fun q h => h.elim) (fun r_171 u9s t9s H1 locs hht hvm9 hw_5_k_170 hB hz1 hk1 hS => ?_)
  have hP := va_still hP hk1
  generalize H1 = H at hP hS ⊢
  refine lv_if_eq (tgt := 59) hx hb dX4_kerfs_8 (by decide) (fun c_8 => ?_) (fun c_8 => ?_)
  · have c_8 := (b01 hw_5_k_170).mp c_8
    refine lv_iconst (v := 0) hx hb dX4_kerfs_59 (by decide) ?_
    refine lv_istore (lv' := [(9, .int 0), (0, .ref mo), (1, .double a), (3, .double t), (5, .double st), (7, .double sw)]) hx hb dX4_kerfs_60 hl (by decide) rfl (fun ls hl => ?_)
    refine lv_aload_n hx hb dX4_kerfs_62 rfl (lv_at hl 1 rfl) ?_
    refine lv_iload hx hb dX4_kerfs_63 (lv_at hl 0 rfl) ?_
    refine lv_if_eq (tgt := 72) hx hb dX4_kerfs_65 (by decide) (fun c_65 => ?_) (fun c_65 => ?_)
    · refine lv_iconst (v := 1) hx hb dX4_kerfs_72 (by decide) ?_
      refine va_put (D := (dC, dI)) (ci := 4) (v := .int 1) (ty := .int) (C := RX4) (T := TX4) (N := 15) hx hb hts (by decide +kernel) tyX4 tyX4_ok nmX4 hown hK hP hD hS 0 rfl rfl 0 (by decide) (hts (.fieldLink RX4 43 "SteamBendsModel" "code" "I") (by decide +kernel)) (fun _ h9 => h9) rfl (by decide +kernel) rfl rfl (Nat.le_of_ble_eq_true rfl) dX4_kerfs_73 (fun H locs hP hD hS => ?_)
      have hP : va_P (dC, dI) vwCl [(mo, .inr (4, [.int 1, .ref a1, .ref a2, .ref a3, .ref a4, .ref a5, .ref a6, .ref a7, .ref a8, .int (nI np), .ref a10, .ref a11, .int (nI kc), .double kr, .int fd]))] H := hP
      have hD : va_D A [(mo, .inr (4, [.int 1, .ref a1, .ref a2, .ref a3, .ref a4, .ref a5, .ref a6, .ref a7, .ref a8, .int (nI np), .ref a10, .ref a11, .int (nI kc), .double kr, .int fd]))] := hD
      refine lv_aload_n hx hb dX4_kerfs_76 rfl (lv_at hl 1 rfl) ?_
      refine va_get (D := (dC, dI)) (ci := 4) (v := .int 1) (C := RX4) (T := TX4) (N := 15) hx hb hts (by decide +kernel) hown hK hP 0 rfl rfl 0 (by decide) (hts (.fieldLink RX4 43 "SteamBendsModel" "code" "I") (by decide +kernel)) (fun _ h9 => h9) rfl dX4_kerfs_77 ?_
      refine lv_if_le (tgt := 85) hx hb dX4_kerfs_80 (by decide) (fun c_80 => ?_) (fun c_80 => ?_)
      · exact absurd c_80 (by decide)
      · refine lv_iconst (v := 0) hx hb dX4_kerfs_83 (by decide) ?_
        have hP9 := hP.sub (ws' := [(mo, .inr (4, [.int 1, .ref a1, .ref a2, .ref a3, .ref a4, .ref a5, .ref a6, .ref a7, .ref a8, .int (nI np), .ref a10, .ref a11, .int (nI kc), .double kr, .int fd]))]) [0] rfl
        have hD9 := hD.sub (ws' := [(mo, .inr (4, [.int 1, .ref a1, .ref a2, .ref a3, .ref a4, .ref a5, .ref a6, .ref a7, .ref a8, .int (nI np), .ref a10, .ref a11, .int (nI kc), .double kr, .int fd]))]) [0] (by decide) rfl
        exact W.iret hx hb hr (fun t9s hht hW9 => ⟨⟨0, (1, kc, kr), rfl, ⟨(by show (1 : Nat) = _; unfold cKf; (repeat' split) <;> omega), fun z => absurd z (by simp), fun _ => rfl⟩, ⟨by rw [hht]; exact hP9, hD9⟩⟩, hS.F hht⟩) hS.2.2 dX4_kerfs_84
    · exact absurd c_65 (by decide)
  · have c_8 := (b01n hw_5_k_170).mp c_8
    refine lv_dload_n hx hb dX4_kerfs_11 rfl (lv_at hl 2 rfl) ?_
    refine lv_dconst1 hx hb dX4_kerfs_12 ?_
    refine lv_ldc2d (v := 4652007308841189376) hx hb hown (hts (.constantDouble RX4 53 (4652007308841189376)) (by decide +kernel)) dX4_kerfs_13 ?_
    refine va_calli (va_runS (As := [.double t, .double FP.dconst1, .double 4652007308841189376]) (rest := []) ⟨hx, hb, hml, hown, hts⟩ (m_X4_isIn l t FP.dconst1 4652007308841189376 (ht.1.nn (by omega)) (dB_d1.nn (by omega)) ((by unfold dB; decide +kernel : dB 1033 4652007308841189376).nn (by omega))) (va_cwS 3 hts gX4_kerfs_X4_isIn rfl rfl rfl (by decide +kernel) ⟨(Nat.le_of_ble_eq_true rfl), (Nat.le_of_ble_eq_true rfl)⟩) ⟨fun a U g mk q => q, fun U9 hU9 hW9 => ⟨rfl, trivial⟩⟩ rfl rfl hl.1 rfl (lv_room (Nat.le_of_ble_eq_true rfl)) dX4_kerfs_16 ⟨(Nat.le_of_ble_eq_true rfl), (Nat.le_of_ble_eq_true rfl)⟩) hS (fun q _ h => h.elim) (fun q h => h.elim) (fun r_173 u9s t9s H1 locs hht hvm9 hw_16_k_172 hB hz1 hk1 hS => ?_)
    have hP := va_still hP hk1
    generalize H1 = H at hP hS ⊢
    refine lv_if_eq (tgt := 59) hx hb dX4_kerfs_19 (by decide) (fun c_19 => ?_) (fun c_19 => ?_)
    · have c_19 := (b01 hw_16_k_172).mp c_19
      refine lv_iconst (v := 0) hx hb dX4_kerfs_59 (by decide) ?_
      refine lv_istore (lv' := [(9, .int 0), (0, .ref mo), (1, .double a), (3, .double t), (5, .double st), (7, .double sw)]) hx hb dX4_kerfs_60 hl (by decide) rfl (fun ls hl => ?_)
      refine lv_aload_n hx hb dX4_kerfs_62 rfl (lv_at hl 1 rfl) ?_
      refine lv_iload hx hb dX4_kerfs_63 (lv_at hl 0 rfl) ?_
      refine lv_if_eq (tgt := 72) hx hb dX4_kerfs_65 (by decide) (fun c_65 => ?_) (fun c_65 => ?_)
      · refine lv_iconst (v := 1) hx hb dX4_kerfs_72 (by decide) ?_
        refine va_put (D := (dC, dI)) (ci := 4) (v := .int 1) (ty := .int) (C := RX4) (T := TX4) (N := 15) hx hb hts (by decide +kernel) tyX4 tyX4_ok nmX4 hown hK hP hD hS 0 rfl rfl 0 (by decide) (hts (.fieldLink RX4 43 "SteamBendsModel" "code" "I") (by decide +kernel)) (fun _ h9 => h9) rfl (by decide +kernel) rfl rfl (Nat.le_of_ble_eq_true rfl) dX4_kerfs_73 (fun H locs hP hD hS => ?_)
        have hP : va_P (dC, dI) vwCl [(mo, .inr (4, [.int 1, .ref a1, .ref a2, .ref a3, .ref a4, .ref a5, .ref a6, .ref a7, .ref a8, .int (nI np), .ref a10, .ref a11, .int (nI kc), .double kr, .int fd]))] H := hP
        have hD : va_D A [(mo, .inr (4, [.int 1, .ref a1, .ref a2, .ref a3, .ref a4, .ref a5, .ref a6, .ref a7, .ref a8, .int (nI np), .ref a10, .ref a11, .int (nI kc), .double kr, .int fd]))] := hD
        refine lv_aload_n hx hb dX4_kerfs_76 rfl (lv_at hl 1 rfl) ?_
        refine va_get (D := (dC, dI)) (ci := 4) (v := .int 1) (C := RX4) (T := TX4) (N := 15) hx hb hts (by decide +kernel) hown hK hP 0 rfl rfl 0 (by decide) (hts (.fieldLink RX4 43 "SteamBendsModel" "code" "I") (by decide +kernel)) (fun _ h9 => h9) rfl dX4_kerfs_77 ?_
        refine lv_if_le (tgt := 85) hx hb dX4_kerfs_80 (by decide) (fun c_80 => ?_) (fun c_80 => ?_)
        · exact absurd c_80 (by decide)
        · refine lv_iconst (v := 0) hx hb dX4_kerfs_83 (by decide) ?_
          have hP9 := hP.sub (ws' := [(mo, .inr (4, [.int 1, .ref a1, .ref a2, .ref a3, .ref a4, .ref a5, .ref a6, .ref a7, .ref a8, .int (nI np), .ref a10, .ref a11, .int (nI kc), .double kr, .int fd]))]) [0] rfl
          have hD9 := hD.sub (ws' := [(mo, .inr (4, [.int 1, .ref a1, .ref a2, .ref a3, .ref a4, .ref a5, .ref a6, .ref a7, .ref a8, .int (nI np), .ref a10, .ref a11, .int (nI kc), .double kr, .int fd]))]) [0] (by decide) rfl
          exact W.iret hx hb hr (fun t9s hht hW9 => ⟨⟨0, (1, kc, kr), rfl, ⟨(by show (1 : Nat) = _; unfold cKf; (repeat' split) <;> omega), fun z => absurd z (by simp), fun _ => rfl⟩, ⟨by rw [hht]; exact hP9, hD9⟩⟩, hS.F hht⟩) hS.2.2 dX4_kerfs_84
      · exact absurd c_65 (by decide)
    · have c_19 := (b01n hw_16_k_172).mp c_19
      refine lv_dload hx hb dX4_kerfs_22 (lv_at hl 3 rfl) ?_
      refine lv_ldc2d (v := 4593671619917905920) hx hb hown (hts (.constantDouble RX4 51 (4593671619917905920)) (by decide +kernel)) dX4_kerfs_24 ?_
      refine lv_dload_n hx hb dX4_kerfs_27 rfl (lv_at hl 2 rfl) ?_
      refine va_calli (va_runS (As := [.double st, .double 4593671619917905920, .double t]) (rest := []) ⟨hx, hb, hml, hown, hts⟩ (m_X4_isIn l st 4593671619917905920 t (hs.1.nn (by omega)) ((by unfold dB; decide +kernel : dB 1021 4593671619917905920).nn (by omega)) (ht.1.nn (by omega))) (va_cwS 3 hts gX4_kerfs_X4_isIn rfl rfl rfl (by decide +kernel) ⟨(Nat.le_of_ble_eq_true rfl), (Nat.le_of_ble_eq_true rfl)⟩) ⟨fun a U g mk q => q, fun U9 hU9 hW9 => ⟨rfl, trivial⟩⟩ rfl rfl hl.1 rfl (lv_room (Nat.le_of_ble_eq_true rfl)) dX4_kerfs_28 ⟨(Nat.le_of_ble_eq_true rfl), (Nat.le_of_ble_eq_true rfl)⟩) hS (fun q _ h => h.elim) (fun q h => h.elim) (fun r_175 u9s t9s H1 locs hht hvm9 hw_28_k_174 hB hz1 hk1 hS => ?_)
      have hP := va_still hP hk1
      generalize H1 = H at hP hS ⊢
      refine lv_if_eq (tgt := 59) hx hb dX4_kerfs_31 (by decide) (fun c_31 => ?_) (fun c_31 => ?_)
      · have c_31 := (b01 hw_28_k_174).mp c_31
        refine lv_iconst (v := 0) hx hb dX4_kerfs_59 (by decide) ?_
        refine lv_istore (lv' := [(9, .int 0), (0, .ref mo), (1, .double a), (3, .double t), (5, .double st), (7, .double sw)]) hx hb dX4_kerfs_60 hl (by decide) rfl (fun ls hl => ?_)
        refine lv_aload_n hx hb dX4_kerfs_62 rfl (lv_at hl 1 rfl) ?_
        refine lv_iload hx hb dX4_kerfs_63 (lv_at hl 0 rfl) ?_
        refine lv_if_eq (tgt := 72) hx hb dX4_kerfs_65 (by decide) (fun c_65 => ?_) (fun c_65 => ?_)
        · refine lv_iconst (v := 1) hx hb dX4_kerfs_72 (by decide) ?_
          refine va_put (D := (dC, dI)) (ci := 4) (v := .int 1) (ty := .int) (C := RX4) (T := TX4) (N := 15) hx hb hts (by decide +kernel) tyX4 tyX4_ok nmX4 hown hK hP hD hS 0 rfl rfl 0 (by decide) (hts (.fieldLink RX4 43 "SteamBendsModel" "code" "I") (by decide +kernel)) (fun _ h9 => h9) rfl (by decide +kernel) rfl rfl (Nat.le_of_ble_eq_true rfl) dX4_kerfs_73 (fun H locs hP hD hS => ?_)
          have hP : va_P (dC, dI) vwCl [(mo, .inr (4, [.int 1, .ref a1, .ref a2, .ref a3, .ref a4, .ref a5, .ref a6, .ref a7, .ref a8, .int (nI np), .ref a10, .ref a11, .int (nI kc), .double kr, .int fd]))] H := hP
          have hD : va_D A [(mo, .inr (4, [.int 1, .ref a1, .ref a2, .ref a3, .ref a4, .ref a5, .ref a6, .ref a7, .ref a8, .int (nI np), .ref a10, .ref a11, .int (nI kc), .double kr, .int fd]))] := hD
          refine lv_aload_n hx hb dX4_kerfs_76 rfl (lv_at hl 1 rfl) ?_
          refine va_get (D := (dC, dI)) (ci := 4) (v := .int 1) (C := RX4) (T := TX4) (N := 15) hx hb hts (by decide +kernel) hown hK hP 0 rfl rfl 0 (by decide) (hts (.fieldLink RX4 43 "SteamBendsModel" "code" "I") (by decide +kernel)) (fun _ h9 => h9) rfl dX4_kerfs_77 ?_
          refine lv_if_le (tgt := 85) hx hb dX4_kerfs_80 (by decide) (fun c_80 => ?_) (fun c_80 => ?_)
          · exact absurd c_80 (by decide)
          · refine lv_iconst (v := 0) hx hb dX4_kerfs_83 (by decide) ?_
            have hP9 := hP.sub (ws' := [(mo, .inr (4, [.int 1, .ref a1, .ref a2, .ref a3, .ref a4, .ref a5, .ref a6, .ref a7, .ref a8, .int (nI np), .ref a10, .ref a11, .int (nI kc), .double kr, .int fd]))]) [0] rfl
            have hD9 := hD.sub (ws' := [(mo, .inr (4, [.int 1, .ref a1, .ref a2, .ref a3, .ref a4, .ref a5, .ref a6, .ref a7, .ref a8, .int (nI np), .ref a10, .ref a11, .int (nI kc), .double kr, .int fd]))]) [0] (by decide) rfl
            exact W.iret hx hb hr (fun t9s hht hW9 => ⟨⟨0, (1, kc, kr), rfl, ⟨(by show (1 : Nat) = _; unfold cKf; (repeat' split) <;> omega), fun z => absurd z (by simp), fun _ => rfl⟩, ⟨by rw [hht]; exact hP9, hD9⟩⟩, hS.F hht⟩) hS.2.2 dX4_kerfs_84
        · exact absurd c_65 (by decide)
      · have c_31 := (b01n hw_28_k_174).mp c_31
        refine lv_dload hx hb dX4_kerfs_34 (lv_at hl 3 rfl) ?_
        refine lv_dload_n hx hb dX4_kerfs_36 rfl (lv_at hl 2 rfl) ?_
        refine lv_dcmp hx hb dX4_kerfs_37 ?_
        refine lv_if_ge (tgt := 59) hx hb dX4_kerfs_38 (by decide) (fun c_38 => ?_) (fun c_38 => ?_)
        · have c_38 := (cv_ge (hs.1.nn (by omega)) (ht.1.nn (by omega))).mp c_38
          refine lv_iconst (v := 0) hx hb dX4_kerfs_59 (by decide) ?_
          refine lv_istore (lv' := [(9, .int 0), (0, .ref mo), (1, .double a), (3, .double t), (5, .double st), (7, .double sw)]) hx hb dX4_kerfs_60 hl (by decide) rfl (fun ls hl => ?_)
          refine lv_aload_n hx hb dX4_kerfs_62 rfl (lv_at hl 1 rfl) ?_
          refine lv_iload hx hb dX4_kerfs_63 (lv_at hl 0 rfl) ?_
          refine lv_if_eq (tgt := 72) hx hb dX4_kerfs_65 (by decide) (fun c_65 => ?_) (fun c_65 => ?_)
          · refine lv_iconst (v := 1) hx hb dX4_kerfs_72 (by decide) ?_
            refine va_put (D := (dC, dI)) (ci := 4) (v := .int 1) (ty := .int) (C := RX4) (T := TX4) (N := 15) hx hb hts (by decide +kernel) tyX4 tyX4_ok nmX4 hown hK hP hD hS 0 rfl rfl 0 (by decide) (hts (.fieldLink RX4 43 "SteamBendsModel" "code" "I") (by decide +kernel)) (fun _ h9 => h9) rfl (by decide +kernel) rfl rfl (Nat.le_of_ble_eq_true rfl) dX4_kerfs_73 (fun H locs hP hD hS => ?_)
            have hP : va_P (dC, dI) vwCl [(mo, .inr (4, [.int 1, .ref a1, .ref a2, .ref a3, .ref a4, .ref a5, .ref a6, .ref a7, .ref a8, .int (nI np), .ref a10, .ref a11, .int (nI kc), .double kr, .int fd]))] H := hP
            have hD : va_D A [(mo, .inr (4, [.int 1, .ref a1, .ref a2, .ref a3, .ref a4, .ref a5, .ref a6, .ref a7, .ref a8, .int (nI np), .ref a10, .ref a11, .int (nI kc), .double kr, .int fd]))] := hD
            refine lv_aload_n hx hb dX4_kerfs_76 rfl (lv_at hl 1 rfl) ?_
            refine va_get (D := (dC, dI)) (ci := 4) (v := .int 1) (C := RX4) (T := TX4) (N := 15) hx hb hts (by decide +kernel) hown hK hP 0 rfl rfl 0 (by decide) (hts (.fieldLink RX4 43 "SteamBendsModel" "code" "I") (by decide +kernel)) (fun _ h9 => h9) rfl dX4_kerfs_77 ?_
            refine lv_if_le (tgt := 85) hx hb dX4_kerfs_80 (by decide) (fun c_80 => ?_) (fun c_80 => ?_)
            · exact absurd c_80 (by decide)
            · refine lv_iconst (v := 0) hx hb dX4_kerfs_83 (by decide) ?_
              have hP9 := hP.sub (ws' := [(mo, .inr (4, [.int 1, .ref a1, .ref a2, .ref a3, .ref a4, .ref a5, .ref a6, .ref a7, .ref a8, .int (nI np), .ref a10, .ref a11, .int (nI kc), .double kr, .int fd]))]) [0] rfl
              have hD9 := hD.sub (ws' := [(mo, .inr (4, [.int 1, .ref a1, .ref a2, .ref a3, .ref a4, .ref a5, .ref a6, .ref a7, .ref a8, .int (nI np), .ref a10, .ref a11, .int (nI kc), .double kr, .int fd]))]) [0] (by decide) rfl
              exact W.iret hx hb hr (fun t9s hht hW9 => ⟨⟨0, (1, kc, kr), rfl, ⟨(by show (1 : Nat) = _; unfold cKf; (repeat' split) <;> omega), fun z => absurd z (by simp), fun _ => rfl⟩, ⟨by rw [hht]; exact hP9, hD9⟩⟩, hS.F hht⟩) hS.2.2 dX4_kerfs_84
          · exact absurd c_65 (by decide)
        · have c_38 := mt (cv_ge (hs.1.nn (by omega)) (ht.1.nn (by omega))).mpr c_38
          refine lv_dload hx hb dX4_kerfs_41 (lv_at hl 4 rfl) ?_
          refine lv_ldc2d (v := 4593671619917905920) hx hb hown (hts (.constantDouble RX4 51 (4593671619917905920)) (by decide +kernel)) dX4_kerfs_43 ?_
          refine lv_ldc2d (v := 4636737291354636288) hx hb hown (hts (.constantDouble RX4 90 (4636737291354636288)) (by decide +kernel)) dX4_kerfs_46 ?_
          refine va_calli (va_runS (As := [.double sw, .double 4593671619917905920, .double 4636737291354636288]) (rest := []) ⟨hx, hb, hml, hown, hts⟩ (m_X4_isIn l sw 4593671619917905920 4636737291354636288 (hw.1.nn (by omega)) ((by unfold dB; decide +kernel : dB 1021 4593671619917905920).nn (by omega)) ((by unfold dB; decide +kernel : dB 1030 4636737291354636288).nn (by omega))) (va_cwS 3 hts gX4_kerfs_X4_isIn rfl rfl rfl (by decide +kernel) ⟨(Nat.le_of_ble_eq_true rfl), (Nat.le_of_ble_eq_true rfl)⟩) ⟨fun a U g mk q => q, fun U9 hU9 hW9 => ⟨rfl, trivial⟩⟩ rfl rfl hl.1 rfl (lv_room (Nat.le_of_ble_eq_true rfl)) dX4_kerfs_49 ⟨(Nat.le_of_ble_eq_true rfl), (Nat.le_of_ble_eq_true rfl)⟩) hS (fun q _ h => h.elim) (fun q h => h.elim) (fun r_177 u9s t9s H1 locs hht hvm9 hw_49_k_176 hB hz1 hk1 hS => ?_)
          have hP := va_still hP hk1
          generalize H1 = H at hP hS ⊢
          refine lv_if_eq (tgt := 59) hx hb dX4_kerfs_52 (by decide) (fun c_52 => ?_) (fun c_52 => ?_)
          · have c_52 := (b01 hw_49_k_176).mp c_52
            refine lv_iconst (v := 0) hx hb dX4_kerfs_59 (by decide) ?_
            refine lv_istore (lv' := [(9, .int 0), (0, .ref mo), (1, .double a), (3, .double t), (5, .double st), (7, .double sw)]) hx hb dX4_kerfs_60 hl (by decide) rfl (fun ls hl => ?_)
            refine lv_aload_n hx hb dX4_kerfs_62 rfl (lv_at hl 1 rfl) ?_
            refine lv_iload hx hb dX4_kerfs_63 (lv_at hl 0 rfl) ?_
            refine lv_if_eq (tgt := 72) hx hb dX4_kerfs_65 (by decide) (fun c_65 => ?_) (fun c_65 => ?_)
            · refine lv_iconst (v := 1) hx hb dX4_kerfs_72 (by decide) ?_
              refine va_put (D := (dC, dI)) (ci := 4) (v := .int 1) (ty := .int) (C := RX4) (T := TX4) (N := 15) hx hb hts (by decide +kernel) tyX4 tyX4_ok nmX4 hown hK hP hD hS 0 rfl rfl 0 (by decide) (hts (.fieldLink RX4 43 "SteamBendsModel" "code" "I") (by decide +kernel)) (fun _ h9 => h9) rfl (by decide +kernel) rfl rfl (Nat.le_of_ble_eq_true rfl) dX4_kerfs_73 (fun H locs hP hD hS => ?_)
              have hP : va_P (dC, dI) vwCl [(mo, .inr (4, [.int 1, .ref a1, .ref a2, .ref a3, .ref a4, .ref a5, .ref a6, .ref a7, .ref a8, .int (nI np), .ref a10, .ref a11, .int (nI kc), .double kr, .int fd]))] H := hP
              have hD : va_D A [(mo, .inr (4, [.int 1, .ref a1, .ref a2, .ref a3, .ref a4, .ref a5, .ref a6, .ref a7, .ref a8, .int (nI np), .ref a10, .ref a11, .int (nI kc), .double kr, .int fd]))] := hD
              refine lv_aload_n hx hb dX4_kerfs_76 rfl (lv_at hl 1 rfl) ?_
              refine va_get (D := (dC, dI)) (ci := 4) (v := .int 1) (C := RX4) (T := TX4) (N := 15) hx hb hts (by decide +kernel) hown hK hP 0 rfl rfl 0 (by decide) (hts (.fieldLink RX4 43 "SteamBendsModel" "code" "I") (by decide +kernel)) (fun _ h9 => h9) rfl dX4_kerfs_77 ?_
              refine lv_if_le (tgt := 85) hx hb dX4_kerfs_80 (by decide) (fun c_80 => ?_) (fun c_80 => ?_)
              · exact absurd c_80 (by decide)
              · refine lv_iconst (v := 0) hx hb dX4_kerfs_83 (by decide) ?_
                have hP9 := hP.sub (ws' := [(mo, .inr (4, [.int 1, .ref a1, .ref a2, .ref a3, .ref a4, .ref a5, .ref a6, .ref a7, .ref a8, .int (nI np), .ref a10, .ref a11, .int (nI kc), .double kr, .int fd]))]) [0] rfl
                have hD9 := hD.sub (ws' := [(mo, .inr (4, [.int 1, .ref a1, .ref a2, .ref a3, .ref a4, .ref a5, .ref a6, .ref a7, .ref a8, .int (nI np), .ref a10, .ref a11, .int (nI kc), .double kr, .int fd]))]) [0] (by decide) rfl
                exact W.iret hx hb hr (fun t9s hht hW9 => ⟨⟨0, (1, kc, kr), rfl, ⟨(by show (1 : Nat) = _; unfold cKf; (repeat' split) <;> omega), fun z => absurd z (by simp), fun _ => rfl⟩, ⟨by rw [hht]; exact hP9, hD9⟩⟩, hS.F hht⟩) hS.2.2 dX4_kerfs_84
            · exact absurd c_65 (by decide)
          · have c_52 := (b01n hw_49_k_176).mp c_52
            refine lv_iconst (v := 1) hx hb dX4_kerfs_55 (by decide) ?_
            refine lv_goto (tgt := 60) hx hb dX4_kerfs_56 (by decide) ?_
            refine lv_istore (lv' := [(9, .int 1), (0, .ref mo), (1, .double a), (3, .double t), (5, .double st), (7, .double sw)]) hx hb dX4_kerfs_60 hl (by decide) rfl (fun ls hl => ?_)
            refine lv_aload_n hx hb dX4_kerfs_62 rfl (lv_at hl 1 rfl) ?_
            refine lv_iload hx hb dX4_kerfs_63 (lv_at hl 0 rfl) ?_
            refine lv_if_eq (tgt := 72) hx hb dX4_kerfs_65 (by decide) (fun c_65 => ?_) (fun c_65 => ?_)
            · exact absurd c_65 (by decide)
            · refine lv_iconst (v := 0) hx hb dX4_kerfs_68 (by decide) ?_
              refine lv_goto (tgt := 73) hx hb dX4_kerfs_69 (by decide) ?_
              refine va_put (D := (dC, dI)) (ci := 4) (v := .int 0) (ty := .int) (C := RX4) (T := TX4) (N := 15) hx hb hts (by decide +kernel) tyX4 tyX4_ok nmX4 hown hK hP hD hS 0 rfl rfl 0 (by decide) (hts (.fieldLink RX4 43 "SteamBendsModel" "code" "I") (by decide +kernel)) (fun _ h9 => h9) rfl (by decide +kernel) rfl rfl (Nat.le_of_ble_eq_true rfl) dX4_kerfs_73 (fun H locs hP hD hS => ?_)
              have hP : va_P (dC, dI) vwCl [(mo, .inr (4, [.int 0, .ref a1, .ref a2, .ref a3, .ref a4, .ref a5, .ref a6, .ref a7, .ref a8, .int (nI np), .ref a10, .ref a11, .int (nI kc), .double kr, .int fd]))] H := hP
              have hD : va_D A [(mo, .inr (4, [.int 0, .ref a1, .ref a2, .ref a3, .ref a4, .ref a5, .ref a6, .ref a7, .ref a8, .int (nI np), .ref a10, .ref a11, .int (nI kc), .double kr, .int fd]))] := hD
              refine lv_aload_n hx hb dX4_kerfs_76 rfl (lv_at hl 1 rfl) ?_
              refine va_get (D := (dC, dI)) (ci := 4) (v := .int 0) (C := RX4) (T := TX4) (N := 15) hx hb hts (by decide +kernel) hown hK hP 0 rfl rfl 0 (by decide) (hts (.fieldLink RX4 43 "SteamBendsModel" "code" "I") (by decide +kernel)) (fun _ h9 => h9) rfl dX4_kerfs_77 ?_
              refine lv_if_le (tgt := 85) hx hb dX4_kerfs_80 (by decide) (fun c_80 => ?_) (fun c_80 => ?_)
              · have hk9 : kerfOK a (kfC t st sw) := kerf_ok ha ht hs hw (by omega) (by omega) (by omega) (by omega) (by omega) (by omega)
                refine lv_dload hx hb dX4_kerfs_85 (lv_at hl 5 rfl) ?_
                refine lv_dload_n hx hb dX4_kerfs_87 rfl (lv_at hl 3 rfl) ?_
                refine lv_dload hx hb dX4_kerfs_88 (lv_at hl 4 rfl) ?_
                have b_178 : dB (1062) (FP.dsub t st) := dB.sub ht.1 hs.1 (M := 1060) (by omega) (by omega) (by omega)
                refine lv_dsub hx hb dX4_kerfs_90 (b_178.ok (by omega)) ?_
                have b_179 : dB (1064) (FP.ddiv sw (FP.dsub t st)) := dB.div hw.1 ((kf_gap ht hs (by omega) (by omega) (by omega) (by omega)).1) b_178 (by omega) (by omega) (by omega) (by omega)
                refine lv_ddiv hx hb dX4_kerfs_91 (b_179.ok (by omega)) ?_
                refine lv_ldc2d (v := 4633260481411531256) hx hb hown (hts (.constantDouble RX4 92 (4633260481411531256)) (by decide +kernel)) dX4_kerfs_92 ?_
                have b_180 : dB (1071) (FP.dmul (FP.ddiv sw (FP.dsub t st)) 4633260481411531256) := dB.mul b_179 (by unfold dB; decide +kernel : dB 1029 4633260481411531256) (by omega) (by omega) (by omega)
                refine lv_dmul hx hb dX4_kerfs_95 (b_180.ok (by omega)) ?_
                refine lv_dstore (lv' := [(10, .double (FP.dmul (FP.ddiv sw (FP.dsub t st)) 4633260481411531256)), (9, .int 1), (0, .ref mo), (1, .double a), (3, .double t), (5, .double st), (7, .double sw)]) hx hb dX4_kerfs_96 hl (by decide) rfl (fun ls hl => ?_)
                refine lv_iconst (v := 1) hx hb dX4_kerfs_98 (by decide) ?_
                refine lv_istore (lv' := [(12, .int 1), (10, .double (FP.dmul (FP.ddiv sw (FP.dsub t st)) 4633260481411531256)), (9, .int 1), (0, .ref mo), (1, .double a), (3, .double t), (5, .double st), (7, .double sw)]) hx hb dX4_kerfs_99 hl (by decide) rfl (fun ls hl => ?_)
                refine w_loop (σ := Nat) (fun n9 x9 H locs ls => lv_has ls 13 [(12, .int (nI x9)), (10, .double (kfC t st sw)), (0, .ref mo), (1, .double a)] ∧ va_P (dC, dI) vwCl [(mo, .inr (4, [.int 0, .ref a1, .ref a2, .ref a3, .ref a4, .ref a5, .ref a6, .ref a7, .ref a8, .int (nI np), .ref a10, .ref a11, .int (nI kc), .double kr, .int fd]))] H ∧ va_D A [(mo, .inr (4, [.int 0, .ref a1, .ref a2, .ref a3, .ref a4, .ref a5, .ref a6, .ref a7, .ref a8, .int (nI np), .ref a10, .ref a11, .int (nI kc), .double kr, .int fd]))] ∧ va_S A s.heap H locs ∧ x9 + n9 = 65536 ∧ 1 ≤ x9 ∧ ∀ m9, 1 ≤ m9 → m9 < x9 → few a (kfC t st sw) m9) (n0 := 65535) (x0 := 1) ⟨lv_sub hl [0, 1, 3, 4] rfl, hP, hD, hS, (show 1 + 65535 = 65536 ∧ 1 ≤ 1 ∧ ∀ m9, 1 ≤ m9 → m9 < 1 → few a (kfC t st sw) m9 from ⟨by omega, by omega, fun m9 h1 h2 => absurd h1 (by omega)⟩)⟩ ?_
                rintro n9 n8 H locs ls ⟨hl, hP, hD, hS, hi⟩ ih
                have hl : lv_has ls 13 [(12, .int (nI n8)), (10, .double (kfC t st sw)), (0, .ref mo), (1, .double a)] := hl
                have hP : va_P (dC, dI) vwCl [(mo, .inr (4, [.int 0, .ref a1, .ref a2, .ref a3, .ref a4, .ref a5, .ref a6, .ref a7, .ref a8, .int (nI np), .ref a10, .ref a11, .int (nI kc), .double kr, .int fd]))] H := hP
                have hD : va_D A [(mo, .inr (4, [.int 0, .ref a1, .ref a2, .ref a3, .ref a4, .ref a5, .ref a6, .ref a7, .ref a8, .int (nI np), .ref a10, .ref a11, .int (nI kc), .double kr, .int fd]))] := hD
                have hi : n8 + n9 = 65536 ∧ 1 ≤ n8 ∧ ∀ m9, 1 ≤ m9 → m9 < n8 → few a (kfC t st sw) m9 := hi
                have h65 : n8 ≤ 65535 := Nat.le_of_not_lt fun y => hk9.2.2.2 (hi.2.2 65535 (by omega) (by omega))
                refine lv_iload hx hb dX4_kerfs_101 (lv_at hl 0 rfl) ?_
                refine lv_i2d hx hb dX4_kerfs_103 ?_
                refine lv_dload hx hb dX4_kerfs_104 (lv_at hl 1 rfl) ?_
                have b_181 : dB (1154) (FP.dmul (FP.i2d (nI n8)) (kfC t st sw)) := dB.mul (i2d_dB (nI n8)) hk9.2.1 (by omega) (by omega) (by omega)
                refine lv_dmul hx hb dX4_kerfs_106 (b_181.ok (by omega)) ?_
                refine lv_dload_n hx hb dX4_kerfs_107 rfl (lv_at hl 3 rfl) ?_
                refine lv_dcmp hx hb dX4_kerfs_108 ?_
                refine lv_if_ge (tgt := 118) hx hb dX4_kerfs_109 (by decide) (fun c_109 => ?_) (fun c_109 => ?_)
                · have c_109 := (cv_ge (b_181.nn (by omega)) (ha.1.nn (by omega))).mp c_109
                  refine lv_aload_n hx hb dX4_kerfs_118 rfl (lv_at hl 2 rfl) ?_
                  refine lv_iload hx hb dX4_kerfs_119 (lv_at hl 0 rfl) ?_
                  refine va_put (D := (dC, dI)) (ci := 4) (v := .int (nI n8)) (ty := .int) (C := RX4) (T := TX4) (N := 15) hx hb hts (by decide +kernel) tyX4 tyX4_ok nmX4 hown hK hP hD hS 0 rfl rfl 12 (by decide) (hts (.fieldLink RX4 94 "SteamBendsModel" "cuts" "I") (by decide +kernel)) (fun _ h9 => h9) rfl (by decide +kernel) rfl rfl (Nat.le_of_ble_eq_true rfl) dX4_kerfs_121 (fun H locs hP hD hS => ?_)
                  have hP : va_P (dC, dI) vwCl [(mo, .inr (4, [.int 0, .ref a1, .ref a2, .ref a3, .ref a4, .ref a5, .ref a6, .ref a7, .ref a8, .int (nI np), .ref a10, .ref a11, .int (nI n8), .double kr, .int fd]))] H := hP
                  have hD : va_D A [(mo, .inr (4, [.int 0, .ref a1, .ref a2, .ref a3, .ref a4, .ref a5, .ref a6, .ref a7, .ref a8, .int (nI np), .ref a10, .ref a11, .int (nI n8), .double kr, .int fd]))] := hD
                  refine lv_aload_n hx hb dX4_kerfs_124 rfl (lv_at hl 2 rfl) ?_
                  refine lv_iload hx hb dX4_kerfs_125 (lv_at hl 0 rfl) ?_
                  refine lv_i2d hx hb dX4_kerfs_127 ?_
                  refine lv_dload hx hb dX4_kerfs_128 (lv_at hl 1 rfl) ?_
                  have b_182 : dB (1154) (FP.dmul (FP.i2d (nI n8)) (kfC t st sw)) := dB.mul (i2d_dB (nI n8)) hk9.2.1 (by omega) (by omega) (by omega)
                  refine lv_dmul hx hb dX4_kerfs_130 (b_182.ok (by omega)) ?_
                  refine lv_dload_n hx hb dX4_kerfs_131 rfl (lv_at hl 3 rfl) ?_
                  have b_183 : dB (1156) (FP.dsub (FP.dmul (FP.i2d (nI n8)) (kfC t st sw)) a) := dB.sub b_182 ha.1 (M := 1154) (by omega) (by omega) (by omega)
                  refine lv_dsub hx hb dX4_kerfs_132 (b_183.ok (by omega)) ?_
                  refine va_put (D := (dC, dI)) (ci := 4) (v := .double (FP.dsub (FP.dmul (FP.i2d (nI n8)) (kfC t st sw)) a)) (ty := .double) (C := RX4) (T := TX4) (N := 15) hx hb hts (by decide +kernel) tyX4 tyX4_ok nmX4 hown hK hP hD hS 0 rfl rfl 13 (by decide) (hts (.fieldLink RX4 97 "SteamBendsModel" "over" "D") (by decide +kernel)) (fun _ h9 => h9) rfl (by decide +kernel) rfl rfl (Nat.le_of_ble_eq_true rfl) dX4_kerfs_133 (fun H locs hP hD hS => ?_)
                  have hP : va_P (dC, dI) vwCl [(mo, .inr (4, [.int 0, .ref a1, .ref a2, .ref a3, .ref a4, .ref a5, .ref a6, .ref a7, .ref a8, .int (nI np), .ref a10, .ref a11, .int (nI n8), .double (FP.dsub (FP.dmul (FP.i2d (nI n8)) (kfC t st sw)) a), .int fd]))] H := hP
                  have hD : va_D A [(mo, .inr (4, [.int 0, .ref a1, .ref a2, .ref a3, .ref a4, .ref a5, .ref a6, .ref a7, .ref a8, .int (nI np), .ref a10, .ref a11, .int (nI n8), .double (FP.dsub (FP.dmul (FP.i2d (nI n8)) (kfC t st sw)) a), .int fd]))] := hD
                  refine lv_iload hx hb dX4_kerfs_136 (lv_at hl 0 rfl) ?_
                  have hP9 := hP.sub (ws' := [(mo, .inr (4, [.int 0, .ref a1, .ref a2, .ref a3, .ref a4, .ref a5, .ref a6, .ref a7, .ref a8, .int (nI np), .ref a10, .ref a11, .int (nI n8), .double (FP.dsub (FP.dmul (FP.i2d (nI n8)) (kfC t st sw)) a), .int fd]))]) [0] rfl
                  have hD9 := hD.sub (ws' := [(mo, .inr (4, [.int 0, .ref a1, .ref a2, .ref a3, .ref a4, .ref a5, .ref a6, .ref a7, .ref a8, .int (nI np), .ref a10, .ref a11, .int (nI n8), .double (FP.dsub (FP.dmul (FP.i2d (nI n8)) (kfC t st sw)) a), .int fd]))]) [0] (by decide) rfl
                  exact W.iret hx hb hr (fun t9s hht hW9 => ⟨⟨nI n8, (0, n8, FP.dsub (FP.dmul (FP.i2d (nI n8)) (kfC t st sw)) a), rfl, ⟨(by show (0 : Nat) = _; unfold cKf; (repeat' split) <;> omega), fun _ => ⟨rfl, ⟨hi.2.1, by omega, by show ¬ few a (kfC t st sw) n8; unfold few; omega, hi.2.2⟩, rfl⟩, fun z => absurd rfl z⟩, ⟨by rw [hht]; exact hP9, hD9⟩⟩, hS.F hht⟩) hS.2.2 dX4_kerfs_138
                · have c_109 := mt (cv_ge (b_181.nn (by omega)) (ha.1.nn (by omega))).mpr c_109
                  refine lv_iinc (v := nI (n8 + 1)) (lv' := [(12, .int (nI (n8 + 1))), (10, .double (kfC t st sw)), (0, .ref mo), (1, .double a)]) hx hb dX4_kerfs_112 hl (k := 0) rfl (show nI n8 + nI 1 = nI (n8 + 1) from nI_add _ _) (by decide) rfl (fun ls hl => ?_)
                  refine lv_goto (tgt := 101) hx hb dX4_kerfs_115 (by decide) ?_
                  exact ih (n9 - 1) (by omega) (n8 + 1) _ _ _ ⟨lv_sub hl [0, 1, 2, 3] rfl, hP, hD, hS, (show (n8 + 1) + (n9 - 1) = 65536 ∧ 1 ≤ (n8 + 1) ∧ ∀ m9, 1 ≤ m9 → m9 < (n8 + 1) → few a (kfC t st sw) m9 from ⟨by omega, by omega, fun m9 h1 h2 => by
                      rcases Nat.lt_or_ge m9 n8 with q | q
                      · exact hi.2.2 m9 h1 q
                      · rw [show m9 = n8 by omega]; unfold few; omega⟩)⟩
              · exact absurd c_80 (by decide)

set_option maxHeartbeats 4000000 in
set_option maxRecDepth 100000 in
theorem m_X4_kerfAt (l : Launch) (dC : Nat → ClassId) (dI : Nat → Nat → Nat) (sz : Nat) (cI cD : ClassId) (mo a1 a2 a3 a4 a5 a6 a7 a8 a10 a11 : Nat) (cd : Int32) (np kc : Nat) (kr : UInt64) (fd : Int32) (k : Int32) (len : UInt64) (hlen : dB 1060 len) (hkc : kc ≤ 65535) : Met l yX4_kerfAt wsX4_kerfAt ({ frames := 1, cells := 0, slots := 0, locals := 25 } : Room) (va_Pc [.ref mo, .int k, .double len] (PW (dC, dI) [(cD, .double)] [(mo, .inr (4, [.int cd, .ref a1, .ref a2, .ref a3, .ref a4, .ref a5, .ref a6, .ref a7, .ref a8, .int (nI np), .ref a10, .ref a11, .int (nI kc), .double kr, .int fd]))] sz)) (va_Qd (fun (r : UInt64) (u : Nat) => u = cKa kc k len ∧ (u = 0 → r = vKa kc k len)) (fun (u : Nat) => QW (dC, dI) [(mo, .inr (4, [.int (nI u), .ref a1, .ref a2, .ref a3, .ref a4, .ref a5, .ref a6, .ref a7, .ref a8, .int (nI np), .ref a10, .ref a11, .int (nI kc), .double kr, .int fd]))] (va_A [(mo, .inr (4, [.int cd, .ref a1, .ref a2, .ref a3, .ref a4, .ref a5, .ref a6, .ref a7, .ref a8, .int (nI np), .ref a10, .ref a11, .int (nI kc), .double kr, .int fd]))] sz)) (va_A [(mo, .inr (4, [.int cd, .ref a1, .ref a2, .ref a3, .ref a4, .ref a5, .ref a6, .ref a7, .ref a8, .int (nI np), .ref a10, .ref a11, .int (nI kc), .double kr, .int fd]))] sz)) 0 0 (va_A [(mo, .inr (4, [.int cd, .ref a1, .ref a2, .ref a3, .ref a4, .ref a5, .ref a6, .ref a7, .ref a8, .int (nI np), .ref a10, .ref a11, .int (nI kc), .double kr, .int fd]))] sz) := by
  refine Met.ofW (cc := cX4_kerfAt) (maxL := 4) (ret := (some .double)) (by decide) rfl ?_
  intro p e s m args below meth c s₁ BB hml hv
  obtain ⟨rfl, hsz, hP, hK, hD0, hN⟩ := hv
  have hx := BB.exec
  have hb := BB.bytes
  have hr := BB.returns
  have hts := atoms_spec (ws := wsX4_kerfAt) BB.pre
  have hown : s.vm.findClass RX4 = some m.cls := findClass_of_methodNamed BB.named
  have hlocks := BB.notSynchronized
  subst hsz
  have hD := hD0.self (sz := s.heap.size)
  generalize hAe : va_A [(mo, .inr (4, [.int cd, .ref a1, .ref a2, .ref a3, .ref a4, .ref a5, .ref a6, .ref a7, .ref a8, .int (nI np), .ref a10, .ref a11, .int (nI kc), .double kr, .int fd]))] s.heap.size = A at hD ⊢
  have hA : ∀ q : Nat, s.heap.size ≤ q → A q := fun q h => by rw [← hAe]; exact Or.inr h
  have hS : va_S A s.heap s.heap [] := va_S.rf
  have hP : va_P (dC, dI) vwCl [(mo, .inr (4, [.int cd, .ref a1, .ref a2, .ref a3, .ref a4, .ref a5, .ref a6, .ref a7, .ref a8, .int (nI np), .ref a10, .ref a11, .int (nI kc), .double kr, .int fd]))] s.heap := hP
  have hl := lv_entry ([.ref mo, .int k, .double len]) (n := 4) (Nat.le_of_ble_eq_true rfl)
  rw [lg_entry_eq]
  generalize (lg_sl ([.ref mo, .int k, .double len]) ++ List.replicate (4 - (lg_sl ([.ref mo, .int k, .double len])).length) Slot.unset).toArray = ls at hl ⊢
  have hl : lv_has ls 4 [(0, .ref mo), (1, .int k), (2, .double len)] := hl
  refine lv_aload_n hx hb dX4_kerfAt_0 rfl (lv_at hl 0 rfl) ?_
  refine lv_aload_n hx hb dX4_kerfAt_1 rfl (lv_at hl 0 rfl) ?_
  refine va_get (D := (dC, dI)) (ci := 4) (v := .int (nI kc)) (C := RX4) (T := TX4) (N := 15) hx hb hts (by decide +kernel) hown hK hP 0 rfl rfl 12 (by decide) (hts (.fieldLink RX4 94 "SteamBendsModel" "cuts" "I") (by decide +kernel)) (fun _ h9 => h9) rfl dX4_kerfAt_2 ?_
  refine lv_if_ne (tgt := 12) hx hb dX4_kerfAt_5 (by decide) (fun c_5 => ?_) (fun c_5 => ?_)
  · have c_5 := mt (nI_eq (a := kc) (b := 0) (by omega) (by omega)).mpr c_5
    refine lv_iload_n hx hb dX4_kerfAt_12 rfl (lv_at hl 1 rfl) ?_
    refine lv_if_lt (tgt := 24) hx hb dX4_kerfAt_13 (by decide) (fun c_13 => ?_) (fun c_13 => ?_)
    · have c_13 := (z_lt (a := k.toInt) (b := 0) rfl (by decide)).mp c_13
      refine lv_iconst (v := 2) hx hb dX4_kerfAt_24 (by decide) ?_
      refine lv_goto (tgt := 44) hx hb dX4_kerfAt_25 (by decide) ?_
      refine va_put (D := (dC, dI)) (ci := 4) (v := .int 2) (ty := .int) (C := RX4) (T := TX4) (N := 15) hx hb hts (by decide +kernel) tyX4 tyX4_ok nmX4 hown hK hP hD hS 0 rfl rfl 0 (by decide) (hts (.fieldLink RX4 43 "SteamBendsModel" "code" "I") (by decide +kernel)) (fun _ h9 => h9) rfl (by decide +kernel) rfl rfl (Nat.le_of_ble_eq_true rfl) dX4_kerfAt_44 (fun H locs hP hD hS => ?_)
      have hP : va_P (dC, dI) vwCl [(mo, .inr (4, [.int 2, .ref a1, .ref a2, .ref a3, .ref a4, .ref a5, .ref a6, .ref a7, .ref a8, .int (nI np), .ref a10, .ref a11, .int (nI kc), .double kr, .int fd]))] H := hP
      have hD : va_D A [(mo, .inr (4, [.int 2, .ref a1, .ref a2, .ref a3, .ref a4, .ref a5, .ref a6, .ref a7, .ref a8, .int (nI np), .ref a10, .ref a11, .int (nI kc), .double kr, .int fd]))] := hD
      refine lv_aload_n hx hb dX4_kerfAt_47 rfl (lv_at hl 0 rfl) ?_
      refine va_get (D := (dC, dI)) (ci := 4) (v := .int 2) (C := RX4) (T := TX4) (N := 15) hx hb hts (by decide +kernel) hown hK hP 0 rfl rfl 0 (by decide) (hts (.fieldLink RX4 43 "SteamBendsModel" "code" "I") (by decide +kernel)) (fun _ h9 => h9) rfl dX4_kerfAt_48 ?_
      refine lv_if_le (tgt := 58) hx hb dX4_kerfAt_51 (by decide) (fun c_51 => ?_) (fun c_51 => ?_)
      · exact absurd c_51 (by decide)
      · refine lv_dconst0 hx hb dX4_kerfAt_54 ?_
        refine lv_goto (tgt := 74) hx hb dX4_kerfAt_55 (by decide) ?_
        have hP9 := hP.sub (ws' := [(mo, .inr (4, [.int 2, .ref a1, .ref a2, .ref a3, .ref a4, .ref a5, .ref a6, .ref a7, .ref a8, .int (nI np), .ref a10, .ref a11, .int (nI kc), .double kr, .int fd]))]) [0] rfl
        have hD9 := hD.sub (ws' := [(mo, .inr (4, [.int 2, .ref a1, .ref a2, .ref a3, .ref a4, .ref a5, .ref a6, .ref a7, .ref a8, .int (nI np), .ref a10, .ref a11, .int (nI kc), .double kr, .int fd]))]) [0] (by decide) rfl
        exact W.dret hx hb hr (fun t9s hht hW9 => ⟨⟨FP.dconst0, 2, rfl, ⟨(by show (2 : Nat) = _; unfold cKa; (repeat' split) <;> omega), fun z => absurd z (by simp)⟩, ⟨by rw [hht]; exact hP9, hD9⟩⟩, hS.F hht⟩) hS.2.2 dX4_kerfAt_74
    · have c_13 := mt (z_lt (a := k.toInt) (b := 0) rfl (by decide)).mpr c_13
      refine lv_iload_n hx hb dX4_kerfAt_16 rfl (lv_at hl 1 rfl) ?_
      refine lv_aload_n hx hb dX4_kerfAt_17 rfl (lv_at hl 0 rfl) ?_
      refine va_get (D := (dC, dI)) (ci := 4) (v := .int (nI kc)) (C := RX4) (T := TX4) (N := 15) hx hb hts (by decide +kernel) hown hK hP 0 rfl rfl 12 (by decide) (hts (.fieldLink RX4 94 "SteamBendsModel" "cuts" "I") (by decide +kernel)) (fun _ h9 => h9) rfl dX4_kerfAt_18 ?_
      refine lv_icmp_lt (tgt := 28) hx hb dX4_kerfAt_21 (by decide) (fun c_21 => ?_) (fun c_21 => ?_)
      · have c_21 := (z_lt (a := k.toInt) (b := ((kc : Nat) : Int)) rfl (nI_toInt (by omega))).mp c_21
        refine lv_dload_n hx hb dX4_kerfAt_28 rfl (lv_at hl 2 rfl) ?_
        refine lv_dconst0 hx hb dX4_kerfAt_29 ?_
        refine lv_ldc2d (v := 4666723172467343360) hx hb hown (hts (.constantDouble RX4 59 (4666723172467343360)) (by decide +kernel)) dX4_kerfAt_30 ?_
        refine va_calli (va_runS (As := [.double len, .double FP.dconst0, .double 4666723172467343360]) (rest := [.ref mo]) ⟨hx, hb, hml, hown, hts⟩ (m_X4_isIn l len FP.dconst0 4666723172467343360 (hlen.nn (by omega)) (dB_d0.nn (by omega)) ((by unfold dB; decide +kernel : dB 1037 4666723172467343360).nn (by omega))) (va_cwS 3 hts gX4_kerfAt_X4_isIn rfl rfl rfl (by decide +kernel) ⟨(Nat.le_of_ble_eq_true rfl), (Nat.le_of_ble_eq_true rfl)⟩) ⟨fun a U g mk q => q, fun U9 hU9 hW9 => ⟨rfl, trivial⟩⟩ rfl rfl hl.1 rfl (lv_room (Nat.le_of_ble_eq_true rfl)) dX4_kerfAt_33 ⟨(Nat.le_of_ble_eq_true rfl), (Nat.le_of_ble_eq_true rfl)⟩) hS (fun q _ h => h.elim) (fun q h => h.elim) (fun r_185 u9s t9s H1 locs hht hvm9 hw_33_k_184 hB hz1 hk1 hS => ?_)
        have hP := va_still hP hk1
        generalize H1 = H at hP hS ⊢
        refine lv_if_eq (tgt := 43) hx hb dX4_kerfAt_36 (by decide) (fun c_36 => ?_) (fun c_36 => ?_)
        · have c_36 := (b01 hw_33_k_184).mp c_36
          refine lv_iconst (v := 3) hx hb dX4_kerfAt_43 (by decide) ?_
          refine va_put (D := (dC, dI)) (ci := 4) (v := .int 3) (ty := .int) (C := RX4) (T := TX4) (N := 15) hx hb hts (by decide +kernel) tyX4 tyX4_ok nmX4 hown hK hP hD hS 0 rfl rfl 0 (by decide) (hts (.fieldLink RX4 43 "SteamBendsModel" "code" "I") (by decide +kernel)) (fun _ h9 => h9) rfl (by decide +kernel) rfl rfl (Nat.le_of_ble_eq_true rfl) dX4_kerfAt_44 (fun H locs hP hD hS => ?_)
          have hP : va_P (dC, dI) vwCl [(mo, .inr (4, [.int 3, .ref a1, .ref a2, .ref a3, .ref a4, .ref a5, .ref a6, .ref a7, .ref a8, .int (nI np), .ref a10, .ref a11, .int (nI kc), .double kr, .int fd]))] H := hP
          have hD : va_D A [(mo, .inr (4, [.int 3, .ref a1, .ref a2, .ref a3, .ref a4, .ref a5, .ref a6, .ref a7, .ref a8, .int (nI np), .ref a10, .ref a11, .int (nI kc), .double kr, .int fd]))] := hD
          refine lv_aload_n hx hb dX4_kerfAt_47 rfl (lv_at hl 0 rfl) ?_
          refine va_get (D := (dC, dI)) (ci := 4) (v := .int 3) (C := RX4) (T := TX4) (N := 15) hx hb hts (by decide +kernel) hown hK hP 0 rfl rfl 0 (by decide) (hts (.fieldLink RX4 43 "SteamBendsModel" "code" "I") (by decide +kernel)) (fun _ h9 => h9) rfl dX4_kerfAt_48 ?_
          refine lv_if_le (tgt := 58) hx hb dX4_kerfAt_51 (by decide) (fun c_51 => ?_) (fun c_51 => ?_)
          · exact absurd c_51 (by decide)
          · refine lv_dconst0 hx hb dX4_kerfAt_54 ?_
            refine lv_goto (tgt := 74) hx hb dX4_kerfAt_55 (by decide) ?_
            have hP9 := hP.sub (ws' := [(mo, .inr (4, [.int 3, .ref a1, .ref a2, .ref a3, .ref a4, .ref a5, .ref a6, .ref a7, .ref a8, .int (nI np), .ref a10, .ref a11, .int (nI kc), .double kr, .int fd]))]) [0] rfl
            have hD9 := hD.sub (ws' := [(mo, .inr (4, [.int 3, .ref a1, .ref a2, .ref a3, .ref a4, .ref a5, .ref a6, .ref a7, .ref a8, .int (nI np), .ref a10, .ref a11, .int (nI kc), .double kr, .int fd]))]) [0] (by decide) rfl
            exact W.dret hx hb hr (fun t9s hht hW9 => ⟨⟨FP.dconst0, 3, rfl, ⟨(by show (3 : Nat) = _; unfold cKa; (repeat' split) <;> omega), fun z => absurd z (by simp)⟩, ⟨by rw [hht]; exact hP9, hD9⟩⟩, hS.F hht⟩) hS.2.2 dX4_kerfAt_74
        · have c_36 := (b01n hw_33_k_184).mp c_36
          refine lv_iconst (v := 0) hx hb dX4_kerfAt_39 (by decide) ?_
          refine lv_goto (tgt := 44) hx hb dX4_kerfAt_40 (by decide) ?_
          refine va_put (D := (dC, dI)) (ci := 4) (v := .int 0) (ty := .int) (C := RX4) (T := TX4) (N := 15) hx hb hts (by decide +kernel) tyX4 tyX4_ok nmX4 hown hK hP hD hS 0 rfl rfl 0 (by decide) (hts (.fieldLink RX4 43 "SteamBendsModel" "code" "I") (by decide +kernel)) (fun _ h9 => h9) rfl (by decide +kernel) rfl rfl (Nat.le_of_ble_eq_true rfl) dX4_kerfAt_44 (fun H locs hP hD hS => ?_)
          have hP : va_P (dC, dI) vwCl [(mo, .inr (4, [.int 0, .ref a1, .ref a2, .ref a3, .ref a4, .ref a5, .ref a6, .ref a7, .ref a8, .int (nI np), .ref a10, .ref a11, .int (nI kc), .double kr, .int fd]))] H := hP
          have hD : va_D A [(mo, .inr (4, [.int 0, .ref a1, .ref a2, .ref a3, .ref a4, .ref a5, .ref a6, .ref a7, .ref a8, .int (nI np), .ref a10, .ref a11, .int (nI kc), .double kr, .int fd]))] := hD
          refine lv_aload_n hx hb dX4_kerfAt_47 rfl (lv_at hl 0 rfl) ?_
          refine va_get (D := (dC, dI)) (ci := 4) (v := .int 0) (C := RX4) (T := TX4) (N := 15) hx hb hts (by decide +kernel) hown hK hP 0 rfl rfl 0 (by decide) (hts (.fieldLink RX4 43 "SteamBendsModel" "code" "I") (by decide +kernel)) (fun _ h9 => h9) rfl dX4_kerfAt_48 ?_
          refine lv_if_le (tgt := 58) hx hb dX4_kerfAt_51 (by decide) (fun c_51 => ?_) (fun c_51 => ?_)
          · refine lv_dload_n hx hb dX4_kerfAt_58 rfl (lv_at hl 2 rfl) ?_
            refine lv_iconst (v := 2) hx hb dX4_kerfAt_59 (by decide) ?_
            refine lv_iload_n hx hb dX4_kerfAt_60 rfl (lv_at hl 1 rfl) ?_
            refine lv_imul hx hb dX4_kerfAt_61 ?_
            refine lv_iconst (v := 1) hx hb dX4_kerfAt_62 (by decide) ?_
            refine lv_iadd hx hb dX4_kerfAt_63 ?_
            refine lv_i2d hx hb dX4_kerfAt_64 ?_
            have b_186 : dB (1094) (FP.dmul len (FP.i2d ((2 * k) + 1))) := dB.mul hlen (i2d_dB ((2 * k) + 1)) (by omega) (by omega) (by omega)
            refine lv_dmul hx hb dX4_kerfAt_65 (b_186.ok (by omega)) ?_
            refine lv_iconst (v := 2) hx hb dX4_kerfAt_66 (by decide) ?_
            refine lv_aload_n hx hb dX4_kerfAt_67 rfl (lv_at hl 0 rfl) ?_
            refine va_get (D := (dC, dI)) (ci := 4) (v := .int (nI kc)) (C := RX4) (T := TX4) (N := 15) hx hb hts (by decide +kernel) hown hK hP 0 rfl rfl 12 (by decide) (hts (.fieldLink RX4 94 "SteamBendsModel" "cuts" "I") (by decide +kernel)) (fun _ h9 => h9) rfl dX4_kerfAt_68 ?_
            refine lv_imulN (x := 2) (y := kc) hx hb dX4_kerfAt_71 ?_
            refine lv_i2d hx hb dX4_kerfAt_72 ?_
            have b_187 : dB (1095) (FP.ddiv (FP.dmul len (FP.i2d ((2 * k) + 1))) (FP.i2d (nI (2 * kc)))) := dB.div b_186 (i2d_dL (k := 2 * kc) (by omega) (by omega)) (i2d_dB (nI (2 * kc))) (by omega) (by omega) (by omega) (by omega)
            refine lv_ddiv hx hb dX4_kerfAt_73 (b_187.ok (by omega)) ?_
            have hP9 := hP.sub (ws' := [(mo, .inr (4, [.int 0, .ref a1, .ref a2, .ref a3, .ref a4, .ref a5, .ref a6, .ref a7, .ref a8, .int (nI np), .ref a10, .ref a11, .int (nI kc), .double kr, .int fd]))]) [0] rfl
            have hD9 := hD.sub (ws' := [(mo, .inr (4, [.int 0, .ref a1, .ref a2, .ref a3, .ref a4, .ref a5, .ref a6, .ref a7, .ref a8, .int (nI np), .ref a10, .ref a11, .int (nI kc), .double kr, .int fd]))]) [0] (by decide) rfl
            exact W.dret hx hb hr (fun t9s hht hW9 => ⟨⟨FP.ddiv (FP.dmul len (FP.i2d ((2 * k) + 1))) (FP.i2d (nI (2 * kc))), 0, rfl, ⟨(by show (0 : Nat) = _; unfold cKa; (repeat' split) <;> omega), fun _ => rfl⟩, ⟨by rw [hht]; exact hP9, hD9⟩⟩, hS.F hht⟩) hS.2.2 dX4_kerfAt_74
          · exact absurd c_51 (by decide)
      · have c_21 := mt (z_lt (a := k.toInt) (b := ((kc : Nat) : Int)) rfl (nI_toInt (by omega))).mpr c_21
        refine lv_iconst (v := 2) hx hb dX4_kerfAt_24 (by decide) ?_
        refine lv_goto (tgt := 44) hx hb dX4_kerfAt_25 (by decide) ?_
        refine va_put (D := (dC, dI)) (ci := 4) (v := .int 2) (ty := .int) (C := RX4) (T := TX4) (N := 15) hx hb hts (by decide +kernel) tyX4 tyX4_ok nmX4 hown hK hP hD hS 0 rfl rfl 0 (by decide) (hts (.fieldLink RX4 43 "SteamBendsModel" "code" "I") (by decide +kernel)) (fun _ h9 => h9) rfl (by decide +kernel) rfl rfl (Nat.le_of_ble_eq_true rfl) dX4_kerfAt_44 (fun H locs hP hD hS => ?_)
        have hP : va_P (dC, dI) vwCl [(mo, .inr (4, [.int 2, .ref a1, .ref a2, .ref a3, .ref a4, .ref a5, .ref a6, .ref a7, .ref a8, .int (nI np), .ref a10, .ref a11, .int (nI kc), .double kr, .int fd]))] H := hP
        have hD : va_D A [(mo, .inr (4, [.int 2, .ref a1, .ref a2, .ref a3, .ref a4, .ref a5, .ref a6, .ref a7, .ref a8, .int (nI np), .ref a10, .ref a11, .int (nI kc), .double kr, .int fd]))] := hD
        refine lv_aload_n hx hb dX4_kerfAt_47 rfl (lv_at hl 0 rfl) ?_
        refine va_get (D := (dC, dI)) (ci := 4) (v := .int 2) (C := RX4) (T := TX4) (N := 15) hx hb hts (by decide +kernel) hown hK hP 0 rfl rfl 0 (by decide) (hts (.fieldLink RX4 43 "SteamBendsModel" "code" "I") (by decide +kernel)) (fun _ h9 => h9) rfl dX4_kerfAt_48 ?_
        refine lv_if_le (tgt := 58) hx hb dX4_kerfAt_51 (by decide) (fun c_51 => ?_) (fun c_51 => ?_)
        · exact absurd c_51 (by decide)
        · refine lv_dconst0 hx hb dX4_kerfAt_54 ?_
          refine lv_goto (tgt := 74) hx hb dX4_kerfAt_55 (by decide) ?_
          have hP9 := hP.sub (ws' := [(mo, .inr (4, [.int 2, .ref a1, .ref a2, .ref a3, .ref a4, .ref a5, .ref a6, .ref a7, .ref a8, .int (nI np), .ref a10, .ref a11, .int (nI kc), .double kr, .int fd]))]) [0] rfl
          have hD9 := hD.sub (ws' := [(mo, .inr (4, [.int 2, .ref a1, .ref a2, .ref a3, .ref a4, .ref a5, .ref a6, .ref a7, .ref a8, .int (nI np), .ref a10, .ref a11, .int (nI kc), .double kr, .int fd]))]) [0] (by decide) rfl
          exact W.dret hx hb hr (fun t9s hht hW9 => ⟨⟨FP.dconst0, 2, rfl, ⟨(by show (2 : Nat) = _; unfold cKa; (repeat' split) <;> omega), fun z => absurd z (by simp)⟩, ⟨by rw [hht]; exact hP9, hD9⟩⟩, hS.F hht⟩) hS.2.2 dX4_kerfAt_74
  · have c_5 := (nI_eq (a := kc) (b := 0) (by omega) (by omega)).mp c_5
    refine lv_iconst (v := 1) hx hb dX4_kerfAt_8 (by decide) ?_
    refine lv_goto (tgt := 44) hx hb dX4_kerfAt_9 (by decide) ?_
    refine va_put (D := (dC, dI)) (ci := 4) (v := .int 1) (ty := .int) (C := RX4) (T := TX4) (N := 15) hx hb hts (by decide +kernel) tyX4 tyX4_ok nmX4 hown hK hP hD hS 0 rfl rfl 0 (by decide) (hts (.fieldLink RX4 43 "SteamBendsModel" "code" "I") (by decide +kernel)) (fun _ h9 => h9) rfl (by decide +kernel) rfl rfl (Nat.le_of_ble_eq_true rfl) dX4_kerfAt_44 (fun H locs hP hD hS => ?_)
    have hP : va_P (dC, dI) vwCl [(mo, .inr (4, [.int 1, .ref a1, .ref a2, .ref a3, .ref a4, .ref a5, .ref a6, .ref a7, .ref a8, .int (nI np), .ref a10, .ref a11, .int (nI kc), .double kr, .int fd]))] H := hP
    have hD : va_D A [(mo, .inr (4, [.int 1, .ref a1, .ref a2, .ref a3, .ref a4, .ref a5, .ref a6, .ref a7, .ref a8, .int (nI np), .ref a10, .ref a11, .int (nI kc), .double kr, .int fd]))] := hD
    refine lv_aload_n hx hb dX4_kerfAt_47 rfl (lv_at hl 0 rfl) ?_
    refine va_get (D := (dC, dI)) (ci := 4) (v := .int 1) (C := RX4) (T := TX4) (N := 15) hx hb hts (by decide +kernel) hown hK hP 0 rfl rfl 0 (by decide) (hts (.fieldLink RX4 43 "SteamBendsModel" "code" "I") (by decide +kernel)) (fun _ h9 => h9) rfl dX4_kerfAt_48 ?_
    refine lv_if_le (tgt := 58) hx hb dX4_kerfAt_51 (by decide) (fun c_51 => ?_) (fun c_51 => ?_)
    · exact absurd c_51 (by decide)
    · refine lv_dconst0 hx hb dX4_kerfAt_54 ?_
      refine lv_goto (tgt := 74) hx hb dX4_kerfAt_55 (by decide) ?_
      have hP9 := hP.sub (ws' := [(mo, .inr (4, [.int 1, .ref a1, .ref a2, .ref a3, .ref a4, .ref a5, .ref a6, .ref a7, .ref a8, .int (nI np), .ref a10, .ref a11, .int (nI kc), .double kr, .int fd]))]) [0] rfl
      have hD9 := hD.sub (ws' := [(mo, .inr (4, [.int 1, .ref a1, .ref a2, .ref a3, .ref a4, .ref a5, .ref a6, .ref a7, .ref a8, .int (nI np), .ref a10, .ref a11, .int (nI kc), .double kr, .int fd]))]) [0] (by decide) rfl
      exact W.dret hx hb hr (fun t9s hht hW9 => ⟨⟨FP.dconst0, 1, rfl, ⟨(by show (1 : Nat) = _; unfold cKa; (repeat' split) <;> omega), fun z => absurd z (by simp)⟩, ⟨by rw [hht]; exact hP9, hD9⟩⟩, hS.F hht⟩) hS.2.2 dX4_kerfAt_74

set_option maxHeartbeats 4000000 in
set_option maxRecDepth 100000 in
theorem m_X4_rest (l : Launch) (dC : Nat → ClassId) (dI : Nat → Nat → Nat) (sz : Nat) (cI cD : ClassId) (mo a1 a2 a3 a4 a5 a6 a7 a8 a10 a11 : Nat) (cd : Int32) (np kc : Nat) (kr : UInt64) (fd : Int32) (hkc : kc ≤ 65535) : Met l yX4_rest wsX4_rest ({ frames := 0, cells := 0, slots := 0, locals := 0 } : Room) (va_Pc [.ref mo] (PW (dC, dI) [(cD, .double)] [(mo, .inr (4, [.int cd, .ref a1, .ref a2, .ref a3, .ref a4, .ref a5, .ref a6, .ref a7, .ref a8, .int (nI np), .ref a10, .ref a11, .int (nI kc), .double kr, .int fd]))] sz)) (va_Qd (fun (r : UInt64) (u : Nat) => u = cRe kc ∧ (u = 0 → r = kr)) (fun (u : Nat) => QW (dC, dI) [(mo, .inr (4, [.int (nI u), .ref a1, .ref a2, .ref a3, .ref a4, .ref a5, .ref a6, .ref a7, .ref a8, .int (nI np), .ref a10, .ref a11, .int (nI kc), .double kr, .int fd]))] (va_A [(mo, .inr (4, [.int cd, .ref a1, .ref a2, .ref a3, .ref a4, .ref a5, .ref a6, .ref a7, .ref a8, .int (nI np), .ref a10, .ref a11, .int (nI kc), .double kr, .int fd]))] sz)) (va_A [(mo, .inr (4, [.int cd, .ref a1, .ref a2, .ref a3, .ref a4, .ref a5, .ref a6, .ref a7, .ref a8, .int (nI np), .ref a10, .ref a11, .int (nI kc), .double kr, .int fd]))] sz)) 0 0 (va_A [(mo, .inr (4, [.int cd, .ref a1, .ref a2, .ref a3, .ref a4, .ref a5, .ref a6, .ref a7, .ref a8, .int (nI np), .ref a10, .ref a11, .int (nI kc), .double kr, .int fd]))] sz) := by
  refine Met.ofW (cc := cX4_rest) (maxL := 1) (ret := (some .double)) (by decide) rfl ?_
  intro p e s m args below meth c s₁ BB hml hv
  obtain ⟨rfl, hsz, hP, hK, hD0, hN⟩ := hv
  have hx := BB.exec
  have hb := BB.bytes
  have hr := BB.returns
  have hts := atoms_spec (ws := wsX4_rest) BB.pre
  have hown : s.vm.findClass RX4 = some m.cls := findClass_of_methodNamed BB.named
  have hlocks := BB.notSynchronized
  subst hsz
  have hD := hD0.self (sz := s.heap.size)
  generalize hAe : va_A [(mo, .inr (4, [.int cd, .ref a1, .ref a2, .ref a3, .ref a4, .ref a5, .ref a6, .ref a7, .ref a8, .int (nI np), .ref a10, .ref a11, .int (nI kc), .double kr, .int fd]))] s.heap.size = A at hD ⊢
  have hA : ∀ q : Nat, s.heap.size ≤ q → A q := fun q h => by rw [← hAe]; exact Or.inr h
  have hS : va_S A s.heap s.heap [] := va_S.rf
  have hP : va_P (dC, dI) vwCl [(mo, .inr (4, [.int cd, .ref a1, .ref a2, .ref a3, .ref a4, .ref a5, .ref a6, .ref a7, .ref a8, .int (nI np), .ref a10, .ref a11, .int (nI kc), .double kr, .int fd]))] s.heap := hP
  have hl := lv_entry ([.ref mo]) (n := 1) (Nat.le_of_ble_eq_true rfl)
  rw [lg_entry_eq]
  generalize (lg_sl ([.ref mo]) ++ List.replicate (1 - (lg_sl ([.ref mo])).length) Slot.unset).toArray = ls at hl ⊢
  have hl : lv_has ls 1 [(0, .ref mo)] := hl
  refine lv_aload_n hx hb dX4_rest_0 rfl (lv_at hl 0 rfl) ?_
  refine lv_aload_n hx hb dX4_rest_1 rfl (lv_at hl 0 rfl) ?_
  refine va_get (D := (dC, dI)) (ci := 4) (v := .int (nI kc)) (C := RX4) (T := TX4) (N := 15) hx hb hts (by decide +kernel) hown hK hP 0 rfl rfl 12 (by decide) (hts (.fieldLink RX4 94 "SteamBendsModel" "cuts" "I") (by decide +kernel)) (fun _ h9 => h9) rfl dX4_rest_2 ?_
  refine lv_if_ne (tgt := 12) hx hb dX4_rest_5 (by decide) (fun c_5 => ?_) (fun c_5 => ?_)
  · have c_5 := mt (nI_eq (a := kc) (b := 0) (by omega) (by omega)).mpr c_5
    refine lv_iconst (v := 0) hx hb dX4_rest_12 (by decide) ?_
    refine va_put (D := (dC, dI)) (ci := 4) (v := .int 0) (ty := .int) (C := RX4) (T := TX4) (N := 15) hx hb hts (by decide +kernel) tyX4 tyX4_ok nmX4 hown hK hP hD hS 0 rfl rfl 0 (by decide) (hts (.fieldLink RX4 43 "SteamBendsModel" "code" "I") (by decide +kernel)) (fun _ h9 => h9) rfl (by decide +kernel) rfl rfl (Nat.le_of_ble_eq_true rfl) dX4_rest_13 (fun H locs hP hD hS => ?_)
    have hP : va_P (dC, dI) vwCl [(mo, .inr (4, [.int 0, .ref a1, .ref a2, .ref a3, .ref a4, .ref a5, .ref a6, .ref a7, .ref a8, .int (nI np), .ref a10, .ref a11, .int (nI kc), .double kr, .int fd]))] H := hP
    have hD : va_D A [(mo, .inr (4, [.int 0, .ref a1, .ref a2, .ref a3, .ref a4, .ref a5, .ref a6, .ref a7, .ref a8, .int (nI np), .ref a10, .ref a11, .int (nI kc), .double kr, .int fd]))] := hD
    refine lv_aload_n hx hb dX4_rest_16 rfl (lv_at hl 0 rfl) ?_
    refine va_get (D := (dC, dI)) (ci := 4) (v := .int 0) (C := RX4) (T := TX4) (N := 15) hx hb hts (by decide +kernel) hown hK hP 0 rfl rfl 0 (by decide) (hts (.fieldLink RX4 43 "SteamBendsModel" "code" "I") (by decide +kernel)) (fun _ h9 => h9) rfl dX4_rest_17 ?_
    refine lv_if_le (tgt := 27) hx hb dX4_rest_20 (by decide) (fun c_20 => ?_) (fun c_20 => ?_)
    · refine lv_aload_n hx hb dX4_rest_27 rfl (lv_at hl 0 rfl) ?_
      refine va_get (D := (dC, dI)) (ci := 4) (v := .double kr) (C := RX4) (T := TX4) (N := 15) hx hb hts (by decide +kernel) hown hK hP 0 rfl rfl 13 (by decide) (hts (.fieldLink RX4 97 "SteamBendsModel" "over" "D") (by decide +kernel)) (fun _ h9 => h9) rfl dX4_rest_28 ?_
      have hP9 := hP.sub (ws' := [(mo, .inr (4, [.int 0, .ref a1, .ref a2, .ref a3, .ref a4, .ref a5, .ref a6, .ref a7, .ref a8, .int (nI np), .ref a10, .ref a11, .int (nI kc), .double kr, .int fd]))]) [0] rfl
      have hD9 := hD.sub (ws' := [(mo, .inr (4, [.int 0, .ref a1, .ref a2, .ref a3, .ref a4, .ref a5, .ref a6, .ref a7, .ref a8, .int (nI np), .ref a10, .ref a11, .int (nI kc), .double kr, .int fd]))]) [0] (by decide) rfl
      exact W.dret hx hb hr (fun t9s hht hW9 => ⟨⟨kr, 0, rfl, ⟨(by show (0 : Nat) = _; unfold cRe; (repeat' split) <;> omega), fun _ => rfl⟩, ⟨by rw [hht]; exact hP9, hD9⟩⟩, hS.F hht⟩) hS.2.2 dX4_rest_31
    · exact absurd c_20 (by decide)
  · have c_5 := (nI_eq (a := kc) (b := 0) (by omega) (by omega)).mp c_5
    refine lv_iconst (v := 1) hx hb dX4_rest_8 (by decide) ?_
    refine lv_goto (tgt := 13) hx hb dX4_rest_9 (by decide) ?_
    refine va_put (D := (dC, dI)) (ci := 4) (v := .int 1) (ty := .int) (C := RX4) (T := TX4) (N := 15) hx hb hts (by decide +kernel) tyX4 tyX4_ok nmX4 hown hK hP hD hS 0 rfl rfl 0 (by decide) (hts (.fieldLink RX4 43 "SteamBendsModel" "code" "I") (by decide +kernel)) (fun _ h9 => h9) rfl (by decide +kernel) rfl rfl (Nat.le_of_ble_eq_true rfl) dX4_rest_13 (fun H locs hP hD hS => ?_)
    have hP : va_P (dC, dI) vwCl [(mo, .inr (4, [.int 1, .ref a1, .ref a2, .ref a3, .ref a4, .ref a5, .ref a6, .ref a7, .ref a8, .int (nI np), .ref a10, .ref a11, .int (nI kc), .double kr, .int fd]))] H := hP
    have hD : va_D A [(mo, .inr (4, [.int 1, .ref a1, .ref a2, .ref a3, .ref a4, .ref a5, .ref a6, .ref a7, .ref a8, .int (nI np), .ref a10, .ref a11, .int (nI kc), .double kr, .int fd]))] := hD
    refine lv_aload_n hx hb dX4_rest_16 rfl (lv_at hl 0 rfl) ?_
    refine va_get (D := (dC, dI)) (ci := 4) (v := .int 1) (C := RX4) (T := TX4) (N := 15) hx hb hts (by decide +kernel) hown hK hP 0 rfl rfl 0 (by decide) (hts (.fieldLink RX4 43 "SteamBendsModel" "code" "I") (by decide +kernel)) (fun _ h9 => h9) rfl dX4_rest_17 ?_
    refine lv_if_le (tgt := 27) hx hb dX4_rest_20 (by decide) (fun c_20 => ?_) (fun c_20 => ?_)
    · exact absurd c_20 (by decide)
    · refine lv_dconst0 hx hb dX4_rest_23 ?_
      refine lv_goto (tgt := 31) hx hb dX4_rest_24 (by decide) ?_
      have hP9 := hP.sub (ws' := [(mo, .inr (4, [.int 1, .ref a1, .ref a2, .ref a3, .ref a4, .ref a5, .ref a6, .ref a7, .ref a8, .int (nI np), .ref a10, .ref a11, .int (nI kc), .double kr, .int fd]))]) [0] rfl
      have hD9 := hD.sub (ws' := [(mo, .inr (4, [.int 1, .ref a1, .ref a2, .ref a3, .ref a4, .ref a5, .ref a6, .ref a7, .ref a8, .int (nI np), .ref a10, .ref a11, .int (nI kc), .double kr, .int fd]))]) [0] (by decide) rfl
      exact W.dret hx hb hr (fun t9s hht hW9 => ⟨⟨FP.dconst0, 1, rfl, ⟨(by show (1 : Nat) = _; unfold cRe; (repeat' split) <;> omega), fun z => absurd z (by simp)⟩, ⟨by rw [hht]; exact hP9, hD9⟩⟩, hS.F hht⟩) hS.2.2 dX4_rest_31

set_option maxHeartbeats 4000000 in
set_option maxRecDepth 100000 in
theorem m_X4_common (l : Launch) (x y : Nat) (hx9 : x ≤ 1000001) (hy9 : y ≤ 1000001) : Met l yX4_common wsX4_common ({ frames := 0, cells := 0, slots := 0, locals := 0 } : Room) (va_Pc [.int (nI x), .int (nI y)] (fun _ => True)) (va_Qi (fun (r : Int32) (_ : Unit) => r = nI (Nat.gcd x y)) (fun _ _ => True) (fun _ => False)) 0 0 (fun _ => False) := by
  refine Met.ofW (cc := cX4_common) (maxL := 5) (ret := (some .int)) (by decide) rfl ?_
  intro p e s m args below meth c s₁ BB hml hv
  obtain ⟨rfl, -⟩ := hv
  have hx := BB.exec
  have hb := BB.bytes
  have hr := BB.returns
  have hts := atoms_spec (ws := wsX4_common) BB.pre
  have hown : s.vm.findClass RX4 = some m.cls := findClass_of_methodNamed BB.named
  have hlocks := BB.notSynchronized
  have hS : va_S (fun _ => False) s.heap s.heap [] := va_S.rf
  have hl := lv_entry ([.int (nI x), .int (nI y)]) (n := 5) (Nat.le_of_ble_eq_true rfl)
  rw [lg_entry_eq]
  generalize (lg_sl ([.int (nI x), .int (nI y)]) ++ List.replicate (5 - (lg_sl ([.int (nI x), .int (nI y)])).length) Slot.unset).toArray = ls at hl ⊢
  have hl : lv_has ls 5 [(0, .int (nI x)), (1, .int (nI y))] := hl
  refine lv_iload_n hx hb dX4_common_0 rfl (lv_at hl 0 rfl) ?_
  refine lv_istore_n (lv' := [(2, .int (nI x)), (0, .int (nI x)), (1, .int (nI y))]) hx hb dX4_common_1 rfl hl (by decide) rfl (fun ls hl => ?_)
  refine lv_iload_n hx hb dX4_common_2 rfl (lv_at hl 2 rfl) ?_
  refine lv_istore_n (lv' := [(3, .int (nI y)), (2, .int (nI x)), (0, .int (nI x)), (1, .int (nI y))]) hx hb dX4_common_3 rfl hl (by decide) rfl (fun ls hl => ?_)
  refine w_loop (σ := Nat × Nat) (fun n9 x9 H locs ls => lv_has ls 5 [(3, .int (nI x9.2)), (2, .int (nI x9.1)), (0, .int (nI x)), (1, .int (nI y))] ∧ va_S (fun _ => False) s.heap H locs ∧ n9 = x9.2 ∧ Nat.gcd x9.1 x9.2 = Nat.gcd x y ∧ x9.2 ≤ 1000001 ∧ x9.1 ≤ 1000001) (n0 := y) (x0 := (x, y)) ⟨lv_sub hl [0, 1, 2, 3] rfl, hS, (show y = y ∧ Nat.gcd x y = Nat.gcd x y ∧ y ≤ 1000001 ∧ x ≤ 1000001 from ⟨rfl, rfl, by omega, by omega⟩)⟩ ?_
  rintro n9 ⟨d9, l9⟩ H locs ls ⟨hl, hS, hi⟩ ih
  have hl : lv_has ls 5 [(3, .int (nI l9)), (2, .int (nI d9)), (0, .int (nI x)), (1, .int (nI y))] := hl
  have hi : n9 = l9 ∧ Nat.gcd d9 l9 = Nat.gcd x y ∧ l9 ≤ 1000001 ∧ d9 ≤ 1000001 := hi
  refine lv_iload_n hx hb dX4_common_4 rfl (lv_at hl 0 rfl) ?_
  refine lv_if_eq (tgt := 21) hx hb dX4_common_5 (by decide) (fun c_5 => ?_) (fun c_5 => ?_)
  · have c_5 := (nI_eq (a := l9) (b := 0) (by omega) (by omega)).mp c_5
    refine lv_iload_n hx hb dX4_common_21 rfl (lv_at hl 1 rfl) ?_
    exact W.iret hx hb hr (fun t9s hht hW9 => ⟨⟨nI d9, (), rfl, (by rw [← hi.2.1, show l9 = 0 by omega, Nat.gcd_zero_right]), trivial⟩, hS.F hht⟩) hS.2.2 dX4_common_22
  · have c_5 := mt (nI_eq (a := l9) (b := 0) (by omega) (by omega)).mpr c_5
    refine lv_iload_n hx hb dX4_common_8 rfl (lv_at hl 1 rfl) ?_
    refine lv_iload_n hx hb dX4_common_9 rfl (lv_at hl 0 rfl) ?_
    refine lv_iremN (x := d9) (y := l9) hx hb dX4_common_10 (by omega) (by omega) (by omega) ?_
    refine lv_istore (lv' := [(4, .int (nI (d9 % l9))), (3, .int (nI l9)), (2, .int (nI d9)), (0, .int (nI x)), (1, .int (nI y))]) hx hb dX4_common_11 hl (by decide) rfl (fun ls hl => ?_)
    refine lv_iload_n hx hb dX4_common_13 rfl (lv_at hl 1 rfl) ?_
    refine lv_istore_n (lv' := [(2, .int (nI l9)), (4, .int (nI (d9 % l9))), (3, .int (nI l9)), (0, .int (nI x)), (1, .int (nI y))]) hx hb dX4_common_14 rfl hl (by decide) rfl (fun ls hl => ?_)
    refine lv_iload hx hb dX4_common_15 (lv_at hl 1 rfl) ?_
    refine lv_istore_n (lv' := [(3, .int (nI (d9 % l9))), (2, .int (nI l9)), (4, .int (nI (d9 % l9))), (0, .int (nI x)), (1, .int (nI y))]) hx hb dX4_common_17 rfl hl (by decide) rfl (fun ls hl => ?_)
    refine lv_goto (tgt := 4) hx hb dX4_common_18 (by decide) ?_
    have hlt9 := Nat.mod_lt d9 (show 0 < l9 by omega)
    exact ih (d9 % l9) (by omega) (l9, d9 % l9) _ _ _ ⟨lv_sub hl [0, 1, 3, 4] rfl, hS, (show (d9 % l9) = (d9 % l9) ∧ Nat.gcd l9 (d9 % l9) = Nat.gcd x y ∧ (d9 % l9) ≤ 1000001 ∧ l9 ≤ 1000001 from ⟨rfl, by rw [eu_gcd (by omega)]; exact hi.2.1, by omega, by omega⟩)⟩

set_option maxHeartbeats 4000000 in
set_option maxRecDepth 100000 in
theorem m_X4_broken (l : Launch) (dC : Nat → ClassId) (dI : Nat → Nat → Nat) (sz : Nat) (cI cD : ClassId) (mo a1 a2 a3 a4 a5 a6 a7 a8 a10 a11 : Nat) (cd : Int32) (np kc : Nat) (kr : UInt64) (fd : Int32) (n bad part : Int32) : Met l yX4_broken wsX4_broken ({ frames := 1, cells := 0, slots := 0, locals := 24 } : Room) (va_Pc [.ref mo, .int n, .int bad, .int part] (PW (dC, dI) [(cD, .double)] [(mo, .inr (4, [.int cd, .ref a1, .ref a2, .ref a3, .ref a4, .ref a5, .ref a6, .ref a7, .ref a8, .int (nI np), .ref a10, .ref a11, .int (nI kc), .double kr, .int fd]))] sz)) (va_Ql (fun (r : Int64) (u : Nat) => u = cBr n bad part ∧ (u = 0 → r = vBr n.toInt.toNat bad.toInt.toNat part)) (fun (u : Nat) => QW (dC, dI) [(mo, .inr (4, [.int (nI u), .ref a1, .ref a2, .ref a3, .ref a4, .ref a5, .ref a6, .ref a7, .ref a8, .int (nI np), .ref a10, .ref a11, .int (nI kc), .double kr, .int fd]))] (va_A [(mo, .inr (4, [.int cd, .ref a1, .ref a2, .ref a3, .ref a4, .ref a5, .ref a6, .ref a7, .ref a8, .int (nI np), .ref a10, .ref a11, .int (nI kc), .double kr, .int fd]))] sz)) (va_A [(mo, .inr (4, [.int cd, .ref a1, .ref a2, .ref a3, .ref a4, .ref a5, .ref a6, .ref a7, .ref a8, .int (nI np), .ref a10, .ref a11, .int (nI kc), .double kr, .int fd]))] sz)) 0 0 (va_A [(mo, .inr (4, [.int cd, .ref a1, .ref a2, .ref a3, .ref a4, .ref a5, .ref a6, .ref a7, .ref a8, .int (nI np), .ref a10, .ref a11, .int (nI kc), .double kr, .int fd]))] sz) := by
  refine Met.ofW (cc := cX4_broken) (maxL := 5) (ret := (some .long)) (by decide) rfl ?_
  intro p e s m args below meth c s₁ BB hml hv
  obtain ⟨rfl, hsz, hP, hK, hD0, hN⟩ := hv
  have hx := BB.exec
  have hb := BB.bytes
  have hr := BB.returns
  have hts := atoms_spec (ws := wsX4_broken) BB.pre
  have hown : s.vm.findClass RX4 = some m.cls := findClass_of_methodNamed BB.named
  have hlocks := BB.notSynchronized
  subst hsz
  have hD := hD0.self (sz := s.heap.size)
  generalize hAe : va_A [(mo, .inr (4, [.int cd, .ref a1, .ref a2, .ref a3, .ref a4, .ref a5, .ref a6, .ref a7, .ref a8, .int (nI np), .ref a10, .ref a11, .int (nI kc), .double kr, .int fd]))] s.heap.size = A at hD ⊢
  have hA : ∀ q : Nat, s.heap.size ≤ q → A q := fun q h => by rw [← hAe]; exact Or.inr h
  have hS : va_S A s.heap s.heap [] := va_S.rf
  have hP : va_P (dC, dI) vwCl [(mo, .inr (4, [.int cd, .ref a1, .ref a2, .ref a3, .ref a4, .ref a5, .ref a6, .ref a7, .ref a8, .int (nI np), .ref a10, .ref a11, .int (nI kc), .double kr, .int fd]))] s.heap := hP
  have hl := lv_entry ([.ref mo, .int n, .int bad, .int part]) (n := 5) (Nat.le_of_ble_eq_true rfl)
  rw [lg_entry_eq]
  generalize (lg_sl ([.ref mo, .int n, .int bad, .int part]) ++ List.replicate (5 - (lg_sl ([.ref mo, .int n, .int bad, .int part])).length) Slot.unset).toArray = ls at hl ⊢
  have hl : lv_has ls 5 [(0, .ref mo), (1, .int n), (2, .int bad), (3, .int part)] := hl
  refine lv_aload_n hx hb dX4_broken_0 rfl (lv_at hl 0 rfl) ?_
  refine lv_iload_n hx hb dX4_broken_1 rfl (lv_at hl 3 rfl) ?_
  refine lv_if_lt (tgt := 10) hx hb dX4_broken_2 (by decide) (fun c_2 => ?_) (fun c_2 => ?_)
  · have c_2 := (z_lt (a := part.toInt) (b := 0) rfl (by decide)).mp c_2
    refine lv_iconst (v := 1) hx hb dX4_broken_10 (by decide) ?_
    refine lv_goto (tgt := 39) hx hb dX4_broken_11 (by decide) ?_
    refine va_put (D := (dC, dI)) (ci := 4) (v := .int 1) (ty := .int) (C := RX4) (T := TX4) (N := 15) hx hb hts (by decide +kernel) tyX4 tyX4_ok nmX4 hown hK hP hD hS 0 rfl rfl 0 (by decide) (hts (.fieldLink RX4 43 "SteamBendsModel" "code" "I") (by decide +kernel)) (fun _ h9 => h9) rfl (by decide +kernel) rfl rfl (Nat.le_of_ble_eq_true rfl) dX4_broken_39 (fun H locs hP hD hS => ?_)
    have hP : va_P (dC, dI) vwCl [(mo, .inr (4, [.int 1, .ref a1, .ref a2, .ref a3, .ref a4, .ref a5, .ref a6, .ref a7, .ref a8, .int (nI np), .ref a10, .ref a11, .int (nI kc), .double kr, .int fd]))] H := hP
    have hD : va_D A [(mo, .inr (4, [.int 1, .ref a1, .ref a2, .ref a3, .ref a4, .ref a5, .ref a6, .ref a7, .ref a8, .int (nI np), .ref a10, .ref a11, .int (nI kc), .double kr, .int fd]))] := hD
    refine lv_aload_n hx hb dX4_broken_42 rfl (lv_at hl 0 rfl) ?_
    refine va_get (D := (dC, dI)) (ci := 4) (v := .int 1) (C := RX4) (T := TX4) (N := 15) hx hb hts (by decide +kernel) hown hK hP 0 rfl rfl 0 (by decide) (hts (.fieldLink RX4 43 "SteamBendsModel" "code" "I") (by decide +kernel)) (fun _ h9 => h9) rfl dX4_broken_43 ?_
    refine lv_if_le (tgt := 51) hx hb dX4_broken_46 (by decide) (fun c_46 => ?_) (fun c_46 => ?_)
    · exact absurd c_46 (by decide)
    · refine lv_lconst hx hb dX4_broken_49 rfl ?_
      have hP9 := hP.sub (ws' := [(mo, .inr (4, [.int 1, .ref a1, .ref a2, .ref a3, .ref a4, .ref a5, .ref a6, .ref a7, .ref a8, .int (nI np), .ref a10, .ref a11, .int (nI kc), .double kr, .int fd]))]) [0] rfl
      have hD9 := hD.sub (ws' := [(mo, .inr (4, [.int 1, .ref a1, .ref a2, .ref a3, .ref a4, .ref a5, .ref a6, .ref a7, .ref a8, .int (nI np), .ref a10, .ref a11, .int (nI kc), .double kr, .int fd]))]) [0] (by decide) rfl
      exact W.lret hx hb hr (fun t9s hht hW9 => ⟨⟨0, 1, rfl, ⟨(by show (1 : Nat) = _; unfold cBr; (repeat' split) <;> omega), fun z => absurd z (by simp)⟩, ⟨by rw [hht]; exact hP9, hD9⟩⟩, hS.F hht⟩) hS.2.2 dX4_broken_50
  · have c_2 := mt (z_lt (a := part.toInt) (b := 0) rfl (by decide)).mpr c_2
    refine lv_iload_n hx hb dX4_broken_5 rfl (lv_at hl 3 rfl) ?_
    refine lv_iconst (v := 3) hx hb dX4_broken_6 (by decide) ?_
    refine lv_icmp_le (tgt := 14) hx hb dX4_broken_7 (by decide) (fun c_7 => ?_) (fun c_7 => ?_)
    · have c_7 := (z_le (a := part.toInt) (b := 3) rfl (by decide)).mp c_7
      refine lv_iload_n hx hb dX4_broken_14 rfl (lv_at hl 1 rfl) ?_
      refine lv_iconst (v := 1) hx hb dX4_broken_15 (by decide) ?_
      refine lv_icmp_lt (tgt := 38) hx hb dX4_broken_16 (by decide) (fun c_16 => ?_) (fun c_16 => ?_)
      · have c_16 := (z_lt (a := n.toInt) (b := 1) rfl (by decide)).mp c_16
        refine lv_iconst (v := 2) hx hb dX4_broken_38 (by decide) ?_
        refine va_put (D := (dC, dI)) (ci := 4) (v := .int 2) (ty := .int) (C := RX4) (T := TX4) (N := 15) hx hb hts (by decide +kernel) tyX4 tyX4_ok nmX4 hown hK hP hD hS 0 rfl rfl 0 (by decide) (hts (.fieldLink RX4 43 "SteamBendsModel" "code" "I") (by decide +kernel)) (fun _ h9 => h9) rfl (by decide +kernel) rfl rfl (Nat.le_of_ble_eq_true rfl) dX4_broken_39 (fun H locs hP hD hS => ?_)
        have hP : va_P (dC, dI) vwCl [(mo, .inr (4, [.int 2, .ref a1, .ref a2, .ref a3, .ref a4, .ref a5, .ref a6, .ref a7, .ref a8, .int (nI np), .ref a10, .ref a11, .int (nI kc), .double kr, .int fd]))] H := hP
        have hD : va_D A [(mo, .inr (4, [.int 2, .ref a1, .ref a2, .ref a3, .ref a4, .ref a5, .ref a6, .ref a7, .ref a8, .int (nI np), .ref a10, .ref a11, .int (nI kc), .double kr, .int fd]))] := hD
        refine lv_aload_n hx hb dX4_broken_42 rfl (lv_at hl 0 rfl) ?_
        refine va_get (D := (dC, dI)) (ci := 4) (v := .int 2) (C := RX4) (T := TX4) (N := 15) hx hb hts (by decide +kernel) hown hK hP 0 rfl rfl 0 (by decide) (hts (.fieldLink RX4 43 "SteamBendsModel" "code" "I") (by decide +kernel)) (fun _ h9 => h9) rfl dX4_broken_43 ?_
        refine lv_if_le (tgt := 51) hx hb dX4_broken_46 (by decide) (fun c_46 => ?_) (fun c_46 => ?_)
        · exact absurd c_46 (by decide)
        · refine lv_lconst hx hb dX4_broken_49 rfl ?_
          have hP9 := hP.sub (ws' := [(mo, .inr (4, [.int 2, .ref a1, .ref a2, .ref a3, .ref a4, .ref a5, .ref a6, .ref a7, .ref a8, .int (nI np), .ref a10, .ref a11, .int (nI kc), .double kr, .int fd]))]) [0] rfl
          have hD9 := hD.sub (ws' := [(mo, .inr (4, [.int 2, .ref a1, .ref a2, .ref a3, .ref a4, .ref a5, .ref a6, .ref a7, .ref a8, .int (nI np), .ref a10, .ref a11, .int (nI kc), .double kr, .int fd]))]) [0] (by decide) rfl
          exact W.lret hx hb hr (fun t9s hht hW9 => ⟨⟨0, 2, rfl, ⟨(by show (2 : Nat) = _; unfold cBr; (repeat' split) <;> omega), fun z => absurd z (by simp)⟩, ⟨by rw [hht]; exact hP9, hD9⟩⟩, hS.F hht⟩) hS.2.2 dX4_broken_50
      · have c_16 := mt (z_lt (a := n.toInt) (b := 1) rfl (by decide)).mpr c_16
        refine lv_iload_n hx hb dX4_broken_19 rfl (lv_at hl 1 rfl) ?_
        refine lv_ldc (v := 1000000) hx hb hown (hts (.constant RX4 101 (1000000)) (by decide +kernel)) dX4_broken_20 ?_
        refine lv_icmp_gt (tgt := 38) hx hb dX4_broken_22 (by decide) (fun c_22 => ?_) (fun c_22 => ?_)
        · have c_22 := (z_lt (a := 1000000) (b := n.toInt) (by decide) rfl).mp c_22
          refine lv_iconst (v := 2) hx hb dX4_broken_38 (by decide) ?_
          refine va_put (D := (dC, dI)) (ci := 4) (v := .int 2) (ty := .int) (C := RX4) (T := TX4) (N := 15) hx hb hts (by decide +kernel) tyX4 tyX4_ok nmX4 hown hK hP hD hS 0 rfl rfl 0 (by decide) (hts (.fieldLink RX4 43 "SteamBendsModel" "code" "I") (by decide +kernel)) (fun _ h9 => h9) rfl (by decide +kernel) rfl rfl (Nat.le_of_ble_eq_true rfl) dX4_broken_39 (fun H locs hP hD hS => ?_)
          have hP : va_P (dC, dI) vwCl [(mo, .inr (4, [.int 2, .ref a1, .ref a2, .ref a3, .ref a4, .ref a5, .ref a6, .ref a7, .ref a8, .int (nI np), .ref a10, .ref a11, .int (nI kc), .double kr, .int fd]))] H := hP
          have hD : va_D A [(mo, .inr (4, [.int 2, .ref a1, .ref a2, .ref a3, .ref a4, .ref a5, .ref a6, .ref a7, .ref a8, .int (nI np), .ref a10, .ref a11, .int (nI kc), .double kr, .int fd]))] := hD
          refine lv_aload_n hx hb dX4_broken_42 rfl (lv_at hl 0 rfl) ?_
          refine va_get (D := (dC, dI)) (ci := 4) (v := .int 2) (C := RX4) (T := TX4) (N := 15) hx hb hts (by decide +kernel) hown hK hP 0 rfl rfl 0 (by decide) (hts (.fieldLink RX4 43 "SteamBendsModel" "code" "I") (by decide +kernel)) (fun _ h9 => h9) rfl dX4_broken_43 ?_
          refine lv_if_le (tgt := 51) hx hb dX4_broken_46 (by decide) (fun c_46 => ?_) (fun c_46 => ?_)
          · exact absurd c_46 (by decide)
          · refine lv_lconst hx hb dX4_broken_49 rfl ?_
            have hP9 := hP.sub (ws' := [(mo, .inr (4, [.int 2, .ref a1, .ref a2, .ref a3, .ref a4, .ref a5, .ref a6, .ref a7, .ref a8, .int (nI np), .ref a10, .ref a11, .int (nI kc), .double kr, .int fd]))]) [0] rfl
            have hD9 := hD.sub (ws' := [(mo, .inr (4, [.int 2, .ref a1, .ref a2, .ref a3, .ref a4, .ref a5, .ref a6, .ref a7, .ref a8, .int (nI np), .ref a10, .ref a11, .int (nI kc), .double kr, .int fd]))]) [0] (by decide) rfl
            exact W.lret hx hb hr (fun t9s hht hW9 => ⟨⟨0, 2, rfl, ⟨(by show (2 : Nat) = _; unfold cBr; (repeat' split) <;> omega), fun z => absurd z (by simp)⟩, ⟨by rw [hht]; exact hP9, hD9⟩⟩, hS.F hht⟩) hS.2.2 dX4_broken_50
        · have c_22 := mt (z_lt (a := 1000000) (b := n.toInt) (by decide) rfl).mpr c_22
          refine lv_iload_n hx hb dX4_broken_25 rfl (lv_at hl 2 rfl) ?_
          refine lv_if_lt (tgt := 38) hx hb dX4_broken_26 (by decide) (fun c_26 => ?_) (fun c_26 => ?_)
          · have c_26 := (z_lt (a := bad.toInt) (b := 0) rfl (by decide)).mp c_26
            refine lv_iconst (v := 2) hx hb dX4_broken_38 (by decide) ?_
            refine va_put (D := (dC, dI)) (ci := 4) (v := .int 2) (ty := .int) (C := RX4) (T := TX4) (N := 15) hx hb hts (by decide +kernel) tyX4 tyX4_ok nmX4 hown hK hP hD hS 0 rfl rfl 0 (by decide) (hts (.fieldLink RX4 43 "SteamBendsModel" "code" "I") (by decide +kernel)) (fun _ h9 => h9) rfl (by decide +kernel) rfl rfl (Nat.le_of_ble_eq_true rfl) dX4_broken_39 (fun H locs hP hD hS => ?_)
            have hP : va_P (dC, dI) vwCl [(mo, .inr (4, [.int 2, .ref a1, .ref a2, .ref a3, .ref a4, .ref a5, .ref a6, .ref a7, .ref a8, .int (nI np), .ref a10, .ref a11, .int (nI kc), .double kr, .int fd]))] H := hP
            have hD : va_D A [(mo, .inr (4, [.int 2, .ref a1, .ref a2, .ref a3, .ref a4, .ref a5, .ref a6, .ref a7, .ref a8, .int (nI np), .ref a10, .ref a11, .int (nI kc), .double kr, .int fd]))] := hD
            refine lv_aload_n hx hb dX4_broken_42 rfl (lv_at hl 0 rfl) ?_
            refine va_get (D := (dC, dI)) (ci := 4) (v := .int 2) (C := RX4) (T := TX4) (N := 15) hx hb hts (by decide +kernel) hown hK hP 0 rfl rfl 0 (by decide) (hts (.fieldLink RX4 43 "SteamBendsModel" "code" "I") (by decide +kernel)) (fun _ h9 => h9) rfl dX4_broken_43 ?_
            refine lv_if_le (tgt := 51) hx hb dX4_broken_46 (by decide) (fun c_46 => ?_) (fun c_46 => ?_)
            · exact absurd c_46 (by decide)
            · refine lv_lconst hx hb dX4_broken_49 rfl ?_
              have hP9 := hP.sub (ws' := [(mo, .inr (4, [.int 2, .ref a1, .ref a2, .ref a3, .ref a4, .ref a5, .ref a6, .ref a7, .ref a8, .int (nI np), .ref a10, .ref a11, .int (nI kc), .double kr, .int fd]))]) [0] rfl
              have hD9 := hD.sub (ws' := [(mo, .inr (4, [.int 2, .ref a1, .ref a2, .ref a3, .ref a4, .ref a5, .ref a6, .ref a7, .ref a8, .int (nI np), .ref a10, .ref a11, .int (nI kc), .double kr, .int fd]))]) [0] (by decide) rfl
              exact W.lret hx hb hr (fun t9s hht hW9 => ⟨⟨0, 2, rfl, ⟨(by show (2 : Nat) = _; unfold cBr; (repeat' split) <;> omega), fun z => absurd z (by simp)⟩, ⟨by rw [hht]; exact hP9, hD9⟩⟩, hS.F hht⟩) hS.2.2 dX4_broken_50
          · have c_26 := mt (z_lt (a := bad.toInt) (b := 0) rfl (by decide)).mpr c_26
            refine lv_iload_n hx hb dX4_broken_29 rfl (lv_at hl 2 rfl) ?_
            refine lv_iload_n hx hb dX4_broken_30 rfl (lv_at hl 1 rfl) ?_
            refine lv_icmp_gt (tgt := 38) hx hb dX4_broken_31 (by decide) (fun c_31 => ?_) (fun c_31 => ?_)
            · have c_31 := (z_lt (a := n.toInt) (b := bad.toInt) rfl rfl).mp c_31
              refine lv_iconst (v := 2) hx hb dX4_broken_38 (by decide) ?_
              refine va_put (D := (dC, dI)) (ci := 4) (v := .int 2) (ty := .int) (C := RX4) (T := TX4) (N := 15) hx hb hts (by decide +kernel) tyX4 tyX4_ok nmX4 hown hK hP hD hS 0 rfl rfl 0 (by decide) (hts (.fieldLink RX4 43 "SteamBendsModel" "code" "I") (by decide +kernel)) (fun _ h9 => h9) rfl (by decide +kernel) rfl rfl (Nat.le_of_ble_eq_true rfl) dX4_broken_39 (fun H locs hP hD hS => ?_)
              have hP : va_P (dC, dI) vwCl [(mo, .inr (4, [.int 2, .ref a1, .ref a2, .ref a3, .ref a4, .ref a5, .ref a6, .ref a7, .ref a8, .int (nI np), .ref a10, .ref a11, .int (nI kc), .double kr, .int fd]))] H := hP
              have hD : va_D A [(mo, .inr (4, [.int 2, .ref a1, .ref a2, .ref a3, .ref a4, .ref a5, .ref a6, .ref a7, .ref a8, .int (nI np), .ref a10, .ref a11, .int (nI kc), .double kr, .int fd]))] := hD
              refine lv_aload_n hx hb dX4_broken_42 rfl (lv_at hl 0 rfl) ?_
              refine va_get (D := (dC, dI)) (ci := 4) (v := .int 2) (C := RX4) (T := TX4) (N := 15) hx hb hts (by decide +kernel) hown hK hP 0 rfl rfl 0 (by decide) (hts (.fieldLink RX4 43 "SteamBendsModel" "code" "I") (by decide +kernel)) (fun _ h9 => h9) rfl dX4_broken_43 ?_
              refine lv_if_le (tgt := 51) hx hb dX4_broken_46 (by decide) (fun c_46 => ?_) (fun c_46 => ?_)
              · exact absurd c_46 (by decide)
              · refine lv_lconst hx hb dX4_broken_49 rfl ?_
                have hP9 := hP.sub (ws' := [(mo, .inr (4, [.int 2, .ref a1, .ref a2, .ref a3, .ref a4, .ref a5, .ref a6, .ref a7, .ref a8, .int (nI np), .ref a10, .ref a11, .int (nI kc), .double kr, .int fd]))]) [0] rfl
                have hD9 := hD.sub (ws' := [(mo, .inr (4, [.int 2, .ref a1, .ref a2, .ref a3, .ref a4, .ref a5, .ref a6, .ref a7, .ref a8, .int (nI np), .ref a10, .ref a11, .int (nI kc), .double kr, .int fd]))]) [0] (by decide) rfl
                exact W.lret hx hb hr (fun t9s hht hW9 => ⟨⟨0, 2, rfl, ⟨(by show (2 : Nat) = _; unfold cBr; (repeat' split) <;> omega), fun z => absurd z (by simp)⟩, ⟨by rw [hht]; exact hP9, hD9⟩⟩, hS.F hht⟩) hS.2.2 dX4_broken_50
            · have c_31 := mt (z_lt (a := n.toInt) (b := bad.toInt) rfl rfl).mpr c_31
              refine lv_iconst (v := 0) hx hb dX4_broken_34 (by decide) ?_
              refine lv_goto (tgt := 39) hx hb dX4_broken_35 (by decide) ?_
              refine va_put (D := (dC, dI)) (ci := 4) (v := .int 0) (ty := .int) (C := RX4) (T := TX4) (N := 15) hx hb hts (by decide +kernel) tyX4 tyX4_ok nmX4 hown hK hP hD hS 0 rfl rfl 0 (by decide) (hts (.fieldLink RX4 43 "SteamBendsModel" "code" "I") (by decide +kernel)) (fun _ h9 => h9) rfl (by decide +kernel) rfl rfl (Nat.le_of_ble_eq_true rfl) dX4_broken_39 (fun H locs hP hD hS => ?_)
              have hP : va_P (dC, dI) vwCl [(mo, .inr (4, [.int 0, .ref a1, .ref a2, .ref a3, .ref a4, .ref a5, .ref a6, .ref a7, .ref a8, .int (nI np), .ref a10, .ref a11, .int (nI kc), .double kr, .int fd]))] H := hP
              have hD : va_D A [(mo, .inr (4, [.int 0, .ref a1, .ref a2, .ref a3, .ref a4, .ref a5, .ref a6, .ref a7, .ref a8, .int (nI np), .ref a10, .ref a11, .int (nI kc), .double kr, .int fd]))] := hD
              refine lv_aload_n hx hb dX4_broken_42 rfl (lv_at hl 0 rfl) ?_
              refine va_get (D := (dC, dI)) (ci := 4) (v := .int 0) (C := RX4) (T := TX4) (N := 15) hx hb hts (by decide +kernel) hown hK hP 0 rfl rfl 0 (by decide) (hts (.fieldLink RX4 43 "SteamBendsModel" "code" "I") (by decide +kernel)) (fun _ h9 => h9) rfl dX4_broken_43 ?_
              refine lv_if_le (tgt := 51) hx hb dX4_broken_46 (by decide) (fun c_46 => ?_) (fun c_46 => ?_)
              · obtain ⟨n8, en8, rfl⟩ : ∃ q : Nat, n.toInt = q ∧ n = nI q := ⟨n.toInt.toNat, by omega, (z_eq rfl (nI_toInt (by omega))).mpr (by omega)⟩
                obtain ⟨b8, eb8, rfl⟩ : ∃ q : Nat, bad.toInt = q ∧ bad = nI q := ⟨bad.toInt.toNat, by omega, (z_eq rfl (nI_toInt (by omega))).mpr (by omega)⟩
                obtain ⟨p8, ep8, rfl⟩ : ∃ q : Nat, part.toInt = q ∧ part = nI q := ⟨part.toInt.toNat, by omega, (z_eq rfl (nI_toInt (by omega))).mpr (by omega)⟩
                have hl : lv_has ls 5 [(0, .ref mo), (1, .int (nI n8)), (2, .int (nI b8)), (3, .int (nI p8))] := hl
                refine lv_iload_n hx hb dX4_broken_51 rfl (lv_at hl 3 rfl) ?_
                refine lv_iconst (v := 2) hx hb dX4_broken_52 (by decide) ?_
                refine lv_icmp_ge (tgt := 60) hx hb dX4_broken_53 (by decide) (fun c_53 => ?_) (fun c_53 => ?_)
                · have c_53 := (nI_leI (a := 2) (b := p8) (by omega) (by omega)).mp c_53
                  refine lv_iload_n hx hb dX4_broken_60 rfl (lv_at hl 2 rfl) ?_
                  refine lv_iconst (v := 1) hx hb dX4_broken_61 (by decide) ?_
                  refine lv_iaddN (x := b8) (y := 1) hx hb dX4_broken_62 ?_
                  refine lv_istore (lv' := [(4, .int (nI (b8 + 1))), (0, .ref mo), (1, .int (nI n8)), (2, .int (nI b8)), (3, .int (nI p8))]) hx hb dX4_broken_63 hl (by decide) rfl (fun ls hl => ?_)
                  refine lv_iload_n hx hb dX4_broken_65 rfl (lv_at hl 4 rfl) ?_
                  refine lv_iconst (v := 2) hx hb dX4_broken_66 (by decide) ?_
                  refine lv_iremN (x := p8) (y := 2) hx hb dX4_broken_67 (by omega) (by omega) (by omega) ?_
                  refine lv_if_ne (tgt := 76) hx hb dX4_broken_68 (by decide) (fun c_68 => ?_) (fun c_68 => ?_)
                  · have c_68 := mt (nI_eq (a := p8 % 2) (b := 0) (by omega) (by omega)).mpr c_68
                    refine lv_iload_n hx hb dX4_broken_76 rfl (lv_at hl 2 rfl) ?_
                    refine lv_iconst (v := 1) hx hb dX4_broken_77 (by decide) ?_
                    refine lv_iaddN (x := n8) (y := 1) hx hb dX4_broken_78 ?_
                    refine lv_iload hx hb dX4_broken_79 (lv_at hl 0 rfl) ?_
                    refine lv_iload_n hx hb dX4_broken_81 rfl (lv_at hl 2 rfl) ?_
                    refine lv_iconst (v := 1) hx hb dX4_broken_82 (by decide) ?_
                    refine lv_iaddN (x := n8) (y := 1) hx hb dX4_broken_83 ?_
                    refine va_calli (va_runS (As := [.int (nI (b8 + 1)), .int (nI (n8 + 1))]) (rest := [.int (nI (n8 + 1))]) ⟨hx, hb, hml, hown, hts⟩ (m_X4_common l (b8 + 1) (n8 + 1) (by omega) (by omega)) (va_cwS 2 hts gX4_broken_X4_common rfl rfl rfl (by decide +kernel) ⟨(Nat.le_of_ble_eq_true rfl), (Nat.le_of_ble_eq_true rfl)⟩) ⟨fun a U g mk q => q, fun U9 hU9 hW9 => ⟨rfl, trivial⟩⟩ rfl rfl hl.1 rfl (lv_room (Nat.le_of_ble_eq_true rfl)) dX4_broken_84 ⟨(Nat.le_of_ble_eq_true rfl), (Nat.le_of_ble_eq_true rfl)⟩) hS (fun q _ h => h.elim) (fun q h => h.elim) (fun r_189 u9s t9s H1 locs hht hvm9 hw_84_k_188 hB hz1 hk1 hS => ?_)
                    have hP := va_still hP hk1
                    generalize H1 = H at hP hS ⊢
                    rw [Nat.gcd_comm] at hw_84_k_188
                    subst hw_84_k_188
                    have hg8 : 0 < Nat.gcd (n8 + 1) (b8 + 1) := Nat.gcd_pos_of_pos_left _ (by omega)
                    have hg7 : Nat.gcd (n8 + 1) (b8 + 1) ≤ (n8 + 1) := Nat.gcd_le_left _ (by omega)
                    refine lv_idivN (x := n8 + 1) (y := Nat.gcd (n8 + 1) (b8 + 1)) hx hb dX4_broken_87 (by omega) (by omega) (by omega) ?_
                    refine lv_i2l hx hb dX4_broken_88 rfl ?_
                    have hP9 := hP.sub (ws' := [(mo, .inr (4, [.int 0, .ref a1, .ref a2, .ref a3, .ref a4, .ref a5, .ref a6, .ref a7, .ref a8, .int (nI np), .ref a10, .ref a11, .int (nI kc), .double kr, .int fd]))]) [0] rfl
                    have hD9 := hD.sub (ws' := [(mo, .inr (4, [.int 0, .ref a1, .ref a2, .ref a3, .ref a4, .ref a5, .ref a6, .ref a7, .ref a8, .int (nI np), .ref a10, .ref a11, .int (nI kc), .double kr, .int fd]))]) [0] (by decide) rfl
                    exact W.lret hx hb hr (fun t9s hht hW9 => ⟨⟨(nI ((n8 + 1) / (Nat.gcd (n8 + 1) (b8 + 1)))).toInt64, 0, rfl, ⟨(by show (0 : Nat) = _; unfold cBr; (repeat' split) <;> omega), fun _ => (by
                        unfold vBr
                        rw [en8, eb8, ep8]
                        simp only [Int.toNat_natCast]
                        (repeat' split) <;> first | rfl | (exfalso; omega))⟩, ⟨by rw [hht]; exact hP9, hD9⟩⟩, hS.F hht⟩) hS.2.2 dX4_broken_89
                  · have c_68 := (nI_eq (a := p8 % 2) (b := 0) (by omega) (by omega)).mp c_68
                    refine lv_iload hx hb dX4_broken_71 (lv_at hl 0 rfl) ?_
                    refine lv_goto (tgt := 79) hx hb dX4_broken_73 (by decide) ?_
                    refine lv_iload hx hb dX4_broken_79 (lv_at hl 0 rfl) ?_
                    refine lv_iload_n hx hb dX4_broken_81 rfl (lv_at hl 2 rfl) ?_
                    refine lv_iconst (v := 1) hx hb dX4_broken_82 (by decide) ?_
                    refine lv_iaddN (x := n8) (y := 1) hx hb dX4_broken_83 ?_
                    refine va_calli (va_runS (As := [.int (nI (b8 + 1)), .int (nI (n8 + 1))]) (rest := [.int (nI (b8 + 1))]) ⟨hx, hb, hml, hown, hts⟩ (m_X4_common l (b8 + 1) (n8 + 1) (by omega) (by omega)) (va_cwS 2 hts gX4_broken_X4_common rfl rfl rfl (by decide +kernel) ⟨(Nat.le_of_ble_eq_true rfl), (Nat.le_of_ble_eq_true rfl)⟩) ⟨fun a U g mk q => q, fun U9 hU9 hW9 => ⟨rfl, trivial⟩⟩ rfl rfl hl.1 rfl (lv_room (Nat.le_of_ble_eq_true rfl)) dX4_broken_84 ⟨(Nat.le_of_ble_eq_true rfl), (Nat.le_of_ble_eq_true rfl)⟩) hS (fun q _ h => h.elim) (fun q h => h.elim) (fun r_191 u9s t9s H1 locs hht hvm9 hw_84_k_190 hB hz1 hk1 hS => ?_)
                    have hP := va_still hP hk1
                    generalize H1 = H at hP hS ⊢
                    rw [Nat.gcd_comm] at hw_84_k_190
                    subst hw_84_k_190
                    have hg8 : 0 < Nat.gcd (n8 + 1) (b8 + 1) := Nat.gcd_pos_of_pos_left _ (by omega)
                    have hg7 : Nat.gcd (n8 + 1) (b8 + 1) ≤ (n8 + 1) := Nat.gcd_le_left _ (by omega)
                    refine lv_idivN (x := b8 + 1) (y := Nat.gcd (n8 + 1) (b8 + 1)) hx hb dX4_broken_87 (by omega) (by omega) (by omega) ?_
                    refine lv_i2l hx hb dX4_broken_88 rfl ?_
                    have hP9 := hP.sub (ws' := [(mo, .inr (4, [.int 0, .ref a1, .ref a2, .ref a3, .ref a4, .ref a5, .ref a6, .ref a7, .ref a8, .int (nI np), .ref a10, .ref a11, .int (nI kc), .double kr, .int fd]))]) [0] rfl
                    have hD9 := hD.sub (ws' := [(mo, .inr (4, [.int 0, .ref a1, .ref a2, .ref a3, .ref a4, .ref a5, .ref a6, .ref a7, .ref a8, .int (nI np), .ref a10, .ref a11, .int (nI kc), .double kr, .int fd]))]) [0] (by decide) rfl
                    exact W.lret hx hb hr (fun t9s hht hW9 => ⟨⟨(nI ((b8 + 1) / (Nat.gcd (n8 + 1) (b8 + 1)))).toInt64, 0, rfl, ⟨(by show (0 : Nat) = _; unfold cBr; (repeat' split) <;> omega), fun _ => (by
                        unfold vBr
                        rw [en8, eb8, ep8]
                        simp only [Int.toNat_natCast]
                        (repeat' split) <;> first | rfl | (exfalso; omega))⟩, ⟨by rw [hht]; exact hP9, hD9⟩⟩, hS.F hht⟩) hS.2.2 dX4_broken_89
                · have c_53 := mt (nI_leI (a := 2) (b := p8) (by omega) (by omega)).mpr c_53
                  refine lv_iload_n hx hb dX4_broken_56 rfl (lv_at hl 2 rfl) ?_
                  refine lv_goto (tgt := 63) hx hb dX4_broken_57 (by decide) ?_
                  refine lv_istore (lv' := [(4, .int (nI b8)), (0, .ref mo), (1, .int (nI n8)), (2, .int (nI b8)), (3, .int (nI p8))]) hx hb dX4_broken_63 hl (by decide) rfl (fun ls hl => ?_)
                  refine lv_iload_n hx hb dX4_broken_65 rfl (lv_at hl 4 rfl) ?_
                  refine lv_iconst (v := 2) hx hb dX4_broken_66 (by decide) ?_
                  refine lv_iremN (x := p8) (y := 2) hx hb dX4_broken_67 (by omega) (by omega) (by omega) ?_
                  refine lv_if_ne (tgt := 76) hx hb dX4_broken_68 (by decide) (fun c_68 => ?_) (fun c_68 => ?_)
                  · have c_68 := mt (nI_eq (a := p8 % 2) (b := 0) (by omega) (by omega)).mpr c_68
                    refine lv_iload_n hx hb dX4_broken_76 rfl (lv_at hl 2 rfl) ?_
                    refine lv_iconst (v := 1) hx hb dX4_broken_77 (by decide) ?_
                    refine lv_iaddN (x := n8) (y := 1) hx hb dX4_broken_78 ?_
                    refine lv_iload hx hb dX4_broken_79 (lv_at hl 0 rfl) ?_
                    refine lv_iload_n hx hb dX4_broken_81 rfl (lv_at hl 2 rfl) ?_
                    refine lv_iconst (v := 1) hx hb dX4_broken_82 (by decide) ?_
                    refine lv_iaddN (x := n8) (y := 1) hx hb dX4_broken_83 ?_
                    refine va_calli (va_runS (As := [.int (nI b8), .int (nI (n8 + 1))]) (rest := [.int (nI (n8 + 1))]) ⟨hx, hb, hml, hown, hts⟩ (m_X4_common l b8 (n8 + 1) (by omega) (by omega)) (va_cwS 2 hts gX4_broken_X4_common rfl rfl rfl (by decide +kernel) ⟨(Nat.le_of_ble_eq_true rfl), (Nat.le_of_ble_eq_true rfl)⟩) ⟨fun a U g mk q => q, fun U9 hU9 hW9 => ⟨rfl, trivial⟩⟩ rfl rfl hl.1 rfl (lv_room (Nat.le_of_ble_eq_true rfl)) dX4_broken_84 ⟨(Nat.le_of_ble_eq_true rfl), (Nat.le_of_ble_eq_true rfl)⟩) hS (fun q _ h => h.elim) (fun q h => h.elim) (fun r_193 u9s t9s H1 locs hht hvm9 hw_84_k_192 hB hz1 hk1 hS => ?_)
                    have hP := va_still hP hk1
                    generalize H1 = H at hP hS ⊢
                    rw [Nat.gcd_comm] at hw_84_k_192
                    subst hw_84_k_192
                    have hg8 : 0 < Nat.gcd (n8 + 1) b8 := Nat.gcd_pos_of_pos_left _ (by omega)
                    have hg7 : Nat.gcd (n8 + 1) b8 ≤ (n8 + 1) := Nat.gcd_le_left _ (by omega)
                    refine lv_idivN (x := n8 + 1) (y := Nat.gcd (n8 + 1) b8) hx hb dX4_broken_87 (by omega) (by omega) (by omega) ?_
                    refine lv_i2l hx hb dX4_broken_88 rfl ?_
                    have hP9 := hP.sub (ws' := [(mo, .inr (4, [.int 0, .ref a1, .ref a2, .ref a3, .ref a4, .ref a5, .ref a6, .ref a7, .ref a8, .int (nI np), .ref a10, .ref a11, .int (nI kc), .double kr, .int fd]))]) [0] rfl
                    have hD9 := hD.sub (ws' := [(mo, .inr (4, [.int 0, .ref a1, .ref a2, .ref a3, .ref a4, .ref a5, .ref a6, .ref a7, .ref a8, .int (nI np), .ref a10, .ref a11, .int (nI kc), .double kr, .int fd]))]) [0] (by decide) rfl
                    exact W.lret hx hb hr (fun t9s hht hW9 => ⟨⟨(nI ((n8 + 1) / (Nat.gcd (n8 + 1) b8))).toInt64, 0, rfl, ⟨(by show (0 : Nat) = _; unfold cBr; (repeat' split) <;> omega), fun _ => (by
                        unfold vBr
                        rw [en8, eb8, ep8]
                        simp only [Int.toNat_natCast]
                        (repeat' split) <;> first | rfl | (exfalso; omega))⟩, ⟨by rw [hht]; exact hP9, hD9⟩⟩, hS.F hht⟩) hS.2.2 dX4_broken_89
                  · have c_68 := (nI_eq (a := p8 % 2) (b := 0) (by omega) (by omega)).mp c_68
                    refine lv_iload hx hb dX4_broken_71 (lv_at hl 0 rfl) ?_
                    refine lv_goto (tgt := 79) hx hb dX4_broken_73 (by decide) ?_
                    refine lv_iload hx hb dX4_broken_79 (lv_at hl 0 rfl) ?_
                    refine lv_iload_n hx hb dX4_broken_81 rfl (lv_at hl 2 rfl) ?_
                    refine lv_iconst (v := 1) hx hb dX4_broken_82 (by decide) ?_
                    refine lv_iaddN (x := n8) (y := 1) hx hb dX4_broken_83 ?_
                    refine va_calli (va_runS (As := [.int (nI b8), .int (nI (n8 + 1))]) (rest := [.int (nI b8)]) ⟨hx, hb, hml, hown, hts⟩ (m_X4_common l b8 (n8 + 1) (by omega) (by omega)) (va_cwS 2 hts gX4_broken_X4_common rfl rfl rfl (by decide +kernel) ⟨(Nat.le_of_ble_eq_true rfl), (Nat.le_of_ble_eq_true rfl)⟩) ⟨fun a U g mk q => q, fun U9 hU9 hW9 => ⟨rfl, trivial⟩⟩ rfl rfl hl.1 rfl (lv_room (Nat.le_of_ble_eq_true rfl)) dX4_broken_84 ⟨(Nat.le_of_ble_eq_true rfl), (Nat.le_of_ble_eq_true rfl)⟩) hS (fun q _ h => h.elim) (fun q h => h.elim) (fun r_195 u9s t9s H1 locs hht hvm9 hw_84_k_194 hB hz1 hk1 hS => ?_)
                    have hP := va_still hP hk1
                    generalize H1 = H at hP hS ⊢
                    rw [Nat.gcd_comm] at hw_84_k_194
                    subst hw_84_k_194
                    have hg8 : 0 < Nat.gcd (n8 + 1) b8 := Nat.gcd_pos_of_pos_left _ (by omega)
                    have hg7 : Nat.gcd (n8 + 1) b8 ≤ (n8 + 1) := Nat.gcd_le_left _ (by omega)
                    refine lv_idivN (x := b8) (y := Nat.gcd (n8 + 1) b8) hx hb dX4_broken_87 (by omega) (by omega) (by omega) ?_
                    refine lv_i2l hx hb dX4_broken_88 rfl ?_
                    have hP9 := hP.sub (ws' := [(mo, .inr (4, [.int 0, .ref a1, .ref a2, .ref a3, .ref a4, .ref a5, .ref a6, .ref a7, .ref a8, .int (nI np), .ref a10, .ref a11, .int (nI kc), .double kr, .int fd]))]) [0] rfl
                    have hD9 := hD.sub (ws' := [(mo, .inr (4, [.int 0, .ref a1, .ref a2, .ref a3, .ref a4, .ref a5, .ref a6, .ref a7, .ref a8, .int (nI np), .ref a10, .ref a11, .int (nI kc), .double kr, .int fd]))]) [0] (by decide) rfl
                    exact W.lret hx hb hr (fun t9s hht hW9 => ⟨⟨(nI (b8 / (Nat.gcd (n8 + 1) b8))).toInt64, 0, rfl, ⟨(by show (0 : Nat) = _; unfold cBr; (repeat' split) <;> omega), fun _ => (by
                        unfold vBr
                        rw [en8, eb8, ep8]
                        simp only [Int.toNat_natCast]
                        (repeat' split) <;> first | rfl | (exfalso; omega))⟩, ⟨by rw [hht]; exact hP9, hD9⟩⟩, hS.F hht⟩) hS.2.2 dX4_broken_89
              · exact absurd c_46 (by decide)
    · have c_7 := mt (z_le (a := part.toInt) (b := 3) rfl (by decide)).mpr c_7
      refine lv_iconst (v := 1) hx hb dX4_broken_10 (by decide) ?_
      refine lv_goto (tgt := 39) hx hb dX4_broken_11 (by decide) ?_
      refine va_put (D := (dC, dI)) (ci := 4) (v := .int 1) (ty := .int) (C := RX4) (T := TX4) (N := 15) hx hb hts (by decide +kernel) tyX4 tyX4_ok nmX4 hown hK hP hD hS 0 rfl rfl 0 (by decide) (hts (.fieldLink RX4 43 "SteamBendsModel" "code" "I") (by decide +kernel)) (fun _ h9 => h9) rfl (by decide +kernel) rfl rfl (Nat.le_of_ble_eq_true rfl) dX4_broken_39 (fun H locs hP hD hS => ?_)
      have hP : va_P (dC, dI) vwCl [(mo, .inr (4, [.int 1, .ref a1, .ref a2, .ref a3, .ref a4, .ref a5, .ref a6, .ref a7, .ref a8, .int (nI np), .ref a10, .ref a11, .int (nI kc), .double kr, .int fd]))] H := hP
      have hD : va_D A [(mo, .inr (4, [.int 1, .ref a1, .ref a2, .ref a3, .ref a4, .ref a5, .ref a6, .ref a7, .ref a8, .int (nI np), .ref a10, .ref a11, .int (nI kc), .double kr, .int fd]))] := hD
      refine lv_aload_n hx hb dX4_broken_42 rfl (lv_at hl 0 rfl) ?_
      refine va_get (D := (dC, dI)) (ci := 4) (v := .int 1) (C := RX4) (T := TX4) (N := 15) hx hb hts (by decide +kernel) hown hK hP 0 rfl rfl 0 (by decide) (hts (.fieldLink RX4 43 "SteamBendsModel" "code" "I") (by decide +kernel)) (fun _ h9 => h9) rfl dX4_broken_43 ?_
      refine lv_if_le (tgt := 51) hx hb dX4_broken_46 (by decide) (fun c_46 => ?_) (fun c_46 => ?_)
      · exact absurd c_46 (by decide)
      · refine lv_lconst hx hb dX4_broken_49 rfl ?_
        have hP9 := hP.sub (ws' := [(mo, .inr (4, [.int 1, .ref a1, .ref a2, .ref a3, .ref a4, .ref a5, .ref a6, .ref a7, .ref a8, .int (nI np), .ref a10, .ref a11, .int (nI kc), .double kr, .int fd]))]) [0] rfl
        have hD9 := hD.sub (ws' := [(mo, .inr (4, [.int 1, .ref a1, .ref a2, .ref a3, .ref a4, .ref a5, .ref a6, .ref a7, .ref a8, .int (nI np), .ref a10, .ref a11, .int (nI kc), .double kr, .int fd]))]) [0] (by decide) rfl
        exact W.lret hx hb hr (fun t9s hht hW9 => ⟨⟨0, 1, rfl, ⟨(by show (1 : Nat) = _; unfold cBr; (repeat' split) <;> omega), fun z => absurd z (by simp)⟩, ⟨by rw [hht]; exact hP9, hD9⟩⟩, hS.F hht⟩) hS.2.2 dX4_broken_50

set_option maxHeartbeats 4000000 in
set_option maxRecDepth 100000 in
theorem m_X4_relaxed (l : Launch) (dC : Nat → ClassId) (dI : Nat → Nat → Nat) (sz : Nat) (cI cD : ClassId) (mo a1 a2 a3 a4 a5 a6 a7 a8 a10 a11 : Nat) (cd : Int32) (np kc : Nat) (kr : UInt64) (fd : Int32) (sp2 st2 : Nat → UInt64) (kd : Int32) (j : Nat) (hj : j < 4) (hkj : kOK kd → kd = nI j) (days : Int32) (sp st : UInt64) (es : sp2 j = sp) (eh : st2 j = st) (hs : dB 1038 sp) (hh : dB 1030 st) : Met l yX4_relaxed wsX4_relaxed ({ frames := 1, cells := 0, slots := 0, locals := 20 } : Room) (va_Pc [.ref mo, .int kd, .int days] (PW (dC, dI) [(cD, .double)] [(mo, .inr (4, [.int cd, .ref a1, .ref a2, .ref a3, .ref a4, .ref a5, .ref a6, .ref a7, .ref a8, .int (nI np), .ref a10, .ref a11, .int (nI kc), .double kr, .int fd])), (a7, .inl (cD, 4, .inr (.inr (.inr (.inl sp2))))), (a8, .inl (cD, 4, .inr (.inr (.inr (.inl st2)))))] sz)) (va_Qd (fun (r : UInt64) (u : Nat) => u = cRx kd days ∧ (u = 0 → r = vRx sp days)) (fun (u : Nat) => QW (dC, dI) [(mo, .inr (4, [.int (nI u), .ref a1, .ref a2, .ref a3, .ref a4, .ref a5, .ref a6, .ref a7, .ref a8, .int (nI np), .ref a10, .ref a11, .int (nI kc), .double kr, .int fd])), (a7, .inl (cD, 4, .inr (.inr (.inr (.inl sp2))))), (a8, .inl (cD, 4, .inr (.inr (.inr (.inl st2)))))] (va_A [(mo, .inr (4, [.int cd, .ref a1, .ref a2, .ref a3, .ref a4, .ref a5, .ref a6, .ref a7, .ref a8, .int (nI np), .ref a10, .ref a11, .int (nI kc), .double kr, .int fd])), (a7, .inl (cD, 4, .inr (.inr (.inr (.inl sp2))))), (a8, .inl (cD, 4, .inr (.inr (.inr (.inl st2)))))] sz)) (va_A [(mo, .inr (4, [.int cd, .ref a1, .ref a2, .ref a3, .ref a4, .ref a5, .ref a6, .ref a7, .ref a8, .int (nI np), .ref a10, .ref a11, .int (nI kc), .double kr, .int fd])), (a7, .inl (cD, 4, .inr (.inr (.inr (.inl sp2))))), (a8, .inl (cD, 4, .inr (.inr (.inr (.inl st2)))))] sz)) 0 0 (va_A [(mo, .inr (4, [.int cd, .ref a1, .ref a2, .ref a3, .ref a4, .ref a5, .ref a6, .ref a7, .ref a8, .int (nI np), .ref a10, .ref a11, .int (nI kc), .double kr, .int fd])), (a7, .inl (cD, 4, .inr (.inr (.inr (.inl sp2))))), (a8, .inl (cD, 4, .inr (.inr (.inr (.inl st2)))))] sz) := by
  refine Met.ofW (cc := cX4_relaxed) (maxL := 3) (ret := (some .double)) (by decide) rfl ?_
  intro p e s m args below meth c s₁ BB hml hv
  obtain ⟨rfl, hsz, hP, hK, hD0, hN⟩ := hv
  have hx := BB.exec
  have hb := BB.bytes
  have hr := BB.returns
  have hts := atoms_spec (ws := wsX4_relaxed) BB.pre
  have hown : s.vm.findClass RX4 = some m.cls := findClass_of_methodNamed BB.named
  have hlocks := BB.notSynchronized
  subst hsz
  have hD := hD0.self (sz := s.heap.size)
  generalize hAe : va_A [(mo, .inr (4, [.int cd, .ref a1, .ref a2, .ref a3, .ref a4, .ref a5, .ref a6, .ref a7, .ref a8, .int (nI np), .ref a10, .ref a11, .int (nI kc), .double kr, .int fd])), (a7, .inl (cD, 4, .inr (.inr (.inr (.inl sp2))))), (a8, .inl (cD, 4, .inr (.inr (.inr (.inl st2)))))] s.heap.size = A at hD ⊢
  have hA : ∀ q : Nat, s.heap.size ≤ q → A q := fun q h => by rw [← hAe]; exact Or.inr h
  have hS : va_S A s.heap s.heap [] := va_S.rf
  have hP : va_P (dC, dI) vwCl [(mo, .inr (4, [.int cd, .ref a1, .ref a2, .ref a3, .ref a4, .ref a5, .ref a6, .ref a7, .ref a8, .int (nI np), .ref a10, .ref a11, .int (nI kc), .double kr, .int fd])), (a7, .inl (cD, 4, .inr (.inr (.inr (.inl sp2))))), (a8, .inl (cD, 4, .inr (.inr (.inr (.inl st2)))))] s.heap := hP
  have hl := lv_entry ([.ref mo, .int kd, .int days]) (n := 3) (Nat.le_of_ble_eq_true rfl)
  rw [lg_entry_eq]
  generalize (lg_sl ([.ref mo, .int kd, .int days]) ++ List.replicate (3 - (lg_sl ([.ref mo, .int kd, .int days])).length) Slot.unset).toArray = ls at hl ⊢
  have hl : lv_has ls 3 [(0, .ref mo), (1, .int kd), (2, .int days)] := hl
  refine lv_aload_n hx hb dX4_relaxed_0 rfl (lv_at hl 0 rfl) ?_
  refine lv_iload_n hx hb dX4_relaxed_1 rfl (lv_at hl 1 rfl) ?_
  refine va_calli (va_runS (As := [.int kd]) (rest := [.ref mo]) ⟨hx, hb, hml, hown, hts⟩ (m_X4_isKind l kd) (va_cwS 1 hts gX4_relaxed_X4_isKind rfl rfl rfl (by decide +kernel) ⟨(Nat.le_of_ble_eq_true rfl), (Nat.le_of_ble_eq_true rfl)⟩) ⟨fun a U g mk q => q, fun U9 hU9 hW9 => ⟨rfl, trivial⟩⟩ rfl rfl hl.1 rfl (lv_room (Nat.le_of_ble_eq_true rfl)) dX4_relaxed_2 ⟨(Nat.le_of_ble_eq_true rfl), (Nat.le_of_ble_eq_true rfl)⟩) hS (fun q _ h => h.elim) (fun q h => h.elim) (fun r_197 u9s t9s H1 locs hht hvm9 hw_2_k_196 hB hz1 hk1 hS => ?_)
  have hP := va_still hP hk1
  generalize H1 = H at hP hS ⊢
  refine lv_if_ne (tgt := 12) hx hb dX4_relaxed_5 (by decide) (fun c_5 => ?_) (fun c_5 => ?_)
  · have c_5 := (b01n hw_2_k_196).mp c_5
    have hkd := hkj c_5
    subst hkd
    have hz9 : (nI j).toInt = (j : Int) := nI_toInt (by omega)
    have hl : lv_has ls 3 [(0, .ref mo), (1, .int (nI j)), (2, .int days)] := hl
    refine lv_iload_n hx hb dX4_relaxed_12 rfl (lv_at hl 2 rfl) ?_
    refine lv_if_lt (tgt := 27) hx hb dX4_relaxed_13 (by decide) (fun c_13 => ?_) (fun c_13 => ?_)
    · have c_13 := (z_lt (a := days.toInt) (b := 0) rfl (by decide)).mp c_13
      refine lv_iconst (v := 2) hx hb dX4_relaxed_27 (by decide) ?_
      refine va_put (D := (dC, dI)) (ci := 4) (v := .int 2) (ty := .int) (C := RX4) (T := TX4) (N := 15) hx hb hts (by decide +kernel) tyX4 tyX4_ok nmX4 hown hK hP hD hS 0 rfl rfl 0 (by decide) (hts (.fieldLink RX4 43 "SteamBendsModel" "code" "I") (by decide +kernel)) (fun _ h9 => h9) rfl (by decide +kernel) rfl rfl (Nat.le_of_ble_eq_true rfl) dX4_relaxed_28 (fun H locs hP hD hS => ?_)
      have hP : va_P (dC, dI) vwCl [(mo, .inr (4, [.int 2, .ref a1, .ref a2, .ref a3, .ref a4, .ref a5, .ref a6, .ref a7, .ref a8, .int (nI np), .ref a10, .ref a11, .int (nI kc), .double kr, .int fd])), (a7, .inl (cD, 4, .inr (.inr (.inr (.inl sp2))))), (a8, .inl (cD, 4, .inr (.inr (.inr (.inl st2)))))] H := hP
      have hD : va_D A [(mo, .inr (4, [.int 2, .ref a1, .ref a2, .ref a3, .ref a4, .ref a5, .ref a6, .ref a7, .ref a8, .int (nI np), .ref a10, .ref a11, .int (nI kc), .double kr, .int fd])), (a7, .inl (cD, 4, .inr (.inr (.inr (.inl sp2))))), (a8, .inl (cD, 4, .inr (.inr (.inr (.inl st2)))))] := hD
      refine lv_aload_n hx hb dX4_relaxed_31 rfl (lv_at hl 0 rfl) ?_
      refine va_get (D := (dC, dI)) (ci := 4) (v := .int 2) (C := RX4) (T := TX4) (N := 15) hx hb hts (by decide +kernel) hown hK hP 0 rfl rfl 0 (by decide) (hts (.fieldLink RX4 43 "SteamBendsModel" "code" "I") (by decide +kernel)) (fun _ h9 => h9) rfl dX4_relaxed_32 ?_
      refine lv_if_le (tgt := 42) hx hb dX4_relaxed_35 (by decide) (fun c_35 => ?_) (fun c_35 => ?_)
      · exact absurd c_35 (by decide)
      · refine lv_dconst0 hx hb dX4_relaxed_38 ?_
        refine lv_goto (tgt := 63) hx hb dX4_relaxed_39 (by decide) ?_
        have hP9 := hP.sub (ws' := [(mo, .inr (4, [.int 2, .ref a1, .ref a2, .ref a3, .ref a4, .ref a5, .ref a6, .ref a7, .ref a8, .int (nI np), .ref a10, .ref a11, .int (nI kc), .double kr, .int fd])), (a7, .inl (cD, 4, .inr (.inr (.inr (.inl sp2))))), (a8, .inl (cD, 4, .inr (.inr (.inr (.inl st2)))))]) [0, 1, 2] rfl
        have hD9 := hD.sub (ws' := [(mo, .inr (4, [.int 2, .ref a1, .ref a2, .ref a3, .ref a4, .ref a5, .ref a6, .ref a7, .ref a8, .int (nI np), .ref a10, .ref a11, .int (nI kc), .double kr, .int fd])), (a7, .inl (cD, 4, .inr (.inr (.inr (.inl sp2))))), (a8, .inl (cD, 4, .inr (.inr (.inr (.inl st2)))))]) [0, 1, 2] (by decide) rfl
        exact W.dret hx hb hr (fun t9s hht hW9 => ⟨⟨FP.dconst0, 2, rfl, ⟨(by show (2 : Nat) = _; unfold cRx; (repeat' split) <;> omega), fun z => absurd z (by simp)⟩, ⟨by rw [hht]; exact hP9, hD9⟩⟩, hS.F hht⟩) hS.2.2 dX4_relaxed_63
    · have c_13 := mt (z_lt (a := days.toInt) (b := 0) rfl (by decide)).mpr c_13
      refine lv_iload_n hx hb dX4_relaxed_16 rfl (lv_at hl 2 rfl) ?_
      refine lv_sipush (v := 10000) hx hb dX4_relaxed_17 (by decide) ?_
      refine lv_icmp_gt (tgt := 27) hx hb dX4_relaxed_20 (by decide) (fun c_20 => ?_) (fun c_20 => ?_)
      · have c_20 := (z_lt (a := 10000) (b := days.toInt) (by decide) rfl).mp c_20
        refine lv_iconst (v := 2) hx hb dX4_relaxed_27 (by decide) ?_
        refine va_put (D := (dC, dI)) (ci := 4) (v := .int 2) (ty := .int) (C := RX4) (T := TX4) (N := 15) hx hb hts (by decide +kernel) tyX4 tyX4_ok nmX4 hown hK hP hD hS 0 rfl rfl 0 (by decide) (hts (.fieldLink RX4 43 "SteamBendsModel" "code" "I") (by decide +kernel)) (fun _ h9 => h9) rfl (by decide +kernel) rfl rfl (Nat.le_of_ble_eq_true rfl) dX4_relaxed_28 (fun H locs hP hD hS => ?_)
        have hP : va_P (dC, dI) vwCl [(mo, .inr (4, [.int 2, .ref a1, .ref a2, .ref a3, .ref a4, .ref a5, .ref a6, .ref a7, .ref a8, .int (nI np), .ref a10, .ref a11, .int (nI kc), .double kr, .int fd])), (a7, .inl (cD, 4, .inr (.inr (.inr (.inl sp2))))), (a8, .inl (cD, 4, .inr (.inr (.inr (.inl st2)))))] H := hP
        have hD : va_D A [(mo, .inr (4, [.int 2, .ref a1, .ref a2, .ref a3, .ref a4, .ref a5, .ref a6, .ref a7, .ref a8, .int (nI np), .ref a10, .ref a11, .int (nI kc), .double kr, .int fd])), (a7, .inl (cD, 4, .inr (.inr (.inr (.inl sp2))))), (a8, .inl (cD, 4, .inr (.inr (.inr (.inl st2)))))] := hD
        refine lv_aload_n hx hb dX4_relaxed_31 rfl (lv_at hl 0 rfl) ?_
        refine va_get (D := (dC, dI)) (ci := 4) (v := .int 2) (C := RX4) (T := TX4) (N := 15) hx hb hts (by decide +kernel) hown hK hP 0 rfl rfl 0 (by decide) (hts (.fieldLink RX4 43 "SteamBendsModel" "code" "I") (by decide +kernel)) (fun _ h9 => h9) rfl dX4_relaxed_32 ?_
        refine lv_if_le (tgt := 42) hx hb dX4_relaxed_35 (by decide) (fun c_35 => ?_) (fun c_35 => ?_)
        · exact absurd c_35 (by decide)
        · refine lv_dconst0 hx hb dX4_relaxed_38 ?_
          refine lv_goto (tgt := 63) hx hb dX4_relaxed_39 (by decide) ?_
          have hP9 := hP.sub (ws' := [(mo, .inr (4, [.int 2, .ref a1, .ref a2, .ref a3, .ref a4, .ref a5, .ref a6, .ref a7, .ref a8, .int (nI np), .ref a10, .ref a11, .int (nI kc), .double kr, .int fd])), (a7, .inl (cD, 4, .inr (.inr (.inr (.inl sp2))))), (a8, .inl (cD, 4, .inr (.inr (.inr (.inl st2)))))]) [0, 1, 2] rfl
          have hD9 := hD.sub (ws' := [(mo, .inr (4, [.int 2, .ref a1, .ref a2, .ref a3, .ref a4, .ref a5, .ref a6, .ref a7, .ref a8, .int (nI np), .ref a10, .ref a11, .int (nI kc), .double kr, .int fd])), (a7, .inl (cD, 4, .inr (.inr (.inr (.inl sp2))))), (a8, .inl (cD, 4, .inr (.inr (.inr (.inl st2)))))]) [0, 1, 2] (by decide) rfl
          exact W.dret hx hb hr (fun t9s hht hW9 => ⟨⟨FP.dconst0, 2, rfl, ⟨(by show (2 : Nat) = _; unfold cRx; (repeat' split) <;> omega), fun z => absurd z (by simp)⟩, ⟨by rw [hht]; exact hP9, hD9⟩⟩, hS.F hht⟩) hS.2.2 dX4_relaxed_63
      · have c_20 := mt (z_lt (a := 10000) (b := days.toInt) (by decide) rfl).mpr c_20
        refine lv_iconst (v := 0) hx hb dX4_relaxed_23 (by decide) ?_
        refine lv_goto (tgt := 28) hx hb dX4_relaxed_24 (by decide) ?_
        refine va_put (D := (dC, dI)) (ci := 4) (v := .int 0) (ty := .int) (C := RX4) (T := TX4) (N := 15) hx hb hts (by decide +kernel) tyX4 tyX4_ok nmX4 hown hK hP hD hS 0 rfl rfl 0 (by decide) (hts (.fieldLink RX4 43 "SteamBendsModel" "code" "I") (by decide +kernel)) (fun _ h9 => h9) rfl (by decide +kernel) rfl rfl (Nat.le_of_ble_eq_true rfl) dX4_relaxed_28 (fun H locs hP hD hS => ?_)
        have hP : va_P (dC, dI) vwCl [(mo, .inr (4, [.int 0, .ref a1, .ref a2, .ref a3, .ref a4, .ref a5, .ref a6, .ref a7, .ref a8, .int (nI np), .ref a10, .ref a11, .int (nI kc), .double kr, .int fd])), (a7, .inl (cD, 4, .inr (.inr (.inr (.inl sp2))))), (a8, .inl (cD, 4, .inr (.inr (.inr (.inl st2)))))] H := hP
        have hD : va_D A [(mo, .inr (4, [.int 0, .ref a1, .ref a2, .ref a3, .ref a4, .ref a5, .ref a6, .ref a7, .ref a8, .int (nI np), .ref a10, .ref a11, .int (nI kc), .double kr, .int fd])), (a7, .inl (cD, 4, .inr (.inr (.inr (.inl sp2))))), (a8, .inl (cD, 4, .inr (.inr (.inr (.inl st2)))))] := hD
        refine lv_aload_n hx hb dX4_relaxed_31 rfl (lv_at hl 0 rfl) ?_
        refine va_get (D := (dC, dI)) (ci := 4) (v := .int 0) (C := RX4) (T := TX4) (N := 15) hx hb hts (by decide +kernel) hown hK hP 0 rfl rfl 0 (by decide) (hts (.fieldLink RX4 43 "SteamBendsModel" "code" "I") (by decide +kernel)) (fun _ h9 => h9) rfl dX4_relaxed_32 ?_
        refine lv_if_le (tgt := 42) hx hb dX4_relaxed_35 (by decide) (fun c_35 => ?_) (fun c_35 => ?_)
        · refine lv_dconst1 hx hb dX4_relaxed_42 ?_
          refine lv_aload_n hx hb dX4_relaxed_43 rfl (lv_at hl 0 rfl) ?_
          refine va_get (D := (dC, dI)) (ci := 4) (v := .ref a7) (C := RX4) (T := TX4) (N := 15) hx hb hts (by decide +kernel) hown hK hP 0 rfl rfl 7 (by decide) (hts (.fieldLink RX4 29 "SteamBendsModel" "springs" "[D") (by decide +kernel)) (fun _ h9 => h9) rfl dX4_relaxed_44 ?_
          refine lv_iload_n hx hb dX4_relaxed_47 rfl (lv_at hl 1 rfl) ?_
          refine va_daldV hx hb hK hP 1 0 rfl rfl (j := j) (v := sp) es (by omega) (by omega) dX4_relaxed_48 ?_
          refine lv_dconst1 hx hb dX4_relaxed_49 ?_
          refine lv_dconst1 hx hb dX4_relaxed_50 ?_
          refine lv_dconst1 hx hb dX4_relaxed_51 ?_
          refine lv_iload_n hx hb dX4_relaxed_52 rfl (lv_at hl 2 rfl) ?_
          refine lv_i2d hx hb dX4_relaxed_53 ?_
          refine lv_ldc2d (v := 4620693217682128896) hx hb hown (hts (.constantDouble RX4 106 (4620693217682128896)) (by decide +kernel)) dX4_relaxed_54 ?_
          have b_198 : dB (1054) (FP.ddiv (FP.i2d days) 4620693217682128896) := dB.div (i2d_dB days) (by unfold dL; decide +kernel : dL 1026 4620693217682128896) (by unfold dB; decide +kernel : dB 1027 4620693217682128896) (by omega) (by omega) (by omega) (by omega)
          refine lv_ddiv hx hb dX4_relaxed_57 (b_198.ok (by omega)) ?_
          have b_199 : dB (1056) (FP.dadd FP.dconst1 (FP.ddiv (FP.i2d days) 4620693217682128896)) := dB.add dB_d1 b_198 (M := 1054) (by omega) (by omega) (by omega)
          refine lv_dadd hx hb dX4_relaxed_58 (b_199.ok (by omega)) ?_
          have b_200 : dB (1025) (FP.ddiv FP.dconst1 (FP.dadd FP.dconst1 (FP.ddiv (FP.i2d days) 4620693217682128896))) := dB.div dB_d1 (rx_dL (by omega)) b_199 (by omega) (by omega) (by omega) (by omega)
          refine lv_ddiv hx hb dX4_relaxed_59 (b_200.ok (by omega)) ?_
          have b_201 : dB (1027) (FP.dsub FP.dconst1 (FP.ddiv FP.dconst1 (FP.dadd FP.dconst1 (FP.ddiv (FP.i2d days) 4620693217682128896)))) := dB.sub dB_d1 b_200 (M := 1025) (by omega) (by omega) (by omega)
          refine lv_dsub hx hb dX4_relaxed_60 (b_201.ok (by omega)) ?_
          have b_202 : dB (1043) (FP.dmul sp (FP.dsub FP.dconst1 (FP.ddiv FP.dconst1 (FP.dadd FP.dconst1 (FP.ddiv (FP.i2d days) 4620693217682128896))))) := dB.mul hs b_201 (by omega) (by omega) (by omega)
          refine lv_dmul hx hb dX4_relaxed_61 (b_202.ok (by omega)) ?_
          have b_203 : dB (1045) (FP.dadd FP.dconst1 (FP.dmul sp (FP.dsub FP.dconst1 (FP.ddiv FP.dconst1 (FP.dadd FP.dconst1 (FP.ddiv (FP.i2d days) 4620693217682128896)))))) := dB.add dB_d1 b_202 (M := 1043) (by omega) (by omega) (by omega)
          refine lv_dadd hx hb dX4_relaxed_62 (b_203.ok (by omega)) ?_
          have hP9 := hP.sub (ws' := [(mo, .inr (4, [.int 0, .ref a1, .ref a2, .ref a3, .ref a4, .ref a5, .ref a6, .ref a7, .ref a8, .int (nI np), .ref a10, .ref a11, .int (nI kc), .double kr, .int fd])), (a7, .inl (cD, 4, .inr (.inr (.inr (.inl sp2))))), (a8, .inl (cD, 4, .inr (.inr (.inr (.inl st2)))))]) [0, 1, 2] rfl
          have hD9 := hD.sub (ws' := [(mo, .inr (4, [.int 0, .ref a1, .ref a2, .ref a3, .ref a4, .ref a5, .ref a6, .ref a7, .ref a8, .int (nI np), .ref a10, .ref a11, .int (nI kc), .double kr, .int fd])), (a7, .inl (cD, 4, .inr (.inr (.inr (.inl sp2))))), (a8, .inl (cD, 4, .inr (.inr (.inr (.inl st2)))))]) [0, 1, 2] (by decide) rfl
          exact W.dret hx hb hr (fun t9s hht hW9 => ⟨⟨FP.dadd FP.dconst1 (FP.dmul sp (FP.dsub FP.dconst1 (FP.ddiv FP.dconst1 (FP.dadd FP.dconst1 (FP.ddiv (FP.i2d days) 4620693217682128896))))), 0, rfl, ⟨(by show (0 : Nat) = _; unfold cRx; (repeat' split) <;> omega), fun _ => rfl⟩, ⟨by rw [hht]; exact hP9, hD9⟩⟩, hS.F hht⟩) hS.2.2 dX4_relaxed_63
        · exact absurd c_35 (by decide)
  · have c_5 := (b01 hw_2_k_196).mp c_5
    refine lv_iconst (v := 1) hx hb dX4_relaxed_8 (by decide) ?_
    refine lv_goto (tgt := 28) hx hb dX4_relaxed_9 (by decide) ?_
    refine va_put (D := (dC, dI)) (ci := 4) (v := .int 1) (ty := .int) (C := RX4) (T := TX4) (N := 15) hx hb hts (by decide +kernel) tyX4 tyX4_ok nmX4 hown hK hP hD hS 0 rfl rfl 0 (by decide) (hts (.fieldLink RX4 43 "SteamBendsModel" "code" "I") (by decide +kernel)) (fun _ h9 => h9) rfl (by decide +kernel) rfl rfl (Nat.le_of_ble_eq_true rfl) dX4_relaxed_28 (fun H locs hP hD hS => ?_)
    have hP : va_P (dC, dI) vwCl [(mo, .inr (4, [.int 1, .ref a1, .ref a2, .ref a3, .ref a4, .ref a5, .ref a6, .ref a7, .ref a8, .int (nI np), .ref a10, .ref a11, .int (nI kc), .double kr, .int fd])), (a7, .inl (cD, 4, .inr (.inr (.inr (.inl sp2))))), (a8, .inl (cD, 4, .inr (.inr (.inr (.inl st2)))))] H := hP
    have hD : va_D A [(mo, .inr (4, [.int 1, .ref a1, .ref a2, .ref a3, .ref a4, .ref a5, .ref a6, .ref a7, .ref a8, .int (nI np), .ref a10, .ref a11, .int (nI kc), .double kr, .int fd])), (a7, .inl (cD, 4, .inr (.inr (.inr (.inl sp2))))), (a8, .inl (cD, 4, .inr (.inr (.inr (.inl st2)))))] := hD
    refine lv_aload_n hx hb dX4_relaxed_31 rfl (lv_at hl 0 rfl) ?_
    refine va_get (D := (dC, dI)) (ci := 4) (v := .int 1) (C := RX4) (T := TX4) (N := 15) hx hb hts (by decide +kernel) hown hK hP 0 rfl rfl 0 (by decide) (hts (.fieldLink RX4 43 "SteamBendsModel" "code" "I") (by decide +kernel)) (fun _ h9 => h9) rfl dX4_relaxed_32 ?_
    refine lv_if_le (tgt := 42) hx hb dX4_relaxed_35 (by decide) (fun c_35 => ?_) (fun c_35 => ?_)
    · exact absurd c_35 (by decide)
    · refine lv_dconst0 hx hb dX4_relaxed_38 ?_
      refine lv_goto (tgt := 63) hx hb dX4_relaxed_39 (by decide) ?_
      have hP9 := hP.sub (ws' := [(mo, .inr (4, [.int 1, .ref a1, .ref a2, .ref a3, .ref a4, .ref a5, .ref a6, .ref a7, .ref a8, .int (nI np), .ref a10, .ref a11, .int (nI kc), .double kr, .int fd])), (a7, .inl (cD, 4, .inr (.inr (.inr (.inl sp2))))), (a8, .inl (cD, 4, .inr (.inr (.inr (.inl st2)))))]) [0, 1, 2] rfl
      have hD9 := hD.sub (ws' := [(mo, .inr (4, [.int 1, .ref a1, .ref a2, .ref a3, .ref a4, .ref a5, .ref a6, .ref a7, .ref a8, .int (nI np), .ref a10, .ref a11, .int (nI kc), .double kr, .int fd])), (a7, .inl (cD, 4, .inr (.inr (.inr (.inl sp2))))), (a8, .inl (cD, 4, .inr (.inr (.inr (.inl st2)))))]) [0, 1, 2] (by decide) rfl
      exact W.dret hx hb hr (fun t9s hht hW9 => ⟨⟨FP.dconst0, 1, rfl, ⟨(by show (1 : Nat) = _; unfold cRx; (repeat' split) <;> omega), fun z => absurd z (by simp)⟩, ⟨by rw [hht]; exact hP9, hD9⟩⟩, hS.F hht⟩) hS.2.2 dX4_relaxed_63
