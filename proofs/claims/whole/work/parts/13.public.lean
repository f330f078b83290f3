set_option maxRecDepth 20000 in
theorem xin_X3_kindOf_115 : ∀ w ∈ (vx_atS RX3 115 "java/lang/IndexOutOfBoundsException" ["java/lang/RuntimeException", "java/lang/Exception"]).filter goodWord, w ∈ wsX3_kindOf := by decide +kernel

set_option maxRecDepth 20000 in
theorem xin_X3_table_53 : ∀ w ∈ (vx_atS RX3 53 "java/lang/IllegalArgumentException" ["java/lang/RuntimeException", "java/lang/Exception"]).filter goodWord, w ∈ wsX3_table := by decide +kernel

set_option maxRecDepth 20000 in
theorem xin_X3_table_70 : ∀ w ∈ (vx_atS RX3 70 "java/lang/IllegalStateException" ["java/lang/RuntimeException", "java/lang/Exception"]).filter goodWord, w ∈ wsX3_table := by decide +kernel

set_option maxRecDepth 20000 in
theorem xin_X3_read_53 : ∀ w ∈ (vx_atS RX3 53 "java/lang/IllegalArgumentException" ["java/lang/RuntimeException", "java/lang/Exception"]).filter goodWord, w ∈ wsX3_read := by decide +kernel

set_option maxRecDepth 20000 in
theorem xin_X3_read_70 : ∀ w ∈ (vx_atS RX3 70 "java/lang/IllegalStateException" ["java/lang/RuntimeException", "java/lang/Exception"]).filter goodWord, w ∈ wsX3_read := by decide +kernel

set_option maxRecDepth 20000 in
theorem xin_X3_piece_53 : ∀ w ∈ (vx_atS RX3 53 "java/lang/IllegalArgumentException" ["java/lang/RuntimeException", "java/lang/Exception"]).filter goodWord, w ∈ wsX3_piece := by decide +kernel

set_option maxRecDepth 20000 in
theorem xin_X3_piece_70 : ∀ w ∈ (vx_atS RX3 70 "java/lang/IllegalStateException" ["java/lang/RuntimeException", "java/lang/Exception"]).filter goodWord, w ∈ wsX3_piece := by decide +kernel

set_option maxRecDepth 20000 in
theorem xin_X3_radius_70 : ∀ w ∈ (vx_atS RX3 70 "java/lang/IllegalStateException" ["java/lang/RuntimeException", "java/lang/Exception"]).filter goodWord, w ∈ wsX3_radius := by decide +kernel

set_option maxRecDepth 20000 in
theorem xin_X3_radius_53 : ∀ w ∈ (vx_atS RX3 53 "java/lang/IllegalArgumentException" ["java/lang/RuntimeException", "java/lang/Exception"]).filter goodWord, w ∈ wsX3_radius := by decide +kernel

set_option maxRecDepth 20000 in
theorem xin_X3_strips_53 : ∀ w ∈ (vx_atS RX3 53 "java/lang/IllegalArgumentException" ["java/lang/RuntimeException", "java/lang/Exception"]).filter goodWord, w ∈ wsX3_strips := by decide +kernel

set_option maxRecDepth 20000 in
theorem xin_X3_fit_53 : ∀ w ∈ (vx_atS RX3 53 "java/lang/IllegalArgumentException" ["java/lang/RuntimeException", "java/lang/Exception"]).filter goodWord, w ∈ wsX3_fit := by decide +kernel

set_option maxRecDepth 20000 in
theorem xin_X3_back_115 : ∀ w ∈ (vx_atS RX3 115 "java/lang/IndexOutOfBoundsException" ["java/lang/RuntimeException", "java/lang/Exception"]).filter goodWord, w ∈ wsX3_back := by decide +kernel

set_option maxRecDepth 20000 in
theorem xin_X3_form_53 : ∀ w ∈ (vx_atS RX3 53 "java/lang/IllegalArgumentException" ["java/lang/RuntimeException", "java/lang/Exception"]).filter goodWord, w ∈ wsX3_form := by decide +kernel

set_option maxRecDepth 20000 in
theorem xin_X3_relaxed_53 : ∀ w ∈ (vx_atS RX3 53 "java/lang/IllegalArgumentException" ["java/lang/RuntimeException", "java/lang/Exception"]).filter goodWord, w ∈ wsX3_relaxed := by decide +kernel

set_option maxRecDepth 20000 in
theorem xin_X3_minutes_53 : ∀ w ∈ (vx_atS RX3 53 "java/lang/IllegalArgumentException" ["java/lang/RuntimeException", "java/lang/Exception"]).filter goodWord, w ∈ wsX3_minutes := by decide +kernel

set_option maxRecDepth 20000 in
theorem xin_X3_length_53 : ∀ w ∈ (vx_atS RX3 53 "java/lang/IllegalArgumentException" ["java/lang/RuntimeException", "java/lang/Exception"]).filter goodWord, w ∈ wsX3_length := by decide +kernel

set_option maxRecDepth 20000 in
theorem xin_X3_kerfs_53 : ∀ w ∈ (vx_atS RX3 53 "java/lang/IllegalArgumentException" ["java/lang/RuntimeException", "java/lang/Exception"]).filter goodWord, w ∈ wsX3_kerfs := by decide +kernel

set_option maxRecDepth 20000 in
theorem xin_X3_kerfAt_115 : ∀ w ∈ (vx_atS RX3 115 "java/lang/IndexOutOfBoundsException" ["java/lang/RuntimeException", "java/lang/Exception"]).filter goodWord, w ∈ wsX3_kerfAt := by decide +kernel

set_option maxRecDepth 20000 in
theorem xin_X3_kerfAt_53 : ∀ w ∈ (vx_atS RX3 53 "java/lang/IllegalArgumentException" ["java/lang/RuntimeException", "java/lang/Exception"]).filter goodWord, w ∈ wsX3_kerfAt := by decide +kernel

set_option maxRecDepth 20000 in
theorem xin_X3_kerfAt_70 : ∀ w ∈ (vx_atS RX3 70 "java/lang/IllegalStateException" ["java/lang/RuntimeException", "java/lang/Exception"]).filter goodWord, w ∈ wsX3_kerfAt := by decide +kernel

set_option maxRecDepth 20000 in
theorem xin_X3_rest_70 : ∀ w ∈ (vx_atS RX3 70 "java/lang/IllegalStateException" ["java/lang/RuntimeException", "java/lang/Exception"]).filter goodWord, w ∈ wsX3_rest := by decide +kernel

set_option maxRecDepth 20000 in
theorem xin_X3_broken_115 : ∀ w ∈ (vx_atS RX3 115 "java/lang/IndexOutOfBoundsException" ["java/lang/RuntimeException", "java/lang/Exception"]).filter goodWord, w ∈ wsX3_broken := by decide +kernel

set_option maxRecDepth 20000 in
theorem xin_X3_broken_53 : ∀ w ∈ (vx_atS RX3 53 "java/lang/IllegalArgumentException" ["java/lang/RuntimeException", "java/lang/Exception"]).filter goodWord, w ∈ wsX3_broken := by decide +kernel
set_option maxHeartbeats 4000000 in
set_option maxRecDepth 100000 in
theorem m_X3_kindOf (l : Launch) (hl9 : l.stackTraces = false) (dC : Nat → ClassId) (dI : Nat → Nat → Nat) (sz : Nat) (sa : Nat → Nat) (cD cK : ClassId) (x ks sh : Nat) (kc : Nat) (kr : UInt64) (gk : Nat → Option Nat) (kd : Int32) (j : Nat) (hj : j < 4) (hkj : kOK kd → kd = nI j) (hk : Nat) (hg : gk j = some hk) : vx_Met l yX3_kindOf wsX3_kindOf ({ frames := 6, cells := 1, slots := 6, locals := 82 } : Room) (va_Pc [.ref x, .int kd] (PT (dC, dI) [(cD, .double), (cK, .object "SteamBends$Kind")] [(x, .inr (3, [.ref ks, .ref sh, .int (nI kc), .double kr])), (ks, .inl (cK, 4, .inr (.inr (.inr (.inr gk)))))] sz sa)) (va_Qq (fun (r : Option Nat) (_ : Unit) => r = some hk ∧ 0 ≤ kd.toInt ∧ kd.toInt < 4) (fun _ _ => True) (fun _ => False)) (vx_X (fun _ : Unit => True) (fun E _ _ => E = eIO ∧ ¬ (0 ≤ kd.toInt ∧ kd.toInt < 4)) (fun _ => False)) 1 6 (fun _ => False) := by
  refine vx_ofW (cc := cX3_kindOf) (maxL := 3) (ret := (some (.object "SteamBends$Kind"))) (by decide) rfl ?_
  intro p e s m args below meth c s₁ BB hml hex9 hv
  obtain ⟨rfl, ⟨hsz, hP, hK, hD0, hN⟩, hX⟩ := hv
  have hx := BB.exec
  have hb := BB.bytes
  have hr := BB.returns
  have hts := atoms_spec (ws := wsX3_kindOf) BB.pre
  have hown : s.vm.findClass RX3 = some m.cls := findClass_of_methodNamed BB.named
  have hlocks := BB.notSynchronized
  have hout9 : ∀ (pc : Nat) (x : ExceptionTableEntry), x ∈ c.exceptionTable.toList → covers x pc = false := fun pc x h => (hex9 x h).elim
  subst hsz
  have hD := hD0.self (sz := s.heap.size)
  generalize hAe : va_A [(x, .inr (3, [.ref ks, .ref sh, .int (nI kc), .double kr])), (ks, .inl (cK, 4, .inr (.inr (.inr (.inr gk)))))] s.heap.size = A at hD ⊢
  have hA : ∀ q : Nat, s.heap.size ≤ q → A q := fun q h => by rw [← hAe]; exact Or.inr h
  have hS : va_S (fun _ => False) s.heap s.heap [] := va_S.rf
  have hP : va_P (dC, dI) vwCl [(x, .inr (3, [.ref ks, .ref sh, .int (nI kc), .double kr])), (ks, .inl (cK, 4, .inr (.inr (.inr (.inr gk)))))] s.heap := hP
  have hl := lv_entry ([.ref x, .int kd]) (n := 3) (Nat.le_of_ble_eq_true rfl)
  rw [lg_entry_eq]
  generalize (lg_sl ([.ref x, .int kd]) ++ List.replicate (3 - (lg_sl ([.ref x, .int kd])).length) Slot.unset).toArray = ls at hl ⊢
  have hl : lv_has ls 3 [(0, .ref x), (1, .int kd)] := hl
  refine lv_iload_n hx hb dX3_kindOf_0 rfl (lv_at hl 1 rfl) ?_
  refine lv_if_lt (tgt := 22) hx hb dX3_kindOf_1 (by decide) (fun c_1 => ?_) (fun c_1 => ?_)
  · have c_1 := (z_lt (a := kd.toInt) (b := 0) rfl (by decide)).mp c_1
    refine lv_null hx hb dX3_kindOf_22 ?_
    refine lv_astore_nN (lv' := [(2, .null), (0, .ref x), (1, .int kd)]) hx hb dX3_kindOf_23 rfl hl (by decide) rfl (fun ls hl => ?_)
    refine lv_aload_nN hx hb dX3_kindOf_24 rfl (lv_at hl 0 rfl) ?_
    refine lv_ifnonnullN hx hb dX3_kindOf_25 ?_
    exact vx_throwS hx hb hl9 (own := RX3) (cls := "java/lang/IndexOutOfBoundsException") (text := "there is no such kind") (names := ["java/lang/RuntimeException", "java/lang/Exception"]) (ik := 111) (is := 176) (ic := 115) (sa := sa 176) (A := fun _ => False) hown (by decide +kernel) (by decide +kernel) (hts (.classLink RX3 111 "java/lang/IndexOutOfBoundsException") (by decide +kernel)) (hts (.initialized "java/lang/IndexOutOfBoundsException") (by decide +kernel)) (hX.str 20 rfl) (vx_hat (fun w h => hts w (xin_X3_kindOf_115 w h)) (by decide +kernel) (vx_c (va_Nw.use rfl (hN.c 2 rfl)) (vx_c (va_Nw.use rfl (hN.c 3 rfl)) (vx_c (va_Nw.use rfl (hN.c 4 rfl)) (vx_c (va_Nw.use rfl (hN.c 5 rfl)) vx_n))))) (by decide +kernel) hX.1 hX.2.1 hS (by rw [hml]; exact hl.1) dX3_kindOf_28 dX3_kindOf_31 dX3_kindOf_32 dX3_kindOf_34 dX3_kindOf_37 (hout9 _) (Nat.le_of_ble_eq_true rfl) (Nat.le_of_ble_eq_true rfl) (Nat.le_of_ble_eq_true rfl) (Nat.le_of_ble_eq_true rfl) hlocks (fun t9s _ h8 h9 => ⟨(), trivial, ⟨rfl, by omega⟩, thrF hS h8 h9⟩) (fun z hz => (hS.2.2 z hz).elim) (Nat.le_of_ble_eq_true rfl) (Nat.le_of_ble_eq_true rfl)
  · have c_1 := mt (z_lt (a := kd.toInt) (b := 0) rfl (by decide)).mpr c_1
    refine lv_iload_n hx hb dX3_kindOf_4 rfl (lv_at hl 1 rfl) ?_
    refine lv_aload_n hx hb dX3_kindOf_5 rfl (lv_at hl 0 rfl) ?_
    refine va_get (D := (dC, dI)) (ci := 3) (v := .ref ks) (C := RX3) (T := TX3) (N := 4) hx hb hts (by decide +kernel) hown hK hP 0 rfl rfl 0 (by decide) (hts (.fieldLink RX3 11 "SteamBends" "kinds" "[LSteamBends$Kind;") (by decide +kernel)) (fun _ h9 => h9) rfl dX3_kindOf_6 ?_
    refine va_alen hx hb hK hP 1 1 rfl rfl (v := nI 4) rfl dX3_kindOf_9 ?_
    refine lv_icmp_ge (tgt := 22) hx hb dX3_kindOf_10 (by decide) (fun c_10 => ?_) (fun c_10 => ?_)
    · have c_10 := (z_le (a := ((4 : Nat) : Int)) (b := kd.toInt) (nI_toInt (by omega)) rfl).mp c_10
      refine lv_null hx hb dX3_kindOf_22 ?_
      refine lv_astore_nN (lv' := [(2, .null), (0, .ref x), (1, .int kd)]) hx hb dX3_kindOf_23 rfl hl (by decide) rfl (fun ls hl => ?_)
      refine lv_aload_nN hx hb dX3_kindOf_24 rfl (lv_at hl 0 rfl) ?_
      refine lv_ifnonnullN hx hb dX3_kindOf_25 ?_
      exact vx_throwS hx hb hl9 (own := RX3) (cls := "java/lang/IndexOutOfBoundsException") (text := "there is no such kind") (names := ["java/lang/RuntimeException", "java/lang/Exception"]) (ik := 111) (is := 176) (ic := 115) (sa := sa 176) (A := fun _ => False) hown (by decide +kernel) (by decide +kernel) (hts (.classLink RX3 111 "java/lang/IndexOutOfBoundsException") (by decide +kernel)) (hts (.initialized "java/lang/IndexOutOfBoundsException") (by decide +kernel)) (hX.str 20 rfl) (vx_hat (fun w h => hts w (xin_X3_kindOf_115 w h)) (by decide +kernel) (vx_c (va_Nw.use rfl (hN.c 2 rfl)) (vx_c (va_Nw.use rfl (hN.c 3 rfl)) (vx_c (va_Nw.use rfl (hN.c 4 rfl)) (vx_c (va_Nw.use rfl (hN.c 5 rfl)) vx_n))))) (by decide +kernel) hX.1 hX.2.1 hS (by rw [hml]; exact hl.1) dX3_kindOf_28 dX3_kindOf_31 dX3_kindOf_32 dX3_kindOf_34 dX3_kindOf_37 (hout9 _) (Nat.le_of_ble_eq_true rfl) (Nat.le_of_ble_eq_true rfl) (Nat.le_of_ble_eq_true rfl) (Nat.le_of_ble_eq_true rfl) hlocks (fun t9s _ h8 h9 => ⟨(), trivial, ⟨rfl, by omega⟩, thrF hS h8 h9⟩) (fun z hz => (hS.2.2 z hz).elim) (Nat.le_of_ble_eq_true rfl) (Nat.le_of_ble_eq_true rfl)
    · have c_10 := mt (z_le (a := ((4 : Nat) : Int)) (b := kd.toInt) (nI_toInt (by omega)) rfl).mpr c_10
      refine lv_aload_n hx hb dX3_kindOf_13 rfl (lv_at hl 0 rfl) ?_
      refine va_get (D := (dC, dI)) (ci := 3) (v := .ref ks) (C := RX3) (T := TX3) (N := 4) hx hb hts (by decide +kernel) hown hK hP 0 rfl rfl 0 (by decide) (hts (.fieldLink RX3 11 "SteamBends" "kinds" "[LSteamBends$Kind;") (by decide +kernel)) (fun _ h9 => h9) rfl dX3_kindOf_14 ?_
      refine lv_iload_n hx hb dX3_kindOf_17 rfl (lv_at hl 1 rfl) ?_
      have hkd := hkj ⟨by omega, by omega⟩
      refine va_aldq (C := "SteamBends$Kind") hx hb hK hP 1 1 rfl rfl (by rw [hkd]; exact vp_in_nI hj (by decide)) dX3_kindOf_18 ?_
      rw [show gk kd.toNatClampNeg = some hk from by rw [hkd, nI_clamp (by omega)]; exact hg]
      refine W.eq (g2 := F0 m 19 ls [.ref hk]) rfl ?_
      refine lv_goto (tgt := 23) hx hb dX3_kindOf_19 (by decide) ?_
      refine lv_astore_n (lv' := [(2, .ref hk), (0, .ref x), (1, .int kd)]) hx hb dX3_kindOf_23 rfl hl (by decide) rfl (fun ls hl => ?_)
      refine lv_aload_n hx hb dX3_kindOf_24 rfl (lv_at hl 0 rfl) ?_
      refine lv_ifnonnull (tgt := 38) hx hb dX3_kindOf_25 (by decide) ?_
      refine lv_aload_n hx hb dX3_kindOf_38 rfl (lv_at hl 0 rfl) ?_
      refine vx_ret ?_
      refine W.widen (k := 1) (n := 6) (Nat.le_of_ble_eq_true rfl) (Nat.le_of_ble_eq_true rfl) ?_
      exact W.aret hx hb hr (Or.inl ⟨_, rfl⟩) (Or.inr ⟨_, rfl⟩) (fun t9s hht hW9 => ⟨⟨some hk, (), rfl, ⟨rfl, by omega, by omega⟩, trivial⟩, hS.F hht⟩) hS.2.2 dX3_kindOf_39

set_option maxHeartbeats 4000000 in
set_option maxRecDepth 100000 in
theorem m_X3_table (l : Launch) (hl9 : l.stackTraces = false) (dC : Nat → ClassId) (dI : Nat → Nat → Nat) (sz : Nat) (sa : Nat → Nat) (cD cK : ClassId) (x ks sh : Nat) (kc : Nat) (kr : UInt64) (gk : Nat → Option Nat) (rw rd : Nat) (sp st : UInt64) (tf tg : Nat) (n : Nat) (T R : Nat → UInt64) (kd : Int32) (j : Nat) (hj : j < 4) (hkj : kOK kd → kd = nI j) (hk : Nat) (hg : gk j = some hk) (t rr : UInt64) (ht : dB 1060 t) (hrr : dB 1060 rr) (hrow : rowsOK T R n) : vx_Met l yX3_table wsX3_table ({ frames := 7, cells := 2, slots := 12, locals := 104 } : Room) (va_Pc [.ref x, .int kd, .double t, .double rr] (PT (dC, dI) [(cD, .double), (cK, .object "SteamBends$Kind")] [(x, .inr (3, [.ref ks, .ref sh, .int (nI kc), .double kr])), (ks, .inl (cK, 4, .inr (.inr (.inr (.inr gk))))), (hk, .inr (0, [.ref rw, .ref rd, .double sp, .double st])), (rw, .inr (1, [.ref tf, .ref tg, .int (nI n)])), (tf, .inl (cD, 12, .inr (.inr (.inr (.inl T))))), (tg, .inl (cD, 12, .inr (.inr (.inr (.inl R)))))] sz sa)) (va_Qi (fun (r : Int32) (u : Unit) => r = nI (n + 1) ∧ cTab kd t rr n T = 0) (fun (u : Unit) => QW (dC, dI) [(x, .inr (3, [.ref ks, .ref sh, .int (nI kc), .double kr])), (ks, .inl (cK, 4, .inr (.inr (.inr (.inr gk))))), (hk, .inr (0, [.ref rw, .ref rd, .double sp, .double st])), (rw, .inr (1, [.ref tf, .ref tg, .int (nI (n + 1))])), (tf, .inl (cD, 12, .inr (.inr (.inr (.inl (vf_upd T n t)))))), (tg, .inl (cD, 12, .inr (.inr (.inr (.inl (vf_upd R n rr))))))] (va_A [(x, .inr (3, [.ref ks, .ref sh, .int (nI kc), .double kr])), (ks, .inl (cK, 4, .inr (.inr (.inr (.inr gk))))), (hk, .inr (0, [.ref rw, .ref rd, .double sp, .double st])), (rw, .inr (1, [.ref tf, .ref tg, .int (nI n)])), (tf, .inl (cD, 12, .inr (.inr (.inr (.inl T))))), (tg, .inl (cD, 12, .inr (.inr (.inr (.inl R)))))] sz)) (va_A [(x, .inr (3, [.ref ks, .ref sh, .int (nI kc), .double kr])), (ks, .inl (cK, 4, .inr (.inr (.inr (.inr gk))))), (hk, .inr (0, [.ref rw, .ref rd, .double sp, .double st])), (rw, .inr (1, [.ref tf, .ref tg, .int (nI n)])), (tf, .inl (cD, 12, .inr (.inr (.inr (.inl T))))), (tg, .inl (cD, 12, .inr (.inr (.inr (.inl R)))))] sz)) (vx_X (fun _ : Unit => True) (fun E _ _ => (E = eIO ∧ cTab kd t rr n T = 1) ∨ (E = eIA ∧ cTab kd t rr n T = 2) ∨ (E = eIS ∧ cTab kd t rr n T = 3)) (fun _ => False)) 2 12 (va_A [(x, .inr (3, [.ref ks, .ref sh, .int (nI kc), .double kr])), (ks, .inl (cK, 4, .inr (.inr (.inr (.inr gk))))), (hk, .inr (0, [.ref rw, .ref rd, .double sp, .double st])), (rw, .inr (1, [.ref tf, .ref tg, .int (nI n)])), (tf, .inl (cD, 12, .inr (.inr (.inr (.inl T))))), (tg, .inl (cD, 12, .inr (.inr (.inr (.inl R)))))] sz) := by
  refine vx_ofW (cc := cX3_table) (maxL := 8) (ret := (some .int)) (by decide) rfl ?_
  intro p e s m args below meth c s₁ BB hml hex9 hv
  obtain ⟨rfl, ⟨hsz, hP, hK, hD0, hN⟩, hX⟩ := hv
  have hx := BB.exec
  have hb := BB.bytes
  have hr := BB.returns
  have hts := atoms_spec (ws := wsX3_table) BB.pre
  have hown : s.vm.findClass RX3 = some m.cls := findClass_of_methodNamed BB.named
  have hlocks := BB.notSynchronized
  have hout9 : ∀ (pc : Nat) (x : ExceptionTableEntry), x ∈ c.exceptionTable.toList → covers x pc = false := fun pc x h => (hex9 x h).elim
  subst hsz
  have hD := hD0.self (sz := s.heap.size)
  generalize hAe : va_A [(x, .inr (3, [.ref ks, .ref sh, .int (nI kc), .double kr])), (ks, .inl (cK, 4, .inr (.inr (.inr (.inr gk))))), (hk, .inr (0, [.ref rw, .ref rd, .double sp, .double st])), (rw, .inr (1, [.ref tf, .ref tg, .int (nI n)])), (tf, .inl (cD, 12, .inr (.inr (.inr (.inl T))))), (tg, .inl (cD, 12, .inr (.inr (.inr (.inl R)))))] s.heap.size = A at hD ⊢
  have hA : ∀ q : Nat, s.heap.size ≤ q → A q := fun q h => by rw [← hAe]; exact Or.inr h
  have hS : va_S (fun _ => False) s.heap s.heap [] := va_S.rf
  have hP : va_P (dC, dI) vwCl [(x, .inr (3, [.ref ks, .ref sh, .int (nI kc), .double kr])), (ks, .inl (cK, 4, .inr (.inr (.inr (.inr gk))))), (hk, .inr (0, [.ref rw, .ref rd, .double sp, .double st])), (rw, .inr (1, [.ref tf, .ref tg, .int (nI n)])), (tf, .inl (cD, 12, .inr (.inr (.inr (.inl T))))), (tg, .inl (cD, 12, .inr (.inr (.inr (.inl R)))))] s.heap := hP
  have hl := lv_entry ([.ref x, .int kd, .double t, .double rr]) (n := 8) (Nat.le_of_ble_eq_true rfl)
  rw [lg_entry_eq]
  generalize (lg_sl ([.ref x, .int kd, .double t, .double rr]) ++ List.replicate (8 - (lg_sl ([.ref x, .int kd, .double t, .double rr])).length) Slot.unset).toArray = ls at hl ⊢
  have hl : lv_has ls 8 [(0, .ref x), (1, .int kd), (2, .double t), (4, .double rr)] := hl
  have hn12 := hrow.1
  refine lv_aload_n hx hb dX3_table_0 rfl (lv_at hl 0 rfl) ?_
  refine lv_iload_n hx hb dX3_table_1 rfl (lv_at hl 1 rfl) ?_
  have hPc := hP.sub (ws' := [(x, .inr (3, [.ref ks, .ref sh, .int (nI kc), .double kr])), (ks, .inl (cK, 4, .inr (.inr (.inr (.inr gk)))))]) [0, 1] rfl
  have hKc := hK.sub (tys' := [(cD, .double), (cK, .object "SteamBends$Kind")]) [0, 1] rfl
  have hDc := hD.sub (ws' := [(x, .inr (3, [.ref ks, .ref sh, .int (nI kc), .double kr])), (ks, .inl (cK, 4, .inr (.inr (.inr (.inr gk)))))]) [0, 1] (by decide) rfl
  refine vx_callq (vx_runV (As := [.int kd]) (rest := []) ⟨hx, hb, hml, hown, hts⟩ (m_X3_kindOf l hl9 dC dI s.heap.size sa cD cK x ks sh kc kr gk kd j hj hkj hk hg) (cwV 1 hts gX3_table_X3_kindOf rfl rfl rfl (by decide +kernel) ⟨(Nat.le_of_ble_eq_true rfl), (Nat.le_of_ble_eq_true rfl)⟩) ⟨PT.blind, va_recv hKc hPc (ci := 3) (q0 := 0) rfl rfl, fun U9 hU9 hW9 => ⟨rfl, PT.at hPc hKc hDc hN hX hS hU9 hW9⟩⟩ rfl rfl hl.1 rfl (lv_room (Nat.le_of_ble_eq_true rfl)) dX3_table_2 ⟨(Nat.le_of_ble_eq_true rfl), (Nat.le_of_ble_eq_true rfl)⟩) hS (fun q _ h => h.elim) (fun q h => h.elim) (fun q _ h => h.elim) (fun E9 ce9 q9 u9s t9s H1 locs hht hvm9 hp9 hB9 hz9 hk9 hS hc9 hv9 hcl9 => ?_) (fun r_81 u9s t9s H1 locs hht hvm9 hw_2_k_80 hB hz1 hk1 hS => ?_)
  · exact vx_out (hout9 _) hlocks hc9 hv9 hcl9 (fun t9q h8 h9 => ⟨(), trivial, (by obtain ⟨rfl, h7⟩ := hB9; exact Or.inl (⟨rfl, by unfold cTab; rw [if_pos h7]⟩)), hS.F h8⟩) (fun z hz => (hS.2.2 z hz).elim) (Nat.le_of_ble_eq_true rfl) (Nat.le_of_ble_eq_true rfl)
  · have hP := va_still hP hk1
    generalize H1 = H at hP hS ⊢
    refine W.widen (k := 1) (n := 6) (Nat.le_of_ble_eq_true rfl) (Nat.le_of_ble_eq_true rfl) ?_
    obtain ⟨rfl, hkd1, hkd2⟩ := hw_2_k_80
    refine W.eq (g2 := F0 m 5 ls [.ref hk]) rfl ?_
    refine lv_astore (lv' := [(6, .ref hk), (0, .ref x), (1, .int kd), (2, .double t), (4, .double rr)]) hx hb dX3_table_5 hl (by decide) rfl (fun ls hl => ?_)
    refine lv_dload_n hx hb dX3_table_7 rfl (lv_at hl 3 rfl) ?_
    refine lv_ldc2d (v := 4593671619917905920) hx hb hown (hts (.constantDouble RX3 35 (4593671619917905920)) (by decide +kernel)) dX3_table_8 ?_
    refine lv_ldc2d (v := 4652007308841189376) hx hb hown (hts (.constantDouble RX3 37 (4652007308841189376)) (by decide +kernel)) dX3_table_11 ?_
    refine va_calli (va_runS (As := [.double t, .double 4593671619917905920, .double 4652007308841189376]) (rest := []) ⟨hx, hb, hml, hown, hts⟩ (m_X3_isWithin l t 4593671619917905920 4652007308841189376 (ht.nn (by omega)) ((by unfold dB; decide +kernel : dB 1021 4593671619917905920).nn (by omega)) ((by unfold dB; decide +kernel : dB 1033 4652007308841189376).nn (by omega))) (va_cwS 3 hts gX3_table_X3_isWithin rfl rfl rfl (by decide +kernel) ⟨(Nat.le_of_ble_eq_true rfl), (Nat.le_of_ble_eq_true rfl)⟩) ⟨fun a U g mk q => q, fun U9 hU9 hW9 => ⟨rfl, trivial⟩⟩ rfl rfl hl.1 rfl (lv_room (Nat.le_of_ble_eq_true rfl)) dX3_table_14 ⟨(Nat.le_of_ble_eq_true rfl), (Nat.le_of_ble_eq_true rfl)⟩) hS (fun q _ h => h.elim) (fun q h => h.elim) (fun r_83 u9s t9s H1 locs hht hvm9 hw_14_k_82 hB hz1 hk1 hS => ?_)
    have hP := va_still hP hk1
    generalize H1 = H at hP hS ⊢
    refine lv_if_eq (tgt := 43) hx hb dX3_table_17 (by decide) (fun c_17 => ?_) (fun c_17 => ?_)
    · have c_17 := (b01 hw_14_k_82).mp c_17
      exact vx_throwS hx hb hl9 (own := RX3) (cls := "java/lang/IllegalArgumentException") (text := "thick or radius is not as said") (names := ["java/lang/RuntimeException", "java/lang/Exception"]) (ik := 49) (is := 51) (ic := 53) (sa := sa 51) (A := fun _ => False) hown (by decide +kernel) (by decide +kernel) (hts (.classLink RX3 49 "java/lang/IllegalArgumentException") (by decide +kernel)) (hts (.initialized "java/lang/IllegalArgumentException") (by decide +kernel)) (hX.str 0 rfl) (vx_hat (fun w h => hts w (xin_X3_table_53 w h)) (by decide +kernel) (vx_c (va_Nw.use rfl (hN.c 0 rfl)) (vx_c (va_Nw.use rfl (hN.c 3 rfl)) (vx_c (va_Nw.use rfl (hN.c 4 rfl)) (vx_c (va_Nw.use rfl (hN.c 5 rfl)) vx_n))))) (by decide +kernel) hX.1 hX.2.1 hS (by rw [hml]; exact hl.1) dX3_table_43 dX3_table_46 dX3_table_47 dX3_table_49 dX3_table_52 (hout9 _) (Nat.le_of_ble_eq_true rfl) (Nat.le_of_ble_eq_true rfl) (Nat.le_of_ble_eq_true rfl) (Nat.le_of_ble_eq_true rfl) hlocks (fun t9s _ h8 h9 => ⟨(), trivial, Or.inr (Or.inl (⟨rfl, (by unfold cTab; (repeat' split) <;> omega)⟩)), thrF hS h8 h9⟩) (fun z hz => (hS.2.2 z hz).elim) (Nat.le_of_ble_eq_true rfl) (Nat.le_of_ble_eq_true rfl)
    · have c_17 := (b01n hw_14_k_82).mp c_17
      refine lv_dload hx hb dX3_table_20 (lv_at hl 4 rfl) ?_
      refine lv_ldc2d (v := 4593671619917905920) hx hb hown (hts (.constantDouble RX3 35 (4593671619917905920)) (by decide +kernel)) dX3_table_22 ?_
      refine lv_ldc2d (v := 4666723172467343360) hx hb hown (hts (.constantDouble RX3 43 (4666723172467343360)) (by decide +kernel)) dX3_table_25 ?_
      refine va_calli (va_runS (As := [.double rr, .double 4593671619917905920, .double 4666723172467343360]) (rest := []) ⟨hx, hb, hml, hown, hts⟩ (m_X3_isWithin l rr 4593671619917905920 4666723172467343360 (hrr.nn (by omega)) ((by unfold dB; decide +kernel : dB 1021 4593671619917905920).nn (by omega)) ((by unfold dB; decide +kernel : dB 1037 4666723172467343360).nn (by omega))) (va_cwS 3 hts gX3_table_X3_isWithin rfl rfl rfl (by decide +kernel) ⟨(Nat.le_of_ble_eq_true rfl), (Nat.le_of_ble_eq_true rfl)⟩) ⟨fun a U g mk q => q, fun U9 hU9 hW9 => ⟨rfl, trivial⟩⟩ rfl rfl hl.1 rfl (lv_room (Nat.le_of_ble_eq_true rfl)) dX3_table_28 ⟨(Nat.le_of_ble_eq_true rfl), (Nat.le_of_ble_eq_true rfl)⟩) hS (fun q _ h => h.elim) (fun q h => h.elim) (fun r_85 u9s t9s H1 locs hht hvm9 hw_28_k_84 hB hz1 hk1 hS => ?_)
      have hP := va_still hP hk1
      generalize H1 = H at hP hS ⊢
      refine lv_if_eq (tgt := 43) hx hb dX3_table_31 (by decide) (fun c_31 => ?_) (fun c_31 => ?_)
      · have c_31 := (b01 hw_28_k_84).mp c_31
        exact vx_throwS hx hb hl9 (own := RX3) (cls := "java/lang/IllegalArgumentException") (text := "thick or radius is not as said") (names := ["java/lang/RuntimeException", "java/lang/Exception"]) (ik := 49) (is := 51) (ic := 53) (sa := sa 51) (A := fun _ => False) hown (by decide +kernel) (by decide +kernel) (hts (.classLink RX3 49 "java/lang/IllegalArgumentException") (by decide +kernel)) (hts (.initialized "java/lang/IllegalArgumentException") (by decide +kernel)) (hX.str 0 rfl) (vx_hat (fun w h => hts w (xin_X3_table_53 w h)) (by decide +kernel) (vx_c (va_Nw.use rfl (hN.c 0 rfl)) (vx_c (va_Nw.use rfl (hN.c 3 rfl)) (vx_c (va_Nw.use rfl (hN.c 4 rfl)) (vx_c (va_Nw.use rfl (hN.c 5 rfl)) vx_n))))) (by decide +kernel) hX.1 hX.2.1 hS (by rw [hml]; exact hl.1) dX3_table_43 dX3_table_46 dX3_table_47 dX3_table_49 dX3_table_52 (hout9 _) (Nat.le_of_ble_eq_true rfl) (Nat.le_of_ble_eq_true rfl) (Nat.le_of_ble_eq_true rfl) (Nat.le_of_ble_eq_true rfl) hlocks (fun t9s _ h8 h9 => ⟨(), trivial, Or.inr (Or.inl (⟨rfl, (by unfold cTab; (repeat' split) <;> omega)⟩)), thrF hS h8 h9⟩) (fun z hz => (hS.2.2 z hz).elim) (Nat.le_of_ble_eq_true rfl) (Nat.le_of_ble_eq_true rfl)
      · have c_31 := (b01n hw_28_k_84).mp c_31
        refine lv_aload hx hb dX3_table_34 (lv_at hl 0 rfl) ?_
        refine lv_dload_n hx hb dX3_table_36 rfl (lv_at hl 3 rfl) ?_
        have hPc := hP.sub (ws' := [(hk, .inr (0, [.ref rw, .ref rd, .double sp, .double st])), (rw, .inr (1, [.ref tf, .ref tg, .int (nI n)])), (tf, .inl (cD, 12, .inr (.inr (.inr (.inl T))))), (tg, .inl (cD, 12, .inr (.inr (.inr (.inl R)))))]) [2, 3, 4, 5] rfl
        have hKc := hK.sub (tys' := [(cD, .double)]) [0] rfl
        refine va_calli (va_runV (As := [.double t]) (rest := []) ⟨hx, hb, hml, hown, hts⟩ (m_X0_isAboveRows l dC dI cD hk rw rd sp st tf tg n T R t (ht.mono (by omega) : dB 1060 _) hrow) (cwV 1 hts gX3_table_X0_isAboveRows rfl rfl rfl (by decide +kernel) ⟨(Nat.le_of_ble_eq_true rfl), (Nat.le_of_ble_eq_true rfl)⟩) ⟨PK.blind, va_recv hKc hPc (ci := 0) (q0 := 0) rfl rfl, fun U9 hU9 hW9 => ⟨rfl, PK.at hPc hKc hN hU9 hW9⟩⟩ rfl rfl hl.1 rfl (lv_room (Nat.le_of_ble_eq_true rfl)) dX3_table_37 ⟨(Nat.le_of_ble_eq_true rfl), (Nat.le_of_ble_eq_true rfl)⟩) hS (fun q _ h => h.elim) (fun q h => h.elim) (fun r_87 u9s t9s H1 locs hht hvm9 hw_37_k_86 hB hz1 hk1 hS => ?_)
        have hP := va_still hP hk1
        generalize H1 = H at hP hS ⊢
        refine lv_if_ne (tgt := 53) hx hb dX3_table_40 (by decide) (fun c_40 => ?_) (fun c_40 => ?_)
        · have c_40 := (b01n hw_37_k_86).mp c_40
          refine lv_aload hx hb dX3_table_53 (lv_at hl 0 rfl) ?_
          refine va_getN (D := (dC, dI)) (ci := 0) (v := .ref rw) (C := RX0) (T := TX0) (N := 4) (host := "SteamBends") hx hb hts (by decide +kernel) hown hK hP 2 rfl rfl 0 (by decide) (va_Nw.use rfl (hN.f 3 rfl)) (fun _ h9 => h9) rfl dX3_table_55 ?_
          refine lv_dload_n hx hb dX3_table_58 rfl (lv_at hl 3 rfl) ?_
          refine lv_dload hx hb dX3_table_59 (lv_at hl 4 rfl) ?_
          rcases Nat.lt_or_ge n 12 with hn9 | hn9
          · have hS : va_S A s.heap H locs := hS.up noA
            have hPc := hP.sub (ws' := [(rw, .inr (1, [.ref tf, .ref tg, .int (nI n)])), (tf, .inl (cD, 12, .inr (.inr (.inr (.inl T))))), (tg, .inl (cD, 12, .inr (.inr (.inr (.inl R)))))]) [3, 4, 5] rfl
            have hKc := hK.sub (tys' := [(cD, .double)]) [0] rfl
            have hDc := hD.sub (ws' := [(rw, .inr (1, [.ref tf, .ref tg, .int (nI n)])), (tf, .inl (cD, 12, .inr (.inr (.inr (.inl T))))), (tg, .inl (cD, 12, .inr (.inr (.inr (.inl R)))))]) [3, 4, 5] (by decide) rfl
            have hFc := va_free (wc := [(rw, .inr (1, [.ref tf, .ref tg, .int (nI n)])), (tf, .inl (cD, 12, .inr (.inr (.inr (.inl T))))), (tg, .inl (cD, 12, .inr (.inr (.inr (.inl R)))))]) hD hS hA [3, 4, 5] rfl
            refine va_calli (va_runV (As := [.double t, .double rr]) (rest := []) ⟨hx, hb, hml, hown, hts⟩ (m_X1_add l dC dI H.size cD rw tf tg n 12 T R t rr (by omega) (by omega)) (cwV 2 hts gX3_table_X1_add rfl rfl rfl (by decide +kernel) ⟨(Nat.le_of_ble_eq_true rfl), (Nat.le_of_ble_eq_true rfl)⟩) ⟨PW.blind, va_recv hKc hPc (ci := 1) (q0 := 0) rfl rfl, fun U9 hU9 hW9 => ⟨rfl, PW.at hPc hKc hDc hN hU9 hW9⟩⟩ rfl rfl hl.1 rfl (lv_room (Nat.le_of_ble_eq_true rfl)) dX3_table_61 ⟨(Nat.le_of_ble_eq_true rfl), (Nat.le_of_ble_eq_true rfl)⟩) hS (fun q _ h => hFc q h) hFc (fun r_89 u9s t9s H1 locs hht hvm9 hw_61_k_88 hB hz1 hk1 hS => ?_)
            obtain ⟨hP1, hD1⟩ := hB
            rw [hht] at hP1
            obtain ⟨hP, hD⟩ := va_join (wr := [(x, .inr (3, [.ref ks, .ref sh, .int (nI kc), .double kr])), (ks, .inl (cK, 4, .inr (.inr (.inr (.inr gk))))), (hk, .inr (0, [.ref rw, .ref rd, .double sp, .double st]))]) (w1 := [(rw, .inr (1, [.ref tf, .ref tg, .int (nI (n + 1))])), (tf, .inl (cD, 12, .inr (.inr (.inr (.inl (vf_upd T n t)))))), (tg, .inl (cD, 12, .inr (.inr (.inr (.inl (vf_upd R n rr))))))]) hP hD [3, 4, 5] [0, 1, 2] rfl rfl (by decide) (by decide) hk1 hFc hP1 hD1
            generalize H1 = H at hP hS ⊢
            have hP : va_P (dC, dI) vwCl [(x, .inr (3, [.ref ks, .ref sh, .int (nI kc), .double kr])), (ks, .inl (cK, 4, .inr (.inr (.inr (.inr gk))))), (hk, .inr (0, [.ref rw, .ref rd, .double sp, .double st])), (rw, .inr (1, [.ref tf, .ref tg, .int (nI (n + 1))])), (tf, .inl (cD, 12, .inr (.inr (.inr (.inl (vf_upd T n t)))))), (tg, .inl (cD, 12, .inr (.inr (.inr (.inl (vf_upd R n rr))))))] H := hP
            have hD : va_D A [(x, .inr (3, [.ref ks, .ref sh, .int (nI kc), .double kr])), (ks, .inl (cK, 4, .inr (.inr (.inr (.inr gk))))), (hk, .inr (0, [.ref rw, .ref rd, .double sp, .double st])), (rw, .inr (1, [.ref tf, .ref tg, .int (nI (n + 1))])), (tf, .inl (cD, 12, .inr (.inr (.inr (.inl (vf_upd T n t)))))), (tg, .inl (cD, 12, .inr (.inr (.inr (.inl (vf_upd R n rr))))))] := hD
            subst hw_61_k_88
            refine lv_istore (lv' := [(7, .int (nI (n + 1))), (6, .ref hk), (0, .ref x), (1, .int kd), (2, .double t), (4, .double rr)]) hx hb dX3_table_64 hl (by decide) rfl (fun ls hl => ?_)
            refine lv_iload hx hb dX3_table_66 (lv_at hl 0 rfl) ?_
            refine lv_iconst (v := -1) hx hb dX3_table_68 (by decide) ?_
            refine lv_icmp_ne (tgt := 82) hx hb dX3_table_69 (by decide) (fun c_69 => ?_) (fun c_69 => ?_)
            · have c_69 := mt (z_eq (a := ((n + 1 : Nat) : Int)) (b := (-1 : Int)) (nI_toInt (by omega)) (by decide)).mpr c_69
              refine lv_iload hx hb dX3_table_82 (lv_at hl 0 rfl) ?_
              refine vx_ret ?_
              refine W.widen (k := 2) (n := 12) (Nat.le_of_ble_eq_true rfl) (Nat.le_of_ble_eq_true rfl) ?_
              have hP9 := hP.sub (ws' := [(x, .inr (3, [.ref ks, .ref sh, .int (nI kc), .double kr])), (ks, .inl (cK, 4, .inr (.inr (.inr (.inr gk))))), (hk, .inr (0, [.ref rw, .ref rd, .double sp, .double st])), (rw, .inr (1, [.ref tf, .ref tg, .int (nI (n + 1))])), (tf, .inl (cD, 12, .inr (.inr (.inr (.inl (vf_upd T n t)))))), (tg, .inl (cD, 12, .inr (.inr (.inr (.inl (vf_upd R n rr))))))]) [0, 1, 2, 3, 4, 5] rfl
              have hD9 := hD.sub (ws' := [(x, .inr (3, [.ref ks, .ref sh, .int (nI kc), .double kr])), (ks, .inl (cK, 4, .inr (.inr (.inr (.inr gk))))), (hk, .inr (0, [.ref rw, .ref rd, .double sp, .double st])), (rw, .inr (1, [.ref tf, .ref tg, .int (nI (n + 1))])), (tf, .inl (cD, 12, .inr (.inr (.inr (.inl (vf_upd T n t)))))), (tg, .inl (cD, 12, .inr (.inr (.inr (.inl (vf_upd R n rr))))))]) [0, 1, 2, 3, 4, 5] (by decide) rfl
              exact W.iret hx hb hr (fun t9s hht hW9 => ⟨⟨nI (n + 1), (), rfl, ⟨rfl, by unfold cTab; (repeat' split) <;> omega⟩, ⟨by rw [hht]; exact hP9, hD9⟩⟩, hS.F hht⟩) hS.2.2 dX3_table_84
            · have c_69 := (z_eq (a := ((n + 1 : Nat) : Int)) (b := (-1 : Int)) (nI_toInt (by omega)) (by decide)).mp c_69
              exact absurd c_69 (by omega)
          · have hn9 : n = 12 := by omega
            have hPc := hP.sub (ws' := [(rw, .inr (1, [.ref tf, .ref tg, .int (nI n)])), (tf, .inl (cD, 12, .inr (.inr (.inr (.inl T))))), (tg, .inl (cD, 12, .inr (.inr (.inr (.inl R)))))]) [3, 4, 5] rfl
            have hKc := hK.sub (tys' := [(cD, .double)]) [0] rfl
            refine va_calli (va_runV (As := [.double t, .double rr]) (rest := []) ⟨hx, hb, hml, hown, hts⟩ (m_X1_addFull l dC dI cD rw tf tg n 12 T R t rr (by omega) (by omega)) (cwV 2 hts gX3_table_X1_add rfl rfl rfl (by decide +kernel) ⟨(Nat.le_of_ble_eq_true rfl), (Nat.le_of_ble_eq_true rfl)⟩) ⟨PK.blind, va_recv hKc hPc (ci := 1) (q0 := 0) rfl rfl, fun U9 hU9 hW9 => ⟨rfl, PK.at hPc hKc hN hU9 hW9⟩⟩ rfl rfl hl.1 rfl (lv_room (Nat.le_of_ble_eq_true rfl)) dX3_table_61 ⟨(Nat.le_of_ble_eq_true rfl), (Nat.le_of_ble_eq_true rfl)⟩) hS (fun q _ h => h.elim) (fun q h => h.elim) (fun r_91 u9s t9s H1 locs hht hvm9 hw_61_k_90 hB hz1 hk1 hS => ?_)
            have hP := va_still hP hk1
            generalize H1 = H at hP hS ⊢
            subst hw_61_k_90
            refine lv_istore (lv' := [(7, .int (-1)), (6, .ref hk), (0, .ref x), (1, .int kd), (2, .double t), (4, .double rr)]) hx hb dX3_table_64 hl (by decide) rfl (fun ls hl => ?_)
            refine lv_iload hx hb dX3_table_66 (lv_at hl 0 rfl) ?_
            refine lv_iconst (v := -1) hx hb dX3_table_68 (by decide) ?_
            refine lv_icmp_ne (tgt := 82) hx hb dX3_table_69 (by decide) (fun c_69 => ?_) (fun c_69 => ?_)
            · have c_69 := mt (z_eq (a := (-1 : Int)) (b := (-1 : Int)) (by decide) (by decide)).mpr c_69
              exact absurd rfl c_69
            · have c_69 := (z_eq (a := (-1 : Int)) (b := (-1 : Int)) (by decide) (by decide)).mp c_69
              exact vx_throwS hx hb hl9 (own := RX3) (cls := "java/lang/IllegalStateException") (text := "the kind has no room for a row more") (names := ["java/lang/RuntimeException", "java/lang/Exception"]) (ik := 66) (is := 68) (ic := 70) (sa := sa 68) (A := fun _ => False) hown (by decide +kernel) (by decide +kernel) (hts (.classLink RX3 66 "java/lang/IllegalStateException") (by decide +kernel)) (hts (.initialized "java/lang/IllegalStateException") (by decide +kernel)) (hX.str 1 rfl) (vx_hat (fun w h => hts w (xin_X3_table_70 w h)) (by decide +kernel) (vx_c (va_Nw.use rfl (hN.c 1 rfl)) (vx_c (va_Nw.use rfl (hN.c 3 rfl)) (vx_c (va_Nw.use rfl (hN.c 4 rfl)) (vx_c (va_Nw.use rfl (hN.c 5 rfl)) vx_n))))) (by decide +kernel) hX.1 hX.2.1 hS (by rw [hml]; exact hl.1) dX3_table_72 dX3_table_75 dX3_table_76 dX3_table_78 dX3_table_81 (hout9 _) (Nat.le_of_ble_eq_true rfl) (Nat.le_of_ble_eq_true rfl) (Nat.le_of_ble_eq_true rfl) (Nat.le_of_ble_eq_true rfl) hlocks (fun t9s _ h8 h9 => ⟨(), trivial, Or.inr (Or.inr (⟨rfl, (by unfold cTab; (repeat' split) <;> omega)⟩)), thrF hS h8 h9⟩) (fun z hz => (hS.2.2 z hz).elim) (Nat.le_of_ble_eq_true rfl) (Nat.le_of_ble_eq_true rfl)
        · have c_40 := (b01 hw_37_k_86).mp c_40
          exact vx_throwS hx hb hl9 (own := RX3) (cls := "java/lang/IllegalArgumentException") (text := "thick or radius is not as said") (names := ["java/lang/RuntimeException", "java/lang/Exception"]) (ik := 49) (is := 51) (ic := 53) (sa := sa 51) (A := fun _ => False) hown (by decide +kernel) (by decide +kernel) (hts (.classLink RX3 49 "java/lang/IllegalArgumentException") (by decide +kernel)) (hts (.initialized "java/lang/IllegalArgumentException") (by decide +kernel)) (hX.str 0 rfl) (vx_hat (fun w h => hts w (xin_X3_table_53 w h)) (by decide +kernel) (vx_c (va_Nw.use rfl (hN.c 0 rfl)) (vx_c (va_Nw.use rfl (hN.c 3 rfl)) (vx_c (va_Nw.use rfl (hN.c 4 rfl)) (vx_c (va_Nw.use rfl (hN.c 5 rfl)) vx_n))))) (by decide +kernel) hX.1 hX.2.1 hS (by rw [hml]; exact hl.1) dX3_table_43 dX3_table_46 dX3_table_47 dX3_table_49 dX3_table_52 (hout9 _) (Nat.le_of_ble_eq_true rfl) (Nat.le_of_ble_eq_true rfl) (Nat.le_of_ble_eq_true rfl) (Nat.le_of_ble_eq_true rfl) hlocks (fun t9s _ h8 h9 => ⟨(), trivial, Or.inr (Or.inl (⟨rfl, (by unfold cTab; (repeat' split) <;> omega)⟩)), thrF hS h8 h9⟩) (fun z hz => (hS.2.2 z hz).elim) (Nat.le_of_ble_eq_true rfl) (Nat.le_of_ble_eq_true rfl)

set_option maxHeartbeats 4000000 in
set_option maxRecDepth 100000 in
theorem m_X3_read (l : Launch) (hl9 : l.stackTraces = false) (dC : Nat → ClassId) (dI : Nat → Nat → Nat) (sz : Nat) (sa : Nat → Nat) (cD cK : ClassId) (x ks sh : Nat) (kc : Nat) (kr : UInt64) (gk : Nat → Option Nat) (rw rd : Nat) (sp st : UInt64) (bf bg : Nat) (n : Nat) (B K : Nat → UInt64) (kd : Int32) (j : Nat) (hj : j < 4) (hkj : kOK kd → kd = nI j) (hk : Nat) (hg : gk j = some hk) (b9 k9 : UInt64) (hb9 : dB 1060 b9) (hk9 : dB 1060 k9) (hrd : readsOK B K n) : vx_Met l yX3_read wsX3_read ({ frames := 7, cells := 2, slots := 12, locals := 104 } : Room) (va_Pc [.ref x, .int kd, .double b9, .double k9] (PT (dC, dI) [(cD, .double), (cK, .object "SteamBends$Kind")] [(x, .inr (3, [.ref ks, .ref sh, .int (nI kc), .double kr])), (ks, .inl (cK, 4, .inr (.inr (.inr (.inr gk))))), (hk, .inr (0, [.ref rw, .ref rd, .double sp, .double st])), (rd, .inr (1, [.ref bf, .ref bg, .int (nI n)])), (bf, .inl (cD, 20, .inr (.inr (.inr (.inl B))))), (bg, .inl (cD, 20, .inr (.inr (.inr (.inl K)))))] sz sa)) (va_Qi (fun (r : Int32) (u : Unit) => r = nI (n + 1) ∧ cRd kd b9 k9 n = 0) (fun (u : Unit) => QW (dC, dI) [(x, .inr (3, [.ref ks, .ref sh, .int (nI kc), .double kr])), (ks, .inl (cK, 4, .inr (.inr (.inr (.inr gk))))), (hk, .inr (0, [.ref rw, .ref rd, .double sp, .double st])), (rd, .inr (1, [.ref bf, .ref bg, .int (nI (n + 1))])), (bf, .inl (cD, 20, .inr (.inr (.inr (.inl (vf_upd B n b9)))))), (bg, .inl (cD, 20, .inr (.inr (.inr (.inl (vf_upd K n k9))))))] (va_A [(x, .inr (3, [.ref ks, .ref sh, .int (nI kc), .double kr])), (ks, .inl (cK, 4, .inr (.inr (.inr (.inr gk))))), (hk, .inr (0, [.ref rw, .ref rd, .double sp, .double st])), (rd, .inr (1, [.ref bf, .ref bg, .int (nI n)])), (bf, .inl (cD, 20, .inr (.inr (.inr (.inl B))))), (bg, .inl (cD, 20, .inr (.inr (.inr (.inl K)))))] sz)) (va_A [(x, .inr (3, [.ref ks, .ref sh, .int (nI kc), .double kr])), (ks, .inl (cK, 4, .inr (.inr (.inr (.inr gk))))), (hk, .inr (0, [.ref rw, .ref rd, .double sp, .double st])), (rd, .inr (1, [.ref bf, .ref bg, .int (nI n)])), (bf, .inl (cD, 20, .inr (.inr (.inr (.inl B))))), (bg, .inl (cD, 20, .inr (.inr (.inr (.inl K)))))] sz)) (vx_X (fun _ : Unit => True) (fun E _ _ => (E = eIO ∧ cRd kd b9 k9 n = 1) ∨ (E = eIA ∧ cRd kd b9 k9 n = 2) ∨ (E = eIS ∧ cRd kd b9 k9 n = 3)) (fun _ => False)) 2 12 (va_A [(x, .inr (3, [.ref ks, .ref sh, .int (nI kc), .double kr])), (ks, .inl (cK, 4, .inr (.inr (.inr (.inr gk))))), (hk, .inr (0, [.ref rw, .ref rd, .double sp, .double st])), (rd, .inr (1, [.ref bf, .ref bg, .int (nI n)])), (bf, .inl (cD, 20, .inr (.inr (.inr (.inl B))))), (bg, .inl (cD, 20, .inr (.inr (.inr (.inl K)))))] sz) := by
  refine vx_ofW (cc := cX3_read) (maxL := 8) (ret := (some .int)) (by decide) rfl ?_
  intro p e s m args below meth c s₁ BB hml hex9 hv
  obtain ⟨rfl, ⟨hsz, hP, hK, hD0, hN⟩, hX⟩ := hv
  have hx := BB.exec
  have hb := BB.bytes
  have hr := BB.returns
  have hts := atoms_spec (ws := wsX3_read) BB.pre
  have hown : s.vm.findClass RX3 = some m.cls := findClass_of_methodNamed BB.named
  have hlocks := BB.notSynchronized
  have hout9 : ∀ (pc : Nat) (x : ExceptionTableEntry), x ∈ c.exceptionTable.toList → covers x pc = false := fun pc x h => (hex9 x h).elim
  subst hsz
  have hD := hD0.self (sz := s.heap.size)
  generalize hAe : va_A [(x, .inr (3, [.ref ks, .ref sh, .int (nI kc), .double kr])), (ks, .inl (cK, 4, .inr (.inr (.inr (.inr gk))))), (hk, .inr (0, [.ref rw, .ref rd, .double sp, .double st])), (rd, .inr (1, [.ref bf, .ref bg, .int (nI n)])), (bf, .inl (cD, 20, .inr (.inr (.inr (.inl B))))), (bg, .inl (cD, 20, .inr (.inr (.inr (.inl K)))))] s.heap.size = A at hD ⊢
  have hA : ∀ q : Nat, s.heap.size ≤ q → A q := fun q h => by rw [← hAe]; exact Or.inr h
  have hS : va_S (fun _ => False) s.heap s.heap [] := va_S.rf
  have hP : va_P (dC, dI) vwCl [(x, .inr (3, [.ref ks, .ref sh, .int (nI kc), .double kr])), (ks, .inl (cK, 4, .inr (.inr (.inr (.inr gk))))), (hk, .inr (0, [.ref rw, .ref rd, .double sp, .double st])), (rd, .inr (1, [.ref bf, .ref bg, .int (nI n)])), (bf, .inl (cD, 20, .inr (.inr (.inr (.inl B))))), (bg, .inl (cD, 20, .inr (.inr (.inr (.inl K)))))] s.heap := hP
  have hl := lv_entry ([.ref x, .int kd, .double b9, .double k9]) (n := 8) (Nat.le_of_ble_eq_true rfl)
  rw [lg_entry_eq]
  generalize (lg_sl ([.ref x, .int kd, .double b9, .double k9]) ++ List.replicate (8 - (lg_sl ([.ref x, .int kd, .double b9, .double k9])).length) Slot.unset).toArray = ls at hl ⊢
  have hl : lv_has ls 8 [(0, .ref x), (1, .int kd), (2, .double b9), (4, .double k9)] := hl
  have hn20 := hrd.1
  refine lv_aload_n hx hb dX3_read_0 rfl (lv_at hl 0 rfl) ?_
  refine lv_iload_n hx hb dX3_read_1 rfl (lv_at hl 1 rfl) ?_
  have hPc := hP.sub (ws' := [(x, .inr (3, [.ref ks, .ref sh, .int (nI kc), .double kr])), (ks, .inl (cK, 4, .inr (.inr (.inr (.inr gk)))))]) [0, 1] rfl
  have hKc := hK.sub (tys' := [(cD, .double), (cK, .object "SteamBends$Kind")]) [0, 1] rfl
  have hDc := hD.sub (ws' := [(x, .inr (3, [.ref ks, .ref sh, .int (nI kc), .double kr])), (ks, .inl (cK, 4, .inr (.inr (.inr (.inr gk)))))]) [0, 1] (by decide) rfl
  refine vx_callq (vx_runV (As := [.int kd]) (rest := []) ⟨hx, hb, hml, hown, hts⟩ (m_X3_kindOf l hl9 dC dI s.heap.size sa cD cK x ks sh kc kr gk kd j hj hkj hk hg) (cwV 1 hts gX3_read_X3_kindOf rfl rfl rfl (by decide +kernel) ⟨(Nat.le_of_ble_eq_true rfl), (Nat.le_of_ble_eq_true rfl)⟩) ⟨PT.blind, va_recv hKc hPc (ci := 3) (q0 := 0) rfl rfl, fun U9 hU9 hW9 => ⟨rfl, PT.at hPc hKc hDc hN hX hS hU9 hW9⟩⟩ rfl rfl hl.1 rfl (lv_room (Nat.le_of_ble_eq_true rfl)) dX3_read_2 ⟨(Nat.le_of_ble_eq_true rfl), (Nat.le_of_ble_eq_true rfl)⟩) hS (fun q _ h => h.elim) (fun q h => h.elim) (fun q _ h => h.elim) (fun E9 ce9 q9 u9s t9s H1 locs hht hvm9 hp9 hB9 hz9 hk9 hS hc9 hv9 hcl9 => ?_) (fun r_93 u9s t9s H1 locs hht hvm9 hw_2_k_92 hB hz1 hk1 hS => ?_)
  · exact vx_out (hout9 _) hlocks hc9 hv9 hcl9 (fun t9q h8 h9 => ⟨(), trivial, (by obtain ⟨rfl, h7⟩ := hB9; exact Or.inl (⟨rfl, by unfold cRd; rw [if_pos h7]⟩)), hS.F h8⟩) (fun z hz => (hS.2.2 z hz).elim) (Nat.le_of_ble_eq_true rfl) (Nat.le_of_ble_eq_true rfl)
  · have hP := va_still hP hk1
    generalize H1 = H at hP hS ⊢
    refine W.widen (k := 1) (n := 6) (Nat.le_of_ble_eq_true rfl) (Nat.le_of_ble_eq_true rfl) ?_
    obtain ⟨rfl, hkd1, hkd2⟩ := hw_2_k_92
    refine W.eq (g2 := F0 m 5 ls [.ref hk]) rfl ?_
    refine lv_astore (lv' := [(6, .ref hk), (0, .ref x), (1, .int kd), (2, .double b9), (4, .double k9)]) hx hb dX3_read_5 hl (by decide) rfl (fun ls hl => ?_)
    refine lv_dload_n hx hb dX3_read_7 rfl (lv_at hl 3 rfl) ?_
    refine lv_ldc2d (v := 4593671619917905920) hx hb hown (hts (.constantDouble RX3 35 (4593671619917905920)) (by decide +kernel)) dX3_read_8 ?_
    refine lv_ldc2d (v := 4666723172467343360) hx hb hown (hts (.constantDouble RX3 43 (4666723172467343360)) (by decide +kernel)) dX3_read_11 ?_
    refine va_calli (va_runS (As := [.double b9, .double 4593671619917905920, .double 4666723172467343360]) (rest := []) ⟨hx, hb, hml, hown, hts⟩ (m_X3_isWithin l b9 4593671619917905920 4666723172467343360 (hb9.nn (by omega)) ((by unfold dB; decide +kernel : dB 1021 4593671619917905920).nn (by omega)) ((by unfold dB; decide +kernel : dB 1037 4666723172467343360).nn (by omega))) (va_cwS 3 hts gX3_read_X3_isWithin rfl rfl rfl (by decide +kernel) ⟨(Nat.le_of_ble_eq_true rfl), (Nat.le_of_ble_eq_true rfl)⟩) ⟨fun a U g mk q => q, fun U9 hU9 hW9 => ⟨rfl, trivial⟩⟩ rfl rfl hl.1 rfl (lv_room (Nat.le_of_ble_eq_true rfl)) dX3_read_14 ⟨(Nat.le_of_ble_eq_true rfl), (Nat.le_of_ble_eq_true rfl)⟩) hS (fun q _ h => h.elim) (fun q h => h.elim) (fun r_95 u9s t9s H1 locs hht hvm9 hw_14_k_94 hB hz1 hk1 hS => ?_)
    have hP := va_still hP hk1
    generalize H1 = H at hP hS ⊢
    refine lv_if_eq (tgt := 32) hx hb dX3_read_17 (by decide) (fun c_17 => ?_) (fun c_17 => ?_)
    · have c_17 := (b01 hw_14_k_94).mp c_17
      exact vx_throwS hx hb hl9 (own := RX3) (cls := "java/lang/IllegalArgumentException") (text := "bent or kept is not as said") (names := ["java/lang/RuntimeException", "java/lang/Exception"]) (ik := 49) (is := 89) (ic := 53) (sa := sa 89) (A := fun _ => False) hown (by decide +kernel) (by decide +kernel) (hts (.classLink RX3 49 "java/lang/IllegalArgumentException") (by decide +kernel)) (hts (.initialized "java/lang/IllegalArgumentException") (by decide +kernel)) (hX.str 5 rfl) (vx_hat (fun w h => hts w (xin_X3_read_53 w h)) (by decide +kernel) (vx_c (va_Nw.use rfl (hN.c 0 rfl)) (vx_c (va_Nw.use rfl (hN.c 3 rfl)) (vx_c (va_Nw.use rfl (hN.c 4 rfl)) (vx_c (va_Nw.use rfl (hN.c 5 rfl)) vx_n))))) (by decide +kernel) hX.1 hX.2.1 hS (by rw [hml]; exact hl.1) dX3_read_32 dX3_read_35 dX3_read_36 dX3_read_38 dX3_read_41 (hout9 _) (Nat.le_of_ble_eq_true rfl) (Nat.le_of_ble_eq_true rfl) (Nat.le_of_ble_eq_true rfl) (Nat.le_of_ble_eq_true rfl) hlocks (fun t9s _ h8 h9 => ⟨(), trivial, Or.inr (Or.inl (⟨rfl, (by unfold cRd; (repeat' split) <;> omega)⟩)), thrF hS h8 h9⟩) (fun z hz => (hS.2.2 z hz).elim) (Nat.le_of_ble_eq_true rfl) (Nat.le_of_ble_eq_true rfl)
    · have c_17 := (b01n hw_14_k_94).mp c_17
      refine lv_dload hx hb dX3_read_20 (lv_at hl 4 rfl) ?_
      refine lv_dload_n hx hb dX3_read_22 rfl (lv_at hl 3 rfl) ?_
      refine lv_ldc2d (v := 4681608360884174848) hx hb hown (hts (.constantDouble RX3 87 (4681608360884174848)) (by decide +kernel)) dX3_read_23 ?_
      refine va_calli (va_runS (As := [.double k9, .double b9, .double 4681608360884174848]) (rest := []) ⟨hx, hb, hml, hown, hts⟩ (m_X3_isWithin l k9 b9 4681608360884174848 (hk9.nn (by omega)) (hb9.nn (by omega)) ((by unfold dB; decide +kernel : dB 1040 4681608360884174848).nn (by omega))) (va_cwS 3 hts gX3_read_X3_isWithin rfl rfl rfl (by decide +kernel) ⟨(Nat.le_of_ble_eq_true rfl), (Nat.le_of_ble_eq_true rfl)⟩) ⟨fun a U g mk q => q, fun U9 hU9 hW9 => ⟨rfl, trivial⟩⟩ rfl rfl hl.1 rfl (lv_room (Nat.le_of_ble_eq_true rfl)) dX3_read_26 ⟨(Nat.le_of_ble_eq_true rfl), (Nat.le_of_ble_eq_true rfl)⟩) hS (fun q _ h => h.elim) (fun q h => h.elim) (fun r_97 u9s t9s H1 locs hht hvm9 hw_26_k_96 hB hz1 hk1 hS => ?_)
      have hP := va_still hP hk1
      generalize H1 = H at hP hS ⊢
      refine lv_if_ne (tgt := 42) hx hb dX3_read_29 (by decide) (fun c_29 => ?_) (fun c_29 => ?_)
      · have c_29 := (b01n hw_26_k_96).mp c_29
        refine lv_aload hx hb dX3_read_42 (lv_at hl 0 rfl) ?_
        refine va_getN (D := (dC, dI)) (ci := 0) (v := .ref rd) (C := RX0) (T := TX0) (N := 4) (host := "SteamBends") hx hb hts (by decide +kernel) hown hK hP 2 rfl rfl 1 (by decide) (va_Nw.use rfl (hN.f 4 rfl)) (fun _ h9 => h9) rfl dX3_read_44 ?_
        refine lv_dload_n hx hb dX3_read_47 rfl (lv_at hl 3 rfl) ?_
        refine lv_dload hx hb dX3_read_48 (lv_at hl 4 rfl) ?_
        rcases Nat.lt_or_ge n 20 with hn9 | hn9
        · have hS : va_S A s.heap H locs := hS.up noA
          have hPc := hP.sub (ws' := [(rd, .inr (1, [.ref bf, .ref bg, .int (nI n)])), (bf, .inl (cD, 20, .inr (.inr (.inr (.inl B))))), (bg, .inl (cD, 20, .inr (.inr (.inr (.inl K)))))]) [3, 4, 5] rfl
          have hKc := hK.sub (tys' := [(cD, .double)]) [0] rfl
          have hDc := hD.sub (ws' := [(rd, .inr (1, [.ref bf, .ref bg, .int (nI n)])), (bf, .inl (cD, 20, .inr (.inr (.inr (.inl B))))), (bg, .inl (cD, 20, .inr (.inr (.inr (.inl K)))))]) [3, 4, 5] (by decide) rfl
          have hFc := va_free (wc := [(rd, .inr (1, [.ref bf, .ref bg, .int (nI n)])), (bf, .inl (cD, 20, .inr (.inr (.inr (.inl B))))), (bg, .inl (cD, 20, .inr (.inr (.inr (.inl K)))))]) hD hS hA [3, 4, 5] rfl
          refine va_calli (va_runV (As := [.double b9, .double k9]) (rest := []) ⟨hx, hb, hml, hown, hts⟩ (m_X1_add l dC dI H.size cD rd bf bg n 20 B K b9 k9 (by omega) (by omega)) (cwV 2 hts gX3_read_X1_add rfl rfl rfl (by decide +kernel) ⟨(Nat.le_of_ble_eq_true rfl), (Nat.le_of_ble_eq_true rfl)⟩) ⟨PW.blind, va_recv hKc hPc (ci := 1) (q0 := 0) rfl rfl, fun U9 hU9 hW9 => ⟨rfl, PW.at hPc hKc hDc hN hU9 hW9⟩⟩ rfl rfl hl.1 rfl (lv_room (Nat.le_of_ble_eq_true rfl)) dX3_read_50 ⟨(Nat.le_of_ble_eq_true rfl), (Nat.le_of_ble_eq_true rfl)⟩) hS (fun q _ h => hFc q h) hFc (fun r_99 u9s t9s H1 locs hht hvm9 hw_50_k_98 hB hz1 hk1 hS => ?_)
          obtain ⟨hP1, hD1⟩ := hB
          rw [hht] at hP1
          obtain ⟨hP, hD⟩ := va_join (wr := [(x, .inr (3, [.ref ks, .ref sh, .int (nI kc), .double kr])), (ks, .inl (cK, 4, .inr (.inr (.inr (.inr gk))))), (hk, .inr (0, [.ref rw, .ref rd, .double sp, .double st]))]) (w1 := [(rd, .inr (1, [.ref bf, .ref bg, .int (nI (n + 1))])), (bf, .inl (cD, 20, .inr (.inr (.inr (.inl (vf_upd B n b9)))))), (bg, .inl (cD, 20, .inr (.inr (.inr (.inl (vf_upd K n k9))))))]) hP hD [3, 4, 5] [0, 1, 2] rfl rfl (by decide) (by decide) hk1 hFc hP1 hD1
          generalize H1 = H at hP hS ⊢
          have hP : va_P (dC, dI) vwCl [(x, .inr (3, [.ref ks, .ref sh, .int (nI kc), .double kr])), (ks, .inl (cK, 4, .inr (.inr (.inr (.inr gk))))), (hk, .inr (0, [.ref rw, .ref rd, .double sp, .double st])), (rd, .inr (1, [.ref bf, .ref bg, .int (nI (n + 1))])), (bf, .inl (cD, 20, .inr (.inr (.inr (.inl (vf_upd B n b9)))))), (bg, .inl (cD, 20, .inr (.inr (.inr (.inl (vf_upd K n k9))))))] H := hP
          have hD : va_D A [(x, .inr (3, [.ref ks, .ref sh, .int (nI kc), .double kr])), (ks, .inl (cK, 4, .inr (.inr (.inr (.inr gk))))), (hk, .inr (0, [.ref rw, .ref rd, .double sp, .double st])), (rd, .inr (1, [.ref bf, .ref bg, .int (nI (n + 1))])), (bf, .inl (cD, 20, .inr (.inr (.inr (.inl (vf_upd B n b9)))))), (bg, .inl (cD, 20, .inr (.inr (.inr (.inl (vf_upd K n k9))))))] := hD
          subst hw_50_k_98
          refine lv_istore (lv' := [(7, .int (nI (n + 1))), (6, .ref hk), (0, .ref x), (1, .int kd), (2, .double b9), (4, .double k9)]) hx hb dX3_read_53 hl (by decide) rfl (fun ls hl => ?_)
          refine lv_iload hx hb dX3_read_55 (lv_at hl 0 rfl) ?_
          refine lv_iconst (v := -1) hx hb dX3_read_57 (by decide) ?_
          refine lv_icmp_ne (tgt := 71) hx hb dX3_read_58 (by decide) (fun c_58 => ?_) (fun c_58 => ?_)
          · have c_58 := mt (z_eq (a := ((n + 1 : Nat) : Int)) (b := (-1 : Int)) (nI_toInt (by omega)) (by decide)).mpr c_58
            refine lv_iload hx hb dX3_read_71 (lv_at hl 0 rfl) ?_
            refine vx_ret ?_
            refine W.widen (k := 2) (n := 12) (Nat.le_of_ble_eq_true rfl) (Nat.le_of_ble_eq_true rfl) ?_
            have hP9 := hP.sub (ws' := [(x, .inr (3, [.ref ks, .ref sh, .int (nI kc), .double kr])), (ks, .inl (cK, 4, .inr (.inr (.inr (.inr gk))))), (hk, .inr (0, [.ref rw, .ref rd, .double sp, .double st])), (rd, .inr (1, [.ref bf, .ref bg, .int (nI (n + 1))])), (bf, .inl (cD, 20, .inr (.inr (.inr (.inl (vf_upd B n b9)))))), (bg, .inl (cD, 20, .inr (.inr (.inr (.inl (vf_upd K n k9))))))]) [0, 1, 2, 3, 4, 5] rfl
            have hD9 := hD.sub (ws' := [(x, .inr (3, [.ref ks, .ref sh, .int (nI kc), .double kr])), (ks, .inl (cK, 4, .inr (.inr (.inr (.inr gk))))), (hk, .inr (0, [.ref rw, .ref rd, .double sp, .double st])), (rd, .inr (1, [.ref bf, .ref bg, .int (nI (n + 1))])), (bf, .inl (cD, 20, .inr (.inr (.inr (.inl (vf_upd B n b9)))))), (bg, .inl (cD, 20, .inr (.inr (.inr (.inl (vf_upd K n k9))))))]) [0, 1, 2, 3, 4, 5] (by decide) rfl
            exact W.iret hx hb hr (fun t9s hht hW9 => ⟨⟨nI (n + 1), (), rfl, ⟨rfl, by unfold cRd; (repeat' split) <;> omega⟩, ⟨by rw [hht]; exact hP9, hD9⟩⟩, hS.F hht⟩) hS.2.2 dX3_read_73
          · have c_58 := (z_eq (a := ((n + 1 : Nat) : Int)) (b := (-1 : Int)) (nI_toInt (by omega)) (by decide)).mp c_58
            exact absurd c_58 (by omega)
        · have hn9 : n = 20 := by omega
          have hPc := hP.sub (ws' := [(rd, .inr (1, [.ref bf, .ref bg, .int (nI n)])), (bf, .inl (cD, 20, .inr (.inr (.inr (.inl B))))), (bg, .inl (cD, 20, .inr (.inr (.inr (.inl K)))))]) [3, 4, 5] rfl
          have hKc := hK.sub (tys' := [(cD, .double)]) [0] rfl
          refine va_calli (va_runV (As := [.double b9, .double k9]) (rest := []) ⟨hx, hb, hml, hown, hts⟩ (m_X1_addFull l dC dI cD rd bf bg n 20 B K b9 k9 (by omega) (by omega)) (cwV 2 hts gX3_read_X1_add rfl rfl rfl (by decide +kernel) ⟨(Nat.le_of_ble_eq_true rfl), (Nat.le_of_ble_eq_true rfl)⟩) ⟨PK.blind, va_recv hKc hPc (ci := 1) (q0 := 0) rfl rfl, fun U9 hU9 hW9 => ⟨rfl, PK.at hPc hKc hN hU9 hW9⟩⟩ rfl rfl hl.1 rfl (lv_room (Nat.le_of_ble_eq_true rfl)) dX3_read_50 ⟨(Nat.le_of_ble_eq_true rfl), (Nat.le_of_ble_eq_true rfl)⟩) hS (fun q _ h => h.elim) (fun q h => h.elim) (fun r_101 u9s t9s H1 locs hht hvm9 hw_50_k_100 hB hz1 hk1 hS => ?_)
          have hP := va_still hP hk1
          generalize H1 = H at hP hS ⊢
          subst hw_50_k_100
          refine lv_istore (lv' := [(7, .int (-1)), (6, .ref hk), (0, .ref x), (1, .int kd), (2, .double b9), (4, .double k9)]) hx hb dX3_read_53 hl (by decide) rfl (fun ls hl => ?_)
          refine lv_iload hx hb dX3_read_55 (lv_at hl 0 rfl) ?_
          refine lv_iconst (v := -1) hx hb dX3_read_57 (by decide) ?_
          refine lv_icmp_ne (tgt := 71) hx hb dX3_read_58 (by decide) (fun c_58 => ?_) (fun c_58 => ?_)
          · have c_58 := mt (z_eq (a := (-1 : Int)) (b := (-1 : Int)) (by decide) (by decide)).mpr c_58
            exact absurd rfl c_58
          · have c_58 := (z_eq (a := (-1 : Int)) (b := (-1 : Int)) (by decide) (by decide)).mp c_58
            exact vx_throwS hx hb hl9 (own := RX3) (cls := "java/lang/IllegalStateException") (text := "the kind has no room for a reading more") (names := ["java/lang/RuntimeException", "java/lang/Exception"]) (ik := 66) (is := 94) (ic := 70) (sa := sa 94) (A := fun _ => False) hown (by decide +kernel) (by decide +kernel) (hts (.classLink RX3 66 "java/lang/IllegalStateException") (by decide +kernel)) (hts (.initialized "java/lang/IllegalStateException") (by decide +kernel)) (hX.str 6 rfl) (vx_hat (fun w h => hts w (xin_X3_read_70 w h)) (by decide +kernel) (vx_c (va_Nw.use rfl (hN.c 1 rfl)) (vx_c (va_Nw.use rfl (hN.c 3 rfl)) (vx_c (va_Nw.use rfl (hN.c 4 rfl)) (vx_c (va_Nw.use rfl (hN.c 5 rfl)) vx_n))))) (by decide +kernel) hX.1 hX.2.1 hS (by rw [hml]; exact hl.1) dX3_read_61 dX3_read_64 dX3_read_65 dX3_read_67 dX3_read_70 (hout9 _) (Nat.le_of_ble_eq_true rfl) (Nat.le_of_ble_eq_true rfl) (Nat.le_of_ble_eq_true rfl) (Nat.le_of_ble_eq_true rfl) hlocks (fun t9s _ h8 h9 => ⟨(), trivial, Or.inr (Or.inr (⟨rfl, (by unfold cRd; (repeat' split) <;> omega)⟩)), thrF hS h8 h9⟩) (fun z hz => (hS.2.2 z hz).elim) (Nat.le_of_ble_eq_true rfl) (Nat.le_of_ble_eq_true rfl)
      · have c_29 := (b01 hw_26_k_96).mp c_29
        exact vx_throwS hx hb hl9 (own := RX3) (cls := "java/lang/IllegalArgumentException") (text := "bent or kept is not as said") (names := ["java/lang/RuntimeException", "java/lang/Exception"]) (ik := 49) (is := 89) (ic := 53) (sa := sa 89) (A := fun _ => False) hown (by decide +kernel) (by decide +kernel) (hts (.classLink RX3 49 "java/lang/IllegalArgumentException") (by decide +kernel)) (hts (.initialized "java/lang/IllegalArgumentException") (by decide +kernel)) (hX.str 5 rfl) (vx_hat (fun w h => hts w (xin_X3_read_53 w h)) (by decide +kernel) (vx_c (va_Nw.use rfl (hN.c 0 rfl)) (vx_c (va_Nw.use rfl (hN.c 3 rfl)) (vx_c (va_Nw.use rfl (hN.c 4 rfl)) (vx_c (va_Nw.use rfl (hN.c 5 rfl)) vx_n))))) (by decide +kernel) hX.1 hX.2.1 hS (by rw [hml]; exact hl.1) dX3_read_32 dX3_read_35 dX3_read_36 dX3_read_38 dX3_read_41 (hout9 _) (Nat.le_of_ble_eq_true rfl) (Nat.le_of_ble_eq_true rfl) (Nat.le_of_ble_eq_true rfl) (Nat.le_of_ble_eq_true rfl) hlocks (fun t9s _ h8 h9 => ⟨(), trivial, Or.inr (Or.inl (⟨rfl, (by unfold cRd; (repeat' split) <;> omega)⟩)), thrF hS h8 h9⟩) (fun z hz => (hS.2.2 z hz).elim) (Nat.le_of_ble_eq_true rfl) (Nat.le_of_ble_eq_true rfl)

set_option maxHeartbeats 4000000 in
set_option maxRecDepth 100000 in
theorem m_X3_piece (l : Launch) (hl9 : l.stackTraces = false) (dC : Nat → ClassId) (dI : Nat → Nat → Nat) (sz : Nat) (sa : Nat → Nat) (cD : ClassId) (x ks sh : Nat) (kc : Nat) (kr : UInt64) (pc tf tg : Nat) (n : Nat) (L D : Nat → UInt64) (len d : UInt64) (hlen : dB 1060 len) (hd9 : dB 1060 d) (hpc : piecesOK L D n) : vx_Met l yX3_piece wsX3_piece ({ frames := 6, cells := 1, slots := 6, locals := 82 } : Room) (va_Pc [.ref x, .double len, .double d] (PT (dC, dI) [(cD, .double)] [(x, .inr (3, [.ref ks, .ref sh, .int (nI kc), .double kr])), (sh, .inr (2, [.ref pc])), (pc, .inr (1, [.ref tf, .ref tg, .int (nI n)])), (tf, .inl (cD, 12, .inr (.inr (.inr (.inl L))))), (tg, .inl (cD, 12, .inr (.inr (.inr (.inl D)))))] sz sa)) (va_Qi (fun (r : Int32) (u : Unit) => r = nI (n + 1) ∧ cPc len d n = 0) (fun (u : Unit) => QW (dC, dI) [(x, .inr (3, [.ref ks, .ref sh, .int (nI kc), .double kr])), (sh, .inr (2, [.ref pc])), (pc, .inr (1, [.ref tf, .ref tg, .int (nI (n + 1))])), (tf, .inl (cD, 12, .inr (.inr (.inr (.inl (vf_upd L n len)))))), (tg, .inl (cD, 12, .inr (.inr (.inr (.inl (vf_upd D n d))))))] (va_A [(x, .inr (3, [.ref ks, .ref sh, .int (nI kc), .double kr])), (sh, .inr (2, [.ref pc])), (pc, .inr (1, [.ref tf, .ref tg, .int (nI n)])), (tf, .inl (cD, 12, .inr (.inr (.inr (.inl L))))), (tg, .inl (cD, 12, .inr (.inr (.inr (.inl D)))))] sz)) (va_A [(x, .inr (3, [.ref ks, .ref sh, .int (nI kc), .double kr])), (sh, .inr (2, [.ref pc])), (pc, .inr (1, [.ref tf, .ref tg, .int (nI n)])), (tf, .inl (cD, 12, .inr (.inr (.inr (.inl L))))), (tg, .inl (cD, 12, .inr (.inr (.inr (.inl D)))))] sz)) (vx_X (fun _ : Unit => True) (fun E _ _ => (E = eIA ∧ cPc len d n = 1) ∨ (E = eIS ∧ cPc len d n = 2)) (fun _ => False)) 1 6 (va_A [(x, .inr (3, [.ref ks, .ref sh, .int (nI kc), .double kr])), (sh, .inr (2, [.ref pc])), (pc, .inr (1, [.ref tf, .ref tg, .int (nI n)])), (tf, .inl (cD, 12, .inr (.inr (.inr (.inl L))))), (tg, .inl (cD, 12, .inr (.inr (.inr (.inl D)))))] sz) := by
  refine vx_ofW (cc := cX3_piece) (maxL := 6) (ret := (some .int)) (by decide) rfl ?_
  intro p e s m args below meth c s₁ BB hml hex9 hv
  obtain ⟨rfl, ⟨hsz, hP, hK, hD0, hN⟩, hX⟩ := hv
  have hx := BB.exec
  have hb := BB.bytes
  have hr := BB.returns
  have hts := atoms_spec (ws := wsX3_piece) BB.pre
  have hown : s.vm.findClass RX3 = some m.cls := findClass_of_methodNamed BB.named
  have hlocks := BB.notSynchronized
  have hout9 : ∀ (pc : Nat) (x : ExceptionTableEntry), x ∈ c.exceptionTable.toList → covers x pc = false := fun pc x h => (hex9 x h).elim
  subst hsz
  have hD := hD0.self (sz := s.heap.size)
  generalize hAe : va_A [(x, .inr (3, [.ref ks, .ref sh, .int (nI kc), .double kr])), (sh, .inr (2, [.ref pc])), (pc, .inr (1, [.ref tf, .ref tg, .int (nI n)])), (tf, .inl (cD, 12, .inr (.inr (.inr (.inl L))))), (tg, .inl (cD, 12, .inr (.inr (.inr (.inl D)))))] s.heap.size = A at hD ⊢
  have hA : ∀ q : Nat, s.heap.size ≤ q → A q := fun q h => by rw [← hAe]; exact Or.inr h
  have hS : va_S (fun _ => False) s.heap s.heap [] := va_S.rf
  have hP : va_P (dC, dI) vwCl [(x, .inr (3, [.ref ks, .ref sh, .int (nI kc), .double kr])), (sh, .inr (2, [.ref pc])), (pc, .inr (1, [.ref tf, .ref tg, .int (nI n)])), (tf, .inl (cD, 12, .inr (.inr (.inr (.inl L))))), (tg, .inl (cD, 12, .inr (.inr (.inr (.inl D)))))] s.heap := hP
  have hl := lv_entry ([.ref x, .double len, .double d]) (n := 6) (Nat.le_of_ble_eq_true rfl)
  rw [lg_entry_eq]
  generalize (lg_sl ([.ref x, .double len, .double d]) ++ List.replicate (6 - (lg_sl ([.ref x, .double len, .double d])).length) Slot.unset).toArray = ls at hl ⊢
  have hl : lv_has ls 6 [(0, .ref x), (1, .double len), (3, .double d)] := hl
  have hn12 := hpc.1
  refine lv_dload_n hx hb dX3_piece_0 rfl (lv_at hl 1 rfl) ?_
  refine lv_dconst0 hx hb dX3_piece_1 ?_
  refine lv_ldc2d (v := 4666723172467343360) hx hb hown (hts (.constantDouble RX3 43 (4666723172467343360)) (by decide +kernel)) dX3_piece_2 ?_
  refine va_calli (va_runS (As := [.double len, .double FP.dconst0, .double 4666723172467343360]) (rest := []) ⟨hx, hb, hml, hown, hts⟩ (m_X3_isWithin l len FP.dconst0 4666723172467343360 (hlen.nn (by omega)) (dB_d0.nn (by omega)) ((by unfold dB; decide +kernel : dB 1037 4666723172467343360).nn (by omega))) (va_cwS 3 hts gX3_piece_X3_isWithin rfl rfl rfl (by decide +kernel) ⟨(Nat.le_of_ble_eq_true rfl), (Nat.le_of_ble_eq_true rfl)⟩) ⟨fun a U g mk q => q, fun U9 hU9 hW9 => ⟨rfl, trivial⟩⟩ rfl rfl hl.1 rfl (lv_room (Nat.le_of_ble_eq_true rfl)) dX3_piece_5 ⟨(Nat.le_of_ble_eq_true rfl), (Nat.le_of_ble_eq_true rfl)⟩) hS (fun q _ h => h.elim) (fun q h => h.elim) (fun r_103 u9s t9s H1 locs hht hvm9 hw_5_k_102 hB hz1 hk1 hS => ?_)
  have hP := va_still hP hk1
  generalize H1 = H at hP hS ⊢
  refine lv_if_eq (tgt := 28) hx hb dX3_piece_8 (by decide) (fun c_8 => ?_) (fun c_8 => ?_)
  · have c_8 := (b01 hw_5_k_102).mp c_8
    exact vx_throwS hx hb hl9 (own := RX3) (cls := "java/lang/IllegalArgumentException") (text := "length or radius is not as said") (names := ["java/lang/RuntimeException", "java/lang/Exception"]) (ik := 49) (is := 127) (ic := 53) (sa := sa 127) (A := fun _ => False) hown (by decide +kernel) (by decide +kernel) (hts (.classLink RX3 49 "java/lang/IllegalArgumentException") (by decide +kernel)) (hts (.initialized "java/lang/IllegalArgumentException") (by decide +kernel)) (hX.str 10 rfl) (vx_hat (fun w h => hts w (xin_X3_piece_53 w h)) (by decide +kernel) (vx_c (va_Nw.use rfl (hN.c 0 rfl)) (vx_c (va_Nw.use rfl (hN.c 3 rfl)) (vx_c (va_Nw.use rfl (hN.c 4 rfl)) (vx_c (va_Nw.use rfl (hN.c 5 rfl)) vx_n))))) (by decide +kernel) hX.1 hX.2.1 hS (by rw [hml]; exact hl.1) dX3_piece_28 dX3_piece_31 dX3_piece_32 dX3_piece_34 dX3_piece_37 (hout9 _) (Nat.le_of_ble_eq_true rfl) (Nat.le_of_ble_eq_true rfl) (Nat.le_of_ble_eq_true rfl) (Nat.le_of_ble_eq_true rfl) hlocks (fun t9s _ h8 h9 => ⟨(), trivial, Or.inl (⟨rfl, (by unfold cPc; (repeat' split) <;> omega)⟩), thrF hS h8 h9⟩) (fun z hz => (hS.2.2 z hz).elim) (Nat.le_of_ble_eq_true rfl) (Nat.le_of_ble_eq_true rfl)
  · have c_8 := (b01n hw_5_k_102).mp c_8
    refine lv_dload_n hx hb dX3_piece_11 rfl (lv_at hl 2 rfl) ?_
    refine lv_dconst0 hx hb dX3_piece_12 ?_
    refine lv_dcmp hx hb dX3_piece_13 ?_
    refine lv_if_eq (tgt := 38) hx hb dX3_piece_14 (by decide) (fun c_14 => ?_) (fun c_14 => ?_)
    · have c_14 := (cv_eq (hd9.nn (by omega)) (dB_d0.nn (by omega))).mp c_14
      refine lv_aload_n hx hb dX3_piece_38 rfl (lv_at hl 0 rfl) ?_
      refine va_get (D := (dC, dI)) (ci := 3) (v := .ref sh) (C := RX3) (T := TX3) (N := 4) hx hb hts (by decide +kernel) hown hK hP 0 rfl rfl 1 (by decide) (hts (.fieldLink RX3 18 "SteamBends" "shape" "LSteamBends$Shape;") (by decide +kernel)) (fun _ h9 => h9) rfl dX3_piece_39 ?_
      refine va_getN (D := (dC, dI)) (ci := 2) (v := .ref pc) (C := RX2) (T := TX2) (N := 1) (host := "SteamBends") hx hb hts (by decide +kernel) hown hK hP 1 rfl rfl 0 (by decide) (va_Nw.use rfl (hN.f 2 rfl)) (fun _ h9 => h9) rfl dX3_piece_42 ?_
      refine lv_dload_n hx hb dX3_piece_45 rfl (lv_at hl 1 rfl) ?_
      refine lv_dload_n hx hb dX3_piece_46 rfl (lv_at hl 2 rfl) ?_
      rcases Nat.lt_or_ge n 12 with hn9 | hn9
      · have hS : va_S A s.heap H locs := hS.up noA
        have hPc := hP.sub (ws' := [(pc, .inr (1, [.ref tf, .ref tg, .int (nI n)])), (tf, .inl (cD, 12, .inr (.inr (.inr (.inl L))))), (tg, .inl (cD, 12, .inr (.inr (.inr (.inl D)))))]) [2, 3, 4] rfl
        have hKc := hK.sub (tys' := [(cD, .double)]) [0] rfl
        have hDc := hD.sub (ws' := [(pc, .inr (1, [.ref tf, .ref tg, .int (nI n)])), (tf, .inl (cD, 12, .inr (.inr (.inr (.inl L))))), (tg, .inl (cD, 12, .inr (.inr (.inr (.inl D)))))]) [2, 3, 4] (by decide) rfl
        have hFc := va_free (wc := [(pc, .inr (1, [.ref tf, .ref tg, .int (nI n)])), (tf, .inl (cD, 12, .inr (.inr (.inr (.inl L))))), (tg, .inl (cD, 12, .inr (.inr (.inr (.inl D)))))]) hD hS hA [2, 3, 4] rfl
        refine va_calli (va_runV (As := [.double len, .double d]) (rest := []) ⟨hx, hb, hml, hown, hts⟩ (m_X1_add l dC dI H.size cD pc tf tg n 12 L D len d (by omega) (by omega)) (cwV 2 hts gX3_piece_X1_add rfl rfl rfl (by decide +kernel) ⟨(Nat.le_of_ble_eq_true rfl), (Nat.le_of_ble_eq_true rfl)⟩) ⟨PW.blind, va_recv hKc hPc (ci := 1) (q0 := 0) rfl rfl, fun U9 hU9 hW9 => ⟨rfl, PW.at hPc hKc hDc hN hU9 hW9⟩⟩ rfl rfl hl.1 rfl (lv_room (Nat.le_of_ble_eq_true rfl)) dX3_piece_47 ⟨(Nat.le_of_ble_eq_true rfl), (Nat.le_of_ble_eq_true rfl)⟩) hS (fun q _ h => hFc q h) hFc (fun r_105 u9s t9s H1 locs hht hvm9 hw_47_k_104 hB hz1 hk1 hS => ?_)
        obtain ⟨hP1, hD1⟩ := hB
        rw [hht] at hP1
        obtain ⟨hP, hD⟩ := va_join (wr := [(x, .inr (3, [.ref ks, .ref sh, .int (nI kc), .double kr])), (sh, .inr (2, [.ref pc]))]) (w1 := [(pc, .inr (1, [.ref tf, .ref tg, .int (nI (n + 1))])), (tf, .inl (cD, 12, .inr (.inr (.inr (.inl (vf_upd L n len)))))), (tg, .inl (cD, 12, .inr (.inr (.inr (.inl (vf_upd D n d))))))]) hP hD [2, 3, 4] [0, 1] rfl rfl (by decide) (by decide) hk1 hFc hP1 hD1
        generalize H1 = H at hP hS ⊢
        have hP : va_P (dC, dI) vwCl [(x, .inr (3, [.ref ks, .ref sh, .int (nI kc), .double kr])), (sh, .inr (2, [.ref pc])), (pc, .inr (1, [.ref tf, .ref tg, .int (nI (n + 1))])), (tf, .inl (cD, 12, .inr (.inr (.inr (.inl (vf_upd L n len)))))), (tg, .inl (cD, 12, .inr (.inr (.inr (.inl (vf_upd D n d))))))] H := hP
        have hD : va_D A [(x, .inr (3, [.ref ks, .ref sh, .int (nI kc), .double kr])), (sh, .inr (2, [.ref pc])), (pc, .inr (1, [.ref tf, .ref tg, .int (nI (n + 1))])), (tf, .inl (cD, 12, .inr (.inr (.inr (.inl (vf_upd L n len)))))), (tg, .inl (cD, 12, .inr (.inr (.inr (.inl (vf_upd D n d))))))] := hD
        subst hw_47_k_104
        refine lv_istore (lv' := [(5, .int (nI (n + 1))), (0, .ref x), (1, .double len), (3, .double d)]) hx hb dX3_piece_50 hl (by decide) rfl (fun ls hl => ?_)
        refine lv_iload hx hb dX3_piece_52 (lv_at hl 0 rfl) ?_
        refine lv_iconst (v := -1) hx hb dX3_piece_54 (by decide) ?_
        refine lv_icmp_ne (tgt := 68) hx hb dX3_piece_55 (by decide) (fun c_55 => ?_) (fun c_55 => ?_)
        · have c_55 := mt (z_eq (a := ((n + 1 : Nat) : Int)) (b := (-1 : Int)) (nI_toInt (by omega)) (by decide)).mpr c_55
          refine lv_iload hx hb dX3_piece_68 (lv_at hl 0 rfl) ?_
          refine vx_ret ?_
          refine W.widen (k := 1) (n := 6) (Nat.le_of_ble_eq_true rfl) (Nat.le_of_ble_eq_true rfl) ?_
          have hP9 := hP.sub (ws' := [(x, .inr (3, [.ref ks, .ref sh, .int (nI kc), .double kr])), (sh, .inr (2, [.ref pc])), (pc, .inr (1, [.ref tf, .ref tg, .int (nI (n + 1))])), (tf, .inl (cD, 12, .inr (.inr (.inr (.inl (vf_upd L n len)))))), (tg, .inl (cD, 12, .inr (.inr (.inr (.inl (vf_upd D n d))))))]) [0, 1, 2, 3, 4] rfl
          have hD9 := hD.sub (ws' := [(x, .inr (3, [.ref ks, .ref sh, .int (nI kc), .double kr])), (sh, .inr (2, [.ref pc])), (pc, .inr (1, [.ref tf, .ref tg, .int (nI (n + 1))])), (tf, .inl (cD, 12, .inr (.inr (.inr (.inl (vf_upd L n len)))))), (tg, .inl (cD, 12, .inr (.inr (.inr (.inl (vf_upd D n d))))))]) [0, 1, 2, 3, 4] (by decide) rfl
          exact W.iret hx hb hr (fun t9s hht hW9 => ⟨⟨nI (n + 1), (), rfl, ⟨rfl, by unfold cPc; (repeat' split) <;> omega⟩, ⟨by rw [hht]; exact hP9, hD9⟩⟩, hS.F hht⟩) hS.2.2 dX3_piece_70
        · have c_55 := (z_eq (a := ((n + 1 : Nat) : Int)) (b := (-1 : Int)) (nI_toInt (by omega)) (by decide)).mp c_55
          exact absurd c_55 (by omega)
      · have hn9 : n = 12 := by omega
        have hPc := hP.sub (ws' := [(pc, .inr (1, [.ref tf, .ref tg, .int (nI n)])), (tf, .inl (cD, 12, .inr (.inr (.inr (.inl L))))), (tg, .inl (cD, 12, .inr (.inr (.inr (.inl D)))))]) [2, 3, 4] rfl
        have hKc := hK.sub (tys' := [(cD, .double)]) [0] rfl
        refine va_calli (va_runV (As := [.double len, .double d]) (rest := []) ⟨hx, hb, hml, hown, hts⟩ (m_X1_addFull l dC dI cD pc tf tg n 12 L D len d (by omega) (by omega)) (cwV 2 hts gX3_piece_X1_add rfl rfl rfl (by decide +kernel) ⟨(Nat.le_of_ble_eq_true rfl), (Nat.le_of_ble_eq_true rfl)⟩) ⟨PK.blind, va_recv hKc hPc (ci := 1) (q0 := 0) rfl rfl, fun U9 hU9 hW9 => ⟨rfl, PK.at hPc hKc hN hU9 hW9⟩⟩ rfl rfl hl.1 rfl (lv_room (Nat.le_of_ble_eq_true rfl)) dX3_piece_47 ⟨(Nat.le_of_ble_eq_true rfl), (Nat.le_of_ble_eq_true rfl)⟩) hS (fun q _ h => h.elim) (fun q h => h.elim) (fun r_107 u9s t9s H1 locs hht hvm9 hw_47_k_106 hB hz1 hk1 hS => ?_)
        have hP := va_still hP hk1
        generalize H1 = H at hP hS ⊢
        subst hw_47_k_106
        refine lv_istore (lv' := [(5, .int (-1)), (0, .ref x), (1, .double len), (3, .double d)]) hx hb dX3_piece_50 hl (by decide) rfl (fun ls hl => ?_)
        refine lv_iload hx hb dX3_piece_52 (lv_at hl 0 rfl) ?_
        refine lv_iconst (v := -1) hx hb dX3_piece_54 (by decide) ?_
        refine lv_icmp_ne (tgt := 68) hx hb dX3_piece_55 (by decide) (fun c_55 => ?_) (fun c_55 => ?_)
        · have c_55 := mt (z_eq (a := (-1 : Int)) (b := (-1 : Int)) (by decide) (by decide)).mpr c_55
          exact absurd rfl c_55
        · have c_55 := (z_eq (a := (-1 : Int)) (b := (-1 : Int)) (by decide) (by decide)).mp c_55
          exact vx_throwS hx hb hl9 (own := RX3) (cls := "java/lang/IllegalStateException") (text := "the shape has no room for a piece more") (names := ["java/lang/RuntimeException", "java/lang/Exception"]) (ik := 66) (is := 132) (ic := 70) (sa := sa 132) (A := fun _ => False) hown (by decide +kernel) (by decide +kernel) (hts (.classLink RX3 66 "java/lang/IllegalStateException") (by decide +kernel)) (hts (.initialized "java/lang/IllegalStateException") (by decide +kernel)) (hX.str 11 rfl) (vx_hat (fun w h => hts w (xin_X3_piece_70 w h)) (by decide +kernel) (vx_c (va_Nw.use rfl (hN.c 1 rfl)) (vx_c (va_Nw.use rfl (hN.c 3 rfl)) (vx_c (va_Nw.use rfl (hN.c 4 rfl)) (vx_c (va_Nw.use rfl (hN.c 5 rfl)) vx_n))))) (by decide +kernel) hX.1 hX.2.1 hS (by rw [hml]; exact hl.1) dX3_piece_58 dX3_piece_61 dX3_piece_62 dX3_piece_64 dX3_piece_67 (hout9 _) (Nat.le_of_ble_eq_true rfl) (Nat.le_of_ble_eq_true rfl) (Nat.le_of_ble_eq_true rfl) (Nat.le_of_ble_eq_true rfl) hlocks (fun t9s _ h8 h9 => ⟨(), trivial, Or.inr (⟨rfl, (by unfold cPc; (repeat' split) <;> omega)⟩), thrF hS h8 h9⟩) (fun z hz => (hS.2.2 z hz).elim) (Nat.le_of_ble_eq_true rfl) (Nat.le_of_ble_eq_true rfl)
    · have c_14 := mt (cv_eq (hd9.nn (by omega)) (dB_d0.nn (by omega))).mpr c_14
      refine lv_dload_n hx hb dX3_piece_17 rfl (lv_at hl 2 rfl) ?_
      refine lv_dconst1 hx hb dX3_piece_18 ?_
      refine lv_ldc2d (v := 4666723172467343360) hx hb hown (hts (.constantDouble RX3 43 (4666723172467343360)) (by decide +kernel)) dX3_piece_19 ?_
      refine va_calli (va_runS (As := [.double d, .double FP.dconst1, .double 4666723172467343360]) (rest := []) ⟨hx, hb, hml, hown, hts⟩ (m_X3_isWithin l d FP.dconst1 4666723172467343360 (hd9.nn (by omega)) (dB_d1.nn (by omega)) ((by unfold dB; decide +kernel : dB 1037 4666723172467343360).nn (by omega))) (va_cwS 3 hts gX3_piece_X3_isWithin rfl rfl rfl (by decide +kernel) ⟨(Nat.le_of_ble_eq_true rfl), (Nat.le_of_ble_eq_true rfl)⟩) ⟨fun a U g mk q => q, fun U9 hU9 hW9 => ⟨rfl, trivial⟩⟩ rfl rfl hl.1 rfl (lv_room (Nat.le_of_ble_eq_true rfl)) dX3_piece_22 ⟨(Nat.le_of_ble_eq_true rfl), (Nat.le_of_ble_eq_true rfl)⟩) hS (fun q _ h => h.elim) (fun q h => h.elim) (fun r_109 u9s t9s H1 locs hht hvm9 hw_22_k_108 hB hz1 hk1 hS => ?_)
      have hP := va_still hP hk1
      generalize H1 = H at hP hS ⊢
      refine lv_if_ne (tgt := 38) hx hb dX3_piece_25 (by decide) (fun c_25 => ?_) (fun c_25 => ?_)
      · have c_25 := (b01n hw_22_k_108).mp c_25
        refine lv_aload_n hx hb dX3_piece_38 rfl (lv_at hl 0 rfl) ?_
        refine va_get (D := (dC, dI)) (ci := 3) (v := .ref sh) (C := RX3) (T := TX3) (N := 4) hx hb hts (by decide +kernel) hown hK hP 0 rfl rfl 1 (by decide) (hts (.fieldLink RX3 18 "SteamBends" "shape" "LSteamBends$Shape;") (by decide +kernel)) (fun _ h9 => h9) rfl dX3_piece_39 ?_
        refine va_getN (D := (dC, dI)) (ci := 2) (v := .ref pc) (C := RX2) (T := TX2) (N := 1) (host := "SteamBends") hx hb hts (by decide +kernel) hown hK hP 1 rfl rfl 0 (by decide) (va_Nw.use rfl (hN.f 2 rfl)) (fun _ h9 => h9) rfl dX3_piece_42 ?_
        refine lv_dload_n hx hb dX3_piece_45 rfl (lv_at hl 1 rfl) ?_
        refine lv_dload_n hx hb dX3_piece_46 rfl (lv_at hl 2 rfl) ?_
        rcases Nat.lt_or_ge n 12 with hn9 | hn9
        · have hS : va_S A s.heap H locs := hS.up noA
          have hPc := hP.sub (ws' := [(pc, .inr (1, [.ref tf, .ref tg, .int (nI n)])), (tf, .inl (cD, 12, .inr (.inr (.inr (.inl L))))), (tg, .inl (cD, 12, .inr (.inr (.inr (.inl D)))))]) [2, 3, 4] rfl
          have hKc := hK.sub (tys' := [(cD, .double)]) [0] rfl
          have hDc := hD.sub (ws' := [(pc, .inr (1, [.ref tf, .ref tg, .int (nI n)])), (tf, .inl (cD, 12, .inr (.inr (.inr (.inl L))))), (tg, .inl (cD, 12, .inr (.inr (.inr (.inl D)))))]) [2, 3, 4] (by decide) rfl
          have hFc := va_free (wc := [(pc, .inr (1, [.ref tf, .ref tg, .int (nI n)])), (tf, .inl (cD, 12, .inr (.inr (.inr (.inl L))))), (tg, .inl (cD, 12, .inr (.inr (.inr (.inl D)))))]) hD hS hA [2, 3, 4] rfl
          refine va_calli (va_runV (As := [.double len, .double d]) (rest := []) ⟨hx, hb, hml, hown, hts⟩ (m_X1_add l dC dI H.size cD pc tf tg n 12 L D len d (by omega) (by omega)) (cwV 2 hts gX3_piece_X1_add rfl rfl rfl (by decide +kernel) ⟨(Nat.le_of_ble_eq_true rfl), (Nat.le_of_ble_eq_true rfl)⟩) ⟨PW.blind, va_recv hKc hPc (ci := 1) (q0 := 0) rfl rfl, fun U9 hU9 hW9 => ⟨rfl, PW.at hPc hKc hDc hN hU9 hW9⟩⟩ rfl rfl hl.1 rfl (lv_room (Nat.le_of_ble_eq_true rfl)) dX3_piece_47 ⟨(Nat.le_of_ble_eq_true rfl), (Nat.le_of_ble_eq_true rfl)⟩) hS (fun q _ h => hFc q h) hFc (fun r_111 u9s t9s H1 locs hht hvm9 hw_47_k_110 hB hz1 hk1 hS => ?_)
          obtain ⟨hP1, hD1⟩ := hB
          rw [hht] at hP1
          obtain ⟨hP, hD⟩ := va_join (wr := [(x, .inr (3, [.ref ks, .ref sh, .int (nI kc), .double kr])), (sh, .inr (2, [.ref pc]))]) (w1 := [(pc, .inr (1, [.ref tf, .ref tg, .int (nI (n + 1))])), (tf, .inl (cD, 12, .inr (.inr (.inr (.inl (vf_upd L n len)))))), (tg, .inl (cD, 12, .inr (.inr (.inr (.inl (vf_upd D n d))))))]) hP hD [2, 3, 4] [0, 1] rfl rfl (by decide) (by decide) hk1 hFc hP1 hD1
          generalize H1 = H at hP hS ⊢
          have hP : va_P (dC, dI) vwCl [(x, .inr (3, [.ref ks, .ref sh, .int (nI kc), .double kr])), (sh, .inr (2, [.ref pc])), (pc, .inr (1, [.ref tf, .ref tg, .int (nI (n + 1))])), (tf, .inl (cD, 12, .inr (.inr (.inr (.inl (vf_upd L n len)))))), (tg, .inl (cD, 12, .inr (.inr (.inr (.inl (vf_upd D n d))))))] H := hP
          have hD : va_D A [(x, .inr (3, [.ref ks, .ref sh, .int (nI kc), .double kr])), (sh, .inr (2, [.ref pc])), (pc, .inr (1, [.ref tf, .ref tg, .int (nI (n + 1))])), (tf, .inl (cD, 12, .inr (.inr (.inr (.inl (vf_upd L n len)))))), (tg, .inl (cD, 12, .inr (.inr (.inr (.inl (vf_upd D n d))))))] := hD
          subst hw_47_k_110
          refine lv_istore (lv' := [(5, .int (nI (n + 1))), (0, .ref x), (1, .double len), (3, .double d)]) hx hb dX3_piece_50 hl (by decide) rfl (fun ls hl => ?_)
          refine lv_iload hx hb dX3_piece_52 (lv_at hl 0 rfl) ?_
          refine lv_iconst (v := -1) hx hb dX3_piece_54 (by decide) ?_
          refine lv_icmp_ne (tgt := 68) hx hb dX3_piece_55 (by decide) (fun c_55 => ?_) (fun c_55 => ?_)
          · have c_55 := mt (z_eq (a := ((n + 1 : Nat) : Int)) (b := (-1 : Int)) (nI_toInt (by omega)) (by decide)).mpr c_55
            refine lv_iload hx hb dX3_piece_68 (lv_at hl 0 rfl) ?_
            refine vx_ret ?_
            refine W.widen (k := 1) (n := 6) (Nat.le_of_ble_eq_true rfl) (Nat.le_of_ble_eq_true rfl) ?_
            have hP9 := hP.sub (ws' := [(x, .inr (3, [.ref ks, .ref sh, .int (nI kc), .double kr])), (sh, .inr (2, [.ref pc])), (pc, .inr (1, [.ref tf, .ref tg, .int (nI (n + 1))])), (tf, .inl (cD, 12, .inr (.inr (.inr (.inl (vf_upd L n len)))))), (tg, .inl (cD, 12, .inr (.inr (.inr (.inl (vf_upd D n d))))))]) [0, 1, 2, 3, 4] rfl
            have hD9 := hD.sub (ws' := [(x, .inr (3, [.ref ks, .ref sh, .int (nI kc), .double kr])), (sh, .inr (2, [.ref pc])), (pc, .inr (1, [.ref tf, .ref tg, .int (nI (n + 1))])), (tf, .inl (cD, 12, .inr (.inr (.inr (.inl (vf_upd L n len)))))), (tg, .inl (cD, 12, .inr (.inr (.inr (.inl (vf_upd D n d))))))]) [0, 1, 2, 3, 4] (by decide) rfl
            exact W.iret hx hb hr (fun t9s hht hW9 => ⟨⟨nI (n + 1), (), rfl, ⟨rfl, by unfold cPc; (repeat' split) <;> omega⟩, ⟨by rw [hht]; exact hP9, hD9⟩⟩, hS.F hht⟩) hS.2.2 dX3_piece_70
          · have c_55 := (z_eq (a := ((n + 1 : Nat) : Int)) (b := (-1 : Int)) (nI_toInt (by omega)) (by decide)).mp c_55
            exact absurd c_55 (by omega)
        · have hn9 : n = 12 := by omega
          have hPc := hP.sub (ws' := [(pc, .inr (1, [.ref tf, .ref tg, .int (nI n)])), (tf, .inl (cD, 12, .inr (.inr (.inr (.inl L))))), (tg, .inl (cD, 12, .inr (.inr (.inr (.inl D)))))]) [2, 3, 4] rfl
          have hKc := hK.sub (tys' := [(cD, .double)]) [0] rfl
          refine va_calli (va_runV (As := [.double len, .double d]) (rest := []) ⟨hx, hb, hml, hown, hts⟩ (m_X1_addFull l dC dI cD pc tf tg n 12 L D len d (by omega) (by omega)) (cwV 2 hts gX3_piece_X1_add rfl rfl rfl (by decide +kernel) ⟨(Nat.le_of_ble_eq_true rfl), (Nat.le_of_ble_eq_true rfl)⟩) ⟨PK.blind, va_recv hKc hPc (ci := 1) (q0 := 0) rfl rfl, fun U9 hU9 hW9 => ⟨rfl, PK.at hPc hKc hN hU9 hW9⟩⟩ rfl rfl hl.1 rfl (lv_room (Nat.le_of_ble_eq_true rfl)) dX3_piece_47 ⟨(Nat.le_of_ble_eq_true rfl), (Nat.le_of_ble_eq_true rfl)⟩) hS (fun q _ h => h.elim) (fun q h => h.elim) (fun r_113 u9s t9s H1 locs hht hvm9 hw_47_k_112 hB hz1 hk1 hS => ?_)
          have hP := va_still hP hk1
          generalize H1 = H at hP hS ⊢
          subst hw_47_k_112
          refine lv_istore (lv' := [(5, .int (-1)), (0, .ref x), (1, .double len), (3, .double d)]) hx hb dX3_piece_50 hl (by decide) rfl (fun ls hl => ?_)
          refine lv_iload hx hb dX3_piece_52 (lv_at hl 0 rfl) ?_
          refine lv_iconst (v := -1) hx hb dX3_piece_54 (by decide) ?_
          refine lv_icmp_ne (tgt := 68) hx hb dX3_piece_55 (by decide) (fun c_55 => ?_) (fun c_55 => ?_)
          · have c_55 := mt (z_eq (a := (-1 : Int)) (b := (-1 : Int)) (by decide) (by decide)).mpr c_55
            exact absurd rfl c_55
          · have c_55 := (z_eq (a := (-1 : Int)) (b := (-1 : Int)) (by decide) (by decide)).mp c_55
            exact vx_throwS hx hb hl9 (own := RX3) (cls := "java/lang/IllegalStateException") (text := "the shape has no room for a piece more") (names := ["java/lang/RuntimeException", "java/lang/Exception"]) (ik := 66) (is := 132) (ic := 70) (sa := sa 132) (A := fun _ => False) hown (by decide +kernel) (by decide +kernel) (hts (.classLink RX3 66 "java/lang/IllegalStateException") (by decide +kernel)) (hts (.initialized "java/lang/IllegalStateException") (by decide +kernel)) (hX.str 11 rfl) (vx_hat (fun w h => hts w (xin_X3_piece_70 w h)) (by decide +kernel) (vx_c (va_Nw.use rfl (hN.c 1 rfl)) (vx_c (va_Nw.use rfl (hN.c 3 rfl)) (vx_c (va_Nw.use rfl (hN.c 4 rfl)) (vx_c (va_Nw.use rfl (hN.c 5 rfl)) vx_n))))) (by decide +kernel) hX.1 hX.2.1 hS (by rw [hml]; exact hl.1) dX3_piece_58 dX3_piece_61 dX3_piece_62 dX3_piece_64 dX3_piece_67 (hout9 _) (Nat.le_of_ble_eq_true rfl) (Nat.le_of_ble_eq_true rfl) (Nat.le_of_ble_eq_true rfl) (Nat.le_of_ble_eq_true rfl) hlocks (fun t9s _ h8 h9 => ⟨(), trivial, Or.inr (⟨rfl, (by unfold cPc; (repeat' split) <;> omega)⟩), thrF hS h8 h9⟩) (fun z hz => (hS.2.2 z hz).elim) (Nat.le_of_ble_eq_true rfl) (Nat.le_of_ble_eq_true rfl)
      · have c_25 := (b01 hw_22_k_108).mp c_25
        exact vx_throwS hx hb hl9 (own := RX3) (cls := "java/lang/IllegalArgumentException") (text := "length or radius is not as said") (names := ["java/lang/RuntimeException", "java/lang/Exception"]) (ik := 49) (is := 127) (ic := 53) (sa := sa 127) (A := fun _ => False) hown (by decide +kernel) (by decide +kernel) (hts (.classLink RX3 49 "java/lang/IllegalArgumentException") (by decide +kernel)) (hts (.initialized "java/lang/IllegalArgumentException") (by decide +kernel)) (hX.str 10 rfl) (vx_hat (fun w h => hts w (xin_X3_piece_53 w h)) (by decide +kernel) (vx_c (va_Nw.use rfl (hN.c 0 rfl)) (vx_c (va_Nw.use rfl (hN.c 3 rfl)) (vx_c (va_Nw.use rfl (hN.c 4 rfl)) (vx_c (va_Nw.use rfl (hN.c 5 rfl)) vx_n))))) (by decide +kernel) hX.1 hX.2.1 hS (by rw [hml]; exact hl.1) dX3_piece_28 dX3_piece_31 dX3_piece_32 dX3_piece_34 dX3_piece_37 (hout9 _) (Nat.le_of_ble_eq_true rfl) (Nat.le_of_ble_eq_true rfl) (Nat.le_of_ble_eq_true rfl) (Nat.le_of_ble_eq_true rfl) hlocks (fun t9s _ h8 h9 => ⟨(), trivial, Or.inl (⟨rfl, (by unfold cPc; (repeat' split) <;> omega)⟩), thrF hS h8 h9⟩) (fun z hz => (hS.2.2 z hz).elim) (Nat.le_of_ble_eq_true rfl) (Nat.le_of_ble_eq_true rfl)

set_option maxHeartbeats 4000000 in
set_option maxRecDepth 100000 in
theorem m_X3_radius (l : Launch) (hl9 : l.stackTraces = false) (dC : Nat → ClassId) (dI : Nat → Nat → Nat) (sz : Nat) (sa : Nat → Nat) (cD cK : ClassId) (x ks sh : Nat) (kc : Nat) (kr : UInt64) (gk : Nat → Option Nat) (rw rd : Nat) (sp st : UInt64) (tf tg : Nat) (n : Nat) (T R : Nat → UInt64) (kd : Int32) (j : Nat) (hj : j < 4) (hkj : kOK kd → kd = nI j) (hk : Nat) (hg : gk j = some hk) (t : UInt64) (ht : dB 1060 t) (hrow : rowsOK T R n) : vx_Met l yX3_radius wsX3_radius ({ frames := 7, cells := 2, slots := 12, locals := 104 } : Room) (va_Pc [.ref x, .int kd, .double t] (PT (dC, dI) [(cD, .double), (cK, .object "SteamBends$Kind")] [(x, .inr (3, [.ref ks, .ref sh, .int (nI kc), .double kr])), (ks, .inl (cK, 4, .inr (.inr (.inr (.inr gk))))), (hk, .inr (0, [.ref rw, .ref rd, .double sp, .double st])), (rw, .inr (1, [.ref tf, .ref tg, .int (nI n)])), (tf, .inl (cD, 12, .inr (.inr (.inr (.inl T))))), (tg, .inl (cD, 12, .inr (.inr (.inr (.inl R)))))] sz sa)) (va_Qd (fun (r : UInt64) (_ : Unit) => r = (rRad T R t n).getD noR ∧ cRad kd t n T R = 0) (fun _ _ => True) (fun _ => False)) (vx_X (fun _ : Unit => True) (fun E _ _ => (E = eIO ∧ cRad kd t n T R = 1) ∨ (E = eIA ∧ cRad kd t n T R = 2) ∨ (E = eIS ∧ cRad kd t n T R = 3)) (fun _ => False)) 2 12 (fun _ => False) := by
  refine vx_ofW (cc := cX3_radius) (maxL := 7) (ret := (some .double)) (by decide) rfl ?_
  intro p e s m args below meth c s₁ BB hml hex9 hv
  obtain ⟨rfl, ⟨hsz, hP, hK, hD0, hN⟩, hX⟩ := hv
  have hx := BB.exec
  have hb := BB.bytes
  have hr := BB.returns
  have hts := atoms_spec (ws := wsX3_radius) BB.pre
  have hown : s.vm.findClass RX3 = some m.cls := findClass_of_methodNamed BB.named
  have hlocks := BB.notSynchronized
  have hout9 : ∀ (pc : Nat) (x : ExceptionTableEntry), x ∈ c.exceptionTable.toList → covers x pc = false := fun pc x h => (hex9 x h).elim
  subst hsz
  have hD := hD0.self (sz := s.heap.size)
  generalize hAe : va_A [(x, .inr (3, [.ref ks, .ref sh, .int (nI kc), .double kr])), (ks, .inl (cK, 4, .inr (.inr (.inr (.inr gk))))), (hk, .inr (0, [.ref rw, .ref rd, .double sp, .double st])), (rw, .inr (1, [.ref tf, .ref tg, .int (nI n)])), (tf, .inl (cD, 12, .inr (.inr (.inr (.inl T))))), (tg, .inl (cD, 12, .inr (.inr (.inr (.inl R)))))] s.heap.size = A at hD ⊢
  have hA : ∀ q : Nat, s.heap.size ≤ q → A q := fun q h => by rw [← hAe]; exact Or.inr h
  have hS : va_S (fun _ => False) s.heap s.heap [] := va_S.rf
  have hP : va_P (dC, dI) vwCl [(x, .inr (3, [.ref ks, .ref sh, .int (nI kc), .double kr])), (ks, .inl (cK, 4, .inr (.inr (.inr (.inr gk))))), (hk, .inr (0, [.ref rw, .ref rd, .double sp, .double st])), (rw, .inr (1, [.ref tf, .ref tg, .int (nI n)])), (tf, .inl (cD, 12, .inr (.inr (.inr (.inl T))))), (tg, .inl (cD, 12, .inr (.inr (.inr (.inl R)))))] s.heap := hP
  have hl := lv_entry ([.ref x, .int kd, .double t]) (n := 7) (Nat.le_of_ble_eq_true rfl)
  rw [lg_entry_eq]
  generalize (lg_sl ([.ref x, .int kd, .double t]) ++ List.replicate (7 - (lg_sl ([.ref x, .int kd, .double t])).length) Slot.unset).toArray = ls at hl ⊢
  have hl : lv_has ls 7 [(0, .ref x), (1, .int kd), (2, .double t)] := hl
  refine lv_aload_n hx hb dX3_radius_0 rfl (lv_at hl 0 rfl) ?_
  refine lv_iload_n hx hb dX3_radius_1 rfl (lv_at hl 1 rfl) ?_
  have hPc := hP.sub (ws' := [(x, .inr (3, [.ref ks, .ref sh, .int (nI kc), .double kr])), (ks, .inl (cK, 4, .inr (.inr (.inr (.inr gk)))))]) [0, 1] rfl
  have hKc := hK.sub (tys' := [(cD, .double), (cK, .object "SteamBends$Kind")]) [0, 1] rfl
  have hDc := hD.sub (ws' := [(x, .inr (3, [.ref ks, .ref sh, .int (nI kc), .double kr])), (ks, .inl (cK, 4, .inr (.inr (.inr (.inr gk)))))]) [0, 1] (by decide) rfl
  refine vx_callq (vx_runV (As := [.int kd]) (rest := []) ⟨hx, hb, hml, hown, hts⟩ (m_X3_kindOf l hl9 dC dI s.heap.size sa cD cK x ks sh kc kr gk kd j hj hkj hk hg) (cwV 1 hts gX3_radius_X3_kindOf rfl rfl rfl (by decide +kernel) ⟨(Nat.le_of_ble_eq_true rfl), (Nat.le_of_ble_eq_true rfl)⟩) ⟨PT.blind, va_recv hKc hPc (ci := 3) (q0 := 0) rfl rfl, fun U9 hU9 hW9 => ⟨rfl, PT.at hPc hKc hDc hN hX hS hU9 hW9⟩⟩ rfl rfl hl.1 rfl (lv_room (Nat.le_of_ble_eq_true rfl)) dX3_radius_2 ⟨(Nat.le_of_ble_eq_true rfl), (Nat.le_of_ble_eq_true rfl)⟩) hS (fun q _ h => h.elim) (fun q h => h.elim) (fun q _ h => h.elim) (fun E9 ce9 q9 u9s t9s H1 locs hht hvm9 hp9 hB9 hz9 hk9 hS hc9 hv9 hcl9 => ?_) (fun r_115 u9s t9s H1 locs hht hvm9 hw_2_k_114 hB hz1 hk1 hS => ?_)
  · exact vx_out (hout9 _) hlocks hc9 hv9 hcl9 (fun t9q h8 h9 => ⟨(), trivial, (by obtain ⟨rfl, h7⟩ := hB9; exact Or.inl (⟨rfl, by unfold cRad; rw [if_pos h7]⟩)), hS.F h8⟩) (fun z hz => (hS.2.2 z hz).elim) (Nat.le_of_ble_eq_true rfl) (Nat.le_of_ble_eq_true rfl)
  · have hP := va_still hP hk1
    generalize H1 = H at hP hS ⊢
    refine W.widen (k := 1) (n := 6) (Nat.le_of_ble_eq_true rfl) (Nat.le_of_ble_eq_true rfl) ?_
    obtain ⟨rfl, hkd1, hkd2⟩ := hw_2_k_114
    refine W.eq (g2 := F0 m 5 ls [.ref hk]) rfl ?_
    refine lv_astore (lv' := [(4, .ref hk), (0, .ref x), (1, .int kd), (2, .double t)]) hx hb dX3_radius_5 hl (by decide) rfl (fun ls hl => ?_)
    refine lv_dload_n hx hb dX3_radius_7 rfl (lv_at hl 3 rfl) ?_
    refine lv_dconst0 hx hb dX3_radius_8 ?_
    refine lv_ldc2d (v := 4652007308841189376) hx hb hown (hts (.constantDouble RX3 37 (4652007308841189376)) (by decide +kernel)) dX3_radius_9 ?_
    refine va_calli (va_runS (As := [.double t, .double FP.dconst0, .double 4652007308841189376]) (rest := []) ⟨hx, hb, hml, hown, hts⟩ (m_X3_isWithin l t FP.dconst0 4652007308841189376 (ht.nn (by omega)) (dB_d0.nn (by omega)) ((by unfold dB; decide +kernel : dB 1033 4652007308841189376).nn (by omega))) (va_cwS 3 hts gX3_radius_X3_isWithin rfl rfl rfl (by decide +kernel) ⟨(Nat.le_of_ble_eq_true rfl), (Nat.le_of_ble_eq_true rfl)⟩) ⟨fun a U g mk q => q, fun U9 hU9 hW9 => ⟨rfl, trivial⟩⟩ rfl rfl hl.1 rfl (lv_room (Nat.le_of_ble_eq_true rfl)) dX3_radius_12 ⟨(Nat.le_of_ble_eq_true rfl), (Nat.le_of_ble_eq_true rfl)⟩) hS (fun q _ h => h.elim) (fun q h => h.elim) (fun r_117 u9s t9s H1 locs hht hvm9 hw_12_k_116 hB hz1 hk1 hS => ?_)
    have hP := va_still hP hk1
    generalize H1 = H at hP hS ⊢
    refine lv_if_ne (tgt := 28) hx hb dX3_radius_15 (by decide) (fun c_15 => ?_) (fun c_15 => ?_)
    · have c_15 := (b01n hw_12_k_116).mp c_15
      refine lv_aload hx hb dX3_radius_28 (lv_at hl 0 rfl) ?_
      refine lv_dload_n hx hb dX3_radius_30 rfl (lv_at hl 3 rfl) ?_
      have hPc := hP.sub (ws' := [(hk, .inr (0, [.ref rw, .ref rd, .double sp, .double st])), (rw, .inr (1, [.ref tf, .ref tg, .int (nI n)])), (tf, .inl (cD, 12, .inr (.inr (.inr (.inl T))))), (tg, .inl (cD, 12, .inr (.inr (.inr (.inl R)))))]) [2, 3, 4, 5] rfl
      have hKc := hK.sub (tys' := [(cD, .double)]) [0] rfl
      refine va_calld (va_runV (As := [.double t]) (rest := []) ⟨hx, hb, hml, hown, hts⟩ (m_X0_leastRadius l dC dI cD hk rw rd sp st tf tg n T R t (ht.mono (by omega) : dB 1064 _) hrow) (cwV 1 hts gX3_radius_X0_leastRadius rfl rfl rfl (by decide +kernel) ⟨(Nat.le_of_ble_eq_true rfl), (Nat.le_of_ble_eq_true rfl)⟩) ⟨PK.blind, va_recv hKc hPc (ci := 0) (q0 := 0) rfl rfl, fun U9 hU9 hW9 => ⟨rfl, PK.at hPc hKc hN hU9 hW9⟩⟩ rfl rfl hl.1 rfl (lv_room (Nat.le_of_ble_eq_true rfl)) dX3_radius_31 ⟨(Nat.le_of_ble_eq_true rfl), (Nat.le_of_ble_eq_true rfl)⟩) hS (fun q _ h => h.elim) (fun q h => h.elim) (fun r_119 u9s t9s H1 locs hht hvm9 hw_31_k_118 hB hz1 hk1 hS => ?_)
      have hP := va_still hP hk1
      generalize H1 = H at hP hS ⊢
      subst hw_31_k_118
      refine lv_dstore (lv' := [(5, .double ((rRad T R t n).getD noR)), (4, .ref hk), (0, .ref x), (1, .int kd), (2, .double t)]) hx hb dX3_radius_34 hl (by decide) rfl (fun ls hl => ?_)
      refine lv_dload hx hb dX3_radius_36 (lv_at hl 0 rfl) ?_
      refine va_calli (va_runS (As := [.double ((rRad T R t n).getD noR)]) (rest := []) ⟨hx, hb, hml, hown, hts⟩ (m_X3_isNone l ((rRad T R t n).getD noR) ((rRad_dB hrow (ht.mono (by omega) : dB 1064 _)).nn (by omega))) (va_cwS 1 hts gX3_radius_X3_isNone rfl rfl rfl (by decide +kernel) ⟨(Nat.le_of_ble_eq_true rfl), (Nat.le_of_ble_eq_true rfl)⟩) ⟨fun a U g mk q => q, fun U9 hU9 hW9 => ⟨rfl, trivial⟩⟩ rfl rfl hl.1 rfl (lv_room (Nat.le_of_ble_eq_true rfl)) dX3_radius_38 ⟨(Nat.le_of_ble_eq_true rfl), (Nat.le_of_ble_eq_true rfl)⟩) hS (fun q _ h => h.elim) (fun q h => h.elim) (fun r_121 u9s t9s H1 locs hht hvm9 hw_38_k_120 hB hz1 hk1 hS => ?_)
      have hP := va_still hP hk1
      generalize H1 = H at hP hS ⊢
      refine lv_if_eq (tgt := 54) hx hb dX3_radius_41 (by decide) (fun c_41 => ?_) (fun c_41 => ?_)
      · have c_41 := (b01 hw_38_k_120).mp c_41
        refine lv_dload hx hb dX3_radius_54 (lv_at hl 0 rfl) ?_
        refine vx_ret ?_
        refine W.widen (k := 2) (n := 12) (Nat.le_of_ble_eq_true rfl) (Nat.le_of_ble_eq_true rfl) ?_
        exact W.dret hx hb hr (fun t9s hht hW9 => ⟨⟨(rRad T R t n).getD noR, (), rfl, ⟨rfl, by unfold cRad; rw [if_neg (by omega), if_neg (by omega), if_neg (mt (rRad_neg hrow (ht.mono (by omega))).mpr c_41)]⟩, trivial⟩, hS.F hht⟩) hS.2.2 dX3_radius_56
      · have c_41 := (b01n hw_38_k_120).mp c_41
        exact vx_throwS hx hb hl9 (own := RX3) (cls := "java/lang/IllegalStateException") (text := "thick lies outside the rows") (names := ["java/lang/RuntimeException", "java/lang/Exception"]) (ik := 66) (is := 80) (ic := 70) (sa := sa 80) (A := fun _ => False) hown (by decide +kernel) (by decide +kernel) (hts (.classLink RX3 66 "java/lang/IllegalStateException") (by decide +kernel)) (hts (.initialized "java/lang/IllegalStateException") (by decide +kernel)) (hX.str 3 rfl) (vx_hat (fun w h => hts w (xin_X3_radius_70 w h)) (by decide +kernel) (vx_c (va_Nw.use rfl (hN.c 1 rfl)) (vx_c (va_Nw.use rfl (hN.c 3 rfl)) (vx_c (va_Nw.use rfl (hN.c 4 rfl)) (vx_c (va_Nw.use rfl (hN.c 5 rfl)) vx_n))))) (by decide +kernel) hX.1 hX.2.1 hS (by rw [hml]; exact hl.1) dX3_radius_44 dX3_radius_47 dX3_radius_48 dX3_radius_50 dX3_radius_53 (hout9 _) (Nat.le_of_ble_eq_true rfl) (Nat.le_of_ble_eq_true rfl) (Nat.le_of_ble_eq_true rfl) (Nat.le_of_ble_eq_true rfl) hlocks (fun t9s _ h8 h9 => ⟨(), trivial, Or.inr (Or.inr (⟨rfl, (by unfold cRad; rw [if_neg (by omega), if_neg (by omega), if_pos ((rRad_neg hrow (ht.mono (by omega))).mp c_41)])⟩)), thrF hS h8 h9⟩) (fun z hz => (hS.2.2 z hz).elim) (Nat.le_of_ble_eq_true rfl) (Nat.le_of_ble_eq_true rfl)
    · have c_15 := (b01 hw_12_k_116).mp c_15
      exact vx_throwS hx hb hl9 (own := RX3) (cls := "java/lang/IllegalArgumentException") (text := "thick is not 0 .. 1000") (names := ["java/lang/RuntimeException", "java/lang/Exception"]) (ik := 49) (is := 71) (ic := 53) (sa := sa 71) (A := fun _ => False) hown (by decide +kernel) (by decide +kernel) (hts (.classLink RX3 49 "java/lang/IllegalArgumentException") (by decide +kernel)) (hts (.initialized "java/lang/IllegalArgumentException") (by decide +kernel)) (hX.str 2 rfl) (vx_hat (fun w h => hts w (xin_X3_radius_53 w h)) (by decide +kernel) (vx_c (va_Nw.use rfl (hN.c 0 rfl)) (vx_c (va_Nw.use rfl (hN.c 3 rfl)) (vx_c (va_Nw.use rfl (hN.c 4 rfl)) (vx_c (va_Nw.use rfl (hN.c 5 rfl)) vx_n))))) (by decide +kernel) hX.1 hX.2.1 hS (by rw [hml]; exact hl.1) dX3_radius_18 dX3_radius_21 dX3_radius_22 dX3_radius_24 dX3_radius_27 (hout9 _) (Nat.le_of_ble_eq_true rfl) (Nat.le_of_ble_eq_true rfl) (Nat.le_of_ble_eq_true rfl) (Nat.le_of_ble_eq_true rfl) hlocks (fun t9s _ h8 h9 => ⟨(), trivial, Or.inr (Or.inl (⟨rfl, (by unfold cRad; rw [if_neg (by omega), if_pos (by omega)])⟩)), thrF hS h8 h9⟩) (fun z hz => (hS.2.2 z hz).elim) (Nat.le_of_ble_eq_true rfl) (Nat.le_of_ble_eq_true rfl)

set_option maxHeartbeats 4000000 in
set_option maxRecDepth 100000 in
theorem m_X3_strips (l : Launch) (hl9 : l.stackTraces = false) (dC : Nat → ClassId) (dI : Nat → Nat → Nat) (sz : Nat) (sa : Nat → Nat) (cD cK : ClassId) (x ks sh : Nat) (kc : Nat) (kr : UInt64) (gk : Nat → Option Nat) (rw rd : Nat) (sp st : UInt64) (tf tg : Nat) (n : Nat) (T R : Nat → UInt64) (kd : Int32) (j : Nat) (hj : j < 4) (hkj : kOK kd → kd = nI j) (hk : Nat) (hg : gk j = some hk) (t w : UInt64) (ht : dB 1060 t) (hw : dB 1060 w) (hrow : rowsOK T R n) : vx_Met l yX3_strips wsX3_strips ({ frames := 7, cells := 2, slots := 12, locals := 124 } : Room) (va_Pc [.ref x, .int kd, .double t, .double w] (PT (dC, dI) [(cD, .double), (cK, .object "SteamBends$Kind")] [(x, .inr (3, [.ref ks, .ref sh, .int (nI kc), .double kr])), (ks, .inl (cK, 4, .inr (.inr (.inr (.inr gk))))), (hk, .inr (0, [.ref rw, .ref rd, .double sp, .double st])), (rw, .inr (1, [.ref tf, .ref tg, .int (nI n)])), (tf, .inl (cD, 12, .inr (.inr (.inr (.inl T))))), (tg, .inl (cD, 12, .inr (.inr (.inr (.inl R)))))] sz sa)) (va_Qi (fun (r : Int32) (_ : Unit) => r = strp T R n t w 100 1 ∧ cStr kd t w = 0) (fun _ _ => True) (fun _ => False)) (vx_X (fun _ : Unit => True) (fun E _ _ => (E = eIO ∧ cStr kd t w = 1) ∨ (E = eIA ∧ cStr kd t w = 2)) (fun _ => False)) 2 12 (fun _ => False) := by
  refine vx_ofW (cc := cX3_strips) (maxL := 7) (ret := (some .int)) (by decide) rfl ?_
  intro p e s m args below meth c s₁ BB hml hex9 hv
  obtain ⟨rfl, ⟨hsz, hP, hK, hD0, hN⟩, hX⟩ := hv
  have hx := BB.exec
  have hb := BB.bytes
  have hr := BB.returns
  have hts := atoms_spec (ws := wsX3_strips) BB.pre
  have hown : s.vm.findClass RX3 = some m.cls := findClass_of_methodNamed BB.named
  have hlocks := BB.notSynchronized
  have hout9 : ∀ (pc : Nat) (x : ExceptionTableEntry), x ∈ c.exceptionTable.toList → covers x pc = false := fun pc x h => (hex9 x h).elim
  subst hsz
  have hD := hD0.self (sz := s.heap.size)
  generalize hAe : va_A [(x, .inr (3, [.ref ks, .ref sh, .int (nI kc), .double kr])), (ks, .inl (cK, 4, .inr (.inr (.inr (.inr gk))))), (hk, .inr (0, [.ref rw, .ref rd, .double sp, .double st])), (rw, .inr (1, [.ref tf, .ref tg, .int (nI n)])), (tf, .inl (cD, 12, .inr (.inr (.inr (.inl T))))), (tg, .inl (cD, 12, .inr (.inr (.inr (.inl R)))))] s.heap.size = A at hD ⊢
  have hA : ∀ q : Nat, s.heap.size ≤ q → A q := fun q h => by rw [← hAe]; exact Or.inr h
  have hS : va_S (fun _ => False) s.heap s.heap [] := va_S.rf
  have hP : va_P (dC, dI) vwCl [(x, .inr (3, [.ref ks, .ref sh, .int (nI kc), .double kr])), (ks, .inl (cK, 4, .inr (.inr (.inr (.inr gk))))), (hk, .inr (0, [.ref rw, .ref rd, .double sp, .double st])), (rw, .inr (1, [.ref tf, .ref tg, .int (nI n)])), (tf, .inl (cD, 12, .inr (.inr (.inr (.inl T))))), (tg, .inl (cD, 12, .inr (.inr (.inr (.inl R)))))] s.heap := hP
  have hl := lv_entry ([.ref x, .int kd, .double t, .double w]) (n := 7) (Nat.le_of_ble_eq_true rfl)
  rw [lg_entry_eq]
  generalize (lg_sl ([.ref x, .int kd, .double t, .double w]) ++ List.replicate (7 - (lg_sl ([.ref x, .int kd, .double t, .double w])).length) Slot.unset).toArray = ls at hl ⊢
  have hl : lv_has ls 7 [(0, .ref x), (1, .int kd), (2, .double t), (4, .double w)] := hl
  refine lv_aload_n hx hb dX3_strips_0 rfl (lv_at hl 0 rfl) ?_
  refine lv_iload_n hx hb dX3_strips_1 rfl (lv_at hl 1 rfl) ?_
  have hPc := hP.sub (ws' := [(x, .inr (3, [.ref ks, .ref sh, .int (nI kc), .double kr])), (ks, .inl (cK, 4, .inr (.inr (.inr (.inr gk)))))]) [0, 1] rfl
  have hKc := hK.sub (tys' := [(cD, .double), (cK, .object "SteamBends$Kind")]) [0, 1] rfl
  have hDc := hD.sub (ws' := [(x, .inr (3, [.ref ks, .ref sh, .int (nI kc), .double kr])), (ks, .inl (cK, 4, .inr (.inr (.inr (.inr gk)))))]) [0, 1] (by decide) rfl
  refine vx_callq (vx_runV (As := [.int kd]) (rest := []) ⟨hx, hb, hml, hown, hts⟩ (m_X3_kindOf l hl9 dC dI s.heap.size sa cD cK x ks sh kc kr gk kd j hj hkj hk hg) (cwV 1 hts gX3_strips_X3_kindOf rfl rfl rfl (by decide +kernel) ⟨(Nat.le_of_ble_eq_true rfl), (Nat.le_of_ble_eq_true rfl)⟩) ⟨PT.blind, va_recv hKc hPc (ci := 3) (q0 := 0) rfl rfl, fun U9 hU9 hW9 => ⟨rfl, PT.at hPc hKc hDc hN hX hS hU9 hW9⟩⟩ rfl rfl hl.1 rfl (lv_room (Nat.le_of_ble_eq_true rfl)) dX3_strips_2 ⟨(Nat.le_of_ble_eq_true rfl), (Nat.le_of_ble_eq_true rfl)⟩) hS (fun q _ h => h.elim) (fun q h => h.elim) (fun q _ h => h.elim) (fun E9 ce9 q9 u9s t9s H1 locs hht hvm9 hp9 hB9 hz9 hk9 hS hc9 hv9 hcl9 => ?_) (fun r_123 u9s t9s H1 locs hht hvm9 hw_2_k_122 hB hz1 hk1 hS => ?_)
  · exact vx_out (hout9 _) hlocks hc9 hv9 hcl9 (fun t9q h8 h9 => ⟨(), trivial, (by obtain ⟨rfl, h7⟩ := hB9; exact Or.inl (⟨rfl, by unfold cStr; rw [if_pos h7]⟩)), hS.F h8⟩) (fun z hz => (hS.2.2 z hz).elim) (Nat.le_of_ble_eq_true rfl) (Nat.le_of_ble_eq_true rfl)
  · have hP := va_still hP hk1
    generalize H1 = H at hP hS ⊢
    refine W.widen (k := 1) (n := 6) (Nat.le_of_ble_eq_true rfl) (Nat.le_of_ble_eq_true rfl) ?_
    obtain ⟨rfl, hkd1, hkd2⟩ := hw_2_k_122
    refine W.eq (g2 := F0 m 5 ls [.ref hk]) rfl ?_
    refine lv_astore (lv' := [(6, .ref hk), (0, .ref x), (1, .int kd), (2, .double t), (4, .double w)]) hx hb dX3_strips_5 hl (by decide) rfl (fun ls hl => ?_)
    refine lv_dload_n hx hb dX3_strips_7 rfl (lv_at hl 3 rfl) ?_
    refine lv_ldc2d (v := 4593671619917905920) hx hb hown (hts (.constantDouble RX3 35 (4593671619917905920)) (by decide +kernel)) dX3_strips_8 ?_
    refine lv_ldc2d (v := 4666723172467343360) hx hb hown (hts (.constantDouble RX3 43 (4666723172467343360)) (by decide +kernel)) dX3_strips_11 ?_
    refine va_calli (va_runS (As := [.double t, .double 4593671619917905920, .double 4666723172467343360]) (rest := []) ⟨hx, hb, hml, hown, hts⟩ (m_X3_isWithin l t 4593671619917905920 4666723172467343360 (ht.nn (by omega)) ((by unfold dB; decide +kernel : dB 1021 4593671619917905920).nn (by omega)) ((by unfold dB; decide +kernel : dB 1037 4666723172467343360).nn (by omega))) (va_cwS 3 hts gX3_strips_X3_isWithin rfl rfl rfl (by decide +kernel) ⟨(Nat.le_of_ble_eq_true rfl), (Nat.le_of_ble_eq_true rfl)⟩) ⟨fun a U g mk q => q, fun U9 hU9 hW9 => ⟨rfl, trivial⟩⟩ rfl rfl hl.1 rfl (lv_room (Nat.le_of_ble_eq_true rfl)) dX3_strips_14 ⟨(Nat.le_of_ble_eq_true rfl), (Nat.le_of_ble_eq_true rfl)⟩) hS (fun q _ h => h.elim) (fun q h => h.elim) (fun r_125 u9s t9s H1 locs hht hvm9 hw_14_k_124 hB hz1 hk1 hS => ?_)
    have hP := va_still hP hk1
    generalize H1 = H at hP hS ⊢
    refine lv_if_eq (tgt := 34) hx hb dX3_strips_17 (by decide) (fun c_17 => ?_) (fun c_17 => ?_)
    · have c_17 := (b01 hw_14_k_124).mp c_17
      exact vx_throwS hx hb hl9 (own := RX3) (cls := "java/lang/IllegalArgumentException") (text := "thick or radius is not 0.125 .. 10000") (names := ["java/lang/RuntimeException", "java/lang/Exception"]) (ik := 49) (is := 82) (ic := 53) (sa := sa 82) (A := fun _ => False) hown (by decide +kernel) (by decide +kernel) (hts (.classLink RX3 49 "java/lang/IllegalArgumentException") (by decide +kernel)) (hts (.initialized "java/lang/IllegalArgumentException") (by decide +kernel)) (hX.str 4 rfl) (vx_hat (fun w h => hts w (xin_X3_strips_53 w h)) (by decide +kernel) (vx_c (va_Nw.use rfl (hN.c 0 rfl)) (vx_c (va_Nw.use rfl (hN.c 3 rfl)) (vx_c (va_Nw.use rfl (hN.c 4 rfl)) (vx_c (va_Nw.use rfl (hN.c 5 rfl)) vx_n))))) (by decide +kernel) hX.1 hX.2.1 hS (by rw [hml]; exact hl.1) dX3_strips_34 dX3_strips_37 dX3_strips_38 dX3_strips_40 dX3_strips_43 (hout9 _) (Nat.le_of_ble_eq_true rfl) (Nat.le_of_ble_eq_true rfl) (Nat.le_of_ble_eq_true rfl) (Nat.le_of_ble_eq_true rfl) hlocks (fun t9s _ h8 h9 => ⟨(), trivial, Or.inr (⟨rfl, (by unfold cStr; (repeat' split) <;> omega)⟩), thrF hS h8 h9⟩) (fun z hz => (hS.2.2 z hz).elim) (Nat.le_of_ble_eq_true rfl) (Nat.le_of_ble_eq_true rfl)
    · have c_17 := (b01n hw_14_k_124).mp c_17
      refine lv_dload hx hb dX3_strips_20 (lv_at hl 4 rfl) ?_
      refine lv_ldc2d (v := 4593671619917905920) hx hb hown (hts (.constantDouble RX3 35 (4593671619917905920)) (by decide +kernel)) dX3_strips_22 ?_
      refine lv_ldc2d (v := 4666723172467343360) hx hb hown (hts (.constantDouble RX3 43 (4666723172467343360)) (by decide +kernel)) dX3_strips_25 ?_
      refine va_calli (va_runS (As := [.double w, .double 4593671619917905920, .double 4666723172467343360]) (rest := []) ⟨hx, hb, hml, hown, hts⟩ (m_X3_isWithin l w 4593671619917905920 4666723172467343360 (hw.nn (by omega)) ((by unfold dB; decide +kernel : dB 1021 4593671619917905920).nn (by omega)) ((by unfold dB; decide +kernel : dB 1037 4666723172467343360).nn (by omega))) (va_cwS 3 hts gX3_strips_X3_isWithin rfl rfl rfl (by decide +kernel) ⟨(Nat.le_of_ble_eq_true rfl), (Nat.le_of_ble_eq_true rfl)⟩) ⟨fun a U g mk q => q, fun U9 hU9 hW9 => ⟨rfl, trivial⟩⟩ rfl rfl hl.1 rfl (lv_room (Nat.le_of_ble_eq_true rfl)) dX3_strips_28 ⟨(Nat.le_of_ble_eq_true rfl), (Nat.le_of_ble_eq_true rfl)⟩) hS (fun q _ h => h.elim) (fun q h => h.elim) (fun r_127 u9s t9s H1 locs hht hvm9 hw_28_k_126 hB hz1 hk1 hS => ?_)
      have hP := va_still hP hk1
      generalize H1 = H at hP hS ⊢
      refine lv_if_ne (tgt := 44) hx hb dX3_strips_31 (by decide) (fun c_31 => ?_) (fun c_31 => ?_)
      · have c_31 := (b01n hw_28_k_126).mp c_31
        refine lv_aload hx hb dX3_strips_44 (lv_at hl 0 rfl) ?_
        refine lv_dload_n hx hb dX3_strips_46 rfl (lv_at hl 3 rfl) ?_
        refine lv_dload hx hb dX3_strips_47 (lv_at hl 4 rfl) ?_
        have hPc := hP.sub (ws' := [(hk, .inr (0, [.ref rw, .ref rd, .double sp, .double st])), (rw, .inr (1, [.ref tf, .ref tg, .int (nI n)])), (tf, .inl (cD, 12, .inr (.inr (.inr (.inl T))))), (tg, .inl (cD, 12, .inr (.inr (.inr (.inl R)))))]) [2, 3, 4, 5] rfl
        have hKc := hK.sub (tys' := [(cD, .double)]) [0] rfl
        refine va_calli (va_runV (As := [.double t, .double w]) (rest := []) ⟨hx, hb, hml, hown, hts⟩ (m_X0_leastStrips l dC dI cD hk rw rd sp st tf tg n T R t w (ht.mono (by omega) : dB 1060 _) (hw.mono (by omega) : dB 1060 _) hrow) (cwV 2 hts gX3_strips_X0_leastStrips rfl rfl rfl (by decide +kernel) ⟨(Nat.le_of_ble_eq_true rfl), (Nat.le_of_ble_eq_true rfl)⟩) ⟨PK.blind, va_recv hKc hPc (ci := 0) (q0 := 0) rfl rfl, fun U9 hU9 hW9 => ⟨rfl, PK.at hPc hKc hN hU9 hW9⟩⟩ rfl rfl hl.1 rfl (lv_room (Nat.le_of_ble_eq_true rfl)) dX3_strips_49 ⟨(Nat.le_of_ble_eq_true rfl), (Nat.le_of_ble_eq_true rfl)⟩) hS (fun q _ h => h.elim) (fun q h => h.elim) (fun r_129 u9s t9s H1 locs hht hvm9 hw_49_k_128 hB hz1 hk1 hS => ?_)
        have hP := va_still hP hk1
        generalize H1 = H at hP hS ⊢
        subst hw_49_k_128
        refine vx_ret ?_
        refine W.widen (k := 2) (n := 12) (Nat.le_of_ble_eq_true rfl) (Nat.le_of_ble_eq_true rfl) ?_
        exact W.iret hx hb hr (fun t9s hht hW9 => ⟨⟨strp T R n t w 100 1, (), rfl, ⟨rfl, by unfold cStr; (repeat' split) <;> omega⟩, trivial⟩, hS.F hht⟩) hS.2.2 dX3_strips_52
      · have c_31 := (b01 hw_28_k_126).mp c_31
        exact vx_throwS hx hb hl9 (own := RX3) (cls := "java/lang/IllegalArgumentException") (text := "thick or radius is not 0.125 .. 10000") (names := ["java/lang/RuntimeException", "java/lang/Exception"]) (ik := 49) (is := 82) (ic := 53) (sa := sa 82) (A := fun _ => False) hown (by decide +kernel) (by decide +kernel) (hts (.classLink RX3 49 "java/lang/IllegalArgumentException") (by decide +kernel)) (hts (.initialized "java/lang/IllegalArgumentException") (by decide +kernel)) (hX.str 4 rfl) (vx_hat (fun w h => hts w (xin_X3_strips_53 w h)) (by decide +kernel) (vx_c (va_Nw.use rfl (hN.c 0 rfl)) (vx_c (va_Nw.use rfl (hN.c 3 rfl)) (vx_c (va_Nw.use rfl (hN.c 4 rfl)) (vx_c (va_Nw.use rfl (hN.c 5 rfl)) vx_n))))) (by decide +kernel) hX.1 hX.2.1 hS (by rw [hml]; exact hl.1) dX3_strips_34 dX3_strips_37 dX3_strips_38 dX3_strips_40 dX3_strips_43 (hout9 _) (Nat.le_of_ble_eq_true rfl) (Nat.le_of_ble_eq_true rfl) (Nat.le_of_ble_eq_true rfl) (Nat.le_of_ble_eq_true rfl) hlocks (fun t9s _ h8 h9 => ⟨(), trivial, Or.inr (⟨rfl, (by unfold cStr; (repeat' split) <;> omega)⟩), thrF hS h8 h9⟩) (fun z hz => (hS.2.2 z hz).elim) (Nat.le_of_ble_eq_true rfl) (Nat.le_of_ble_eq_true rfl)

set_option maxHeartbeats 4000000 in
set_option maxRecDepth 100000 in
theorem m_X3_fit (l : Launch) (hl9 : l.stackTraces = false) (dC : Nat → ClassId) (dI : Nat → Nat → Nat) (sz : Nat) (sa : Nat → Nat) (cD cK : ClassId) (x ks sh : Nat) (kc : Nat) (kr : UInt64) (gk : Nat → Option Nat) (rw rd : Nat) (sp st : UInt64) (bf bg : Nat) (n : Nat) (B K : Nat → UInt64) (kd : Int32) (j : Nat) (hj : j < 4) (hkj : kOK kd → kd = nI j) (hk : Nat) (hg : gk j = some hk) (rs : Int32) (N : Nat) (hsp : spOK N sp st) (hN9 : N ≤ 59000) (hrd : readsOK B K n) : vx_Met l yX3_fit wsX3_fit ({ frames := 7, cells := 2, slots := 12, locals := 104 } : Room) (va_Pc [.ref x, .int kd, .int rs] (PT (dC, dI) [(cD, .double), (cK, .object "SteamBends$Kind")] [(x, .inr (3, [.ref ks, .ref sh, .int (nI kc), .double kr])), (ks, .inl (cK, 4, .inr (.inr (.inr (.inr gk))))), (hk, .inr (0, [.ref rw, .ref rd, .double sp, .double st])), (rd, .inr (1, [.ref bf, .ref bg, .int (nI n)])), (bf, .inl (cD, 20, .inr (.inr (.inr (.inl B))))), (bg, .inl (cD, 20, .inr (.inr (.inr (.inl K)))))] sz sa)) (va_Qi (fun (r : Int32) (u : Unit) => r = nI (fitN B K n sp st rs.toInt.toNat).2.2 ∧ cFit kd rs = 0) (fun (u : Unit) => QW (dC, dI) [(x, .inr (3, [.ref ks, .ref sh, .int (nI kc), .double kr])), (ks, .inl (cK, 4, .inr (.inr (.inr (.inr gk))))), (hk, .inr (0, [.ref rw, .ref rd, .double ((fitN B K n sp st rs.toInt.toNat).1), .double ((fitN B K n sp st rs.toInt.toNat).2.1)])), (rd, .inr (1, [.ref bf, .ref bg, .int (nI n)])), (bf, .inl (cD, 20, .inr (.inr (.inr (.inl B))))), (bg, .inl (cD, 20, .inr (.inr (.inr (.inl K)))))] (va_A [(x, .inr (3, [.ref ks, .ref sh, .int (nI kc), .double kr])), (ks, .inl (cK, 4, .inr (.inr (.inr (.inr gk))))), (hk, .inr (0, [.ref rw, .ref rd, .double sp, .double st])), (rd, .inr (1, [.ref bf, .ref bg, .int (nI n)])), (bf, .inl (cD, 20, .inr (.inr (.inr (.inl B))))), (bg, .inl (cD, 20, .inr (.inr (.inr (.inl K)))))] sz)) (va_A [(x, .inr (3, [.ref ks, .ref sh, .int (nI kc), .double kr])), (ks, .inl (cK, 4, .inr (.inr (.inr (.inr gk))))), (hk, .inr (0, [.ref rw, .ref rd, .double sp, .double st])), (rd, .inr (1, [.ref bf, .ref bg, .int (nI n)])), (bf, .inl (cD, 20, .inr (.inr (.inr (.inl B))))), (bg, .inl (cD, 20, .inr (.inr (.inr (.inl K)))))] sz)) (vx_X (fun _ : Unit => True) (fun E _ _ => (E = eIO ∧ cFit kd rs = 1) ∨ (E = eIA ∧ cFit kd rs = 2)) (fun _ => False)) 2 12 (va_A [(x, .inr (3, [.ref ks, .ref sh, .int (nI kc), .double kr])), (ks, .inl (cK, 4, .inr (.inr (.inr (.inr gk))))), (hk, .inr (0, [.ref rw, .ref rd, .double sp, .double st])), (rd, .inr (1, [.ref bf, .ref bg, .int (nI n)])), (bf, .inl (cD, 20, .inr (.inr (.inr (.inl B))))), (bg, .inl (cD, 20, .inr (.inr (.inr (.inl K)))))] sz) := by
  refine vx_ofW (cc := cX3_fit) (maxL := 6) (ret := (some .int)) (by decide) rfl ?_
  intro p e s m args below meth c s₁ BB hml hex9 hv
  obtain ⟨rfl, ⟨hsz, hP, hK, hD0, hN⟩, hX⟩ := hv
  have hx := BB.exec
  have hb := BB.bytes
  have hr := BB.returns
  have hts := atoms_spec (ws := wsX3_fit) BB.pre
  have hown : s.vm.findClass RX3 = some m.cls := findClass_of_methodNamed BB.named
  have hlocks := BB.notSynchronized
  have hout9 : ∀ (pc : Nat) (x : ExceptionTableEntry), x ∈ c.exceptionTable.toList → covers x pc = false := fun pc x h => (hex9 x h).elim
  subst hsz
  have hD := hD0.self (sz := s.heap.size)
  generalize hAe : va_A [(x, .inr (3, [.ref ks, .ref sh, .int (nI kc), .double kr])), (ks, .inl (cK, 4, .inr (.inr (.inr (.inr gk))))), (hk, .inr (0, [.ref rw, .ref rd, .double sp, .double st])), (rd, .inr (1, [.ref bf, .ref bg, .int (nI n)])), (bf, .inl (cD, 20, .inr (.inr (.inr (.inl B))))), (bg, .inl (cD, 20, .inr (.inr (.inr (.inl K)))))] s.heap.size = A at hD ⊢
  have hA : ∀ q : Nat, s.heap.size ≤ q → A q := fun q h => by rw [← hAe]; exact Or.inr h
  have hS : va_S (fun _ => False) s.heap s.heap [] := va_S.rf
  have hP : va_P (dC, dI) vwCl [(x, .inr (3, [.ref ks, .ref sh, .int (nI kc), .double kr])), (ks, .inl (cK, 4, .inr (.inr (.inr (.inr gk))))), (hk, .inr (0, [.ref rw, .ref rd, .double sp, .double st])), (rd, .inr (1, [.ref bf, .ref bg, .int (nI n)])), (bf, .inl (cD, 20, .inr (.inr (.inr (.inl B))))), (bg, .inl (cD, 20, .inr (.inr (.inr (.inl K)))))] s.heap := hP
  have hl := lv_entry ([.ref x, .int kd, .int rs]) (n := 6) (Nat.le_of_ble_eq_true rfl)
  rw [lg_entry_eq]
  generalize (lg_sl ([.ref x, .int kd, .int rs]) ++ List.replicate (6 - (lg_sl ([.ref x, .int kd, .int rs])).length) Slot.unset).toArray = ls at hl ⊢
  have hl : lv_has ls 6 [(0, .ref x), (1, .int kd), (2, .int rs)] := hl
  have hn20 := hrd.1
  refine lv_aload_n hx hb dX3_fit_0 rfl (lv_at hl 0 rfl) ?_
  refine lv_iload_n hx hb dX3_fit_1 rfl (lv_at hl 1 rfl) ?_
  have hPc := hP.sub (ws' := [(x, .inr (3, [.ref ks, .ref sh, .int (nI kc), .double kr])), (ks, .inl (cK, 4, .inr (.inr (.inr (.inr gk)))))]) [0, 1] rfl
  have hKc := hK.sub (tys' := [(cD, .double), (cK, .object "SteamBends$Kind")]) [0, 1] rfl
  have hDc := hD.sub (ws' := [(x, .inr (3, [.ref ks, .ref sh, .int (nI kc), .double kr])), (ks, .inl (cK, 4, .inr (.inr (.inr (.inr gk)))))]) [0, 1] (by decide) rfl
  refine vx_callq (vx_runV (As := [.int kd]) (rest := []) ⟨hx, hb, hml, hown, hts⟩ (m_X3_kindOf l hl9 dC dI s.heap.size sa cD cK x ks sh kc kr gk kd j hj hkj hk hg) (cwV 1 hts gX3_fit_X3_kindOf rfl rfl rfl (by decide +kernel) ⟨(Nat.le_of_ble_eq_true rfl), (Nat.le_of_ble_eq_true rfl)⟩) ⟨PT.blind, va_recv hKc hPc (ci := 3) (q0 := 0) rfl rfl, fun U9 hU9 hW9 => ⟨rfl, PT.at hPc hKc hDc hN hX hS hU9 hW9⟩⟩ rfl rfl hl.1 rfl (lv_room (Nat.le_of_ble_eq_true rfl)) dX3_fit_2 ⟨(Nat.le_of_ble_eq_true rfl), (Nat.le_of_ble_eq_true rfl)⟩) hS (fun q _ h => h.elim) (fun q h => h.elim) (fun q _ h => h.elim) (fun E9 ce9 q9 u9s t9s H1 locs hht hvm9 hp9 hB9 hz9 hk9 hS hc9 hv9 hcl9 => ?_) (fun r_131 u9s t9s H1 locs hht hvm9 hw_2_k_130 hB hz1 hk1 hS => ?_)
  · exact vx_out (hout9 _) hlocks hc9 hv9 hcl9 (fun t9q h8 h9 => ⟨(), trivial, (by obtain ⟨rfl, h7⟩ := hB9; exact Or.inl (⟨rfl, by unfold cFit; rw [if_pos h7]⟩)), hS.F h8⟩) (fun z hz => (hS.2.2 z hz).elim) (Nat.le_of_ble_eq_true rfl) (Nat.le_of_ble_eq_true rfl)
  · have hP := va_still hP hk1
    generalize H1 = H at hP hS ⊢
    refine W.widen (k := 1) (n := 6) (Nat.le_of_ble_eq_true rfl) (Nat.le_of_ble_eq_true rfl) ?_
    obtain ⟨rfl, hkd1, hkd2⟩ := hw_2_k_130
    refine W.eq (g2 := F0 m 5 ls [.ref hk]) rfl ?_
    refine lv_astore_n (lv' := [(3, .ref hk), (0, .ref x), (1, .int kd), (2, .int rs)]) hx hb dX3_fit_5 rfl hl (by decide) rfl (fun ls hl => ?_)
    refine lv_iload_n hx hb dX3_fit_6 rfl (lv_at hl 3 rfl) ?_
    refine lv_if_lt (tgt := 16) hx hb dX3_fit_7 (by decide) (fun c_7 => ?_) (fun c_7 => ?_)
    · have c_7 := (z_lt (a := rs.toInt) (b := 0) rfl (by decide)).mp c_7
      exact vx_throwS hx hb hl9 (own := RX3) (cls := "java/lang/IllegalArgumentException") (text := "rounds are not 0 .. 100") (names := ["java/lang/RuntimeException", "java/lang/Exception"]) (ik := 49) (is := 96) (ic := 53) (sa := sa 96) (A := fun _ => False) hown (by decide +kernel) (by decide +kernel) (hts (.classLink RX3 49 "java/lang/IllegalArgumentException") (by decide +kernel)) (hts (.initialized "java/lang/IllegalArgumentException") (by decide +kernel)) (hX.str 7 rfl) (vx_hat (fun w h => hts w (xin_X3_fit_53 w h)) (by decide +kernel) (vx_c (va_Nw.use rfl (hN.c 0 rfl)) (vx_c (va_Nw.use rfl (hN.c 3 rfl)) (vx_c (va_Nw.use rfl (hN.c 4 rfl)) (vx_c (va_Nw.use rfl (hN.c 5 rfl)) vx_n))))) (by decide +kernel) hX.1 hX.2.1 hS (by rw [hml]; exact hl.1) dX3_fit_16 dX3_fit_19 dX3_fit_20 dX3_fit_22 dX3_fit_25 (hout9 _) (Nat.le_of_ble_eq_true rfl) (Nat.le_of_ble_eq_true rfl) (Nat.le_of_ble_eq_true rfl) (Nat.le_of_ble_eq_true rfl) hlocks (fun t9s _ h8 h9 => ⟨(), trivial, Or.inr (⟨rfl, (by unfold cFit; (repeat' split) <;> omega)⟩), thrF hS h8 h9⟩) (fun z hz => (hS.2.2 z hz).elim) (Nat.le_of_ble_eq_true rfl) (Nat.le_of_ble_eq_true rfl)
    · have c_7 := mt (z_lt (a := rs.toInt) (b := 0) rfl (by decide)).mpr c_7
      refine lv_iload_n hx hb dX3_fit_10 rfl (lv_at hl 3 rfl) ?_
      refine lv_bipush (v := 100) hx hb dX3_fit_11 (by decide) ?_
      refine lv_icmp_le (tgt := 26) hx hb dX3_fit_13 (by decide) (fun c_13 => ?_) (fun c_13 => ?_)
      · have c_13 := (z_le (a := rs.toInt) (b := 100) rfl (by decide)).mp c_13
        refine lv_iconst (v := 0) hx hb dX3_fit_26 (by decide) ?_
        refine lv_istore (lv' := [(4, .int 0), (3, .ref hk), (0, .ref x), (1, .int kd), (2, .int rs)]) hx hb dX3_fit_27 hl (by decide) rfl (fun ls hl => ?_)
        refine lv_iconst (v := 0) hx hb dX3_fit_29 (by decide) ?_
        refine lv_istore (lv' := [(5, .int 0), (4, .int 0), (3, .ref hk), (0, .ref x), (1, .int kd), (2, .int rs)]) hx hb dX3_fit_30 hl (by decide) rfl (fun ls hl => ?_)
        have hS : va_S A s.heap H locs := hS.up noA
        refine w_loop (σ := Nat) (fun n9 x9 H locs ls => lv_has ls 6 [(5, .int (nI x9)), (4, .int (nI ((fitN B K n sp st x9).2.2))), (3, .ref hk), (0, .ref x), (1, .int kd), (2, .int rs)] ∧ va_P (dC, dI) vwCl [(x, .inr (3, [.ref ks, .ref sh, .int (nI kc), .double kr])), (ks, .inl (cK, 4, .inr (.inr (.inr (.inr gk))))), (hk, .inr (0, [.ref rw, .ref rd, .double ((fitN B K n sp st x9).1), .double ((fitN B K n sp st x9).2.1)])), (rd, .inr (1, [.ref bf, .ref bg, .int (nI n)])), (bf, .inl (cD, 20, .inr (.inr (.inr (.inl B))))), (bg, .inl (cD, 20, .inr (.inr (.inr (.inl K)))))] H ∧ va_D A [(x, .inr (3, [.ref ks, .ref sh, .int (nI kc), .double kr])), (ks, .inl (cK, 4, .inr (.inr (.inr (.inr gk))))), (hk, .inr (0, [.ref rw, .ref rd, .double ((fitN B K n sp st x9).1), .double ((fitN B K n sp st x9).2.1)])), (rd, .inr (1, [.ref bf, .ref bg, .int (nI n)])), (bf, .inl (cD, 20, .inr (.inr (.inr (.inl B))))), (bg, .inl (cD, 20, .inr (.inr (.inr (.inl K)))))] ∧ va_S A s.heap H locs ∧ x9 + n9 = rs.toInt.toNat ∧ x9 ≤ 100) (n0 := rs.toInt.toNat) (x0 := 0) ⟨lv_sub hl [0, 1, 2, 3, 4, 5] rfl, hP.sub [0, 1, 2, 3, 4, 5] rfl, hD.sub [0, 1, 2, 3, 4, 5] (by decide) rfl, hS, (show 0 + rs.toInt.toNat = rs.toInt.toNat ∧ 0 ≤ 100 from ⟨by omega, by omega⟩)⟩ ?_
        rintro n9 i9 H locs ls ⟨hl, hP, hD, hS, hi⟩ ih
        have hl : lv_has ls 6 [(5, .int (nI i9)), (4, .int (nI ((fitN B K n sp st i9).2.2))), (3, .ref hk), (0, .ref x), (1, .int kd), (2, .int rs)] := hl
        have hP : va_P (dC, dI) vwCl [(x, .inr (3, [.ref ks, .ref sh, .int (nI kc), .double kr])), (ks, .inl (cK, 4, .inr (.inr (.inr (.inr gk))))), (hk, .inr (0, [.ref rw, .ref rd, .double ((fitN B K n sp st i9).1), .double ((fitN B K n sp st i9).2.1)])), (rd, .inr (1, [.ref bf, .ref bg, .int (nI n)])), (bf, .inl (cD, 20, .inr (.inr (.inr (.inl B))))), (bg, .inl (cD, 20, .inr (.inr (.inr (.inl K)))))] H := hP
        have hD : va_D A [(x, .inr (3, [.ref ks, .ref sh, .int (nI kc), .double kr])), (ks, .inl (cK, 4, .inr (.inr (.inr (.inr gk))))), (hk, .inr (0, [.ref rw, .ref rd, .double ((fitN B K n sp st i9).1), .double ((fitN B K n sp st i9).2.1)])), (rd, .inr (1, [.ref bf, .ref bg, .int (nI n)])), (bf, .inl (cD, 20, .inr (.inr (.inr (.inl B))))), (bg, .inl (cD, 20, .inr (.inr (.inr (.inl K)))))] := hD
        have hi : i9 + n9 = rs.toInt.toNat ∧ i9 ≤ 100 := hi
        refine lv_iload hx hb dX3_fit_32 (lv_at hl 0 rfl) ?_
        refine lv_iload_n hx hb dX3_fit_34 rfl (lv_at hl 5 rfl) ?_
        refine lv_icmp_ge (tgt := 54) hx hb dX3_fit_35 (by decide) (fun c_35 => ?_) (fun c_35 => ?_)
        · have c_35 := (z_le (a := rs.toInt) (b := ((i9 : Nat) : Int)) rfl (nI_toInt (by omega))).mp c_35
          refine lv_iload hx hb dX3_fit_54 (lv_at hl 1 rfl) ?_
          refine vx_ret ?_
          refine W.widen (k := 2) (n := 12) (Nat.le_of_ble_eq_true rfl) (Nat.le_of_ble_eq_true rfl) ?_
          have hP9 := hP.sub (ws' := [(x, .inr (3, [.ref ks, .ref sh, .int (nI kc), .double kr])), (ks, .inl (cK, 4, .inr (.inr (.inr (.inr gk))))), (hk, .inr (0, [.ref rw, .ref rd, .double ((fitN B K n sp st i9).1), .double ((fitN B K n sp st i9).2.1)])), (rd, .inr (1, [.ref bf, .ref bg, .int (nI n)])), (bf, .inl (cD, 20, .inr (.inr (.inr (.inl B))))), (bg, .inl (cD, 20, .inr (.inr (.inr (.inl K)))))]) [0, 1, 2, 3, 4, 5] rfl
          have hD9 := hD.sub (ws' := [(x, .inr (3, [.ref ks, .ref sh, .int (nI kc), .double kr])), (ks, .inl (cK, 4, .inr (.inr (.inr (.inr gk))))), (hk, .inr (0, [.ref rw, .ref rd, .double ((fitN B K n sp st i9).1), .double ((fitN B K n sp st i9).2.1)])), (rd, .inr (1, [.ref bf, .ref bg, .int (nI n)])), (bf, .inl (cD, 20, .inr (.inr (.inr (.inl B))))), (bg, .inl (cD, 20, .inr (.inr (.inr (.inl K)))))]) [0, 1, 2, 3, 4, 5] (by decide) rfl
          have e9 : rs.toInt.toNat = i9 := by omega
          exact W.iret hx hb hr (fun t9s hht hW9 => ⟨⟨nI ((fitN B K n sp st i9).2.2), (), rfl, ⟨by rw [e9], by unfold cFit; (repeat' split) <;> omega⟩, ⟨by rw [hht, e9]; exact hP9, by rw [e9]; exact hD9⟩⟩, hS.F hht⟩) hS.2.2 dX3_fit_56
        · have c_35 := mt (z_le (a := rs.toInt) (b := ((i9 : Nat) : Int)) rfl (nI_toInt (by omega))).mpr c_35
          refine lv_aload_n hx hb dX3_fit_38 rfl (lv_at hl 2 rfl) ?_
          have hPc := hP.sub (ws' := [(hk, .inr (0, [.ref rw, .ref rd, .double ((fitN B K n sp st i9).1), .double ((fitN B K n sp st i9).2.1)])), (rd, .inr (1, [.ref bf, .ref bg, .int (nI n)])), (bf, .inl (cD, 20, .inr (.inr (.inr (.inl B))))), (bg, .inl (cD, 20, .inr (.inr (.inr (.inl K)))))]) [2, 3, 4, 5] rfl
          have hKc := hK.sub (tys' := [(cD, .double)]) [0] rfl
          have hDc := hD.sub (ws' := [(hk, .inr (0, [.ref rw, .ref rd, .double ((fitN B K n sp st i9).1), .double ((fitN B K n sp st i9).2.1)])), (rd, .inr (1, [.ref bf, .ref bg, .int (nI n)])), (bf, .inl (cD, 20, .inr (.inr (.inr (.inl B))))), (bg, .inl (cD, 20, .inr (.inr (.inr (.inl K)))))]) [2, 3, 4, 5] (by decide) rfl
          have hFc := va_free (wc := [(hk, .inr (0, [.ref rw, .ref rd, .double ((fitN B K n sp st i9).1), .double ((fitN B K n sp st i9).2.1)])), (rd, .inr (1, [.ref bf, .ref bg, .int (nI n)])), (bf, .inl (cD, 20, .inr (.inr (.inr (.inl B))))), (bg, .inl (cD, 20, .inr (.inr (.inr (.inl K)))))]) hD hS hA [2, 3, 4, 5] rfl
          refine va_calli (va_runV (As := []) (rest := []) ⟨hx, hb, hml, hown, hts⟩ (m_X0_fitsBetter l dC dI H.size cD hk rw rd ((fitN B K n sp st i9).1) ((fitN B K n sp st i9).2.1) bf bg n B K ((((fitN_ok (B := B) (K := K) (n := n) hsp i9 (by omega)).dB (by omega)).1).mono (by omega) : dB 1038 _) ((((fitN_ok (B := B) (K := K) (n := n) hsp i9 (by omega)).dB (by omega)).2).mono (by omega) : dB 1030 _) hrd) (cwV 0 hts gX3_fit_X0_fitsBetter rfl rfl rfl (by decide +kernel) ⟨(Nat.le_of_ble_eq_true rfl), (Nat.le_of_ble_eq_true rfl)⟩) ⟨PW.blind, va_recv hKc hPc (ci := 0) (q0 := 0) rfl rfl, fun U9 hU9 hW9 => ⟨rfl, PW.at hPc hKc hDc hN hU9 hW9⟩⟩ rfl rfl hl.1 rfl (lv_room (Nat.le_of_ble_eq_true rfl)) dX3_fit_39 ⟨(Nat.le_of_ble_eq_true rfl), (Nat.le_of_ble_eq_true rfl)⟩) hS (fun q _ h => hFc q h) hFc (fun r_133 u9s t9s H1 locs hht hvm9 hw_39_k_132 hB hz1 hk1 hS => ?_)
          obtain ⟨hP1, hD1⟩ := hB
          rw [hht] at hP1
          obtain ⟨sv9, hv9, bv9⟩ := u9s
          obtain ⟨hw1, hw2⟩ := hw_39_k_132
          obtain ⟨es9, eh9, eb9⟩ : sv9 = (rnd B K n (fitN B K n sp st i9).1 (fitN B K n sp st i9).2.1).1 ∧ hv9 = (rnd B K n (fitN B K n sp st i9).1 (fitN B K n sp st i9).2.1).2.1 ∧ bv9 = (rnd B K n (fitN B K n sp st i9).1 (fitN B K n sp st i9).2.1).2.2 := by rw [← hw2]; exact ⟨rfl, rfl, rfl⟩
          subst es9; subst eh9; subst eb9
          dsimp only at hw1
          obtain ⟨hP, hD⟩ := va_join (wr := [(x, .inr (3, [.ref ks, .ref sh, .int (nI kc), .double kr])), (ks, .inl (cK, 4, .inr (.inr (.inr (.inr gk)))))]) (w1 := [(hk, .inr (0, [.ref rw, .ref rd, .double ((rnd B K n (fitN B K n sp st i9).1 (fitN B K n sp st i9).2.1).1), .double ((rnd B K n (fitN B K n sp st i9).1 (fitN B K n sp st i9).2.1).2.1)])), (rd, .inr (1, [.ref bf, .ref bg, .int (nI n)])), (bf, .inl (cD, 20, .inr (.inr (.inr (.inl B))))), (bg, .inl (cD, 20, .inr (.inr (.inr (.inl K)))))]) hP hD [2, 3, 4, 5] [0, 1] rfl rfl (by decide) (by decide) hk1 hFc hP1 hD1
          generalize H1 = H at hP hS ⊢
          have hP : va_P (dC, dI) vwCl [(x, .inr (3, [.ref ks, .ref sh, .int (nI kc), .double kr])), (ks, .inl (cK, 4, .inr (.inr (.inr (.inr gk))))), (hk, .inr (0, [.ref rw, .ref rd, .double ((rnd B K n (fitN B K n sp st i9).1 (fitN B K n sp st i9).2.1).1), .double ((rnd B K n (fitN B K n sp st i9).1 (fitN B K n sp st i9).2.1).2.1)])), (rd, .inr (1, [.ref bf, .ref bg, .int (nI n)])), (bf, .inl (cD, 20, .inr (.inr (.inr (.inl B))))), (bg, .inl (cD, 20, .inr (.inr (.inr (.inl K)))))] H := hP
          have hD : va_D A [(x, .inr (3, [.ref ks, .ref sh, .int (nI kc), .double kr])), (ks, .inl (cK, 4, .inr (.inr (.inr (.inr gk))))), (hk, .inr (0, [.ref rw, .ref rd, .double ((rnd B K n (fitN B K n sp st i9).1 (fitN B K n sp st i9).2.1).1), .double ((rnd B K n (fitN B K n sp st i9).1 (fitN B K n sp st i9).2.1).2.1)])), (rd, .inr (1, [.ref bf, .ref bg, .int (nI n)])), (bf, .inl (cD, 20, .inr (.inr (.inr (.inl B))))), (bg, .inl (cD, 20, .inr (.inr (.inr (.inl K)))))] := hD
          refine lv_if_eq (tgt := 48) hx hb dX3_fit_42 (by decide) (fun c_42 => ?_) (fun c_42 => ?_)
          · have c_42 := (b01 hw1).mp c_42
            refine lv_iinc (v := nI (i9 + 1)) (lv' := [(5, .int (nI (i9 + 1))), (4, .int (nI ((fitN B K n sp st i9).2.2))), (3, .ref hk), (0, .ref x), (1, .int kd), (2, .int rs)]) hx hb dX3_fit_48 hl (k := 0) rfl (show nI i9 + nI 1 = nI (i9 + 1) from nI_add _ _) (by decide) rfl (fun ls hl => ?_)
            refine lv_goto (tgt := 32) hx hb dX3_fit_51 (by decide) ?_
            exact ih (n9 - 1) (by omega) (i9 + 1) _ _ _ ⟨(by
                simp only [fitN]
                rw [if_neg c_42]
                exact lv_sub hl [0, 1, 2, 3, 4, 5] rfl), hP.sub [0, 1, 2, 3, 4, 5] rfl, hD.sub [0, 1, 2, 3, 4, 5] (by decide) rfl, hS, (show (i9 + 1) + (n9 - 1) = rs.toInt.toNat ∧ (i9 + 1) ≤ 100 from ⟨by omega, by omega⟩)⟩
          · have c_42 := (b01n hw1).mp c_42
            refine lv_iinc (v := nI ((fitN B K n sp st i9).2.2 + 1)) (lv' := [(4, .int (nI ((fitN B K n sp st i9).2.2 + 1))), (5, .int (nI i9)), (3, .ref hk), (0, .ref x), (1, .int kd), (2, .int rs)]) hx hb dX3_fit_45 hl (k := 1) rfl (show nI ((fitN B K n sp st i9).2.2) + nI 1 = nI ((fitN B K n sp st i9).2.2 + 1) from nI_add _ _) (by decide) rfl (fun ls hl => ?_)
            refine lv_iinc (v := nI (i9 + 1)) (lv' := [(5, .int (nI (i9 + 1))), (4, .int (nI ((fitN B K n sp st i9).2.2 + 1))), (3, .ref hk), (0, .ref x), (1, .int kd), (2, .int rs)]) hx hb dX3_fit_48 hl (k := 1) rfl (show nI i9 + nI 1 = nI (i9 + 1) from nI_add _ _) (by decide) rfl (fun ls hl => ?_)
            refine lv_goto (tgt := 32) hx hb dX3_fit_51 (by decide) ?_
            exact ih (n9 - 1) (by omega) (i9 + 1) _ _ _ ⟨(by
                simp only [fitN]
                rw [if_pos c_42]
                exact lv_sub hl [0, 1, 2, 3, 4, 5] rfl), hP.sub [0, 1, 2, 3, 4, 5] rfl, hD.sub [0, 1, 2, 3, 4, 5] (by decide) rfl, hS, (show (i9 + 1) + (n9 - 1) = rs.toInt.toNat ∧ (i9 + 1) ≤ 100 from ⟨by omega, by omega⟩)⟩
      · have c_13 := mt (z_le (a := rs.toInt) (b := 100) rfl (by decide)).mpr c_13
        exact vx_throwS hx hb hl9 (own := RX3) (cls := "java/lang/IllegalArgumentException") (text := "rounds are not 0 .. 100") (names := ["java/lang/RuntimeException", "java/lang/Exception"]) (ik := 49) (is := 96) (ic := 53) (sa := sa 96) (A := fun _ => False) hown (by decide +kernel) (by decide +kernel) (hts (.classLink RX3 49 "java/lang/IllegalArgumentException") (by decide +kernel)) (hts (.initialized "java/lang/IllegalArgumentException") (by decide +kernel)) (hX.str 7 rfl) (vx_hat (fun w h => hts w (xin_X3_fit_53 w h)) (by decide +kernel) (vx_c (va_Nw.use rfl (hN.c 0 rfl)) (vx_c (va_Nw.use rfl (hN.c 3 rfl)) (vx_c (va_Nw.use rfl (hN.c 4 rfl)) (vx_c (va_Nw.use rfl (hN.c 5 rfl)) vx_n))))) (by decide +kernel) hX.1 hX.2.1 hS (by rw [hml]; exact hl.1) dX3_fit_16 dX3_fit_19 dX3_fit_20 dX3_fit_22 dX3_fit_25 (hout9 _) (Nat.le_of_ble_eq_true rfl) (Nat.le_of_ble_eq_true rfl) (Nat.le_of_ble_eq_true rfl) (Nat.le_of_ble_eq_true rfl) hlocks (fun t9s _ h8 h9 => ⟨(), trivial, Or.inr (⟨rfl, (by unfold cFit; (repeat' split) <;> omega)⟩), thrF hS h8 h9⟩) (fun z hz => (hS.2.2 z hz).elim) (Nat.le_of_ble_eq_true rfl) (Nat.le_of_ble_eq_true rfl)

set_option maxHeartbeats 4000000 in
set_option maxRecDepth 100000 in
theorem m_X3_back (l : Launch) (hl9 : l.stackTraces = false) (dC : Nat → ClassId) (dI : Nat → Nat → Nat) (sz : Nat) (sa : Nat → Nat) (cD cK : ClassId) (x ks sh : Nat) (kc : Nat) (kr : UInt64) (gk : Nat → Option Nat) (rw rd : Nat) (sp st : UInt64) (bf bg : Nat) (n : Nat) (B K : Nat → UInt64) (kd : Int32) (j : Nat) (hj : j < 4) (hkj : kOK kd → kd = nI j) (hk : Nat) (hg : gk j = some hk) (wh : Int32) (N : Nat) (hsp : spOK N sp st) (hN9 : N ≤ 59000) (hrd : readsOK B K n) : vx_Met l yX3_back wsX3_back ({ frames := 7, cells := 2, slots := 12, locals := 104 } : Room) (va_Pc [.ref x, .int kd, .int wh] (PT (dC, dI) [(cD, .double), (cK, .object "SteamBends$Kind")] [(x, .inr (3, [.ref ks, .ref sh, .int (nI kc), .double kr])), (ks, .inl (cK, 4, .inr (.inr (.inr (.inr gk))))), (hk, .inr (0, [.ref rw, .ref rd, .double sp, .double st])), (rd, .inr (1, [.ref bf, .ref bg, .int (nI n)])), (bf, .inl (cD, 20, .inr (.inr (.inr (.inl B))))), (bg, .inl (cD, 20, .inr (.inr (.inr (.inl K)))))] sz sa)) (va_Qd (fun (r : UInt64) (_ : Unit) => r = vBack wh sp st B K n ∧ cBack kd wh = 0) (fun _ _ => True) (fun _ => False)) (vx_X (fun _ : Unit => True) (fun E _ _ => (E = eIO ∧ cBack kd wh = 1)) (fun _ => False)) 2 12 (fun _ => False) := by
  refine vx_ofW (cc := cX3_back) (maxL := 4) (ret := (some .double)) (by decide) rfl ?_
  intro p e s m args below meth c s₁ BB hml hex9 hv
  obtain ⟨rfl, ⟨hsz, hP, hK, hD0, hN⟩, hX⟩ := hv
  have hx := BB.exec
  have hb := BB.bytes
  have hr := BB.returns
  have hts := atoms_spec (ws := wsX3_back) BB.pre
  have hown : s.vm.findClass RX3 = some m.cls := findClass_of_methodNamed BB.named
  have hlocks := BB.notSynchronized
  have hout9 : ∀ (pc : Nat) (x : ExceptionTableEntry), x ∈ c.exceptionTable.toList → covers x pc = false := fun pc x h => (hex9 x h).elim
  subst hsz
  have hD := hD0.self (sz := s.heap.size)
  generalize hAe : va_A [(x, .inr (3, [.ref ks, .ref sh, .int (nI kc), .double kr])), (ks, .inl (cK, 4, .inr (.inr (.inr (.inr gk))))), (hk, .inr (0, [.ref rw, .ref rd, .double sp, .double st])), (rd, .inr (1, [.ref bf, .ref bg, .int (nI n)])), (bf, .inl (cD, 20, .inr (.inr (.inr (.inl B))))), (bg, .inl (cD, 20, .inr (.inr (.inr (.inl K)))))] s.heap.size = A at hD ⊢
  have hA : ∀ q : Nat, s.heap.size ≤ q → A q := fun q h => by rw [← hAe]; exact Or.inr h
  have hS : va_S (fun _ => False) s.heap s.heap [] := va_S.rf
  have hP : va_P (dC, dI) vwCl [(x, .inr (3, [.ref ks, .ref sh, .int (nI kc), .double kr])), (ks, .inl (cK, 4, .inr (.inr (.inr (.inr gk))))), (hk, .inr (0, [.ref rw, .ref rd, .double sp, .double st])), (rd, .inr (1, [.ref bf, .ref bg, .int (nI n)])), (bf, .inl (cD, 20, .inr (.inr (.inr (.inl B))))), (bg, .inl (cD, 20, .inr (.inr (.inr (.inl K)))))] s.heap := hP
  have hl := lv_entry ([.ref x, .int kd, .int wh]) (n := 4) (Nat.le_of_ble_eq_true rfl)
  rw [lg_entry_eq]
  generalize (lg_sl ([.ref x, .int kd, .int wh]) ++ List.replicate (4 - (lg_sl ([.ref x, .int kd, .int wh])).length) Slot.unset).toArray = ls at hl ⊢
  have hl : lv_has ls 4 [(0, .ref x), (1, .int kd), (2, .int wh)] := hl
  refine lv_aload_n hx hb dX3_back_0 rfl (lv_at hl 0 rfl) ?_
  refine lv_iload_n hx hb dX3_back_1 rfl (lv_at hl 1 rfl) ?_
  have hPc := hP.sub (ws' := [(x, .inr (3, [.ref ks, .ref sh, .int (nI kc), .double kr])), (ks, .inl (cK, 4, .inr (.inr (.inr (.inr gk)))))]) [0, 1] rfl
  have hKc := hK.sub (tys' := [(cD, .double), (cK, .object "SteamBends$Kind")]) [0, 1] rfl
  have hDc := hD.sub (ws' := [(x, .inr (3, [.ref ks, .ref sh, .int (nI kc), .double kr])), (ks, .inl (cK, 4, .inr (.inr (.inr (.inr gk)))))]) [0, 1] (by decide) rfl
  refine vx_callq (vx_runV (As := [.int kd]) (rest := []) ⟨hx, hb, hml, hown, hts⟩ (m_X3_kindOf l hl9 dC dI s.heap.size sa cD cK x ks sh kc kr gk kd j hj hkj hk hg) (cwV 1 hts gX3_back_X3_kindOf rfl rfl rfl (by decide +kernel) ⟨(Nat.le_of_ble_eq_true rfl), (Nat.le_of_ble_eq_true rfl)⟩) ⟨PT.blind, va_recv hKc hPc (ci := 3) (q0 := 0) rfl rfl, fun U9 hU9 hW9 => ⟨rfl, PT.at hPc hKc hDc hN hX hS hU9 hW9⟩⟩ rfl rfl hl.1 rfl (lv_room (Nat.le_of_ble_eq_true rfl)) dX3_back_2 ⟨(Nat.le_of_ble_eq_true rfl), (Nat.le_of_ble_eq_true rfl)⟩) hS (fun q _ h => h.elim) (fun q h => h.elim) (fun q _ h => h.elim) (fun E9 ce9 q9 u9s t9s H1 locs hht hvm9 hp9 hB9 hz9 hk9 hS hc9 hv9 hcl9 => ?_) (fun r_135 u9s t9s H1 locs hht hvm9 hw_2_k_134 hB hz1 hk1 hS => ?_)
  · exact vx_out (hout9 _) hlocks hc9 hv9 hcl9 (fun t9q h8 h9 => ⟨(), trivial, (by obtain ⟨rfl, h7⟩ := hB9; exact ⟨rfl, by unfold cBack; rw [if_pos h7]⟩), hS.F h8⟩) (fun z hz => (hS.2.2 z hz).elim) (Nat.le_of_ble_eq_true rfl) (Nat.le_of_ble_eq_true rfl)
  · have hP := va_still hP hk1
    generalize H1 = H at hP hS ⊢
    refine W.widen (k := 1) (n := 6) (Nat.le_of_ble_eq_true rfl) (Nat.le_of_ble_eq_true rfl) ?_
    obtain ⟨rfl, hkd1, hkd2⟩ := hw_2_k_134
    refine W.eq (g2 := F0 m 5 ls [.ref hk]) rfl ?_
    refine lv_astore_n (lv' := [(3, .ref hk), (0, .ref x), (1, .int kd), (2, .int wh)]) hx hb dX3_back_5 rfl hl (by decide) rfl (fun ls hl => ?_)
    refine lv_iload_n hx hb dX3_back_6 rfl (lv_at hl 3 rfl) ?_
    rcases (show wh.toInt = 0 ∨ wh.toInt = 1 ∨ wh.toInt = 2 ∨ (wh.toInt < 0 ∨ 2 < wh.toInt) by omega) with h9 | h9 | h9 | h9
    · refine lv_tableIn (tgt := 32) (off := 25) hx hb dX3_back_7 (by omega) (by omega) (by rw [h9]; rfl) (by decide) ?_
      refine lv_aload_n hx hb dX3_back_32 rfl (lv_at hl 0 rfl) ?_
      refine va_getN (D := (dC, dI)) (ci := 0) (v := .double sp) (C := RX0) (T := TX0) (N := 4) (host := "SteamBends") hx hb hts (by decide +kernel) hown hK hP 2 rfl rfl 2 (by decide) (va_Nw.use rfl (hN.f 0 rfl)) (fun _ h9 => h9) rfl dX3_back_33 ?_
      refine vx_ret ?_
      refine W.widen (k := 2) (n := 12) (Nat.le_of_ble_eq_true rfl) (Nat.le_of_ble_eq_true rfl) ?_
      exact W.dret hx hb hr (fun t9s hht hW9 => ⟨⟨sp, (), rfl, ⟨by unfold vBack; rw [if_pos h9], by unfold cBack; (repeat' split) <;> omega⟩, trivial⟩, hS.F hht⟩) hS.2.2 dX3_back_36
    · refine lv_tableIn (tgt := 37) (off := 30) hx hb dX3_back_7 (by omega) (by omega) (by rw [h9]; rfl) (by decide) ?_
      refine lv_aload_n hx hb dX3_back_37 rfl (lv_at hl 0 rfl) ?_
      refine va_getN (D := (dC, dI)) (ci := 0) (v := .double st) (C := RX0) (T := TX0) (N := 4) (host := "SteamBends") hx hb hts (by decide +kernel) hown hK hP 2 rfl rfl 3 (by decide) (va_Nw.use rfl (hN.f 1 rfl)) (fun _ h9 => h9) rfl dX3_back_38 ?_
      refine vx_ret ?_
      refine W.widen (k := 2) (n := 12) (Nat.le_of_ble_eq_true rfl) (Nat.le_of_ble_eq_true rfl) ?_
      exact W.dret hx hb hr (fun t9s hht hW9 => ⟨⟨st, (), rfl, ⟨by unfold vBack; rw [if_neg (by omega), if_pos h9], by unfold cBack; (repeat' split) <;> omega⟩, trivial⟩, hS.F hht⟩) hS.2.2 dX3_back_41
    · refine lv_tableIn (tgt := 42) (off := 35) hx hb dX3_back_7 (by omega) (by omega) (by rw [h9]; rfl) (by decide) ?_
      refine lv_aload_n hx hb dX3_back_42 rfl (lv_at hl 0 rfl) ?_
      refine lv_aload_n hx hb dX3_back_43 rfl (lv_at hl 0 rfl) ?_
      refine va_getN (D := (dC, dI)) (ci := 0) (v := .double sp) (C := RX0) (T := TX0) (N := 4) (host := "SteamBends") hx hb hts (by decide +kernel) hown hK hP 2 rfl rfl 2 (by decide) (va_Nw.use rfl (hN.f 0 rfl)) (fun _ h9 => h9) rfl dX3_back_44 ?_
      have hPc := hP.sub (ws' := [(hk, .inr (0, [.ref rw, .ref rd, .double sp, .double st])), (rd, .inr (1, [.ref bf, .ref bg, .int (nI n)])), (bf, .inl (cD, 20, .inr (.inr (.inr (.inl B))))), (bg, .inl (cD, 20, .inr (.inr (.inr (.inl K)))))]) [2, 3, 4, 5] rfl
      have hKc := hK.sub (tys' := [(cD, .double)]) [0] rfl
      refine va_calld (va_runV (As := [.double sp]) (rest := []) ⟨hx, hb, hml, hown, hts⟩ (m_X0_residue l dC dI cD hk rw rd sp st bf bg n B K sp (((hsp.dB (by omega)).1).mono (by omega) : dB 1040 _) hrd) (cwV 1 hts gX3_back_X0_residue rfl rfl rfl (by decide +kernel) ⟨(Nat.le_of_ble_eq_true rfl), (Nat.le_of_ble_eq_true rfl)⟩) ⟨PK.blind, va_recv hKc hPc (ci := 0) (q0 := 0) rfl rfl, fun U9 hU9 hW9 => ⟨rfl, PK.at hPc hKc hN hU9 hW9⟩⟩ rfl rfl hl.1 rfl (lv_room (Nat.le_of_ble_eq_true rfl)) dX3_back_47 ⟨(Nat.le_of_ble_eq_true rfl), (Nat.le_of_ble_eq_true rfl)⟩) hS (fun q _ h => h.elim) (fun q h => h.elim) (fun r_137 u9s t9s H1 locs hht hvm9 hw_47_k_136 hB hz1 hk1 hS => ?_)
      have hP := va_still hP hk1
      generalize H1 = H at hP hS ⊢
      subst hw_47_k_136
      refine vx_ret ?_
      refine W.widen (k := 2) (n := 12) (Nat.le_of_ble_eq_true rfl) (Nat.le_of_ble_eq_true rfl) ?_
      exact W.dret hx hb hr (fun t9s hht hW9 => ⟨⟨rsd B K sp n, (), rfl, ⟨by unfold vBack; rw [if_neg (by omega), if_neg (by omega)], by unfold cBack; (repeat' split) <;> omega⟩, trivial⟩, hS.F hht⟩) hS.2.2 dX3_back_50
    · refine lv_tableOut (tgt := 51) hx hb dX3_back_7 h9 (by decide) ?_
      exact vx_throwS hx hb hl9 (own := RX3) (cls := "java/lang/IndexOutOfBoundsException") (text := "what is not 0 .. 2") (names := ["java/lang/RuntimeException", "java/lang/Exception"]) (ik := 111) (is := 113) (ic := 115) (sa := sa 113) (A := fun _ => False) hown (by decide +kernel) (by decide +kernel) (hts (.classLink RX3 111 "java/lang/IndexOutOfBoundsException") (by decide +kernel)) (hts (.initialized "java/lang/IndexOutOfBoundsException") (by decide +kernel)) (hX.str 8 rfl) (vx_hat (fun w h => hts w (xin_X3_back_115 w h)) (by decide +kernel) (vx_c (va_Nw.use rfl (hN.c 2 rfl)) (vx_c (va_Nw.use rfl (hN.c 3 rfl)) (vx_c (va_Nw.use rfl (hN.c 4 rfl)) (vx_c (va_Nw.use rfl (hN.c 5 rfl)) vx_n))))) (by decide +kernel) hX.1 hX.2.1 hS (by rw [hml]; exact hl.1) dX3_back_51 dX3_back_54 dX3_back_55 dX3_back_57 dX3_back_60 (hout9 _) (Nat.le_of_ble_eq_true rfl) (Nat.le_of_ble_eq_true rfl) (Nat.le_of_ble_eq_true rfl) (Nat.le_of_ble_eq_true rfl) hlocks (fun t9s _ h8 h9 => ⟨(), trivial, ⟨rfl, (by unfold cBack; (repeat' split) <;> omega)⟩, thrF hS h8 h9⟩) (fun z hz => (hS.2.2 z hz).elim) (Nat.le_of_ble_eq_true rfl) (Nat.le_of_ble_eq_true rfl)

set_option maxHeartbeats 4000000 in
set_option maxRecDepth 100000 in
theorem m_X3_form (l : Launch) (hl9 : l.stackTraces = false) (dC : Nat → ClassId) (dI : Nat → Nat → Nat) (sz : Nat) (sa : Nat → Nat) (cD cK : ClassId) (x ks sh : Nat) (kc : Nat) (kr : UInt64) (gk : Nat → Option Nat) (rw rd : Nat) (sp st : UInt64) (kd : Int32) (j : Nat) (hj : j < 4) (hkj : kOK kd → kd = nI j) (hk : Nat) (hg : gk j = some hk) (w : UInt64) (hw : dB 1060 w) (N : Nat) (hsp : spOK N sp st) (hN9 : N ≤ 59000) : vx_Met l yX3_form wsX3_form ({ frames := 7, cells := 2, slots := 12, locals := 104 } : Room) (va_Pc [.ref x, .int kd, .double w] (PT (dC, dI) [(cD, .double), (cK, .object "SteamBends$Kind")] [(x, .inr (3, [.ref ks, .ref sh, .int (nI kc), .double kr])), (ks, .inl (cK, 4, .inr (.inr (.inr (.inr gk))))), (hk, .inr (0, [.ref rw, .ref rd, .double sp, .double st]))] sz sa)) (va_Qd (fun (r : UInt64) (_ : Unit) => r = (frm sp w 40).2 ∧ cFrm kd w = 0) (fun _ _ => True) (fun _ => False)) (vx_X (fun _ : Unit => True) (fun E _ _ => (E = eIO ∧ cFrm kd w = 1) ∨ (E = eIA ∧ cFrm kd w = 2)) (fun _ => False)) 2 12 (fun _ => False) := by
  refine vx_ofW (cc := cX3_form) (maxL := 5) (ret := (some .double)) (by decide) rfl ?_
  intro p e s m args below meth c s₁ BB hml hex9 hv
  obtain ⟨rfl, ⟨hsz, hP, hK, hD0, hN⟩, hX⟩ := hv
  have hx := BB.exec
  have hb := BB.bytes
  have hr := BB.returns
  have hts := atoms_spec (ws := wsX3_form) BB.pre
  have hown : s.vm.findClass RX3 = some m.cls := findClass_of_methodNamed BB.named
  have hlocks := BB.notSynchronized
  have hout9 : ∀ (pc : Nat) (x : ExceptionTableEntry), x ∈ c.exceptionTable.toList → covers x pc = false := fun pc x h => (hex9 x h).elim
  subst hsz
  have hD := hD0.self (sz := s.heap.size)
  generalize hAe : va_A [(x, .inr (3, [.ref ks, .ref sh, .int (nI kc), .double kr])), (ks, .inl (cK, 4, .inr (.inr (.inr (.inr gk))))), (hk, .inr (0, [.ref rw, .ref rd, .double sp, .double st]))] s.heap.size = A at hD ⊢
  have hA : ∀ q : Nat, s.heap.size ≤ q → A q := fun q h => by rw [← hAe]; exact Or.inr h
  have hS : va_S (fun _ => False) s.heap s.heap [] := va_S.rf
  have hP : va_P (dC, dI) vwCl [(x, .inr (3, [.ref ks, .ref sh, .int (nI kc), .double kr])), (ks, .inl (cK, 4, .inr (.inr (.inr (.inr gk))))), (hk, .inr (0, [.ref rw, .ref rd, .double sp, .double st]))] s.heap := hP
  have hl := lv_entry ([.ref x, .int kd, .double w]) (n := 5) (Nat.le_of_ble_eq_true rfl)
  rw [lg_entry_eq]
  generalize (lg_sl ([.ref x, .int kd, .double w]) ++ List.replicate (5 - (lg_sl ([.ref x, .int kd, .double w])).length) Slot.unset).toArray = ls at hl ⊢
  have hl : lv_has ls 5 [(0, .ref x), (1, .int kd), (2, .double w)] := hl
  refine lv_aload_n hx hb dX3_form_0 rfl (lv_at hl 0 rfl) ?_
  refine lv_iload_n hx hb dX3_form_1 rfl (lv_at hl 1 rfl) ?_
  have hPc := hP.sub (ws' := [(x, .inr (3, [.ref ks, .ref sh, .int (nI kc), .double kr])), (ks, .inl (cK, 4, .inr (.inr (.inr (.inr gk)))))]) [0, 1] rfl
  have hKc := hK.sub (tys' := [(cD, .double), (cK, .object "SteamBends$Kind")]) [0, 1] rfl
  have hDc := hD.sub (ws' := [(x, .inr (3, [.ref ks, .ref sh, .int (nI kc), .double kr])), (ks, .inl (cK, 4, .inr (.inr (.inr (.inr gk)))))]) [0, 1] (by decide) rfl
  refine vx_callq (vx_runV (As := [.int kd]) (rest := []) ⟨hx, hb, hml, hown, hts⟩ (m_X3_kindOf l hl9 dC dI s.heap.size sa cD cK x ks sh kc kr gk kd j hj hkj hk hg) (cwV 1 hts gX3_form_X3_kindOf rfl rfl rfl (by decide +kernel) ⟨(Nat.le_of_ble_eq_true rfl), (Nat.le_of_ble_eq_true rfl)⟩) ⟨PT.blind, va_recv hKc hPc (ci := 3) (q0 := 0) rfl rfl, fun U9 hU9 hW9 => ⟨rfl, PT.at hPc hKc hDc hN hX hS hU9 hW9⟩⟩ rfl rfl hl.1 rfl (lv_room (Nat.le_of_ble_eq_true rfl)) dX3_form_2 ⟨(Nat.le_of_ble_eq_true rfl), (Nat.le_of_ble_eq_true rfl)⟩) hS (fun q _ h => h.elim) (fun q h => h.elim) (fun q _ h => h.elim) (fun E9 ce9 q9 u9s t9s H1 locs hht hvm9 hp9 hB9 hz9 hk9 hS hc9 hv9 hcl9 => ?_) (fun r_139 u9s t9s H1 locs hht hvm9 hw_2_k_138 hB hz1 hk1 hS => ?_)
  · exact vx_out (hout9 _) hlocks hc9 hv9 hcl9 (fun t9q h8 h9 => ⟨(), trivial, (by obtain ⟨rfl, h7⟩ := hB9; exact Or.inl (⟨rfl, by unfold cFrm; rw [if_pos h7]⟩)), hS.F h8⟩) (fun z hz => (hS.2.2 z hz).elim) (Nat.le_of_ble_eq_true rfl) (Nat.le_of_ble_eq_true rfl)
  · have hP := va_still hP hk1
    generalize H1 = H at hP hS ⊢
    refine W.widen (k := 1) (n := 6) (Nat.le_of_ble_eq_true rfl) (Nat.le_of_ble_eq_true rfl) ?_
    obtain ⟨rfl, hkd1, hkd2⟩ := hw_2_k_138
    refine W.eq (g2 := F0 m 5 ls [.ref hk]) rfl ?_
    refine lv_astore (lv' := [(4, .ref hk), (0, .ref x), (1, .int kd), (2, .double w)]) hx hb dX3_form_5 hl (by decide) rfl (fun ls hl => ?_)
    refine lv_dload_n hx hb dX3_form_7 rfl (lv_at hl 3 rfl) ?_
    refine lv_ldc2d (v := 4593671619917905920) hx hb hown (hts (.constantDouble RX3 35 (4593671619917905920)) (by decide +kernel)) dX3_form_8 ?_
    refine lv_ldc2d (v := 4681608360884174848) hx hb hown (hts (.constantDouble RX3 87 (4681608360884174848)) (by decide +kernel)) dX3_form_11 ?_
    refine va_calli (va_runS (As := [.double w, .double 4593671619917905920, .double 4681608360884174848]) (rest := []) ⟨hx, hb, hml, hown, hts⟩ (m_X3_isWithin l w 4593671619917905920 4681608360884174848 (hw.nn (by omega)) ((by unfold dB; decide +kernel : dB 1021 4593671619917905920).nn (by omega)) ((by unfold dB; decide +kernel : dB 1040 4681608360884174848).nn (by omega))) (va_cwS 3 hts gX3_form_X3_isWithin rfl rfl rfl (by decide +kernel) ⟨(Nat.le_of_ble_eq_true rfl), (Nat.le_of_ble_eq_true rfl)⟩) ⟨fun a U g mk q => q, fun U9 hU9 hW9 => ⟨rfl, trivial⟩⟩ rfl rfl hl.1 rfl (lv_room (Nat.le_of_ble_eq_true rfl)) dX3_form_14 ⟨(Nat.le_of_ble_eq_true rfl), (Nat.le_of_ble_eq_true rfl)⟩) hS (fun q _ h => h.elim) (fun q h => h.elim) (fun r_141 u9s t9s H1 locs hht hvm9 hw_14_k_140 hB hz1 hk1 hS => ?_)
    have hP := va_still hP hk1
    generalize H1 = H at hP hS ⊢
    refine lv_if_ne (tgt := 30) hx hb dX3_form_17 (by decide) (fun c_17 => ?_) (fun c_17 => ?_)
    · have c_17 := (b01n hw_14_k_140).mp c_17
      refine lv_aload hx hb dX3_form_30 (lv_at hl 0 rfl) ?_
      refine lv_dload_n hx hb dX3_form_32 rfl (lv_at hl 3 rfl) ?_
      have hPc := hP.sub (ws' := [(hk, .inr (0, [.ref rw, .ref rd, .double sp, .double st]))]) [2] rfl
      have hKc := hK.sub (tys' := [(cD, .double)]) [0] rfl
      refine va_calld (va_runV (As := [.double w]) (rest := []) ⟨hx, hb, hml, hown, hts⟩ (m_X0_formFor l dC dI cD hk rw rd sp st (((hsp.dB (by omega)).1).mono (by omega) : dB 1038 _) w (hw.mono (by omega) : dB 1060 _)) (cwV 1 hts gX3_form_X0_formFor rfl rfl rfl (by decide +kernel) ⟨(Nat.le_of_ble_eq_true rfl), (Nat.le_of_ble_eq_true rfl)⟩) ⟨PK.blind, va_recv hKc hPc (ci := 0) (q0 := 0) rfl rfl, fun U9 hU9 hW9 => ⟨rfl, PK.at hPc hKc hN hU9 hW9⟩⟩ rfl rfl hl.1 rfl (lv_room (Nat.le_of_ble_eq_true rfl)) dX3_form_33 ⟨(Nat.le_of_ble_eq_true rfl), (Nat.le_of_ble_eq_true rfl)⟩) hS (fun q _ h => h.elim) (fun q h => h.elim) (fun r_143 u9s t9s H1 locs hht hvm9 hw_33_k_142 hB hz1 hk1 hS => ?_)
      have hP := va_still hP hk1
      generalize H1 = H at hP hS ⊢
      subst hw_33_k_142
      refine vx_ret ?_
      refine W.widen (k := 2) (n := 12) (Nat.le_of_ble_eq_true rfl) (Nat.le_of_ble_eq_true rfl) ?_
      exact W.dret hx hb hr (fun t9s hht hW9 => ⟨⟨(frm sp w 40).2, (), rfl, ⟨rfl, by unfold cFrm; (repeat' split) <;> omega⟩, trivial⟩, hS.F hht⟩) hS.2.2 dX3_form_36
    · have c_17 := (b01 hw_14_k_140).mp c_17
      exact vx_throwS hx hb hl9 (own := RX3) (cls := "java/lang/IllegalArgumentException") (text := "wanted is not 0.125 .. 100000") (names := ["java/lang/RuntimeException", "java/lang/Exception"]) (ik := 49) (is := 116) (ic := 53) (sa := sa 116) (A := fun _ => False) hown (by decide +kernel) (by decide +kernel) (hts (.classLink RX3 49 "java/lang/IllegalArgumentException") (by decide +kernel)) (hts (.initialized "java/lang/IllegalArgumentException") (by decide +kernel)) (hX.str 9 rfl) (vx_hat (fun w h => hts w (xin_X3_form_53 w h)) (by decide +kernel) (vx_c (va_Nw.use rfl (hN.c 0 rfl)) (vx_c (va_Nw.use rfl (hN.c 3 rfl)) (vx_c (va_Nw.use rfl (hN.c 4 rfl)) (vx_c (va_Nw.use rfl (hN.c 5 rfl)) vx_n))))) (by decide +kernel) hX.1 hX.2.1 hS (by rw [hml]; exact hl.1) dX3_form_20 dX3_form_23 dX3_form_24 dX3_form_26 dX3_form_29 (hout9 _) (Nat.le_of_ble_eq_true rfl) (Nat.le_of_ble_eq_true rfl) (Nat.le_of_ble_eq_true rfl) (Nat.le_of_ble_eq_true rfl) hlocks (fun t9s _ h8 h9 => ⟨(), trivial, Or.inr (⟨rfl, (by unfold cFrm; (repeat' split) <;> omega)⟩), thrF hS h8 h9⟩) (fun z hz => (hS.2.2 z hz).elim) (Nat.le_of_ble_eq_true rfl) (Nat.le_of_ble_eq_true rfl)

set_option maxHeartbeats 4000000 in
set_option maxRecDepth 100000 in
theorem m_X3_relaxed (l : Launch) (hl9 : l.stackTraces = false) (dC : Nat → ClassId) (dI : Nat → Nat → Nat) (sz : Nat) (sa : Nat → Nat) (cD cK : ClassId) (x ks sh : Nat) (kc : Nat) (kr : UInt64) (gk : Nat → Option Nat) (rw rd : Nat) (sp st : UInt64) (kd : Int32) (j : Nat) (hj : j < 4) (hkj : kOK kd → kd = nI j) (hk : Nat) (hg : gk j = some hk) (days : Int32) (N : Nat) (hsp : spOK N sp st) (hN9 : N ≤ 59000) : vx_Met l yX3_relaxed wsX3_relaxed ({ frames := 7, cells := 2, slots := 12, locals := 104 } : Room) (va_Pc [.ref x, .int kd, .int days] (PT (dC, dI) [(cD, .double), (cK, .object "SteamBends$Kind")] [(x, .inr (3, [.ref ks, .ref sh, .int (nI kc), .double kr])), (ks, .inl (cK, 4, .inr (.inr (.inr (.inr gk))))), (hk, .inr (0, [.ref rw, .ref rd, .double sp, .double st]))] sz sa)) (va_Qd (fun (r : UInt64) (_ : Unit) => r = vRx sp days ∧ cRx kd days = 0) (fun _ _ => True) (fun _ => False)) (vx_X (fun _ : Unit => True) (fun E _ _ => (E = eIO ∧ cRx kd days = 1) ∨ (E = eIA ∧ cRx kd days = 2)) (fun _ => False)) 2 12 (fun _ => False) := by
  refine vx_ofW (cc := cX3_relaxed) (maxL := 4) (ret := (some .double)) (by decide) rfl ?_
  intro p e s m args below meth c s₁ BB hml hex9 hv
  obtain ⟨rfl, ⟨hsz, hP, hK, hD0, hN⟩, hX⟩ := hv
  have hx := BB.exec
  have hb := BB.bytes
  have hr := BB.returns
  have hts := atoms_spec (ws := wsX3_relaxed) BB.pre
  have hown : s.vm.findClass RX3 = some m.cls := findClass_of_methodNamed BB.named
  have hlocks := BB.notSynchronized
  have hout9 : ∀ (pc : Nat) (x : ExceptionTableEntry), x ∈ c.exceptionTable.toList → covers x pc = false := fun pc x h => (hex9 x h).elim
  subst hsz
  have hD := hD0.self (sz := s.heap.size)
  generalize hAe : va_A [(x, .inr (3, [.ref ks, .ref sh, .int (nI kc), .double kr])), (ks, .inl (cK, 4, .inr (.inr (.inr (.inr gk))))), (hk, .inr (0, [.ref rw, .ref rd, .double sp, .double st]))] s.heap.size = A at hD ⊢
  have hA : ∀ q : Nat, s.heap.size ≤ q → A q := fun q h => by rw [← hAe]; exact Or.inr h
  have hS : va_S (fun _ => False) s.heap s.heap [] := va_S.rf
  have hP : va_P (dC, dI) vwCl [(x, .inr (3, [.ref ks, .ref sh, .int (nI kc), .double kr])), (ks, .inl (cK, 4, .inr (.inr (.inr (.inr gk))))), (hk, .inr (0, [.ref rw, .ref rd, .double sp, .double st]))] s.heap := hP
  have hl := lv_entry ([.ref x, .int kd, .int days]) (n := 4) (Nat.le_of_ble_eq_true rfl)
  rw [lg_entry_eq]
  generalize (lg_sl ([.ref x, .int kd, .int days]) ++ List.replicate (4 - (lg_sl ([.ref x, .int kd, .int days])).length) Slot.unset).toArray = ls at hl ⊢
  have hl : lv_has ls 4 [(0, .ref x), (1, .int kd), (2, .int days)] := hl
  refine lv_aload_n hx hb dX3_relaxed_0 rfl (lv_at hl 0 rfl) ?_
  refine lv_iload_n hx hb dX3_relaxed_1 rfl (lv_at hl 1 rfl) ?_
  have hPc := hP.sub (ws' := [(x, .inr (3, [.ref ks, .ref sh, .int (nI kc), .double kr])), (ks, .inl (cK, 4, .inr (.inr (.inr (.inr gk)))))]) [0, 1] rfl
  have hKc := hK.sub (tys' := [(cD, .double), (cK, .object "SteamBends$Kind")]) [0, 1] rfl
  have hDc := hD.sub (ws' := [(x, .inr (3, [.ref ks, .ref sh, .int (nI kc), .double kr])), (ks, .inl (cK, 4, .inr (.inr (.inr (.inr gk)))))]) [0, 1] (by decide) rfl
  refine vx_callq (vx_runV (As := [.int kd]) (rest := []) ⟨hx, hb, hml, hown, hts⟩ (m_X3_kindOf l hl9 dC dI s.heap.size sa cD cK x ks sh kc kr gk kd j hj hkj hk hg) (cwV 1 hts gX3_relaxed_X3_kindOf rfl rfl rfl (by decide +kernel) ⟨(Nat.le_of_ble_eq_true rfl), (Nat.le_of_ble_eq_true rfl)⟩) ⟨PT.blind, va_recv hKc hPc (ci := 3) (q0 := 0) rfl rfl, fun U9 hU9 hW9 => ⟨rfl, PT.at hPc hKc hDc hN hX hS hU9 hW9⟩⟩ rfl rfl hl.1 rfl (lv_room (Nat.le_of_ble_eq_true rfl)) dX3_relaxed_2 ⟨(Nat.le_of_ble_eq_true rfl), (Nat.le_of_ble_eq_true rfl)⟩) hS (fun q _ h => h.elim) (fun q h => h.elim) (fun q _ h => h.elim) (fun E9 ce9 q9 u9s t9s H1 locs hht hvm9 hp9 hB9 hz9 hk9 hS hc9 hv9 hcl9 => ?_) (fun r_145 u9s t9s H1 locs hht hvm9 hw_2_k_144 hB hz1 hk1 hS => ?_)
  · exact vx_out (hout9 _) hlocks hc9 hv9 hcl9 (fun t9q h8 h9 => ⟨(), trivial, (by obtain ⟨rfl, h7⟩ := hB9; exact Or.inl (⟨rfl, by unfold cRx; rw [if_pos h7]⟩)), hS.F h8⟩) (fun z hz => (hS.2.2 z hz).elim) (Nat.le_of_ble_eq_true rfl) (Nat.le_of_ble_eq_true rfl)
  · have hP := va_still hP hk1
    generalize H1 = H at hP hS ⊢
    refine W.widen (k := 1) (n := 6) (Nat.le_of_ble_eq_true rfl) (Nat.le_of_ble_eq_true rfl) ?_
    obtain ⟨rfl, hkd1, hkd2⟩ := hw_2_k_144
    refine W.eq (g2 := F0 m 5 ls [.ref hk]) rfl ?_
    refine lv_astore_n (lv' := [(3, .ref hk), (0, .ref x), (1, .int kd), (2, .int days)]) hx hb dX3_relaxed_5 rfl hl (by decide) rfl (fun ls hl => ?_)
    refine lv_iload_n hx hb dX3_relaxed_6 rfl (lv_at hl 3 rfl) ?_
    refine lv_if_lt (tgt := 17) hx hb dX3_relaxed_7 (by decide) (fun c_7 => ?_) (fun c_7 => ?_)
    · have c_7 := (z_lt (a := days.toInt) (b := 0) rfl (by decide)).mp c_7
      exact vx_throwS hx hb hl9 (own := RX3) (cls := "java/lang/IllegalArgumentException") (text := "days are not 0 .. 10000") (names := ["java/lang/RuntimeException", "java/lang/Exception"]) (ik := 49) (is := 172) (ic := 53) (sa := sa 172) (A := fun _ => False) hown (by decide +kernel) (by decide +kernel) (hts (.classLink RX3 49 "java/lang/IllegalArgumentException") (by decide +kernel)) (hts (.initialized "java/lang/IllegalArgumentException") (by decide +kernel)) (hX.str 19 rfl) (vx_hat (fun w h => hts w (xin_X3_relaxed_53 w h)) (by decide +kernel) (vx_c (va_Nw.use rfl (hN.c 0 rfl)) (vx_c (va_Nw.use rfl (hN.c 3 rfl)) (vx_c (va_Nw.use rfl (hN.c 4 rfl)) (vx_c (va_Nw.use rfl (hN.c 5 rfl)) vx_n))))) (by decide +kernel) hX.1 hX.2.1 hS (by rw [hml]; exact hl.1) dX3_relaxed_17 dX3_relaxed_20 dX3_relaxed_21 dX3_relaxed_23 dX3_relaxed_26 (hout9 _) (Nat.le_of_ble_eq_true rfl) (Nat.le_of_ble_eq_true rfl) (Nat.le_of_ble_eq_true rfl) (Nat.le_of_ble_eq_true rfl) hlocks (fun t9s _ h8 h9 => ⟨(), trivial, Or.inr (⟨rfl, (by unfold cRx; (repeat' split) <;> omega)⟩), thrF hS h8 h9⟩) (fun z hz => (hS.2.2 z hz).elim) (Nat.le_of_ble_eq_true rfl) (Nat.le_of_ble_eq_true rfl)
    · have c_7 := mt (z_lt (a := days.toInt) (b := 0) rfl (by decide)).mpr c_7
      refine lv_iload_n hx hb dX3_relaxed_10 rfl (lv_at hl 3 rfl) ?_
      refine lv_sipush (v := 10000) hx hb dX3_relaxed_11 (by decide) ?_
      refine lv_icmp_le (tgt := 27) hx hb dX3_relaxed_14 (by decide) (fun c_14 => ?_) (fun c_14 => ?_)
      · have c_14 := (z_le (a := days.toInt) (b := 10000) rfl (by decide)).mp c_14
        refine lv_dconst1 hx hb dX3_relaxed_27 ?_
        refine lv_aload_n hx hb dX3_relaxed_28 rfl (lv_at hl 0 rfl) ?_
        refine va_getN (D := (dC, dI)) (ci := 0) (v := .double sp) (C := RX0) (T := TX0) (N := 4) (host := "SteamBends") hx hb hts (by decide +kernel) hown hK hP 2 rfl rfl 2 (by decide) (va_Nw.use rfl (hN.f 0 rfl)) (fun _ h9 => h9) rfl dX3_relaxed_29 ?_
        refine lv_dconst1 hx hb dX3_relaxed_32 ?_
        refine lv_dconst1 hx hb dX3_relaxed_33 ?_
        refine lv_dconst1 hx hb dX3_relaxed_34 ?_
        refine lv_iload_n hx hb dX3_relaxed_35 rfl (lv_at hl 3 rfl) ?_
        refine lv_i2d hx hb dX3_relaxed_36 ?_
        refine lv_ldc2d (v := 4620693217682128896) hx hb hown (hts (.constantDouble RX3 174 (4620693217682128896)) (by decide +kernel)) dX3_relaxed_37 ?_
        have b_146 : dB (1054) (FP.ddiv (FP.i2d days) 4620693217682128896) := dB.div (i2d_dB days) (by unfold dL; decide +kernel : dL 1026 4620693217682128896) (by unfold dB; decide +kernel : dB 1027 4620693217682128896) (by omega) (by omega) (by omega) (by omega)
        refine lv_ddiv hx hb dX3_relaxed_40 (b_146.ok (by omega)) ?_
        have b_147 : dB (1056) (FP.dadd FP.dconst1 (FP.ddiv (FP.i2d days) 4620693217682128896)) := dB.add dB_d1 b_146 (M := 1054) (by omega) (by omega) (by omega)
        refine lv_dadd hx hb dX3_relaxed_41 (b_147.ok (by omega)) ?_
        have b_148 : dB (1025) (FP.ddiv FP.dconst1 (FP.dadd FP.dconst1 (FP.ddiv (FP.i2d days) 4620693217682128896))) := dB.div dB_d1 (rx_dL (by omega)) b_147 (by omega) (by omega) (by omega) (by omega)
        refine lv_ddiv hx hb dX3_relaxed_42 (b_148.ok (by omega)) ?_
        have b_149 : dB (1027) (FP.dsub FP.dconst1 (FP.ddiv FP.dconst1 (FP.dadd FP.dconst1 (FP.ddiv (FP.i2d days) 4620693217682128896)))) := dB.sub dB_d1 b_148 (M := 1025) (by omega) (by omega) (by omega)
        refine lv_dsub hx hb dX3_relaxed_43 (b_149.ok (by omega)) ?_
        have b_150 : dB (1043) (FP.dmul sp (FP.dsub FP.dconst1 (FP.ddiv FP.dconst1 (FP.dadd FP.dconst1 (FP.ddiv (FP.i2d days) 4620693217682128896))))) := dB.mul ((hsp.dB (by omega)).1) b_149 (by omega) (by omega) (by omega)
        refine lv_dmul hx hb dX3_relaxed_44 (b_150.ok (by omega)) ?_
        have b_151 : dB (1045) (FP.dadd FP.dconst1 (FP.dmul sp (FP.dsub FP.dconst1 (FP.ddiv FP.dconst1 (FP.dadd FP.dconst1 (FP.ddiv (FP.i2d days) 4620693217682128896)))))) := dB.add dB_d1 b_150 (M := 1043) (by omega) (by omega) (by omega)
        refine lv_dadd hx hb dX3_relaxed_45 (b_151.ok (by omega)) ?_
        refine vx_ret ?_
        refine W.widen (k := 2) (n := 12) (Nat.le_of_ble_eq_true rfl) (Nat.le_of_ble_eq_true rfl) ?_
        exact W.dret hx hb hr (fun t9s hht hW9 => ⟨⟨FP.dadd FP.dconst1 (FP.dmul sp (FP.dsub FP.dconst1 (FP.ddiv FP.dconst1 (FP.dadd FP.dconst1 (FP.ddiv (FP.i2d days) 4620693217682128896))))), (), rfl, ⟨rfl, by unfold cRx; (repeat' split) <;> omega⟩, trivial⟩, hS.F hht⟩) hS.2.2 dX3_relaxed_46
      · have c_14 := mt (z_le (a := days.toInt) (b := 10000) rfl (by decide)).mpr c_14
        exact vx_throwS hx hb hl9 (own := RX3) (cls := "java/lang/IllegalArgumentException") (text := "days are not 0 .. 10000") (names := ["java/lang/RuntimeException", "java/lang/Exception"]) (ik := 49) (is := 172) (ic := 53) (sa := sa 172) (A := fun _ => False) hown (by decide +kernel) (by decide +kernel) (hts (.classLink RX3 49 "java/lang/IllegalArgumentException") (by decide +kernel)) (hts (.initialized "java/lang/IllegalArgumentException") (by decide +kernel)) (hX.str 19 rfl) (vx_hat (fun w h => hts w (xin_X3_relaxed_53 w h)) (by decide +kernel) (vx_c (va_Nw.use rfl (hN.c 0 rfl)) (vx_c (va_Nw.use rfl (hN.c 3 rfl)) (vx_c (va_Nw.use rfl (hN.c 4 rfl)) (vx_c (va_Nw.use rfl (hN.c 5 rfl)) vx_n))))) (by decide +kernel) hX.1 hX.2.1 hS (by rw [hml]; exact hl.1) dX3_relaxed_17 dX3_relaxed_20 dX3_relaxed_21 dX3_relaxed_23 dX3_relaxed_26 (hout9 _) (Nat.le_of_ble_eq_true rfl) (Nat.le_of_ble_eq_true rfl) (Nat.le_of_ble_eq_true rfl) (Nat.le_of_ble_eq_true rfl) hlocks (fun t9s _ h8 h9 => ⟨(), trivial, Or.inr (⟨rfl, (by unfold cRx; (repeat' split) <;> omega)⟩), thrF hS h8 h9⟩) (fun z hz => (hS.2.2 z hz).elim) (Nat.le_of_ble_eq_true rfl) (Nat.le_of_ble_eq_true rfl)

set_option maxHeartbeats 4000000 in
set_option maxRecDepth 100000 in
theorem m_X3_minutes (l : Launch) (hl9 : l.stackTraces = false) (dC : Nat → ClassId) (dI : Nat → Nat → Nat) (sz : Nat) (sa : Nat → Nat) (cD : ClassId) (x ks sh : Nat) (kc : Nat) (kr : UInt64) (t : UInt64) (ht : dB 1060 t) : vx_Met l yX3_minutes wsX3_minutes ({ frames := 6, cells := 1, slots := 6, locals := 82 } : Room) (va_Pc [.ref x, .double t] (PT (dC, dI) [(cD, .double)] [(x, .inr (3, [.ref ks, .ref sh, .int (nI kc), .double kr]))] sz sa)) (va_Qd (fun (r : UInt64) (_ : Unit) => r = vMin t ∧ cMin t = 0) (fun _ _ => True) (fun _ => False)) (vx_X (fun _ : Unit => True) (fun E _ _ => (E = eIA ∧ cMin t = 1)) (fun _ => False)) 1 6 (fun _ => False) := by
  refine vx_ofW (cc := cX3_minutes) (maxL := 5) (ret := (some .double)) (by decide) rfl ?_
  intro p e s m args below meth c s₁ BB hml hex9 hv
  obtain ⟨rfl, ⟨hsz, hP, hK, hD0, hN⟩, hX⟩ := hv
  have hx := BB.exec
  have hb := BB.bytes
  have hr := BB.returns
  have hts := atoms_spec (ws := wsX3_minutes) BB.pre
  have hown : s.vm.findClass RX3 = some m.cls := findClass_of_methodNamed BB.named
  have hlocks := BB.notSynchronized
  have hout9 : ∀ (pc : Nat) (x : ExceptionTableEntry), x ∈ c.exceptionTable.toList → covers x pc = false := fun pc x h => (hex9 x h).elim
  subst hsz
  have hD := hD0.self (sz := s.heap.size)
  generalize hAe : va_A [(x, .inr (3, [.ref ks, .ref sh, .int (nI kc), .double kr]))] s.heap.size = A at hD ⊢
  have hA : ∀ q : Nat, s.heap.size ≤ q → A q := fun q h => by rw [← hAe]; exact Or.inr h
  have hS : va_S (fun _ => False) s.heap s.heap [] := va_S.rf
  have hP : va_P (dC, dI) vwCl [(x, .inr (3, [.ref ks, .ref sh, .int (nI kc), .double kr]))] s.heap := hP
  have hl := lv_entry ([.ref x, .double t]) (n := 5) (Nat.le_of_ble_eq_true rfl)
  rw [lg_entry_eq]
  generalize (lg_sl ([.ref x, .double t]) ++ List.replicate (5 - (lg_sl ([.ref x, .double t])).length) Slot.unset).toArray = ls at hl ⊢
  have hl : lv_has ls 5 [(0, .ref x), (1, .double t)] := hl
  refine lv_dload_n hx hb dX3_minutes_0 rfl (lv_at hl 1 rfl) ?_
  refine lv_dconst0 hx hb dX3_minutes_1 ?_
  refine lv_ldc2d (v := 4652007308841189376) hx hb hown (hts (.constantDouble RX3 37 (4652007308841189376)) (by decide +kernel)) dX3_minutes_2 ?_
  refine va_calli (va_runS (As := [.double t, .double FP.dconst0, .double 4652007308841189376]) (rest := []) ⟨hx, hb, hml, hown, hts⟩ (m_X3_isWithin l t FP.dconst0 4652007308841189376 (ht.nn (by omega)) (dB_d0.nn (by omega)) ((by unfold dB; decide +kernel : dB 1033 4652007308841189376).nn (by omega))) (va_cwS 3 hts gX3_minutes_X3_isWithin rfl rfl rfl (by decide +kernel) ⟨(Nat.le_of_ble_eq_true rfl), (Nat.le_of_ble_eq_true rfl)⟩) ⟨fun a U g mk q => q, fun U9 hU9 hW9 => ⟨rfl, trivial⟩⟩ rfl rfl hl.1 rfl (lv_room (Nat.le_of_ble_eq_true rfl)) dX3_minutes_5 ⟨(Nat.le_of_ble_eq_true rfl), (Nat.le_of_ble_eq_true rfl)⟩) hS (fun q _ h => h.elim) (fun q h => h.elim) (fun r_153 u9s t9s H1 locs hht hvm9 hw_5_k_152 hB hz1 hk1 hS => ?_)
  have hP := va_still hP hk1
  generalize H1 = H at hP hS ⊢
  refine lv_if_ne (tgt := 21) hx hb dX3_minutes_8 (by decide) (fun c_8 => ?_) (fun c_8 => ?_)
  · have c_8 := (b01n hw_5_k_152).mp c_8
    refine lv_dload_n hx hb dX3_minutes_21 rfl (lv_at hl 1 rfl) ?_
    refine lv_ldc2d (v := 4612811918334230528) hx hb hown (hts (.constantDouble RX3 121 (4612811918334230528)) (by decide +kernel)) dX3_minutes_22 ?_
    have b_154 : dB (1063) (FP.dmul t 4612811918334230528) := dB.mul ht (by unfold dB; decide +kernel : dB 1025 4612811918334230528) (by omega) (by omega) (by omega)
    refine lv_dmul hx hb dX3_minutes_25 (b_154.ok (by omega)) ?_
    refine lv_dstore_n (lv' := [(3, .double (FP.dmul t 4612811918334230528)), (0, .ref x), (1, .double t)]) hx hb dX3_minutes_26 rfl hl (by decide) rfl (fun ls hl => ?_)
    refine lv_dload_n hx hb dX3_minutes_27 rfl (lv_at hl 2 rfl) ?_
    refine lv_ldc2d (v := 4632233691727265792) hx hb hown (hts (.constantDouble RX3 123 (4632233691727265792)) (by decide +kernel)) dX3_minutes_28 ?_
    refine lv_dcmp hx hb dX3_minutes_31 ?_
    refine lv_if_le (tgt := 43) hx hb dX3_minutes_32 (by decide) (fun c_32 => ?_) (fun c_32 => ?_)
    · have c_32 := (cv_le (ht.nn (by omega)) ((by unfold dB; decide +kernel : dB 1029 4632233691727265792).nn (by omega))).mp c_32
      refine lv_dload_n hx hb dX3_minutes_43 rfl (lv_at hl 0 rfl) ?_
      refine vx_ret ?_
      refine W.widen (k := 1) (n := 6) (Nat.le_of_ble_eq_true rfl) (Nat.le_of_ble_eq_true rfl) ?_
      exact W.dret hx hb hr (fun t9s hht hW9 => ⟨⟨FP.dmul t 4612811918334230528, (), rfl, ⟨by unfold vMin; rw [if_neg (by omega)], by unfold cMin; (repeat' split) <;> omega⟩, trivial⟩, hS.F hht⟩) hS.2.2 dX3_minutes_44
    · have c_32 := mt (cv_le (ht.nn (by omega)) ((by unfold dB; decide +kernel : dB 1029 4632233691727265792).nn (by omega))).mpr c_32
      refine lv_dload_n hx hb dX3_minutes_35 rfl (lv_at hl 0 rfl) ?_
      refine lv_ldc2d (v := 4626322717216342016) hx hb hown (hts (.constantDouble RX3 125 (4626322717216342016)) (by decide +kernel)) dX3_minutes_36 ?_
      have b_155 : dB (1065) (FP.dadd (FP.dmul t 4612811918334230528) 4626322717216342016) := dB.add b_154 (by unfold dB; decide +kernel : dB 1028 4626322717216342016) (M := 1063) (by omega) (by omega) (by omega)
      refine lv_dadd hx hb dX3_minutes_39 (b_155.ok (by omega)) ?_
      refine lv_goto (tgt := 44) hx hb dX3_minutes_40 (by decide) ?_
      refine vx_ret ?_
      refine W.widen (k := 1) (n := 6) (Nat.le_of_ble_eq_true rfl) (Nat.le_of_ble_eq_true rfl) ?_
      exact W.dret hx hb hr (fun t9s hht hW9 => ⟨⟨FP.dadd (FP.dmul t 4612811918334230528) 4626322717216342016, (), rfl, ⟨by unfold vMin; rw [if_pos (by omega)], by unfold cMin; (repeat' split) <;> omega⟩, trivial⟩, hS.F hht⟩) hS.2.2 dX3_minutes_44
  · have c_8 := (b01 hw_5_k_152).mp c_8
    exact vx_throwS hx hb hl9 (own := RX3) (cls := "java/lang/IllegalArgumentException") (text := "thick is not 0 .. 1000") (names := ["java/lang/RuntimeException", "java/lang/Exception"]) (ik := 49) (is := 71) (ic := 53) (sa := sa 71) (A := fun _ => False) hown (by decide +kernel) (by decide +kernel) (hts (.classLink RX3 49 "java/lang/IllegalArgumentException") (by decide +kernel)) (hts (.initialized "java/lang/IllegalArgumentException") (by decide +kernel)) (hX.str 2 rfl) (vx_hat (fun w h => hts w (xin_X3_minutes_53 w h)) (by decide +kernel) (vx_c (va_Nw.use rfl (hN.c 0 rfl)) (vx_c (va_Nw.use rfl (hN.c 3 rfl)) (vx_c (va_Nw.use rfl (hN.c 4 rfl)) (vx_c (va_Nw.use rfl (hN.c 5 rfl)) vx_n))))) (by decide +kernel) hX.1 hX.2.1 hS (by rw [hml]; exact hl.1) dX3_minutes_11 dX3_minutes_14 dX3_minutes_15 dX3_minutes_17 dX3_minutes_20 (hout9 _) (Nat.le_of_ble_eq_true rfl) (Nat.le_of_ble_eq_true rfl) (Nat.le_of_ble_eq_true rfl) (Nat.le_of_ble_eq_true rfl) hlocks (fun t9s _ h8 h9 => ⟨(), trivial, ⟨rfl, (by unfold cMin; (repeat' split) <;> omega)⟩, thrF hS h8 h9⟩) (fun z hz => (hS.2.2 z hz).elim) (Nat.le_of_ble_eq_true rfl) (Nat.le_of_ble_eq_true rfl)

set_option maxHeartbeats 4000000 in
set_option maxRecDepth 100000 in
theorem m_X3_length (l : Launch) (hl9 : l.stackTraces = false) (dC : Nat → ClassId) (dI : Nat → Nat → Nat) (sz : Nat) (sa : Nat → Nat) (cD : ClassId) (x ks sh : Nat) (kc : Nat) (kr : UInt64) (pc tf tg : Nat) (n : Nat) (L D : Nat → UInt64) (o : Int32) (t : UInt64) (ht : dB 1060 t) (hpc : piecesOK L D n) : vx_Met l yX3_length wsX3_length ({ frames := 6, cells := 1, slots := 6, locals := 98 } : Room) (va_Pc [.ref x, .int o, .double t] (PT (dC, dI) [(cD, .double)] [(x, .inr (3, [.ref ks, .ref sh, .int (nI kc), .double kr])), (sh, .inr (2, [.ref pc])), (pc, .inr (1, [.ref tf, .ref tg, .int (nI n)])), (tf, .inl (cD, 12, .inr (.inr (.inr (.inl L))))), (tg, .inl (cD, 12, .inr (.inr (.inr (.inl D)))))] sz sa)) (va_Qd (fun (r : UInt64) (_ : Unit) => r = sumL L D o t n ∧ cLen t D n = 0) (fun _ _ => True) (fun _ => False)) (vx_X (fun _ : Unit => True) (fun E _ _ => (E = eIA ∧ cLen t D n = 1)) (fun _ => False)) 1 6 (fun _ => False) := by
  refine vx_ofW (cc := cX3_length) (maxL := 4) (ret := (some .double)) (by decide) rfl ?_
  intro p e s m args below meth c s₁ BB hml hex9 hv
  obtain ⟨rfl, ⟨hsz, hP, hK, hD0, hN⟩, hX⟩ := hv
  have hx := BB.exec
  have hb := BB.bytes
  have hr := BB.returns
  have hts := atoms_spec (ws := wsX3_length) BB.pre
  have hown : s.vm.findClass RX3 = some m.cls := findClass_of_methodNamed BB.named
  have hlocks := BB.notSynchronized
  have hout9 : ∀ (pc : Nat) (x : ExceptionTableEntry), x ∈ c.exceptionTable.toList → covers x pc = false := fun pc x h => (hex9 x h).elim
  subst hsz
  have hD := hD0.self (sz := s.heap.size)
  generalize hAe : va_A [(x, .inr (3, [.ref ks, .ref sh, .int (nI kc), .double kr])), (sh, .inr (2, [.ref pc])), (pc, .inr (1, [.ref tf, .ref tg, .int (nI n)])), (tf, .inl (cD, 12, .inr (.inr (.inr (.inl L))))), (tg, .inl (cD, 12, .inr (.inr (.inr (.inl D)))))] s.heap.size = A at hD ⊢
  have hA : ∀ q : Nat, s.heap.size ≤ q → A q := fun q h => by rw [← hAe]; exact Or.inr h
  have hS : va_S (fun _ => False) s.heap s.heap [] := va_S.rf
  have hP : va_P (dC, dI) vwCl [(x, .inr (3, [.ref ks, .ref sh, .int (nI kc), .double kr])), (sh, .inr (2, [.ref pc])), (pc, .inr (1, [.ref tf, .ref tg, .int (nI n)])), (tf, .inl (cD, 12, .inr (.inr (.inr (.inl L))))), (tg, .inl (cD, 12, .inr (.inr (.inr (.inl D)))))] s.heap := hP
  have hl := lv_entry ([.ref x, .int o, .double t]) (n := 4) (Nat.le_of_ble_eq_true rfl)
  rw [lg_entry_eq]
  generalize (lg_sl ([.ref x, .int o, .double t]) ++ List.replicate (4 - (lg_sl ([.ref x, .int o, .double t])).length) Slot.unset).toArray = ls at hl ⊢
  have hl : lv_has ls 4 [(0, .ref x), (1, .int o), (2, .double t)] := hl
  refine lv_dload_n hx hb dX3_length_0 rfl (lv_at hl 2 rfl) ?_
  refine lv_dconst0 hx hb dX3_length_1 ?_
  refine lv_ldc2d (v := 4652007308841189376) hx hb hown (hts (.constantDouble RX3 37 (4652007308841189376)) (by decide +kernel)) dX3_length_2 ?_
  refine va_calli (va_runS (As := [.double t, .double FP.dconst0, .double 4652007308841189376]) (rest := []) ⟨hx, hb, hml, hown, hts⟩ (m_X3_isWithin l t FP.dconst0 4652007308841189376 (ht.nn (by omega)) (dB_d0.nn (by omega)) ((by unfold dB; decide +kernel : dB 1033 4652007308841189376).nn (by omega))) (va_cwS 3 hts gX3_length_X3_isWithin rfl rfl rfl (by decide +kernel) ⟨(Nat.le_of_ble_eq_true rfl), (Nat.le_of_ble_eq_true rfl)⟩) ⟨fun a U g mk q => q, fun U9 hU9 hW9 => ⟨rfl, trivial⟩⟩ rfl rfl hl.1 rfl (lv_room (Nat.le_of_ble_eq_true rfl)) dX3_length_5 ⟨(Nat.le_of_ble_eq_true rfl), (Nat.le_of_ble_eq_true rfl)⟩) hS (fun q _ h => h.elim) (fun q h => h.elim) (fun r_157 u9s t9s H1 locs hht hvm9 hw_5_k_156 hB hz1 hk1 hS => ?_)
  have hP := va_still hP hk1
  generalize H1 = H at hP hS ⊢
  refine lv_if_eq (tgt := 22) hx hb dX3_length_8 (by decide) (fun c_8 => ?_) (fun c_8 => ?_)
  · have c_8 := (b01 hw_5_k_156).mp c_8
    exact vx_throwS hx hb hl9 (own := RX3) (cls := "java/lang/IllegalArgumentException") (text := "thick is not 0 .. 1000, or too thick for a radius") (names := ["java/lang/RuntimeException", "java/lang/Exception"]) (ik := 49) (is := 140) (ic := 53) (sa := sa 140) (A := fun _ => False) hown (by decide +kernel) (by decide +kernel) (hts (.classLink RX3 49 "java/lang/IllegalArgumentException") (by decide +kernel)) (hts (.initialized "java/lang/IllegalArgumentException") (by decide +kernel)) (hX.str 12 rfl) (vx_hat (fun w h => hts w (xin_X3_length_53 w h)) (by decide +kernel) (vx_c (va_Nw.use rfl (hN.c 0 rfl)) (vx_c (va_Nw.use rfl (hN.c 3 rfl)) (vx_c (va_Nw.use rfl (hN.c 4 rfl)) (vx_c (va_Nw.use rfl (hN.c 5 rfl)) vx_n))))) (by decide +kernel) hX.1 hX.2.1 hS (by rw [hml]; exact hl.1) dX3_length_22 dX3_length_25 dX3_length_26 dX3_length_28 dX3_length_31 (hout9 _) (Nat.le_of_ble_eq_true rfl) (Nat.le_of_ble_eq_true rfl) (Nat.le_of_ble_eq_true rfl) (Nat.le_of_ble_eq_true rfl) hlocks (fun t9s _ h8 h9 => ⟨(), trivial, ⟨rfl, (by unfold cLen; rw [if_pos (by intro z; exact c_8 z.1)])⟩, thrF hS h8 h9⟩) (fun z hz => (hS.2.2 z hz).elim) (Nat.le_of_ble_eq_true rfl) (Nat.le_of_ble_eq_true rfl)
  · have c_8 := (b01n hw_5_k_156).mp c_8
    refine lv_aload_n hx hb dX3_length_11 rfl (lv_at hl 0 rfl) ?_
    refine va_get (D := (dC, dI)) (ci := 3) (v := .ref sh) (C := RX3) (T := TX3) (N := 4) hx hb hts (by decide +kernel) hown hK hP 0 rfl rfl 1 (by decide) (hts (.fieldLink RX3 18 "SteamBends" "shape" "LSteamBends$Shape;") (by decide +kernel)) (fun _ h9 => h9) rfl dX3_length_12 ?_
    refine lv_dload_n hx hb dX3_length_15 rfl (lv_at hl 2 rfl) ?_
    have hPc := hP.sub (ws' := [(sh, .inr (2, [.ref pc])), (pc, .inr (1, [.ref tf, .ref tg, .int (nI n)])), (tf, .inl (cD, 12, .inr (.inr (.inr (.inl L))))), (tg, .inl (cD, 12, .inr (.inr (.inr (.inl D)))))]) [1, 2, 3, 4] rfl
    have hKc := hK.sub (tys' := [(cD, .double)]) [0] rfl
    refine va_calli (va_runV (As := [.double t]) (rest := []) ⟨hx, hb, hml, hown, hts⟩ (m_X2_isBendable l dC dI cD sh pc tf tg n L D t (ht.mono (by omega) : dB 1060 _) hpc) (cwV 1 hts gX3_length_X2_isBendable rfl rfl rfl (by decide +kernel) ⟨(Nat.le_of_ble_eq_true rfl), (Nat.le_of_ble_eq_true rfl)⟩) ⟨PK.blind, va_recv hKc hPc (ci := 2) (q0 := 0) rfl rfl, fun U9 hU9 hW9 => ⟨rfl, PK.at hPc hKc hN hU9 hW9⟩⟩ rfl rfl hl.1 rfl (lv_room (Nat.le_of_ble_eq_true rfl)) dX3_length_16 ⟨(Nat.le_of_ble_eq_true rfl), (Nat.le_of_ble_eq_true rfl)⟩) hS (fun q _ h => h.elim) (fun q h => h.elim) (fun r_159 u9s t9s H1 locs hht hvm9 hw_16_k_158 hB hz1 hk1 hS => ?_)
    have hP := va_still hP hk1
    generalize H1 = H at hP hS ⊢
    refine lv_if_ne (tgt := 32) hx hb dX3_length_19 (by decide) (fun c_19 => ?_) (fun c_19 => ?_)
    · have c_19 := (b01n hw_16_k_158).mp c_19
      refine lv_aload_n hx hb dX3_length_32 rfl (lv_at hl 0 rfl) ?_
      refine va_get (D := (dC, dI)) (ci := 3) (v := .ref sh) (C := RX3) (T := TX3) (N := 4) hx hb hts (by decide +kernel) hown hK hP 0 rfl rfl 1 (by decide) (hts (.fieldLink RX3 18 "SteamBends" "shape" "LSteamBends$Shape;") (by decide +kernel)) (fun _ h9 => h9) rfl dX3_length_33 ?_
      refine lv_iload_n hx hb dX3_length_36 rfl (lv_at hl 1 rfl) ?_
      refine lv_dload_n hx hb dX3_length_37 rfl (lv_at hl 2 rfl) ?_
      have hPc := hP.sub (ws' := [(sh, .inr (2, [.ref pc])), (pc, .inr (1, [.ref tf, .ref tg, .int (nI n)])), (tf, .inl (cD, 12, .inr (.inr (.inr (.inl L))))), (tg, .inl (cD, 12, .inr (.inr (.inr (.inl D)))))]) [1, 2, 3, 4] rfl
      have hKc := hK.sub (tys' := [(cD, .double)]) [0] rfl
      refine va_calld (va_runV (As := [.int o, .double t]) (rest := []) ⟨hx, hb, hml, hown, hts⟩ (m_X2_sumOfLengths l dC dI cD sh pc tf tg n L D o t (ht.mono (by omega) : dB 1060 _) hpc) (cwV 2 hts gX3_length_X2_sumOfLengths rfl rfl rfl (by decide +kernel) ⟨(Nat.le_of_ble_eq_true rfl), (Nat.le_of_ble_eq_true rfl)⟩) ⟨PK.blind, va_recv hKc hPc (ci := 2) (q0 := 0) rfl rfl, fun U9 hU9 hW9 => ⟨rfl, PK.at hPc hKc hN hU9 hW9⟩⟩ rfl rfl hl.1 rfl (lv_room (Nat.le_of_ble_eq_true rfl)) dX3_length_38 ⟨(Nat.le_of_ble_eq_true rfl), (Nat.le_of_ble_eq_true rfl)⟩) hS (fun q _ h => h.elim) (fun q h => h.elim) (fun r_161 u9s t9s H1 locs hht hvm9 hw_38_k_160 hB hz1 hk1 hS => ?_)
      have hP := va_still hP hk1
      generalize H1 = H at hP hS ⊢
      subst hw_38_k_160
      refine vx_ret ?_
      refine W.widen (k := 1) (n := 6) (Nat.le_of_ble_eq_true rfl) (Nat.le_of_ble_eq_true rfl) ?_
      exact W.dret hx hb hr (fun t9s hht hW9 => ⟨⟨sumL L D o t n, (), rfl, ⟨rfl, by unfold cLen; rw [if_neg (fun z => z ⟨c_8, c_19⟩)]⟩, trivial⟩, hS.F hht⟩) hS.2.2 dX3_length_41
    · have c_19 := (b01 hw_16_k_158).mp c_19
      exact vx_throwS hx hb hl9 (own := RX3) (cls := "java/lang/IllegalArgumentException") (text := "thick is not 0 .. 1000, or too thick for a radius") (names := ["java/lang/RuntimeException", "java/lang/Exception"]) (ik := 49) (is := 140) (ic := 53) (sa := sa 140) (A := fun _ => False) hown (by decide +kernel) (by decide +kernel) (hts (.classLink RX3 49 "java/lang/IllegalArgumentException") (by decide +kernel)) (hts (.initialized "java/lang/IllegalArgumentException") (by decide +kernel)) (hX.str 12 rfl) (vx_hat (fun w h => hts w (xin_X3_length_53 w h)) (by decide +kernel) (vx_c (va_Nw.use rfl (hN.c 0 rfl)) (vx_c (va_Nw.use rfl (hN.c 3 rfl)) (vx_c (va_Nw.use rfl (hN.c 4 rfl)) (vx_c (va_Nw.use rfl (hN.c 5 rfl)) vx_n))))) (by decide +kernel) hX.1 hX.2.1 hS (by rw [hml]; exact hl.1) dX3_length_22 dX3_length_25 dX3_length_26 dX3_length_28 dX3_length_31 (hout9 _) (Nat.le_of_ble_eq_true rfl) (Nat.le_of_ble_eq_true rfl) (Nat.le_of_ble_eq_true rfl) (Nat.le_of_ble_eq_true rfl) hlocks (fun t9s _ h8 h9 => ⟨(), trivial, ⟨rfl, (by unfold cLen; rw [if_pos (by intro z; exact c_19 z.2)])⟩, thrF hS h8 h9⟩) (fun z hz => (hS.2.2 z hz).elim) (Nat.le_of_ble_eq_true rfl) (Nat.le_of_ble_eq_true rfl)

set_option maxHeartbeats 4000000 in
set_option maxRecDepth 100000 in
theorem m_X3_kerfs (l : Launch) (hl9 : l.stackTraces = false) (dC : Nat → ClassId) (dI : Nat → Nat → Nat) (sz : Nat) (sa : Nat → Nat) (cD : ClassId) (x ks sh : Nat) (kc : Nat) (kr : UInt64) (a t st sw : UInt64) (za zt zs zw : Int) (ha : d8 za a) (ht : d8 zt t) (hs : d8 zs st) (hw : d8 zw sw) : vx_Met l yX3_kerfs wsX3_kerfs ({ frames := 6, cells := 1, slots := 6, locals := 82 } : Room) (va_Pc [.ref x, .double a, .double t, .double st, .double sw] (PT (dC, dI) [(cD, .double)] [(x, .inr (3, [.ref ks, .ref sh, .int (nI kc), .double kr]))] sz sa)) (va_Qi (fun (r : Int32) (u : Nat) => r = nI u ∧ kerfN a (kfC t st sw) u ∧ cKf a t st sw = 0) (fun (u : Nat) => QW (dC, dI) [(x, .inr (3, [.ref ks, .ref sh, .int (nI u), .double (FP.dsub (FP.dmul (FP.i2d (nI u)) (kfC t st sw)) a)]))] (va_A [(x, .inr (3, [.ref ks, .ref sh, .int (nI kc), .double kr]))] sz)) (va_A [(x, .inr (3, [.ref ks, .ref sh, .int (nI kc), .double kr]))] sz)) (vx_X (fun _ : Unit => True) (fun E _ _ => (E = eIA ∧ cKf a t st sw = 1)) (fun _ => False)) 1 6 (va_A [(x, .inr (3, [.ref ks, .ref sh, .int (nI kc), .double kr]))] sz) := by
  refine vx_ofW (cc := cX3_kerfs) (maxL := 11) (ret := (some .int)) (by decide) rfl ?_
  intro p e s m args below meth c s₁ BB hml hex9 hv
  obtain ⟨rfl, ⟨hsz, hP, hK, hD0, hN⟩, hX⟩ := hv
  have hx := BB.exec
  have hb := BB.bytes
  have hr := BB.returns
  have hts := atoms_spec (ws := wsX3_kerfs) BB.pre
  have hown : s.vm.findClass RX3 = some m.cls := findClass_of_methodNamed BB.named
  have hlocks := BB.notSynchronized
  have hout9 : ∀ (pc : Nat) (x : ExceptionTableEntry), x ∈ c.exceptionTable.toList → covers x pc = false := fun pc x h => (hex9 x h).elim
  subst hsz
  have hD := hD0.self (sz := s.heap.size)
  generalize hAe : va_A [(x, .inr (3, [.ref ks, .ref sh, .int (nI kc), .double kr]))] s.heap.size = A at hD ⊢
  have hA : ∀ q : Nat, s.heap.size ≤ q → A q := fun q h => by rw [← hAe]; exact Or.inr h
  have hS : va_S (fun _ => False) s.heap s.heap [] := va_S.rf
  have hP : va_P (dC, dI) vwCl [(x, .inr (3, [.ref ks, .ref sh, .int (nI kc), .double kr]))] s.heap := hP
  have hl := lv_entry ([.ref x, .double a, .double t, .double st, .double sw]) (n := 11) (Nat.le_of_ble_eq_true rfl)
  rw [lg_entry_eq]
  generalize (lg_sl ([.ref x, .double a, .double t, .double st, .double sw]) ++ List.replicate (11 - (lg_sl ([.ref x, .double a, .double t, .double st, .double sw])).length) Slot.unset).toArray = ls at hl ⊢
  have hl : lv_has ls 11 [(0, .ref x), (1, .double a), (3, .double t), (5, .double st), (7, .double sw)] := hl
  refine lv_dload_n hx hb dX3_kerfs_0 rfl (lv_at hl 1 rfl) ?_
  refine lv_dconst1 hx hb dX3_kerfs_1 ?_
  refine lv_ldc2d (v := 4645040803167600640) hx hb hown (hts (.constantDouble RX3 146 (4645040803167600640)) (by decide +kernel)) dX3_kerfs_2 ?_
  refine va_calli (va_runS (As := [.double a, .double FP.dconst1, .double 4645040803167600640]) (rest := []) ⟨hx, hb, hml, hown, hts⟩ (m_X3_isWithin l a FP.dconst1 4645040803167600640 (ha.1.nn (by omega)) (dB_d1.nn (by omega)) ((by unfold dB; decide +kernel : dB 1032 4645040803167600640).nn (by omega))) (va_cwS 3 hts gX3_kerfs_X3_isWithin rfl rfl rfl (by decide +kernel) ⟨(Nat.le_of_ble_eq_true rfl), (Nat.le_of_ble_eq_true rfl)⟩) ⟨fun a U g mk q => q, fun U9 hU9 hW9 => ⟨rfl, trivial⟩⟩ rfl rfl hl.1 rfl (lv_room (Nat.le_of_ble_eq_true rfl)) dX3_kerfs_5 ⟨(Nat.le_of_ble_eq_true rfl), (Nat.le_of_ble_eq_true rfl)⟩) hS (fun q _ h => h.elim) (fun q h => h.elim) (fun r_163 u9s t9s H1 locs hht hvm9 hw_5_k_162 hB hz1 hk1 hS => ?_)
  have hP := va_still hP hk1
  generalize H1 = H at hP hS ⊢
  refine lv_if_eq (tgt := 55) hx hb dX3_kerfs_8 (by decide) (fun c_8 => ?_) (fun c_8 => ?_)
  · have c_8 := (b01 hw_5_k_162).mp c_8
    exact vx_throwS hx hb hl9 (own := RX3) (cls := "java/lang/IllegalArgumentException") (text := "angle, thick, stays or saw is not as said") (names := ["java/lang/RuntimeException", "java/lang/Exception"]) (ik := 49) (is := 150) (ic := 53) (sa := sa 150) (A := fun _ => False) hown (by decide +kernel) (by decide +kernel) (hts (.classLink RX3 49 "java/lang/IllegalArgumentException") (by decide +kernel)) (hts (.initialized "java/lang/IllegalArgumentException") (by decide +kernel)) (hX.str 13 rfl) (vx_hat (fun w h => hts w (xin_X3_kerfs_53 w h)) (by decide +kernel) (vx_c (va_Nw.use rfl (hN.c 0 rfl)) (vx_c (va_Nw.use rfl (hN.c 3 rfl)) (vx_c (va_Nw.use rfl (hN.c 4 rfl)) (vx_c (va_Nw.use rfl (hN.c 5 rfl)) vx_n))))) (by decide +kernel) hX.1 hX.2.1 hS (by rw [hml]; exact hl.1) dX3_kerfs_55 dX3_kerfs_58 dX3_kerfs_59 dX3_kerfs_61 dX3_kerfs_64 (hout9 _) (Nat.le_of_ble_eq_true rfl) (Nat.le_of_ble_eq_true rfl) (Nat.le_of_ble_eq_true rfl) (Nat.le_of_ble_eq_true rfl) hlocks (fun t9s _ h8 h9 => ⟨(), trivial, ⟨rfl, (by unfold cKf; (repeat' split) <;> omega)⟩, thrF hS h8 h9⟩) (fun z hz => (hS.2.2 z hz).elim) (Nat.le_of_ble_eq_true rfl) (Nat.le_of_ble_eq_true rfl)
  · have c_8 := (b01n hw_5_k_162).mp c_8
    refine lv_dload_n hx hb dX3_kerfs_11 rfl (lv_at hl 2 rfl) ?_
    refine lv_dconst1 hx hb dX3_kerfs_12 ?_
    refine lv_ldc2d (v := 4652007308841189376) hx hb hown (hts (.constantDouble RX3 37 (4652007308841189376)) (by decide +kernel)) dX3_kerfs_13 ?_
    refine va_calli (va_runS (As := [.double t, .double FP.dconst1, .double 4652007308841189376]) (rest := []) ⟨hx, hb, hml, hown, hts⟩ (m_X3_isWithin l t FP.dconst1 4652007308841189376 (ht.1.nn (by omega)) (dB_d1.nn (by omega)) ((by unfold dB; decide +kernel : dB 1033 4652007308841189376).nn (by omega))) (va_cwS 3 hts gX3_kerfs_X3_isWithin rfl rfl rfl (by decide +kernel) ⟨(Nat.le_of_ble_eq_true rfl), (Nat.le_of_ble_eq_true rfl)⟩) ⟨fun a U g mk q => q, fun U9 hU9 hW9 => ⟨rfl, trivial⟩⟩ rfl rfl hl.1 rfl (lv_room (Nat.le_of_ble_eq_true rfl)) dX3_kerfs_16 ⟨(Nat.le_of_ble_eq_true rfl), (Nat.le_of_ble_eq_true rfl)⟩) hS (fun q _ h => h.elim) (fun q h => h.elim) (fun r_165 u9s t9s H1 locs hht hvm9 hw_16_k_164 hB hz1 hk1 hS => ?_)
    have hP := va_still hP hk1
    generalize H1 = H at hP hS ⊢
    refine lv_if_eq (tgt := 55) hx hb dX3_kerfs_19 (by decide) (fun c_19 => ?_) (fun c_19 => ?_)
    · have c_19 := (b01 hw_16_k_164).mp c_19
      exact vx_throwS hx hb hl9 (own := RX3) (cls := "java/lang/IllegalArgumentException") (text := "angle, thick, stays or saw is not as said") (names := ["java/lang/RuntimeException", "java/lang/Exception"]) (ik := 49) (is := 150) (ic := 53) (sa := sa 150) (A := fun _ => False) hown (by decide +kernel) (by decide +kernel) (hts (.classLink RX3 49 "java/lang/IllegalArgumentException") (by decide +kernel)) (hts (.initialized "java/lang/IllegalArgumentException") (by decide +kernel)) (hX.str 13 rfl) (vx_hat (fun w h => hts w (xin_X3_kerfs_53 w h)) (by decide +kernel) (vx_c (va_Nw.use rfl (hN.c 0 rfl)) (vx_c (va_Nw.use rfl (hN.c 3 rfl)) (vx_c (va_Nw.use rfl (hN.c 4 rfl)) (vx_c (va_Nw.use rfl (hN.c 5 rfl)) vx_n))))) (by decide +kernel) hX.1 hX.2.1 hS (by rw [hml]; exact hl.1) dX3_kerfs_55 dX3_kerfs_58 dX3_kerfs_59 dX3_kerfs_61 dX3_kerfs_64 (hout9 _) (Nat.le_of_ble_eq_true rfl) (Nat.le_of_ble_eq_true rfl) (Nat.le_of_ble_eq_true rfl) (Nat.le_of_ble_eq_true rfl) hlocks (fun t9s _ h8 h9 => ⟨(), trivial, ⟨rfl, (by unfold cKf; (repeat' split) <;> omega)⟩, thrF hS h8 h9⟩) (fun z hz => (hS.2.2 z hz).elim) (Nat.le_of_ble_eq_true rfl) (Nat.le_of_ble_eq_true rfl)
    · have c_19 := (b01n hw_16_k_164).mp c_19
      refine lv_dload hx hb dX3_kerfs_22 (lv_at hl 3 rfl) ?_
      refine lv_ldc2d (v := 4593671619917905920) hx hb hown (hts (.constantDouble RX3 35 (4593671619917905920)) (by decide +kernel)) dX3_kerfs_24 ?_
      refine lv_dload_n hx hb dX3_kerfs_27 rfl (lv_at hl 2 rfl) ?_
      refine va_calli (va_runS (As := [.double st, .double 4593671619917905920, .double t]) (rest := []) ⟨hx, hb, hml, hown, hts⟩ (m_X3_isWithin l st 4593671619917905920 t (hs.1.nn (by omega)) ((by unfold dB; decide +kernel : dB 1021 4593671619917905920).nn (by omega)) (ht.1.nn (by omega))) (va_cwS 3 hts gX3_kerfs_X3_isWithin rfl rfl rfl (by decide +kernel) ⟨(Nat.le_of_ble_eq_true rfl), (Nat.le_of_ble_eq_true rfl)⟩) ⟨fun a U g mk q => q, fun U9 hU9 hW9 => ⟨rfl, trivial⟩⟩ rfl rfl hl.1 rfl (lv_room (Nat.le_of_ble_eq_true rfl)) dX3_kerfs_28 ⟨(Nat.le_of_ble_eq_true rfl), (Nat.le_of_ble_eq_true rfl)⟩) hS (fun q _ h => h.elim) (fun q h => h.elim) (fun r_167 u9s t9s H1 locs hht hvm9 hw_28_k_166 hB hz1 hk1 hS => ?_)
      have hP := va_still hP hk1
      generalize H1 = H at hP hS ⊢
      refine lv_if_eq (tgt := 55) hx hb dX3_kerfs_31 (by decide) (fun c_31 => ?_) (fun c_31 => ?_)
      · have c_31 := (b01 hw_28_k_166).mp c_31
        exact vx_throwS hx hb hl9 (own := RX3) (cls := "java/lang/IllegalArgumentException") (text := "angle, thick, stays or saw is not as said") (names := ["java/lang/RuntimeException", "java/lang/Exception"]) (ik := 49) (is := 150) (ic := 53) (sa := sa 150) (A := fun _ => False) hown (by decide +kernel) (by decide +kernel) (hts (.classLink RX3 49 "java/lang/IllegalArgumentException") (by decide +kernel)) (hts (.initialized "java/lang/IllegalArgumentException") (by decide +kernel)) (hX.str 13 rfl) (vx_hat (fun w h => hts w (xin_X3_kerfs_53 w h)) (by decide +kernel) (vx_c (va_Nw.use rfl (hN.c 0 rfl)) (vx_c (va_Nw.use rfl (hN.c 3 rfl)) (vx_c (va_Nw.use rfl (hN.c 4 rfl)) (vx_c (va_Nw.use rfl (hN.c 5 rfl)) vx_n))))) (by decide +kernel) hX.1 hX.2.1 hS (by rw [hml]; exact hl.1) dX3_kerfs_55 dX3_kerfs_58 dX3_kerfs_59 dX3_kerfs_61 dX3_kerfs_64 (hout9 _) (Nat.le_of_ble_eq_true rfl) (Nat.le_of_ble_eq_true rfl) (Nat.le_of_ble_eq_true rfl) (Nat.le_of_ble_eq_true rfl) hlocks (fun t9s _ h8 h9 => ⟨(), trivial, ⟨rfl, (by unfold cKf; (repeat' split) <;> omega)⟩, thrF hS h8 h9⟩) (fun z hz => (hS.2.2 z hz).elim) (Nat.le_of_ble_eq_true rfl) (Nat.le_of_ble_eq_true rfl)
      · have c_31 := (b01n hw_28_k_166).mp c_31
        refine lv_dload hx hb dX3_kerfs_34 (lv_at hl 3 rfl) ?_
        refine lv_dload_n hx hb dX3_kerfs_36 rfl (lv_at hl 2 rfl) ?_
        refine lv_dcmp hx hb dX3_kerfs_37 ?_
        refine lv_if_eq (tgt := 55) hx hb dX3_kerfs_38 (by decide) (fun c_38 => ?_) (fun c_38 => ?_)
        · have c_38 := (cv_eq (hs.1.nn (by omega)) (ht.1.nn (by omega))).mp c_38
          exact vx_throwS hx hb hl9 (own := RX3) (cls := "java/lang/IllegalArgumentException") (text := "angle, thick, stays or saw is not as said") (names := ["java/lang/RuntimeException", "java/lang/Exception"]) (ik := 49) (is := 150) (ic := 53) (sa := sa 150) (A := fun _ => False) hown (by decide +kernel) (by decide +kernel) (hts (.classLink RX3 49 "java/lang/IllegalArgumentException") (by decide +kernel)) (hts (.initialized "java/lang/IllegalArgumentException") (by decide +kernel)) (hX.str 13 rfl) (vx_hat (fun w h => hts w (xin_X3_kerfs_53 w h)) (by decide +kernel) (vx_c (va_Nw.use rfl (hN.c 0 rfl)) (vx_c (va_Nw.use rfl (hN.c 3 rfl)) (vx_c (va_Nw.use rfl (hN.c 4 rfl)) (vx_c (va_Nw.use rfl (hN.c 5 rfl)) vx_n))))) (by decide +kernel) hX.1 hX.2.1 hS (by rw [hml]; exact hl.1) dX3_kerfs_55 dX3_kerfs_58 dX3_kerfs_59 dX3_kerfs_61 dX3_kerfs_64 (hout9 _) (Nat.le_of_ble_eq_true rfl) (Nat.le_of_ble_eq_true rfl) (Nat.le_of_ble_eq_true rfl) (Nat.le_of_ble_eq_true rfl) hlocks (fun t9s _ h8 h9 => ⟨(), trivial, ⟨rfl, (by unfold cKf; (repeat' split) <;> omega)⟩, thrF hS h8 h9⟩) (fun z hz => (hS.2.2 z hz).elim) (Nat.le_of_ble_eq_true rfl) (Nat.le_of_ble_eq_true rfl)
        · have c_38 := mt (cv_eq (hs.1.nn (by omega)) (ht.1.nn (by omega))).mpr c_38
          refine lv_dload hx hb dX3_kerfs_41 (lv_at hl 4 rfl) ?_
          refine lv_ldc2d (v := 4593671619917905920) hx hb hown (hts (.constantDouble RX3 35 (4593671619917905920)) (by decide +kernel)) dX3_kerfs_43 ?_
          refine lv_ldc2d (v := 4636737291354636288) hx hb hown (hts (.constantDouble RX3 148 (4636737291354636288)) (by decide +kernel)) dX3_kerfs_46 ?_
          refine va_calli (va_runS (As := [.double sw, .double 4593671619917905920, .double 4636737291354636288]) (rest := []) ⟨hx, hb, hml, hown, hts⟩ (m_X3_isWithin l sw 4593671619917905920 4636737291354636288 (hw.1.nn (by omega)) ((by unfold dB; decide +kernel : dB 1021 4593671619917905920).nn (by omega)) ((by unfold dB; decide +kernel : dB 1030 4636737291354636288).nn (by omega))) (va_cwS 3 hts gX3_kerfs_X3_isWithin rfl rfl rfl (by decide +kernel) ⟨(Nat.le_of_ble_eq_true rfl), (Nat.le_of_ble_eq_true rfl)⟩) ⟨fun a U g mk q => q, fun U9 hU9 hW9 => ⟨rfl, trivial⟩⟩ rfl rfl hl.1 rfl (lv_room (Nat.le_of_ble_eq_true rfl)) dX3_kerfs_49 ⟨(Nat.le_of_ble_eq_true rfl), (Nat.le_of_ble_eq_true rfl)⟩) hS (fun q _ h => h.elim) (fun q h => h.elim) (fun r_169 u9s t9s H1 locs hht hvm9 hw_49_k_168 hB hz1 hk1 hS => ?_)
          have hP := va_still hP hk1
          generalize H1 = H at hP hS ⊢
          refine lv_if_ne (tgt := 65) hx hb dX3_kerfs_52 (by decide) (fun c_52 => ?_) (fun c_52 => ?_)
          · have c_52 := (b01n hw_49_k_168).mp c_52
            refine lv_dload hx hb dX3_kerfs_65 (lv_at hl 4 rfl) ?_
            refine lv_dload_n hx hb dX3_kerfs_67 rfl (lv_at hl 2 rfl) ?_
            refine lv_dload hx hb dX3_kerfs_68 (lv_at hl 3 rfl) ?_
            have b_170 : dB (1062) (FP.dsub t st) := dB.sub ht.1 hs.1 (M := 1060) (by omega) (by omega) (by omega)
            refine lv_dsub hx hb dX3_kerfs_70 (b_170.ok (by omega)) ?_
            have b_171 : dB (1064) (FP.ddiv sw (FP.dsub t st)) := dB.div hw.1 ((kf_gap ht hs (by omega) (by omega) c_38 (by omega)).1) b_170 (by omega) (by omega) (by omega) (by omega)
            refine lv_ddiv hx hb dX3_kerfs_71 (b_171.ok (by omega)) ?_
            refine lv_ldc2d (v := 4633260481411531256) hx hb hown (hts (.constantDouble RX3 152 (4633260481411531256)) (by decide +kernel)) dX3_kerfs_72 ?_
            have b_172 : dB (1071) (FP.dmul (FP.ddiv sw (FP.dsub t st)) 4633260481411531256) := dB.mul b_171 (by unfold dB; decide +kernel : dB 1029 4633260481411531256) (by omega) (by omega) (by omega)
            refine lv_dmul hx hb dX3_kerfs_75 (b_172.ok (by omega)) ?_
            refine lv_dstore (lv' := [(9, .double (FP.dmul (FP.ddiv sw (FP.dsub t st)) 4633260481411531256)), (0, .ref x), (1, .double a), (3, .double t), (5, .double st), (7, .double sw)]) hx hb dX3_kerfs_76 hl (by decide) rfl (fun ls hl => ?_)
            refine lv_aload_n hx hb dX3_kerfs_78 rfl (lv_at hl 1 rfl) ?_
            refine lv_dload_n hx hb dX3_kerfs_79 rfl (lv_at hl 2 rfl) ?_
            refine lv_dload hx hb dX3_kerfs_80 (lv_at hl 0 rfl) ?_
            have hk9 : kerfOK a (kfC t st sw) := kerf_ok ha ht hs hw (by omega) (by omega) c_38 (by omega) (by omega) (by omega)
            have hS : va_S A s.heap H locs := hS.up noA
            refine va_calli (va_runS (As := [.double a, .double (FP.dmul (FP.ddiv sw (FP.dsub t st)) 4633260481411531256)]) (rest := [.ref x]) ⟨hx, hb, hml, hown, hts⟩ (m_X3_leastKerfs l a (FP.dmul (FP.ddiv sw (FP.dsub t st)) 4633260481411531256) hk9) (va_cwS 2 hts gX3_kerfs_X3_leastKerfs rfl rfl rfl (by decide +kernel) ⟨(Nat.le_of_ble_eq_true rfl), (Nat.le_of_ble_eq_true rfl)⟩) ⟨fun a U g mk q => q, fun U9 hU9 hW9 => ⟨rfl, trivial⟩⟩ rfl rfl hl.1 rfl (lv_room (Nat.le_of_ble_eq_true rfl)) dX3_kerfs_82 ⟨(Nat.le_of_ble_eq_true rfl), (Nat.le_of_ble_eq_true rfl)⟩) hS (fun q _ h => h.elim) (fun q h => h.elim) (fun r_174 u9s t9s H1 locs hht hvm9 hw_82_k_173 hB hz1 hk1 hS => ?_)
            have hP := va_still hP hk1
            generalize H1 = H at hP hS ⊢
            obtain ⟨N9, rfl, hN9⟩ := hw_82_k_173
            have hN9b := hN9.2.1
            refine va_put (D := (dC, dI)) (ci := 3) (v := .int (nI N9)) (ty := .int) (C := RX3) (T := TX3) (N := 4) hx hb hts (by decide +kernel) tyX3 tyX3_ok nmX3 hown hK hP hD hS 0 rfl rfl 2 (by decide) (hts (.fieldLink RX3 22 "SteamBends" "kerfCount" "I") (by decide +kernel)) (fun _ h9 => h9) rfl (by decide +kernel) rfl rfl (Nat.le_of_ble_eq_true rfl) dX3_kerfs_85 (fun H locs hP hD hS => ?_)
            have hP : va_P (dC, dI) vwCl [(x, .inr (3, [.ref ks, .ref sh, .int (nI N9), .double kr]))] H := hP
            have hD : va_D A [(x, .inr (3, [.ref ks, .ref sh, .int (nI N9), .double kr]))] := hD
            refine lv_aload_n hx hb dX3_kerfs_88 rfl (lv_at hl 1 rfl) ?_
            refine lv_aload_n hx hb dX3_kerfs_89 rfl (lv_at hl 1 rfl) ?_
            refine va_get (D := (dC, dI)) (ci := 3) (v := .int (nI N9)) (C := RX3) (T := TX3) (N := 4) hx hb hts (by decide +kernel) hown hK hP 0 rfl rfl 2 (by decide) (hts (.fieldLink RX3 22 "SteamBends" "kerfCount" "I") (by decide +kernel)) (fun _ h9 => h9) rfl dX3_kerfs_90 ?_
            refine lv_i2d hx hb dX3_kerfs_93 ?_
            refine lv_dload hx hb dX3_kerfs_94 (lv_at hl 0 rfl) ?_
            have b_175 : dB (1105) (FP.dmul (FP.i2d (nI N9)) (FP.dmul (FP.ddiv sw (FP.dsub t st)) 4633260481411531256)) := dB.mul (i2d_dB (nI N9)) b_172 (by omega) (by omega) (by omega)
            refine lv_dmul hx hb dX3_kerfs_96 (b_175.ok (by omega)) ?_
            refine lv_dload_n hx hb dX3_kerfs_97 rfl (lv_at hl 2 rfl) ?_
            have b_176 : dB (1107) (FP.dsub (FP.dmul (FP.i2d (nI N9)) (FP.dmul (FP.ddiv sw (FP.dsub t st)) 4633260481411531256)) a) := dB.sub b_175 ha.1 (M := 1105) (by omega) (by omega) (by omega)
            refine lv_dsub hx hb dX3_kerfs_98 (b_176.ok (by omega)) ?_
            refine va_put (D := (dC, dI)) (ci := 3) (v := .double (FP.dsub (FP.dmul (FP.i2d (nI N9)) (FP.dmul (FP.ddiv sw (FP.dsub t st)) 4633260481411531256)) a)) (ty := .double) (C := RX3) (T := TX3) (N := 4) hx hb hts (by decide +kernel) tyX3 tyX3_ok nmX3 hown hK hP hD hS 0 rfl rfl 3 (by decide) (hts (.fieldLink RX3 26 "SteamBends" "kerfRest" "D") (by decide +kernel)) (fun _ h9 => h9) rfl (by decide +kernel) rfl rfl (Nat.le_of_ble_eq_true rfl) dX3_kerfs_99 (fun H locs hP hD hS => ?_)
            have hP : va_P (dC, dI) vwCl [(x, .inr (3, [.ref ks, .ref sh, .int (nI N9), .double (FP.dsub (FP.dmul (FP.i2d (nI N9)) (FP.dmul (FP.ddiv sw (FP.dsub t st)) 4633260481411531256)) a)]))] H := hP
            have hD : va_D A [(x, .inr (3, [.ref ks, .ref sh, .int (nI N9), .double (FP.dsub (FP.dmul (FP.i2d (nI N9)) (FP.dmul (FP.ddiv sw (FP.dsub t st)) 4633260481411531256)) a)]))] := hD
            refine lv_aload_n hx hb dX3_kerfs_102 rfl (lv_at hl 1 rfl) ?_
            refine va_get (D := (dC, dI)) (ci := 3) (v := .int (nI N9)) (C := RX3) (T := TX3) (N := 4) hx hb hts (by decide +kernel) hown hK hP 0 rfl rfl 2 (by decide) (hts (.fieldLink RX3 22 "SteamBends" "kerfCount" "I") (by decide +kernel)) (fun _ h9 => h9) rfl dX3_kerfs_103 ?_
            refine vx_ret ?_
            refine W.widen (k := 1) (n := 6) (Nat.le_of_ble_eq_true rfl) (Nat.le_of_ble_eq_true rfl) ?_
            have hP9 := hP.sub (ws' := [(x, .inr (3, [.ref ks, .ref sh, .int (nI N9), .double (FP.dsub (FP.dmul (FP.i2d (nI N9)) (FP.dmul (FP.ddiv sw (FP.dsub t st)) 4633260481411531256)) a)]))]) [0] rfl
            have hD9 := hD.sub (ws' := [(x, .inr (3, [.ref ks, .ref sh, .int (nI N9), .double (FP.dsub (FP.dmul (FP.i2d (nI N9)) (FP.dmul (FP.ddiv sw (FP.dsub t st)) 4633260481411531256)) a)]))]) [0] (by decide) rfl
            exact W.iret hx hb hr (fun t9s hht hW9 => ⟨⟨nI N9, N9, rfl, ⟨rfl, hN9, by unfold cKf; (repeat' split) <;> omega⟩, ⟨by rw [hht]; exact hP9, hD9⟩⟩, hS.F hht⟩) hS.2.2 dX3_kerfs_106
          · have c_52 := (b01 hw_49_k_168).mp c_52
            exact vx_throwS hx hb hl9 (own := RX3) (cls := "java/lang/IllegalArgumentException") (text := "angle, thick, stays or saw is not as said") (names := ["java/lang/RuntimeException", "java/lang/Exception"]) (ik := 49) (is := 150) (ic := 53) (sa := sa 150) (A := fun _ => False) hown (by decide +kernel) (by decide +kernel) (hts (.classLink RX3 49 "java/lang/IllegalArgumentException") (by decide +kernel)) (hts (.initialized "java/lang/IllegalArgumentException") (by decide +kernel)) (hX.str 13 rfl) (vx_hat (fun w h => hts w (xin_X3_kerfs_53 w h)) (by decide +kernel) (vx_c (va_Nw.use rfl (hN.c 0 rfl)) (vx_c (va_Nw.use rfl (hN.c 3 rfl)) (vx_c (va_Nw.use rfl (hN.c 4 rfl)) (vx_c (va_Nw.use rfl (hN.c 5 rfl)) vx_n))))) (by decide +kernel) hX.1 hX.2.1 hS (by rw [hml]; exact hl.1) dX3_kerfs_55 dX3_kerfs_58 dX3_kerfs_59 dX3_kerfs_61 dX3_kerfs_64 (hout9 _) (Nat.le_of_ble_eq_true rfl) (Nat.le_of_ble_eq_true rfl) (Nat.le_of_ble_eq_true rfl) (Nat.le_of_ble_eq_true rfl) hlocks (fun t9s _ h8 h9 => ⟨(), trivial, ⟨rfl, (by unfold cKf; (repeat' split) <;> omega)⟩, thrF hS h8 h9⟩) (fun z hz => (hS.2.2 z hz).elim) (Nat.le_of_ble_eq_true rfl) (Nat.le_of_ble_eq_true rfl)

set_option maxHeartbeats 4000000 in
set_option maxRecDepth 100000 in
theorem m_X3_kerfAt (l : Launch) (hl9 : l.stackTraces = false) (dC : Nat → ClassId) (dI : Nat → Nat → Nat) (sz : Nat) (sa : Nat → Nat) (cD : ClassId) (x ks sh : Nat) (kc : Nat) (kr : UInt64) (k : Int32) (len : UInt64) (hlen : dB 1060 len) (hkc : kc ≤ 65535) : vx_Met l yX3_kerfAt wsX3_kerfAt ({ frames := 6, cells := 1, slots := 6, locals := 82 } : Room) (va_Pc [.ref x, .int k, .double len] (PT (dC, dI) [(cD, .double)] [(x, .inr (3, [.ref ks, .ref sh, .int (nI kc), .double kr]))] sz sa)) (va_Qd (fun (r : UInt64) (_ : Unit) => r = vKa kc k len ∧ cKa kc k len = 0) (fun _ _ => True) (fun _ => False)) (vx_X (fun _ : Unit => True) (fun E _ _ => (E = eIS ∧ cKa kc k len = 1) ∨ (E = eIO ∧ cKa kc k len = 2) ∨ (E = eIA ∧ cKa kc k len = 3)) (fun _ => False)) 1 6 (fun _ => False) := by
  refine vx_ofW (cc := cX3_kerfAt) (maxL := 4) (ret := (some .double)) (by decide) rfl ?_
  intro p e s m args below meth c s₁ BB hml hex9 hv
  obtain ⟨rfl, ⟨hsz, hP, hK, hD0, hN⟩, hX⟩ := hv
  have hx := BB.exec
  have hb := BB.bytes
  have hr := BB.returns
  have hts := atoms_spec (ws := wsX3_kerfAt) BB.pre
  have hown : s.vm.findClass RX3 = some m.cls := findClass_of_methodNamed BB.named
  have hlocks := BB.notSynchronized
  have hout9 : ∀ (pc : Nat) (x : ExceptionTableEntry), x ∈ c.exceptionTable.toList → covers x pc = false := fun pc x h => (hex9 x h).elim
  subst hsz
  have hD := hD0.self (sz := s.heap.size)
  generalize hAe : va_A [(x, .inr (3, [.ref ks, .ref sh, .int (nI kc), .double kr]))] s.heap.size = A at hD ⊢
  have hA : ∀ q : Nat, s.heap.size ≤ q → A q := fun q h => by rw [← hAe]; exact Or.inr h
  have hS : va_S (fun _ => False) s.heap s.heap [] := va_S.rf
  have hP : va_P (dC, dI) vwCl [(x, .inr (3, [.ref ks, .ref sh, .int (nI kc), .double kr]))] s.heap := hP
  have hl := lv_entry ([.ref x, .int k, .double len]) (n := 4) (Nat.le_of_ble_eq_true rfl)
  rw [lg_entry_eq]
  generalize (lg_sl ([.ref x, .int k, .double len]) ++ List.replicate (4 - (lg_sl ([.ref x, .int k, .double len])).length) Slot.unset).toArray = ls at hl ⊢
  have hl : lv_has ls 4 [(0, .ref x), (1, .int k), (2, .double len)] := hl
  refine lv_aload_n hx hb dX3_kerfAt_0 rfl (lv_at hl 0 rfl) ?_
  refine va_get (D := (dC, dI)) (ci := 3) (v := .int (nI kc)) (C := RX3) (T := TX3) (N := 4) hx hb hts (by decide +kernel) hown hK hP 0 rfl rfl 2 (by decide) (hts (.fieldLink RX3 22 "SteamBends" "kerfCount" "I") (by decide +kernel)) (fun _ h9 => h9) rfl dX3_kerfAt_1 ?_
  refine lv_if_gt (tgt := 17) hx hb dX3_kerfAt_4 (by decide) (fun c_4 => ?_) (fun c_4 => ?_)
  · have c_4 := (nI_ltI (a := 0) (b := kc) (by omega) (by omega)).mp c_4
    refine lv_iload_n hx hb dX3_kerfAt_17 rfl (lv_at hl 1 rfl) ?_
    refine lv_if_lt (tgt := 29) hx hb dX3_kerfAt_18 (by decide) (fun c_18 => ?_) (fun c_18 => ?_)
    · have c_18 := (z_lt (a := k.toInt) (b := 0) rfl (by decide)).mp c_18
      exact vx_throwS hx hb hl9 (own := RX3) (cls := "java/lang/IndexOutOfBoundsException") (text := "there is no such kerf") (names := ["java/lang/RuntimeException", "java/lang/Exception"]) (ik := 111) (is := 159) (ic := 115) (sa := sa 159) (A := fun _ => False) hown (by decide +kernel) (by decide +kernel) (hts (.classLink RX3 111 "java/lang/IndexOutOfBoundsException") (by decide +kernel)) (hts (.initialized "java/lang/IndexOutOfBoundsException") (by decide +kernel)) (hX.str 15 rfl) (vx_hat (fun w h => hts w (xin_X3_kerfAt_115 w h)) (by decide +kernel) (vx_c (va_Nw.use rfl (hN.c 2 rfl)) (vx_c (va_Nw.use rfl (hN.c 3 rfl)) (vx_c (va_Nw.use rfl (hN.c 4 rfl)) (vx_c (va_Nw.use rfl (hN.c 5 rfl)) vx_n))))) (by decide +kernel) hX.1 hX.2.1 hS (by rw [hml]; exact hl.1) dX3_kerfAt_29 dX3_kerfAt_32 dX3_kerfAt_33 dX3_kerfAt_35 dX3_kerfAt_38 (hout9 _) (Nat.le_of_ble_eq_true rfl) (Nat.le_of_ble_eq_true rfl) (Nat.le_of_ble_eq_true rfl) (Nat.le_of_ble_eq_true rfl) hlocks (fun t9s _ h8 h9 => ⟨(), trivial, Or.inr (Or.inl (⟨rfl, (by unfold cKa; (repeat' split) <;> omega)⟩)), thrF hS h8 h9⟩) (fun z hz => (hS.2.2 z hz).elim) (Nat.le_of_ble_eq_true rfl) (Nat.le_of_ble_eq_true rfl)
    · have c_18 := mt (z_lt (a := k.toInt) (b := 0) rfl (by decide)).mpr c_18
      refine lv_iload_n hx hb dX3_kerfAt_21 rfl (lv_at hl 1 rfl) ?_
      refine lv_aload_n hx hb dX3_kerfAt_22 rfl (lv_at hl 0 rfl) ?_
      refine va_get (D := (dC, dI)) (ci := 3) (v := .int (nI kc)) (C := RX3) (T := TX3) (N := 4) hx hb hts (by decide +kernel) hown hK hP 0 rfl rfl 2 (by decide) (hts (.fieldLink RX3 22 "SteamBends" "kerfCount" "I") (by decide +kernel)) (fun _ h9 => h9) rfl dX3_kerfAt_23 ?_
      refine lv_icmp_lt (tgt := 39) hx hb dX3_kerfAt_26 (by decide) (fun c_26 => ?_) (fun c_26 => ?_)
      · have c_26 := (z_lt (a := k.toInt) (b := ((kc : Nat) : Int)) rfl (nI_toInt (by omega))).mp c_26
        refine lv_dload_n hx hb dX3_kerfAt_39 rfl (lv_at hl 2 rfl) ?_
        refine lv_dconst0 hx hb dX3_kerfAt_40 ?_
        refine lv_ldc2d (v := 4666723172467343360) hx hb hown (hts (.constantDouble RX3 43 (4666723172467343360)) (by decide +kernel)) dX3_kerfAt_41 ?_
        refine va_calli (va_runS (As := [.double len, .double FP.dconst0, .double 4666723172467343360]) (rest := []) ⟨hx, hb, hml, hown, hts⟩ (m_X3_isWithin l len FP.dconst0 4666723172467343360 (hlen.nn (by omega)) (dB_d0.nn (by omega)) ((by unfold dB; decide +kernel : dB 1037 4666723172467343360).nn (by omega))) (va_cwS 3 hts gX3_kerfAt_X3_isWithin rfl rfl rfl (by decide +kernel) ⟨(Nat.le_of_ble_eq_true rfl), (Nat.le_of_ble_eq_true rfl)⟩) ⟨fun a U g mk q => q, fun U9 hU9 hW9 => ⟨rfl, trivial⟩⟩ rfl rfl hl.1 rfl (lv_room (Nat.le_of_ble_eq_true rfl)) dX3_kerfAt_44 ⟨(Nat.le_of_ble_eq_true rfl), (Nat.le_of_ble_eq_true rfl)⟩) hS (fun q _ h => h.elim) (fun q h => h.elim) (fun r_178 u9s t9s H1 locs hht hvm9 hw_44_k_177 hB hz1 hk1 hS => ?_)
        have hP := va_still hP hk1
        generalize H1 = H at hP hS ⊢
        refine lv_if_ne (tgt := 60) hx hb dX3_kerfAt_47 (by decide) (fun c_47 => ?_) (fun c_47 => ?_)
        · have c_47 := (b01n hw_44_k_177).mp c_47
          refine lv_dload_n hx hb dX3_kerfAt_60 rfl (lv_at hl 2 rfl) ?_
          refine lv_iconst (v := 2) hx hb dX3_kerfAt_61 (by decide) ?_
          refine lv_iload_n hx hb dX3_kerfAt_62 rfl (lv_at hl 1 rfl) ?_
          refine lv_imul hx hb dX3_kerfAt_63 ?_
          refine lv_iconst (v := 1) hx hb dX3_kerfAt_64 (by decide) ?_
          refine lv_iadd hx hb dX3_kerfAt_65 ?_
          refine lv_i2d hx hb dX3_kerfAt_66 ?_
          have b_179 : dB (1094) (FP.dmul len (FP.i2d ((2 * k) + 1))) := dB.mul hlen (i2d_dB ((2 * k) + 1)) (by omega) (by omega) (by omega)
          refine lv_dmul hx hb dX3_kerfAt_67 (b_179.ok (by omega)) ?_
          refine lv_iconst (v := 2) hx hb dX3_kerfAt_68 (by decide) ?_
          refine lv_aload_n hx hb dX3_kerfAt_69 rfl (lv_at hl 0 rfl) ?_
          refine va_get (D := (dC, dI)) (ci := 3) (v := .int (nI kc)) (C := RX3) (T := TX3) (N := 4) hx hb hts (by decide +kernel) hown hK hP 0 rfl rfl 2 (by decide) (hts (.fieldLink RX3 22 "SteamBends" "kerfCount" "I") (by decide +kernel)) (fun _ h9 => h9) rfl dX3_kerfAt_70 ?_
          refine lv_imulN (x := 2) (y := kc) hx hb dX3_kerfAt_73 ?_
          refine lv_i2d hx hb dX3_kerfAt_74 ?_
          have b_180 : dB (1095) (FP.ddiv (FP.dmul len (FP.i2d ((2 * k) + 1))) (FP.i2d (nI (2 * kc)))) := dB.div b_179 (i2d_dL (k := 2 * kc) (by omega) (by omega)) (i2d_dB (nI (2 * kc))) (by omega) (by omega) (by omega) (by omega)
          refine lv_ddiv hx hb dX3_kerfAt_75 (b_180.ok (by omega)) ?_
          refine vx_ret ?_
          refine W.widen (k := 1) (n := 6) (Nat.le_of_ble_eq_true rfl) (Nat.le_of_ble_eq_true rfl) ?_
          exact W.dret hx hb hr (fun t9s hht hW9 => ⟨⟨FP.ddiv (FP.dmul len (FP.i2d ((2 * k) + 1))) (FP.i2d (nI (2 * kc))), (), rfl, ⟨rfl, by unfold cKa; (repeat' split) <;> omega⟩, trivial⟩, hS.F hht⟩) hS.2.2 dX3_kerfAt_76
        · have c_47 := (b01 hw_44_k_177).mp c_47
          exact vx_throwS hx hb hl9 (own := RX3) (cls := "java/lang/IllegalArgumentException") (text := "length is not 0 .. 10000") (names := ["java/lang/RuntimeException", "java/lang/Exception"]) (ik := 49) (is := 161) (ic := 53) (sa := sa 161) (A := fun _ => False) hown (by decide +kernel) (by decide +kernel) (hts (.classLink RX3 49 "java/lang/IllegalArgumentException") (by decide +kernel)) (hts (.initialized "java/lang/IllegalArgumentException") (by decide +kernel)) (hX.str 16 rfl) (vx_hat (fun w h => hts w (xin_X3_kerfAt_53 w h)) (by decide +kernel) (vx_c (va_Nw.use rfl (hN.c 0 rfl)) (vx_c (va_Nw.use rfl (hN.c 3 rfl)) (vx_c (va_Nw.use rfl (hN.c 4 rfl)) (vx_c (va_Nw.use rfl (hN.c 5 rfl)) vx_n))))) (by decide +kernel) hX.1 hX.2.1 hS (by rw [hml]; exact hl.1) dX3_kerfAt_50 dX3_kerfAt_53 dX3_kerfAt_54 dX3_kerfAt_56 dX3_kerfAt_59 (hout9 _) (Nat.le_of_ble_eq_true rfl) (Nat.le_of_ble_eq_true rfl) (Nat.le_of_ble_eq_true rfl) (Nat.le_of_ble_eq_true rfl) hlocks (fun t9s _ h8 h9 => ⟨(), trivial, Or.inr (Or.inr (⟨rfl, (by unfold cKa; (repeat' split) <;> omega)⟩)), thrF hS h8 h9⟩) (fun z hz => (hS.2.2 z hz).elim) (Nat.le_of_ble_eq_true rfl) (Nat.le_of_ble_eq_true rfl)
      · have c_26 := mt (z_lt (a := k.toInt) (b := ((kc : Nat) : Int)) rfl (nI_toInt (by omega))).mpr c_26
        exact vx_throwS hx hb hl9 (own := RX3) (cls := "java/lang/IndexOutOfBoundsException") (text := "there is no such kerf") (names := ["java/lang/RuntimeException", "java/lang/Exception"]) (ik := 111) (is := 159) (ic := 115) (sa := sa 159) (A := fun _ => False) hown (by decide +kernel) (by decide +kernel) (hts (.classLink RX3 111 "java/lang/IndexOutOfBoundsException") (by decide +kernel)) (hts (.initialized "java/lang/IndexOutOfBoundsException") (by decide +kernel)) (hX.str 15 rfl) (vx_hat (fun w h => hts w (xin_X3_kerfAt_115 w h)) (by decide +kernel) (vx_c (va_Nw.use rfl (hN.c 2 rfl)) (vx_c (va_Nw.use rfl (hN.c 3 rfl)) (vx_c (va_Nw.use rfl (hN.c 4 rfl)) (vx_c (va_Nw.use rfl (hN.c 5 rfl)) vx_n))))) (by decide +kernel) hX.1 hX.2.1 hS (by rw [hml]; exact hl.1) dX3_kerfAt_29 dX3_kerfAt_32 dX3_kerfAt_33 dX3_kerfAt_35 dX3_kerfAt_38 (hout9 _) (Nat.le_of_ble_eq_true rfl) (Nat.le_of_ble_eq_true rfl) (Nat.le_of_ble_eq_true rfl) (Nat.le_of_ble_eq_true rfl) hlocks (fun t9s _ h8 h9 => ⟨(), trivial, Or.inr (Or.inl (⟨rfl, (by unfold cKa; (repeat' split) <;> omega)⟩)), thrF hS h8 h9⟩) (fun z hz => (hS.2.2 z hz).elim) (Nat.le_of_ble_eq_true rfl) (Nat.le_of_ble_eq_true rfl)
  · have c_4 := mt (nI_ltI (a := 0) (b := kc) (by omega) (by omega)).mpr c_4
    exact vx_throwS hx hb hl9 (own := RX3) (cls := "java/lang/IllegalStateException") (text := "no kerfs were asked for") (names := ["java/lang/RuntimeException", "java/lang/Exception"]) (ik := 66) (is := 157) (ic := 70) (sa := sa 157) (A := fun _ => False) hown (by decide +kernel) (by decide +kernel) (hts (.classLink RX3 66 "java/lang/IllegalStateException") (by decide +kernel)) (hts (.initialized "java/lang/IllegalStateException") (by decide +kernel)) (hX.str 14 rfl) (vx_hat (fun w h => hts w (xin_X3_kerfAt_70 w h)) (by decide +kernel) (vx_c (va_Nw.use rfl (hN.c 1 rfl)) (vx_c (va_Nw.use rfl (hN.c 3 rfl)) (vx_c (va_Nw.use rfl (hN.c 4 rfl)) (vx_c (va_Nw.use rfl (hN.c 5 rfl)) vx_n))))) (by decide +kernel) hX.1 hX.2.1 hS (by rw [hml]; exact hl.1) dX3_kerfAt_7 dX3_kerfAt_10 dX3_kerfAt_11 dX3_kerfAt_13 dX3_kerfAt_16 (hout9 _) (Nat.le_of_ble_eq_true rfl) (Nat.le_of_ble_eq_true rfl) (Nat.le_of_ble_eq_true rfl) (Nat.le_of_ble_eq_true rfl) hlocks (fun t9s _ h8 h9 => ⟨(), trivial, Or.inl (⟨rfl, (by unfold cKa; (repeat' split) <;> omega)⟩), thrF hS h8 h9⟩) (fun z hz => (hS.2.2 z hz).elim) (Nat.le_of_ble_eq_true rfl) (Nat.le_of_ble_eq_true rfl)

set_option maxHeartbeats 4000000 in
set_option maxRecDepth 100000 in
theorem m_X3_rest (l : Launch) (hl9 : l.stackTraces = false) (dC : Nat → ClassId) (dI : Nat → Nat → Nat) (sz : Nat) (sa : Nat → Nat) (cD : ClassId) (x ks sh : Nat) (kc : Nat) (kr : UInt64) (hkc : kc ≤ 65535) : vx_Met l yX3_rest wsX3_rest ({ frames := 6, cells := 1, slots := 6, locals := 82 } : Room) (va_Pc [.ref x] (PT (dC, dI) [(cD, .double)] [(x, .inr (3, [.ref ks, .ref sh, .int (nI kc), .double kr]))] sz sa)) (va_Qd (fun (r : UInt64) (_ : Unit) => r = kr ∧ cRe kc = 0) (fun _ _ => True) (fun _ => False)) (vx_X (fun _ : Unit => True) (fun E _ _ => (E = eIS ∧ cRe kc = 1)) (fun _ => False)) 1 6 (fun _ => False) := by
  refine vx_ofW (cc := cX3_rest) (maxL := 1) (ret := (some .double)) (by decide) rfl ?_
  intro p e s m args below meth c s₁ BB hml hex9 hv
  obtain ⟨rfl, ⟨hsz, hP, hK, hD0, hN⟩, hX⟩ := hv
  have hx := BB.exec
  have hb := BB.bytes
  have hr := BB.returns
  have hts := atoms_spec (ws := wsX3_rest) BB.pre
  have hown : s.vm.findClass RX3 = some m.cls := findClass_of_methodNamed BB.named
  have hlocks := BB.notSynchronized
  have hout9 : ∀ (pc : Nat) (x : ExceptionTableEntry), x ∈ c.exceptionTable.toList → covers x pc = false := fun pc x h => (hex9 x h).elim
  subst hsz
  have hD := hD0.self (sz := s.heap.size)
  generalize hAe : va_A [(x, .inr (3, [.ref ks, .ref sh, .int (nI kc), .double kr]))] s.heap.size = A at hD ⊢
  have hA : ∀ q : Nat, s.heap.size ≤ q → A q := fun q h => by rw [← hAe]; exact Or.inr h
  have hS : va_S (fun _ => False) s.heap s.heap [] := va_S.rf
  have hP : va_P (dC, dI) vwCl [(x, .inr (3, [.ref ks, .ref sh, .int (nI kc), .double kr]))] s.heap := hP
  have hl := lv_entry ([.ref x]) (n := 1) (Nat.le_of_ble_eq_true rfl)
  rw [lg_entry_eq]
  generalize (lg_sl ([.ref x]) ++ List.replicate (1 - (lg_sl ([.ref x])).length) Slot.unset).toArray = ls at hl ⊢
  have hl : lv_has ls 1 [(0, .ref x)] := hl
  refine lv_aload_n hx hb dX3_rest_0 rfl (lv_at hl 0 rfl) ?_
  refine va_get (D := (dC, dI)) (ci := 3) (v := .int (nI kc)) (C := RX3) (T := TX3) (N := 4) hx hb hts (by decide +kernel) hown hK hP 0 rfl rfl 2 (by decide) (hts (.fieldLink RX3 22 "SteamBends" "kerfCount" "I") (by decide +kernel)) (fun _ h9 => h9) rfl dX3_rest_1 ?_
  refine lv_if_gt (tgt := 17) hx hb dX3_rest_4 (by decide) (fun c_4 => ?_) (fun c_4 => ?_)
  · have c_4 := (nI_ltI (a := 0) (b := kc) (by omega) (by omega)).mp c_4
    refine lv_aload_n hx hb dX3_rest_17 rfl (lv_at hl 0 rfl) ?_
    refine va_get (D := (dC, dI)) (ci := 3) (v := .double kr) (C := RX3) (T := TX3) (N := 4) hx hb hts (by decide +kernel) hown hK hP 0 rfl rfl 3 (by decide) (hts (.fieldLink RX3 26 "SteamBends" "kerfRest" "D") (by decide +kernel)) (fun _ h9 => h9) rfl dX3_rest_18 ?_
    refine vx_ret ?_
    refine W.widen (k := 1) (n := 6) (Nat.le_of_ble_eq_true rfl) (Nat.le_of_ble_eq_true rfl) ?_
    exact W.dret hx hb hr (fun t9s hht hW9 => ⟨⟨kr, (), rfl, ⟨rfl, by unfold cRe; (repeat' split) <;> omega⟩, trivial⟩, hS.F hht⟩) hS.2.2 dX3_rest_21
  · have c_4 := mt (nI_ltI (a := 0) (b := kc) (by omega) (by omega)).mpr c_4
    exact vx_throwS hx hb hl9 (own := RX3) (cls := "java/lang/IllegalStateException") (text := "no kerfs were asked for") (names := ["java/lang/RuntimeException", "java/lang/Exception"]) (ik := 66) (is := 157) (ic := 70) (sa := sa 157) (A := fun _ => False) hown (by decide +kernel) (by decide +kernel) (hts (.classLink RX3 66 "java/lang/IllegalStateException") (by decide +kernel)) (hts (.initialized "java/lang/IllegalStateException") (by decide +kernel)) (hX.str 14 rfl) (vx_hat (fun w h => hts w (xin_X3_rest_70 w h)) (by decide +kernel) (vx_c (va_Nw.use rfl (hN.c 1 rfl)) (vx_c (va_Nw.use rfl (hN.c 3 rfl)) (vx_c (va_Nw.use rfl (hN.c 4 rfl)) (vx_c (va_Nw.use rfl (hN.c 5 rfl)) vx_n))))) (by decide +kernel) hX.1 hX.2.1 hS (by rw [hml]; exact hl.1) dX3_rest_7 dX3_rest_10 dX3_rest_11 dX3_rest_13 dX3_rest_16 (hout9 _) (Nat.le_of_ble_eq_true rfl) (Nat.le_of_ble_eq_true rfl) (Nat.le_of_ble_eq_true rfl) (Nat.le_of_ble_eq_true rfl) hlocks (fun t9s _ h8 h9 => ⟨(), trivial, ⟨rfl, (by unfold cRe; (repeat' split) <;> omega)⟩, thrF hS h8 h9⟩) (fun z hz => (hS.2.2 z hz).elim) (Nat.le_of_ble_eq_true rfl) (Nat.le_of_ble_eq_true rfl)

set_option maxHeartbeats 4000000 in
set_option maxRecDepth 100000 in
theorem m_X3_broken (l : Launch) (hl9 : l.stackTraces = false) (dC : Nat → ClassId) (dI : Nat → Nat → Nat) (sz : Nat) (sa : Nat → Nat) (cD : ClassId) (x ks sh : Nat) (kc : Nat) (kr : UInt64) (n bad part : Int32) : vx_Met l yX3_broken wsX3_broken ({ frames := 6, cells := 1, slots := 6, locals := 82 } : Room) (va_Pc [.ref x, .int n, .int bad, .int part] (PT (dC, dI) [(cD, .double)] [(x, .inr (3, [.ref ks, .ref sh, .int (nI kc), .double kr]))] sz sa)) (va_Ql (fun (r : Int64) (_ : Unit) => r = vBr n.toInt.toNat bad.toInt.toNat part ∧ cBr n bad part = 0) (fun _ _ => True) (fun _ => False)) (vx_X (fun _ : Unit => True) (fun E _ _ => (E = eIO ∧ cBr n bad part = 1) ∨ (E = eIA ∧ cBr n bad part = 2)) (fun _ => False)) 1 6 (fun _ => False) := by
  refine vx_ofW (cc := cX3_broken) (maxL := 8) (ret := (some .long)) (by decide) rfl ?_
  intro p e s m args below meth c s₁ BB hml hex9 hv
  obtain ⟨rfl, ⟨hsz, hP, hK, hD0, hN⟩, hX⟩ := hv
  have hx := BB.exec
  have hb := BB.bytes
  have hr := BB.returns
  have hts := atoms_spec (ws := wsX3_broken) BB.pre
  have hown : s.vm.findClass RX3 = some m.cls := findClass_of_methodNamed BB.named
  have hlocks := BB.notSynchronized
  have hout9 : ∀ (pc : Nat) (x : ExceptionTableEntry), x ∈ c.exceptionTable.toList → covers x pc = false := fun pc x h => (hex9 x h).elim
  subst hsz
  have hD := hD0.self (sz := s.heap.size)
  generalize hAe : va_A [(x, .inr (3, [.ref ks, .ref sh, .int (nI kc), .double kr]))] s.heap.size = A at hD ⊢
  have hA : ∀ q : Nat, s.heap.size ≤ q → A q := fun q h => by rw [← hAe]; exact Or.inr h
  have hS : va_S (fun _ => False) s.heap s.heap [] := va_S.rf
  have hP : va_P (dC, dI) vwCl [(x, .inr (3, [.ref ks, .ref sh, .int (nI kc), .double kr]))] s.heap := hP
  have hl := lv_entry ([.ref x, .int n, .int bad, .int part]) (n := 8) (Nat.le_of_ble_eq_true rfl)
  rw [lg_entry_eq]
  generalize (lg_sl ([.ref x, .int n, .int bad, .int part]) ++ List.replicate (8 - (lg_sl ([.ref x, .int n, .int bad, .int part])).length) Slot.unset).toArray = ls at hl ⊢
  have hl : lv_has ls 8 [(0, .ref x), (1, .int n), (2, .int bad), (3, .int part)] := hl
  refine lv_iload_n hx hb dX3_broken_0 rfl (lv_at hl 3 rfl) ?_
  refine lv_if_lt (tgt := 9) hx hb dX3_broken_1 (by decide) (fun c_1 => ?_) (fun c_1 => ?_)
  · have c_1 := (z_lt (a := part.toInt) (b := 0) rfl (by decide)).mp c_1
    exact vx_throwS hx hb hl9 (own := RX3) (cls := "java/lang/IndexOutOfBoundsException") (text := "part is not 0 .. 3") (names := ["java/lang/RuntimeException", "java/lang/Exception"]) (ik := 111) (is := 163) (ic := 115) (sa := sa 163) (A := fun _ => False) hown (by decide +kernel) (by decide +kernel) (hts (.classLink RX3 111 "java/lang/IndexOutOfBoundsException") (by decide +kernel)) (hts (.initialized "java/lang/IndexOutOfBoundsException") (by decide +kernel)) (hX.str 17 rfl) (vx_hat (fun w h => hts w (xin_X3_broken_115 w h)) (by decide +kernel) (vx_c (va_Nw.use rfl (hN.c 2 rfl)) (vx_c (va_Nw.use rfl (hN.c 3 rfl)) (vx_c (va_Nw.use rfl (hN.c 4 rfl)) (vx_c (va_Nw.use rfl (hN.c 5 rfl)) vx_n))))) (by decide +kernel) hX.1 hX.2.1 hS (by rw [hml]; exact hl.1) dX3_broken_9 dX3_broken_12 dX3_broken_13 dX3_broken_15 dX3_broken_18 (hout9 _) (Nat.le_of_ble_eq_true rfl) (Nat.le_of_ble_eq_true rfl) (Nat.le_of_ble_eq_true rfl) (Nat.le_of_ble_eq_true rfl) hlocks (fun t9s _ h8 h9 => ⟨(), trivial, Or.inl (⟨rfl, (by unfold cBr; (repeat' split) <;> omega)⟩), thrF hS h8 h9⟩) (fun z hz => (hS.2.2 z hz).elim) (Nat.le_of_ble_eq_true rfl) (Nat.le_of_ble_eq_true rfl)
  · have c_1 := mt (z_lt (a := part.toInt) (b := 0) rfl (by decide)).mpr c_1
    refine lv_iload_n hx hb dX3_broken_4 rfl (lv_at hl 3 rfl) ?_
    refine lv_iconst (v := 3) hx hb dX3_broken_5 (by decide) ?_
    refine lv_icmp_le (tgt := 19) hx hb dX3_broken_6 (by decide) (fun c_6 => ?_) (fun c_6 => ?_)
    · have c_6 := (z_le (a := part.toInt) (b := 3) rfl (by decide)).mp c_6
      refine lv_iload_n hx hb dX3_broken_19 rfl (lv_at hl 1 rfl) ?_
      refine lv_iconst (v := 1) hx hb dX3_broken_20 (by decide) ?_
      refine lv_icmp_lt (tgt := 39) hx hb dX3_broken_21 (by decide) (fun c_21 => ?_) (fun c_21 => ?_)
      · have c_21 := (z_lt (a := n.toInt) (b := 1) rfl (by decide)).mp c_21
        exact vx_throwS hx hb hl9 (own := RX3) (cls := "java/lang/IllegalArgumentException") (text := "n or bad is not as said") (names := ["java/lang/RuntimeException", "java/lang/Exception"]) (ik := 49) (is := 166) (ic := 53) (sa := sa 166) (A := fun _ => False) hown (by decide +kernel) (by decide +kernel) (hts (.classLink RX3 49 "java/lang/IllegalArgumentException") (by decide +kernel)) (hts (.initialized "java/lang/IllegalArgumentException") (by decide +kernel)) (hX.str 18 rfl) (vx_hat (fun w h => hts w (xin_X3_broken_53 w h)) (by decide +kernel) (vx_c (va_Nw.use rfl (hN.c 0 rfl)) (vx_c (va_Nw.use rfl (hN.c 3 rfl)) (vx_c (va_Nw.use rfl (hN.c 4 rfl)) (vx_c (va_Nw.use rfl (hN.c 5 rfl)) vx_n))))) (by decide +kernel) hX.1 hX.2.1 hS (by rw [hml]; exact hl.1) dX3_broken_39 dX3_broken_42 dX3_broken_43 dX3_broken_45 dX3_broken_48 (hout9 _) (Nat.le_of_ble_eq_true rfl) (Nat.le_of_ble_eq_true rfl) (Nat.le_of_ble_eq_true rfl) (Nat.le_of_ble_eq_true rfl) hlocks (fun t9s _ h8 h9 => ⟨(), trivial, Or.inr (⟨rfl, (by unfold cBr; (repeat' split) <;> omega)⟩), thrF hS h8 h9⟩) (fun z hz => (hS.2.2 z hz).elim) (Nat.le_of_ble_eq_true rfl) (Nat.le_of_ble_eq_true rfl)
      · have c_21 := mt (z_lt (a := n.toInt) (b := 1) rfl (by decide)).mpr c_21
        refine lv_iload_n hx hb dX3_broken_24 rfl (lv_at hl 1 rfl) ?_
        refine lv_ldc (v := 1000000) hx hb hown (hts (.constant RX3 165 (1000000)) (by decide +kernel)) dX3_broken_25 ?_
        refine lv_icmp_gt (tgt := 39) hx hb dX3_broken_27 (by decide) (fun c_27 => ?_) (fun c_27 => ?_)
        · have c_27 := (z_lt (a := 1000000) (b := n.toInt) (by decide) rfl).mp c_27
          exact vx_throwS hx hb hl9 (own := RX3) (cls := "java/lang/IllegalArgumentException") (text := "n or bad is not as said") (names := ["java/lang/RuntimeException", "java/lang/Exception"]) (ik := 49) (is := 166) (ic := 53) (sa := sa 166) (A := fun _ => False) hown (by decide +kernel) (by decide +kernel) (hts (.classLink RX3 49 "java/lang/IllegalArgumentException") (by decide +kernel)) (hts (.initialized "java/lang/IllegalArgumentException") (by decide +kernel)) (hX.str 18 rfl) (vx_hat (fun w h => hts w (xin_X3_broken_53 w h)) (by decide +kernel) (vx_c (va_Nw.use rfl (hN.c 0 rfl)) (vx_c (va_Nw.use rfl (hN.c 3 rfl)) (vx_c (va_Nw.use rfl (hN.c 4 rfl)) (vx_c (va_Nw.use rfl (hN.c 5 rfl)) vx_n))))) (by decide +kernel) hX.1 hX.2.1 hS (by rw [hml]; exact hl.1) dX3_broken_39 dX3_broken_42 dX3_broken_43 dX3_broken_45 dX3_broken_48 (hout9 _) (Nat.le_of_ble_eq_true rfl) (Nat.le_of_ble_eq_true rfl) (Nat.le_of_ble_eq_true rfl) (Nat.le_of_ble_eq_true rfl) hlocks (fun t9s _ h8 h9 => ⟨(), trivial, Or.inr (⟨rfl, (by unfold cBr; (repeat' split) <;> omega)⟩), thrF hS h8 h9⟩) (fun z hz => (hS.2.2 z hz).elim) (Nat.le_of_ble_eq_true rfl) (Nat.le_of_ble_eq_true rfl)
        · have c_27 := mt (z_lt (a := 1000000) (b := n.toInt) (by decide) rfl).mpr c_27
          refine lv_iload_n hx hb dX3_broken_30 rfl (lv_at hl 2 rfl) ?_
          refine lv_if_lt (tgt := 39) hx hb dX3_broken_31 (by decide) (fun c_31 => ?_) (fun c_31 => ?_)
          · have c_31 := (z_lt (a := bad.toInt) (b := 0) rfl (by decide)).mp c_31
            exact vx_throwS hx hb hl9 (own := RX3) (cls := "java/lang/IllegalArgumentException") (text := "n or bad is not as said") (names := ["java/lang/RuntimeException", "java/lang/Exception"]) (ik := 49) (is := 166) (ic := 53) (sa := sa 166) (A := fun _ => False) hown (by decide +kernel) (by decide +kernel) (hts (.classLink RX3 49 "java/lang/IllegalArgumentException") (by decide +kernel)) (hts (.initialized "java/lang/IllegalArgumentException") (by decide +kernel)) (hX.str 18 rfl) (vx_hat (fun w h => hts w (xin_X3_broken_53 w h)) (by decide +kernel) (vx_c (va_Nw.use rfl (hN.c 0 rfl)) (vx_c (va_Nw.use rfl (hN.c 3 rfl)) (vx_c (va_Nw.use rfl (hN.c 4 rfl)) (vx_c (va_Nw.use rfl (hN.c 5 rfl)) vx_n))))) (by decide +kernel) hX.1 hX.2.1 hS (by rw [hml]; exact hl.1) dX3_broken_39 dX3_broken_42 dX3_broken_43 dX3_broken_45 dX3_broken_48 (hout9 _) (Nat.le_of_ble_eq_true rfl) (Nat.le_of_ble_eq_true rfl) (Nat.le_of_ble_eq_true rfl) (Nat.le_of_ble_eq_true rfl) hlocks (fun t9s _ h8 h9 => ⟨(), trivial, Or.inr (⟨rfl, (by unfold cBr; (repeat' split) <;> omega)⟩), thrF hS h8 h9⟩) (fun z hz => (hS.2.2 z hz).elim) (Nat.le_of_ble_eq_true rfl) (Nat.le_of_ble_eq_true rfl)
          · have c_31 := mt (z_lt (a := bad.toInt) (b := 0) rfl (by decide)).mpr c_31
            refine lv_iload_n hx hb dX3_broken_34 rfl (lv_at hl 2 rfl) ?_
            refine lv_iload_n hx hb dX3_broken_35 rfl (lv_at hl 1 rfl) ?_
            refine lv_icmp_le (tgt := 49) hx hb dX3_broken_36 (by decide) (fun c_36 => ?_) (fun c_36 => ?_)
            · have c_36 := (z_le (a := bad.toInt) (b := n.toInt) rfl rfl).mp c_36
              obtain ⟨n8, en8, rfl⟩ : ∃ q : Nat, n.toInt = q ∧ n = nI q := ⟨n.toInt.toNat, by omega, (z_eq rfl (nI_toInt (by omega))).mpr (by omega)⟩
              obtain ⟨b8, eb8, rfl⟩ : ∃ q : Nat, bad.toInt = q ∧ bad = nI q := ⟨bad.toInt.toNat, by omega, (z_eq rfl (nI_toInt (by omega))).mpr (by omega)⟩
              have hl : lv_has ls 8 [(0, .ref x), (1, .int (nI n8)), (2, .int (nI b8)), (3, .int part)] := hl
              refine lv_iload_n hx hb dX3_broken_49 rfl (lv_at hl 3 rfl) ?_
              refine lv_iconst (v := 2) hx hb dX3_broken_50 (by decide) ?_
              refine lv_icmp_ge (tgt := 58) hx hb dX3_broken_51 (by decide) (fun c_51 => ?_) (fun c_51 => ?_)
              · have c_51 := (z_le (a := 2) (b := part.toInt) (by decide) rfl).mp c_51
                refine lv_iload_n hx hb dX3_broken_58 rfl (lv_at hl 2 rfl) ?_
                refine lv_iconst (v := 1) hx hb dX3_broken_59 (by decide) ?_
                refine lv_iaddN (x := b8) (y := 1) hx hb dX3_broken_60 ?_
                refine lv_istore (lv' := [(4, .int (nI (b8 + 1))), (0, .ref x), (1, .int (nI n8)), (2, .int (nI b8)), (3, .int part)]) hx hb dX3_broken_61 hl (by decide) rfl (fun ls hl => ?_)
                refine lv_iload_n hx hb dX3_broken_63 rfl (lv_at hl 2 rfl) ?_
                refine lv_iconst (v := 1) hx hb dX3_broken_64 (by decide) ?_
                refine lv_iaddN (x := n8) (y := 1) hx hb dX3_broken_65 ?_
                refine lv_istore (lv' := [(5, .int (nI (n8 + 1))), (4, .int (nI (b8 + 1))), (0, .ref x), (1, .int (nI n8)), (2, .int (nI b8)), (3, .int part)]) hx hb dX3_broken_66 hl (by decide) rfl (fun ls hl => ?_)
                refine lv_iload_n hx hb dX3_broken_68 rfl (lv_at hl 5 rfl) ?_
                refine lv_if_eq (tgt := 77) hx hb dX3_broken_69 (by decide) (fun c_69 => ?_) (fun c_69 => ?_)
                · have c_69 := (z_eq (a := part.toInt) (b := 0) rfl (by decide)).mp c_69
                  refine lv_iload hx hb dX3_broken_77 (lv_at hl 1 rfl) ?_
                  refine lv_goto (tgt := 84) hx hb dX3_broken_79 (by decide) ?_
                  refine lv_istore (lv' := [(6, .int (nI (b8 + 1))), (5, .int (nI (n8 + 1))), (4, .int (nI (b8 + 1))), (0, .ref x), (1, .int (nI n8)), (2, .int (nI b8)), (3, .int part)]) hx hb dX3_broken_84 hl (by decide) rfl (fun ls hl => ?_)
                  refine lv_iload hx hb dX3_broken_86 (lv_at hl 1 rfl) ?_
                  refine lv_iload hx hb dX3_broken_88 (lv_at hl 2 rfl) ?_
                  refine va_calli (va_runS (As := [.int (nI (n8 + 1)), .int (nI (b8 + 1))]) (rest := []) ⟨hx, hb, hml, hown, hts⟩ (m_X3_commonDivisor l (n8 + 1) (b8 + 1) (by omega) (by omega)) (va_cwS 2 hts gX3_broken_X3_commonDivisor rfl rfl rfl (by decide +kernel) ⟨(Nat.le_of_ble_eq_true rfl), (Nat.le_of_ble_eq_true rfl)⟩) ⟨fun a U g mk q => q, fun U9 hU9 hW9 => ⟨rfl, trivial⟩⟩ rfl rfl hl.1 rfl (lv_room (Nat.le_of_ble_eq_true rfl)) dX3_broken_90 ⟨(Nat.le_of_ble_eq_true rfl), (Nat.le_of_ble_eq_true rfl)⟩) hS (fun q _ h => h.elim) (fun q h => h.elim) (fun r_182 u9s t9s H1 locs hht hvm9 hw_90_k_181 hB hz1 hk1 hS => ?_)
                  have hP := va_still hP hk1
                  generalize H1 = H at hP hS ⊢
                  subst hw_90_k_181
                  have hg8 : 0 < Nat.gcd (n8 + 1) (b8 + 1) := Nat.gcd_pos_of_pos_left _ (by omega)
                  have hg7 : Nat.gcd (n8 + 1) (b8 + 1) ≤ (n8 + 1) := Nat.gcd_le_left _ (by omega)
                  refine lv_istore (lv' := [(7, .int (nI (Nat.gcd (n8 + 1) (b8 + 1)))), (6, .int (nI (b8 + 1))), (5, .int (nI (n8 + 1))), (4, .int (nI (b8 + 1))), (0, .ref x), (1, .int (nI n8)), (2, .int (nI b8)), (3, .int part)]) hx hb dX3_broken_93 hl (by decide) rfl (fun ls hl => ?_)
                  refine lv_iload hx hb dX3_broken_95 (lv_at hl 0 rfl) ?_
                  refine lv_if_le (tgt := 109) hx hb dX3_broken_97 (by decide) (fun c_97 => ?_) (fun c_97 => ?_)
                  · have c_97 := (nI_leI (a := Nat.gcd (n8 + 1) (b8 + 1)) (b := 0) (by omega) (by omega)).mp c_97
                    exact absurd hg8 (by omega)
                  · have c_97 := mt (nI_leI (a := Nat.gcd (n8 + 1) (b8 + 1)) (b := 0) (by omega) (by omega)).mpr c_97
                    refine lv_iload hx hb dX3_broken_100 (lv_at hl 1 rfl) ?_
                    refine lv_iload hx hb dX3_broken_102 (lv_at hl 0 rfl) ?_
                    refine lv_idivN (x := b8 + 1) (y := Nat.gcd (n8 + 1) (b8 + 1)) hx hb dX3_broken_104 (by omega) (by omega) (by omega) ?_
                    refine lv_i2l hx hb dX3_broken_105 rfl ?_
                    refine lv_goto (tgt := 112) hx hb dX3_broken_106 (by decide) ?_
                    refine vx_ret ?_
                    refine W.widen (k := 1) (n := 6) (Nat.le_of_ble_eq_true rfl) (Nat.le_of_ble_eq_true rfl) ?_
                    exact W.lret hx hb hr (fun t9s hht hW9 => ⟨⟨(nI ((b8 + 1) / (Nat.gcd (n8 + 1) (b8 + 1)))).toInt64, (), rfl, ⟨by
                        unfold vBr
                        rw [en8, eb8]
                        simp only [Int.toNat_natCast]
                        (repeat' split) <;> first | rfl | (exfalso; omega), by unfold cBr; (repeat' split) <;> omega⟩, trivial⟩, hS.F hht⟩) hS.2.2 dX3_broken_112
                · have c_69 := mt (z_eq (a := part.toInt) (b := 0) rfl (by decide)).mpr c_69
                  refine lv_iload_n hx hb dX3_broken_72 rfl (lv_at hl 5 rfl) ?_
                  refine lv_iconst (v := 2) hx hb dX3_broken_73 (by decide) ?_
                  refine lv_icmp_ne (tgt := 82) hx hb dX3_broken_74 (by decide) (fun c_74 => ?_) (fun c_74 => ?_)
                  · have c_74 := mt (z_eq (a := part.toInt) (b := 2) rfl (by decide)).mpr c_74
                    refine lv_iload hx hb dX3_broken_82 (lv_at hl 0 rfl) ?_
                    refine lv_istore (lv' := [(6, .int (nI (n8 + 1))), (5, .int (nI (n8 + 1))), (4, .int (nI (b8 + 1))), (0, .ref x), (1, .int (nI n8)), (2, .int (nI b8)), (3, .int part)]) hx hb dX3_broken_84 hl (by decide) rfl (fun ls hl => ?_)
                    refine lv_iload hx hb dX3_broken_86 (lv_at hl 1 rfl) ?_
                    refine lv_iload hx hb dX3_broken_88 (lv_at hl 2 rfl) ?_
                    refine va_calli (va_runS (As := [.int (nI (n8 + 1)), .int (nI (b8 + 1))]) (rest := []) ⟨hx, hb, hml, hown, hts⟩ (m_X3_commonDivisor l (n8 + 1) (b8 + 1) (by omega) (by omega)) (va_cwS 2 hts gX3_broken_X3_commonDivisor rfl rfl rfl (by decide +kernel) ⟨(Nat.le_of_ble_eq_true rfl), (Nat.le_of_ble_eq_true rfl)⟩) ⟨fun a U g mk q => q, fun U9 hU9 hW9 => ⟨rfl, trivial⟩⟩ rfl rfl hl.1 rfl (lv_room (Nat.le_of_ble_eq_true rfl)) dX3_broken_90 ⟨(Nat.le_of_ble_eq_true rfl), (Nat.le_of_ble_eq_true rfl)⟩) hS (fun q _ h => h.elim) (fun q h => h.elim) (fun r_184 u9s t9s H1 locs hht hvm9 hw_90_k_183 hB hz1 hk1 hS => ?_)
                    have hP := va_still hP hk1
                    generalize H1 = H at hP hS ⊢
                    subst hw_90_k_183
                    have hg8 : 0 < Nat.gcd (n8 + 1) (b8 + 1) := Nat.gcd_pos_of_pos_left _ (by omega)
                    have hg7 : Nat.gcd (n8 + 1) (b8 + 1) ≤ (n8 + 1) := Nat.gcd_le_left _ (by omega)
                    refine lv_istore (lv' := [(7, .int (nI (Nat.gcd (n8 + 1) (b8 + 1)))), (6, .int (nI (n8 + 1))), (5, .int (nI (n8 + 1))), (4, .int (nI (b8 + 1))), (0, .ref x), (1, .int (nI n8)), (2, .int (nI b8)), (3, .int part)]) hx hb dX3_broken_93 hl (by decide) rfl (fun ls hl => ?_)
                    refine lv_iload hx hb dX3_broken_95 (lv_at hl 0 rfl) ?_
                    refine lv_if_le (tgt := 109) hx hb dX3_broken_97 (by decide) (fun c_97 => ?_) (fun c_97 => ?_)
                    · have c_97 := (nI_leI (a := Nat.gcd (n8 + 1) (b8 + 1)) (b := 0) (by omega) (by omega)).mp c_97
                      exact absurd hg8 (by omega)
                    · have c_97 := mt (nI_leI (a := Nat.gcd (n8 + 1) (b8 + 1)) (b := 0) (by omega) (by omega)).mpr c_97
                      refine lv_iload hx hb dX3_broken_100 (lv_at hl 1 rfl) ?_
                      refine lv_iload hx hb dX3_broken_102 (lv_at hl 0 rfl) ?_
                      refine lv_idivN (x := n8 + 1) (y := Nat.gcd (n8 + 1) (b8 + 1)) hx hb dX3_broken_104 (by omega) (by omega) (by omega) ?_
                      refine lv_i2l hx hb dX3_broken_105 rfl ?_
                      refine lv_goto (tgt := 112) hx hb dX3_broken_106 (by decide) ?_
                      refine vx_ret ?_
                      refine W.widen (k := 1) (n := 6) (Nat.le_of_ble_eq_true rfl) (Nat.le_of_ble_eq_true rfl) ?_
                      exact W.lret hx hb hr (fun t9s hht hW9 => ⟨⟨(nI ((n8 + 1) / (Nat.gcd (n8 + 1) (b8 + 1)))).toInt64, (), rfl, ⟨by
                          unfold vBr
                          rw [en8, eb8]
                          simp only [Int.toNat_natCast]
                          (repeat' split) <;> first | rfl | (exfalso; omega), by unfold cBr; (repeat' split) <;> omega⟩, trivial⟩, hS.F hht⟩) hS.2.2 dX3_broken_112
                  · have c_74 := (z_eq (a := part.toInt) (b := 2) rfl (by decide)).mp c_74
                    refine lv_iload hx hb dX3_broken_77 (lv_at hl 1 rfl) ?_
                    refine lv_goto (tgt := 84) hx hb dX3_broken_79 (by decide) ?_
                    refine lv_istore (lv' := [(6, .int (nI (b8 + 1))), (5, .int (nI (n8 + 1))), (4, .int (nI (b8 + 1))), (0, .ref x), (1, .int (nI n8)), (2, .int (nI b8)), (3, .int part)]) hx hb dX3_broken_84 hl (by decide) rfl (fun ls hl => ?_)
                    refine lv_iload hx hb dX3_broken_86 (lv_at hl 1 rfl) ?_
                    refine lv_iload hx hb dX3_broken_88 (lv_at hl 2 rfl) ?_
                    refine va_calli (va_runS (As := [.int (nI (n8 + 1)), .int (nI (b8 + 1))]) (rest := []) ⟨hx, hb, hml, hown, hts⟩ (m_X3_commonDivisor l (n8 + 1) (b8 + 1) (by omega) (by omega)) (va_cwS 2 hts gX3_broken_X3_commonDivisor rfl rfl rfl (by decide +kernel) ⟨(Nat.le_of_ble_eq_true rfl), (Nat.le_of_ble_eq_true rfl)⟩) ⟨fun a U g mk q => q, fun U9 hU9 hW9 => ⟨rfl, trivial⟩⟩ rfl rfl hl.1 rfl (lv_room (Nat.le_of_ble_eq_true rfl)) dX3_broken_90 ⟨(Nat.le_of_ble_eq_true rfl), (Nat.le_of_ble_eq_true rfl)⟩) hS (fun q _ h => h.elim) (fun q h => h.elim) (fun r_186 u9s t9s H1 locs hht hvm9 hw_90_k_185 hB hz1 hk1 hS => ?_)
                    have hP := va_still hP hk1
                    generalize H1 = H at hP hS ⊢
                    subst hw_90_k_185
                    have hg8 : 0 < Nat.gcd (n8 + 1) (b8 + 1) := Nat.gcd_pos_of_pos_left _ (by omega)
                    have hg7 : Nat.gcd (n8 + 1) (b8 + 1) ≤ (n8 + 1) := Nat.gcd_le_left _ (by omega)
                    refine lv_istore (lv' := [(7, .int (nI (Nat.gcd (n8 + 1) (b8 + 1)))), (6, .int (nI (b8 + 1))), (5, .int (nI (n8 + 1))), (4, .int (nI (b8 + 1))), (0, .ref x), (1, .int (nI n8)), (2, .int (nI b8)), (3, .int part)]) hx hb dX3_broken_93 hl (by decide) rfl (fun ls hl => ?_)
                    refine lv_iload hx hb dX3_broken_95 (lv_at hl 0 rfl) ?_
                    refine lv_if_le (tgt := 109) hx hb dX3_broken_97 (by decide) (fun c_97 => ?_) (fun c_97 => ?_)
                    · have c_97 := (nI_leI (a := Nat.gcd (n8 + 1) (b8 + 1)) (b := 0) (by omega) (by omega)).mp c_97
                      exact absurd hg8 (by omega)
                    · have c_97 := mt (nI_leI (a := Nat.gcd (n8 + 1) (b8 + 1)) (b := 0) (by omega) (by omega)).mpr c_97
                      refine lv_iload hx hb dX3_broken_100 (lv_at hl 1 rfl) ?_
                      refine lv_iload hx hb dX3_broken_102 (lv_at hl 0 rfl) ?_
                      refine lv_idivN (x := b8 + 1) (y := Nat.gcd (n8 + 1) (b8 + 1)) hx hb dX3_broken_104 (by omega) (by omega) (by omega) ?_
                      refine lv_i2l hx hb dX3_broken_105 rfl ?_
                      refine lv_goto (tgt := 112) hx hb dX3_broken_106 (by decide) ?_
                      refine vx_ret ?_
                      refine W.widen (k := 1) (n := 6) (Nat.le_of_ble_eq_true rfl) (Nat.le_of_ble_eq_true rfl) ?_
                      exact W.lret hx hb hr (fun t9s hht hW9 => ⟨⟨(nI ((b8 + 1) / (Nat.gcd (n8 + 1) (b8 + 1)))).toInt64, (), rfl, ⟨by
                          unfold vBr
                          rw [en8, eb8]
                          simp only [Int.toNat_natCast]
                          (repeat' split) <;> first | rfl | (exfalso; omega), by unfold cBr; (repeat' split) <;> omega⟩, trivial⟩, hS.F hht⟩) hS.2.2 dX3_broken_112
              · have c_51 := mt (z_le (a := 2) (b := part.toInt) (by decide) rfl).mpr c_51
                refine lv_iload_n hx hb dX3_broken_54 rfl (lv_at hl 2 rfl) ?_
                refine lv_goto (tgt := 61) hx hb dX3_broken_55 (by decide) ?_
                refine lv_istore (lv' := [(4, .int (nI b8)), (0, .ref x), (1, .int (nI n8)), (2, .int (nI b8)), (3, .int part)]) hx hb dX3_broken_61 hl (by decide) rfl (fun ls hl => ?_)
                refine lv_iload_n hx hb dX3_broken_63 rfl (lv_at hl 2 rfl) ?_
                refine lv_iconst (v := 1) hx hb dX3_broken_64 (by decide) ?_
                refine lv_iaddN (x := n8) (y := 1) hx hb dX3_broken_65 ?_
                refine lv_istore (lv' := [(5, .int (nI (n8 + 1))), (4, .int (nI b8)), (0, .ref x), (1, .int (nI n8)), (2, .int (nI b8)), (3, .int part)]) hx hb dX3_broken_66 hl (by decide) rfl (fun ls hl => ?_)
                refine lv_iload_n hx hb dX3_broken_68 rfl (lv_at hl 5 rfl) ?_
                refine lv_if_eq (tgt := 77) hx hb dX3_broken_69 (by decide) (fun c_69 => ?_) (fun c_69 => ?_)
                · have c_69 := (z_eq (a := part.toInt) (b := 0) rfl (by decide)).mp c_69
                  refine lv_iload hx hb dX3_broken_77 (lv_at hl 1 rfl) ?_
                  refine lv_goto (tgt := 84) hx hb dX3_broken_79 (by decide) ?_
                  refine lv_istore (lv' := [(6, .int (nI b8)), (5, .int (nI (n8 + 1))), (4, .int (nI b8)), (0, .ref x), (1, .int (nI n8)), (2, .int (nI b8)), (3, .int part)]) hx hb dX3_broken_84 hl (by decide) rfl (fun ls hl => ?_)
                  refine lv_iload hx hb dX3_broken_86 (lv_at hl 1 rfl) ?_
                  refine lv_iload hx hb dX3_broken_88 (lv_at hl 2 rfl) ?_
                  refine va_calli (va_runS (As := [.int (nI (n8 + 1)), .int (nI b8)]) (rest := []) ⟨hx, hb, hml, hown, hts⟩ (m_X3_commonDivisor l (n8 + 1) b8 (by omega) (by omega)) (va_cwS 2 hts gX3_broken_X3_commonDivisor rfl rfl rfl (by decide +kernel) ⟨(Nat.le_of_ble_eq_true rfl), (Nat.le_of_ble_eq_true rfl)⟩) ⟨fun a U g mk q => q, fun U9 hU9 hW9 => ⟨rfl, trivial⟩⟩ rfl rfl hl.1 rfl (lv_room (Nat.le_of_ble_eq_true rfl)) dX3_broken_90 ⟨(Nat.le_of_ble_eq_true rfl), (Nat.le_of_ble_eq_true rfl)⟩) hS (fun q _ h => h.elim) (fun q h => h.elim) (fun r_188 u9s t9s H1 locs hht hvm9 hw_90_k_187 hB hz1 hk1 hS => ?_)
                  have hP := va_still hP hk1
                  generalize H1 = H at hP hS ⊢
                  subst hw_90_k_187
                  have hg8 : 0 < Nat.gcd (n8 + 1) b8 := Nat.gcd_pos_of_pos_left _ (by omega)
                  have hg7 : Nat.gcd (n8 + 1) b8 ≤ (n8 + 1) := Nat.gcd_le_left _ (by omega)
                  refine lv_istore (lv' := [(7, .int (nI (Nat.gcd (n8 + 1) b8))), (6, .int (nI b8)), (5, .int (nI (n8 + 1))), (4, .int (nI b8)), (0, .ref x), (1, .int (nI n8)), (2, .int (nI b8)), (3, .int part)]) hx hb dX3_broken_93 hl (by decide) rfl (fun ls hl => ?_)
                  refine lv_iload hx hb dX3_broken_95 (lv_at hl 0 rfl) ?_
                  refine lv_if_le (tgt := 109) hx hb dX3_broken_97 (by decide) (fun c_97 => ?_) (fun c_97 => ?_)
                  · have c_97 := (nI_leI (a := Nat.gcd (n8 + 1) b8) (b := 0) (by omega) (by omega)).mp c_97
                    exact absurd hg8 (by omega)
                  · have c_97 := mt (nI_leI (a := Nat.gcd (n8 + 1) b8) (b := 0) (by omega) (by omega)).mpr c_97
                    refine lv_iload hx hb dX3_broken_100 (lv_at hl 1 rfl) ?_
                    refine lv_iload hx hb dX3_broken_102 (lv_at hl 0 rfl) ?_
                    refine lv_idivN (x := b8) (y := Nat.gcd (n8 + 1) b8) hx hb dX3_broken_104 (by omega) (by omega) (by omega) ?_
                    refine lv_i2l hx hb dX3_broken_105 rfl ?_
                    refine lv_goto (tgt := 112) hx hb dX3_broken_106 (by decide) ?_
                    refine vx_ret ?_
                    refine W.widen (k := 1) (n := 6) (Nat.le_of_ble_eq_true rfl) (Nat.le_of_ble_eq_true rfl) ?_
                    exact W.lret hx hb hr (fun t9s hht hW9 => ⟨⟨(nI (b8 / (Nat.gcd (n8 + 1) b8))).toInt64, (), rfl, ⟨by
                        unfold vBr
                        rw [en8, eb8]
                        simp only [Int.toNat_natCast]
                        (repeat' split) <;> first | rfl | (exfalso; omega), by unfold cBr; (repeat' split) <;> omega⟩, trivial⟩, hS.F hht⟩) hS.2.2 dX3_broken_112
                · have c_69 := mt (z_eq (a := part.toInt) (b := 0) rfl (by decide)).mpr c_69
                  refine lv_iload_n hx hb dX3_broken_72 rfl (lv_at hl 5 rfl) ?_
                  refine lv_iconst (v := 2) hx hb dX3_broken_73 (by decide) ?_
                  refine lv_icmp_ne (tgt := 82) hx hb dX3_broken_74 (by decide) (fun c_74 => ?_) (fun c_74 => ?_)
                  · have c_74 := mt (z_eq (a := part.toInt) (b := 2) rfl (by decide)).mpr c_74
                    refine lv_iload hx hb dX3_broken_82 (lv_at hl 0 rfl) ?_
                    refine lv_istore (lv' := [(6, .int (nI (n8 + 1))), (5, .int (nI (n8 + 1))), (4, .int (nI b8)), (0, .ref x), (1, .int (nI n8)), (2, .int (nI b8)), (3, .int part)]) hx hb dX3_broken_84 hl (by decide) rfl (fun ls hl => ?_)
                    refine lv_iload hx hb dX3_broken_86 (lv_at hl 1 rfl) ?_
                    refine lv_iload hx hb dX3_broken_88 (lv_at hl 2 rfl) ?_
                    refine va_calli (va_runS (As := [.int (nI (n8 + 1)), .int (nI b8)]) (rest := []) ⟨hx, hb, hml, hown, hts⟩ (m_X3_commonDivisor l (n8 + 1) b8 (by omega) (by omega)) (va_cwS 2 hts gX3_broken_X3_commonDivisor rfl rfl rfl (by decide +kernel) ⟨(Nat.le_of_ble_eq_true rfl), (Nat.le_of_ble_eq_true rfl)⟩) ⟨fun a U g mk q => q, fun U9 hU9 hW9 => ⟨rfl, trivial⟩⟩ rfl rfl hl.1 rfl (lv_room (Nat.le_of_ble_eq_true rfl)) dX3_broken_90 ⟨(Nat.le_of_ble_eq_true rfl), (Nat.le_of_ble_eq_true rfl)⟩) hS (fun q _ h => h.elim) (fun q h => h.elim) (fun r_190 u9s t9s H1 locs hht hvm9 hw_90_k_189 hB hz1 hk1 hS => ?_)
                    have hP := va_still hP hk1
                    generalize H1 = H at hP hS ⊢
                    subst hw_90_k_189
                    have hg8 : 0 < Nat.gcd (n8 + 1) b8 := Nat.gcd_pos_of_pos_left _ (by omega)
                    have hg7 : Nat.gcd (n8 + 1) b8 ≤ (n8 + 1) := Nat.gcd_le_left _ (by omega)
                    refine lv_istore (lv' := [(7, .int (nI (Nat.gcd (n8 + 1) b8))), (6, .int (nI (n8 + 1))), (5, .int (nI (n8 + 1))), (4, .int (nI b8)), (0, .ref x), (1, .int (nI n8)), (2, .int (nI b8)), (3, .int part)]) hx hb dX3_broken_93 hl (by decide) rfl (fun ls hl => ?_)
                    refine lv_iload hx hb dX3_broken_95 (lv_at hl 0 rfl) ?_
                    refine lv_if_le (tgt := 109) hx hb dX3_broken_97 (by decide) (fun c_97 => ?_) (fun c_97 => ?_)
                    · have c_97 := (nI_leI (a := Nat.gcd (n8 + 1) b8) (b := 0) (by omega) (by omega)).mp c_97
                      exact absurd hg8 (by omega)
                    · have c_97 := mt (nI_leI (a := Nat.gcd (n8 + 1) b8) (b := 0) (by omega) (by omega)).mpr c_97
                      refine lv_iload hx hb dX3_broken_100 (lv_at hl 1 rfl) ?_
                      refine lv_iload hx hb dX3_broken_102 (lv_at hl 0 rfl) ?_
                      refine lv_idivN (x := n8 + 1) (y := Nat.gcd (n8 + 1) b8) hx hb dX3_broken_104 (by omega) (by omega) (by omega) ?_
                      refine lv_i2l hx hb dX3_broken_105 rfl ?_
                      refine lv_goto (tgt := 112) hx hb dX3_broken_106 (by decide) ?_
                      refine vx_ret ?_
                      refine W.widen (k := 1) (n := 6) (Nat.le_of_ble_eq_true rfl) (Nat.le_of_ble_eq_true rfl) ?_
                      exact W.lret hx hb hr (fun t9s hht hW9 => ⟨⟨(nI ((n8 + 1) / (Nat.gcd (n8 + 1) b8))).toInt64, (), rfl, ⟨by
                          unfold vBr
                          rw [en8, eb8]
                          simp only [Int.toNat_natCast]
                          (repeat' split) <;> first | rfl | (exfalso; omega), by unfold cBr; (repeat' split) <;> omega⟩, trivial⟩, hS.F hht⟩) hS.2.2 dX3_broken_112
                  · have c_74 := (z_eq (a := part.toInt) (b := 2) rfl (by decide)).mp c_74
                    refine lv_iload hx hb dX3_broken_77 (lv_at hl 1 rfl) ?_
                    refine lv_goto (tgt := 84) hx hb dX3_broken_79 (by decide) ?_
                    refine lv_istore (lv' := [(6, .int (nI b8)), (5, .int (nI (n8 + 1))), (4, .int (nI b8)), (0, .ref x), (1, .int (nI n8)), (2, .int (nI b8)), (3, .int part)]) hx hb dX3_broken_84 hl (by decide) rfl (fun ls hl => ?_)
                    refine lv_iload hx hb dX3_broken_86 (lv_at hl 1 rfl) ?_
                    refine lv_iload hx hb dX3_broken_88 (lv_at hl 2 rfl) ?_
                    refine va_calli (va_runS (As := [.int (nI (n8 + 1)), .int (nI b8)]) (rest := []) ⟨hx, hb, hml, hown, hts⟩ (m_X3_commonDivisor l (n8 + 1) b8 (by omega) (by omega)) (va_cwS 2 hts gX3_broken_X3_commonDivisor rfl rfl rfl (by decide +kernel) ⟨(Nat.le_of_ble_eq_true rfl), (Nat.le_of_ble_eq_true rfl)⟩) ⟨fun a U g mk q => q, fun U9 hU9 hW9 => ⟨rfl, trivial⟩⟩ rfl rfl hl.1 rfl (lv_room (Nat.le_of_ble_eq_true rfl)) dX3_broken_90 ⟨(Nat.le_of_ble_eq_true rfl), (Nat.le_of_ble_eq_true rfl)⟩) hS (fun q _ h => h.elim) (fun q h => h.elim) (fun r_192 u9s t9s H1 locs hht hvm9 hw_90_k_191 hB hz1 hk1 hS => ?_)
                    have hP := va_still hP hk1
                    generalize H1 = H at hP hS ⊢
                    subst hw_90_k_191
                    have hg8 : 0 < Nat.gcd (n8 + 1) b8 := Nat.gcd_pos_of_pos_left _ (by omega)
                    have hg7 : Nat.gcd (n8 + 1) b8 ≤ (n8 + 1) := Nat.gcd_le_left _ (by omega)
                    refine lv_istore (lv' := [(7, .int (nI (Nat.gcd (n8 + 1) b8))), (6, .int (nI b8)), (5, .int (nI (n8 + 1))), (4, .int (nI b8)), (0, .ref x), (1, .int (nI n8)), (2, .int (nI b8)), (3, .int part)]) hx hb dX3_broken_93 hl (by decide) rfl (fun ls hl => ?_)
                    refine lv_iload hx hb dX3_broken_95 (lv_at hl 0 rfl) ?_
                    refine lv_if_le (tgt := 109) hx hb dX3_broken_97 (by decide) (fun c_97 => ?_) (fun c_97 => ?_)
                    · have c_97 := (nI_leI (a := Nat.gcd (n8 + 1) b8) (b := 0) (by omega) (by omega)).mp c_97
                      exact absurd hg8 (by omega)
                    · have c_97 := mt (nI_leI (a := Nat.gcd (n8 + 1) b8) (b := 0) (by omega) (by omega)).mpr c_97
                      refine lv_iload hx hb dX3_broken_100 (lv_at hl 1 rfl) ?_
                      refine lv_iload hx hb dX3_broken_102 (lv_at hl 0 rfl) ?_
                      refine lv_idivN (x := b8) (y := Nat.gcd (n8 + 1) b8) hx hb dX3_broken_104 (by omega) (by omega) (by omega) ?_
                      refine lv_i2l hx hb dX3_broken_105 rfl ?_
                      refine lv_goto (tgt := 112) hx hb dX3_broken_106 (by decide) ?_
                      refine vx_ret ?_
                      refine W.widen (k := 1) (n := 6) (Nat.le_of_ble_eq_true rfl) (Nat.le_of_ble_eq_true rfl) ?_
                      exact W.lret hx hb hr (fun t9s hht hW9 => ⟨⟨(nI (b8 / (Nat.gcd (n8 + 1) b8))).toInt64, (), rfl, ⟨by
                          unfold vBr
                          rw [en8, eb8]
                          simp only [Int.toNat_natCast]
                          (repeat' split) <;> first | rfl | (exfalso; omega), by unfold cBr; (repeat' split) <;> omega⟩, trivial⟩, hS.F hht⟩) hS.2.2 dX3_broken_112
            · have c_36 := mt (z_le (a := bad.toInt) (b := n.toInt) rfl rfl).mpr c_36
              exact vx_throwS hx hb hl9 (own := RX3) (cls := "java/lang/IllegalArgumentException") (text := "n or bad is not as said") (names := ["java/lang/RuntimeException", "java/lang/Exception"]) (ik := 49) (is := 166) (ic := 53) (sa := sa 166) (A := fun _ => False) hown (by decide +kernel) (by decide +kernel) (hts (.classLink RX3 49 "java/lang/IllegalArgumentException") (by decide +kernel)) (hts (.initialized "java/lang/IllegalArgumentException") (by decide +kernel)) (hX.str 18 rfl) (vx_hat (fun w h => hts w (xin_X3_broken_53 w h)) (by decide +kernel) (vx_c (va_Nw.use rfl (hN.c 0 rfl)) (vx_c (va_Nw.use rfl (hN.c 3 rfl)) (vx_c (va_Nw.use rfl (hN.c 4 rfl)) (vx_c (va_Nw.use rfl (hN.c 5 rfl)) vx_n))))) (by decide +kernel) hX.1 hX.2.1 hS (by rw [hml]; exact hl.1) dX3_broken_39 dX3_broken_42 dX3_broken_43 dX3_broken_45 dX3_broken_48 (hout9 _) (Nat.le_of_ble_eq_true rfl) (Nat.le_of_ble_eq_true rfl) (Nat.le_of_ble_eq_true rfl) (Nat.le_of_ble_eq_true rfl) hlocks (fun t9s _ h8 h9 => ⟨(), trivial, Or.inr (⟨rfl, (by unfold cBr; (repeat' split) <;> omega)⟩), thrF hS h8 h9⟩) (fun z hz => (hS.2.2 z hz).elim) (Nat.le_of_ble_eq_true rfl) (Nat.le_of_ble_eq_true rfl)
    · have c_6 := mt (z_le (a := part.toInt) (b := 3) rfl (by decide)).mpr c_6
      exact vx_throwS hx hb hl9 (own := RX3) (cls := "java/lang/IndexOutOfBoundsException") (text := "part is not 0 .. 3") (names := ["java/lang/RuntimeException", "java/lang/Exception"]) (ik := 111) (is := 163) (ic := 115) (sa := sa 163) (A := fun _ => False) hown (by decide +kernel) (by decide +kernel) (hts (.classLink RX3 111 "java/lang/IndexOutOfBoundsException") (by decide +kernel)) (hts (.initialized "java/lang/IndexOutOfBoundsException") (by decide +kernel)) (hX.str 17 rfl) (vx_hat (fun w h => hts w (xin_X3_broken_115 w h)) (by decide +kernel) (vx_c (va_Nw.use rfl (hN.c 2 rfl)) (vx_c (va_Nw.use rfl (hN.c 3 rfl)) (vx_c (va_Nw.use rfl (hN.c 4 rfl)) (vx_c (va_Nw.use rfl (hN.c 5 rfl)) vx_n))))) (by decide +kernel) hX.1 hX.2.1 hS (by rw [hml]; exact hl.1) dX3_broken_9 dX3_broken_12 dX3_broken_13 dX3_broken_15 dX3_broken_18 (hout9 _) (Nat.le_of_ble_eq_true rfl) (Nat.le_of_ble_eq_true rfl) (Nat.le_of_ble_eq_true rfl) (Nat.le_of_ble_eq_true rfl) hlocks (fun t9s _ h8 h9 => ⟨(), trivial, Or.inl (⟨rfl, (by unfold cBr; (repeat' split) <;> omega)⟩), thrF hS h8 h9⟩) (fun z hz => (hS.2.2 z hz).elim) (Nat.le_of_ble_eq_true rfl) (Nat.le_of_ble_eq_true rfl)

set_option maxHeartbeats 4000000 in
set_option maxRecDepth 100000 in
theorem m_X3_clear (l : Launch) (dC : Nat → ClassId) (dI : Nat → Nat → Nat) (sz : Nat) (cD : ClassId) (x ks sh : Nat) (kc : Nat) (kr : UInt64) (pc tf tg : Nat) (n : Nat) (L D : Nat → UInt64) : Met l yX3_clear wsX3_clear ({ frames := 1, cells := 0, slots := 0, locals := 20 } : Room) (va_Pc [.ref x] (PW (dC, dI) [(cD, .double)] [(x, .inr (3, [.ref ks, .ref sh, .int (nI kc), .double kr])), (sh, .inr (2, [.ref pc])), (pc, .inr (1, [.ref tf, .ref tg, .int (nI n)])), (tf, .inl (cD, 12, .inr (.inr (.inr (.inl L))))), (tg, .inl (cD, 12, .inr (.inr (.inr (.inl D)))))] sz)) (va_Qv (fun (u : Unit) => True) (fun (u : Unit) => QW (dC, dI) [(x, .inr (3, [.ref ks, .ref sh, .int (nI kc), .double kr])), (sh, .inr (2, [.ref pc])), (pc, .inr (1, [.ref tf, .ref tg, .int (nI 0)])), (tf, .inl (cD, 12, .inr (.inr (.inr (.inl L))))), (tg, .inl (cD, 12, .inr (.inr (.inr (.inl D)))))] (va_A [(x, .inr (3, [.ref ks, .ref sh, .int (nI kc), .double kr])), (sh, .inr (2, [.ref pc])), (pc, .inr (1, [.ref tf, .ref tg, .int (nI n)])), (tf, .inl (cD, 12, .inr (.inr (.inr (.inl L))))), (tg, .inl (cD, 12, .inr (.inr (.inr (.inl D)))))] sz)) (va_A [(x, .inr (3, [.ref ks, .ref sh, .int (nI kc), .double kr])), (sh, .inr (2, [.ref pc])), (pc, .inr (1, [.ref tf, .ref tg, .int (nI n)])), (tf, .inl (cD, 12, .inr (.inr (.inr (.inl L))))), (tg, .inl (cD, 12, .inr (.inr (.inr (.inl D)))))] sz)) 0 0 (va_A [(x, .inr (3, [.ref ks, .ref sh, .int (nI kc), .double kr])), (sh, .inr (2, [.ref pc])), (pc, .inr (1, [.ref tf, .ref tg, .int (nI n)])), (tf, .inl (cD, 12, .inr (.inr (.inr (.inl L))))), (tg, .inl (cD, 12, .inr (.inr (.inr (.inl D)))))] sz) := by
  refine Met.ofW (cc := cX3_clear) (maxL := 1) (ret := none) (by decide) rfl ?_
  intro p e s m args below meth c s₁ BB hml hv
  obtain ⟨rfl, hsz, hP, hK, hD0, hN⟩ := hv
  have hx := BB.exec
  have hb := BB.bytes
  have hr := BB.returns
  have hts := atoms_spec (ws := wsX3_clear) BB.pre
  have hown : s.vm.findClass RX3 = some m.cls := findClass_of_methodNamed BB.named
  have hlocks := BB.notSynchronized
  subst hsz
  have hD := hD0.self (sz := s.heap.size)
  generalize hAe : va_A [(x, .inr (3, [.ref ks, .ref sh, .int (nI kc), .double kr])), (sh, .inr (2, [.ref pc])), (pc, .inr (1, [.ref tf, .ref tg, .int (nI n)])), (tf, .inl (cD, 12, .inr (.inr (.inr (.inl L))))), (tg, .inl (cD, 12, .inr (.inr (.inr (.inl D)))))] s.heap.size = A at hD ⊢
  have hA : ∀ q : Nat, s.heap.size ≤ q → A q := fun q h => by rw [← hAe]; exact Or.inr h
  have hS : va_S A s.heap s.heap [] := va_S.rf
  have hP : va_P (dC, dI) vwCl [(x, .inr (3, [.ref ks, .ref sh, .int (nI kc), .double kr])), (sh, .inr (2, [.ref pc])), (pc, .inr (1, [.ref tf, .ref tg, .int (nI n)])), (tf, .inl (cD, 12, .inr (.inr (.inr (.inl L))))), (tg, .inl (cD, 12, .inr (.inr (.inr (.inl D)))))] s.heap := hP
  have hl := lv_entry ([.ref x]) (n := 1) (Nat.le_of_ble_eq_true rfl)
  rw [lg_entry_eq]
  generalize (lg_sl ([.ref x]) ++ List.replicate (1 - (lg_sl ([.ref x])).length) Slot.unset).toArray = ls at hl ⊢
  have hl : lv_has ls 1 [(0, .ref x)] := hl
  refine lv_aload_n hx hb dX3_clear_0 rfl (lv_at hl 0 rfl) ?_
  refine va_get (D := (dC, dI)) (ci := 3) (v := .ref sh) (C := RX3) (T := TX3) (N := 4) hx hb hts (by decide +kernel) hown hK hP 0 rfl rfl 1 (by decide) (hts (.fieldLink RX3 18 "SteamBends" "shape" "LSteamBends$Shape;") (by decide +kernel)) (fun _ h9 => h9) rfl dX3_clear_1 ?_
  refine va_getN (D := (dC, dI)) (ci := 2) (v := .ref pc) (C := RX2) (T := TX2) (N := 1) (host := "SteamBends") hx hb hts (by decide +kernel) hown hK hP 1 rfl rfl 0 (by decide) (va_Nw.use rfl (hN.f 2 rfl)) (fun _ h9 => h9) rfl dX3_clear_4 ?_
  have hPc := hP.sub (ws' := [(pc, .inr (1, [.ref tf, .ref tg, .int (nI n)])), (tf, .inl (cD, 12, .inr (.inr (.inr (.inl L))))), (tg, .inl (cD, 12, .inr (.inr (.inr (.inl D)))))]) [2, 3, 4] rfl
  have hKc := hK.sub (tys' := [(cD, .double)]) [0] rfl
  have hDc := hD.sub (ws' := [(pc, .inr (1, [.ref tf, .ref tg, .int (nI n)])), (tf, .inl (cD, 12, .inr (.inr (.inr (.inl L))))), (tg, .inl (cD, 12, .inr (.inr (.inr (.inl D)))))]) [2, 3, 4] (by decide) rfl
  have hFc := va_free (wc := [(pc, .inr (1, [.ref tf, .ref tg, .int (nI n)])), (tf, .inl (cD, 12, .inr (.inr (.inr (.inl L))))), (tg, .inl (cD, 12, .inr (.inr (.inr (.inl D)))))]) hD hS hA [2, 3, 4] rfl
  refine va_callv (va_runV (As := []) (rest := []) ⟨hx, hb, hml, hown, hts⟩ (m_X1_removeAll l dC dI s.heap.size cD pc tf tg n 12 L D) (cwV 0 hts gX3_clear_X1_removeAll rfl rfl rfl (by decide +kernel) ⟨(Nat.le_of_ble_eq_true rfl), (Nat.le_of_ble_eq_true rfl)⟩) ⟨PW.blind, va_recv hKc hPc (ci := 1) (q0 := 0) rfl rfl, fun U9 hU9 hW9 => ⟨rfl, PW.at hPc hKc hDc hN hU9 hW9⟩⟩ rfl rfl hl.1 rfl (lv_room (Nat.le_of_ble_eq_true rfl)) dX3_clear_7 ⟨(Nat.le_of_ble_eq_true rfl), (Nat.le_of_ble_eq_true rfl)⟩) hS (fun q _ h => hFc q h) hFc (fun u9s t9s H1 locs hht hvm9 hw_7_k_193 hB hz1 hk1 hS => ?_)
  obtain ⟨hP1, hD1⟩ := hB
  rw [hht] at hP1
  obtain ⟨hP, hD⟩ := va_join (wr := [(x, .inr (3, [.ref ks, .ref sh, .int (nI kc), .double kr])), (sh, .inr (2, [.ref pc]))]) (w1 := [(pc, .inr (1, [.ref tf, .ref tg, .int (nI 0)])), (tf, .inl (cD, 12, .inr (.inr (.inr (.inl L))))), (tg, .inl (cD, 12, .inr (.inr (.inr (.inl D)))))]) hP hD [2, 3, 4] [0, 1] rfl rfl (by decide) (by decide) hk1 hFc hP1 hD1
  generalize H1 = H at hP hS ⊢
  have hP : va_P (dC, dI) vwCl [(x, .inr (3, [.ref ks, .ref sh, .int (nI kc), .double kr])), (sh, .inr (2, [.ref pc])), (pc, .inr (1, [.ref tf, .ref tg, .int (nI 0)])), (tf, .inl (cD, 12, .inr (.inr (.inr (.inl L))))), (tg, .inl (cD, 12, .inr (.inr (.inr (.inl D)))))] H := hP
  have hD : va_D A [(x, .inr (3, [.ref ks, .ref sh, .int (nI kc), .double kr])), (sh, .inr (2, [.ref pc])), (pc, .inr (1, [.ref tf, .ref tg, .int (nI 0)])), (tf, .inl (cD, 12, .inr (.inr (.inr (.inl L))))), (tg, .inl (cD, 12, .inr (.inr (.inr (.inl D)))))] := hD
  have hP9 := hP.sub (ws' := [(x, .inr (3, [.ref ks, .ref sh, .int (nI kc), .double kr])), (sh, .inr (2, [.ref pc])), (pc, .inr (1, [.ref tf, .ref tg, .int (nI 0)])), (tf, .inl (cD, 12, .inr (.inr (.inr (.inl L))))), (tg, .inl (cD, 12, .inr (.inr (.inr (.inl D)))))]) [0, 1, 2, 3, 4] rfl
  have hD9 := hD.sub (ws' := [(x, .inr (3, [.ref ks, .ref sh, .int (nI kc), .double kr])), (sh, .inr (2, [.ref pc])), (pc, .inr (1, [.ref tf, .ref tg, .int (nI 0)])), (tf, .inl (cD, 12, .inr (.inr (.inr (.inl L))))), (tg, .inl (cD, 12, .inr (.inr (.inr (.inl D)))))]) [0, 1, 2, 3, 4] (by decide) rfl
  exact W.vret hx hb hr (fun t9s hht hW9 => ⟨⟨(), rfl, trivial, ⟨by rw [hht]; exact hP9, hD9⟩⟩, hS.F hht⟩) hS.2.2 dX3_clear_10
