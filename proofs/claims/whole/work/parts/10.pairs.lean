set_option maxHeartbeats 4000000 in
set_option maxRecDepth 100000 in
theorem m_X1_isPlace (l : Launch) (dC : Nat → ClassId) (dI : Nat → Nat → Nat) (cD : ClassId) (a f g : Nat) (n mm : Nat) (F G : Nat → UInt64) (j : Nat) (hj : j < 2 ^ 31) (hm : mm < 2 ^ 31) : Met l yX1_isPlace wsX1_isPlace ({ frames := 0, cells := 0, slots := 0, locals := 0 } : Room) (va_Pc [.ref a, .int (nI j)] (PK (dC, dI) [(cD, .double)] [(a, .inr (1, [.ref f, .ref g, .int (nI n)])), (f, .inl (cD, mm, .inr (.inr (.inr (.inl F))))), (g, .inl (cD, mm, .inr (.inr (.inr (.inl G)))))])) (va_Qi (fun (r : Int32) (_ : Unit) => r = if j < mm then 1 else 0) (fun _ _ => True) (fun _ => False)) 0 0 (fun _ => False) := by
  refine Met.ofW (cc := cX1_isPlace) (maxL := 2) (ret := (some .boolean)) (by decide) rfl ?_
  intro p e s m args below meth c s₁ BB hml hv
  obtain ⟨rfl, hP, hK, hN⟩ := hv
  have hx := BB.exec
  have hb := BB.bytes
  have hr := BB.returns
  have hts := atoms_spec (ws := wsX1_isPlace) BB.pre
  have hown : s.vm.findClass RX1 = some m.cls := findClass_of_methodNamed BB.named
  have hlocks := BB.notSynchronized
  have hS : va_S (fun _ => False) s.heap s.heap [] := va_S.rf
  have hP : va_P (dC, dI) vwCl [(a, .inr (1, [.ref f, .ref g, .int (nI n)])), (f, .inl (cD, mm, .inr (.inr (.inr (.inl F))))), (g, .inl (cD, mm, .inr (.inr (.inr (.inl G)))))] s.heap := hP
  have hl := lv_entry ([.ref a, .int (nI j)]) (n := 2) (Nat.le_of_ble_eq_true rfl)
  rw [lg_entry_eq]
  generalize (lg_sl ([.ref a, .int (nI j)]) ++ List.replicate (2 - (lg_sl ([.ref a, .int (nI j)])).length) Slot.unset).toArray = ls at hl ⊢
  have hl : lv_has ls 2 [(0, .ref a), (1, .int (nI j))] := hl
  refine lv_iload_n hx hb dX1_isPlace_0 rfl (lv_at hl 1 rfl) ?_
  refine lv_if_lt (tgt := 26) hx hb dX1_isPlace_1 (by decide) (fun c_1 => ?_) (fun c_1 => ?_)
  · have c_1 := (nI_ltI (a := j) (b := 0) (by omega) (by omega)).mp c_1
    refine lv_iconst (v := 0) hx hb dX1_isPlace_26 (by decide) ?_
    exact W.zret hx hb hr (by decide) (fun t9s hht hW9 => ⟨⟨0, (), rfl, (by split <;> first | rfl | (exfalso; omega)), trivial⟩, hS.F hht⟩) hS.2.2 dX1_isPlace_27
  · have c_1 := mt (nI_ltI (a := j) (b := 0) (by omega) (by omega)).mpr c_1
    refine lv_iload_n hx hb dX1_isPlace_4 rfl (lv_at hl 1 rfl) ?_
    refine lv_aload_n hx hb dX1_isPlace_5 rfl (lv_at hl 0 rfl) ?_
    refine va_get (D := (dC, dI)) (ci := 1) (v := .ref f) (C := RX1) (T := TX1) (N := 3) hx hb hts (by decide +kernel) hown hK hP 0 rfl rfl 0 (by decide) (hts (.fieldLink RX1 21 "SteamBends$Pairs" "firsts" "[D") (by decide +kernel)) (fun _ h9 => h9) rfl dX1_isPlace_6 ?_
    refine va_alen hx hb hK hP 1 0 rfl rfl (v := nI mm) rfl dX1_isPlace_9 ?_
    refine lv_icmp_ge (tgt := 26) hx hb dX1_isPlace_10 (by decide) (fun c_10 => ?_) (fun c_10 => ?_)
    · have c_10 := (nI_leI (a := mm) (b := j) (by omega) (by omega)).mp c_10
      refine lv_iconst (v := 0) hx hb dX1_isPlace_26 (by decide) ?_
      exact W.zret hx hb hr (by decide) (fun t9s hht hW9 => ⟨⟨0, (), rfl, (by split <;> first | rfl | (exfalso; omega)), trivial⟩, hS.F hht⟩) hS.2.2 dX1_isPlace_27
    · have c_10 := mt (nI_leI (a := mm) (b := j) (by omega) (by omega)).mpr c_10
      refine lv_iload_n hx hb dX1_isPlace_13 rfl (lv_at hl 1 rfl) ?_
      refine lv_aload_n hx hb dX1_isPlace_14 rfl (lv_at hl 0 rfl) ?_
      refine va_get (D := (dC, dI)) (ci := 1) (v := .ref g) (C := RX1) (T := TX1) (N := 3) hx hb hts (by decide +kernel) hown hK hP 0 rfl rfl 1 (by decide) (hts (.fieldLink RX1 25 "SteamBends$Pairs" "seconds" "[D") (by decide +kernel)) (fun _ h9 => h9) rfl dX1_isPlace_15 ?_
      refine va_alen hx hb hK hP 2 0 rfl rfl (v := nI mm) rfl dX1_isPlace_18 ?_
      refine lv_icmp_ge (tgt := 26) hx hb dX1_isPlace_19 (by decide) (fun c_19 => ?_) (fun c_19 => ?_)
      · have c_19 := (nI_leI (a := mm) (b := j) (by omega) (by omega)).mp c_19
        refine lv_iconst (v := 0) hx hb dX1_isPlace_26 (by decide) ?_
        exact W.zret hx hb hr (by decide) (fun t9s hht hW9 => ⟨⟨0, (), rfl, (by split <;> first | rfl | (exfalso; omega)), trivial⟩, hS.F hht⟩) hS.2.2 dX1_isPlace_27
      · have c_19 := mt (nI_leI (a := mm) (b := j) (by omega) (by omega)).mpr c_19
        refine lv_iconst (v := 1) hx hb dX1_isPlace_22 (by decide) ?_
        refine lv_goto (tgt := 27) hx hb dX1_isPlace_23 (by decide) ?_
        exact W.zret hx hb hr (by decide) (fun t9s hht hW9 => ⟨⟨1, (), rfl, (by split <;> first | rfl | (exfalso; omega)), trivial⟩, hS.F hht⟩) hS.2.2 dX1_isPlace_27

set_option maxHeartbeats 4000000 in
set_option maxRecDepth 100000 in
theorem m_X1_first (l : Launch) (dC : Nat → ClassId) (dI : Nat → Nat → Nat) (cD : ClassId) (a f g : Nat) (n mm : Nat) (F G : Nat → UInt64) (j : Nat) (hj : j < mm) (hm : mm < 2 ^ 31) : Met l yX1_first wsX1_first ({ frames := 1, cells := 0, slots := 0, locals := 21 } : Room) (va_Pc [.ref a, .int (nI j)] (PK (dC, dI) [(cD, .double)] [(a, .inr (1, [.ref f, .ref g, .int (nI n)])), (f, .inl (cD, mm, .inr (.inr (.inr (.inl F))))), (g, .inl (cD, mm, .inr (.inr (.inr (.inl G)))))])) (va_Qd (fun (r : UInt64) (_ : Unit) => r = F j) (fun _ _ => True) (fun _ => False)) 0 0 (fun _ => False) := by
  refine Met.ofW (cc := cX1_first) (maxL := 2) (ret := (some .double)) (by decide) rfl ?_
  intro p e s m args below meth c s₁ BB hml hv
  obtain ⟨rfl, hP, hK, hN⟩ := hv
  have hx := BB.exec
  have hb := BB.bytes
  have hr := BB.returns
  have hts := atoms_spec (ws := wsX1_first) BB.pre
  have hown : s.vm.findClass RX1 = some m.cls := findClass_of_methodNamed BB.named
  have hlocks := BB.notSynchronized
  have hS : va_S (fun _ => False) s.heap s.heap [] := va_S.rf
  have hP : va_P (dC, dI) vwCl [(a, .inr (1, [.ref f, .ref g, .int (nI n)])), (f, .inl (cD, mm, .inr (.inr (.inr (.inl F))))), (g, .inl (cD, mm, .inr (.inr (.inr (.inl G)))))] s.heap := hP
  have hl := lv_entry ([.ref a, .int (nI j)]) (n := 2) (Nat.le_of_ble_eq_true rfl)
  rw [lg_entry_eq]
  generalize (lg_sl ([.ref a, .int (nI j)]) ++ List.replicate (2 - (lg_sl ([.ref a, .int (nI j)])).length) Slot.unset).toArray = ls at hl ⊢
  have hl : lv_has ls 2 [(0, .ref a), (1, .int (nI j))] := hl
  refine lv_aload_n hx hb dX1_first_0 rfl (lv_at hl 0 rfl) ?_
  refine lv_iload_n hx hb dX1_first_1 rfl (lv_at hl 1 rfl) ?_
  have hPc := hP.sub (ws' := [(a, .inr (1, [.ref f, .ref g, .int (nI n)])), (f, .inl (cD, mm, .inr (.inr (.inr (.inl F))))), (g, .inl (cD, mm, .inr (.inr (.inr (.inl G)))))]) [0, 1, 2] rfl
  have hKc := hK.sub (tys' := [(cD, .double)]) [0] rfl
  refine va_calli (va_runV (As := [.int (nI j)]) (rest := []) ⟨hx, hb, hml, hown, hts⟩ (m_X1_isPlace l dC dI cD a f g n mm F G j (by omega) (by omega)) (cwV 1 hts gX1_first_X1_isPlace rfl rfl rfl (by decide +kernel) ⟨(Nat.le_of_ble_eq_true rfl), (Nat.le_of_ble_eq_true rfl)⟩) ⟨PK.blind, va_recv hKc hPc (ci := 1) (q0 := 0) rfl rfl, fun U9 hU9 hW9 => ⟨rfl, PK.at hPc hKc hN hU9 hW9⟩⟩ rfl rfl hl.1 rfl (lv_room (Nat.le_of_ble_eq_true rfl)) dX1_first_2 ⟨(Nat.le_of_ble_eq_true rfl), (Nat.le_of_ble_eq_true rfl)⟩) hS (fun q _ h => h.elim) (fun q h => h.elim) (fun r_2 u9s t9s H1 locs hht hvm9 hw_2_k_1 hB hz1 hk1 hS => ?_)
  have hP := va_still hP hk1
  generalize H1 = H at hP hS ⊢
  refine lv_if_eq (tgt := 17) hx hb dX1_first_5 (by decide) (fun c_5 => ?_) (fun c_5 => ?_)
  · have c_5 := (b01 hw_2_k_1).mp c_5
    refine lv_dconst0 hx hb dX1_first_17 ?_
    exact W.dret hx hb hr (fun t9s hht hW9 => ⟨⟨FP.dconst0, (), rfl, (by first | rfl | (exfalso; omega)), trivial⟩, hS.F hht⟩) hS.2.2 dX1_first_18
  · have c_5 := (b01n hw_2_k_1).mp c_5
    refine lv_aload_n hx hb dX1_first_8 rfl (lv_at hl 0 rfl) ?_
    refine va_get (D := (dC, dI)) (ci := 1) (v := .ref f) (C := RX1) (T := TX1) (N := 3) hx hb hts (by decide +kernel) hown hK hP 0 rfl rfl 0 (by decide) (hts (.fieldLink RX1 21 "SteamBends$Pairs" "firsts" "[D") (by decide +kernel)) (fun _ h9 => h9) rfl dX1_first_9 ?_
    refine lv_iload_n hx hb dX1_first_12 rfl (lv_at hl 1 rfl) ?_
    refine va_daldN hx hb hK hP 1 0 rfl rfl (j := j) (by omega) (by omega) dX1_first_13 ?_
    refine lv_goto (tgt := 18) hx hb dX1_first_14 (by decide) ?_
    exact W.dret hx hb hr (fun t9s hht hW9 => ⟨⟨F j, (), rfl, (by first | rfl | (exfalso; omega)), trivial⟩, hS.F hht⟩) hS.2.2 dX1_first_18

set_option maxHeartbeats 4000000 in
set_option maxRecDepth 100000 in
theorem m_X1_second (l : Launch) (dC : Nat → ClassId) (dI : Nat → Nat → Nat) (cD : ClassId) (a f g : Nat) (n mm : Nat) (F G : Nat → UInt64) (j : Nat) (hj : j < mm) (hm : mm < 2 ^ 31) : Met l yX1_second wsX1_second ({ frames := 1, cells := 0, slots := 0, locals := 21 } : Room) (va_Pc [.ref a, .int (nI j)] (PK (dC, dI) [(cD, .double)] [(a, .inr (1, [.ref f, .ref g, .int (nI n)])), (f, .inl (cD, mm, .inr (.inr (.inr (.inl F))))), (g, .inl (cD, mm, .inr (.inr (.inr (.inl G)))))])) (va_Qd (fun (r : UInt64) (_ : Unit) => r = G j) (fun _ _ => True) (fun _ => False)) 0 0 (fun _ => False) := by
  refine Met.ofW (cc := cX1_second) (maxL := 2) (ret := (some .double)) (by decide) rfl ?_
  intro p e s m args below meth c s₁ BB hml hv
  obtain ⟨rfl, hP, hK, hN⟩ := hv
  have hx := BB.exec
  have hb := BB.bytes
  have hr := BB.returns
  have hts := atoms_spec (ws := wsX1_second) BB.pre
  have hown : s.vm.findClass RX1 = some m.cls := findClass_of_methodNamed BB.named
  have hlocks := BB.notSynchronized
  have hS : va_S (fun _ => False) s.heap s.heap [] := va_S.rf
  have hP : va_P (dC, dI) vwCl [(a, .inr (1, [.ref f, .ref g, .int (nI n)])), (f, .inl (cD, mm, .inr (.inr (.inr (.inl F))))), (g, .inl (cD, mm, .inr (.inr (.inr (.inl G)))))] s.heap := hP
  have hl := lv_entry ([.ref a, .int (nI j)]) (n := 2) (Nat.le_of_ble_eq_true rfl)
  rw [lg_entry_eq]
  generalize (lg_sl ([.ref a, .int (nI j)]) ++ List.replicate (2 - (lg_sl ([.ref a, .int (nI j)])).length) Slot.unset).toArray = ls at hl ⊢
  have hl : lv_has ls 2 [(0, .ref a), (1, .int (nI j))] := hl
  refine lv_aload_n hx hb dX1_second_0 rfl (lv_at hl 0 rfl) ?_
  refine lv_iload_n hx hb dX1_second_1 rfl (lv_at hl 1 rfl) ?_
  have hPc := hP.sub (ws' := [(a, .inr (1, [.ref f, .ref g, .int (nI n)])), (f, .inl (cD, mm, .inr (.inr (.inr (.inl F))))), (g, .inl (cD, mm, .inr (.inr (.inr (.inl G)))))]) [0, 1, 2] rfl
  have hKc := hK.sub (tys' := [(cD, .double)]) [0] rfl
  refine va_calli (va_runV (As := [.int (nI j)]) (rest := []) ⟨hx, hb, hml, hown, hts⟩ (m_X1_isPlace l dC dI cD a f g n mm F G j (by omega) (by omega)) (cwV 1 hts gX1_second_X1_isPlace rfl rfl rfl (by decide +kernel) ⟨(Nat.le_of_ble_eq_true rfl), (Nat.le_of_ble_eq_true rfl)⟩) ⟨PK.blind, va_recv hKc hPc (ci := 1) (q0 := 0) rfl rfl, fun U9 hU9 hW9 => ⟨rfl, PK.at hPc hKc hN hU9 hW9⟩⟩ rfl rfl hl.1 rfl (lv_room (Nat.le_of_ble_eq_true rfl)) dX1_second_2 ⟨(Nat.le_of_ble_eq_true rfl), (Nat.le_of_ble_eq_true rfl)⟩) hS (fun q _ h => h.elim) (fun q h => h.elim) (fun r_4 u9s t9s H1 locs hht hvm9 hw_2_k_3 hB hz1 hk1 hS => ?_)
  have hP := va_still hP hk1
  generalize H1 = H at hP hS ⊢
  refine lv_if_eq (tgt := 17) hx hb dX1_second_5 (by decide) (fun c_5 => ?_) (fun c_5 => ?_)
  · have c_5 := (b01 hw_2_k_3).mp c_5
    refine lv_dconst0 hx hb dX1_second_17 ?_
    exact W.dret hx hb hr (fun t9s hht hW9 => ⟨⟨FP.dconst0, (), rfl, (by first | rfl | (exfalso; omega)), trivial⟩, hS.F hht⟩) hS.2.2 dX1_second_18
  · have c_5 := (b01n hw_2_k_3).mp c_5
    refine lv_aload_n hx hb dX1_second_8 rfl (lv_at hl 0 rfl) ?_
    refine va_get (D := (dC, dI)) (ci := 1) (v := .ref g) (C := RX1) (T := TX1) (N := 3) hx hb hts (by decide +kernel) hown hK hP 0 rfl rfl 1 (by decide) (hts (.fieldLink RX1 25 "SteamBends$Pairs" "seconds" "[D") (by decide +kernel)) (fun _ h9 => h9) rfl dX1_second_9 ?_
    refine lv_iload_n hx hb dX1_second_12 rfl (lv_at hl 1 rfl) ?_
    refine va_daldN hx hb hK hP 2 0 rfl rfl (j := j) (by omega) (by omega) dX1_second_13 ?_
    refine lv_goto (tgt := 18) hx hb dX1_second_14 (by decide) ?_
    exact W.dret hx hb hr (fun t9s hht hW9 => ⟨⟨G j, (), rfl, (by first | rfl | (exfalso; omega)), trivial⟩, hS.F hht⟩) hS.2.2 dX1_second_18

set_option maxHeartbeats 4000000 in
set_option maxRecDepth 100000 in
theorem m_X1_addFull (l : Launch) (dC : Nat → ClassId) (dI : Nat → Nat → Nat) (cD : ClassId) (a f g : Nat) (n mm : Nat) (F G : Nat → UInt64) (x y : UInt64) (hn : n = mm) (hm : mm < 2 ^ 31) : Met l yX1_add wsX1_add ({ frames := 1, cells := 0, slots := 0, locals := 21 } : Room) (va_Pc [.ref a, .double x, .double y] (PK (dC, dI) [(cD, .double)] [(a, .inr (1, [.ref f, .ref g, .int (nI n)])), (f, .inl (cD, mm, .inr (.inr (.inr (.inl F))))), (g, .inl (cD, mm, .inr (.inr (.inr (.inl G)))))])) (va_Qi (fun (r : Int32) (_ : Unit) => r = -1) (fun _ _ => True) (fun _ => False)) 0 0 (fun _ => False) := by
  refine Met.ofW (cc := cX1_add) (maxL := 5) (ret := (some .int)) (by decide) rfl ?_
  intro p e s m args below meth c s₁ BB hml hv
  obtain ⟨rfl, hP, hK, hN⟩ := hv
  have hx := BB.exec
  have hb := BB.bytes
  have hr := BB.returns
  have hts := atoms_spec (ws := wsX1_add) BB.pre
  have hown : s.vm.findClass RX1 = some m.cls := findClass_of_methodNamed BB.named
  have hlocks := BB.notSynchronized
  have hS : va_S (fun _ => False) s.heap s.heap [] := va_S.rf
  have hP : va_P (dC, dI) vwCl [(a, .inr (1, [.ref f, .ref g, .int (nI n)])), (f, .inl (cD, mm, .inr (.inr (.inr (.inl F))))), (g, .inl (cD, mm, .inr (.inr (.inr (.inl G)))))] s.heap := hP
  have hl := lv_entry ([.ref a, .double x, .double y]) (n := 5) (Nat.le_of_ble_eq_true rfl)
  rw [lg_entry_eq]
  generalize (lg_sl ([.ref a, .double x, .double y]) ++ List.replicate (5 - (lg_sl ([.ref a, .double x, .double y])).length) Slot.unset).toArray = ls at hl ⊢
  have hl : lv_has ls 5 [(0, .ref a), (1, .double x), (3, .double y)] := hl
  refine lv_aload_n hx hb dX1_add_0 rfl (lv_at hl 0 rfl) ?_
  refine lv_aload_n hx hb dX1_add_1 rfl (lv_at hl 0 rfl) ?_
  refine va_get (D := (dC, dI)) (ci := 1) (v := .int (nI n)) (C := RX1) (T := TX1) (N := 3) hx hb hts (by decide +kernel) hown hK hP 0 rfl rfl 2 (by decide) (hts (.fieldLink RX1 9 "SteamBends$Pairs" "count" "I") (by decide +kernel)) (fun _ h9 => h9) rfl dX1_add_2 ?_
  have hPc := hP.sub (ws' := [(a, .inr (1, [.ref f, .ref g, .int (nI n)])), (f, .inl (cD, mm, .inr (.inr (.inr (.inl F))))), (g, .inl (cD, mm, .inr (.inr (.inr (.inl G)))))]) [0, 1, 2] rfl
  have hKc := hK.sub (tys' := [(cD, .double)]) [0] rfl
  refine va_calli (va_runV (As := [.int (nI n)]) (rest := []) ⟨hx, hb, hml, hown, hts⟩ (m_X1_isPlace l dC dI cD a f g n mm F G n (by omega) (by omega)) (cwV 1 hts gX1_add_X1_isPlace rfl rfl rfl (by decide +kernel) ⟨(Nat.le_of_ble_eq_true rfl), (Nat.le_of_ble_eq_true rfl)⟩) ⟨PK.blind, va_recv hKc hPc (ci := 1) (q0 := 0) rfl rfl, fun U9 hU9 hW9 => ⟨rfl, PK.at hPc hKc hN hU9 hW9⟩⟩ rfl rfl hl.1 rfl (lv_room (Nat.le_of_ble_eq_true rfl)) dX1_add_5 ⟨(Nat.le_of_ble_eq_true rfl), (Nat.le_of_ble_eq_true rfl)⟩) hS (fun q _ h => h.elim) (fun q h => h.elim) (fun r_6 u9s t9s H1 locs hht hvm9 hw_5_k_5 hB hz1 hk1 hS => ?_)
  have hP := va_still hP hk1
  generalize H1 = H at hP hS ⊢
  refine lv_if_ne (tgt := 13) hx hb dX1_add_8 (by decide) (fun c_8 => ?_) (fun c_8 => ?_)
  · have c_8 := (b01n hw_5_k_5).mp c_8
    exact absurd c_8 (by omega)
  · have c_8 := (b01 hw_5_k_5).mp c_8
    refine lv_iconst (v := -1) hx hb dX1_add_11 (by decide) ?_
    exact W.iret hx hb hr (fun t9s hht hW9 => ⟨⟨(-1), (), rfl, (by first | rfl | (exfalso; omega)), trivial⟩, hS.F hht⟩) hS.2.2 dX1_add_12

set_option maxHeartbeats 4000000 in
set_option maxRecDepth 100000 in
theorem m_X1_add (l : Launch) (dC : Nat → ClassId) (dI : Nat → Nat → Nat) (sz : Nat) (cD : ClassId) (a f g : Nat) (n mm : Nat) (F G : Nat → UInt64) (x y : UInt64) (hn : n < mm) (hm : mm < 2 ^ 31) : Met l yX1_add wsX1_add ({ frames := 1, cells := 0, slots := 0, locals := 21 } : Room) (va_Pc [.ref a, .double x, .double y] (PW (dC, dI) [(cD, .double)] [(a, .inr (1, [.ref f, .ref g, .int (nI n)])), (f, .inl (cD, mm, .inr (.inr (.inr (.inl F))))), (g, .inl (cD, mm, .inr (.inr (.inr (.inl G)))))] sz)) (va_Qi (fun (r : Int32) (u : Unit) => r = nI (n + 1)) (fun (u : Unit) => QW (dC, dI) [(a, .inr (1, [.ref f, .ref g, .int (nI (n + 1))])), (f, .inl (cD, mm, .inr (.inr (.inr (.inl (vf_upd F n x)))))), (g, .inl (cD, mm, .inr (.inr (.inr (.inl (vf_upd G n y))))))] (va_A [(a, .inr (1, [.ref f, .ref g, .int (nI n)])), (f, .inl (cD, mm, .inr (.inr (.inr (.inl F))))), (g, .inl (cD, mm, .inr (.inr (.inr (.inl G)))))] sz)) (va_A [(a, .inr (1, [.ref f, .ref g, .int (nI n)])), (f, .inl (cD, mm, .inr (.inr (.inr (.inl F))))), (g, .inl (cD, mm, .inr (.inr (.inr (.inl G)))))] sz)) 0 0 (va_A [(a, .inr (1, [.ref f, .ref g, .int (nI n)])), (f, .inl (cD, mm, .inr (.inr (.inr (.inl F))))), (g, .inl (cD, mm, .inr (.inr (.inr (.inl G)))))] sz) := by
  refine Met.ofW (cc := cX1_add) (maxL := 5) (ret := (some .int)) (by decide) rfl ?_
  intro p e s m args below meth c s₁ BB hml hv
  obtain ⟨rfl, hsz, hP, hK, hD0, hN⟩ := hv
  have hx := BB.exec
  have hb := BB.bytes
  have hr := BB.returns
  have hts := atoms_spec (ws := wsX1_add) BB.pre
  have hown : s.vm.findClass RX1 = some m.cls := findClass_of_methodNamed BB.named
  have hlocks := BB.notSynchronized
  subst hsz
  have hD := hD0.self (sz := s.heap.size)
  generalize hAe : va_A [(a, .inr (1, [.ref f, .ref g, .int (nI n)])), (f, .inl (cD, mm, .inr (.inr (.inr (.inl F))))), (g, .inl (cD, mm, .inr (.inr (.inr (.inl G)))))] s.heap.size = A at hD ⊢
  have hA : ∀ q : Nat, s.heap.size ≤ q → A q := fun q h => by rw [← hAe]; exact Or.inr h
  have hS : va_S A s.heap s.heap [] := va_S.rf
  have hP : va_P (dC, dI) vwCl [(a, .inr (1, [.ref f, .ref g, .int (nI n)])), (f, .inl (cD, mm, .inr (.inr (.inr (.inl F))))), (g, .inl (cD, mm, .inr (.inr (.inr (.inl G)))))] s.heap := hP
  have hl := lv_entry ([.ref a, .double x, .double y]) (n := 5) (Nat.le_of_ble_eq_true rfl)
  rw [lg_entry_eq]
  generalize (lg_sl ([.ref a, .double x, .double y]) ++ List.replicate (5 - (lg_sl ([.ref a, .double x, .double y])).length) Slot.unset).toArray = ls at hl ⊢
  have hl : lv_has ls 5 [(0, .ref a), (1, .double x), (3, .double y)] := hl
  refine lv_aload_n hx hb dX1_add_0 rfl (lv_at hl 0 rfl) ?_
  refine lv_aload_n hx hb dX1_add_1 rfl (lv_at hl 0 rfl) ?_
  refine va_get (D := (dC, dI)) (ci := 1) (v := .int (nI n)) (C := RX1) (T := TX1) (N := 3) hx hb hts (by decide +kernel) hown hK hP 0 rfl rfl 2 (by decide) (hts (.fieldLink RX1 9 "SteamBends$Pairs" "count" "I") (by decide +kernel)) (fun _ h9 => h9) rfl dX1_add_2 ?_
  have hPc := hP.sub (ws' := [(a, .inr (1, [.ref f, .ref g, .int (nI n)])), (f, .inl (cD, mm, .inr (.inr (.inr (.inl F))))), (g, .inl (cD, mm, .inr (.inr (.inr (.inl G)))))]) [0, 1, 2] rfl
  have hKc := hK.sub (tys' := [(cD, .double)]) [0] rfl
  refine va_calli (va_runV (As := [.int (nI n)]) (rest := []) ⟨hx, hb, hml, hown, hts⟩ (m_X1_isPlace l dC dI cD a f g n mm F G n (by omega) (by omega)) (cwV 1 hts gX1_add_X1_isPlace rfl rfl rfl (by decide +kernel) ⟨(Nat.le_of_ble_eq_true rfl), (Nat.le_of_ble_eq_true rfl)⟩) ⟨PK.blind, va_recv hKc hPc (ci := 1) (q0 := 0) rfl rfl, fun U9 hU9 hW9 => ⟨rfl, PK.at hPc hKc hN hU9 hW9⟩⟩ rfl rfl hl.1 rfl (lv_room (Nat.le_of_ble_eq_true rfl)) dX1_add_5 ⟨(Nat.le_of_ble_eq_true rfl), (Nat.le_of_ble_eq_true rfl)⟩) hS (fun q _ h => h.elim) (fun q h => h.elim) (fun r_8 u9s t9s H1 locs hht hvm9 hw_5_k_7 hB hz1 hk1 hS => ?_)
  have hP := va_still hP hk1
  generalize H1 = H at hP hS ⊢
  refine lv_if_ne (tgt := 13) hx hb dX1_add_8 (by decide) (fun c_8 => ?_) (fun c_8 => ?_)
  · have c_8 := (b01n hw_5_k_7).mp c_8
    refine lv_aload_n hx hb dX1_add_13 rfl (lv_at hl 0 rfl) ?_
    refine va_get (D := (dC, dI)) (ci := 1) (v := .ref f) (C := RX1) (T := TX1) (N := 3) hx hb hts (by decide +kernel) hown hK hP 0 rfl rfl 0 (by decide) (hts (.fieldLink RX1 21 "SteamBends$Pairs" "firsts" "[D") (by decide +kernel)) (fun _ h9 => h9) rfl dX1_add_14 ?_
    refine lv_aload_n hx hb dX1_add_17 rfl (lv_at hl 0 rfl) ?_
    refine va_get (D := (dC, dI)) (ci := 1) (v := .int (nI n)) (C := RX1) (T := TX1) (N := 3) hx hb hts (by decide +kernel) hown hK hP 0 rfl rfl 2 (by decide) (hts (.fieldLink RX1 9 "SteamBends$Pairs" "count" "I") (by decide +kernel)) (fun _ h9 => h9) rfl dX1_add_18 ?_
    refine lv_dload_n hx hb dX1_add_21 rfl (lv_at hl 1 rfl) ?_
    refine va_dastN hx hb hK hP hD hS 1 0 rfl rfl (j := n) (by omega) (by omega) dX1_add_22 (fun H locs hP hD hS => ?_)
    have hP : va_P (dC, dI) vwCl [(a, .inr (1, [.ref f, .ref g, .int (nI n)])), (f, .inl (cD, mm, .inr (.inr (.inr (.inl (vf_upd F n x)))))), (g, .inl (cD, mm, .inr (.inr (.inr (.inl G)))))] H := hP
    have hD : va_D A [(a, .inr (1, [.ref f, .ref g, .int (nI n)])), (f, .inl (cD, mm, .inr (.inr (.inr (.inl (vf_upd F n x)))))), (g, .inl (cD, mm, .inr (.inr (.inr (.inl G)))))] := hD
    refine lv_aload_n hx hb dX1_add_23 rfl (lv_at hl 0 rfl) ?_
    refine va_get (D := (dC, dI)) (ci := 1) (v := .ref g) (C := RX1) (T := TX1) (N := 3) hx hb hts (by decide +kernel) hown hK hP 0 rfl rfl 1 (by decide) (hts (.fieldLink RX1 25 "SteamBends$Pairs" "seconds" "[D") (by decide +kernel)) (fun _ h9 => h9) rfl dX1_add_24 ?_
    refine lv_aload_n hx hb dX1_add_27 rfl (lv_at hl 0 rfl) ?_
    refine va_get (D := (dC, dI)) (ci := 1) (v := .int (nI n)) (C := RX1) (T := TX1) (N := 3) hx hb hts (by decide +kernel) hown hK hP 0 rfl rfl 2 (by decide) (hts (.fieldLink RX1 9 "SteamBends$Pairs" "count" "I") (by decide +kernel)) (fun _ h9 => h9) rfl dX1_add_28 ?_
    refine lv_dload_n hx hb dX1_add_31 rfl (lv_at hl 2 rfl) ?_
    refine va_dastN hx hb hK hP hD hS 2 0 rfl rfl (j := n) (by omega) (by omega) dX1_add_32 (fun H locs hP hD hS => ?_)
    have hP : va_P (dC, dI) vwCl [(a, .inr (1, [.ref f, .ref g, .int (nI n)])), (f, .inl (cD, mm, .inr (.inr (.inr (.inl (vf_upd F n x)))))), (g, .inl (cD, mm, .inr (.inr (.inr (.inl (vf_upd G n y))))))] H := hP
    have hD : va_D A [(a, .inr (1, [.ref f, .ref g, .int (nI n)])), (f, .inl (cD, mm, .inr (.inr (.inr (.inl (vf_upd F n x)))))), (g, .inl (cD, mm, .inr (.inr (.inr (.inl (vf_upd G n y))))))] := hD
    refine lv_aload_n hx hb dX1_add_33 rfl (lv_at hl 0 rfl) ?_
    refine lv_dup hx hb dX1_add_34 rfl ?_
    refine va_get (D := (dC, dI)) (ci := 1) (v := .int (nI n)) (C := RX1) (T := TX1) (N := 3) hx hb hts (by decide +kernel) hown hK hP 0 rfl rfl 2 (by decide) (hts (.fieldLink RX1 9 "SteamBends$Pairs" "count" "I") (by decide +kernel)) (fun _ h9 => h9) rfl dX1_add_35 ?_
    refine lv_iconst (v := 1) hx hb dX1_add_38 (by decide) ?_
    refine lv_iaddN (x := n) (y := 1) hx hb dX1_add_39 ?_
    refine va_put (D := (dC, dI)) (ci := 1) (v := .int (nI (n + 1))) (ty := .int) (C := RX1) (T := TX1) (N := 3) hx hb hts (by decide +kernel) tyX1 tyX1_ok nmX1 hown hK hP hD hS 0 rfl rfl 2 (by decide) (hts (.fieldLink RX1 9 "SteamBends$Pairs" "count" "I") (by decide +kernel)) (fun _ h9 => h9) rfl (by decide +kernel) rfl rfl (Nat.le_of_ble_eq_true rfl) dX1_add_40 (fun H locs hP hD hS => ?_)
    have hP : va_P (dC, dI) vwCl [(a, .inr (1, [.ref f, .ref g, .int (nI (n + 1))])), (f, .inl (cD, mm, .inr (.inr (.inr (.inl (vf_upd F n x)))))), (g, .inl (cD, mm, .inr (.inr (.inr (.inl (vf_upd G n y))))))] H := hP
    have hD : va_D A [(a, .inr (1, [.ref f, .ref g, .int (nI (n + 1))])), (f, .inl (cD, mm, .inr (.inr (.inr (.inl (vf_upd F n x)))))), (g, .inl (cD, mm, .inr (.inr (.inr (.inl (vf_upd G n y))))))] := hD
    refine lv_aload_n hx hb dX1_add_43 rfl (lv_at hl 0 rfl) ?_
    refine va_get (D := (dC, dI)) (ci := 1) (v := .int (nI (n + 1))) (C := RX1) (T := TX1) (N := 3) hx hb hts (by decide +kernel) hown hK hP 0 rfl rfl 2 (by decide) (hts (.fieldLink RX1 9 "SteamBends$Pairs" "count" "I") (by decide +kernel)) (fun _ h9 => h9) rfl dX1_add_44 ?_
    have hP9 := hP.sub (ws' := [(a, .inr (1, [.ref f, .ref g, .int (nI (n + 1))])), (f, .inl (cD, mm, .inr (.inr (.inr (.inl (vf_upd F n x)))))), (g, .inl (cD, mm, .inr (.inr (.inr (.inl (vf_upd G n y))))))]) [0, 1, 2] rfl
    have hD9 := hD.sub (ws' := [(a, .inr (1, [.ref f, .ref g, .int (nI (n + 1))])), (f, .inl (cD, mm, .inr (.inr (.inr (.inl (vf_upd F n x)))))), (g, .inl (cD, mm, .inr (.inr (.inr (.inl (vf_upd G n y))))))]) [0, 1, 2] (by decide) rfl
    exact W.iret hx hb hr (fun t9s hht hW9 => ⟨⟨nI (n + 1), (), rfl, (by first | rfl | (exfalso; omega)), ⟨by rw [hht]; exact hP9, hD9⟩⟩, hS.F hht⟩) hS.2.2 dX1_add_47
  · have c_8 := (b01 hw_5_k_7).mp c_8
    exact absurd hn c_8

set_option maxHeartbeats 4000000 in
set_option maxRecDepth 100000 in
theorem m_X1_removeAll (l : Launch) (dC : Nat → ClassId) (dI : Nat → Nat → Nat) (sz : Nat) (cD : ClassId) (a f g : Nat) (n mm : Nat) (F G : Nat → UInt64) : Met l yX1_removeAll wsX1_removeAll ({ frames := 0, cells := 0, slots := 0, locals := 0 } : Room) (va_Pc [.ref a] (PW (dC, dI) [(cD, .double)] [(a, .inr (1, [.ref f, .ref g, .int (nI n)])), (f, .inl (cD, mm, .inr (.inr (.inr (.inl F))))), (g, .inl (cD, mm, .inr (.inr (.inr (.inl G)))))] sz)) (va_Qv (fun (u : Unit) => True) (fun (u : Unit) => QW (dC, dI) [(a, .inr (1, [.ref f, .ref g, .int (nI 0)])), (f, .inl (cD, mm, .inr (.inr (.inr (.inl F))))), (g, .inl (cD, mm, .inr (.inr (.inr (.inl G)))))] (va_A [(a, .inr (1, [.ref f, .ref g, .int (nI n)])), (f, .inl (cD, mm, .inr (.inr (.inr (.inl F))))), (g, .inl (cD, mm, .inr (.inr (.inr (.inl G)))))] sz)) (va_A [(a, .inr (1, [.ref f, .ref g, .int (nI n)])), (f, .inl (cD, mm, .inr (.inr (.inr (.inl F))))), (g, .inl (cD, mm, .inr (.inr (.inr (.inl G)))))] sz)) 0 0 (va_A [(a, .inr (1, [.ref f, .ref g, .int (nI n)])), (f, .inl (cD, mm, .inr (.inr (.inr (.inl F))))), (g, .inl (cD, mm, .inr (.inr (.inr (.inl G)))))] sz) := by
  refine Met.ofW (cc := cX1_removeAll) (maxL := 1) (ret := none) (by decide) rfl ?_
  intro p e s m args below meth c s₁ BB hml hv
  obtain ⟨rfl, hsz, hP, hK, hD0, hN⟩ := hv
  have hx := BB.exec
  have hb := BB.bytes
  have hr := BB.returns
  have hts := atoms_spec (ws := wsX1_removeAll) BB.pre
  have hown : s.vm.findClass RX1 = some m.cls := findClass_of_methodNamed BB.named
  have hlocks := BB.notSynchronized
  subst hsz
  have hD := hD0.self (sz := s.heap.size)
  generalize hAe : va_A [(a, .inr (1, [.ref f, .ref g, .int (nI n)])), (f, .inl (cD, mm, .inr (.inr (.inr (.inl F))))), (g, .inl (cD, mm, .inr (.inr (.inr (.inl G)))))] s.heap.size = A at hD ⊢
  have hA : ∀ q : Nat, s.heap.size ≤ q → A q := fun q h => by rw [← hAe]; exact Or.inr h
  have hS : va_S A s.heap s.heap [] := va_S.rf
  have hP : va_P (dC, dI) vwCl [(a, .inr (1, [.ref f, .ref g, .int (nI n)])), (f, .inl (cD, mm, .inr (.inr (.inr (.inl F))))), (g, .inl (cD, mm, .inr (.inr (.inr (.inl G)))))] s.heap := hP
  have hl := lv_entry ([.ref a]) (n := 1) (Nat.le_of_ble_eq_true rfl)
  rw [lg_entry_eq]
  generalize (lg_sl ([.ref a]) ++ List.replicate (1 - (lg_sl ([.ref a])).length) Slot.unset).toArray = ls at hl ⊢
  have hl : lv_has ls 1 [(0, .ref a)] := hl
  refine lv_aload_n hx hb dX1_removeAll_0 rfl (lv_at hl 0 rfl) ?_
  refine lv_iconst (v := 0) hx hb dX1_removeAll_1 (by decide) ?_
  refine va_put (D := (dC, dI)) (ci := 1) (v := .int 0) (ty := .int) (C := RX1) (T := TX1) (N := 3) hx hb hts (by decide +kernel) tyX1 tyX1_ok nmX1 hown hK hP hD hS 0 rfl rfl 2 (by decide) (hts (.fieldLink RX1 9 "SteamBends$Pairs" "count" "I") (by decide +kernel)) (fun _ h9 => h9) rfl (by decide +kernel) rfl rfl (Nat.le_of_ble_eq_true rfl) dX1_removeAll_2 (fun H locs hP hD hS => ?_)
  have hP : va_P (dC, dI) vwCl [(a, .inr (1, [.ref f, .ref g, .int 0])), (f, .inl (cD, mm, .inr (.inr (.inr (.inl F))))), (g, .inl (cD, mm, .inr (.inr (.inr (.inl G)))))] H := hP
  have hD : va_D A [(a, .inr (1, [.ref f, .ref g, .int 0])), (f, .inl (cD, mm, .inr (.inr (.inr (.inl F))))), (g, .inl (cD, mm, .inr (.inr (.inr (.inl G)))))] := hD
  have hP9 := hP.sub (ws' := [(a, .inr (1, [.ref f, .ref g, .int 0])), (f, .inl (cD, mm, .inr (.inr (.inr (.inl F))))), (g, .inl (cD, mm, .inr (.inr (.inr (.inl G)))))]) [0, 1, 2] rfl
  have hD9 := hD.sub (ws' := [(a, .inr (1, [.ref f, .ref g, .int 0])), (f, .inl (cD, mm, .inr (.inr (.inr (.inl F))))), (g, .inl (cD, mm, .inr (.inr (.inr (.inl G)))))]) [0, 1, 2] (by decide) rfl
  exact W.vret hx hb hr (fun t9s hht hW9 => ⟨⟨(), rfl, trivial, ⟨by rw [hht]; exact hP9, hD9⟩⟩, hS.F hht⟩) hS.2.2 dX1_removeAll_5
