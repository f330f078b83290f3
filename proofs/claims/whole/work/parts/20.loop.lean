/-! THE CLAIM OUT OF ONE WALK OF THE LAW'S BODY. Your part is whole_start (and what it stands on); all else here is the same for every law, but numbers. -/
def R_law : String := "SteamBendsLaw"
def lw_P (b : Addr) (xs : List Int32) (args : Array Value) (s : State) : Prop := args = #[.ref b] ∧ s.IntsAt b xs ∧ xs.length ≤ 2560 ∧ (Jvm.Cond.and given_1 narrow_1).before args s = true
/-- what a walk over the start with the record d0 says of its end, said of the start itself -/
theorem lw_closed {s t : State} {o : Outcome} {d0 : Drawn} {L : List Loc} {k n : Nat} (hd0 : s.drawn.sameBut d0 lw_cs) (hv : ∃ v, o = .returned v) (hW : (s.setDrawn d0).WarmedH t.vm) (hs : (s.setDrawn d0).sameButNew ({ t with vm := s.vm } : State) L k n) : State.butDraws s t lw_cs (fun t1 => Framed s o t1 L k n) := by
  have h2 : t.drawn = d0 := congrArg State.drawn hs.1
  refine ⟨⟨hv, hW, State.sameButNew.setDrawn hs s.drawn⟩, ?_, by decide⟩
  rw [h2]
  exact hd0
def lw_Q (_ : Array Value) (s : State) (o : Outcome) (t : State) : Prop := o = .returned (some (.int 1)) ∧ State.butDraws s t lw_cs (fun t1 => Framed s o t1 [] 602422 7288838)
def lw_Z (below : List Frame) (a : Array Value) (s : State) : State → Prop := fun t => ∃ o, t.status = .running ∧ Ended t below o ∧ lw_Q a s o t
/-- the law's own end, with 1 on the stack, nothing written that was there before, its room as the claim has it; d0: the record of draws at this point (at the entry s.drawn: begin with 'refine W.base ?_' and 'have hd0 := Drawn.sameBut.refl s.drawn lw_cs') -/
theorem lw_ret {p : Program} {l : Launch} {e : Env} {s : State} {m : MethodId} {below : List Frame} {meth : Method} {c : Code} {b : Nat} {d0 : Drawn} (hd0 : s.drawn.sameBut d0 lw_cs) (hx : p.tables.exec = Jvm.exec) (hb : c.code = code) (hr : meth.sig.returnType = ret) (hlocks : meth.locks = false) {pc : Nat} {H : Heap} {ls : Array Slot} (hdg : decode code pc = .ok (.ireturn, 1)) : W p l e room_1 (s.setDrawn d0) m #[Value.ref b] below meth c H [] 602422 7288838 (lw_Z below #[Value.ref b] s) (F0 m pc ls [.int 1]) := by
  intro T hT X
  obtain ⟨fs, hret, hrun, hended, hW, hframe⟩ := X.leave (v := some (.int 1)) (hlocks := hlocks) (fun h => by rw [hr] at h; cases h)
  have hmeth' : T.vm.method? m = some meth := X.method'
  refine ⟨T.setFrames fs, ?_, .returned (some (.int 1)), hrun, hended, rfl, lw_closed hd0 ⟨_, rfl⟩ hW hframe⟩
  jvm_step X.here [X.here.top, hx, hb, hdg, hmeth', hr, ret, narrow_b1]
  (try refine ⟨rfl, ?_⟩); (try refine ⟨rfl, ?_⟩)
  first | (intro acts; rw [hret _ acts rfl rfl rfl]) | rw [hret _ _ rfl rfl rfl]
  exact Steps.refl _
/-- what holds at the law's entry: the machine, the code, the tables' words (any of lw_tbl by 'hts w (by decide +kernel)'), the script of L ints xs at the cell b, what the Statement gives of the start (any of its parts by flat_of_before) -/
def lw_At (p : Program) (s : State) (m : MethodId) (meth : Method) (c : Code) (b L : Nat) (xs : Nat → Int32) : Prop :=
  p.tables.exec = Jvm.exec ∧ c.code = code ∧ meth.sig.returnType = ret ∧ c.maxLocals = 9 ∧ s.vm.findClass R_law = some m.cls ∧ (∀ w ∈ lw_tbl, w.before #[Value.ref b] s = true) ∧ va_X b L xs s s.heap ∧ b < s.heap.size ∧ meth.locks = false ∧ (Jvm.Cond.and given_1 narrow_1).before #[Value.ref b] s = true
/-! the loop -/
theorem and15 (v : Int32) : ∃ k : Nat, k < 16 ∧ v &&& 15 = nI k := by
  refine ⟨(v &&& 15).toBitVec.toNat, ?_, ?_⟩
  · rw [Int32.toBitVec_and, BitVec.toNat_and]
    exact Nat.and_lt_two_pow (n := 4) _ (by decide)
  · apply Int32.toBitVec_inj.mp
    apply BitVec.eq_of_toNat_eq
    show _ = (BitVec.ofNat 32 (v &&& 15).toBitVec.toNat).toNat
    rw [BitVec.ofNat_toNat, BitVec.setWidth_eq]
theorem sub5 {L : Nat} (h : L ≤ 2560) : (Int32.ofNat L - 5).toInt = (L : Int) - 5 := by
  have h1 : (Int32.ofNat L).toInt = (L : Int) := nI_toInt (n := L) (by omega)
  have h2 : (5 : Int32).toInt = 5 := by decide
  rw [Int32.toInt_sub, h1, h2, Int.bmod_def]
  split <;> omega
theorem at5 {L q : Nat} (h : L ≤ 2560) (hq : 5 * q ≤ L) : (Int32.ofNat L - 5 < nI (5 * q)) ↔ L < 5 * q + 5 := by
  rw [z_lt (sub5 h) (nI_toInt (n := 5 * q) (by omega))]
  omega
set_option maxHeartbeats 4000000 in
set_option maxRecDepth 100000 in
theorem law_loop {p : Program} {e : Env} {s : State} {m : MethodId} {below : List Frame} {meth : Method} {c : Code} (l : Launch) (hl9 : l.stackTraces = false) (dC : Nat → ClassId) (dI : Nat → Nat → Nat) (sa : Nat → Nat) (cD cK cI cJ : ClassId) {b L : Nat} {xs : Nat → Int32} (hLL : L ≤ 2560) (hx : p.tables.exec = Jvm.exec) (hb : c.code = cL_law) (hr : meth.sig.returnType = ret) (hlocks : meth.locks = false) (hml : c.maxLocals = 9) (hown : s.vm.findClass RL = some m.cls) (hts : ∀ w ∈ wsL_law, w.before #[Value.ref b] s = true) (hXs : va_X b L xs s s.heap) (hbl : b < s.heap.size) (hK : va_K (dC, dI) vwCl [(cD, .double), (cK, .object "SteamBends$Kind"), (cI, .int), (cJ, .long)] s) (hN : NW s) (hX : XT (AL s) sa s) (hC : NC s) : ∀ (n q : Nat), L < 5 * q + 5 * n + 5 → 5 * q ≤ L → ∀ (ad : Nat → Nat) (gk : Nat → Option Nat) (K : Nat → KSt) (np : Nat) (Lp Dp : Nat → UInt64) (kc : Nat) (kr : UInt64) (mo : Nat) (am : Nat → Nat) (cd fd : Int32) (nr : Nat → Nat) (T2 R2 : Nat → Nat → UInt64) (ng : Nat → Nat) (B2 K2 : Nat → Nat → UInt64) (sp2 st2 : Nat → UInt64) (oa ob : Nat) (ov : Nat → Int64) (od : Nat → UInt64) (H : Heap) (locs : List Loc) (ls : Array Slot), LI dC dI cD cK cI cJ s b q ad gk K np Lp Dp kc kr mo am cd fd nr T2 R2 ng B2 K2 sp2 st2 oa ob ov od H locs ls → W p l e room_1 s m #[Value.ref b] below meth c H locs (100 + 2 * q) (1000 + 12 * q) (lw_Z below #[Value.ref b] s) (F0 m 28 ls []) := by
  have hA : ∀ z : Nat, s.heap.size ≤ z → AL s z := fun _ h => h
  have hbA : ¬ AL s b := Nat.not_le.mpr hbl
  intro n
  induction n with
  | zero =>
    intro q h1 h2 ad gk K np Lp Dp kc kr mo am cd fd nr T2 R2 ng B2 K2 sp2 st2 oa ob ov od H locs ls hLI
    have hl := hLI.2.1
    have hS := hLI.2.2.2.2
    refine lv_iload hx hb dL_law_28 (lv_at hl 5 rfl) ?_
    refine lv_aload_n hx hb dL_law_30 rfl (lv_at hl 0 rfl) ?_
    refine va_slen hx hb hXs hbl hbA hS dL_law_31 ?_
    refine lv_iconst (v := 5) hx hb dL_law_32 (by decide) ?_
    refine lv_isub hx hb dL_law_33 ?_
    refine lv_icmp_gt (tgt := 1550) hx hb dL_law_34 (by decide) (fun c_34 => ?_) (fun c_34 => ?_)
    · refine lv_iconst (v := 1) hx hb dL_law_1550 (by decide) ?_
      refine va_forget (fun z hz => hS.2.2 z hz) ?_
      refine W.widen (k := 602422) (n := 7288838) (by omega) (by omega) ?_
      exact W.base (lw_ret (Drawn.sameBut.refl s.drawn lw_cs) hx hb hr hlocks dL_law_1551)
    · exact absurd ((at5 hLL h2).mpr (by omega)) c_34
  | succ n ih =>
    intro q h1 h2 ad gk K np Lp Dp kc kr mo am cd fd nr T2 R2 ng B2 K2 sp2 st2 oa ob ov od H locs ls hLI
    have hl := hLI.2.1
    have hS := hLI.2.2.2.2
    refine lv_iload hx hb dL_law_28 (lv_at hl 5 rfl) ?_
    refine lv_aload_n hx hb dL_law_30 rfl (lv_at hl 0 rfl) ?_
    refine va_slen hx hb hXs hbl hbA hS dL_law_31 ?_
    refine lv_iconst (v := 5) hx hb dL_law_32 (by decide) ?_
    refine lv_isub hx hb dL_law_33 ?_
    refine lv_icmp_gt (tgt := 1550) hx hb dL_law_34 (by decide) (fun c_34 => ?_) (fun c_34 => ?_)
    · refine lv_iconst (v := 1) hx hb dL_law_1550 (by decide) ?_
      refine va_forget (fun z hz => hS.2.2 z hz) ?_
      refine W.widen (k := 602422) (n := 7288838) (by omega) (by omega) ?_
      exact W.base (lw_ret (Drawn.sameBut.refl s.drawn lw_cs) hx hb hr hlocks dL_law_1551)
    · have hq : 5 * q + 5 ≤ L := by
        rcases Nat.lt_or_ge L (5 * q + 5) with z | z
        · exact absurd ((at5 hLL h2).mpr z) c_34
        · exact z
      refine lv_aload_n hx hb dL_law_37 rfl (lv_at hl 0 rfl) ?_
      refine lv_iload hx hb dL_law_38 (lv_at hl 5 rfl) ?_
      refine va_sldN hx hb hXs hbl hbA hS (j := 5 * q) (by omega) (by omega) dL_law_40 ?_
      refine lv_bipush (v := 15) hx hb dL_law_41 (by decide) ?_
      refine lv_iand hx hb dL_law_43 ?_
      have ih1 := ih (q + 1) (by omega) (by omega)
      obtain ⟨k, hk, ek⟩ := and15 (xs (5 * q))
      rw [ek]
      have hcs : k = 0 ∨ k = 1 ∨ k = 2 ∨ k = 3 ∨ k = 4 ∨ k = 5 ∨ k = 6 ∨ k = 7 ∨ k = 8 ∨ k = 9 ∨ k = 10 ∨ k = 11 ∨ k = 12 ∨ k = 13 ∨ k = 14 ∨ k = 15 := by omega
      rcases hcs with rfl | rfl | rfl | rfl | rfl | rfl | rfl | rfl | rfl | rfl | rfl | rfl | rfl | rfl | rfl | rfl
      · refine lv_tableIn (off := 80) (tgt := 124) hx hb dL_law_44 (by decide +kernel) (by decide +kernel) (by decide +kernel) (by decide) ?_
        exact case_0 l hl9 dC dI sa cD cK cI cJ hLL hx hb hml hown hts hXs hbl hK hN hX hC q hq ad gk K np Lp Dp kc kr mo am cd fd nr T2 R2 ng B2 K2 sp2 st2 oa ob ov od H locs ls hLI ih1
      · refine lv_tableIn (off := 180) (tgt := 224) hx hb dL_law_44 (by decide +kernel) (by decide +kernel) (by decide +kernel) (by decide) ?_
        exact case_1 l hl9 dC dI sa cD cK cI cJ hLL hx hb hml hown hts hXs hbl hK hN hX hC q hq ad gk K np Lp Dp kc kr mo am cd fd nr T2 R2 ng B2 K2 sp2 st2 oa ob ov od H locs ls hLI ih1
      · refine lv_tableIn (off := 279) (tgt := 323) hx hb dL_law_44 (by decide +kernel) (by decide +kernel) (by decide +kernel) (by decide) ?_
        exact case_2 l hl9 dC dI sa cD cK cI cJ hLL hx hb hml hown hts hXs hbl hK hN hX hC q hq ad gk K np Lp Dp kc kr mo am cd fd nr T2 R2 ng B2 K2 sp2 st2 oa ob ov od H locs ls hLI ih1
      · refine lv_tableIn (off := 379) (tgt := 423) hx hb dL_law_44 (by decide +kernel) (by decide +kernel) (by decide +kernel) (by decide) ?_
        exact case_3 l hl9 dC dI sa cD cK cI cJ hLL hx hb hml hown hts hXs hbl hK hN hX hC q hq ad gk K np Lp Dp kc kr mo am cd fd nr T2 R2 ng B2 K2 sp2 st2 oa ob ov od H locs ls hLI ih1
      · refine lv_tableIn (off := 479) (tgt := 523) hx hb dL_law_44 (by decide +kernel) (by decide +kernel) (by decide +kernel) (by decide) ?_
        exact case_4 l hl9 dC dI sa cD cK cI cJ hLL hx hb hml hown hts hXs hbl hK hN hX hC q hq ad gk K np Lp Dp kc kr mo am cd fd nr T2 R2 ng B2 K2 sp2 st2 oa ob ov od H locs ls hLI ih1
      · refine lv_tableIn (off := 547) (tgt := 591) hx hb dL_law_44 (by decide +kernel) (by decide +kernel) (by decide +kernel) (by decide) ?_
        exact case_5 l hl9 dC dI sa cD cK cI cJ hLL hx hb hml hown hts hXs hbl hK hN hX hC q hq ad gk K np Lp Dp kc kr mo am cd fd nr T2 R2 ng B2 K2 sp2 st2 oa ob ov od H locs ls hLI ih1
      · refine lv_tableIn (off := 636) (tgt := 680) hx hb dL_law_44 (by decide +kernel) (by decide +kernel) (by decide +kernel) (by decide) ?_
        exact case_6 l hl9 dC dI sa cD cK cI cJ hLL hx hb hml hown hts hXs hbl hK hN hX hC q hq ad gk K np Lp Dp kc kr mo am cd fd nr T2 R2 ng B2 K2 sp2 st2 oa ob ov od H locs ls hLI ih1
      · refine lv_tableIn (off := 735) (tgt := 779) hx hb dL_law_44 (by decide +kernel) (by decide +kernel) (by decide +kernel) (by decide) ?_
        exact case_7 l hl9 dC dI sa cD cK cI cJ hLL hx hb hml hown hts hXs hbl hK hN hX hC q hq ad gk K np Lp Dp kc kr mo am cd fd nr T2 R2 ng B2 K2 sp2 st2 oa ob ov od H locs ls hLI ih1
      · refine lv_tableIn (off := 822) (tgt := 866) hx hb dL_law_44 (by decide +kernel) (by decide +kernel) (by decide +kernel) (by decide) ?_
        exact case_8 l hl9 dC dI sa cD cK cI cJ hLL hx hb hml hown hts hXs hbl hK hN hX hC q hq ad gk K np Lp Dp kc kr mo am cd fd nr T2 R2 ng B2 K2 sp2 st2 oa ob ov od H locs ls hLI ih1
      · refine lv_tableIn (off := 910) (tgt := 954) hx hb dL_law_44 (by decide +kernel) (by decide +kernel) (by decide +kernel) (by decide) ?_
        exact case_9 l hl9 dC dI sa cD cK cI cJ hLL hx hb hml hown hts hXs hbl hK hN hX hC q hq ad gk K np Lp Dp kc kr mo am cd fd nr T2 R2 ng B2 K2 sp2 st2 oa ob ov od H locs ls hLI ih1
      · refine lv_tableIn (off := 921) (tgt := 965) hx hb dL_law_44 (by decide +kernel) (by decide +kernel) (by decide +kernel) (by decide) ?_
        exact case_10 l hl9 dC dI sa cD cK cI cJ hLL hx hb hml hown hts hXs hbl hK hN hX hC q hq ad gk K np Lp Dp kc kr mo am cd fd nr T2 R2 ng B2 K2 sp2 st2 oa ob ov od H locs ls hLI ih1
      · refine lv_tableIn (off := 1036) (tgt := 1080) hx hb dL_law_44 (by decide +kernel) (by decide +kernel) (by decide +kernel) (by decide) ?_
        exact case_11 l hl9 dC dI sa cD cK cI cJ hLL hx hb hml hown hts hXs hbl hK hN hX hC q hq ad gk K np Lp Dp kc kr mo am cd fd nr T2 R2 ng B2 K2 sp2 st2 oa ob ov od H locs ls hLI ih1
      · refine lv_tableIn (off := 1168) (tgt := 1212) hx hb dL_law_44 (by decide +kernel) (by decide +kernel) (by decide +kernel) (by decide) ?_
        exact case_12 l hl9 dC dI sa cD cK cI cJ hLL hx hb hml hown hts hXs hbl hK hN hX hC q hq ad gk K np Lp Dp kc kr mo am cd fd nr T2 R2 ng B2 K2 sp2 st2 oa ob ov od H locs ls hLI ih1
      · refine lv_tableIn (off := 1267) (tgt := 1311) hx hb dL_law_44 (by decide +kernel) (by decide +kernel) (by decide +kernel) (by decide) ?_
        exact case_13 l hl9 dC dI sa cD cK cI cJ hLL hx hb hml hown hts hXs hbl hK hN hX hC q hq ad gk K np Lp Dp kc kr mo am cd fd nr T2 R2 ng B2 K2 sp2 st2 oa ob ov od H locs ls hLI ih1
      · refine lv_tableIn (off := 1332) (tgt := 1376) hx hb dL_law_44 (by decide +kernel) (by decide +kernel) (by decide +kernel) (by decide) ?_
        exact case_14 l hl9 dC dI sa cD cK cI cJ hLL hx hb hml hown hts hXs hbl hK hN hX hC q hq ad gk K np Lp Dp kc kr mo am cd fd nr T2 R2 ng B2 K2 sp2 st2 oa ob ov od H locs ls hLI ih1
      · refine lv_tableIn (off := 1411) (tgt := 1455) hx hb dL_law_44 (by decide +kernel) (by decide +kernel) (by decide +kernel) (by decide) ?_
        exact case_15 l hl9 dC dI sa cD cK cI cJ hLL hx hb hml hown hts hXs hbl hK hN hX hC q hq ad gk K np Lp Dp kc kr mo am cd fd nr T2 R2 ng B2 K2 sp2 st2 oa ob ov od H locs ls hLI ih1
