section
variable {p : Program} {l : Launch} {e : Env} {R : Room} {s : State} {m : MethodId} {args : Array Value} {below : List Frame} {meth : Method} {c : Code} {H : Heap} {locs : List Loc} {cells slots : Nat} {Q : State → Prop}
variable {mc ms : Nat} {free : Addr → Prop} {A0 A1 : Nat → Prop} {H0 : Heap} {a : Array Value} {pc : Nat} {ls : Array Slot} {st0 rest : List Value}
theorem vx_callq {S SX : Type} {post : Option Nat → S → Prop} {px : SX → Prop} {B : S → State → Prop} {BX : String → SX → State → Prop} {AX : Nat → Prop} (hr : vx_Run p l e R s m args below meth c H locs cells slots mc ms (F0 m pc ls st0) rest (va_Qq post B A1 a) (vx_X px BX AX) free) (hS : va_S A0 H0 H locs) (hA : ∀ q, q < H.size → A1 q → A0 q) (hf : ∀ q, free q → A0 q) (hAX : ∀ q, q < H.size → AX q → A0 q)
    (kx : ∀ (E : String) (ce : Cell) (q9 : Addr) (u : SX) (t : State) (H1 : Heap) (locs1 : List Loc), t.heap = H1 → s.vm.Alike t.vm → px u → BX E u t → H.size ≤ H1.size → (∀ q : Nat, q < H.size → ¬ AX q → H1[q]? = H[q]?) → va_S A0 H0 H1 locs1 → H1[q9]? = some ce → ce.vm = .none → s.vm.findClass E = some ce.cls → vx_W p l e R s m args below meth c H1 locs1 (cells + mc) (slots + ms) Q (F0 m pc ls rest) q9)
    (kk : ∀ (r : Option Nat) (u : S) (t : State) (H1 : Heap) (locs1 : List Loc), t.heap = H1 → s.vm.Alike t.vm → post r u → B u t → H.size ≤ H1.size → (∀ q : Nat, q < H.size → ¬ A1 q → H1[q]? = H[q]?) → va_S A0 H0 H1 locs1 → W p l e R s m args below meth c H1 locs1 (cells + mc) (slots + ms) Q (F0 m (pc + 3) ls (va_rf r :: rest))) : W p l e R s m args below meth c H locs cells slots Q (F0 m pc ls st0) := by
  intro T hT X
  rcases hr T hT X with ⟨v, st₀, t, T', L, h0, X', hL, e1, e2, ⟨⟨r, u, hv, hp, hb⟩, hF⟩, st⟩ | ⟨q, st₀, t, T', L, E, ce, h0, X', hL, e1, e2, ⟨u, hp, hb, hF⟩, hce, hcv, hcl, st⟩
  · cases hv
    obtain ⟨k1, k2, k3⟩ := vx_keep h0 e1 hS hA hf hL hF
    obtain ⟨t2, a1, b1⟩ := kk r u t T'.heap (locs ++ L) e1.symm (by rw [← e2]; exact X'.warmed.alike) hp hb k1 k2 k3 T' rfl X'
    exact ⟨t2, st t2 a1, b1⟩
  · obtain ⟨k1, k2, k3⟩ := vx_keep h0 e1 hS hAX hf hL hF
    obtain ⟨t2, a1, b1⟩ := kx E ce q u t T'.heap (locs ++ L) e1.symm (by rw [← e2]; exact X'.warmed.alike) hp hb k1 k2 k3 (by rw [e1]; exact hce) hcv hcl T' rfl X'
    exact ⟨t2, st.trans a1, b1⟩
end

/-- the class's String constants, by their entries -/
def strL : List (Nat × String) := [(51, "thick or radius is not as said"), (68, "the kind has no room for a row more"), (71, "thick is not 0 .. 1000"), (80, "thick lies outside the rows"), (82, "thick or radius is not 0.125 .. 10000"), (89, "bent or kept is not as said"), (94, "the kind has no room for a reading more"), (96, "rounds are not 0 .. 100"), (113, "what is not 0 .. 2"), (116, "wanted is not 0.125 .. 100000"), (127, "length or radius is not as said"), (132, "the shape has no room for a piece more"), (140, "thick is not 0 .. 1000, or too thick for a radius"), (150, "angle, thick, stays or saw is not as said"), (157, "no kerfs were asked for"), (159, "there is no such kerf"), (161, "length is not 0 .. 10000"), (163, "part is not 0 .. 3"), (166, "n or bad is not as said"), (172, "days are not 0 .. 10000"), (176, "there is no such kind")]
/-- what a throw needs of the start: two statics that nobody writes, the texts -/
def XT (A : Nat → Prop) (sa : Nat → Nat) (U : State) : Prop := vx_Zq Bundle.tN "UNASSIGNED_STACK" Bundle.steD A U U.heap ∧ vx_Zq Bundle.tN "SUPPRESSED_SENTINEL" Bundle.listD A U U.heap ∧ ∀ q ∈ strL, vk_R RX3 q.1 q.2 (sa q.1) U
theorem XT.str {A : Nat → Prop} {sa : Nat → Nat} {U : State} (h : XT A sa U) (i : Nat) {k : Nat} {tx : String} (hi : strL[i]? = some (k, tx)) : vk_R RX3 k tx (sa k) U := h.2.2 _ (List.mem_of_getElem? hi)
theorem XT.call {A : Nat → Prop} {sa : Nat → Nat} {U : State} {g : JFrame} {mk : MethodId} {a : Array Value} (h : XT A sa U) : XT A sa (U.calling g mk a) :=
  ⟨vx_Zq.moved (u := U) (U := U.calling g mk a) (Vm.Alike.refl U.vm) h.1, vx_Zq.moved (u := U) (U := U.calling g mk a) (Vm.Alike.refl U.vm) h.2.1, fun q hq => vk_R.same (u := U) (U := U.calling g mk a) rfl (h.2.2 q hq)⟩
theorem XT.at {A : Nat → Prop} {sa : Nat → Nat} {s U : State} {H : Heap} {locs : List Loc} (h : XT A sa s) (hS : va_S A s.heap H locs) (hU : U.heap = H) (hW : s.WarmedH U.vm) : XT (fun _ => False) sa U := by
  subst hU
  exact ⟨((h.1.kept hS.2.1).narrow (fun _ z => z.elim)).moved hW.alike, ((h.2.1.kept hS.2.1).narrow (fun _ z => z.elim)).moved hW.alike, fun q hq => vk_R.warm hW (h.2.2 q hq)⟩
/-- the start of a method that throws -/
def PT (D : va_G) (tys : List (ClassId × FieldType)) (ws : va_W) (sz : Nat) (sa : Nat → Nat) (U : State) : Prop := PW D tys ws sz U ∧ XT (fun _ => False) sa U
theorem PT.blind {args : List Value} {D : va_G} {tys : List (ClassId × FieldType)} {ws : va_W} {sz : Nat} {sa : Nat → Nat} : FrameBlind (va_Pc args (PT D tys ws sz sa)) :=
  fun a U g mk q => ⟨q.1, (PW.blind (args := args) a U g mk ⟨q.1, q.2.1⟩).2, q.2.2.call⟩
theorem PT.at {D : va_G} {tys : List (ClassId × FieldType)} {ws : va_W} {A B : Nat → Prop} {H : Heap} {s U : State} {sa : Nat → Nat} {locs : List Loc} (hP : va_P D vwCl ws H) (hK : va_K D vwCl tys s) (hD : va_D A ws) (hN : NW s) (hX : XT B sa s) (hS : va_S B s.heap H locs) (hU : U.heap = H) (hW : s.WarmedH U.vm) : PT D tys ws H.size sa U := ⟨PW.at hP hK hD hN hU hW, hX.at hS hU hW⟩
theorem thrF {s t : State} {H : Heap} {locs : List Loc} (hS : va_S (fun _ => False) s.heap H locs) (h1 : H.size ≤ t.heap.size) (h2 : ∀ q : Nat, q < H.size → t.heap[q]? = H[q]?) : va_F (fun _ => False) s t :=
  ⟨Nat.le_trans hS.1 h1, fun q h3 h4 => (h2 q (Nat.lt_of_lt_of_le h3 hS.1)).trans (hS.2.1 q h3 h4)⟩
abbrev eIA : String := "java/lang/IllegalArgumentException"
abbrev eIS : String := "java/lang/IllegalStateException"
abbrev eIO : String := "java/lang/IndexOutOfBoundsException"
theorem z_lt {x y : Int32} {a b : Int} (hx : x.toInt = a) (hy : y.toInt = b) : x < y ↔ a < b := by rw [Int32.lt_iff_toInt_lt, hx, hy]
theorem z_le {x y : Int32} {a b : Int} (hx : x.toInt = a) (hy : y.toInt = b) : x ≤ y ↔ a ≤ b := by rw [Int32.le_iff_toInt_le, hx, hy]
theorem z_eq {x y : Int32} {a b : Int} (hx : x.toInt = a) (hy : y.toInt = b) : x = y ↔ a = b := by
  rw [← hx, ← hy]
  exact ⟨fun h => by rw [h], fun h => Int32.toInt.inj h⟩
/-! the calls: 0, or which exception; the answer -/
abbrev kOK (kd : Int32) : Prop := 0 ≤ kd.toInt ∧ kd.toInt < 4
abbrev inR (v a b : UInt64) : Prop := dv a ≤ dv v ∧ dv v ≤ dv b
def cTab (kd : Int32) (t r : UInt64) (n : Nat) (T : Nat → UInt64) : Nat := if ¬ (0 ≤ kd.toInt ∧ kd.toInt < 4) then 1 else if ¬ ((dv 4593671619917905920 ≤ dv t ∧ dv t ≤ dv 4652007308841189376) ∧ (dv 4593671619917905920 ≤ dv r ∧ dv r ≤ dv 4666723172467343360) ∧ (n = 0 ∨ dv (T (n - 1)) < dv t)) then 2 else if n = 12 then 3 else 0
def cRad (kd : Int32) (t : UInt64) (n : Nat) (T R : Nat → UInt64) : Nat := if ¬ (0 ≤ kd.toInt ∧ kd.toInt < 4) then 1 else if ¬ (dv FP.dconst0 ≤ dv t ∧ dv t ≤ dv 4652007308841189376) then 2 else if rRad T R t n = none then 3 else 0
def cStr (kd : Int32) (t w : UInt64) : Nat := if ¬ (0 ≤ kd.toInt ∧ kd.toInt < 4) then 1 else if ¬ ((dv 4593671619917905920 ≤ dv t ∧ dv t ≤ dv 4666723172467343360) ∧ (dv 4593671619917905920 ≤ dv w ∧ dv w ≤ dv 4666723172467343360)) then 2 else 0
def cRd (kd : Int32) (b k : UInt64) (n : Nat) : Nat := if ¬ (0 ≤ kd.toInt ∧ kd.toInt < 4) then 1 else if ¬ ((dv 4593671619917905920 ≤ dv b ∧ dv b ≤ dv 4666723172467343360) ∧ (dv b ≤ dv k ∧ dv k ≤ dv 4681608360884174848)) then 2 else if n = 20 then 3 else 0
def cFit (kd rs : Int32) : Nat := if ¬ (0 ≤ kd.toInt ∧ kd.toInt < 4) then 1 else if ¬ (0 ≤ rs.toInt ∧ rs.toInt ≤ 100) then 2 else 0
def cBack (kd what : Int32) : Nat := if ¬ (0 ≤ kd.toInt ∧ kd.toInt < 4) then 1 else if ¬ (0 ≤ what.toInt ∧ what.toInt ≤ 2) then 1 else 0
def vBack (what : Int32) (sp st : UInt64) (B K : Nat → UInt64) (n : Nat) : UInt64 := if what.toInt = 0 then sp else if what.toInt = 1 then st else rsd B K sp n
def cFrm (kd : Int32) (w : UInt64) : Nat := if ¬ (0 ≤ kd.toInt ∧ kd.toInt < 4) then 1 else if ¬ (dv 4593671619917905920 ≤ dv w ∧ dv w ≤ dv 4681608360884174848) then 2 else 0
def cMin (t : UInt64) : Nat := if ¬ (dv FP.dconst0 ≤ dv t ∧ dv t ≤ dv 4652007308841189376) then 1 else 0
def vMin (t : UInt64) : UInt64 := if dv 4632233691727265792 < dv t then FP.dadd (FP.dmul t 4612811918334230528) 4626322717216342016 else FP.dmul t 4612811918334230528
def cPc (len d : UInt64) (n : Nat) : Nat := if ¬ ((dv FP.dconst0 ≤ dv len ∧ dv len ≤ dv 4666723172467343360) ∧ (dv d = dv FP.dconst0 ∨ (dv FP.dconst1 ≤ dv d ∧ dv d ≤ dv 4666723172467343360))) then 1 else if n = 12 then 2 else 0
def cLen (t : UInt64) (D : Nat → UInt64) (n : Nat) : Nat := if ¬ ((dv FP.dconst0 ≤ dv t ∧ dv t ≤ dv 4652007308841189376) ∧ bends D t n = true) then 1 else 0
def cKf (a t s w : UInt64) : Nat := if ¬ ((dv FP.dconst1 ≤ dv a ∧ dv a ≤ dv 4645040803167600640) ∧ (dv FP.dconst1 ≤ dv t ∧ dv t ≤ dv 4652007308841189376) ∧ (dv 4593671619917905920 ≤ dv s ∧ dv s ≤ dv t) ∧ ¬ dv s = dv t ∧ (dv 4593671619917905920 ≤ dv w ∧ dv w ≤ dv 4636737291354636288)) then 1 else 0
/-- a thickness above what stays: their difference is a divisor -/
theorem kf_gap {zt zs : Int} {t s : UInt64} (ht : d8 zt t) (hs : d8 zs s) (h1 : dv 4593671619917905920 ≤ dv s) (h2 : dv s ≤ dv t) (h3 : ¬ dv s = dv t) (h4 : dv t ≤ dv 4652007308841189376) : dL 1020 (FP.dsub t s) ∧ 0 < dv (FP.dsub t s) ∧ dv (FP.dsub t s) ≤ 8000 * U8 ∧ dB 1062 (FP.dsub t s) := by
  have e1 : dv 4593671619917905920 = 1 * U8 := by decide +kernel
  have e2 : dv 4652007308841189376 = 8000 * U8 := by decide +kernel
  have q1 : 1 ≤ zs := by rw [e1, hs.2] at h1; exact (Int.mul_le_mul_right U8_pos).mp h1
  have q2 : zt ≤ 8000 := by rw [e2, ht.2] at h4; exact (Int.mul_le_mul_right U8_pos).mp h4
  have q3 : zs < zt := (d8_lt hs ht).mp (by omega)
  obtain ⟨g1, g2⟩ := d8_sub ht hs (by omega)
  have q5 := Int.mul_le_mul_of_nonneg_right (show (1 : Int) ≤ zt - zs by omega) (Int.le_of_lt U8_pos)
  have q6 := Int.mul_le_mul_of_nonneg_right (show zt - zs ≤ (8000 : Int) by omega) (Int.le_of_lt U8_pos)
  have hU := U8_pos
  refine ⟨dL_of (c := 4593671619917905920) 1020 (g1.nn (by decide)) (dB_8th.nn (by decide)) (by decide) (by decide) (by rw [e1, g2]; exact q5), by rw [g2]; omega, by rw [g2]; exact q6, g1⟩
def kfC (t s w : UInt64) : UInt64 := FP.dmul (FP.ddiv w (FP.dsub t s)) 4633260481411531256
/-- what a kerf closes is enough for 65535 of them -/
theorem kerf_ok {za zt zs zw : Int} {a t s w : UInt64} (ha : d8 za a) (ht : d8 zt t) (hs : d8 zs s) (hw : d8 zw w) (h1 : dv 4593671619917905920 ≤ dv s) (h2 : dv s ≤ dv t) (h3 : ¬ dv s = dv t) (h4 : dv t ≤ dv 4652007308841189376) (h5 : dv 4593671619917905920 ≤ dv w) (h6 : dv a ≤ dv 4645040803167600640) : kerfOK a (kfC t s w) := by
  obtain ⟨g1, g2, g3, g4⟩ := kf_gap ht hs h1 h2 h3 h4
  have hU := U8_pos
  have cc : dB 1029 (4633260481411531256 : UInt64) := by unfold dB; decide +kernel
  have d1 := dB.div (M := 1064) hw.1 g1 g4 (by omega) (by omega) (by omega) (by omega)
  have d2 : dB 1120 (kfC t s w) := dB.mul d1 cc (by omega) (by omega) (by omega)
  -- the quotient is at least 2^-13
  obtain ⟨V, hV, eV⟩ := mk_V 1 1061 (by decide) (by decide)
  have f1 : dv V ≤ dv (FP.ddiv w (FP.dsub t s)) := by
    refine dv_div_ge hw.fin (g4.fin (by decide)) g2 hV.ne_nan ?_
    have e1 : dv 4593671619917905920 = U8 := dv_8th
    have e2 : (1 * ((2 ^ 1061 : Nat) : Int)) * (8000 * U8) ≤ U8 * U1 := by decide +kernel
    have k1 := Int.mul_le_mul_of_nonneg_left g3 (show 0 ≤ dv V by rw [eV]; decide +kernel)
    have k2 := Int.mul_le_mul_of_nonneg_right (show U8 ≤ dv w by omega) (Int.le_of_lt U1_pos)
    rw [eV] at k1 ⊢
    omega
  obtain ⟨Z, hZ, eZ⟩ := mk_V 7 1064 (by decide) (by decide)
  have ec : dv 4633260481411531256 * (1 * ((2 ^ 1061 : Nat) : Int)) ≥ (7 * ((2 ^ 1064 : Nat) : Int)) * U1 := by decide +kernel
  have pc : 0 < dv 4633260481411531256 := by decide +kernel
  have f2 : dv Z ≤ dv (kfC t s w) := by
    refine dv_mul_ge (d1.fin (by decide)) (cc.fin (by decide)) hZ.ne_nan ?_
    have k1 := Int.mul_le_mul_of_nonneg_right f1 (Int.le_of_lt pc)
    rw [eV, Int.mul_comm] at k1
    rw [eZ]
    omega
  have pz : 0 < dv Z := by rw [eZ]; decide +kernel
  refine ⟨ha.1, d2, by omega, ?_⟩
  unfold few
  have k3 : dv 4645040803167600640 ≤ dv (FP.dmul (FP.i2d (nI 65535)) (kfC t s w)) := by
    refine dv_mul_ge ((i2d_dB (nI 65535)).fin (by decide)) (d2.fin (by decide)) (nn_of (by decide +kernel)) ?_
    rw [dv_i2dN (by decide)]
    have e3 : dv 4645040803167600640 * U1 ≤ ((65535 : Nat) : Int) * U1 * (7 * ((2 ^ 1064 : Nat) : Int)) := by decide +kernel
    have k4 := Int.mul_le_mul_of_nonneg_left f2 (show (0 : Int) ≤ ((65535 : Nat) : Int) * U1 by decide +kernel)
    rw [eZ] at k4
    omega
  omega
/-- days make it no smaller than 1 -/
theorem rx_dL {d : Int32} (h : 0 ≤ d.toInt) : dL 1023 (FP.dadd FP.dconst1 (FP.ddiv (FP.i2d d) 4620693217682128896)) := by
  have c0 : dB 1027 (4620693217682128896 : UInt64) := by unfold dB; decide +kernel
  have cL : dL 1026 (4620693217682128896 : UInt64) := by unfold dL; decide +kernel
  have c1 := dB.div (M := 1056) (i2d_dB d) cL c0 (by omega) (by omega) (by omega) (by omega)
  have c2 := dB.add dB_d1 c1 (M := 1056) (by omega) (by omega) (by omega)
  have p1 : 0 ≤ dv (FP.i2d d) := by rw [dv_i2d]; exact Int.mul_nonneg h (Int.le_of_lt U1_pos)
  have p2 := dv_div_nonneg ((i2d_dB d).fin (by decide)) (c0.fin (by decide)) p1 (by decide +kernel)
  refine dL_of (c := FP.dconst1) 1023 (c2.nn (by decide)) nn_d1 (by decide) (by decide) ?_
  exact dv_add_ge (dB_d1.fin (by decide)) (c1.fin (by decide)) nn_d1 (by omega)
def cKa (kc : Nat) (k : Int32) (len : UInt64) : Nat := if kc = 0 then 1 else if ¬ (0 ≤ k.toInt ∧ k.toInt < kc) then 2 else if ¬ (dv FP.dconst0 ≤ dv len ∧ dv len ≤ dv 4666723172467343360) then 3 else 0
def vKa (kc : Nat) (k : Int32) (len : UInt64) : UInt64 := FP.ddiv (FP.dmul len (FP.i2d (2 * k + 1))) (FP.i2d (nI (2 * kc)))
def cRe (kc : Nat) : Nat := if kc = 0 then 1 else 0
def cBr (n bad part : Int32) : Nat := if ¬ (0 ≤ part.toInt ∧ part.toInt ≤ 3) then 1 else if ¬ ((1 ≤ n.toInt ∧ n.toInt ≤ 1000000) ∧ (0 ≤ bad.toInt ∧ bad.toInt ≤ n.toInt)) then 2 else 0
def vBr (n b : Nat) (part : Int32) : Int64 := (nI ((if part.toInt = 0 ∨ part.toInt = 2 then (if part.toInt < 2 then b else b + 1) else n + 1) / Nat.gcd (n + 1) (if part.toInt < 2 then b else b + 1))).toInt64
def cRx (kd days : Int32) : Nat := if ¬ (0 ≤ kd.toInt ∧ kd.toInt < 4) then 1 else if ¬ (0 ≤ days.toInt ∧ days.toInt ≤ 10000) then 2 else 0
def vRx (sp : UInt64) (days : Int32) : UInt64 := FP.dadd FP.dconst1 (FP.dmul sp (FP.dsub FP.dconst1 (FP.ddiv FP.dconst1 (FP.dadd FP.dconst1 (FP.ddiv (FP.i2d days) 4620693217682128896)))))
