section
variable {p : Program} {l : Launch} {e : Env} {R : Room} {s : State} {m : MethodId} {args : Array Value} {below : List Frame} {meth : Method} {c : Code} {H : Heap} {locs : List Loc} {cells slots : Nat} {Q : State → Prop}
variable {mc ms : Nat} {free : Addr → Prop} {A0 A1 : Nat → Prop} {H0 : Heap} {a : Array Value} {pc : Nat} {ls : Array Slot} {st0 rest : List Value}
theorem vx_callq {S SX : Type} {post : Option Nat → S → Prop} {px : SX → Prop} {B : S → State → Prop} {BX : String → SX → State → Prop} {AX : Nat → Prop} (hr : vx_Run p l e R s m args below meth c H locs cells slots mc ms (F0 m pc ls st0) rest (va_Qq post B A1 a) (vx_X px BX AX) free) (hS : va_S A0 H0 H locs) (hA : ∀ q, q < H.size → A1 q → A0 q) (hf : ∀ q, free q → A0 q) (hAX : ∀ q, q < H.size → AX q → A0 q)
    (kx : ∀ (E : String) (ce : Cell) (q9 : Addr) (u : SX) (t : State) (H1 : Heap) (locs1 : List Loc), t.heap = H1 → s.vm.Alike t.vm → px u → BX E u t → H.size ≤ H1.size → (∀ q : Nat, q < H.size → ¬ AX q → H1[q]? = H[q]?) → va_S A0 H0 H1 locs1 → H1[q9]? = some ce → ce.vm = .none → s.vm.findClass E = some ce.cls → vx_W p l e R s m args below meth c H1 locs1 (cells + mc) (slots + ms) Q (F0 m pc ls rest) q9)
    (kk : ∀ (r : Option Nat) (u : S) (t : State) (H1 : Heap) (locs1 : List Loc), t.heap = H1 → s.vm.Alike t.vm → post r u → B u t → H.size ≤ H1.size → (∀ q : Nat, q < H.size → ¬ A1 q → H1[q]? = H[q]?) → va_S A0 H0 H1 locs1 → W p l e R s m args below meth c H1 locs1 (cells + mc) (slots + ms) Q (F0 m (pc + 3) ls (va_rf r :: rest))) : W p l e R s m args below meth c H locs cells slots Q (F0 m pc ls st0) := by
  intro T hT X
  rcases hr T hT X with ⟨v, st₀, t, T', L, h0, X', hL, e1, e2, ⟨⟨r, u, hv, hp, hb⟩, hF⟩, st⟩ | ⟨q, st₀, t, T', L, E, ce, h0, X', hL, e1, e2, ⟨u, hp, hb, hF⟩, hce, hcv, hcl, st⟩
  · cases hv
    obtain ⟨k1, k2, k3⟩ := vx_keep h0 e1 hS hA hf hL hF
    obtain ⟨t2, a1, b1⟩ := kk r u t T'.heap (locs ++ L) e1.symm (by rw [← e2]; exact X'.warmed.alike) hp hb k1 k2 k3 T' rfl X'
    exact ⟨t2, st t2 a1, b1⟩
  · obtain ⟨k1, k2, k3⟩ := vx_keep h0 e1 hS hAX hf hL hF
    obtain ⟨t2, a1, b1⟩ := kx E ce q u t T'.heap (locs ++ L) e1.symm (by rw [← e2]; exact X'.warmed.alike) hp hb k1 k2 k3 (by rw [e1]; exact hce) hcv hcl T' rfl X'
    exact ⟨t2, st.trans a1, b1⟩
end

/-- the class's String constants, by their entries -/
def strL : List (Nat × String) := [(51, "thick or radius is not as said"), (68, "the kind has no room for a row more"), (71, "thick is not 0 .. 1000"), (80, "thick lies outside the rows"), (82, "thick or radius is not 0.125 .. 10000"), (89, "bent or kept is not as said"), (94, "the kind has no room for a reading more"), (96, "rounds are not 0 .. 100"), (113, "what is not 0 .. 2"), (116, "wanted is not 0.125 .. 100000"), (127, "length or radius is not as said"), (132, "the shape has no room for a piece more"), (140, "thick is not 0 .. 1000, or too thick for a radius"), (150, "angle, thick, stays or saw is not as said"), (157, "no kerfs were asked for"), (159, "there is no such kerf"), (161, "length is not 0 .. 10000"), (163, "part is not 0 .. 3"), (166, "n or bad is not as said"), (172, "days are not 0 .. 10000"), (176, "there is no such kind")]
/-- what a throw needs of the start: two statics that nobody writes, the texts -/
def XT (A : Nat → Prop) (sa : Nat → Nat) (U : State) : Prop := vx_Zq Bundle.tN "UNASSIGNED_STACK" Bundle.steD A U U.heap ∧ vx_Zq Bundle.tN "SUPPRESSED_SENTINEL" Bundle.listD A U U.heap ∧ ∀ q ∈ strL, vk_R RX3 q.1 q.2 (sa q.1) U
theorem XT.str {A : Nat → Prop} {sa : Nat → Nat} {U : State} (h : XT A sa U) (i : Nat) {k : Nat} {tx : String} (hi : strL[i]? = some (k, tx)) : vk_R RX3 k tx (sa k) U := h.2.2 _ (List.mem_of_getElem? hi)
theorem XT.call {A : Nat → Prop} {sa : Nat → Nat} {U : State} {g : JFrame} {mk : MethodId} {a : Array Value} (h : XT A sa U) : XT A sa (U.calling g mk a) :=
  ⟨vx_Zq.moved (u := U) (U := U.calling g mk a) (Vm.Alike.refl U.vm) h.1, vx_Zq.moved (u := U) (U := U.calling g mk a) (Vm.Alike.refl U.vm) h.2.1, fun q hq => vk_R.same (u := U) (U := U.calling g mk a) rfl (h.2.2 q hq)⟩
theorem XT.at {A : Nat → Prop} {sa : Nat → Nat} {s U : State} {H : Heap} {locs : List Loc} (h : XT A sa s) (hS : va_S A s.heap H locs) (hU : U.heap = H) (hW : s.WarmedH U.vm) : XT (fun _ => False) sa U := by
  subst hU
  exact ⟨((h.1.kept hS.2.1).narrow (fun _ z => z.elim)).moved hW.alike, ((h.2.1.kept hS.2.1).narrow (fun _ z => z.elim)).moved hW.alike, fun q hq => vk_R.warm hW (h.2.2 q hq)⟩
/-- the start of a method that throws -/
def PT (D : va_G) (tys : List (ClassId × FieldType)) (ws : va_W) (sz : Nat) (sa : Nat → Nat) (U : State) : Prop := PW D tys ws sz U ∧ XT (fun _ => False) sa U
theorem PT.blind {args : List Value} {D : va_G} {tys : List (ClassId × FieldType)} {ws : va_W} {sz : Nat} {sa : Nat → Nat} : FrameBlind (va_Pc args (PT D tys ws sz sa)) :=
  fun a U g mk q => ⟨q.1, (PW.blind (args := args) a U g mk ⟨q.1, q.2.1⟩).2, q.2.2.call⟩
theorem PT.at {D : va_G} {tys : List (ClassId × FieldType)} {ws : va_W} {A B : Nat → Prop} {H : Heap} {s U : State} {sa : Nat → Nat} {locs : List Loc} (hP : va_P D vwCl ws H) (hK : va_K D vwCl tys s) (hD : va_D A ws) (hN : NW s) (hX : XT B sa s) (hS : va_S B s.heap H locs) (hU : U.heap = H) (hW : s.WarmedH U.vm) : PT D tys ws H.size sa U := ⟨PW.at hP hK hD hN hU hW, hX.at hS hU hW⟩
theorem thrF {s t : State} {H : Heap} {locs : List Loc} (hS : va_S (fun _ => False) s.heap H locs) (h1 : H.size ≤ t.heap.size) (h2 : ∀ q : Nat, q < H.size → t.heap[q]? = H[q]?) : va_F (fun _ => False) s t :=
  ⟨Nat.le_trans hS.1 h1, fun q h3 h4 => (h2 q (Nat.lt_of_lt_of_le h3 hS.1)).trans (hS.2.1 q h3 h4)⟩
abbrev eIA : String := "java/lang/IllegalArgumentException"
abbrev eIS : String := "java/lang/IllegalStateException"
abbrev eIO : String := "java/lang/IndexOutOfBoundsException"
theorem z_lt {x y : Int32} {a b : Int} (hx : x.toInt = a) (hy : y.toInt = b) : x < y ↔ a < b := by rw [Int32.lt_iff_toInt_lt, hx, hy]
theorem z_le {x y : Int32} {a b : Int} (hx : x.toInt = a) (hy : y.toInt = b) : x ≤ y ↔ a ≤ b := by rw [Int32.le_iff_toInt_le, hx, hy]
theorem z_eq {x y : Int32} {a b : Int} (hx : x.toInt = a) (hy : y.toInt = b) : x = y ↔ a = b := by
  rw [← hx, ← hy]
  exact ⟨fun h => by rw [h], fun h => Int32.toInt.inj h⟩
/-! the calls: 0, or which exception; the answer -/
abbrev kOK (kd : Int32) : Prop := 0 ≤ kd.toInt ∧ kd.toInt < 4
abbrev inR (v a b : UInt64) : Prop := dv a ≤ dv v ∧ dv v ≤ dv b
abbrev c8th : UInt64 := 4593671619917905920
abbrev c1000 : UInt64 := 4652007308841189376
abbrev c10000 : UInt64 := 4666723172467343360
abbrev c100000 : UInt64 := 4681608360884174848
def cTab (kd : Int32) (t r : UInt64) (n : Nat) (T : Nat → UInt64) : Nat := if ¬ (0 ≤ kd.toInt ∧ kd.toInt < 4) then 1 else if ¬ ((dv c8th ≤ dv t ∧ dv t ≤ dv c1000) ∧ (dv c8th ≤ dv r ∧ dv r ≤ dv c10000) ∧ (n = 0 ∨ dv (T (n - 1)) < dv t)) then 2 else if n = 12 then 3 else 0
def cRad (kd : Int32) (t : UInt64) (n : Nat) (T R : Nat → UInt64) : Nat := if ¬ (0 ≤ kd.toInt ∧ kd.toInt < 4) then 1 else if ¬ (dv FP.dconst0 ≤ dv t ∧ dv t ≤ dv c1000) then 2 else if rRad T R t n = none then 3 else 0
def cStr (kd : Int32) (t w : UInt64) : Nat := if ¬ (0 ≤ kd.toInt ∧ kd.toInt < 4) then 1 else if ¬ ((dv c8th ≤ dv t ∧ dv t ≤ dv c10000) ∧ (dv c8th ≤ dv w ∧ dv w ≤ dv c10000)) then 2 else 0
def cRd (kd : Int32) (b k : UInt64) (n : Nat) : Nat := if ¬ (0 ≤ kd.toInt ∧ kd.toInt < 4) then 1 else if ¬ ((dv c8th ≤ dv b ∧ dv b ≤ dv c10000) ∧ (dv b ≤ dv k ∧ dv k ≤ dv c100000)) then 2 else if n = 20 then 3 else 0
def cFit (kd rs : Int32) : Nat := if ¬ (0 ≤ kd.toInt ∧ kd.toInt < 4) then 1 else if ¬ (0 ≤ rs.toInt ∧ rs.toInt ≤ 100) then 2 else 0
def cBack (kd what : Int32) : Nat := if ¬ (0 ≤ kd.toInt ∧ kd.toInt < 4) then 1 else if ¬ (0 ≤ what.toInt ∧ what.toInt ≤ 2) then 1 else 0
def vBack (what : Int32) (sp st : UInt64) (B K : Nat → UInt64) (n : Nat) : UInt64 := if what.toInt = 0 then sp else if what.toInt = 1 then st else rsd B K sp n
def cFrm (kd : Int32) (w : UInt64) : Nat := if ¬ (0 ≤ kd.toInt ∧ kd.toInt < 4) then 1 else if ¬ (dv c8th ≤ dv w ∧ dv w ≤ dv c100000) then 2 else 0
def cMin (t : UInt64) : Nat := if ¬ (dv FP.dconst0 ≤ dv t ∧ dv t ≤ dv c1000) then 1 else 0
def vMin (t : UInt64) : UInt64 := if dv 4632233691727265792 < dv t then FP.dadd (FP.dmul t 4612811918334230528) 4626322717216342016 else FP.dmul t 4612811918334230528
def cPc (len d : UInt64) (n : Nat) : Nat := if ¬ ((dv FP.dconst0 ≤ dv len ∧ dv len ≤ dv c10000) ∧ (dv d = dv FP.dconst0 ∨ (dv FP.dconst1 ≤ dv d ∧ dv d ≤ dv c10000))) then 1 else if n = 12 then 2 else 0
def cLen (t : UInt64) (D : Nat → UInt64) (n : Nat) : Nat := if ¬ ((dv FP.dconst0 ≤ dv t ∧ dv t ≤ dv c1000) ∧ bends D t n = true) then 1 else 0
def kfR (a t s w : UInt64) : Prop := (dv FP.dconst1 ≤ dv a ∧ dv a ≤ dv 4645040803167600640) ∧ (dv FP.dconst1 ≤ dv t ∧ dv t ≤ dv c1000) ∧ (dv c8th ≤ dv s ∧ dv s ≤ dv t) ∧ ¬ dv s = dv t ∧ (dv c8th ≤ dv w ∧ dv w ≤ dv 4636737291354636288)
def kfC (t s w : UInt64) : UInt64 := FP.dmul (FP.ddiv w (FP.dsub t s)) 4633260481411531256
def cKa (kc : Nat) (k : Int32) (len : UInt64) : Nat := if kc = 0 then 1 else if ¬ (0 ≤ k.toInt ∧ k.toInt < kc) then 2 else if ¬ (dv FP.dconst0 ≤ dv len ∧ dv len ≤ dv c10000) then 3 else 0
def vKa (kc : Nat) (k : Int32) (len : UInt64) : UInt64 := FP.ddiv (FP.dmul len (FP.i2d (2 * k + 1))) (FP.i2d (nI (2 * kc)))
def cRe (kc : Nat) : Nat := if kc = 0 then 1 else 0
def cBr (n bad part : Int32) : Nat := if ¬ (0 ≤ part.toInt ∧ part.toInt ≤ 3) then 1 else if ¬ ((1 ≤ n.toInt ∧ n.toInt ≤ 1000000) ∧ (0 ≤ bad.toInt ∧ bad.toInt ≤ n.toInt)) then 2 else 0
def vBr (n b : Nat) (part : Int32) : Int64 := (nI ((if part.toInt = 0 ∨ part.toInt = 2 then (if part.toInt < 2 then b else b + 1) else n + 1) / Nat.gcd (n + 1) (if part.toInt < 2 then b else b + 1))).toInt64
def cRx (kd days : Int32) : Nat := if ¬ (0 ≤ kd.toInt ∧ kd.toInt < 4) then 1 else if ¬ (0 ≤ days.toInt ∧ days.toInt ≤ 10000) then 2 else 0
def vRx (sp : UInt64) (days : Int32) : UInt64 := FP.dadd FP.dconst1 (FP.dmul sp (FP.dsub FP.dconst1 (FP.ddiv FP.dconst1 (FP.dadd FP.dconst1 (FP.ddiv (FP.i2d days) 4620693217682128896)))))
