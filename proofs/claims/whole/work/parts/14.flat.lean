/-! the reference keeps its rows flat: four kinds side by side -/
def flat {α : Type} (w : Nat) (F : Nat → Nat → α) : Nat → α := fun i => F (i / w) (i % w)
def up2 {α : Type} (F : Nat → Nat → α) (k j : Nat) (v : α) : Nat → Nat → α := fun a b => if a = k ∧ b = j then v else F a b
def cnt (f : Nat → Nat) : Nat → Int32 := fun k => nI (f k)
theorem flat_at {α : Type} {w i k j : Nat} {F : Nat → Nat → α} (h : i = w * k + j) (hj : j < w) : flat w F i = F k j := by
  subst h
  unfold flat
  rw [Nat.mul_add_div (by omega), Nat.div_eq_of_lt hj, Nat.mul_add_mod, Nat.mod_eq_of_lt hj, Nat.add_zero]
theorem flat_upd {α : Type} {w i k j : Nat} {F : Nat → Nat → α} {v : α} (h : i = w * k + j) (hj : j < w) : vf_upd (flat w F) i v = flat w (up2 F k j v) := by
  subst h
  funext x
  unfold vf_upd flat up2
  by_cases hx : x = w * k + j
  · subst hx
    rw [if_pos rfl, if_pos]
    exact ⟨by rw [Nat.mul_add_div (by omega), Nat.div_eq_of_lt hj, Nat.add_zero], by rw [Nat.mul_add_mod, Nat.mod_eq_of_lt hj]⟩
  · rw [if_neg hx, if_neg]
    rintro ⟨h1, h2⟩
    have := Nat.div_add_mod x w
    rw [h1, h2] at this
    exact hx this.symm
theorem up2_same {α : Type} (F : Nat → Nat → α) (k j : Nat) (v : α) : up2 F k j v k = vf_upd (F k) j v := by
  funext b
  simp [up2, vf_upd]
theorem up2_other {α : Type} {F : Nat → Nat → α} {k j a : Nat} {v : α} (h : a ≠ k) : up2 F k j v a = F a := by
  funext b
  simp [up2, h]
theorem cnt_upd (f : Nat → Nat) (k v : Nat) : upd (cnt f) k (nI v) = cnt (vf_upd f k v) := by
  funext x
  unfold upd cnt vf_upd
  by_cases h : x = k
  · rw [if_pos h, if_pos h]
  · rw [if_neg h, if_neg h]
theorem vf_self {α : Type} (f : Nat → α) (k : Nat) : vf_upd f k (f k) = f := by
  funext x
  unfold vf_upd
  by_cases h : x = k
  · rw [if_pos h, h]
  · rw [if_neg h]
theorem vf_twice {α : Type} (f : Nat → α) (k : Nat) (a b : α) : vf_upd (vf_upd f k a) k b = vf_upd f k b := by
  funext x
  unfold vf_upd
  by_cases h : x = k
  · rw [if_pos h, if_pos h]
  · rw [if_neg h, if_neg h, if_neg h]
theorem vf_at {α : Type} (f : Nat → α) (k : Nat) (a : α) : vf_upd f k a k = a := if_pos rfl
theorem vf_off {α : Type} {f : Nat → α} {k j : Nat} {a : α} (h : j ≠ k) : vf_upd f k a j = f j := if_neg h
/-- was a radius found? -/
def fnd : Option UInt64 → Int32
  | none => 0
  | some _ => 1
theorem fnd_hw (o : Option UInt64) : fnd o = if o.isSome = true then 1 else 0 := by cases o <;> rfl
theorem bends_down {D : Nat → UInt64} {t : UInt64} {i : Nat} (h : bends D t (i + 1) = true) : bends D t i = true := by
  rw [bends, Bool.and_eq_true] at h
  exact h.1
theorem bends_last {D : Nat → UInt64} {t : UInt64} {i : Nat} (h : bends D t (i + 1) = true) : ¬ (0 < dv (D i) ∧ dv (FP.dmul 4611686018427387904 (D i)) < dv t) := by
  intro z
  rw [bends_no z.1 z.2 (i + 1) (by omega)] at h
  exact absurd h (by decide)
section BR3
variable {p : Program} {l : Launch} {e : Env} {R : Room} {s : State} {m : MethodId} {args : Array Value} {below : List Frame} {meth : Method} {c : Code} {H : Heap} {locs : List Loc} {cells slots : Nat} {Q : State → Prop}
variable {cc : ByteArray} {pc : Nat} {ls : Array Slot} {rest st : List Value} {D : va_G} {A : Nat → Prop} {a : Nat} {tys : List (ClassId × FieldType)} {ws : va_W} {H0 : Heap}
theorem va_daldV (hexec : p.tables.exec = Jvm.exec) (hb : c.code = cc) (hK : va_K D vwCl tys s) (hP : va_P D vwCl ws H) (q0 t0 : Nat) {cA : ClassId} {n : Nat} {f : Nat → UInt64} (ha : ws[q0]? = some (a, .inl (cA, n, .inr (.inr (.inr (.inl f)))))) (ht : tys[t0]? = some (cA, .double)) {j : Nat} {v : UInt64} (hv : f j = v) (hj : j < n) (hn : n < 2 ^ 31) (hdg : decode cc pc = .ok (.daload, 1))
    (kk : W p l e R s m args below meth c H locs cells slots Q (F0 m (pc + 1) ls (.double v :: rest))) : W p l e R s m args below meth c H locs cells slots Q (F0 m pc ls (.int (nI j) :: .ref a :: rest)) := by
  subst hv
  exact va_daldN hexec hb hK hP q0 t0 ha ht hj hn hdg kk
theorem va_ialdV (hexec : p.tables.exec = Jvm.exec) (hb : c.code = cc) (hK : va_K D vwCl tys s) (hP : va_P D vwCl ws H) (q0 t0 : Nat) {cA : ClassId} {n : Nat} {f : Nat → Int32} (ha : ws[q0]? = some (a, .inl (cA, n, .inl f))) (ht : tys[t0]? = some (cA, .int)) {j : Nat} {v : Int32} (hv : f j = v) (hj : j < n) (hn : n < 2 ^ 31) (hdg : decode cc pc = .ok (.iaload, 1))
    (kk : W p l e R s m args below meth c H locs cells slots Q (F0 m (pc + 1) ls (.int v :: rest))) : W p l e R s m args below meth c H locs cells slots Q (F0 m pc ls (.int (nI j) :: .ref a :: rest)) := by
  subst hv
  exact va_ialdN hexec hb hK hP q0 t0 ha ht hj hn hdg kk
end BR3
