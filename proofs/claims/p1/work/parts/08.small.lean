/-! ===== my own: small rows ===== -/
section KS
variable {p : Program} {l : Launch} {e : Env} {R : Room} {s : State} {m : MethodId} {args : Array Value} {below : List Frame} {meth : Method} {c : Code} {H : Heap} {locs : List Loc} {cells slots : Nat} {Q : State → Prop}
variable {D : va_G} {E : Nat → ClassId} {A : Nat → Prop} {ws : va_W} {H0 : Heap} {cc : ByteArray} {pc : Nat} {ls : Array Slot} {rest : List Value}
theorem k_ti {x y : Int32} (h : x = y) (k : W p l e R s m args below meth c H locs cells slots Q (F0 m pc ls (.int y :: rest))) : W p l e R s m args below meth c H locs cells slots Q (F0 m pc ls (.int x :: rest)) := h ▸ k
theorem k_tl {x y : Int64} (h : x = y) (k : W p l e R s m args below meth c H locs cells slots Q (F0 m pc ls (.long y :: rest))) : W p l e R s m args below meth c H locs cells slots Q (F0 m pc ls (.long x :: rest)) := h ▸ k
theorem k_RAeq {cA cB : ClassId} {ty : FieldType} (hp : refKind ty = false) (h1 : va_RA s cA ty) (h2 : va_RA s cB ty) : cA = cB := by
  cases ty with
  | object _ => cases hp
  | array _ => cases hp
  | _ => exact Option.some.inj (h1.symm.trans h2)
theorem k_newa {atype : ArrayType} {ty : FieldType} (ti : Nat) {N9 : Nat} {n : Int32} {a0 : vp_A} (hx : p.tables.exec = Jvm.exec) (hb : c.code = cc) (harr : (Cond.arrayClass ty).before args s = true) (hty : newarray.typeOf atype = ty) (ht : (k_tys E)[ti]? = some (E ti, ty)) (hpr : refKind ty = false)
    (hK : va_K D k_cl (k_tys E) s) (hP : va_P D k_cl ws H) (hD : va_D A ws) (hS : va_S A H0 H locs) (hA : ∀ q, H0.size ≤ q → A q) (ha : ∀ cA : ClassId, vp_cell cA a0 = arrV cA N9 (fun _ => defaultValue ty)) (hn : ¬ n < 0) (hN : n.toNatClampNeg = N9) (hbytes : N9 * componentBytes ty ≤ 536870912) (hcells : cells + 1 ≤ R.cells) (hslots : slots + N9 ≤ R.slots)
    (hdg : decode cc pc = .ok (.newarray atype, 2))
    (kk : ∀ (q : Nat) (H1 : Heap), va_P D k_cl (ws ++ [(q, .inl (E ti, a0))]) H1 → va_D A (ws ++ [(q, .inl (E ti, a0))]) → va_S A H0 H1 locs → W p l e R s m args below meth c H1 locs (cells + 1) (slots + N9) Q (F0 m (pc + 2) ls (.ref q :: rest))) :
    W p l e R s m args below meth c H locs cells slots Q (F0 m pc ls (.int n :: rest)) := by
  refine va_newa hx hb (by rw [hty]; exact harr) hty hK hP hD hS hA ha hn hN hbytes hcells hslots hdg (fun q cA H1 hK1 hP1 hD1 hS1 => ?_)
  have h1 := (hK1.2 4 (cA, ty) rfl).2
  have h2 := (hK.2 ti _ ht).2
  have e9 : cA = E ti := k_RAeq hpr h1 h2
  subst e9
  exact kk q H1 hP1 hD1 hS1
end KS
/-- a loop that counts to N -/
theorem k_loopN {p : Program} {l : Launch} {e : Env} {R : Room} {s : State} {m : MethodId} {args : Array Value} {below : List Frame} {meth : Method} {c : Code} {cells slots : Nat} {Q : State → Prop} {X : Type} (N head : Nat) (I : Nat → X → Heap → List Loc → Array Slot → Prop)
    (step : ∀ (i : Nat) (x : X) (H : Heap) (locs : List Loc) (ls : Array Slot), i < N → I i x H locs ls → (∀ (x' : X) (H' : Heap) (locs' : List Loc) (ls' : Array Slot), I (i + 1) x' H' locs' ls' → W p l e R s m args below meth c H' locs' cells slots Q (F0 m head ls' [])) → W p l e R s m args below meth c H locs cells slots Q (F0 m head ls []))
    (exit : ∀ (x : X) (H : Heap) (locs : List Loc) (ls : Array Slot), I N x H locs ls → W p l e R s m args below meth c H locs cells slots Q (F0 m head ls []))
    {x : X} {H : Heap} {locs : List Loc} {ls : Array Slot} (h0 : I 0 x H locs ls) : W p l e R s m args below meth c H locs cells slots Q (F0 m head ls []) := by
  have key : ∀ (k i : Nat) (x : X) (H : Heap) (locs : List Loc) (ls : Array Slot), N - i = k → i ≤ N → I i x H locs ls → W p l e R s m args below meth c H locs cells slots Q (F0 m head ls []) := by
    intro k
    induction k with
    | zero =>
      intro i x H locs ls hk hi h
      have e1 : i = N := by omega
      subst e1
      exact exit x H locs ls h
    | succ k ih =>
      intro i x H locs ls hk hi h
      exact step i x H locs ls (by omega) h (fun x' H' locs' ls' h' => ih (i + 1) x' H' locs' ls' (by omega) (by omega) h')
  exact key N 0 x H locs ls (by omega) (by omega) h0
