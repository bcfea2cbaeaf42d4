/-! ===== my own: an exception that the first row of the method's table takes; its class cold or warm ===== -/
section XC
/-- the search over a table whose first row covers the pc and names a class that can be linked, to which the thing's class can be assigned -/
theorem xc_go {Q : Handler → Pre} {E : CtlPost} {e : Env} {d : Bool} {acts : List Action} {u : State} {f : JFrame} {a : Addr} {x : ExceptionTableEntry} {t : List ExceptionTableEntry} {k : ClassId} {cell : Cell}
    (hx : covers x f.pc = true) (h0 : x.catchType ≠ 0) (hl : u.vm.ClassLinks e.platform f.method.cls x.catchType k) (hcell : u.heap[a]? = some cell) (hobj : ∀ z, cell.vm ≠ .statics z)
    (h1 : ∃ y, u.vm.classes[cell.cls]? = some y) (h2 : ∃ y, u.vm.classes[k]? = some y) (hfit : u.vm.assignable cell.cls k = true) :
    wp (findHandler.go f a (x :: t)) Q E e d acts u ↔ Q (.found x.handlerPc) d acts (u.setVm (u.vm.noted f.method.cls x.catchType (.cls k))) := by
  obtain ⟨y1, h1⟩ := h1
  obtain ⟨y2, h2⟩ := h2
  have hal : u.vm.Alike (u.vm.noted f.method.cls x.catchType (.cls k)) := (Vm.Alike.refl u.vm).noted _ _ _
  obtain ⟨z1, g1, -⟩ := hal.2.2 _ _ h1
  obtain ⟨z2, g2, -⟩ := hal.2.2 _ _ h2
  have g3 : (u.vm.noted f.method.cls x.catchType (.cls k)).assignable cell.cls k = true := by rw [hal.assignable]; exact hfit
  obtain ⟨q1, q2⟩ := (resolveClass_links e.toSetting hl).op (op := VmOp.resolveClass f.method.cls x.catchType) rfl
  simp only [covers] at hx
  simp [findHandler.go, hx, h0, q1, q2, hcell, hobj, g1, g2, g3, VmOp.dirties, VmOp.acts]
/-- from the note that a is thrown over the frame g to the handler of the first row -/
theorem xc_steps {tb : Tables} {e : Env} {u : State} {g : JFrame} {c : Code} {below : List Frame} {a : Addr} {meth : Method} {target : State} (h : At u g.method c below) (hm : u.vm.method? g.method = some meth) (hc : meth.code = some c)
    {x : ExceptionTableEntry} {t : List ExceptionTableEntry} (htab : c.exceptionTable.toList = x :: t) (hx : covers x g.pc = true) (h0 : x.catchType ≠ 0) {k : ClassId} {cell : Cell} (hl : u.vm.ClassLinks e.platform g.method.cls x.catchType k)
    (hcell : u.heap[a]? = some cell) (hobj : ∀ z, cell.vm ≠ .statics z) (h1 : ∃ y, u.vm.classes[cell.cls]? = some y) (h2 : ∃ y, u.vm.classes[k]? = some y) (hfit : u.vm.assignable cell.cls k = true)
    (hrest : Steps tb e below ((u.setVm (u.vm.noted g.method.cls x.catchType (.cls k))).setTop { g with pc := x.handlerPc, stack := [.ref a] }) target) :
    Steps tb e below ((u.setTop g).pushFrame (.throwing a)) target := by
  obtain ⟨hgo, hw⟩ := h.throwing a
  obtain ⟨g₀, hg⟩ := Option.isSome_iff_exists.mp h.top
  obtain ⟨r, hr⟩ := State.topJava?_eq_some.mp hg
  generalize hvm : u.vm.noted g.method.cls x.catchType (.cls k) = vm' at hrest
  have hfind : ∀ (Q : Handler → Pre) (E : CtlPost) (d : Bool) (acts : List Action), wp (findHandler g a) Q E e d acts ((u.setTop g).pushFrame (.throwing a)) ↔ Q (.found x.handlerPc) d acts (((u.setTop g).pushFrame (.throwing a)).setVm vm') := by
    intro Q E d acts
    rw [W.findHandler_eq (s := (u.setTop g).pushFrame (.throwing a)) (meth := meth) (code := c) hm hc, htab, ← hvm]
    exact xc_go hx h0 hl hcell hobj h1 h2 hfit
  have hstep : stepThrowing e ((u.setTop g).pushFrame (.throwing a)) a (.java g :: r) = stepThrowing e ((u.setTop g).pushFrame (.throwing a)) a (.java g :: r) := rfl
  have hres : (stepThrowing e ((u.setTop g).pushFrame (.throwing a)) a (.java g :: r)).1 = (((u.setTop g).pushFrame (.throwing a)).setVm vm').setFrames (.java { g with pc := x.handlerPc, stack := [.ref a] } :: r) := by
    simp only [stepThrowing, searchFrame, vmDo]
    generalize hq : Sem.go _ e false [] _ = res
    obtain ⟨as, rfl, -⟩ := Sem.eq_ok_of hq (a := Handler.found x.handlerPc) (s' := ((u.setTop g).pushFrame (.throwing a)).setVm vm') (acts' := []) (by simp [hfind _ _ _ _])
    rfl
  refine Steps.head hgo hw ?_
  rw [stepThread_throwing (frames_entered h.top _), hr, List.tail_cons, hres]
  have hr' : (u.setVm vm').frames = .java g₀ :: r := hr
  rw [State.setTop_of_frames _ hr'] at hrest
  have e1 : (((u.setTop g).pushFrame (.throwing a)).setVm vm').setFrames (.java { g with pc := x.handlerPc, stack := [.ref a] } :: r) = (u.setVm vm').setFrames (.java { g with pc := x.handlerPc, stack := [.ref a] } :: r) := by
    rw [State.pushFrame, State.setTop_of_frames _ hr, State.setFrames_setFrames]
    have e2 : ∀ (w : State) (F : List Frame), (w.setFrames F).setVm vm' = (w.setVm vm').setFrames F := fun _ _ => rfl
    rw [e2, State.setFrames_setFrames]
  rw [e1]
  exact hrest
variable {p : Program} {l : Launch} {e : Env} {R : Room} {s : State} {m : MethodId} {args : Array Value} {below : List Frame} {meth : Method} {c : Code} {H : Heap} {locs : List Loc} {cells slots : Nat} {Q : State → Prop}
/-- caught by the first row of this method's table -/
theorem xc_catch {own name E : String} {ce : Cell} {q : Addr} {pc : Nat} {ls : Array Slot} {rest : List Value} (hown : s.vm.findClass own = some m.cls) {x : ExceptionTableEntry} {t : List ExceptionTableEntry} (htab : c.exceptionTable.toList = x :: t)
    (hx : covers x pc = true) (h0 : x.catchType ≠ 0) (hlink : (Cond.classLink own x.catchType name).before args s = true) (hcast : (Cond.castable E name).before args s = true) (hcell : H[q]? = some ce) (hv : ce.vm = .none) (hcl : s.vm.findClass E = some ce.cls)
    (kk : W p l e R s m args below meth c H locs cells slots Q (F0 m x.handlerPc ls [.ref q])) : vx_W p l e R s m args below meth c H locs cells slots Q (F0 m pc ls rest) q := by
  intro T hT X
  have hpl : e.platform.magicAccessors = ({} : Platform).magicAccessors := by rw [X.admits.platform]
  obtain ⟨c3, c4, hc3, hc4, hasg⟩ := Cond.castable_spec hcast
  cases Option.some.inj (hc3.symm.trans hcl)
  obtain ⟨c5, hc5, hcl5⟩ := Cond.classLink_spec hown hlink e.platform hpl
  cases Option.some.inj (hc4.symm.trans hc5)
  obtain ⟨dk, _, _, kt, hd, _, _, _, _, hkt, _, hopen⟩ := hcl5.here
  have hW' : s.WarmedH (T.vm.noted m.cls x.catchType (.cls c4)) := X.warmed.noted hd hopen (State.rightAt_cls hcl5)
  have hal := X.warmed.alike
  obtain ⟨kt', hkt', -⟩ := hal.2.2 _ _ hkt
  have hfit : T.vm.assignable ce.cls c4 = true := by rw [hal.assignable]; exact hasg
  have X' := X.noted hW'
  obtain ⟨t2, a1, b1⟩ := kk (T.setVm (T.vm.noted m.cls x.catchType (.cls c4))) hT X'
  refine ⟨t2, ?_, b1⟩
  exact xc_steps (g := F0 m pc ls rest) (meth := meth) X.here X.method' X.code htab hx h0 (k := c4) (cell := ce) (X.warmed.classLinks hcl5) (by rw [hT]; exact hcell) (fun z h => by rw [hv] at h; cases h)
    (Vm.classAt_of_assignable hfit ⟨kt', hkt'⟩) ⟨kt', hkt'⟩ hfit a1
end XC
