/-! ===== my own: throwing, passing on and catching over the contracts of part 05 ===== -/
section KX
variable {p : Program} {l : Launch} {e : Env} {R : Room} {s : State} {m : MethodId} {args : Array Value} {below : List Frame} {meth : Method} {c : Code} {H : Heap} {locs : List Loc} {cells slots : Nat} {Q : State → Prop}
variable {D : va_G} {E : Nat → ClassId} {sa : Nat → Nat} {A : Nat → Prop} {ws : va_W} {cc : ByteArray} {pc : Nat} {ls : Array Slot} {rest st0 : List Value}
abbrev x_nm : List String := ["java/lang/RuntimeException", "java/lang/Exception"]
/-- what a throw of cls wants of the tables -/
def x_ok (own : String) (ik ic : Nat) (cls : String) : Prop :=
  Cond.classLink own ik cls ∈ TB ∧ Cond.initialized cls ∈ TB ∧ (∀ w ∈ (vx_atS own ic cls x_nm).filter goodWord, w ∈ lw_tbl) ∧ (∀ w ∈ (vx_atS own ic cls x_nm).filter (fun w => !goodWord w), w ∈ [Cond.castable cls cls, k_dc "java/lang/RuntimeException", k_dc "java/lang/Exception", k_dc "java/lang/Throwable"]) ∧
  (∀ w ∈ Cond.classLink own ik cls :: Cond.initialized cls :: vx_atS own ic cls x_nm, vx_ot w = true) ∧ Bundle.fit cls = true
theorem x_hat {own cls : String} {ik ic : Nat} (hw : x_ok own ik ic cls) (hts : ∀ w ∈ TB, w.before args s = true) (hcast : va_Nw (.castable cls cls) s) (hC : k_C s) : ∀ w ∈ vx_atS own ic cls x_nm, w.before args s = true :=
  vx_hat (B := [Cond.castable cls cls, k_dc "java/lang/RuntimeException", k_dc "java/lang/Exception", k_dc "java/lang/Throwable"]) (fun w h => hts w (List.mem_filter.mpr ⟨hw.2.2.1 w h, (List.mem_filter.mp h).2⟩)) hw.2.2.2.1
    (vx_c (va_Nw.use rfl hcast) (vx_c (va_Nw.use rfl hC.2.2.1) (vx_c (va_Nw.use rfl hC.2.2.2.1) (vx_c (va_Nw.use rfl hC.2.2.2.2) vx_n))))
theorem x_fit : ∀ n ∈ x_nm, Bundle.fit n = true := by decide +kernel
/-- throw new cls(text), the text by a small index -/
theorem x_thS {own cls text : String} {ik is ic sx : Nat} (hl : l.stackTraces = false) (hx : p.tables.exec = Jvm.exec) (hb : c.code = cc) (hown : s.vm.findClass own = some m.cls) (hts : ∀ w ∈ TB, w.before args s = true) (hw : x_ok own ik ic cls) (hstr : vk_R own is text sx s) (hcast : va_Nw (.castable cls cls) s)
    (hZ : k_Z sa (fun q => s.heap.size ≤ q) s s.heap) (hsize : ls.size = c.maxLocals) (htab : ∀ x ∈ c.exceptionTable.toList, False) (hlocks : meth.locks = false)
    (hRm : 5 < R.frames ∧ (rest.map fun v => v.category).sum + 82 ≤ R.locals ∧ 1 ≤ R.cells ∧ 6 ≤ R.slots)
    (d0 : decode cc pc = .ok (.new ik, 3)) (d3 : decode cc (pc + 3) = .ok (.dup, 1)) (d4 : decode cc (pc + 4) = .ok (.ldc is, 2)) (d6 : decode cc (pc + 6) = .ok (.invokespecial ic, 3)) (d9 : decode cc (pc + 9) = .ok (.athrow, 1)) :
    W p l e R s m args below meth c s.heap [] 0 0 (vx_MQ below k_QF (k_XT cls s.heap.size) args s 1 6 (fun q => s.heap.size ≤ q)) (F0 m pc ls rest) :=
  vx_throwS (names := x_nm) (A := fun q => s.heap.size ≤ q) hx hb hl hown hw.2.2.2.2.2 x_fit (hts _ hw.1) (hts _ hw.2.1) hstr (x_hat hw hts hcast hZ.2.2.2.2) hw.2.2.2.2.1 hZ.2.2.1 hZ.2.2.2.1 va_S.rf hsize d0 d3 d4 d6 d9 (fun x h => (htab x h).elim) hRm.1 hRm.2.1 (by have := hRm.2.2.1; omega) (by have := hRm.2.2.2; omega) hlocks
    (fun t _ h1 h2 => ⟨rfl, h1, fun q h _ => h2 q h⟩) (fun _ h => nomatch h) (Nat.le_refl _) (Nat.le_refl _)
/-- throw new cls(text), the text by a wide index -/
theorem x_thW {own cls text : String} {ik is ic sx : Nat} (hl : l.stackTraces = false) (hx : p.tables.exec = Jvm.exec) (hb : c.code = cc) (hown : s.vm.findClass own = some m.cls) (hts : ∀ w ∈ TB, w.before args s = true) (hw : x_ok own ik ic cls) (hstr : vk_R own is text sx s) (hcast : va_Nw (.castable cls cls) s)
    (hZ : k_Z sa (fun q => s.heap.size ≤ q) s s.heap) (hsize : ls.size = c.maxLocals) (htab : ∀ x ∈ c.exceptionTable.toList, False) (hlocks : meth.locks = false)
    (hRm : 5 < R.frames ∧ (rest.map fun v => v.category).sum + 82 ≤ R.locals ∧ 1 ≤ R.cells ∧ 6 ≤ R.slots)
    (d0 : decode cc pc = .ok (.new ik, 3)) (d3 : decode cc (pc + 3) = .ok (.dup, 1)) (d4 : decode cc (pc + 4) = .ok (.ldc_w is, 3)) (d7 : decode cc (pc + 7) = .ok (.invokespecial ic, 3)) (d10 : decode cc (pc + 10) = .ok (.athrow, 1)) :
    W p l e R s m args below meth c s.heap [] 0 0 (vx_MQ below k_QF (k_XT cls s.heap.size) args s 1 6 (fun q => s.heap.size ≤ q)) (F0 m pc ls rest) :=
  vx_throwSW (names := x_nm) (A := fun q => s.heap.size ≤ q) hx hb hl hown hw.2.2.2.2.2 x_fit (hts _ hw.1) (hts _ hw.2.1) hstr (x_hat hw hts hcast hZ.2.2.2.2) hw.2.2.2.2.1 hZ.2.2.1 hZ.2.2.2.1 va_S.rf hsize d0 d3 d4 d7 d10 (fun x h => (htab x h).elim) hRm.1 hRm.2.1 (by have := hRm.2.2.1; omega) (by have := hRm.2.2.2; omega) hlocks
    (fun t _ h1 h2 => ⟨rfl, h1, fun q h _ => h2 q h⟩) (fun _ h => nomatch h) (Nat.le_refl _) (Nat.le_refl _)
variable {nL n index fr lo : Nat} {own C cls : String} {y : MethodName} {b : ByteArray} {ret : Option FieldType} {a : Nat} {As : List Value} {wc : va_W}
theorem x_run {T : u_T} {N ci q0 : Nat} {fs : List Value} (F : CallFix p m c cc nL s args TB own) (hM : KT l y b n ret fr lo D E sa (.ref a :: As) wc cls)
    (h1 : Cond.methodLink own index y ∈ TB) (h2 : Cond.instanceMethod y ∈ TB) (h3 : Cond.selects C y y ∈ TB) (h4 : Cond.initialized C ∈ TB) (h5 : Cond.code y b n ret ∈ TB) (hd : y.cls = C ∧ k_hd y As.length)
    (hRm : (fr + 1 ≤ R.frames ∧ 8 + (n + 11) + lo ≤ R.locals) ∧ 1 ≤ R.cells ∧ 6 ≤ R.slots) (hK : va_K D k_cl (k_tys E) s) (hP : va_P D k_cl ws s.heap) (hZ : k_Z sa (fun q => s.heap.size ≤ q) s s.heap) (isC : List Nat) (hC : isC.filterMap (fun i => ws[i]?) = wc)
    (hc : k_cl[ci]? = some (C, T, N)) (he : ws[q0]? = some (a, .inr (ci, fs))) (hst : st0 = As.reverse ++ .ref a :: rest) (hsz : ls.size = nL) (hW : (rest.map fun v => v.category).sum ≤ 8) (hdg : decode cc pc = .ok (.invokevirtual index, 3)) :
    vx_Run p l e R s m args below meth c s.heap [] 0 0 1 6 (F0 m pc ls st0) rest (k_QF (Value.ref a :: As).toArray) (k_XT cls s.heap.size) (fun q => s.heap.size ≤ q) := by
  have hPc := hP.sub isC hC
  exact vx_runV (As := As) (rest := rest) F (hM s.heap.size) (cwV As.length F.2.2.2.2 (k_gV h1 h2 h3 h4 h5) rfl rfl rfl ⟨hd.1, hd.2⟩ hRm.1) ⟨k_blindT, va_recv hK hP hc he, fun U hU hW9 => ⟨rfl, by rw [hU], by rw [hU]; exact hPc, va_K.moved hW9.alike hK, by rw [hU]; exact hZ.warm hW9⟩⟩ rfl rfl hsz hst (lv_room hW) hdg ⟨by have := hRm.2.1; omega, by have := hRm.2.2; omega⟩
/-- a call that throws, in a method without a table: it throws too -/
theorem x_pass (hr : vx_Run p l e R s m args below meth c s.heap [] 0 0 1 6 (F0 m pc ls st0) rest (k_QF (Value.ref a :: As).toArray) (k_XT cls s.heap.size) (fun q => s.heap.size ≤ q)) (htab : ∀ x ∈ c.exceptionTable.toList, False) (hlocks : meth.locks = false) :
    W p l e R s m args below meth c s.heap [] 0 0 (vx_MQ below k_QF (k_XT cls s.heap.size) args s 1 6 (fun q => s.heap.size ≤ q)) (F0 m pc ls st0) := by
  intro T hT X
  rcases hr T hT X with ⟨v, st₀, t, T', L, h0, X', hL, e1, e2, hq, st⟩ | ⟨q, st₀, t, T', L, E9, ce, h0, X', hL, e1, e2, ⟨hE, hF⟩, hce, hcv, hcl, st⟩
  · exact hq.elim
  · subst hE
    have k := vx_out (p := p) (l := l) (e := e) (R := R) (s := s) (m := m) (args := args) (below := below) (meth := meth) (c := c) (H := T'.heap) (locs := [] ++ L) (cells := 0 + 1) (slots := 0 + 6) (ls := ls) (rest := rest) (Qc := k_QF) (XC := k_XT E9 s.heap.size) (pc := pc) (free := fun q => s.heap.size ≤ q) (mc := 1) (ms := 6)
      (fun x h => (htab x h).elim) hlocks (by rw [e1]; exact hce) hcv hcl (fun t9 ht9 _ => ⟨rfl, by rw [ht9, e1, ← h0]; exact hF.1, fun q h1 h2 => by rw [ht9, e1]; rw [hF.2 q (by rw [h0]; exact h1) h2, h0]⟩) (fun z hz => hL z (by simpa using hz)) (Nat.le_refl _) (Nat.le_refl _)
    obtain ⟨t2, a1, b1⟩ := k T' rfl X'
    exact ⟨t2, st.trans a1, b1⟩
/-- a call that throws, caught by the first row of the method's table -/
theorem x_caught {name : String} {x : ExceptionTableEntry} {tl : List ExceptionTableEntry} (hr : vx_Run p l e R s m args below meth c s.heap [] 0 0 1 6 (F0 m pc ls st0) rest (k_QF (Value.ref a :: As).toArray) (k_XT cls s.heap.size) (fun q => s.heap.size ≤ q)) (hown : s.vm.findClass own = some m.cls)
    (htab : c.exceptionTable.toList = x :: tl) (hx : covers x pc = true) (h0 : x.catchType ≠ 0) (hts : ∀ w ∈ TB, w.before args s = true) (hlink : Cond.classLink own x.catchType name ∈ TB) (hcast : va_Nw (.castable cls name) s) (hP : va_P D k_cl ws s.heap) (hA : ∀ q, s.heap.size ≤ q → A q)
    (kk : ∀ (q : Nat) (H1 : Heap) (locs1 : List Loc), va_P D k_cl ws H1 → va_S A s.heap H1 locs1 → W p l e R s m args below meth c H1 locs1 1 6 Q (F0 m x.handlerPc ls [.ref q])) :
    W p l e R s m args below meth c s.heap [] 0 0 Q (F0 m pc ls st0) := by
  intro T hT X
  rcases hr T hT X with ⟨v, st₀, t, T', L, h9, X', hL, e1, e2, hq, st⟩ | ⟨q, st₀, t, T', L, E9, ce, h9, X', hL, e1, e2, ⟨hE, hF⟩, hce, hcv, hcl, st⟩
  · exact hq.elim
  · subst hE
    have hk : ∀ z : Nat, z < s.heap.size → T'.heap[z]? = s.heap[z]? := fun z hz => by rw [e1, hF.2 z (by rw [h9]; exact hz) (Nat.not_le.mpr hz), h9]
    have hP1 : va_P D k_cl ws T'.heap := fun k z hz => (hP k z hz).kept (hk _ (hP k z hz).lt)
    have hS1 : va_S A s.heap T'.heap L := ⟨by rw [e1, ← h9]; exact hF.1, fun z h1 _ => hk z h1, fun z hz => hA _ (hL z hz)⟩
    have k := xc_catch (rest := rest) (cells := 1) (slots := 6) hown htab hx h0 (hts _ hlink) (va_Nw.use rfl hcast) (by rw [e1]; exact hce) hcv hcl (kk q T'.heap L hP1 hS1)
    rw [List.nil_append] at X'
    have X2 : Stand p l e R s m args below meth c T' L 1 6 := stand_widen X' (by omega) (by omega)
    obtain ⟨t2, a1, b1⟩ := k T' rfl X2
    exact ⟨t2, st.trans a1, b1⟩
end KX
