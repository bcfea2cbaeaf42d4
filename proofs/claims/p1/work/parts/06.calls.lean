/-! ===== my own: ends and calls over the contracts of part 05 ===== -/
section KE
variable {p : Program} {l : Launch} {e : Env} {R : Room} {s : State} {m : MethodId} {args : Array Value} {below : List Frame} {meth : Method} {c : Code} {H : Heap} {locs : List Loc} {cells slots : Nat} {Q : State → Prop}
variable {D : va_G} {E : Nat → ClassId} {sa : Nat → Nat} {A : Nat → Prop} {ws : va_W} {H0 : Heap} {cc : ByteArray} {pc : Nat} {ls : Array Slot} {rest st0 : List Value}
/-! ends -/
theorem r_i {v : Int32} (hx : p.tables.exec = Jvm.exec) (hb : c.code = cc) (hr : meth.sig.returnType = some .int) (hlocks : meth.locks = false) (hH : H = s.heap) (hdg : decode cc pc = .ok (.ireturn, 1)) :
    W p l e R s m args below meth c H [] 0 0 (MQ below (k_QR (some (.int v))) args s 0 0 (fun _ => False)) (F0 m pc ls [.int v]) :=
  W.iret hx hb hr (fun t ht _ => ⟨rfl, by rw [ht, hH]⟩) (fun _ h => nomatch h) hdg
theorem r_z {v : Int32} (hx : p.tables.exec = Jvm.exec) (hb : c.code = cc) (hr : meth.sig.returnType = some .boolean) (hlocks : meth.locks = false) (hn : narrow .boolean (.int v) = .int v) (hH : H = s.heap) (hdg : decode cc pc = .ok (.ireturn, 1)) :
    W p l e R s m args below meth c H [] 0 0 (MQ below (k_QR (some (.int v))) args s 0 0 (fun _ => False)) (F0 m pc ls [.int v]) :=
  W.zret hx hb hr hn (fun t ht _ => ⟨rfl, by rw [ht, hH]⟩) (fun _ h => nomatch h) hdg
theorem r_l {v : Int64} (hx : p.tables.exec = Jvm.exec) (hb : c.code = cc) (hr : meth.sig.returnType = some .long) (hlocks : meth.locks = false) (hH : H = s.heap) (hdg : decode cc pc = .ok (.lreturn, 1)) :
    W p l e R s m args below meth c H [] 0 0 (MQ below (k_QR (some (.long v))) args s 0 0 (fun _ => False)) (F0 m pc ls [.long v]) :=
  W.lret hx hb hr (fun t ht _ => ⟨rfl, by rw [ht, hH]⟩) (fun _ h => nomatch h) hdg
section
variable {S : Type} {val : S → Option Value} {post : S → Prop} {B : S → va_W} {mc ms : Nat}
theorem m_i {v : Int32} (u : S) (hx : p.tables.exec = Jvm.exec) (hb : c.code = cc) (hr : meth.sig.returnType = some .int) (hlocks : meth.locks = false) (hv : val u = some (.int v)) (hpost : post u) (hP : va_P D k_cl (B u) H) (hD : va_D A (B u)) (hS : va_S A s.heap H locs) (hc : cells ≤ mc) (hs : slots ≤ ms) (hdg : decode cc pc = .ok (.ireturn, 1)) :
    W p l e R s m args below meth c H locs cells slots (MQ below (k_QM D A val post B) args s mc ms A) (F0 m pc ls [.int v]) :=
  W.widen hc hs (W.iret hx hb hr (fun t ht _ => ⟨⟨u, by rw [hv], hpost, by rw [ht]; exact hP, hD⟩, hS.F ht⟩) hS.2.2 hdg)
theorem m_z {v : Int32} (u : S) (hx : p.tables.exec = Jvm.exec) (hb : c.code = cc) (hr : meth.sig.returnType = some .boolean) (hlocks : meth.locks = false) (hn : narrow .boolean (.int v) = .int v) (hv : val u = some (.int v)) (hpost : post u) (hP : va_P D k_cl (B u) H) (hD : va_D A (B u)) (hS : va_S A s.heap H locs) (hc : cells ≤ mc) (hs : slots ≤ ms) (hdg : decode cc pc = .ok (.ireturn, 1)) :
    W p l e R s m args below meth c H locs cells slots (MQ below (k_QM D A val post B) args s mc ms A) (F0 m pc ls [.int v]) :=
  W.widen hc hs (W.zret hx hb hr hn (fun t ht _ => ⟨⟨u, by rw [hv], hpost, by rw [ht]; exact hP, hD⟩, hS.F ht⟩) hS.2.2 hdg)
theorem m_l {v : Int64} (u : S) (hx : p.tables.exec = Jvm.exec) (hb : c.code = cc) (hr : meth.sig.returnType = some .long) (hlocks : meth.locks = false) (hv : val u = some (.long v)) (hpost : post u) (hP : va_P D k_cl (B u) H) (hD : va_D A (B u)) (hS : va_S A s.heap H locs) (hc : cells ≤ mc) (hs : slots ≤ ms) (hdg : decode cc pc = .ok (.lreturn, 1)) :
    W p l e R s m args below meth c H locs cells slots (MQ below (k_QM D A val post B) args s mc ms A) (F0 m pc ls [.long v]) :=
  W.widen hc hs (W.lret hx hb hr (fun t ht _ => ⟨⟨u, by rw [hv], hpost, by rw [ht]; exact hP, hD⟩, hS.F ht⟩) hS.2.2 hdg)
theorem m_v (u : S) (hx : p.tables.exec = Jvm.exec) (hb : c.code = cc) (hr : meth.sig.returnType = none) (hlocks : meth.locks = false) (hv : val u = none) (hpost : post u) (hP : va_P D k_cl (B u) H) (hD : va_D A (B u)) (hS : va_S A s.heap H locs) (hc : cells ≤ mc) (hs : slots ≤ ms) (hdg : decode cc pc = .ok (.return_, 1)) :
    W p l e R s m args below meth c H locs cells slots (MQ below (k_QM D A val post B) args s mc ms A) (F0 m pc ls []) :=
  W.widen hc hs (W.vret hx hb hr (fun t ht _ => ⟨⟨u, by rw [hv], hpost, by rw [ht]; exact hP, hD⟩, hS.F ht⟩) hS.2.2 hdg)
end
/-! calls -/
variable {nL n index fr lo mc ms : Nat} {own C : String} {y : MethodName} {b : ByteArray} {ret : Option FieldType} {a : Nat} {As : List Value} {wc wr : va_W}
theorem k_gV (h1 : Cond.methodLink own index y ∈ TB) (h2 : Cond.instanceMethod y ∈ TB) (h3 : Cond.selects C y y ∈ TB) (h4 : Cond.initialized C ∈ TB) {hw : Cond} (h5 : hw ∈ TB) : GoodIn TB (wsV own index C y (hw :: TB)) := by
  intro w hw'
  have hm : w ∈ TB := by
    simp only [wsV, List.cons_append, List.nil_append, List.mem_cons] at hw'
    rcases hw' with rfl | rfl | rfl | rfl | rfl | h
    · exact h1
    · exact h2
    · exact h3
    · exact h4
    · exact h5
    · exact h
  exact ⟨hm, tb_good hm⟩
theorem k_blindR {av : List Value} : FrameBlind (va_Pc av (k_PR D E wc)) := fun a U g mk q => ⟨q.1, q.2.1, va_K.moved (u := U) (U := U.calling g mk a) (Vm.Alike.refl U.vm) q.2.2⟩
theorem k_blindM {av : List Value} {sz : Nat} : FrameBlind (va_Pc av (k_PM D E sa wc sz)) := fun a U g mk q => ⟨q.1, q.2.1, q.2.2.1, va_K.moved (u := U) (U := U.calling g mk a) (Vm.Alike.refl U.vm) q.2.2.2.1, q.2.2.2.2.1, q.2.2.2.2.2.same rfl⟩
theorem k_blindT {av : List Value} {sz : Nat} : FrameBlind (va_Pc av (k_PT D E sa wc sz)) := fun a U g mk q => ⟨q.1, q.2.1, q.2.2.1, va_K.moved (u := U) (U := U.calling g mk a) (Vm.Alike.refl U.vm) q.2.2.2.1, q.2.2.2.2.same rfl⟩
/-- behind a call that only reads -/
theorem k_rd {v : Option Value} {a9 : Array Value} (hr : va_Run p l e R s m args below meth c H locs cells slots 0 0 (F0 m pc ls st0) rest (k_QR v a9) (fun _ => False))
    (kk : W p l e R s m args below meth c H locs cells slots Q (F0 m (pc + 3) ls (v.toList ++ rest))) : W p l e R s m args below meth c H locs cells slots Q (F0 m pc ls st0) := by
  intro T hT X
  obtain ⟨v', st₀, t, T', L, h0, X', hL, e1, e2, ⟨hv, hh⟩, st⟩ := hr T hT X
  cases hv
  have hl : L = [] := by
    cases L with
    | nil => rfl
    | cons z L => exact (hL z List.mem_cons_self).elim
  subst hl
  rw [List.append_nil] at X'
  obtain ⟨t2, a1, b1⟩ := kk T' (by rw [e1, hh, h0]) X'
  exact ⟨t2, st t2 a1, b1⟩
/-- behind a call that writes its world -/
theorem k_wr {S : Type} {val : S → Option Value} {post : S → Prop} {B : S → va_W} {a9 : Array Value} (hr : va_Run p l e R s m args below meth c H locs cells slots mc ms (F0 m pc ls st0) rest (k_QM D (va_A wc H.size) val post B a9) (va_A wc H.size))
    (hP : va_P D k_cl ws H) (hD : va_D A ws) (hS : va_S A H0 H locs) (hA : ∀ q, H0.size ≤ q → A q)
    (isC isR : List Nat) (hC : isC.map (fun i => ws[i]?) = wc.map some) (hR : isR.map (fun i => ws[i]?) = wr.map some) (hn : va_nd isR = true) (hdis : ∀ i ∈ isR, i ∉ isC)
    (kk : ∀ (u : S) (H1 : Heap) (locs1 : List Loc), post u → va_P D k_cl (wr ++ B u) H1 → va_D A (wr ++ B u) → va_S A H0 H1 locs1 → H.size ≤ H1.size → W p l e R s m args below meth c H1 locs1 (cells + mc) (slots + ms) Q (F0 m (pc + 3) ls ((val u).toList ++ rest))) :
    W p l e R s m args below meth c H locs cells slots Q (F0 m pc ls st0) := by
  have hF := va_free (wc := wc) hD hS hA isC hC
  intro T hT X
  obtain ⟨v', st₀, t, T', L, h0, X', hL, e1, e2, ⟨⟨u, hv, hp, hP1, hD1⟩, hz, hk⟩, st⟩ := hr T hT X
  cases hv
  rw [h0] at hz hk
  have hk' : ∀ q : Nat, q < H.size → ¬ va_A wc H.size q → T'.heap[q]? = H[q]? := fun q h1 h2 => by rw [e1]; exact hk q h1 h2
  obtain ⟨j1, j2⟩ := va_join (wr := wr) (w1 := B u) hP hD isC isR hC hR hn hdis hk' hF (by rw [e1]; exact hP1) hD1
  obtain ⟨t2, a1, b1⟩ := kk u T'.heap (locs ++ L) hp j1 j2
    ⟨Nat.le_trans hS.1 (by rw [e1]; exact hz), fun q h1 h2 => by rw [hk' q (Nat.lt_of_lt_of_le h1 hS.1) (fun z => h2 (hF q z))]; exact hS.2.1 q h1 h2, fun q hq => by
      rcases List.mem_append.mp hq with h | h
      · exact hS.2.2 q h
      · exact hF _ (hL q h)⟩ (by rw [e1]; exact hz) T' rfl X'
  exact ⟨t2, st t2 a1, b1⟩
abbrev k_hd (y : MethodName) (n : Nat) : Prop := y.cls ≠ "java/lang/invoke/MethodHandle" ∧ y.cls ≠ "java/lang/invoke/VarHandle" ∧ (parseMethodDescriptor y.desc).map (fun d => d.parameters.length) = some n
/-- invokevirtual of a method that only reads -/
theorem k_RV {v : Option Value} {T : u_T} {N ci q0 : Nat} {fs : List Value} (F : CallFix p m c cc nL s args TB own) (hM : KR l y b n ret fr lo D E (.ref a :: As) wc v)
    (h1 : Cond.methodLink own index y ∈ TB) (h2 : Cond.instanceMethod y ∈ TB) (h3 : Cond.selects C y y ∈ TB) (h4 : Cond.initialized C ∈ TB) (h5 : Cond.code y b n ret ∈ TB) (hd : y.cls = C ∧ k_hd y As.length)
    (hRm : (fr + 1 ≤ R.frames ∧ 8 + (n + 11) + lo ≤ R.locals) ∧ cells ≤ R.cells ∧ slots ≤ R.slots) (hK : va_K D k_cl (k_tys E) s) (hP : va_P D k_cl ws H) (isC : List Nat) (hC : isC.filterMap (fun i => ws[i]?) = wc)
    (hc : k_cl[ci]? = some (C, T, N)) (he : ws[q0]? = some (a, .inr (ci, fs))) (hst : st0 = As.reverse ++ .ref a :: rest) (hsz : ls.size = nL) (hW : (rest.map fun v => v.category).sum ≤ 8) (hdg : decode cc pc = .ok (.invokevirtual index, 3))
    (kk : W p l e R s m args below meth c H locs cells slots Q (F0 m (pc + 3) ls (v.toList ++ rest))) : W p l e R s m args below meth c H locs cells slots Q (F0 m pc ls st0) := by
  have hPc := hP.sub isC hC
  refine k_rd (va_runV (As := As) (rest := rest) F hM (cwV As.length F.2.2.2.2 (k_gV h1 h2 h3 h4 h5) rfl rfl rfl ⟨hd.1, hd.2⟩ hRm.1) ⟨k_blindR, va_recv hK hP hc he, fun U hU hW9 => ⟨rfl, by rw [hU]; exact hPc, va_K.moved hW9.alike hK⟩⟩ rfl rfl hsz hst (lv_room hW) hdg hRm.2) kk
/-- invokestatic of a method that only reads -/
theorem k_RS {v : Option Value} (F : CallFix p m c cc nL s args TB own) (hM : KR l y b n ret fr lo D E As wc v)
    (h1 : Cond.methodLink own index y ∈ TB) (h2 : Cond.static y ∈ TB) (h4 : Cond.initialized y.cls ∈ TB) (h5 : Cond.code y b n ret ∈ TB) (hd : k_hd y As.length)
    (hRm : (fr + 1 ≤ R.frames ∧ 8 + (n + 11) + lo ≤ R.locals) ∧ cells ≤ R.cells ∧ slots ≤ R.slots) (hK : va_K D k_cl (k_tys E) s) (hP : va_P D k_cl ws H) (isC : List Nat) (hC : isC.filterMap (fun i => ws[i]?) = wc)
    (hst : st0 = As.reverse ++ rest) (hsz : ls.size = nL) (hW : (rest.map fun v => v.category).sum ≤ 8) (hdg : decode cc pc = .ok (.invokestatic index, 3))
    (kk : W p l e R s m args below meth c H locs cells slots Q (F0 m (pc + 3) ls (v.toList ++ rest))) : W p l e R s m args below meth c H locs cells slots Q (F0 m pc ls st0) := by
  have hPc := hP.sub isC hC
  refine k_rd (va_runS (As := As) (rest := rest) F hM ⟨callB_of As.length F.2.2.2.2 (tb_in h5) rfl rfl rfl (F.2.2.2.2 _ h4) (F.2.2.2.2 _ h1) hd hRm.1, F.2.2.2.2 _ h2⟩ ⟨k_blindR, fun U hU hW9 => ⟨rfl, by rw [hU]; exact hPc, va_K.moved hW9.alike hK⟩⟩ rfl rfl hsz hst (lv_room hW) hdg hRm.2) kk
section
variable {S : Type} {val : S → Option Value} {post : S → Prop} {B : S → va_W}
theorem k_pre {av : List Value} (hK : va_K D k_cl (k_tys E) s) (hP : va_P D k_cl ws H) (hD : va_D A ws) (hS : va_S A s.heap H locs) (hA : ∀ q, s.heap.size ≤ q → A q) (hZ : k_Z sa A s s.heap)
    (isC : List Nat) (hnc : va_nd isC = true) (hC : isC.map (fun i => ws[i]?) = wc.map some) (U : State) (hU : U.heap = H) (hW9 : s.WarmedH U.vm) : va_Pc av (k_PM D E sa wc H.size) av.toArray U := by
  have hF := va_free (wc := wc) hD hS hA isC hC
  have hf : isC.filterMap (fun i => ws[i]?) = wc := by
    have h9 : (isC.map (fun i => ws[i]?)).filterMap id = (wc.map some).filterMap id := by rw [hC]
    simpa [List.filterMap_map, Function.comp_def] using h9
  refine ⟨rfl, by rw [hU], by rw [hU]; exact hP.sub isC hf, va_K.moved hW9.alike hK, (hD.sub isC hnc hC).weaken (fun _ _ _ _ => trivial), ?_⟩
  rw [hU]
  exact ((hZ.kept hS.2.1).narrow hF).warm hW9
/-- invokevirtual of a method that writes -/
theorem k_MV {T : u_T} {N ci q0 : Nat} {fs : List Value} (F : CallFix p m c cc nL s args TB own) (hM : KM l y (.code y b n ret) fr lo mc ms D E sa (.ref a :: As) wc val post B)
    (h1 : Cond.methodLink own index y ∈ TB) (h2 : Cond.instanceMethod y ∈ TB) (h3 : Cond.selects C y y ∈ TB) (h4 : Cond.initialized C ∈ TB) (h5 : Cond.code y b n ret ∈ TB) (hd : y.cls = C ∧ k_hd y As.length)
    (hRm : (fr + 1 ≤ R.frames ∧ 8 + (n + 11) + lo ≤ R.locals) ∧ cells + mc ≤ R.cells ∧ slots + ms ≤ R.slots) (hK : va_K D k_cl (k_tys E) s) (hP : va_P D k_cl ws H) (hD : va_D A ws) (hS : va_S A s.heap H locs) (hA : ∀ q, s.heap.size ≤ q → A q) (hZ : k_Z sa A s s.heap)
    (isC isR : List Nat) (hC : isC.map (fun i => ws[i]?) = wc.map some) (hR : isR.map (fun i => ws[i]?) = wr.map some) (hnd : va_nd isC = true ∧ va_nd isR = true ∧ ∀ i ∈ isR, i ∉ isC)
    (hc : k_cl[ci]? = some (C, T, N)) (he : ws[q0]? = some (a, .inr (ci, fs))) (hst : st0 = As.reverse ++ .ref a :: rest) (hsz : ls.size = nL) (hW : (rest.map fun v => v.category).sum ≤ 8) (hdg : decode cc pc = .ok (.invokevirtual index, 3))
    (kk : ∀ (u : S) (H1 : Heap) (locs1 : List Loc), post u → va_P D k_cl (wr ++ B u) H1 → va_D A (wr ++ B u) → va_S A s.heap H1 locs1 → H.size ≤ H1.size → W p l e R s m args below meth c H1 locs1 (cells + mc) (slots + ms) Q (F0 m (pc + 3) ls ((val u).toList ++ rest))) :
    W p l e R s m args below meth c H locs cells slots Q (F0 m pc ls st0) :=
  k_wr (va_runV (As := As) (rest := rest) F (hM H.size) (cwV As.length F.2.2.2.2 (k_gV h1 h2 h3 h4 h5) rfl rfl rfl ⟨hd.1, hd.2⟩ hRm.1) ⟨k_blindM, va_recv hK hP hc he, k_pre hK hP hD hS hA hZ isC hnd.1 hC⟩ rfl rfl hsz hst (lv_room hW) hdg hRm.2) hP hD hS hA isC isR hC hR hnd.2.1 hnd.2.2 kk
/-- invokestatic of a method that writes -/
theorem k_MS (F : CallFix p m c cc nL s args TB own) (hM : KM l y (.code y b n ret) fr lo mc ms D E sa As wc val post B)
    (h1 : Cond.methodLink own index y ∈ TB) (h2 : Cond.static y ∈ TB) (h4 : Cond.initialized y.cls ∈ TB) (h5 : Cond.code y b n ret ∈ TB) (hd : k_hd y As.length)
    (hRm : (fr + 1 ≤ R.frames ∧ 8 + (n + 11) + lo ≤ R.locals) ∧ cells + mc ≤ R.cells ∧ slots + ms ≤ R.slots) (hK : va_K D k_cl (k_tys E) s) (hP : va_P D k_cl ws H) (hD : va_D A ws) (hS : va_S A s.heap H locs) (hA : ∀ q, s.heap.size ≤ q → A q) (hZ : k_Z sa A s s.heap)
    (isC isR : List Nat) (hC : isC.map (fun i => ws[i]?) = wc.map some) (hR : isR.map (fun i => ws[i]?) = wr.map some) (hnd : va_nd isC = true ∧ va_nd isR = true ∧ ∀ i ∈ isR, i ∉ isC)
    (hst : st0 = As.reverse ++ rest) (hsz : ls.size = nL) (hW : (rest.map fun v => v.category).sum ≤ 8) (hdg : decode cc pc = .ok (.invokestatic index, 3))
    (kk : ∀ (u : S) (H1 : Heap) (locs1 : List Loc), post u → va_P D k_cl (wr ++ B u) H1 → va_D A (wr ++ B u) → va_S A s.heap H1 locs1 → H.size ≤ H1.size → W p l e R s m args below meth c H1 locs1 (cells + mc) (slots + ms) Q (F0 m (pc + 3) ls ((val u).toList ++ rest))) :
    W p l e R s m args below meth c H locs cells slots Q (F0 m pc ls st0) :=
  k_wr (va_runS (As := As) (rest := rest) F (hM H.size) ⟨callB_of As.length F.2.2.2.2 (tb_in h5) rfl rfl rfl (F.2.2.2.2 _ h4) (F.2.2.2.2 _ h1) hd hRm.1, F.2.2.2.2 _ h2⟩ ⟨k_blindM, k_pre hK hP hD hS hA hZ isC hnd.1 hC⟩ rfl rfl hsz hst (lv_room hW) hdg hRm.2) hP hD hS hA isC isR hC hR hnd.2.1 hnd.2.2 kk
/-- invokestatic of a method with a table -/
theorem k_MW {hh : List (Nat × Nat × Nat × Nat)} (F : CallFix p m c cc nL s args TB own) (hM : KM l y (.codeWith y b n ret hh) fr lo mc ms D E sa As wc val post B)
    (h1 : Cond.methodLink own index y ∈ TB) (h2 : Cond.static y ∈ TB) (h4 : Cond.initialized y.cls ∈ TB) (h5 : Cond.codeWith y b n ret hh ∈ TB) (hd : k_hd y As.length)
    (hRm : (fr + 1 ≤ R.frames ∧ 8 + (n + 11) + lo ≤ R.locals) ∧ cells + mc ≤ R.cells ∧ slots + ms ≤ R.slots) (hK : va_K D k_cl (k_tys E) s) (hP : va_P D k_cl ws H) (hD : va_D A ws) (hS : va_S A s.heap H locs) (hA : ∀ q, s.heap.size ≤ q → A q) (hZ : k_Z sa A s s.heap)
    (isC isR : List Nat) (hC : isC.map (fun i => ws[i]?) = wc.map some) (hR : isR.map (fun i => ws[i]?) = wr.map some) (hnd : va_nd isC = true ∧ va_nd isR = true ∧ ∀ i ∈ isR, i ∉ isC)
    (hst : st0 = As.reverse ++ rest) (hsz : ls.size = nL) (hW : (rest.map fun v => v.category).sum ≤ 8) (hdg : decode cc pc = .ok (.invokestatic index, 3))
    (kk : ∀ (u : S) (H1 : Heap) (locs1 : List Loc), post u → va_P D k_cl (wr ++ B u) H1 → va_D A (wr ++ B u) → va_S A s.heap H1 locs1 → H.size ≤ H1.size → W p l e R s m args below meth c H1 locs1 (cells + mc) (slots + ms) Q (F0 m (pc + 3) ls ((val u).toList ++ rest))) :
    W p l e R s m args below meth c H locs cells slots Q (F0 m pc ls st0) :=
  k_wr (vx_runSW (As := As) (rest := rest) F (hM H.size) ⟨⟨rfl, rfl, hRm.1.1, hRm.1.2, pay_in F.2.2.2.2 (tb_in h5), List.mem_cons_self⟩, F.2.2.2.2 _ h5, F.2.2.2.2 _ h4, ⟨hd.1, hd.2.1⟩, fun sig h => by have h2 := hd.2.2; rw [h] at h2; exact (Option.some.inj h2).symm, F.2.2.2.2 _ h1, F.2.2.2.2 _ h2⟩ ⟨k_blindM, k_pre hK hP hD hS hA hZ isC hnd.1 hC⟩ rfl rfl hsz hst (lv_room hW) hdg hRm.2) hP hD hS hA isC isR hC hR hnd.2.1 hnd.2.2 kk
/-- a constructor -/
theorem k_MI (F : CallFix p m c cc nL s args TB own) (hM : KM l y (.code y b n none) fr lo mc ms D E sa (.ref a :: As) wc val post B)
    (h1 : Cond.methodLink own index y ∈ TB) (h2 : Cond.instanceMethod y ∈ TB) (h4 : Cond.initialized y.cls ∈ TB) (h5 : Cond.code y b n none ∈ TB) (hd : y.name = "<init>" ∧ k_hd y As.length)
    (hRm : (fr + 1 ≤ R.frames ∧ 8 + (n + 11) + lo ≤ R.locals) ∧ cells + mc ≤ R.cells ∧ slots + ms ≤ R.slots) (hK : va_K D k_cl (k_tys E) s) (hP : va_P D k_cl ws H) (hD : va_D A ws) (hS : va_S A s.heap H locs) (hA : ∀ q, s.heap.size ≤ q → A q) (hZ : k_Z sa A s s.heap)
    (isC isR : List Nat) (hC : isC.map (fun i => ws[i]?) = wc.map some) (hR : isR.map (fun i => ws[i]?) = wr.map some) (hnd : va_nd isC = true ∧ va_nd isR = true ∧ ∀ i ∈ isR, i ∉ isC)
    (hst : st0 = As.reverse ++ .ref a :: rest) (hsz : ls.size = nL) (hW : (rest.map fun v => v.category).sum ≤ 8) (hdg : decode cc pc = .ok (.invokespecial index, 3))
    (kk : ∀ (u : S) (H1 : Heap) (locs1 : List Loc), post u → va_P D k_cl (wr ++ B u) H1 → va_D A (wr ++ B u) → va_S A s.heap H1 locs1 → H.size ≤ H1.size → W p l e R s m args below meth c H1 locs1 (cells + mc) (slots + ms) Q (F0 m (pc + 3) ls ((val u).toList ++ rest))) :
    W p l e R s m args below meth c H locs cells slots Q (F0 m pc ls st0) :=
  k_wr (va_runI (As := As) (rest := rest) F (hM H.size) (cwI As.length F.2.2.2.2 (tb_in h5) rfl rfl rfl (F.2.2.2.2 _ h4) (F.2.2.2.2 _ h1) (F.2.2.2.2 _ h2) hd.1 hd.2 hRm.1) ⟨k_blindM, k_pre hK hP hD hS hA hZ isC hnd.1 hC⟩ rfl rfl hsz hst (lv_room hW) hdg hRm.2) hP hD hS hA isC isR hC hR hnd.2.1 hnd.2.2 kk
/-- a nest mate's private constructor -/
theorem k_MN (F : CallFix p m c cc nL s args TB own) (hM : KM l y (.code y b n none) fr lo mc ms D E sa (.ref a :: As) wc val post B)
    (h1 : (own, index, y) ∈ k_nw) (h2 : Cond.instanceMethod y ∈ TB) (h4 : Cond.initialized y.cls ∈ TB) (h5 : Cond.code y b n none ∈ TB) (hd : y.name = "<init>" ∧ k_hd y As.length)
    (hRm : (fr + 1 ≤ R.frames ∧ 8 + (n + 11) + lo ≤ R.locals) ∧ cells + mc ≤ R.cells ∧ slots + ms ≤ R.slots) (hK : va_K D k_cl (k_tys E) s) (hP : va_P D k_cl ws H) (hD : va_D A ws) (hS : va_S A s.heap H locs) (hA : ∀ q, s.heap.size ≤ q → A q) (hZ : k_Z sa A s s.heap)
    (isC isR : List Nat) (hC : isC.map (fun i => ws[i]?) = wc.map some) (hR : isR.map (fun i => ws[i]?) = wr.map some) (hnd : va_nd isC = true ∧ va_nd isR = true ∧ ∀ i ∈ isR, i ∉ isC)
    (hst : st0 = As.reverse ++ .ref a :: rest) (hsz : ls.size = nL) (hW : (rest.map fun v => v.category).sum ≤ 8) (hdg : decode cc pc = .ok (.invokespecial index, 3))
    (kk : ∀ (u : S) (H1 : Heap) (locs1 : List Loc), post u → va_P D k_cl (wr ++ B u) H1 → va_D A (wr ++ B u) → va_S A s.heap H1 locs1 → H.size ≤ H1.size → W p l e R s m args below meth c H1 locs1 (cells + mc) (slots + ms) Q (F0 m (pc + 3) ls ((val u).toList ++ rest))) :
    W p l e R s m args below meth c H locs cells slots Q (F0 m pc ls st0) :=
  k_wr (va_runIN (As := As) (rest := rest) F (hM H.size) ⟨va_cnB (host := RX9) As.length F.2.2.2.2 (tb_in h5) rfl rfl rfl (hZ.1 (own, index, y) h1) (F.2.2.2.2 _ h4) hd.2 hRm.1, hd.1, F.2.2.2.2 _ h2⟩ ⟨k_blindM, k_pre hK hP hD hS hA hZ isC hnd.1 hC⟩ rfl rfl hsz hst (lv_room hW) hdg hRm.2) hP hD hS hA isC isR hC hR hnd.2.1 hnd.2.2 kk
end
end KE
