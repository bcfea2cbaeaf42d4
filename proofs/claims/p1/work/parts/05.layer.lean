/-! ===== my own: one form of contract for every method, one list of words, one row a call ===== -/
section KL
/-- the words that every method of the claim takes: all good ones of the tables -/
def TB : List Cond := lw_tbl.filter goodWord
theorem tb_of {w : Cond} (i : Nat) (h : (decide (lw_tbl[i]? = some w) && goodWord w) = true) : w ∈ TB := by
  simp only [Bool.and_eq_true, decide_eq_true_eq] at h
  exact List.mem_filter.mpr ⟨List.mem_of_getElem? h.1, h.2⟩
theorem tb_all (ws : List Cond) (ps : List Nat) (h : (decide (ws = ps.filterMap (fun i => lw_tbl[i]?)) && ws.all goodWord) = true) : ∀ w ∈ ws, w ∈ TB := by
  simp only [Bool.and_eq_true, decide_eq_true_eq] at h
  intro w hw
  have h2 := List.all_eq_true.mp h.2 w hw
  rw [h.1] at hw
  obtain ⟨i, -, hi⟩ := List.mem_filterMap.mp hw
  exact List.mem_filter.mpr ⟨List.mem_of_getElem? hi, h2⟩
theorem tb_tbl {w : Cond} (h : w ∈ TB) : w ∈ lw_tbl := (List.mem_filter.mp h).1
theorem tb_good {w : Cond} (h : w ∈ TB) : (w.onTables && w.keeps) = true ∨ ∃ ty, w = .arrayClass ty := good_of_word (List.mem_filter.mp h).2
theorem tb_in {w : Cond} (h : w ∈ TB) : GoodIn TB (w :: TB) := fun v hv => (List.mem_cons.mp hv).elim (fun e => by rw [e]; exact ⟨h, tb_good h⟩) (fun h => ⟨h, tb_good h⟩)
abbrev k_cl : List vw_C := [(RX0, TX0, 10), (RX1, TX1, 14), (RX2, TX2, 5), (RX3, TX3, 6), (RX4, TX4, 9), (RX5, TX5, 17), (RX6, TX6, 2), (RX7, TX7, 5), (RX8, TX8, 5), (RX9, TX9, 13), (RX10, TX10, 81)]
abbrev k_tys (E : Nat → ClassId) : List (ClassId × FieldType) := [(E 0, .int), (E 1, .long), (E 2, .byte), (E 3, .boolean)]
/-- links to the private constructors of nest mates -/
def k_nw : List (String × Nat × MethodName) := [(RX9, 13, yX6_init), (RX9, 20, yX0_init), (RX0, 33, yX3_init), (RX9, 36, yX8_init), (RX9, 46, yX7_init), (RX9, 53, yX2_init), (RX2, 25, yX8_init), (RX9, 60, yX1_init), (RX1, 11, yX3_init), (RX1, 47, yX8_init), (RX9, 67, yX5_init)]
def k_N (U : State) : Prop := ∀ q ∈ k_nw, va_Nw (.methodLinkNest q.1 q.2.1 q.2.2 RX9) U
/-- the texts of the exceptions that a fresh object throws -/
def k_R (sa : Nat → Nat) (U : State) : Prop := vk_R RX9 388 "no such node" (sa 0) U ∧ vk_R RX9 168 "no such arc" (sa 1) U ∧ vk_R RX9 103 "the tape has not so many bytes" (sa 2) U ∧ vk_R RX9 137 "the place is beyond the plane" (sa 3) U
/-- what no cell of the world says: those links, those texts, Throwable's statics -/
def k_dc (C : String) : Cond := .declares ⟨C, "<init>", "(Ljava/lang/String;)V"⟩
def k_C (U : State) : Prop := va_Nw (.castable "java/lang/IndexOutOfBoundsException" "java/lang/IndexOutOfBoundsException") U ∧ va_Nw (.castable "java/lang/IllegalArgumentException" "java/lang/IllegalArgumentException") U ∧ va_Nw (k_dc "java/lang/RuntimeException") U ∧ va_Nw (k_dc "java/lang/Exception") U ∧ va_Nw (k_dc "java/lang/Throwable") U
theorem k_C.warm {s U : State} (hW : s.WarmedH U.vm) (h : k_C s) : k_C U := ⟨va_Nw.warmC hW h.1, va_Nw.warmC hW h.2.1, va_Nw.warmD hW h.2.2.1, va_Nw.warmD hW h.2.2.2.1, va_Nw.warmD hW h.2.2.2.2⟩
theorem k_C.same {s U : State} (hv : U.vm = s.vm) (h : k_C s) : k_C U := ⟨va_Nw.same rfl hv.symm h.1, va_Nw.same rfl hv.symm h.2.1, va_Nw.same rfl hv.symm h.2.2.1, va_Nw.same rfl hv.symm h.2.2.2.1, va_Nw.same rfl hv.symm h.2.2.2.2⟩
def k_Z (sa : Nat → Nat) (A : Nat → Prop) (U : State) (H : Heap) : Prop := k_N U ∧ k_R sa U ∧ vx_Zq Bundle.tN "UNASSIGNED_STACK" Bundle.steD A U H ∧ vx_Zq Bundle.tN "SUPPRESSED_SENTINEL" Bundle.listD A U H ∧ k_C U
theorem k_Z.warm {sa : Nat → Nat} {A : Nat → Prop} {s U : State} {H : Heap} (hW : s.WarmedH U.vm) (h : k_Z sa A s H) : k_Z sa A U H :=
  ⟨fun q hq => va_Nw.warmM hW (h.1 q hq), ⟨h.2.1.1.warm hW, h.2.1.2.1.warm hW, h.2.1.2.2.1.warm hW, h.2.1.2.2.2.warm hW⟩, h.2.2.1.moved hW.alike, h.2.2.2.1.moved hW.alike, h.2.2.2.2.warm hW⟩
theorem k_Z.same {sa : Nat → Nat} {A : Nat → Prop} {s U : State} {H : Heap} (hv : U.vm = s.vm) (h : k_Z sa A s H) : k_Z sa A U H :=
  ⟨fun q hq => va_Nw.same rfl hv.symm (h.1 q hq), ⟨h.2.1.1.same hv, h.2.1.2.1.same hv, h.2.1.2.2.1.same hv, h.2.1.2.2.2.same hv⟩, h.2.2.1.moved (by rw [hv]; exact Vm.Alike.refl _), h.2.2.2.1.moved (by rw [hv]; exact Vm.Alike.refl _), h.2.2.2.2.same hv⟩
theorem k_Z.kept {sa : Nat → Nat} {A : Nat → Prop} {s : State} {H H1 : Heap} (h : k_Z sa A s H) (hq : ∀ a : Nat, a < H.size → ¬ A a → H1[a]? = H[a]?) : k_Z sa A s H1 := ⟨h.1, h.2.1, h.2.2.1.kept hq, h.2.2.2.1.kept hq, h.2.2.2.2⟩
theorem k_Z.narrow {sa : Nat → Nat} {A B : Nat → Prop} {s : State} {H : Heap} (h : k_Z sa A s H) (hAB : ∀ q, B q → A q) : k_Z sa B s H := ⟨h.1, h.2.1, h.2.2.1.narrow hAB, h.2.2.2.1.narrow hAB, h.2.2.2.2⟩
/-! ### contracts -/
abbrev k_PR (D : va_G) (E : Nat → ClassId) (ws : va_W) (U : State) : Prop := va_P D k_cl ws U.heap ∧ va_K D k_cl (k_tys E) U
abbrev k_PM (D : va_G) (E : Nat → ClassId) (sa : Nat → Nat) (ws : va_W) (sz : Nat) (U : State) : Prop := U.heap.size = sz ∧ va_P D k_cl ws U.heap ∧ va_K D k_cl (k_tys E) U ∧ va_D (fun _ => True) ws ∧ k_Z sa (va_A ws sz) U U.heap
abbrev k_PT (D : va_G) (E : Nat → ClassId) (sa : Nat → Nat) (ws : va_W) (sz : Nat) (U : State) : Prop := U.heap.size = sz ∧ va_P D k_cl ws U.heap ∧ va_K D k_cl (k_tys E) U ∧ k_Z sa (fun q => sz ≤ q) U U.heap
def k_QR (v : Option Value) : Array Value → State → Outcome → State → Prop := fun _ st oc t => oc = .returned v ∧ t.heap = st.heap
def k_QM {S : Type} (D : va_G) (A : Nat → Prop) (val : S → Option Value) (post : S → Prop) (B : S → va_W) : Array Value → State → Outcome → State → Prop := fun _ st oc t => (∃ u : S, oc = .returned (val u) ∧ post u ∧ va_P D k_cl (B u) t.heap ∧ va_D A (B u)) ∧ va_F A st t
def k_XT (cls : String) (sz : Nat) : String → State → State → Prop := fun E st t => E = cls ∧ va_F (fun q => sz ≤ q) st t
def k_QF : Array Value → State → Outcome → State → Prop := fun _ _ _ _ => False
/-- reads, makes nothing, writes nothing, answers v -/
def KR (l : Launch) (y : MethodName) (b : ByteArray) (n : Nat) (ret : Option FieldType) (fr lo : Nat) (D : va_G) (E : Nat → ClassId) (av : List Value) (ws : va_W) (v : Option Value) : Prop :=
  Met l y (.code y b n ret :: TB) { frames := fr, cells := 0, slots := 0, locals := lo } (va_Pc av (k_PR D E ws)) (k_QR v) 0 0 (fun _ => False)
/-- writes its world alone -/
def KM (l : Launch) (y : MethodName) (hw : Cond) (fr lo mc ms : Nat) (D : va_G) (E : Nat → ClassId) (sa : Nat → Nat) (av : List Value) (ws : va_W) {S : Type} (val : S → Option Value) (post : S → Prop) (B : S → va_W) : Prop :=
  ∀ sz : Nat, Met l y (hw :: TB) { frames := fr, cells := mc, slots := ms, locals := lo } (va_Pc av (k_PM D E sa ws sz)) (k_QM D (va_A ws sz) val post B) mc ms (va_A ws sz)
/-- throws cls, writes nothing that was there -/
def KT (l : Launch) (y : MethodName) (b : ByteArray) (n : Nat) (ret : Option FieldType) (fr lo : Nat) (D : va_G) (E : Nat → ClassId) (sa : Nat → Nat) (av : List Value) (ws : va_W) (cls : String) : Prop :=
  ∀ sz : Nat, vx_Met l y (.code y b n ret :: TB) { frames := fr, cells := 1, slots := 6, locals := lo } (va_Pc av (k_PT D E sa ws sz)) k_QF (k_XT cls sz) 1 6 (fun q => sz ≤ q)
theorem KR.of {l : Launch} {y : MethodName} {b : ByteArray} {n : Nat} {ret : Option FieldType} {fr lo : Nat} {D : va_G} {E : Nat → ClassId} {av : List Value} {ws : va_W} {v : Option Value} (hy : plainName y.cls = true) (hn : (lg_sl av).length ≤ n)
    (body : ∀ (p : Program) (e : Env) (s : State) (m : MethodId) (below : List Frame) (meth : Method) (c : Code) (ls : Array Slot), p.tables.exec = Jvm.exec → c.code = b → meth.sig.returnType = ret → (∀ w ∈ TB, w.before av.toArray s = true) → c.maxLocals = n → s.vm.findClass y.cls = some m.cls → meth.locks = false →
      va_K D k_cl (k_tys E) s → va_P D k_cl ws s.heap → lv_has ls n (lv_args 0 av) →
      W p l e { frames := fr, cells := 0, slots := 0, locals := lo } s m av.toArray below meth c s.heap [] 0 0 (MQ below (k_QR v) av.toArray s 0 0 (fun _ => False)) (F0 m 0 ls [])) : KR l y b n ret fr lo D E av ws v := by
  refine Met.ofW (cc := b) (maxL := n) (ret := ret) hy rfl ?_
  intro p e s m args below meth c s₁ B hml hv
  obtain ⟨rfl, hP, hK⟩ := hv
  have hts := atoms_spec (ws := .code y b n ret :: TB) B.pre
  rw [lg_entry_eq]
  exact body p e s m below meth c _ B.exec B.bytes B.returns (fun w h => hts w (List.mem_cons_of_mem _ h)) hml (findClass_of_methodNamed B.named) B.notSynchronized hK hP (lv_entry av hn)
theorem KM.of {l : Launch} {y : MethodName} {b : ByteArray} {n : Nat} {ret : Option FieldType} {fr lo mc ms : Nat} {D : va_G} {E : Nat → ClassId} {sa : Nat → Nat} {av : List Value} {ws : va_W} {S : Type} {val : S → Option Value} {post : S → Prop} {B : S → va_W} (hy : plainName y.cls = true) (hn : (lg_sl av).length ≤ n)
    (body : ∀ (p : Program) (e : Env) (s : State) (m : MethodId) (below : List Frame) (meth : Method) (c : Code) (A : Nat → Prop) (ls : Array Slot), p.tables.exec = Jvm.exec → c.code = b → meth.sig.returnType = ret → (∀ w ∈ TB, w.before av.toArray s = true) → c.maxLocals = n → s.vm.findClass y.cls = some m.cls → meth.locks = false → meth.name = y.name →
      va_K D k_cl (k_tys E) s → va_P D k_cl ws s.heap → va_D A ws → (∀ q, s.heap.size ≤ q → A q) → va_S A s.heap s.heap [] → k_Z sa A s s.heap → lv_has ls n (lv_args 0 av) →
      W p l e { frames := fr, cells := mc, slots := ms, locals := lo } s m av.toArray below meth c s.heap [] 0 0 (MQ below (k_QM D A val post B) av.toArray s mc ms A) (F0 m 0 ls [])) : KM l y (.code y b n ret) fr lo mc ms D E sa av ws val post B := by
  intro sz
  refine Met.ofW (cc := b) (maxL := n) (ret := ret) hy rfl ?_
  intro p e s m args below meth c s₁ BB hml hv
  obtain ⟨rfl, hsz, hP, hK, hD0, hZ⟩ := hv
  subst hsz
  have hts := atoms_spec (ws := .code y b n ret :: TB) BB.pre
  rw [lg_entry_eq]
  exact body p e s m below meth c (va_A ws s.heap.size) _ BB.exec BB.bytes BB.returns (fun w h => hts w (List.mem_cons_of_mem _ h)) hml (findClass_of_methodNamed BB.named) BB.notSynchronized (name_of_methodNamed BB.named BB.method).1 hK hP hD0.self (fun q h => Or.inr h) va_S.rf hZ (lv_entry av hn)
/-- a method with a table of its own -/
theorem KM.ofH {l : Launch} {y : MethodName} {b : ByteArray} {n : Nat} {ret : Option FieldType} {hh : List (Nat × Nat × Nat × Nat)} {fr lo mc ms : Nat} {D : va_G} {E : Nat → ClassId} {sa : Nat → Nat} {av : List Value} {ws : va_W} {S : Type} {val : S → Option Value} {post : S → Prop} {B : S → va_W} (hy : plainName y.cls = true) (hn : (lg_sl av).length ≤ n)
    (body : ∀ (p : Program) (e : Env) (s : State) (m : MethodId) (below : List Frame) (meth : Method) (c : Code) (A : Nat → Prop) (ls : Array Slot), p.tables.exec = Jvm.exec → c.code = b → meth.sig.returnType = ret → (∀ w ∈ TB, w.before av.toArray s = true) → c.maxLocals = n → s.vm.findClass y.cls = some m.cls → meth.locks = false →
      c.exceptionTable.toList = tableOf hh →
      va_K D k_cl (k_tys E) s → va_P D k_cl ws s.heap → va_D A ws → (∀ q, s.heap.size ≤ q → A q) → va_S A s.heap s.heap [] → k_Z sa A s s.heap → lv_has ls n (lv_args 0 av) →
      W p l e { frames := fr, cells := mc, slots := ms, locals := lo } s m av.toArray below meth c s.heap [] 0 0 (MQ below (k_QM D A val post B) av.toArray s mc ms A) (F0 m 0 ls [])) : KM l y (.codeWith y b n ret hh) fr lo mc ms D E sa av ws val post B := by
  intro sz
  refine va_MetW (cc := b) (maxL := n) (ret := ret) (hh := hh) hy rfl ?_
  intro p e s m args below meth c s₁ BB hml hv
  obtain ⟨rfl, hsz, hP, hK, hD0, hZ⟩ := hv
  subst hsz
  have hts := atoms_spec (ws := .codeWith y b n ret hh :: TB) BB.pre
  rw [lg_entry_eq]
  refine body p e s m below meth c (va_A ws s.heap.size) _ BB.exec BB.bytes BB.returns (fun w h => hts w (List.mem_cons_of_mem _ h)) hml (findClass_of_methodNamed BB.named) BB.notSynchronized ?_ hK hP hD0.self (fun q h => Or.inr h) va_S.rf hZ (lv_entry av hn)
  exact vx_table (x := y) BB (hts _ List.mem_cons_self)
theorem KT.of {l : Launch} {y : MethodName} {b : ByteArray} {n : Nat} {ret : Option FieldType} {fr lo : Nat} {D : va_G} {E : Nat → ClassId} {sa : Nat → Nat} {av : List Value} {ws : va_W} {cls : String} (hy : plainName y.cls = true) (hn : (lg_sl av).length ≤ n)
    (body : ∀ (p : Program) (e : Env) (s : State) (m : MethodId) (below : List Frame) (meth : Method) (c : Code) (ls : Array Slot), p.tables.exec = Jvm.exec → c.code = b → meth.sig.returnType = ret → (∀ w ∈ TB, w.before av.toArray s = true) → c.maxLocals = n → s.vm.findClass y.cls = some m.cls → meth.locks = false →
      (∀ x ∈ c.exceptionTable.toList, False) → va_K D k_cl (k_tys E) s → va_P D k_cl ws s.heap → k_Z sa (fun q => s.heap.size ≤ q) s s.heap → lv_has ls n (lv_args 0 av) →
      W p l e { frames := fr, cells := 1, slots := 6, locals := lo } s m av.toArray below meth c s.heap [] 0 0 (vx_MQ below k_QF (k_XT cls s.heap.size) av.toArray s 1 6 (fun q => s.heap.size ≤ q)) (F0 m 0 ls [])) : KT l y b n ret fr lo D E sa av ws cls := by
  intro sz
  refine vx_ofW (cc := b) (maxL := n) (ret := ret) hy rfl ?_
  intro p e s m args below meth c s₁ BB hml htab hv
  obtain ⟨rfl, hsz, hP, hK, hZ⟩ := hv
  subst hsz
  have hts := atoms_spec (ws := .code y b n ret :: TB) BB.pre
  rw [lg_entry_eq]
  exact body p e s m below meth c _ BB.exec BB.bytes BB.returns (fun w h => hts w (List.mem_cons_of_mem _ h)) hml (findClass_of_methodNamed BB.named) BB.notSynchronized htab hK hP hZ (lv_entry av hn)
end KL
