-- Arrays.fill(int[], int): some row of the same length stands there behind it
set_option maxRecDepth 20000 in
set_option maxHeartbeats 2000000 in
theorem fill_loop {p : Program} {l : Launch} {e : Env} {R : Room} {s : State} {m : MethodId} {args : Array Value} {below : List Frame} {meth : Method} {c : Code} {D : va_G} {E : Nat → ClassId} {A : Nat → Prop} {a n : Nat} {v : Int32} (hn : n < 2 ^ 31)
    (hx : p.tables.exec = Jvm.exec) (hb : c.code = cJ7_fill_53178) (hr : meth.sig.returnType = none) (hlocks : meth.locks = false) (hK : va_K D k_cl (k_tys E) s) :
    ∀ (k i : Nat) (f : Nat → Int32) (H : Heap) (locs : List Loc) (ls : Array Slot), n - i = k → i ≤ n → va_P D k_cl [(a, .inl (E 0, n, .inl f))] H → va_D A [(a, .inl (E 0, n, .inl f))] → va_S A s.heap H locs → lv_has ls 4 [(2, .int (nI i)), (3, .int (nI n)), (0, .ref a), (1, .int v)] →
      W p l e R s m args below meth c H locs 0 0 (MQ below (k_QM D A (fun _ : Nat → Int32 => none) (fun _ => True) (fun u => [(a, .inl (E 0, n, .inl u))])) args s 0 0 A) (F0 m 5 ls []) := by
  intro k
  induction k with
  | zero =>
    intro i f H locs ls hk hi hP hD hS hl
    have e1 : i = n := by omega
    subst e1
    refine lv_iload_n hx hb dJ7_fill_53178_5 rfl (lv_at hl 0 rfl) ?_
    refine lv_iload_n hx hb dJ7_fill_53178_6 rfl (lv_at hl 1 rfl) ?_
    refine lv_icmp_ge (tgt := 20) hx hb dJ7_fill_53178_7 (by decide) (fun _ => ?_) (fun h9 => absurd (Int32.le_refl _) h9)
    exact m_v f hx hb hr hlocks rfl trivial hP hD hS (by decide) (by decide) dJ7_fill_53178_20
  | succ k ih =>
    intro i f H locs ls hk hi hP hD hS hl
    have hlt : i < n := by omega
    refine lv_iload_n hx hb dJ7_fill_53178_5 rfl (lv_at hl 0 rfl) ?_
    refine lv_iload_n hx hb dJ7_fill_53178_6 rfl (lv_at hl 1 rfl) ?_
    refine lv_icmp_ge (tgt := 20) hx hb dJ7_fill_53178_7 (by decide) (fun h9 => absurd h9 (nI_ge hlt hn)) (fun _ => ?_)
    refine lv_aload_n hx hb dJ7_fill_53178_10 rfl (lv_at hl 2 rfl) ?_
    refine lv_iload_n hx hb dJ7_fill_53178_11 rfl (lv_at hl 0 rfl) ?_
    refine lv_iload_n hx hb dJ7_fill_53178_12 rfl (lv_at hl 3 rfl) ?_
    refine va_iast hx hb hK hP hD hS 0 0 rfl rfl (vp_in_nI hlt hn) dJ7_fill_53178_13 (fun H locs hP hD hS => ?_)
    refine lv_iinc (v := nI (i + 1)) (lv' := [(2, .int (nI (i + 1))), (3, .int (nI n)), (0, .ref a), (1, .int v)]) hx hb dJ7_fill_53178_14 hl (k := 0) rfl (nI_1 i) (by decide) rfl (fun ls hl => ?_)
    refine lv_goto (tgt := 5) hx hb dJ7_fill_53178_17 (by decide) ?_
    exact ih (i + 1) _ H locs ls (by omega) (by omega) hP hD hS hl
set_option maxRecDepth 20000 in
set_option maxHeartbeats 2000000 in
theorem c_fill (l : Launch) (D : va_G) (E : Nat → ClassId) (sa : Nat → Nat) (a n : Nat) (f : Nat → Int32) (v : Int32) (hn : n < 2 ^ 31) : KM l yJ7_fill_53178 (.code yJ7_fill_53178 cJ7_fill_53178 4 none) 12 400 0 0 D E sa [.ref a, .int v] [(a, .inl (E 0, n, .inl f))] (S := Nat → Int32) (fun _ => none) (fun _ => True) (fun u => [(a, .inl (E 0, n, .inl u))]) := by
  refine KM.of (by decide) (Nat.le_of_ble_eq_true rfl) ?_
  intro p e s m below meth c A ls hx hb hr hts hml hown hlocks hnm hK hP hD hA hS hZ hl
  have hl : lv_has ls 4 [(0, .ref a), (1, .int v)] := hl
  refine lv_iconst (v := 0) hx hb dJ7_fill_53178_0 (by decide) ?_
  refine lv_istore_n (lv' := [(2, .int 0), (0, .ref a), (1, .int v)]) hx hb dJ7_fill_53178_1 rfl hl (by decide) rfl (fun ls hl => ?_)
  refine lv_aload_n hx hb dJ7_fill_53178_2 rfl (lv_at hl 1 rfl) ?_
  refine va_alen (v := nI n) hx hb hK hP 0 0 rfl rfl rfl dJ7_fill_53178_3 ?_
  refine lv_istore_n (lv' := [(3, .int (nI n)), (2, .int 0), (0, .ref a), (1, .int v)]) hx hb dJ7_fill_53178_4 rfl hl (by decide) rfl (fun ls hl => ?_)
  exact fill_loop hn hx hb hr hlocks hK n 0 f _ _ ls (by omega) (by omega) hP hD hS (lv_sub hl [1, 0, 2, 3] rfl)

