/-- the reference's size of a long -/
def z_abs (n : Int64) : Int64 := if n < 0 then -n else n
theorem z_absP {n : Int64} (h : 0 ≤ lg_cmp n 0) : n = z_abs n := by
  have h1 := (lg_cmp_ge n 0).mp h
  unfold z_abs
  rw [if_neg (Int64.not_lt.mpr h1)]
theorem z_absN {n : Int64} (h : ¬ 0 ≤ lg_cmp n 0) : -n = z_abs n := by
  have h1 : ¬ (0 : Int64) ≤ n := fun q => h ((lg_cmp_ge n 0).mpr q)
  unfold z_abs
  rw [if_pos (Int64.not_le.mp h1)]
theorem z_absI (x : Int32) : (z_abs x.toInt64).toInt = (x.toInt.natAbs : Int) := by
  have h1 : x.toInt64.toInt = x.toInt := Int32.toInt_toInt64 x
  have b1 := Int32.le_toInt x
  have b2 := Int32.toInt_lt x
  unfold z_abs
  by_cases h : x.toInt64 < 0
  · rw [if_pos h]
    have h2 : x.toInt < 0 := by have := Int64.lt_iff_toInt_lt.mp h; rw [h1] at this; exact this
    rw [Int64.toInt_neg, h1, Int.bmod_eq_of_le (by omega) (by omega)]
    omega
  · rw [if_neg h, h1]
    have h2 : ¬ x.toInt < 0 := fun q => h (Int64.lt_iff_toInt_lt.mpr (by rw [h1]; exact q))
    omega
theorem z_win (x : Int32) : ((-1000000 : Int32) ≤ x ∧ x ≤ 1000000) ↔ (x.toInt.natAbs : Int) ≤ 1000000 := by
  rw [Int32.le_iff_toInt_le, Int32.le_iff_toInt_le]
  have e1 : (-1000000 : Int32).toInt = -1000000 := by decide
  have e2 : (1000000 : Int32).toInt = 1000000 := by decide
  rw [e1, e2]
  omega
theorem z_in {x : Int32} (h : (-1000000 : Int32) ≤ x ∧ x ≤ 1000000) : z_abs x.toInt64 ≤ 1000000 := by
  rw [Int64.le_iff_toInt_le, z_absI]
  have e2 : (1000000 : Int64).toInt = 1000000 := by decide
  rw [e2]
  exact (z_win x).mp h
theorem z_out {x : Int32} (h : ¬ ((-1000000 : Int32) ≤ x ∧ x ≤ 1000000)) : ¬ z_abs x.toInt64 ≤ 1000000 := by
  intro q
  rw [Int64.le_iff_toInt_le, z_absI] at q
  have e2 : (1000000 : Int64).toInt = 1000000 := by decide
  rw [e2] at q
  exact h ((z_win x).mpr q)
theorem z_cle {x : Int32} (h : (-1000000 : Int32) ≤ x ∧ x ≤ 1000000) : lg_cmp (z_abs x.toInt64) 1000000 ≤ 0 := (lg_cmp_le _ _).mpr (z_in h)
theorem z_cgt {x : Int32} (h : ¬ ((-1000000 : Int32) ≤ x ∧ x ≤ 1000000)) : 0 < lg_cmp (z_abs x.toInt64) 1000000 := (lg_cmp_gt _ _).mpr (Int64.not_le.mp (z_out h))
set_option maxRecDepth 20000 in
set_option maxHeartbeats 2000000 in
theorem m_thrown (l : Launch) (D : va_G) (E : Nat → ClassId) (a : Nat) (fs : List Value) (t : Int32) (h : fs[0]? = some (.int t)) : KR l yX10_thrown cX10_thrown 1 (some .int) 12 400 D E [.ref a] [(a, .inr (10, fs))] (some (.int t)) := by
  refine KR.of (by decide) (Nat.le_of_ble_eq_true rfl) ?_
  intro p e s m below meth c ls hx hb hr hts hml hown hlocks hK hP hl
  have hown : s.vm.findClass RX10 = some m.cls := hown
  have hl : lv_has ls 1 [(0, .ref a)] := hl
  refine lv_aload_n hx hb dX10_thrown_0 rfl (lv_at hl 0 rfl) ?_
  refine va_get (D := D) (ci := 10) (v := .int t) (C := RX10) (T := TX10) (N := 81) hx hb hts inX10 hown hK hP 0 rfl rfl 0 (by decide) (hts _ b_1314) (fun _ h9 => h9) h dX10_thrown_1 ?_
  exact r_i hx hb hr hlocks rfl dX10_thrown_4
set_option maxRecDepth 20000 in
set_option maxHeartbeats 2000000 in
theorem m_size (l : Launch) (D : va_G) (E : Nat → ClassId) (n : Int64) : KR l yX10_size cX10_size 2 (some .long) 12 400 D E [.long n] [] (some (.long (z_abs n))) := by
  refine KR.of (by decide) (Nat.le_of_ble_eq_true rfl) ?_
  intro p e s m below meth c ls hx hb hr hts hml hown hlocks hK hP hl
  have hown : s.vm.findClass RX10 = some m.cls := hown
  have hl : lv_has ls 2 [(0, .long n)] := hl
  refine lv_lload_n hx hb dX10_size_0 rfl (lv_at hl 0 rfl) ?_
  refine lv_lconst (v := 0) hx hb dX10_size_1 (by decide) ?_
  refine W.lcmp hx hb dX10_size_2 ?_
  refine lv_if_ge (tgt := 11) hx hb dX10_size_3 (by decide) (fun c1 => ?_) (fun c1 => ?_)
  · refine lv_lload_n hx hb dX10_size_11 rfl (lv_at hl 0 rfl) ?_
    refine k_tl (y := z_abs n) (z_absP c1) ?_
    exact r_l hx hb hr hlocks rfl dX10_size_12
  · refine lv_lload_n hx hb dX10_size_6 rfl (lv_at hl 0 rfl) ?_
    refine lv_lneg hx hb dX10_size_7 ?_
    refine lv_goto (tgt := 12) hx hb dX10_size_8 (by decide) ?_
    refine k_tl (y := z_abs n) (z_absN c1) ?_
    exact r_l hx hb hr hlocks rfl dX10_size_12
set_option maxRecDepth 20000 in
set_option maxHeartbeats 2000000 in
theorem m_isNode (l : Launch) (D : va_G) (E : Nat → ClassId) (a : Nat) (ad : Nat → Nat) (v : Int32) : KR l yX10_isNode cX10_isNode 2 (some .boolean) 12 400 D E [.ref a, .int v] [(a, .inr (10, (mfs ad)))] (some (.int 0)) := by
  refine KR.of (by decide) (Nat.le_of_ble_eq_true rfl) ?_
  intro p e s m below meth c ls hx hb hr hts hml hown hlocks hK hP hl
  have hown : s.vm.findClass RX10 = some m.cls := hown
  have hl : lv_has ls 2 [(0, .ref a), (1, .int v)] := hl
  refine lv_iload_n hx hb dX10_isNode_0 rfl (lv_at hl 1 rfl) ?_
  refine lv_if_lt (tgt := 16) hx hb dX10_isNode_1 (by decide) (fun c1 => ?_) (fun c1 => ?_)
  · refine lv_iconst (v := 0) hx hb dX10_isNode_16 (by decide) ?_
    exact r_z hx hb hr hlocks rfl rfl dX10_isNode_17
  · refine lv_iload_n hx hb dX10_isNode_4 rfl (lv_at hl 1 rfl) ?_
    refine lv_aload_n hx hb dX10_isNode_5 rfl (lv_at hl 0 rfl) ?_
    refine va_get (D := D) (ci := 10) (v := .int 0) (C := RX10) (T := TX10) (N := 81) hx hb hts inX10 hown hK hP 0 rfl rfl 1 (by decide) (hts _ b_1315) (fun _ h9 => h9) rfl dX10_isNode_6 ?_
    refine lv_icmp_ge (tgt := 16) hx hb dX10_isNode_9 (by decide) (fun _ => ?_) (fun h9 => absurd (Int32.not_lt.mp c1) h9)
    refine lv_iconst (v := 0) hx hb dX10_isNode_16 (by decide) ?_
    exact r_z hx hb hr hlocks rfl rfl dX10_isNode_17
set_option maxRecDepth 20000 in
set_option maxHeartbeats 2000000 in
theorem m_isArc (l : Launch) (D : va_G) (E : Nat → ClassId) (a : Nat) (ad : Nat → Nat) (v : Int32) : KR l yX10_isArc cX10_isArc 2 (some .boolean) 12 400 D E [.ref a, .int v] [(a, .inr (10, (mfs ad)))] (some (.int 0)) := by
  refine KR.of (by decide) (Nat.le_of_ble_eq_true rfl) ?_
  intro p e s m below meth c ls hx hb hr hts hml hown hlocks hK hP hl
  have hown : s.vm.findClass RX10 = some m.cls := hown
  have hl : lv_has ls 2 [(0, .ref a), (1, .int v)] := hl
  refine lv_iload_n hx hb dX10_isArc_0 rfl (lv_at hl 1 rfl) ?_
  refine lv_if_lt (tgt := 16) hx hb dX10_isArc_1 (by decide) (fun c1 => ?_) (fun c1 => ?_)
  · refine lv_iconst (v := 0) hx hb dX10_isArc_16 (by decide) ?_
    exact r_z hx hb hr hlocks rfl rfl dX10_isArc_17
  · refine lv_iload_n hx hb dX10_isArc_4 rfl (lv_at hl 1 rfl) ?_
    refine lv_aload_n hx hb dX10_isArc_5 rfl (lv_at hl 0 rfl) ?_
    refine va_get (D := D) (ci := 10) (v := .int 0) (C := RX10) (T := TX10) (N := 81) hx hb hts inX10 hown hK hP 0 rfl rfl 5 (by decide) (hts _ b_1319) (fun _ h9 => h9) rfl dX10_isArc_6 ?_
    refine lv_icmp_ge (tgt := 16) hx hb dX10_isArc_9 (by decide) (fun _ => ?_) (fun h9 => absurd (Int32.not_lt.mp c1) h9)
    refine lv_iconst (v := 0) hx hb dX10_isArc_16 (by decide) ?_
    exact r_z hx hb hr hlocks rfl rfl dX10_isArc_17
set_option maxRecDepth 20000 in
set_option maxHeartbeats 2000000 in
theorem m_isSettled (l : Launch) (D : va_G) (E : Nat → ClassId) (a : Nat) (ad : Nat → Nat) (v : Int32) : KR l yX10_isSettled cX10_isSettled 2 (some .boolean) 12 400 D E [.ref a, .int v] [(a, .inr (10, (mfs ad)))] (some (.int 0)) := by
  refine KR.of (by decide) (Nat.le_of_ble_eq_true rfl) ?_
  intro p e s m below meth c ls hx hb hr hts hml hown hlocks hK hP hl
  have hown : s.vm.findClass RX10 = some m.cls := hown
  have hl : lv_has ls 2 [(0, .ref a), (1, .int v)] := hl
  refine lv_iload_n hx hb dX10_isSettled_0 rfl (lv_at hl 1 rfl) ?_
  refine lv_if_lt (tgt := 16) hx hb dX10_isSettled_1 (by decide) (fun c1 => ?_) (fun c1 => ?_)
  · refine lv_iconst (v := 0) hx hb dX10_isSettled_16 (by decide) ?_
    exact r_z hx hb hr hlocks rfl rfl dX10_isSettled_17
  · refine lv_iload_n hx hb dX10_isSettled_4 rfl (lv_at hl 1 rfl) ?_
    refine lv_aload_n hx hb dX10_isSettled_5 rfl (lv_at hl 0 rfl) ?_
    refine va_get (D := D) (ci := 10) (v := .int 0) (C := RX10) (T := TX10) (N := 81) hx hb hts inX10 hown hK hP 0 rfl rfl 34 (by decide) (hts _ b_1348) (fun _ h9 => h9) rfl dX10_isSettled_6 ?_
    refine lv_icmp_ge (tgt := 16) hx hb dX10_isSettled_9 (by decide) (fun _ => ?_) (fun h9 => absurd (Int32.not_lt.mp c1) h9)
    refine lv_iconst (v := 0) hx hb dX10_isSettled_16 (by decide) ?_
    exact r_z hx hb hr hlocks rfl rfl dX10_isSettled_17
set_option maxRecDepth 20000 in
set_option maxHeartbeats 2000000 in
theorem m_together (l : Launch) (D : va_G) (E : Nat → ClassId) (a : Nat) (ad : Nat → Nat) : KR l yX10_together cX10_together 4 (some .long) 12 400 D E [.ref a] [(a, .inr (10, (mfs ad)))] (some (.long 0)) := by
  refine KR.of (by decide) (Nat.le_of_ble_eq_true rfl) ?_
  intro p e s m below meth c ls hx hb hr hts hml hown hlocks hK hP hl
  have hown : s.vm.findClass RX10 = some m.cls := hown
  have hl : lv_has ls 4 [(0, .ref a)] := hl
  refine lv_lconst (v := 0) hx hb dX10_together_0 (by decide) ?_
  refine lv_lstore_n (lv' := [(1, .long 0), (0, .ref a)]) hx hb dX10_together_1 rfl hl (by decide) rfl (fun ls hl => ?_)
  refine lv_iconst (v := 0) hx hb dX10_together_2 (by decide) ?_
  refine lv_istore_n (lv' := [(3, .int 0), (1, .long 0), (0, .ref a)]) hx hb dX10_together_3 rfl hl (by decide) rfl (fun ls hl => ?_)
  refine lv_iload_n hx hb dX10_together_4 rfl (lv_at hl 0 rfl) ?_
  refine lv_aload_n hx hb dX10_together_5 rfl (lv_at hl 2 rfl) ?_
  refine va_get (D := D) (ci := 10) (v := .int 0) (C := RX10) (T := TX10) (N := 81) hx hb hts inX10 hown hK hP 0 rfl rfl 5 (by decide) (hts _ b_1319) (fun _ h9 => h9) rfl dX10_together_6 ?_
  refine lv_icmp_ge (tgt := 27) hx hb dX10_together_9 (by decide) (fun _ => ?_) (fun h9 => absurd (by decide) h9)
  refine lv_iconst (v := 0) hx hb dX10_together_27 (by decide) ?_
  refine lv_istore_n (lv' := [(3, .int 0), (1, .long 0), (0, .ref a)]) hx hb dX10_together_28 rfl hl (by decide) rfl (fun ls hl => ?_)
  refine lv_iload_n hx hb dX10_together_29 rfl (lv_at hl 0 rfl) ?_
  refine lv_aload_n hx hb dX10_together_30 rfl (lv_at hl 2 rfl) ?_
  refine va_get (D := D) (ci := 10) (v := .int 0) (C := RX10) (T := TX10) (N := 81) hx hb hts inX10 hown hK hP 0 rfl rfl 1 (by decide) (hts _ b_1315) (fun _ h9 => h9) rfl dX10_together_31 ?_
  refine lv_icmp_ge (tgt := 55) hx hb dX10_together_34 (by decide) (fun _ => ?_) (fun h9 => absurd (by decide) h9)
  refine lv_lload_n hx hb dX10_together_55 rfl (lv_at hl 1 rfl) ?_
  exact r_l hx hb hr hlocks rfl dX10_together_56
set_option maxRecDepth 20000 in
set_option maxHeartbeats 2000000 in
theorem m_inconsistentArc (l : Launch) (D : va_G) (E : Nat → ClassId) (a : Nat) (ad : Nat → Nat) : KR l yX10_inconsistentArc cX10_inconsistentArc 2 (some .int) 12 400 D E [.ref a] [(a, .inr (10, (mfs ad)))] (some (.int (-1))) := by
  refine KR.of (by decide) (Nat.le_of_ble_eq_true rfl) ?_
  intro p e s m below meth c ls hx hb hr hts hml hown hlocks hK hP hl
  have hown : s.vm.findClass RX10 = some m.cls := hown
  have hl : lv_has ls 2 [(0, .ref a)] := hl
  refine lv_iconst (v := 0) hx hb dX10_inconsistentArc_0 (by decide) ?_
  refine lv_istore_n (lv' := [(1, .int 0), (0, .ref a)]) hx hb dX10_inconsistentArc_1 rfl hl (by decide) rfl (fun ls hl => ?_)
  refine lv_iload_n hx hb dX10_inconsistentArc_2 rfl (lv_at hl 0 rfl) ?_
  refine lv_aload_n hx hb dX10_inconsistentArc_3 rfl (lv_at hl 1 rfl) ?_
  refine va_get (D := D) (ci := 10) (v := .int 0) (C := RX10) (T := TX10) (N := 81) hx hb hts inX10 hown hK hP 0 rfl rfl 5 (by decide) (hts _ b_1319) (fun _ h9 => h9) rfl dX10_inconsistentArc_4 ?_
  refine lv_icmp_ge (tgt := 51) hx hb dX10_inconsistentArc_7 (by decide) (fun _ => ?_) (fun h9 => absurd (by decide) h9)
  refine lv_iconst (v := -1) hx hb dX10_inconsistentArc_51 (by decide) ?_
  exact r_i hx hb hr hlocks rfl dX10_inconsistentArc_52
set_option maxRecDepth 20000 in
set_option maxHeartbeats 2000000 in
theorem m_edgeAt (l : Launch) (D : va_G) (E : Nat → ClassId) (a : Nat) (ad : Nat → Nat) (v : Int32) (d : Int32) (i : Int32) : KR l yX10_edgeAt cX10_edgeAt 7 (some .int) 12 400 D E [.ref a, .int v, .int d, .int i] [(a, .inr (10, (mfs ad)))] (some (.int (-1))) := by
  refine KR.of (by decide) (Nat.le_of_ble_eq_true rfl) ?_
  intro p e s m below meth c ls hx hb hr hts hml hown hlocks hK hP hl
  have hown : s.vm.findClass RX10 = some m.cls := hown
  have hl : lv_has ls 7 [(0, .ref a), (1, .int v), (2, .int d), (3, .int i)] := hl
  refine lv_aload_n hx hb dX10_edgeAt_0 rfl (lv_at hl 0 rfl) ?_
  refine va_get (D := D) (ci := 10) (v := .int 0) (C := RX10) (T := TX10) (N := 81) hx hb hts inX10 hown hK hP 0 rfl rfl 45 (by decide) (hts _ b_1359) (fun _ h9 => h9) rfl dX10_edgeAt_1 ?_
  refine lv_if_eq (tgt := 19) hx hb dX10_edgeAt_4 (by decide) (fun _ => ?_) (fun h9 => absurd (by decide) h9)
  refine lv_iconst (v := -1) hx hb dX10_edgeAt_19 (by decide) ?_
  exact r_i hx hb hr hlocks rfl dX10_edgeAt_20
set_option maxRecDepth 20000 in
set_option maxHeartbeats 2000000 in
theorem m_throwsNow (l : Launch) (D : va_G) (E : Nat → ClassId) (sa : Nat → Nat) (a : Nat) (ad : Nat → Nat) : KM l yX10_throwsNow (.code yX10_throwsNow cX10_throwsNow 2 (some .int)) 12 400 0 0 D E sa [.ref a, .int 1] [(a, .inr (10, (mfs ad)))] (S := Unit) (fun _ => some (.int 0)) (fun _ => True) (fun _ => [(a, .inr (10, ((mfs ad).set 0 (.int 1))))]) := by
  refine KM.of (by decide) (Nat.le_of_ble_eq_true rfl) ?_
  intro p e s m below meth c A ls hx hb hr hts hml hown hlocks hnm hK hP hD hA hS hZ hl
  have hown : s.vm.findClass RX10 = some m.cls := hown
  have hl : lv_has ls 2 [(0, .ref a), (1, .int 1)] := hl
  refine lv_aload_n hx hb dX10_throwsNow_0 rfl (lv_at hl 0 rfl) ?_
  refine lv_iload_n hx hb dX10_throwsNow_1 rfl (lv_at hl 1 rfl) ?_
  refine va_put (D := D) (ci := 10) (v := .int 1) (ty := .int) (C := RX10) (T := TX10) (N := 81) hx hb hts inX10 tyX10 tyX10_ok nmX10 hown hK hP hD hS 0 rfl rfl 0 (by decide) (hts _ b_1314) (fun _ h9 => h9) rfl (by decide +kernel) rfl rfl (Nat.le_of_ble_eq_true rfl) dX10_throwsNow_2 (fun H locs hP hD hS => ?_)
  have hP : va_P D k_cl [(a, .inr (10, ((mfs ad).set 0 (.int 1))))] H := hP
  have hD : va_D A [(a, .inr (10, ((mfs ad).set 0 (.int 1))))] := hD
  refine lv_iconst (v := 0) hx hb dX10_throwsNow_5 (by decide) ?_
  exact m_i () hx hb hr hlocks rfl trivial (hP.sub [0] rfl) (hD.sub [0] (by decide) rfl) hS (by decide) (by decide) dX10_throwsNow_6
set_option maxRecDepth 20000 in
set_option maxHeartbeats 2000000 in
theorem m_changes_0 (l : Launch) (D : va_G) (E : Nat → ClassId) (sa : Nat → Nat) (a : Nat) (ad : Nat → Nat) : KM l yX10_changes (.code yX10_changes cX10_changes 1 none) 12 400 0 0 D E sa [.ref a] [(a, .inr (10, (mfs ad)))] (S := Unit) (fun _ => none) (fun _ => True) (fun _ => [(a, .inr (10, (mfs ad)))]) := by
  refine KM.of (by decide) (Nat.le_of_ble_eq_true rfl) ?_
  intro p e s m below meth c A ls hx hb hr hts hml hown hlocks hnm hK hP hD hA hS hZ hl
  have hown : s.vm.findClass RX10 = some m.cls := hown
  have hl : lv_has ls 1 [(0, .ref a)] := hl
  refine lv_aload_n hx hb dX10_changes_0 rfl (lv_at hl 0 rfl) ?_
  refine lv_iconst (v := 0) hx hb dX10_changes_1 (by decide) ?_
  refine va_put (D := D) (ci := 10) (v := .int 0) (ty := .boolean) (C := RX10) (T := TX10) (N := 81) hx hb hts inX10 tyX10 tyX10_ok nmX10 hown hK hP hD hS 0 rfl rfl 45 (by decide) (hts _ b_1359) (fun _ h9 => h9) rfl (by decide +kernel) rfl rfl (Nat.le_of_ble_eq_true rfl) dX10_changes_2 (fun H locs hP hD hS => ?_)
  have hP : va_P D k_cl [(a, .inr (10, (mfs ad)))] H := hP
  have hD : va_D A [(a, .inr (10, (mfs ad)))] := hD
  refine lv_aload_n hx hb dX10_changes_5 rfl (lv_at hl 0 rfl) ?_
  refine lv_iconst (v := 0) hx hb dX10_changes_6 (by decide) ?_
  refine va_put (D := D) (ci := 10) (v := .int 0) (ty := .int) (C := RX10) (T := TX10) (N := 81) hx hb hts inX10 tyX10 tyX10_ok nmX10 hown hK hP hD hS 0 rfl rfl 34 (by decide) (hts _ b_1348) (fun _ h9 => h9) rfl (by decide +kernel) rfl rfl (Nat.le_of_ble_eq_true rfl) dX10_changes_7 (fun H locs hP hD hS => ?_)
  have hP : va_P D k_cl [(a, .inr (10, (mfs ad)))] H := hP
  have hD : va_D A [(a, .inr (10, (mfs ad)))] := hD
  refine lv_aload_n hx hb dX10_changes_10 rfl (lv_at hl 0 rfl) ?_
  refine lv_iconst (v := 0) hx hb dX10_changes_11 (by decide) ?_
  refine va_put (D := D) (ci := 10) (v := .int 0) (ty := .boolean) (C := RX10) (T := TX10) (N := 81) hx hb hts inX10 tyX10 tyX10_ok nmX10 hown hK hP hD hS 0 rfl rfl 60 (by decide) (hts _ b_1374) (fun _ h9 => h9) rfl (by decide +kernel) rfl rfl (Nat.le_of_ble_eq_true rfl) dX10_changes_12 (fun H locs hP hD hS => ?_)
  have hP : va_P D k_cl [(a, .inr (10, (mfs ad)))] H := hP
  have hD : va_D A [(a, .inr (10, (mfs ad)))] := hD
  exact m_v () hx hb hr hlocks rfl trivial (hP.sub [0] rfl) (hD.sub [0] (by decide) rfl) hS (by decide) (by decide) dX10_changes_15
set_option maxRecDepth 20000 in
set_option maxHeartbeats 2000000 in
theorem m_changes_1 (l : Launch) (D : va_G) (E : Nat → ClassId) (sa : Nat → Nat) (a : Nat) (ad : Nat → Nat) : KM l yX10_changes (.code yX10_changes cX10_changes 1 none) 12 400 0 0 D E sa [.ref a] [(a, .inr (10, ((mfs ad).set 1 (.int 1))))] (S := Unit) (fun _ => none) (fun _ => True) (fun _ => [(a, .inr (10, ((mfs ad).set 1 (.int 1))))]) := by
  refine KM.of (by decide) (Nat.le_of_ble_eq_true rfl) ?_
  intro p e s m below meth c A ls hx hb hr hts hml hown hlocks hnm hK hP hD hA hS hZ hl
  have hown : s.vm.findClass RX10 = some m.cls := hown
  have hl : lv_has ls 1 [(0, .ref a)] := hl
  refine lv_aload_n hx hb dX10_changes_0 rfl (lv_at hl 0 rfl) ?_
  refine lv_iconst (v := 0) hx hb dX10_changes_1 (by decide) ?_
  refine va_put (D := D) (ci := 10) (v := .int 0) (ty := .boolean) (C := RX10) (T := TX10) (N := 81) hx hb hts inX10 tyX10 tyX10_ok nmX10 hown hK hP hD hS 0 rfl rfl 45 (by decide) (hts _ b_1359) (fun _ h9 => h9) rfl (by decide +kernel) rfl rfl (Nat.le_of_ble_eq_true rfl) dX10_changes_2 (fun H locs hP hD hS => ?_)
  have hP : va_P D k_cl [(a, .inr (10, ((mfs ad).set 1 (.int 1))))] H := hP
  have hD : va_D A [(a, .inr (10, ((mfs ad).set 1 (.int 1))))] := hD
  refine lv_aload_n hx hb dX10_changes_5 rfl (lv_at hl 0 rfl) ?_
  refine lv_iconst (v := 0) hx hb dX10_changes_6 (by decide) ?_
  refine va_put (D := D) (ci := 10) (v := .int 0) (ty := .int) (C := RX10) (T := TX10) (N := 81) hx hb hts inX10 tyX10 tyX10_ok nmX10 hown hK hP hD hS 0 rfl rfl 34 (by decide) (hts _ b_1348) (fun _ h9 => h9) rfl (by decide +kernel) rfl rfl (Nat.le_of_ble_eq_true rfl) dX10_changes_7 (fun H locs hP hD hS => ?_)
  have hP : va_P D k_cl [(a, .inr (10, ((mfs ad).set 1 (.int 1))))] H := hP
  have hD : va_D A [(a, .inr (10, ((mfs ad).set 1 (.int 1))))] := hD
  refine lv_aload_n hx hb dX10_changes_10 rfl (lv_at hl 0 rfl) ?_
  refine lv_iconst (v := 0) hx hb dX10_changes_11 (by decide) ?_
  refine va_put (D := D) (ci := 10) (v := .int 0) (ty := .boolean) (C := RX10) (T := TX10) (N := 81) hx hb hts inX10 tyX10 tyX10_ok nmX10 hown hK hP hD hS 0 rfl rfl 60 (by decide) (hts _ b_1374) (fun _ h9 => h9) rfl (by decide +kernel) rfl rfl (Nat.le_of_ble_eq_true rfl) dX10_changes_12 (fun H locs hP hD hS => ?_)
  have hP : va_P D k_cl [(a, .inr (10, ((mfs ad).set 1 (.int 1))))] H := hP
  have hD : va_D A [(a, .inr (10, ((mfs ad).set 1 (.int 1))))] := hD
  exact m_v () hx hb hr hlocks rfl trivial (hP.sub [0] rfl) (hD.sub [0] (by decide) rfl) hS (by decide) (by decide) dX10_changes_15
set_option maxRecDepth 20000 in
set_option maxHeartbeats 2000000 in
theorem m_four_0 (l : Launch) (D : va_G) (E : Nat → ClassId) (sa : Nat → Nat) (a : Nat) (ad : Nat → Nat) (f : Nat → Int32) (v : Int32) : KM l yX10_four (.code yX10_four cX10_four 3 none) 12 400 0 0 D E sa [.ref a, .int v] [(a, .inr (10, (mfs ad))), ((ad 15), .inl (E 2, 2000, .inl f))] (S := (Nat → Int32)) (fun u => none) (fun _ => True) (fun u => [(a, .inr (10, ((mfs ad).set 16 (.int 4)))), ((ad 15), .inl (E 2, 2000, .inl u))]) := by
  refine KM.of (by decide) (Nat.le_of_ble_eq_true rfl) ?_
  intro p e s m below meth c A ls hx hb hr hts hml hown hlocks hnm hK hP hD hA hS hZ hl
  have hown : s.vm.findClass RX10 = some m.cls := hown
  have hl : lv_has ls 3 [(0, .ref a), (1, .int v)] := hl
  refine lv_bipush (v := 24) hx hb dX10_four_0 (by decide) ?_
  refine lv_istore_n (lv' := [(2, .int 24), (0, .ref a), (1, .int v)]) hx hb dX10_four_2 rfl hl (by decide) rfl (fun ls hl => ?_)
  refine lv_iload_n hx hb dX10_four_3 rfl (lv_at hl 0 rfl) ?_
  refine lv_if_lt (tgt := 36) hx hb dX10_four_4 (by decide) (fun h9 => absurd h9 (by decide)) (fun _ => ?_)
  refine lv_aload_n hx hb dX10_four_7 rfl (lv_at hl 1 rfl) ?_
  refine va_get (D := D) (ci := 10) (v := .ref (ad 15)) (C := RX10) (T := TX10) (N := 81) hx hb hts inX10 hown hK hP 0 rfl rfl 15 (by decide) (hts _ b_1329) (fun _ h9 => h9) rfl dX10_four_8 ?_
  refine lv_aload_n hx hb dX10_four_11 rfl (lv_at hl 1 rfl) ?_
  refine va_get (D := D) (ci := 10) (v := .int 0) (C := RX10) (T := TX10) (N := 81) hx hb hts inX10 hown hK hP 0 rfl rfl 16 (by decide) (hts _ b_1330) (fun _ h9 => h9) rfl dX10_four_12 ?_
  refine lv_iload_n hx hb dX10_four_15 rfl (lv_at hl 2 rfl) ?_
  refine lv_iload_n hx hb dX10_four_16 rfl (lv_at hl 0 rfl) ?_
  refine lv_ishr hx hb dX10_four_17 ?_
  refine lv_i2b (v := ((v >>> (24 &&& 31))).toInt8.toInt32) hx hb dX10_four_18 rfl ?_
  refine va_bast hx hb hK hP hD hS 1 2 rfl rfl (by unfold vp_in; decide) dX10_four_19 (fun H locs hP hD hS => ?_)
  have hP : va_P D k_cl [(a, .inr (10, (mfs ad))), ((ad 15), .inl (E 2, 2000, .inl (upd f (0 : Int32).toNatClampNeg (vp_nar .byte (((v >>> (24 &&& 31))).toInt8.toInt32)))))] H := hP
  have hD : va_D A [(a, .inr (10, (mfs ad))), ((ad 15), .inl (E 2, 2000, .inl (upd f (0 : Int32).toNatClampNeg (vp_nar .byte (((v >>> (24 &&& 31))).toInt8.toInt32)))))] := hD
  generalize (upd f (0 : Int32).toNatClampNeg (vp_nar .byte (((v >>> (24 &&& 31))).toInt8.toInt32))) = f_1 at hP hD
  refine lv_aload_n hx hb dX10_four_20 rfl (lv_at hl 1 rfl) ?_
  refine lv_dup hx hb dX10_four_21 rfl ?_
  refine va_get (D := D) (ci := 10) (v := .int 0) (C := RX10) (T := TX10) (N := 81) hx hb hts inX10 hown hK hP 0 rfl rfl 16 (by decide) (hts _ b_1330) (fun _ h9 => h9) rfl dX10_four_22 ?_
  refine lv_iconst (v := 1) hx hb dX10_four_25 (by decide) ?_
  refine lv_iadd hx hb dX10_four_26 ?_
  refine k_ti (y := 1) (by decide) ?_
  refine va_put (D := D) (ci := 10) (v := .int 1) (ty := .int) (C := RX10) (T := TX10) (N := 81) hx hb hts inX10 tyX10 tyX10_ok nmX10 hown hK hP hD hS 0 rfl rfl 16 (by decide) (hts _ b_1330) (fun _ h9 => h9) rfl (by decide +kernel) rfl rfl (Nat.le_of_ble_eq_true rfl) dX10_four_27 (fun H locs hP hD hS => ?_)
  have hP : va_P D k_cl [(a, .inr (10, ((mfs ad).set 16 (.int 1)))), ((ad 15), .inl (E 2, 2000, .inl f_1))] H := hP
  have hD : va_D A [(a, .inr (10, ((mfs ad).set 16 (.int 1)))), ((ad 15), .inl (E 2, 2000, .inl f_1))] := hD
  refine lv_iinc (v := 16) (lv' := [(2, .int 16), (0, .ref a), (1, .int v)]) hx hb dX10_four_30 hl (k := 0) rfl (by decide) (by decide) rfl (fun ls hl => ?_)
  refine lv_goto (tgt := 3) hx hb dX10_four_33 (by decide) ?_
  refine lv_iload_n hx hb dX10_four_3 rfl (lv_at hl 0 rfl) ?_
  refine lv_if_lt (tgt := 36) hx hb dX10_four_4 (by decide) (fun h9 => absurd h9 (by decide)) (fun _ => ?_)
  refine lv_aload_n hx hb dX10_four_7 rfl (lv_at hl 1 rfl) ?_
  refine va_get (D := D) (ci := 10) (v := .ref (ad 15)) (C := RX10) (T := TX10) (N := 81) hx hb hts inX10 hown hK hP 0 rfl rfl 15 (by decide) (hts _ b_1329) (fun _ h9 => h9) rfl dX10_four_8 ?_
  refine lv_aload_n hx hb dX10_four_11 rfl (lv_at hl 1 rfl) ?_
  refine va_get (D := D) (ci := 10) (v := .int 1) (C := RX10) (T := TX10) (N := 81) hx hb hts inX10 hown hK hP 0 rfl rfl 16 (by decide) (hts _ b_1330) (fun _ h9 => h9) rfl dX10_four_12 ?_
  refine lv_iload_n hx hb dX10_four_15 rfl (lv_at hl 2 rfl) ?_
  refine lv_iload_n hx hb dX10_four_16 rfl (lv_at hl 0 rfl) ?_
  refine lv_ishr hx hb dX10_four_17 ?_
  refine lv_i2b (v := ((v >>> (16 &&& 31))).toInt8.toInt32) hx hb dX10_four_18 rfl ?_
  refine va_bast hx hb hK hP hD hS 1 2 rfl rfl (by unfold vp_in; decide) dX10_four_19 (fun H locs hP hD hS => ?_)
  have hP : va_P D k_cl [(a, .inr (10, ((mfs ad).set 16 (.int 1)))), ((ad 15), .inl (E 2, 2000, .inl (upd f_1 (1 : Int32).toNatClampNeg (vp_nar .byte (((v >>> (16 &&& 31))).toInt8.toInt32)))))] H := hP
  have hD : va_D A [(a, .inr (10, ((mfs ad).set 16 (.int 1)))), ((ad 15), .inl (E 2, 2000, .inl (upd f_1 (1 : Int32).toNatClampNeg (vp_nar .byte (((v >>> (16 &&& 31))).toInt8.toInt32)))))] := hD
  generalize (upd f_1 (1 : Int32).toNatClampNeg (vp_nar .byte (((v >>> (16 &&& 31))).toInt8.toInt32))) = f_2 at hP hD
  refine lv_aload_n hx hb dX10_four_20 rfl (lv_at hl 1 rfl) ?_
  refine lv_dup hx hb dX10_four_21 rfl ?_
  refine va_get (D := D) (ci := 10) (v := .int 1) (C := RX10) (T := TX10) (N := 81) hx hb hts inX10 hown hK hP 0 rfl rfl 16 (by decide) (hts _ b_1330) (fun _ h9 => h9) rfl dX10_four_22 ?_
  refine lv_iconst (v := 1) hx hb dX10_four_25 (by decide) ?_
  refine lv_iadd hx hb dX10_four_26 ?_
  refine k_ti (y := 2) (by decide) ?_
  refine va_put (D := D) (ci := 10) (v := .int 2) (ty := .int) (C := RX10) (T := TX10) (N := 81) hx hb hts inX10 tyX10 tyX10_ok nmX10 hown hK hP hD hS 0 rfl rfl 16 (by decide) (hts _ b_1330) (fun _ h9 => h9) rfl (by decide +kernel) rfl rfl (Nat.le_of_ble_eq_true rfl) dX10_four_27 (fun H locs hP hD hS => ?_)
  have hP : va_P D k_cl [(a, .inr (10, ((mfs ad).set 16 (.int 2)))), ((ad 15), .inl (E 2, 2000, .inl f_2))] H := hP
  have hD : va_D A [(a, .inr (10, ((mfs ad).set 16 (.int 2)))), ((ad 15), .inl (E 2, 2000, .inl f_2))] := hD
  refine lv_iinc (v := 8) (lv' := [(2, .int 8), (0, .ref a), (1, .int v)]) hx hb dX10_four_30 hl (k := 0) rfl (by decide) (by decide) rfl (fun ls hl => ?_)
  refine lv_goto (tgt := 3) hx hb dX10_four_33 (by decide) ?_
  refine lv_iload_n hx hb dX10_four_3 rfl (lv_at hl 0 rfl) ?_
  refine lv_if_lt (tgt := 36) hx hb dX10_four_4 (by decide) (fun h9 => absurd h9 (by decide)) (fun _ => ?_)
  refine lv_aload_n hx hb dX10_four_7 rfl (lv_at hl 1 rfl) ?_
  refine va_get (D := D) (ci := 10) (v := .ref (ad 15)) (C := RX10) (T := TX10) (N := 81) hx hb hts inX10 hown hK hP 0 rfl rfl 15 (by decide) (hts _ b_1329) (fun _ h9 => h9) rfl dX10_four_8 ?_
  refine lv_aload_n hx hb dX10_four_11 rfl (lv_at hl 1 rfl) ?_
  refine va_get (D := D) (ci := 10) (v := .int 2) (C := RX10) (T := TX10) (N := 81) hx hb hts inX10 hown hK hP 0 rfl rfl 16 (by decide) (hts _ b_1330) (fun _ h9 => h9) rfl dX10_four_12 ?_
  refine lv_iload_n hx hb dX10_four_15 rfl (lv_at hl 2 rfl) ?_
  refine lv_iload_n hx hb dX10_four_16 rfl (lv_at hl 0 rfl) ?_
  refine lv_ishr hx hb dX10_four_17 ?_
  refine lv_i2b (v := ((v >>> (8 &&& 31))).toInt8.toInt32) hx hb dX10_four_18 rfl ?_
  refine va_bast hx hb hK hP hD hS 1 2 rfl rfl (by unfold vp_in; decide) dX10_four_19 (fun H locs hP hD hS => ?_)
  have hP : va_P D k_cl [(a, .inr (10, ((mfs ad).set 16 (.int 2)))), ((ad 15), .inl (E 2, 2000, .inl (upd f_2 (2 : Int32).toNatClampNeg (vp_nar .byte (((v >>> (8 &&& 31))).toInt8.toInt32)))))] H := hP
  have hD : va_D A [(a, .inr (10, ((mfs ad).set 16 (.int 2)))), ((ad 15), .inl (E 2, 2000, .inl (upd f_2 (2 : Int32).toNatClampNeg (vp_nar .byte (((v >>> (8 &&& 31))).toInt8.toInt32)))))] := hD
  generalize (upd f_2 (2 : Int32).toNatClampNeg (vp_nar .byte (((v >>> (8 &&& 31))).toInt8.toInt32))) = f_3 at hP hD
  refine lv_aload_n hx hb dX10_four_20 rfl (lv_at hl 1 rfl) ?_
  refine lv_dup hx hb dX10_four_21 rfl ?_
  refine va_get (D := D) (ci := 10) (v := .int 2) (C := RX10) (T := TX10) (N := 81) hx hb hts inX10 hown hK hP 0 rfl rfl 16 (by decide) (hts _ b_1330) (fun _ h9 => h9) rfl dX10_four_22 ?_
  refine lv_iconst (v := 1) hx hb dX10_four_25 (by decide) ?_
  refine lv_iadd hx hb dX10_four_26 ?_
  refine k_ti (y := 3) (by decide) ?_
  refine va_put (D := D) (ci := 10) (v := .int 3) (ty := .int) (C := RX10) (T := TX10) (N := 81) hx hb hts inX10 tyX10 tyX10_ok nmX10 hown hK hP hD hS 0 rfl rfl 16 (by decide) (hts _ b_1330) (fun _ h9 => h9) rfl (by decide +kernel) rfl rfl (Nat.le_of_ble_eq_true rfl) dX10_four_27 (fun H locs hP hD hS => ?_)
  have hP : va_P D k_cl [(a, .inr (10, ((mfs ad).set 16 (.int 3)))), ((ad 15), .inl (E 2, 2000, .inl f_3))] H := hP
  have hD : va_D A [(a, .inr (10, ((mfs ad).set 16 (.int 3)))), ((ad 15), .inl (E 2, 2000, .inl f_3))] := hD
  refine lv_iinc (v := 0) (lv' := [(2, .int 0), (0, .ref a), (1, .int v)]) hx hb dX10_four_30 hl (k := 0) rfl (by decide) (by decide) rfl (fun ls hl => ?_)
  refine lv_goto (tgt := 3) hx hb dX10_four_33 (by decide) ?_
  refine lv_iload_n hx hb dX10_four_3 rfl (lv_at hl 0 rfl) ?_
  refine lv_if_lt (tgt := 36) hx hb dX10_four_4 (by decide) (fun h9 => absurd h9 (by decide)) (fun _ => ?_)
  refine lv_aload_n hx hb dX10_four_7 rfl (lv_at hl 1 rfl) ?_
  refine va_get (D := D) (ci := 10) (v := .ref (ad 15)) (C := RX10) (T := TX10) (N := 81) hx hb hts inX10 hown hK hP 0 rfl rfl 15 (by decide) (hts _ b_1329) (fun _ h9 => h9) rfl dX10_four_8 ?_
  refine lv_aload_n hx hb dX10_four_11 rfl (lv_at hl 1 rfl) ?_
  refine va_get (D := D) (ci := 10) (v := .int 3) (C := RX10) (T := TX10) (N := 81) hx hb hts inX10 hown hK hP 0 rfl rfl 16 (by decide) (hts _ b_1330) (fun _ h9 => h9) rfl dX10_four_12 ?_
  refine lv_iload_n hx hb dX10_four_15 rfl (lv_at hl 2 rfl) ?_
  refine lv_iload_n hx hb dX10_four_16 rfl (lv_at hl 0 rfl) ?_
  refine lv_ishr hx hb dX10_four_17 ?_
  refine lv_i2b (v := ((v >>> (0 &&& 31))).toInt8.toInt32) hx hb dX10_four_18 rfl ?_
  refine va_bast hx hb hK hP hD hS 1 2 rfl rfl (by unfold vp_in; decide) dX10_four_19 (fun H locs hP hD hS => ?_)
  have hP : va_P D k_cl [(a, .inr (10, ((mfs ad).set 16 (.int 3)))), ((ad 15), .inl (E 2, 2000, .inl (upd f_3 (3 : Int32).toNatClampNeg (vp_nar .byte (((v >>> (0 &&& 31))).toInt8.toInt32)))))] H := hP
  have hD : va_D A [(a, .inr (10, ((mfs ad).set 16 (.int 3)))), ((ad 15), .inl (E 2, 2000, .inl (upd f_3 (3 : Int32).toNatClampNeg (vp_nar .byte (((v >>> (0 &&& 31))).toInt8.toInt32)))))] := hD
  generalize (upd f_3 (3 : Int32).toNatClampNeg (vp_nar .byte (((v >>> (0 &&& 31))).toInt8.toInt32))) = f_4 at hP hD
  refine lv_aload_n hx hb dX10_four_20 rfl (lv_at hl 1 rfl) ?_
  refine lv_dup hx hb dX10_four_21 rfl ?_
  refine va_get (D := D) (ci := 10) (v := .int 3) (C := RX10) (T := TX10) (N := 81) hx hb hts inX10 hown hK hP 0 rfl rfl 16 (by decide) (hts _ b_1330) (fun _ h9 => h9) rfl dX10_four_22 ?_
  refine lv_iconst (v := 1) hx hb dX10_four_25 (by decide) ?_
  refine lv_iadd hx hb dX10_four_26 ?_
  refine k_ti (y := 4) (by decide) ?_
  refine va_put (D := D) (ci := 10) (v := .int 4) (ty := .int) (C := RX10) (T := TX10) (N := 81) hx hb hts inX10 tyX10 tyX10_ok nmX10 hown hK hP hD hS 0 rfl rfl 16 (by decide) (hts _ b_1330) (fun _ h9 => h9) rfl (by decide +kernel) rfl rfl (Nat.le_of_ble_eq_true rfl) dX10_four_27 (fun H locs hP hD hS => ?_)
  have hP : va_P D k_cl [(a, .inr (10, ((mfs ad).set 16 (.int 4)))), ((ad 15), .inl (E 2, 2000, .inl f_4))] H := hP
  have hD : va_D A [(a, .inr (10, ((mfs ad).set 16 (.int 4)))), ((ad 15), .inl (E 2, 2000, .inl f_4))] := hD
  refine lv_iinc (v := (-8)) (lv' := [(2, .int (-8)), (0, .ref a), (1, .int v)]) hx hb dX10_four_30 hl (k := 0) rfl (by decide) (by decide) rfl (fun ls hl => ?_)
  refine lv_goto (tgt := 3) hx hb dX10_four_33 (by decide) ?_
  refine lv_iload_n hx hb dX10_four_3 rfl (lv_at hl 0 rfl) ?_
  refine lv_if_lt (tgt := 36) hx hb dX10_four_4 (by decide) (fun _ => ?_) (fun h9 => absurd (by decide) h9)
  exact m_v f_4 hx hb hr hlocks rfl trivial (hP.sub [0, 1] rfl) (hD.sub [0, 1] (by decide) rfl) hS (by decide) (by decide) dX10_four_36
set_option maxRecDepth 20000 in
set_option maxHeartbeats 2000000 in
theorem m_four_4 (l : Launch) (D : va_G) (E : Nat → ClassId) (sa : Nat → Nat) (a : Nat) (ad : Nat → Nat) (f : Nat → Int32) (v : Int32) : KM l yX10_four (.code yX10_four cX10_four 3 none) 12 400 0 0 D E sa [.ref a, .int v] [(a, .inr (10, ((mfs ad).set 16 (.int 4)))), ((ad 15), .inl (E 2, 2000, .inl f))] (S := (Nat → Int32)) (fun u => none) (fun _ => True) (fun u => [(a, .inr (10, ((mfs ad).set 16 (.int 8)))), ((ad 15), .inl (E 2, 2000, .inl u))]) := by
  refine KM.of (by decide) (Nat.le_of_ble_eq_true rfl) ?_
  intro p e s m below meth c A ls hx hb hr hts hml hown hlocks hnm hK hP hD hA hS hZ hl
  have hown : s.vm.findClass RX10 = some m.cls := hown
  have hl : lv_has ls 3 [(0, .ref a), (1, .int v)] := hl
  refine lv_bipush (v := 24) hx hb dX10_four_0 (by decide) ?_
  refine lv_istore_n (lv' := [(2, .int 24), (0, .ref a), (1, .int v)]) hx hb dX10_four_2 rfl hl (by decide) rfl (fun ls hl => ?_)
  refine lv_iload_n hx hb dX10_four_3 rfl (lv_at hl 0 rfl) ?_
  refine lv_if_lt (tgt := 36) hx hb dX10_four_4 (by decide) (fun h9 => absurd h9 (by decide)) (fun _ => ?_)
  refine lv_aload_n hx hb dX10_four_7 rfl (lv_at hl 1 rfl) ?_
  refine va_get (D := D) (ci := 10) (v := .ref (ad 15)) (C := RX10) (T := TX10) (N := 81) hx hb hts inX10 hown hK hP 0 rfl rfl 15 (by decide) (hts _ b_1329) (fun _ h9 => h9) rfl dX10_four_8 ?_
  refine lv_aload_n hx hb dX10_four_11 rfl (lv_at hl 1 rfl) ?_
  refine va_get (D := D) (ci := 10) (v := .int 4) (C := RX10) (T := TX10) (N := 81) hx hb hts inX10 hown hK hP 0 rfl rfl 16 (by decide) (hts _ b_1330) (fun _ h9 => h9) rfl dX10_four_12 ?_
  refine lv_iload_n hx hb dX10_four_15 rfl (lv_at hl 2 rfl) ?_
  refine lv_iload_n hx hb dX10_four_16 rfl (lv_at hl 0 rfl) ?_
  refine lv_ishr hx hb dX10_four_17 ?_
  refine lv_i2b (v := ((v >>> (24 &&& 31))).toInt8.toInt32) hx hb dX10_four_18 rfl ?_
  refine va_bast hx hb hK hP hD hS 1 2 rfl rfl (by unfold vp_in; decide) dX10_four_19 (fun H locs hP hD hS => ?_)
  have hP : va_P D k_cl [(a, .inr (10, ((mfs ad).set 16 (.int 4)))), ((ad 15), .inl (E 2, 2000, .inl (upd f (4 : Int32).toNatClampNeg (vp_nar .byte (((v >>> (24 &&& 31))).toInt8.toInt32)))))] H := hP
  have hD : va_D A [(a, .inr (10, ((mfs ad).set 16 (.int 4)))), ((ad 15), .inl (E 2, 2000, .inl (upd f (4 : Int32).toNatClampNeg (vp_nar .byte (((v >>> (24 &&& 31))).toInt8.toInt32)))))] := hD
  generalize (upd f (4 : Int32).toNatClampNeg (vp_nar .byte (((v >>> (24 &&& 31))).toInt8.toInt32))) = f_1 at hP hD
  refine lv_aload_n hx hb dX10_four_20 rfl (lv_at hl 1 rfl) ?_
  refine lv_dup hx hb dX10_four_21 rfl ?_
  refine va_get (D := D) (ci := 10) (v := .int 4) (C := RX10) (T := TX10) (N := 81) hx hb hts inX10 hown hK hP 0 rfl rfl 16 (by decide) (hts _ b_1330) (fun _ h9 => h9) rfl dX10_four_22 ?_
  refine lv_iconst (v := 1) hx hb dX10_four_25 (by decide) ?_
  refine lv_iadd hx hb dX10_four_26 ?_
  refine k_ti (y := 5) (by decide) ?_
  refine va_put (D := D) (ci := 10) (v := .int 5) (ty := .int) (C := RX10) (T := TX10) (N := 81) hx hb hts inX10 tyX10 tyX10_ok nmX10 hown hK hP hD hS 0 rfl rfl 16 (by decide) (hts _ b_1330) (fun _ h9 => h9) rfl (by decide +kernel) rfl rfl (Nat.le_of_ble_eq_true rfl) dX10_four_27 (fun H locs hP hD hS => ?_)
  have hP : va_P D k_cl [(a, .inr (10, ((mfs ad).set 16 (.int 5)))), ((ad 15), .inl (E 2, 2000, .inl f_1))] H := hP
  have hD : va_D A [(a, .inr (10, ((mfs ad).set 16 (.int 5)))), ((ad 15), .inl (E 2, 2000, .inl f_1))] := hD
  refine lv_iinc (v := 16) (lv' := [(2, .int 16), (0, .ref a), (1, .int v)]) hx hb dX10_four_30 hl (k := 0) rfl (by decide) (by decide) rfl (fun ls hl => ?_)
  refine lv_goto (tgt := 3) hx hb dX10_four_33 (by decide) ?_
  refine lv_iload_n hx hb dX10_four_3 rfl (lv_at hl 0 rfl) ?_
  refine lv_if_lt (tgt := 36) hx hb dX10_four_4 (by decide) (fun h9 => absurd h9 (by decide)) (fun _ => ?_)
  refine lv_aload_n hx hb dX10_four_7 rfl (lv_at hl 1 rfl) ?_
  refine va_get (D := D) (ci := 10) (v := .ref (ad 15)) (C := RX10) (T := TX10) (N := 81) hx hb hts inX10 hown hK hP 0 rfl rfl 15 (by decide) (hts _ b_1329) (fun _ h9 => h9) rfl dX10_four_8 ?_
  refine lv_aload_n hx hb dX10_four_11 rfl (lv_at hl 1 rfl) ?_
  refine va_get (D := D) (ci := 10) (v := .int 5) (C := RX10) (T := TX10) (N := 81) hx hb hts inX10 hown hK hP 0 rfl rfl 16 (by decide) (hts _ b_1330) (fun _ h9 => h9) rfl dX10_four_12 ?_
  refine lv_iload_n hx hb dX10_four_15 rfl (lv_at hl 2 rfl) ?_
  refine lv_iload_n hx hb dX10_four_16 rfl (lv_at hl 0 rfl) ?_
  refine lv_ishr hx hb dX10_four_17 ?_
  refine lv_i2b (v := ((v >>> (16 &&& 31))).toInt8.toInt32) hx hb dX10_four_18 rfl ?_
  refine va_bast hx hb hK hP hD hS 1 2 rfl rfl (by unfold vp_in; decide) dX10_four_19 (fun H locs hP hD hS => ?_)
  have hP : va_P D k_cl [(a, .inr (10, ((mfs ad).set 16 (.int 5)))), ((ad 15), .inl (E 2, 2000, .inl (upd f_1 (5 : Int32).toNatClampNeg (vp_nar .byte (((v >>> (16 &&& 31))).toInt8.toInt32)))))] H := hP
  have hD : va_D A [(a, .inr (10, ((mfs ad).set 16 (.int 5)))), ((ad 15), .inl (E 2, 2000, .inl (upd f_1 (5 : Int32).toNatClampNeg (vp_nar .byte (((v >>> (16 &&& 31))).toInt8.toInt32)))))] := hD
  generalize (upd f_1 (5 : Int32).toNatClampNeg (vp_nar .byte (((v >>> (16 &&& 31))).toInt8.toInt32))) = f_2 at hP hD
  refine lv_aload_n hx hb dX10_four_20 rfl (lv_at hl 1 rfl) ?_
  refine lv_dup hx hb dX10_four_21 rfl ?_
  refine va_get (D := D) (ci := 10) (v := .int 5) (C := RX10) (T := TX10) (N := 81) hx hb hts inX10 hown hK hP 0 rfl rfl 16 (by decide) (hts _ b_1330) (fun _ h9 => h9) rfl dX10_four_22 ?_
  refine lv_iconst (v := 1) hx hb dX10_four_25 (by decide) ?_
  refine lv_iadd hx hb dX10_four_26 ?_
  refine k_ti (y := 6) (by decide) ?_
  refine va_put (D := D) (ci := 10) (v := .int 6) (ty := .int) (C := RX10) (T := TX10) (N := 81) hx hb hts inX10 tyX10 tyX10_ok nmX10 hown hK hP hD hS 0 rfl rfl 16 (by decide) (hts _ b_1330) (fun _ h9 => h9) rfl (by decide +kernel) rfl rfl (Nat.le_of_ble_eq_true rfl) dX10_four_27 (fun H locs hP hD hS => ?_)
  have hP : va_P D k_cl [(a, .inr (10, ((mfs ad).set 16 (.int 6)))), ((ad 15), .inl (E 2, 2000, .inl f_2))] H := hP
  have hD : va_D A [(a, .inr (10, ((mfs ad).set 16 (.int 6)))), ((ad 15), .inl (E 2, 2000, .inl f_2))] := hD
  refine lv_iinc (v := 8) (lv' := [(2, .int 8), (0, .ref a), (1, .int v)]) hx hb dX10_four_30 hl (k := 0) rfl (by decide) (by decide) rfl (fun ls hl => ?_)
  refine lv_goto (tgt := 3) hx hb dX10_four_33 (by decide) ?_
  refine lv_iload_n hx hb dX10_four_3 rfl (lv_at hl 0 rfl) ?_
  refine lv_if_lt (tgt := 36) hx hb dX10_four_4 (by decide) (fun h9 => absurd h9 (by decide)) (fun _ => ?_)
  refine lv_aload_n hx hb dX10_four_7 rfl (lv_at hl 1 rfl) ?_
  refine va_get (D := D) (ci := 10) (v := .ref (ad 15)) (C := RX10) (T := TX10) (N := 81) hx hb hts inX10 hown hK hP 0 rfl rfl 15 (by decide) (hts _ b_1329) (fun _ h9 => h9) rfl dX10_four_8 ?_
  refine lv_aload_n hx hb dX10_four_11 rfl (lv_at hl 1 rfl) ?_
  refine va_get (D := D) (ci := 10) (v := .int 6) (C := RX10) (T := TX10) (N := 81) hx hb hts inX10 hown hK hP 0 rfl rfl 16 (by decide) (hts _ b_1330) (fun _ h9 => h9) rfl dX10_four_12 ?_
  refine lv_iload_n hx hb dX10_four_15 rfl (lv_at hl 2 rfl) ?_
  refine lv_iload_n hx hb dX10_four_16 rfl (lv_at hl 0 rfl) ?_
  refine lv_ishr hx hb dX10_four_17 ?_
  refine lv_i2b (v := ((v >>> (8 &&& 31))).toInt8.toInt32) hx hb dX10_four_18 rfl ?_
  refine va_bast hx hb hK hP hD hS 1 2 rfl rfl (by unfold vp_in; decide) dX10_four_19 (fun H locs hP hD hS => ?_)
  have hP : va_P D k_cl [(a, .inr (10, ((mfs ad).set 16 (.int 6)))), ((ad 15), .inl (E 2, 2000, .inl (upd f_2 (6 : Int32).toNatClampNeg (vp_nar .byte (((v >>> (8 &&& 31))).toInt8.toInt32)))))] H := hP
  have hD : va_D A [(a, .inr (10, ((mfs ad).set 16 (.int 6)))), ((ad 15), .inl (E 2, 2000, .inl (upd f_2 (6 : Int32).toNatClampNeg (vp_nar .byte (((v >>> (8 &&& 31))).toInt8.toInt32)))))] := hD
  generalize (upd f_2 (6 : Int32).toNatClampNeg (vp_nar .byte (((v >>> (8 &&& 31))).toInt8.toInt32))) = f_3 at hP hD
  refine lv_aload_n hx hb dX10_four_20 rfl (lv_at hl 1 rfl) ?_
  refine lv_dup hx hb dX10_four_21 rfl ?_
  refine va_get (D := D) (ci := 10) (v := .int 6) (C := RX10) (T := TX10) (N := 81) hx hb hts inX10 hown hK hP 0 rfl rfl 16 (by decide) (hts _ b_1330) (fun _ h9 => h9) rfl dX10_four_22 ?_
  refine lv_iconst (v := 1) hx hb dX10_four_25 (by decide) ?_
  refine lv_iadd hx hb dX10_four_26 ?_
  refine k_ti (y := 7) (by decide) ?_
  refine va_put (D := D) (ci := 10) (v := .int 7) (ty := .int) (C := RX10) (T := TX10) (N := 81) hx hb hts inX10 tyX10 tyX10_ok nmX10 hown hK hP hD hS 0 rfl rfl 16 (by decide) (hts _ b_1330) (fun _ h9 => h9) rfl (by decide +kernel) rfl rfl (Nat.le_of_ble_eq_true rfl) dX10_four_27 (fun H locs hP hD hS => ?_)
  have hP : va_P D k_cl [(a, .inr (10, ((mfs ad).set 16 (.int 7)))), ((ad 15), .inl (E 2, 2000, .inl f_3))] H := hP
  have hD : va_D A [(a, .inr (10, ((mfs ad).set 16 (.int 7)))), ((ad 15), .inl (E 2, 2000, .inl f_3))] := hD
  refine lv_iinc (v := 0) (lv' := [(2, .int 0), (0, .ref a), (1, .int v)]) hx hb dX10_four_30 hl (k := 0) rfl (by decide) (by decide) rfl (fun ls hl => ?_)
  refine lv_goto (tgt := 3) hx hb dX10_four_33 (by decide) ?_
  refine lv_iload_n hx hb dX10_four_3 rfl (lv_at hl 0 rfl) ?_
  refine lv_if_lt (tgt := 36) hx hb dX10_four_4 (by decide) (fun h9 => absurd h9 (by decide)) (fun _ => ?_)
  refine lv_aload_n hx hb dX10_four_7 rfl (lv_at hl 1 rfl) ?_
  refine va_get (D := D) (ci := 10) (v := .ref (ad 15)) (C := RX10) (T := TX10) (N := 81) hx hb hts inX10 hown hK hP 0 rfl rfl 15 (by decide) (hts _ b_1329) (fun _ h9 => h9) rfl dX10_four_8 ?_
  refine lv_aload_n hx hb dX10_four_11 rfl (lv_at hl 1 rfl) ?_
  refine va_get (D := D) (ci := 10) (v := .int 7) (C := RX10) (T := TX10) (N := 81) hx hb hts inX10 hown hK hP 0 rfl rfl 16 (by decide) (hts _ b_1330) (fun _ h9 => h9) rfl dX10_four_12 ?_
  refine lv_iload_n hx hb dX10_four_15 rfl (lv_at hl 2 rfl) ?_
  refine lv_iload_n hx hb dX10_four_16 rfl (lv_at hl 0 rfl) ?_
  refine lv_ishr hx hb dX10_four_17 ?_
  refine lv_i2b (v := ((v >>> (0 &&& 31))).toInt8.toInt32) hx hb dX10_four_18 rfl ?_
  refine va_bast hx hb hK hP hD hS 1 2 rfl rfl (by unfold vp_in; decide) dX10_four_19 (fun H locs hP hD hS => ?_)
  have hP : va_P D k_cl [(a, .inr (10, ((mfs ad).set 16 (.int 7)))), ((ad 15), .inl (E 2, 2000, .inl (upd f_3 (7 : Int32).toNatClampNeg (vp_nar .byte (((v >>> (0 &&& 31))).toInt8.toInt32)))))] H := hP
  have hD : va_D A [(a, .inr (10, ((mfs ad).set 16 (.int 7)))), ((ad 15), .inl (E 2, 2000, .inl (upd f_3 (7 : Int32).toNatClampNeg (vp_nar .byte (((v >>> (0 &&& 31))).toInt8.toInt32)))))] := hD
  generalize (upd f_3 (7 : Int32).toNatClampNeg (vp_nar .byte (((v >>> (0 &&& 31))).toInt8.toInt32))) = f_4 at hP hD
  refine lv_aload_n hx hb dX10_four_20 rfl (lv_at hl 1 rfl) ?_
  refine lv_dup hx hb dX10_four_21 rfl ?_
  refine va_get (D := D) (ci := 10) (v := .int 7) (C := RX10) (T := TX10) (N := 81) hx hb hts inX10 hown hK hP 0 rfl rfl 16 (by decide) (hts _ b_1330) (fun _ h9 => h9) rfl dX10_four_22 ?_
  refine lv_iconst (v := 1) hx hb dX10_four_25 (by decide) ?_
  refine lv_iadd hx hb dX10_four_26 ?_
  refine k_ti (y := 8) (by decide) ?_
  refine va_put (D := D) (ci := 10) (v := .int 8) (ty := .int) (C := RX10) (T := TX10) (N := 81) hx hb hts inX10 tyX10 tyX10_ok nmX10 hown hK hP hD hS 0 rfl rfl 16 (by decide) (hts _ b_1330) (fun _ h9 => h9) rfl (by decide +kernel) rfl rfl (Nat.le_of_ble_eq_true rfl) dX10_four_27 (fun H locs hP hD hS => ?_)
  have hP : va_P D k_cl [(a, .inr (10, ((mfs ad).set 16 (.int 8)))), ((ad 15), .inl (E 2, 2000, .inl f_4))] H := hP
  have hD : va_D A [(a, .inr (10, ((mfs ad).set 16 (.int 8)))), ((ad 15), .inl (E 2, 2000, .inl f_4))] := hD
  refine lv_iinc (v := (-8)) (lv' := [(2, .int (-8)), (0, .ref a), (1, .int v)]) hx hb dX10_four_30 hl (k := 0) rfl (by decide) (by decide) rfl (fun ls hl => ?_)
  refine lv_goto (tgt := 3) hx hb dX10_four_33 (by decide) ?_
  refine lv_iload_n hx hb dX10_four_3 rfl (lv_at hl 0 rfl) ?_
  refine lv_if_lt (tgt := 36) hx hb dX10_four_4 (by decide) (fun _ => ?_) (fun h9 => absurd (by decide) h9)
  exact m_v f_4 hx hb hr hlocks rfl trivial (hP.sub [0, 1] rfl) (hD.sub [0, 1] (by decide) rfl) hS (by decide) (by decide) dX10_four_36
set_option maxRecDepth 20000 in
set_option maxHeartbeats 2000000 in
theorem m_four_8 (l : Launch) (D : va_G) (E : Nat → ClassId) (sa : Nat → Nat) (a : Nat) (ad : Nat → Nat) (f : Nat → Int32) (v : Int32) : KM l yX10_four (.code yX10_four cX10_four 3 none) 12 400 0 0 D E sa [.ref a, .int v] [(a, .inr (10, ((mfs ad).set 16 (.int 8)))), ((ad 15), .inl (E 2, 2000, .inl f))] (S := (Nat → Int32)) (fun u => none) (fun _ => True) (fun u => [(a, .inr (10, ((mfs ad).set 16 (.int 12)))), ((ad 15), .inl (E 2, 2000, .inl u))]) := by
  refine KM.of (by decide) (Nat.le_of_ble_eq_true rfl) ?_
  intro p e s m below meth c A ls hx hb hr hts hml hown hlocks hnm hK hP hD hA hS hZ hl
  have hown : s.vm.findClass RX10 = some m.cls := hown
  have hl : lv_has ls 3 [(0, .ref a), (1, .int v)] := hl
  refine lv_bipush (v := 24) hx hb dX10_four_0 (by decide) ?_
  refine lv_istore_n (lv' := [(2, .int 24), (0, .ref a), (1, .int v)]) hx hb dX10_four_2 rfl hl (by decide) rfl (fun ls hl => ?_)
  refine lv_iload_n hx hb dX10_four_3 rfl (lv_at hl 0 rfl) ?_
  refine lv_if_lt (tgt := 36) hx hb dX10_four_4 (by decide) (fun h9 => absurd h9 (by decide)) (fun _ => ?_)
  refine lv_aload_n hx hb dX10_four_7 rfl (lv_at hl 1 rfl) ?_
  refine va_get (D := D) (ci := 10) (v := .ref (ad 15)) (C := RX10) (T := TX10) (N := 81) hx hb hts inX10 hown hK hP 0 rfl rfl 15 (by decide) (hts _ b_1329) (fun _ h9 => h9) rfl dX10_four_8 ?_
  refine lv_aload_n hx hb dX10_four_11 rfl (lv_at hl 1 rfl) ?_
  refine va_get (D := D) (ci := 10) (v := .int 8) (C := RX10) (T := TX10) (N := 81) hx hb hts inX10 hown hK hP 0 rfl rfl 16 (by decide) (hts _ b_1330) (fun _ h9 => h9) rfl dX10_four_12 ?_
  refine lv_iload_n hx hb dX10_four_15 rfl (lv_at hl 2 rfl) ?_
  refine lv_iload_n hx hb dX10_four_16 rfl (lv_at hl 0 rfl) ?_
  refine lv_ishr hx hb dX10_four_17 ?_
  refine lv_i2b (v := ((v >>> (24 &&& 31))).toInt8.toInt32) hx hb dX10_four_18 rfl ?_
  refine va_bast hx hb hK hP hD hS 1 2 rfl rfl (by unfold vp_in; decide) dX10_four_19 (fun H locs hP hD hS => ?_)
  have hP : va_P D k_cl [(a, .inr (10, ((mfs ad).set 16 (.int 8)))), ((ad 15), .inl (E 2, 2000, .inl (upd f (8 : Int32).toNatClampNeg (vp_nar .byte (((v >>> (24 &&& 31))).toInt8.toInt32)))))] H := hP
  have hD : va_D A [(a, .inr (10, ((mfs ad).set 16 (.int 8)))), ((ad 15), .inl (E 2, 2000, .inl (upd f (8 : Int32).toNatClampNeg (vp_nar .byte (((v >>> (24 &&& 31))).toInt8.toInt32)))))] := hD
  generalize (upd f (8 : Int32).toNatClampNeg (vp_nar .byte (((v >>> (24 &&& 31))).toInt8.toInt32))) = f_1 at hP hD
  refine lv_aload_n hx hb dX10_four_20 rfl (lv_at hl 1 rfl) ?_
  refine lv_dup hx hb dX10_four_21 rfl ?_
  refine va_get (D := D) (ci := 10) (v := .int 8) (C := RX10) (T := TX10) (N := 81) hx hb hts inX10 hown hK hP 0 rfl rfl 16 (by decide) (hts _ b_1330) (fun _ h9 => h9) rfl dX10_four_22 ?_
  refine lv_iconst (v := 1) hx hb dX10_four_25 (by decide) ?_
  refine lv_iadd hx hb dX10_four_26 ?_
  refine k_ti (y := 9) (by decide) ?_
  refine va_put (D := D) (ci := 10) (v := .int 9) (ty := .int) (C := RX10) (T := TX10) (N := 81) hx hb hts inX10 tyX10 tyX10_ok nmX10 hown hK hP hD hS 0 rfl rfl 16 (by decide) (hts _ b_1330) (fun _ h9 => h9) rfl (by decide +kernel) rfl rfl (Nat.le_of_ble_eq_true rfl) dX10_four_27 (fun H locs hP hD hS => ?_)
  have hP : va_P D k_cl [(a, .inr (10, ((mfs ad).set 16 (.int 9)))), ((ad 15), .inl (E 2, 2000, .inl f_1))] H := hP
  have hD : va_D A [(a, .inr (10, ((mfs ad).set 16 (.int 9)))), ((ad 15), .inl (E 2, 2000, .inl f_1))] := hD
  refine lv_iinc (v := 16) (lv' := [(2, .int 16), (0, .ref a), (1, .int v)]) hx hb dX10_four_30 hl (k := 0) rfl (by decide) (by decide) rfl (fun ls hl => ?_)
  refine lv_goto (tgt := 3) hx hb dX10_four_33 (by decide) ?_
  refine lv_iload_n hx hb dX10_four_3 rfl (lv_at hl 0 rfl) ?_
  refine lv_if_lt (tgt := 36) hx hb dX10_four_4 (by decide) (fun h9 => absurd h9 (by decide)) (fun _ => ?_)
  refine lv_aload_n hx hb dX10_four_7 rfl (lv_at hl 1 rfl) ?_
  refine va_get (D := D) (ci := 10) (v := .ref (ad 15)) (C := RX10) (T := TX10) (N := 81) hx hb hts inX10 hown hK hP 0 rfl rfl 15 (by decide) (hts _ b_1329) (fun _ h9 => h9) rfl dX10_four_8 ?_
  refine lv_aload_n hx hb dX10_four_11 rfl (lv_at hl 1 rfl) ?_
  refine va_get (D := D) (ci := 10) (v := .int 9) (C := RX10) (T := TX10) (N := 81) hx hb hts inX10 hown hK hP 0 rfl rfl 16 (by decide) (hts _ b_1330) (fun _ h9 => h9) rfl dX10_four_12 ?_
  refine lv_iload_n hx hb dX10_four_15 rfl (lv_at hl 2 rfl) ?_
  refine lv_iload_n hx hb dX10_four_16 rfl (lv_at hl 0 rfl) ?_
  refine lv_ishr hx hb dX10_four_17 ?_
  refine lv_i2b (v := ((v >>> (16 &&& 31))).toInt8.toInt32) hx hb dX10_four_18 rfl ?_
  refine va_bast hx hb hK hP hD hS 1 2 rfl rfl (by unfold vp_in; decide) dX10_four_19 (fun H locs hP hD hS => ?_)
  have hP : va_P D k_cl [(a, .inr (10, ((mfs ad).set 16 (.int 9)))), ((ad 15), .inl (E 2, 2000, .inl (upd f_1 (9 : Int32).toNatClampNeg (vp_nar .byte (((v >>> (16 &&& 31))).toInt8.toInt32)))))] H := hP
  have hD : va_D A [(a, .inr (10, ((mfs ad).set 16 (.int 9)))), ((ad 15), .inl (E 2, 2000, .inl (upd f_1 (9 : Int32).toNatClampNeg (vp_nar .byte (((v >>> (16 &&& 31))).toInt8.toInt32)))))] := hD
  generalize (upd f_1 (9 : Int32).toNatClampNeg (vp_nar .byte (((v >>> (16 &&& 31))).toInt8.toInt32))) = f_2 at hP hD
  refine lv_aload_n hx hb dX10_four_20 rfl (lv_at hl 1 rfl) ?_
  refine lv_dup hx hb dX10_four_21 rfl ?_
  refine va_get (D := D) (ci := 10) (v := .int 9) (C := RX10) (T := TX10) (N := 81) hx hb hts inX10 hown hK hP 0 rfl rfl 16 (by decide) (hts _ b_1330) (fun _ h9 => h9) rfl dX10_four_22 ?_
  refine lv_iconst (v := 1) hx hb dX10_four_25 (by decide) ?_
  refine lv_iadd hx hb dX10_four_26 ?_
  refine k_ti (y := 10) (by decide) ?_
  refine va_put (D := D) (ci := 10) (v := .int 10) (ty := .int) (C := RX10) (T := TX10) (N := 81) hx hb hts inX10 tyX10 tyX10_ok nmX10 hown hK hP hD hS 0 rfl rfl 16 (by decide) (hts _ b_1330) (fun _ h9 => h9) rfl (by decide +kernel) rfl rfl (Nat.le_of_ble_eq_true rfl) dX10_four_27 (fun H locs hP hD hS => ?_)
  have hP : va_P D k_cl [(a, .inr (10, ((mfs ad).set 16 (.int 10)))), ((ad 15), .inl (E 2, 2000, .inl f_2))] H := hP
  have hD : va_D A [(a, .inr (10, ((mfs ad).set 16 (.int 10)))), ((ad 15), .inl (E 2, 2000, .inl f_2))] := hD
  refine lv_iinc (v := 8) (lv' := [(2, .int 8), (0, .ref a), (1, .int v)]) hx hb dX10_four_30 hl (k := 0) rfl (by decide) (by decide) rfl (fun ls hl => ?_)
  refine lv_goto (tgt := 3) hx hb dX10_four_33 (by decide) ?_
  refine lv_iload_n hx hb dX10_four_3 rfl (lv_at hl 0 rfl) ?_
  refine lv_if_lt (tgt := 36) hx hb dX10_four_4 (by decide) (fun h9 => absurd h9 (by decide)) (fun _ => ?_)
  refine lv_aload_n hx hb dX10_four_7 rfl (lv_at hl 1 rfl) ?_
  refine va_get (D := D) (ci := 10) (v := .ref (ad 15)) (C := RX10) (T := TX10) (N := 81) hx hb hts inX10 hown hK hP 0 rfl rfl 15 (by decide) (hts _ b_1329) (fun _ h9 => h9) rfl dX10_four_8 ?_
  refine lv_aload_n hx hb dX10_four_11 rfl (lv_at hl 1 rfl) ?_
  refine va_get (D := D) (ci := 10) (v := .int 10) (C := RX10) (T := TX10) (N := 81) hx hb hts inX10 hown hK hP 0 rfl rfl 16 (by decide) (hts _ b_1330) (fun _ h9 => h9) rfl dX10_four_12 ?_
  refine lv_iload_n hx hb dX10_four_15 rfl (lv_at hl 2 rfl) ?_
  refine lv_iload_n hx hb dX10_four_16 rfl (lv_at hl 0 rfl) ?_
  refine lv_ishr hx hb dX10_four_17 ?_
  refine lv_i2b (v := ((v >>> (8 &&& 31))).toInt8.toInt32) hx hb dX10_four_18 rfl ?_
  refine va_bast hx hb hK hP hD hS 1 2 rfl rfl (by unfold vp_in; decide) dX10_four_19 (fun H locs hP hD hS => ?_)
  have hP : va_P D k_cl [(a, .inr (10, ((mfs ad).set 16 (.int 10)))), ((ad 15), .inl (E 2, 2000, .inl (upd f_2 (10 : Int32).toNatClampNeg (vp_nar .byte (((v >>> (8 &&& 31))).toInt8.toInt32)))))] H := hP
  have hD : va_D A [(a, .inr (10, ((mfs ad).set 16 (.int 10)))), ((ad 15), .inl (E 2, 2000, .inl (upd f_2 (10 : Int32).toNatClampNeg (vp_nar .byte (((v >>> (8 &&& 31))).toInt8.toInt32)))))] := hD
  generalize (upd f_2 (10 : Int32).toNatClampNeg (vp_nar .byte (((v >>> (8 &&& 31))).toInt8.toInt32))) = f_3 at hP hD
  refine lv_aload_n hx hb dX10_four_20 rfl (lv_at hl 1 rfl) ?_
  refine lv_dup hx hb dX10_four_21 rfl ?_
  refine va_get (D := D) (ci := 10) (v := .int 10) (C := RX10) (T := TX10) (N := 81) hx hb hts inX10 hown hK hP 0 rfl rfl 16 (by decide) (hts _ b_1330) (fun _ h9 => h9) rfl dX10_four_22 ?_
  refine lv_iconst (v := 1) hx hb dX10_four_25 (by decide) ?_
  refine lv_iadd hx hb dX10_four_26 ?_
  refine k_ti (y := 11) (by decide) ?_
  refine va_put (D := D) (ci := 10) (v := .int 11) (ty := .int) (C := RX10) (T := TX10) (N := 81) hx hb hts inX10 tyX10 tyX10_ok nmX10 hown hK hP hD hS 0 rfl rfl 16 (by decide) (hts _ b_1330) (fun _ h9 => h9) rfl (by decide +kernel) rfl rfl (Nat.le_of_ble_eq_true rfl) dX10_four_27 (fun H locs hP hD hS => ?_)
  have hP : va_P D k_cl [(a, .inr (10, ((mfs ad).set 16 (.int 11)))), ((ad 15), .inl (E 2, 2000, .inl f_3))] H := hP
  have hD : va_D A [(a, .inr (10, ((mfs ad).set 16 (.int 11)))), ((ad 15), .inl (E 2, 2000, .inl f_3))] := hD
  refine lv_iinc (v := 0) (lv' := [(2, .int 0), (0, .ref a), (1, .int v)]) hx hb dX10_four_30 hl (k := 0) rfl (by decide) (by decide) rfl (fun ls hl => ?_)
  refine lv_goto (tgt := 3) hx hb dX10_four_33 (by decide) ?_
  refine lv_iload_n hx hb dX10_four_3 rfl (lv_at hl 0 rfl) ?_
  refine lv_if_lt (tgt := 36) hx hb dX10_four_4 (by decide) (fun h9 => absurd h9 (by decide)) (fun _ => ?_)
  refine lv_aload_n hx hb dX10_four_7 rfl (lv_at hl 1 rfl) ?_
  refine va_get (D := D) (ci := 10) (v := .ref (ad 15)) (C := RX10) (T := TX10) (N := 81) hx hb hts inX10 hown hK hP 0 rfl rfl 15 (by decide) (hts _ b_1329) (fun _ h9 => h9) rfl dX10_four_8 ?_
  refine lv_aload_n hx hb dX10_four_11 rfl (lv_at hl 1 rfl) ?_
  refine va_get (D := D) (ci := 10) (v := .int 11) (C := RX10) (T := TX10) (N := 81) hx hb hts inX10 hown hK hP 0 rfl rfl 16 (by decide) (hts _ b_1330) (fun _ h9 => h9) rfl dX10_four_12 ?_
  refine lv_iload_n hx hb dX10_four_15 rfl (lv_at hl 2 rfl) ?_
  refine lv_iload_n hx hb dX10_four_16 rfl (lv_at hl 0 rfl) ?_
  refine lv_ishr hx hb dX10_four_17 ?_
  refine lv_i2b (v := ((v >>> (0 &&& 31))).toInt8.toInt32) hx hb dX10_four_18 rfl ?_
  refine va_bast hx hb hK hP hD hS 1 2 rfl rfl (by unfold vp_in; decide) dX10_four_19 (fun H locs hP hD hS => ?_)
  have hP : va_P D k_cl [(a, .inr (10, ((mfs ad).set 16 (.int 11)))), ((ad 15), .inl (E 2, 2000, .inl (upd f_3 (11 : Int32).toNatClampNeg (vp_nar .byte (((v >>> (0 &&& 31))).toInt8.toInt32)))))] H := hP
  have hD : va_D A [(a, .inr (10, ((mfs ad).set 16 (.int 11)))), ((ad 15), .inl (E 2, 2000, .inl (upd f_3 (11 : Int32).toNatClampNeg (vp_nar .byte (((v >>> (0 &&& 31))).toInt8.toInt32)))))] := hD
  generalize (upd f_3 (11 : Int32).toNatClampNeg (vp_nar .byte (((v >>> (0 &&& 31))).toInt8.toInt32))) = f_4 at hP hD
  refine lv_aload_n hx hb dX10_four_20 rfl (lv_at hl 1 rfl) ?_
  refine lv_dup hx hb dX10_four_21 rfl ?_
  refine va_get (D := D) (ci := 10) (v := .int 11) (C := RX10) (T := TX10) (N := 81) hx hb hts inX10 hown hK hP 0 rfl rfl 16 (by decide) (hts _ b_1330) (fun _ h9 => h9) rfl dX10_four_22 ?_
  refine lv_iconst (v := 1) hx hb dX10_four_25 (by decide) ?_
  refine lv_iadd hx hb dX10_four_26 ?_
  refine k_ti (y := 12) (by decide) ?_
  refine va_put (D := D) (ci := 10) (v := .int 12) (ty := .int) (C := RX10) (T := TX10) (N := 81) hx hb hts inX10 tyX10 tyX10_ok nmX10 hown hK hP hD hS 0 rfl rfl 16 (by decide) (hts _ b_1330) (fun _ h9 => h9) rfl (by decide +kernel) rfl rfl (Nat.le_of_ble_eq_true rfl) dX10_four_27 (fun H locs hP hD hS => ?_)
  have hP : va_P D k_cl [(a, .inr (10, ((mfs ad).set 16 (.int 12)))), ((ad 15), .inl (E 2, 2000, .inl f_4))] H := hP
  have hD : va_D A [(a, .inr (10, ((mfs ad).set 16 (.int 12)))), ((ad 15), .inl (E 2, 2000, .inl f_4))] := hD
  refine lv_iinc (v := (-8)) (lv' := [(2, .int (-8)), (0, .ref a), (1, .int v)]) hx hb dX10_four_30 hl (k := 0) rfl (by decide) (by decide) rfl (fun ls hl => ?_)
  refine lv_goto (tgt := 3) hx hb dX10_four_33 (by decide) ?_
  refine lv_iload_n hx hb dX10_four_3 rfl (lv_at hl 0 rfl) ?_
  refine lv_if_lt (tgt := 36) hx hb dX10_four_4 (by decide) (fun _ => ?_) (fun h9 => absurd (by decide) h9)
  exact m_v f_4 hx hb hr hlocks rfl trivial (hP.sub [0, 1] rfl) (hD.sub [0, 1] (by decide) rfl) hS (by decide) (by decide) dX10_four_36
set_option maxRecDepth 20000 in
set_option maxHeartbeats 2000000 in
theorem m_four_12 (l : Launch) (D : va_G) (E : Nat → ClassId) (sa : Nat → Nat) (a : Nat) (ad : Nat → Nat) (f : Nat → Int32) (v : Int32) : KM l yX10_four (.code yX10_four cX10_four 3 none) 12 400 0 0 D E sa [.ref a, .int v] [(a, .inr (10, ((mfs ad).set 16 (.int 12)))), ((ad 15), .inl (E 2, 2000, .inl f))] (S := (Nat → Int32)) (fun u => none) (fun _ => True) (fun u => [(a, .inr (10, ((mfs ad).set 16 (.int 16)))), ((ad 15), .inl (E 2, 2000, .inl u))]) := by
  refine KM.of (by decide) (Nat.le_of_ble_eq_true rfl) ?_
  intro p e s m below meth c A ls hx hb hr hts hml hown hlocks hnm hK hP hD hA hS hZ hl
  have hown : s.vm.findClass RX10 = some m.cls := hown
  have hl : lv_has ls 3 [(0, .ref a), (1, .int v)] := hl
  refine lv_bipush (v := 24) hx hb dX10_four_0 (by decide) ?_
  refine lv_istore_n (lv' := [(2, .int 24), (0, .ref a), (1, .int v)]) hx hb dX10_four_2 rfl hl (by decide) rfl (fun ls hl => ?_)
  refine lv_iload_n hx hb dX10_four_3 rfl (lv_at hl 0 rfl) ?_
  refine lv_if_lt (tgt := 36) hx hb dX10_four_4 (by decide) (fun h9 => absurd h9 (by decide)) (fun _ => ?_)
  refine lv_aload_n hx hb dX10_four_7 rfl (lv_at hl 1 rfl) ?_
  refine va_get (D := D) (ci := 10) (v := .ref (ad 15)) (C := RX10) (T := TX10) (N := 81) hx hb hts inX10 hown hK hP 0 rfl rfl 15 (by decide) (hts _ b_1329) (fun _ h9 => h9) rfl dX10_four_8 ?_
  refine lv_aload_n hx hb dX10_four_11 rfl (lv_at hl 1 rfl) ?_
  refine va_get (D := D) (ci := 10) (v := .int 12) (C := RX10) (T := TX10) (N := 81) hx hb hts inX10 hown hK hP 0 rfl rfl 16 (by decide) (hts _ b_1330) (fun _ h9 => h9) rfl dX10_four_12 ?_
  refine lv_iload_n hx hb dX10_four_15 rfl (lv_at hl 2 rfl) ?_
  refine lv_iload_n hx hb dX10_four_16 rfl (lv_at hl 0 rfl) ?_
  refine lv_ishr hx hb dX10_four_17 ?_
  refine lv_i2b (v := ((v >>> (24 &&& 31))).toInt8.toInt32) hx hb dX10_four_18 rfl ?_
  refine va_bast hx hb hK hP hD hS 1 2 rfl rfl (by unfold vp_in; decide) dX10_four_19 (fun H locs hP hD hS => ?_)
  have hP : va_P D k_cl [(a, .inr (10, ((mfs ad).set 16 (.int 12)))), ((ad 15), .inl (E 2, 2000, .inl (upd f (12 : Int32).toNatClampNeg (vp_nar .byte (((v >>> (24 &&& 31))).toInt8.toInt32)))))] H := hP
  have hD : va_D A [(a, .inr (10, ((mfs ad).set 16 (.int 12)))), ((ad 15), .inl (E 2, 2000, .inl (upd f (12 : Int32).toNatClampNeg (vp_nar .byte (((v >>> (24 &&& 31))).toInt8.toInt32)))))] := hD
  generalize (upd f (12 : Int32).toNatClampNeg (vp_nar .byte (((v >>> (24 &&& 31))).toInt8.toInt32))) = f_1 at hP hD
  refine lv_aload_n hx hb dX10_four_20 rfl (lv_at hl 1 rfl) ?_
  refine lv_dup hx hb dX10_four_21 rfl ?_
  refine va_get (D := D) (ci := 10) (v := .int 12) (C := RX10) (T := TX10) (N := 81) hx hb hts inX10 hown hK hP 0 rfl rfl 16 (by decide) (hts _ b_1330) (fun _ h9 => h9) rfl dX10_four_22 ?_
  refine lv_iconst (v := 1) hx hb dX10_four_25 (by decide) ?_
  refine lv_iadd hx hb dX10_four_26 ?_
  refine k_ti (y := 13) (by decide) ?_
  refine va_put (D := D) (ci := 10) (v := .int 13) (ty := .int) (C := RX10) (T := TX10) (N := 81) hx hb hts inX10 tyX10 tyX10_ok nmX10 hown hK hP hD hS 0 rfl rfl 16 (by decide) (hts _ b_1330) (fun _ h9 => h9) rfl (by decide +kernel) rfl rfl (Nat.le_of_ble_eq_true rfl) dX10_four_27 (fun H locs hP hD hS => ?_)
  have hP : va_P D k_cl [(a, .inr (10, ((mfs ad).set 16 (.int 13)))), ((ad 15), .inl (E 2, 2000, .inl f_1))] H := hP
  have hD : va_D A [(a, .inr (10, ((mfs ad).set 16 (.int 13)))), ((ad 15), .inl (E 2, 2000, .inl f_1))] := hD
  refine lv_iinc (v := 16) (lv' := [(2, .int 16), (0, .ref a), (1, .int v)]) hx hb dX10_four_30 hl (k := 0) rfl (by decide) (by decide) rfl (fun ls hl => ?_)
  refine lv_goto (tgt := 3) hx hb dX10_four_33 (by decide) ?_
  refine lv_iload_n hx hb dX10_four_3 rfl (lv_at hl 0 rfl) ?_
  refine lv_if_lt (tgt := 36) hx hb dX10_four_4 (by decide) (fun h9 => absurd h9 (by decide)) (fun _ => ?_)
  refine lv_aload_n hx hb dX10_four_7 rfl (lv_at hl 1 rfl) ?_
  refine va_get (D := D) (ci := 10) (v := .ref (ad 15)) (C := RX10) (T := TX10) (N := 81) hx hb hts inX10 hown hK hP 0 rfl rfl 15 (by decide) (hts _ b_1329) (fun _ h9 => h9) rfl dX10_four_8 ?_
  refine lv_aload_n hx hb dX10_four_11 rfl (lv_at hl 1 rfl) ?_
  refine va_get (D := D) (ci := 10) (v := .int 13) (C := RX10) (T := TX10) (N := 81) hx hb hts inX10 hown hK hP 0 rfl rfl 16 (by decide) (hts _ b_1330) (fun _ h9 => h9) rfl dX10_four_12 ?_
  refine lv_iload_n hx hb dX10_four_15 rfl (lv_at hl 2 rfl) ?_
  refine lv_iload_n hx hb dX10_four_16 rfl (lv_at hl 0 rfl) ?_
  refine lv_ishr hx hb dX10_four_17 ?_
  refine lv_i2b (v := ((v >>> (16 &&& 31))).toInt8.toInt32) hx hb dX10_four_18 rfl ?_
  refine va_bast hx hb hK hP hD hS 1 2 rfl rfl (by unfold vp_in; decide) dX10_four_19 (fun H locs hP hD hS => ?_)
  have hP : va_P D k_cl [(a, .inr (10, ((mfs ad).set 16 (.int 13)))), ((ad 15), .inl (E 2, 2000, .inl (upd f_1 (13 : Int32).toNatClampNeg (vp_nar .byte (((v >>> (16 &&& 31))).toInt8.toInt32)))))] H := hP
  have hD : va_D A [(a, .inr (10, ((mfs ad).set 16 (.int 13)))), ((ad 15), .inl (E 2, 2000, .inl (upd f_1 (13 : Int32).toNatClampNeg (vp_nar .byte (((v >>> (16 &&& 31))).toInt8.toInt32)))))] := hD
  generalize (upd f_1 (13 : Int32).toNatClampNeg (vp_nar .byte (((v >>> (16 &&& 31))).toInt8.toInt32))) = f_2 at hP hD
  refine lv_aload_n hx hb dX10_four_20 rfl (lv_at hl 1 rfl) ?_
  refine lv_dup hx hb dX10_four_21 rfl ?_
  refine va_get (D := D) (ci := 10) (v := .int 13) (C := RX10) (T := TX10) (N := 81) hx hb hts inX10 hown hK hP 0 rfl rfl 16 (by decide) (hts _ b_1330) (fun _ h9 => h9) rfl dX10_four_22 ?_
  refine lv_iconst (v := 1) hx hb dX10_four_25 (by decide) ?_
  refine lv_iadd hx hb dX10_four_26 ?_
  refine k_ti (y := 14) (by decide) ?_
  refine va_put (D := D) (ci := 10) (v := .int 14) (ty := .int) (C := RX10) (T := TX10) (N := 81) hx hb hts inX10 tyX10 tyX10_ok nmX10 hown hK hP hD hS 0 rfl rfl 16 (by decide) (hts _ b_1330) (fun _ h9 => h9) rfl (by decide +kernel) rfl rfl (Nat.le_of_ble_eq_true rfl) dX10_four_27 (fun H locs hP hD hS => ?_)
  have hP : va_P D k_cl [(a, .inr (10, ((mfs ad).set 16 (.int 14)))), ((ad 15), .inl (E 2, 2000, .inl f_2))] H := hP
  have hD : va_D A [(a, .inr (10, ((mfs ad).set 16 (.int 14)))), ((ad 15), .inl (E 2, 2000, .inl f_2))] := hD
  refine lv_iinc (v := 8) (lv' := [(2, .int 8), (0, .ref a), (1, .int v)]) hx hb dX10_four_30 hl (k := 0) rfl (by decide) (by decide) rfl (fun ls hl => ?_)
  refine lv_goto (tgt := 3) hx hb dX10_four_33 (by decide) ?_
  refine lv_iload_n hx hb dX10_four_3 rfl (lv_at hl 0 rfl) ?_
  refine lv_if_lt (tgt := 36) hx hb dX10_four_4 (by decide) (fun h9 => absurd h9 (by decide)) (fun _ => ?_)
  refine lv_aload_n hx hb dX10_four_7 rfl (lv_at hl 1 rfl) ?_
  refine va_get (D := D) (ci := 10) (v := .ref (ad 15)) (C := RX10) (T := TX10) (N := 81) hx hb hts inX10 hown hK hP 0 rfl rfl 15 (by decide) (hts _ b_1329) (fun _ h9 => h9) rfl dX10_four_8 ?_
  refine lv_aload_n hx hb dX10_four_11 rfl (lv_at hl 1 rfl) ?_
  refine va_get (D := D) (ci := 10) (v := .int 14) (C := RX10) (T := TX10) (N := 81) hx hb hts inX10 hown hK hP 0 rfl rfl 16 (by decide) (hts _ b_1330) (fun _ h9 => h9) rfl dX10_four_12 ?_
  refine lv_iload_n hx hb dX10_four_15 rfl (lv_at hl 2 rfl) ?_
  refine lv_iload_n hx hb dX10_four_16 rfl (lv_at hl 0 rfl) ?_
  refine lv_ishr hx hb dX10_four_17 ?_
  refine lv_i2b (v := ((v >>> (8 &&& 31))).toInt8.toInt32) hx hb dX10_four_18 rfl ?_
  refine va_bast hx hb hK hP hD hS 1 2 rfl rfl (by unfold vp_in; decide) dX10_four_19 (fun H locs hP hD hS => ?_)
  have hP : va_P D k_cl [(a, .inr (10, ((mfs ad).set 16 (.int 14)))), ((ad 15), .inl (E 2, 2000, .inl (upd f_2 (14 : Int32).toNatClampNeg (vp_nar .byte (((v >>> (8 &&& 31))).toInt8.toInt32)))))] H := hP
  have hD : va_D A [(a, .inr (10, ((mfs ad).set 16 (.int 14)))), ((ad 15), .inl (E 2, 2000, .inl (upd f_2 (14 : Int32).toNatClampNeg (vp_nar .byte (((v >>> (8 &&& 31))).toInt8.toInt32)))))] := hD
  generalize (upd f_2 (14 : Int32).toNatClampNeg (vp_nar .byte (((v >>> (8 &&& 31))).toInt8.toInt32))) = f_3 at hP hD
  refine lv_aload_n hx hb dX10_four_20 rfl (lv_at hl 1 rfl) ?_
  refine lv_dup hx hb dX10_four_21 rfl ?_
  refine va_get (D := D) (ci := 10) (v := .int 14) (C := RX10) (T := TX10) (N := 81) hx hb hts inX10 hown hK hP 0 rfl rfl 16 (by decide) (hts _ b_1330) (fun _ h9 => h9) rfl dX10_four_22 ?_
  refine lv_iconst (v := 1) hx hb dX10_four_25 (by decide) ?_
  refine lv_iadd hx hb dX10_four_26 ?_
  refine k_ti (y := 15) (by decide) ?_
  refine va_put (D := D) (ci := 10) (v := .int 15) (ty := .int) (C := RX10) (T := TX10) (N := 81) hx hb hts inX10 tyX10 tyX10_ok nmX10 hown hK hP hD hS 0 rfl rfl 16 (by decide) (hts _ b_1330) (fun _ h9 => h9) rfl (by decide +kernel) rfl rfl (Nat.le_of_ble_eq_true rfl) dX10_four_27 (fun H locs hP hD hS => ?_)
  have hP : va_P D k_cl [(a, .inr (10, ((mfs ad).set 16 (.int 15)))), ((ad 15), .inl (E 2, 2000, .inl f_3))] H := hP
  have hD : va_D A [(a, .inr (10, ((mfs ad).set 16 (.int 15)))), ((ad 15), .inl (E 2, 2000, .inl f_3))] := hD
  refine lv_iinc (v := 0) (lv' := [(2, .int 0), (0, .ref a), (1, .int v)]) hx hb dX10_four_30 hl (k := 0) rfl (by decide) (by decide) rfl (fun ls hl => ?_)
  refine lv_goto (tgt := 3) hx hb dX10_four_33 (by decide) ?_
  refine lv_iload_n hx hb dX10_four_3 rfl (lv_at hl 0 rfl) ?_
  refine lv_if_lt (tgt := 36) hx hb dX10_four_4 (by decide) (fun h9 => absurd h9 (by decide)) (fun _ => ?_)
  refine lv_aload_n hx hb dX10_four_7 rfl (lv_at hl 1 rfl) ?_
  refine va_get (D := D) (ci := 10) (v := .ref (ad 15)) (C := RX10) (T := TX10) (N := 81) hx hb hts inX10 hown hK hP 0 rfl rfl 15 (by decide) (hts _ b_1329) (fun _ h9 => h9) rfl dX10_four_8 ?_
  refine lv_aload_n hx hb dX10_four_11 rfl (lv_at hl 1 rfl) ?_
  refine va_get (D := D) (ci := 10) (v := .int 15) (C := RX10) (T := TX10) (N := 81) hx hb hts inX10 hown hK hP 0 rfl rfl 16 (by decide) (hts _ b_1330) (fun _ h9 => h9) rfl dX10_four_12 ?_
  refine lv_iload_n hx hb dX10_four_15 rfl (lv_at hl 2 rfl) ?_
  refine lv_iload_n hx hb dX10_four_16 rfl (lv_at hl 0 rfl) ?_
  refine lv_ishr hx hb dX10_four_17 ?_
  refine lv_i2b (v := ((v >>> (0 &&& 31))).toInt8.toInt32) hx hb dX10_four_18 rfl ?_
  refine va_bast hx hb hK hP hD hS 1 2 rfl rfl (by unfold vp_in; decide) dX10_four_19 (fun H locs hP hD hS => ?_)
  have hP : va_P D k_cl [(a, .inr (10, ((mfs ad).set 16 (.int 15)))), ((ad 15), .inl (E 2, 2000, .inl (upd f_3 (15 : Int32).toNatClampNeg (vp_nar .byte (((v >>> (0 &&& 31))).toInt8.toInt32)))))] H := hP
  have hD : va_D A [(a, .inr (10, ((mfs ad).set 16 (.int 15)))), ((ad 15), .inl (E 2, 2000, .inl (upd f_3 (15 : Int32).toNatClampNeg (vp_nar .byte (((v >>> (0 &&& 31))).toInt8.toInt32)))))] := hD
  generalize (upd f_3 (15 : Int32).toNatClampNeg (vp_nar .byte (((v >>> (0 &&& 31))).toInt8.toInt32))) = f_4 at hP hD
  refine lv_aload_n hx hb dX10_four_20 rfl (lv_at hl 1 rfl) ?_
  refine lv_dup hx hb dX10_four_21 rfl ?_
  refine va_get (D := D) (ci := 10) (v := .int 15) (C := RX10) (T := TX10) (N := 81) hx hb hts inX10 hown hK hP 0 rfl rfl 16 (by decide) (hts _ b_1330) (fun _ h9 => h9) rfl dX10_four_22 ?_
  refine lv_iconst (v := 1) hx hb dX10_four_25 (by decide) ?_
  refine lv_iadd hx hb dX10_four_26 ?_
  refine k_ti (y := 16) (by decide) ?_
  refine va_put (D := D) (ci := 10) (v := .int 16) (ty := .int) (C := RX10) (T := TX10) (N := 81) hx hb hts inX10 tyX10 tyX10_ok nmX10 hown hK hP hD hS 0 rfl rfl 16 (by decide) (hts _ b_1330) (fun _ h9 => h9) rfl (by decide +kernel) rfl rfl (Nat.le_of_ble_eq_true rfl) dX10_four_27 (fun H locs hP hD hS => ?_)
  have hP : va_P D k_cl [(a, .inr (10, ((mfs ad).set 16 (.int 16)))), ((ad 15), .inl (E 2, 2000, .inl f_4))] H := hP
  have hD : va_D A [(a, .inr (10, ((mfs ad).set 16 (.int 16)))), ((ad 15), .inl (E 2, 2000, .inl f_4))] := hD
  refine lv_iinc (v := (-8)) (lv' := [(2, .int (-8)), (0, .ref a), (1, .int v)]) hx hb dX10_four_30 hl (k := 0) rfl (by decide) (by decide) rfl (fun ls hl => ?_)
  refine lv_goto (tgt := 3) hx hb dX10_four_33 (by decide) ?_
  refine lv_iload_n hx hb dX10_four_3 rfl (lv_at hl 0 rfl) ?_
  refine lv_if_lt (tgt := 36) hx hb dX10_four_4 (by decide) (fun _ => ?_) (fun h9 => absurd (by decide) h9)
  exact m_v f_4 hx hb hr hlocks rfl trivial (hP.sub [0, 1] rfl) (hD.sub [0, 1] (by decide) rfl) hS (by decide) (by decide) dX10_four_36
set_option maxRecDepth 20000 in
set_option maxHeartbeats 2000000 in
theorem m_four_16 (l : Launch) (D : va_G) (E : Nat → ClassId) (sa : Nat → Nat) (a : Nat) (ad : Nat → Nat) (f : Nat → Int32) (v : Int32) : KM l yX10_four (.code yX10_four cX10_four 3 none) 12 400 0 0 D E sa [.ref a, .int v] [(a, .inr (10, ((mfs ad).set 16 (.int 16)))), ((ad 15), .inl (E 2, 2000, .inl f))] (S := (Nat → Int32)) (fun u => none) (fun _ => True) (fun u => [(a, .inr (10, ((mfs ad).set 16 (.int 20)))), ((ad 15), .inl (E 2, 2000, .inl u))]) := by
  refine KM.of (by decide) (Nat.le_of_ble_eq_true rfl) ?_
  intro p e s m below meth c A ls hx hb hr hts hml hown hlocks hnm hK hP hD hA hS hZ hl
  have hown : s.vm.findClass RX10 = some m.cls := hown
  have hl : lv_has ls 3 [(0, .ref a), (1, .int v)] := hl
  refine lv_bipush (v := 24) hx hb dX10_four_0 (by decide) ?_
  refine lv_istore_n (lv' := [(2, .int 24), (0, .ref a), (1, .int v)]) hx hb dX10_four_2 rfl hl (by decide) rfl (fun ls hl => ?_)
  refine lv_iload_n hx hb dX10_four_3 rfl (lv_at hl 0 rfl) ?_
  refine lv_if_lt (tgt := 36) hx hb dX10_four_4 (by decide) (fun h9 => absurd h9 (by decide)) (fun _ => ?_)
  refine lv_aload_n hx hb dX10_four_7 rfl (lv_at hl 1 rfl) ?_
  refine va_get (D := D) (ci := 10) (v := .ref (ad 15)) (C := RX10) (T := TX10) (N := 81) hx hb hts inX10 hown hK hP 0 rfl rfl 15 (by decide) (hts _ b_1329) (fun _ h9 => h9) rfl dX10_four_8 ?_
  refine lv_aload_n hx hb dX10_four_11 rfl (lv_at hl 1 rfl) ?_
  refine va_get (D := D) (ci := 10) (v := .int 16) (C := RX10) (T := TX10) (N := 81) hx hb hts inX10 hown hK hP 0 rfl rfl 16 (by decide) (hts _ b_1330) (fun _ h9 => h9) rfl dX10_four_12 ?_
  refine lv_iload_n hx hb dX10_four_15 rfl (lv_at hl 2 rfl) ?_
  refine lv_iload_n hx hb dX10_four_16 rfl (lv_at hl 0 rfl) ?_
  refine lv_ishr hx hb dX10_four_17 ?_
  refine lv_i2b (v := ((v >>> (24 &&& 31))).toInt8.toInt32) hx hb dX10_four_18 rfl ?_
  refine va_bast hx hb hK hP hD hS 1 2 rfl rfl (by unfold vp_in; decide) dX10_four_19 (fun H locs hP hD hS => ?_)
  have hP : va_P D k_cl [(a, .inr (10, ((mfs ad).set 16 (.int 16)))), ((ad 15), .inl (E 2, 2000, .inl (upd f (16 : Int32).toNatClampNeg (vp_nar .byte (((v >>> (24 &&& 31))).toInt8.toInt32)))))] H := hP
  have hD : va_D A [(a, .inr (10, ((mfs ad).set 16 (.int 16)))), ((ad 15), .inl (E 2, 2000, .inl (upd f (16 : Int32).toNatClampNeg (vp_nar .byte (((v >>> (24 &&& 31))).toInt8.toInt32)))))] := hD
  generalize (upd f (16 : Int32).toNatClampNeg (vp_nar .byte (((v >>> (24 &&& 31))).toInt8.toInt32))) = f_1 at hP hD
  refine lv_aload_n hx hb dX10_four_20 rfl (lv_at hl 1 rfl) ?_
  refine lv_dup hx hb dX10_four_21 rfl ?_
  refine va_get (D := D) (ci := 10) (v := .int 16) (C := RX10) (T := TX10) (N := 81) hx hb hts inX10 hown hK hP 0 rfl rfl 16 (by decide) (hts _ b_1330) (fun _ h9 => h9) rfl dX10_four_22 ?_
  refine lv_iconst (v := 1) hx hb dX10_four_25 (by decide) ?_
  refine lv_iadd hx hb dX10_four_26 ?_
  refine k_ti (y := 17) (by decide) ?_
  refine va_put (D := D) (ci := 10) (v := .int 17) (ty := .int) (C := RX10) (T := TX10) (N := 81) hx hb hts inX10 tyX10 tyX10_ok nmX10 hown hK hP hD hS 0 rfl rfl 16 (by decide) (hts _ b_1330) (fun _ h9 => h9) rfl (by decide +kernel) rfl rfl (Nat.le_of_ble_eq_true rfl) dX10_four_27 (fun H locs hP hD hS => ?_)
  have hP : va_P D k_cl [(a, .inr (10, ((mfs ad).set 16 (.int 17)))), ((ad 15), .inl (E 2, 2000, .inl f_1))] H := hP
  have hD : va_D A [(a, .inr (10, ((mfs ad).set 16 (.int 17)))), ((ad 15), .inl (E 2, 2000, .inl f_1))] := hD
  refine lv_iinc (v := 16) (lv' := [(2, .int 16), (0, .ref a), (1, .int v)]) hx hb dX10_four_30 hl (k := 0) rfl (by decide) (by decide) rfl (fun ls hl => ?_)
  refine lv_goto (tgt := 3) hx hb dX10_four_33 (by decide) ?_
  refine lv_iload_n hx hb dX10_four_3 rfl (lv_at hl 0 rfl) ?_
  refine lv_if_lt (tgt := 36) hx hb dX10_four_4 (by decide) (fun h9 => absurd h9 (by decide)) (fun _ => ?_)
  refine lv_aload_n hx hb dX10_four_7 rfl (lv_at hl 1 rfl) ?_
  refine va_get (D := D) (ci := 10) (v := .ref (ad 15)) (C := RX10) (T := TX10) (N := 81) hx hb hts inX10 hown hK hP 0 rfl rfl 15 (by decide) (hts _ b_1329) (fun _ h9 => h9) rfl dX10_four_8 ?_
  refine lv_aload_n hx hb dX10_four_11 rfl (lv_at hl 1 rfl) ?_
  refine va_get (D := D) (ci := 10) (v := .int 17) (C := RX10) (T := TX10) (N := 81) hx hb hts inX10 hown hK hP 0 rfl rfl 16 (by decide) (hts _ b_1330) (fun _ h9 => h9) rfl dX10_four_12 ?_
  refine lv_iload_n hx hb dX10_four_15 rfl (lv_at hl 2 rfl) ?_
  refine lv_iload_n hx hb dX10_four_16 rfl (lv_at hl 0 rfl) ?_
  refine lv_ishr hx hb dX10_four_17 ?_
  refine lv_i2b (v := ((v >>> (16 &&& 31))).toInt8.toInt32) hx hb dX10_four_18 rfl ?_
  refine va_bast hx hb hK hP hD hS 1 2 rfl rfl (by unfold vp_in; decide) dX10_four_19 (fun H locs hP hD hS => ?_)
  have hP : va_P D k_cl [(a, .inr (10, ((mfs ad).set 16 (.int 17)))), ((ad 15), .inl (E 2, 2000, .inl (upd f_1 (17 : Int32).toNatClampNeg (vp_nar .byte (((v >>> (16 &&& 31))).toInt8.toInt32)))))] H := hP
  have hD : va_D A [(a, .inr (10, ((mfs ad).set 16 (.int 17)))), ((ad 15), .inl (E 2, 2000, .inl (upd f_1 (17 : Int32).toNatClampNeg (vp_nar .byte (((v >>> (16 &&& 31))).toInt8.toInt32)))))] := hD
  generalize (upd f_1 (17 : Int32).toNatClampNeg (vp_nar .byte (((v >>> (16 &&& 31))).toInt8.toInt32))) = f_2 at hP hD
  refine lv_aload_n hx hb dX10_four_20 rfl (lv_at hl 1 rfl) ?_
  refine lv_dup hx hb dX10_four_21 rfl ?_
  refine va_get (D := D) (ci := 10) (v := .int 17) (C := RX10) (T := TX10) (N := 81) hx hb hts inX10 hown hK hP 0 rfl rfl 16 (by decide) (hts _ b_1330) (fun _ h9 => h9) rfl dX10_four_22 ?_
  refine lv_iconst (v := 1) hx hb dX10_four_25 (by decide) ?_
  refine lv_iadd hx hb dX10_four_26 ?_
  refine k_ti (y := 18) (by decide) ?_
  refine va_put (D := D) (ci := 10) (v := .int 18) (ty := .int) (C := RX10) (T := TX10) (N := 81) hx hb hts inX10 tyX10 tyX10_ok nmX10 hown hK hP hD hS 0 rfl rfl 16 (by decide) (hts _ b_1330) (fun _ h9 => h9) rfl (by decide +kernel) rfl rfl (Nat.le_of_ble_eq_true rfl) dX10_four_27 (fun H locs hP hD hS => ?_)
  have hP : va_P D k_cl [(a, .inr (10, ((mfs ad).set 16 (.int 18)))), ((ad 15), .inl (E 2, 2000, .inl f_2))] H := hP
  have hD : va_D A [(a, .inr (10, ((mfs ad).set 16 (.int 18)))), ((ad 15), .inl (E 2, 2000, .inl f_2))] := hD
  refine lv_iinc (v := 8) (lv' := [(2, .int 8), (0, .ref a), (1, .int v)]) hx hb dX10_four_30 hl (k := 0) rfl (by decide) (by decide) rfl (fun ls hl => ?_)
  refine lv_goto (tgt := 3) hx hb dX10_four_33 (by decide) ?_
  refine lv_iload_n hx hb dX10_four_3 rfl (lv_at hl 0 rfl) ?_
  refine lv_if_lt (tgt := 36) hx hb dX10_four_4 (by decide) (fun h9 => absurd h9 (by decide)) (fun _ => ?_)
  refine lv_aload_n hx hb dX10_four_7 rfl (lv_at hl 1 rfl) ?_
  refine va_get (D := D) (ci := 10) (v := .ref (ad 15)) (C := RX10) (T := TX10) (N := 81) hx hb hts inX10 hown hK hP 0 rfl rfl 15 (by decide) (hts _ b_1329) (fun _ h9 => h9) rfl dX10_four_8 ?_
  refine lv_aload_n hx hb dX10_four_11 rfl (lv_at hl 1 rfl) ?_
  refine va_get (D := D) (ci := 10) (v := .int 18) (C := RX10) (T := TX10) (N := 81) hx hb hts inX10 hown hK hP 0 rfl rfl 16 (by decide) (hts _ b_1330) (fun _ h9 => h9) rfl dX10_four_12 ?_
  refine lv_iload_n hx hb dX10_four_15 rfl (lv_at hl 2 rfl) ?_
  refine lv_iload_n hx hb dX10_four_16 rfl (lv_at hl 0 rfl) ?_
  refine lv_ishr hx hb dX10_four_17 ?_
  refine lv_i2b (v := ((v >>> (8 &&& 31))).toInt8.toInt32) hx hb dX10_four_18 rfl ?_
  refine va_bast hx hb hK hP hD hS 1 2 rfl rfl (by unfold vp_in; decide) dX10_four_19 (fun H locs hP hD hS => ?_)
  have hP : va_P D k_cl [(a, .inr (10, ((mfs ad).set 16 (.int 18)))), ((ad 15), .inl (E 2, 2000, .inl (upd f_2 (18 : Int32).toNatClampNeg (vp_nar .byte (((v >>> (8 &&& 31))).toInt8.toInt32)))))] H := hP
  have hD : va_D A [(a, .inr (10, ((mfs ad).set 16 (.int 18)))), ((ad 15), .inl (E 2, 2000, .inl (upd f_2 (18 : Int32).toNatClampNeg (vp_nar .byte (((v >>> (8 &&& 31))).toInt8.toInt32)))))] := hD
  generalize (upd f_2 (18 : Int32).toNatClampNeg (vp_nar .byte (((v >>> (8 &&& 31))).toInt8.toInt32))) = f_3 at hP hD
  refine lv_aload_n hx hb dX10_four_20 rfl (lv_at hl 1 rfl) ?_
  refine lv_dup hx hb dX10_four_21 rfl ?_
  refine va_get (D := D) (ci := 10) (v := .int 18) (C := RX10) (T := TX10) (N := 81) hx hb hts inX10 hown hK hP 0 rfl rfl 16 (by decide) (hts _ b_1330) (fun _ h9 => h9) rfl dX10_four_22 ?_
  refine lv_iconst (v := 1) hx hb dX10_four_25 (by decide) ?_
  refine lv_iadd hx hb dX10_four_26 ?_
  refine k_ti (y := 19) (by decide) ?_
  refine va_put (D := D) (ci := 10) (v := .int 19) (ty := .int) (C := RX10) (T := TX10) (N := 81) hx hb hts inX10 tyX10 tyX10_ok nmX10 hown hK hP hD hS 0 rfl rfl 16 (by decide) (hts _ b_1330) (fun _ h9 => h9) rfl (by decide +kernel) rfl rfl (Nat.le_of_ble_eq_true rfl) dX10_four_27 (fun H locs hP hD hS => ?_)
  have hP : va_P D k_cl [(a, .inr (10, ((mfs ad).set 16 (.int 19)))), ((ad 15), .inl (E 2, 2000, .inl f_3))] H := hP
  have hD : va_D A [(a, .inr (10, ((mfs ad).set 16 (.int 19)))), ((ad 15), .inl (E 2, 2000, .inl f_3))] := hD
  refine lv_iinc (v := 0) (lv' := [(2, .int 0), (0, .ref a), (1, .int v)]) hx hb dX10_four_30 hl (k := 0) rfl (by decide) (by decide) rfl (fun ls hl => ?_)
  refine lv_goto (tgt := 3) hx hb dX10_four_33 (by decide) ?_
  refine lv_iload_n hx hb dX10_four_3 rfl (lv_at hl 0 rfl) ?_
  refine lv_if_lt (tgt := 36) hx hb dX10_four_4 (by decide) (fun h9 => absurd h9 (by decide)) (fun _ => ?_)
  refine lv_aload_n hx hb dX10_four_7 rfl (lv_at hl 1 rfl) ?_
  refine va_get (D := D) (ci := 10) (v := .ref (ad 15)) (C := RX10) (T := TX10) (N := 81) hx hb hts inX10 hown hK hP 0 rfl rfl 15 (by decide) (hts _ b_1329) (fun _ h9 => h9) rfl dX10_four_8 ?_
  refine lv_aload_n hx hb dX10_four_11 rfl (lv_at hl 1 rfl) ?_
  refine va_get (D := D) (ci := 10) (v := .int 19) (C := RX10) (T := TX10) (N := 81) hx hb hts inX10 hown hK hP 0 rfl rfl 16 (by decide) (hts _ b_1330) (fun _ h9 => h9) rfl dX10_four_12 ?_
  refine lv_iload_n hx hb dX10_four_15 rfl (lv_at hl 2 rfl) ?_
  refine lv_iload_n hx hb dX10_four_16 rfl (lv_at hl 0 rfl) ?_
  refine lv_ishr hx hb dX10_four_17 ?_
  refine lv_i2b (v := ((v >>> (0 &&& 31))).toInt8.toInt32) hx hb dX10_four_18 rfl ?_
  refine va_bast hx hb hK hP hD hS 1 2 rfl rfl (by unfold vp_in; decide) dX10_four_19 (fun H locs hP hD hS => ?_)
  have hP : va_P D k_cl [(a, .inr (10, ((mfs ad).set 16 (.int 19)))), ((ad 15), .inl (E 2, 2000, .inl (upd f_3 (19 : Int32).toNatClampNeg (vp_nar .byte (((v >>> (0 &&& 31))).toInt8.toInt32)))))] H := hP
  have hD : va_D A [(a, .inr (10, ((mfs ad).set 16 (.int 19)))), ((ad 15), .inl (E 2, 2000, .inl (upd f_3 (19 : Int32).toNatClampNeg (vp_nar .byte (((v >>> (0 &&& 31))).toInt8.toInt32)))))] := hD
  generalize (upd f_3 (19 : Int32).toNatClampNeg (vp_nar .byte (((v >>> (0 &&& 31))).toInt8.toInt32))) = f_4 at hP hD
  refine lv_aload_n hx hb dX10_four_20 rfl (lv_at hl 1 rfl) ?_
  refine lv_dup hx hb dX10_four_21 rfl ?_
  refine va_get (D := D) (ci := 10) (v := .int 19) (C := RX10) (T := TX10) (N := 81) hx hb hts inX10 hown hK hP 0 rfl rfl 16 (by decide) (hts _ b_1330) (fun _ h9 => h9) rfl dX10_four_22 ?_
  refine lv_iconst (v := 1) hx hb dX10_four_25 (by decide) ?_
  refine lv_iadd hx hb dX10_four_26 ?_
  refine k_ti (y := 20) (by decide) ?_
  refine va_put (D := D) (ci := 10) (v := .int 20) (ty := .int) (C := RX10) (T := TX10) (N := 81) hx hb hts inX10 tyX10 tyX10_ok nmX10 hown hK hP hD hS 0 rfl rfl 16 (by decide) (hts _ b_1330) (fun _ h9 => h9) rfl (by decide +kernel) rfl rfl (Nat.le_of_ble_eq_true rfl) dX10_four_27 (fun H locs hP hD hS => ?_)
  have hP : va_P D k_cl [(a, .inr (10, ((mfs ad).set 16 (.int 20)))), ((ad 15), .inl (E 2, 2000, .inl f_4))] H := hP
  have hD : va_D A [(a, .inr (10, ((mfs ad).set 16 (.int 20)))), ((ad 15), .inl (E 2, 2000, .inl f_4))] := hD
  refine lv_iinc (v := (-8)) (lv' := [(2, .int (-8)), (0, .ref a), (1, .int v)]) hx hb dX10_four_30 hl (k := 0) rfl (by decide) (by decide) rfl (fun ls hl => ?_)
  refine lv_goto (tgt := 3) hx hb dX10_four_33 (by decide) ?_
  refine lv_iload_n hx hb dX10_four_3 rfl (lv_at hl 0 rfl) ?_
  refine lv_if_lt (tgt := 36) hx hb dX10_four_4 (by decide) (fun _ => ?_) (fun h9 => absurd (by decide) h9)
  exact m_v f_4 hx hb hr hlocks rfl trivial (hP.sub [0, 1] rfl) (hD.sub [0, 1] (by decide) rfl) hS (by decide) (by decide) dX10_four_36
set_option maxRecDepth 20000 in
set_option maxHeartbeats 2000000 in
theorem m_comes (l : Launch) (D : va_G) (E : Nat → ClassId) (sa : Nat → Nat) (a : Nat) (ad : Nat → Nat) (v : Int32) (w : Int32) : KM l yX10_comes (.code yX10_comes cX10_comes 3 none) 12 400 0 0 D E sa [.ref a, .int v, .int w] [(a, .inr (10, (mfs ad))), ((ad 2), .inl (E 0, 36, .inl (fun _ => 0))), ((ad 3), .inl (E 0, 36, .inl (fun _ => 0))), ((ad 4), .inl (E 1, 36, .inr (.inl (fun _ => 0)))), ((ad 47), .inl (E 0, 36, .inl (fun _ => 0)))] (S := Unit) (fun _ => none) (fun _ => True) (fun _ => [(a, .inr (10, ((mfs ad).set 1 (.int 1))))]) := by
  refine KM.of (by decide) (Nat.le_of_ble_eq_true rfl) ?_
  intro p e s m below meth c A ls hx hb hr hts hml hown hlocks hnm hK hP hD hA hS hZ hl
  have hown : s.vm.findClass RX10 = some m.cls := hown
  have hl : lv_has ls 3 [(0, .ref a), (1, .int v), (2, .int w)] := hl
  refine lv_aload_n hx hb dX10_comes_0 rfl (lv_at hl 0 rfl) ?_
  refine va_get (D := D) (ci := 10) (v := .ref (ad 2)) (C := RX10) (T := TX10) (N := 81) hx hb hts inX10 hown hK hP 0 rfl rfl 2 (by decide) (hts _ b_1316) (fun _ h9 => h9) rfl dX10_comes_1 ?_
  refine lv_aload_n hx hb dX10_comes_4 rfl (lv_at hl 0 rfl) ?_
  refine va_get (D := D) (ci := 10) (v := .int 0) (C := RX10) (T := TX10) (N := 81) hx hb hts inX10 hown hK hP 0 rfl rfl 1 (by decide) (hts _ b_1315) (fun _ h9 => h9) rfl dX10_comes_5 ?_
  refine lv_iload_n hx hb dX10_comes_8 rfl (lv_at hl 1 rfl) ?_
  refine va_iast hx hb hK hP hD hS 1 0 rfl rfl (by unfold vp_in; decide) dX10_comes_9 (fun H locs hP hD hS => ?_)
  have hP : va_P D k_cl [(a, .inr (10, (mfs ad))), ((ad 2), .inl (E 0, 36, .inl (upd (fun _ => 0) (0 : Int32).toNatClampNeg v))), ((ad 3), .inl (E 0, 36, .inl (fun _ => 0))), ((ad 4), .inl (E 1, 36, .inr (.inl (fun _ => 0)))), ((ad 47), .inl (E 0, 36, .inl (fun _ => 0)))] H := hP
  have hD : va_D A [(a, .inr (10, (mfs ad))), ((ad 2), .inl (E 0, 36, .inl (upd (fun _ => 0) (0 : Int32).toNatClampNeg v))), ((ad 3), .inl (E 0, 36, .inl (fun _ => 0))), ((ad 4), .inl (E 1, 36, .inr (.inl (fun _ => 0)))), ((ad 47), .inl (E 0, 36, .inl (fun _ => 0)))] := hD
  generalize (upd (fun _ => 0) (0 : Int32).toNatClampNeg v) = f_1 at hP hD
  refine lv_aload_n hx hb dX10_comes_10 rfl (lv_at hl 0 rfl) ?_
  refine va_get (D := D) (ci := 10) (v := .ref (ad 3)) (C := RX10) (T := TX10) (N := 81) hx hb hts inX10 hown hK hP 0 rfl rfl 3 (by decide) (hts _ b_1317) (fun _ h9 => h9) rfl dX10_comes_11 ?_
  refine lv_aload_n hx hb dX10_comes_14 rfl (lv_at hl 0 rfl) ?_
  refine va_get (D := D) (ci := 10) (v := .int 0) (C := RX10) (T := TX10) (N := 81) hx hb hts inX10 hown hK hP 0 rfl rfl 1 (by decide) (hts _ b_1315) (fun _ h9 => h9) rfl dX10_comes_15 ?_
  refine lv_iload_n hx hb dX10_comes_18 rfl (lv_at hl 2 rfl) ?_
  refine va_iast hx hb hK hP hD hS 2 0 rfl rfl (by unfold vp_in; decide) dX10_comes_19 (fun H locs hP hD hS => ?_)
  have hP : va_P D k_cl [(a, .inr (10, (mfs ad))), ((ad 2), .inl (E 0, 36, .inl f_1)), ((ad 3), .inl (E 0, 36, .inl (upd (fun _ => 0) (0 : Int32).toNatClampNeg w))), ((ad 4), .inl (E 1, 36, .inr (.inl (fun _ => 0)))), ((ad 47), .inl (E 0, 36, .inl (fun _ => 0)))] H := hP
  have hD : va_D A [(a, .inr (10, (mfs ad))), ((ad 2), .inl (E 0, 36, .inl f_1)), ((ad 3), .inl (E 0, 36, .inl (upd (fun _ => 0) (0 : Int32).toNatClampNeg w))), ((ad 4), .inl (E 1, 36, .inr (.inl (fun _ => 0)))), ((ad 47), .inl (E 0, 36, .inl (fun _ => 0)))] := hD
  generalize (upd (fun _ => 0) (0 : Int32).toNatClampNeg w) = f_2 at hP hD
  refine lv_aload_n hx hb dX10_comes_20 rfl (lv_at hl 0 rfl) ?_
  refine va_get (D := D) (ci := 10) (v := .ref (ad 4)) (C := RX10) (T := TX10) (N := 81) hx hb hts inX10 hown hK hP 0 rfl rfl 4 (by decide) (hts _ b_1318) (fun _ h9 => h9) rfl dX10_comes_21 ?_
  refine lv_aload_n hx hb dX10_comes_24 rfl (lv_at hl 0 rfl) ?_
  refine va_get (D := D) (ci := 10) (v := .int 0) (C := RX10) (T := TX10) (N := 81) hx hb hts inX10 hown hK hP 0 rfl rfl 1 (by decide) (hts _ b_1315) (fun _ h9 => h9) rfl dX10_comes_25 ?_
  refine lv_lconst (v := 0) hx hb dX10_comes_28 (by decide) ?_
  refine va_last hx hb hK hP hD hS 3 1 rfl rfl (by unfold vp_in; decide) dX10_comes_29 (fun H locs hP hD hS => ?_)
  have hP : va_P D k_cl [(a, .inr (10, (mfs ad))), ((ad 2), .inl (E 0, 36, .inl f_1)), ((ad 3), .inl (E 0, 36, .inl f_2)), ((ad 4), .inl (E 1, 36, .inr (.inl (vp_updL (fun _ => 0) (0 : Int32).toNatClampNeg 0)))), ((ad 47), .inl (E 0, 36, .inl (fun _ => 0)))] H := hP
  have hD : va_D A [(a, .inr (10, (mfs ad))), ((ad 2), .inl (E 0, 36, .inl f_1)), ((ad 3), .inl (E 0, 36, .inl f_2)), ((ad 4), .inl (E 1, 36, .inr (.inl (vp_updL (fun _ => 0) (0 : Int32).toNatClampNeg 0)))), ((ad 47), .inl (E 0, 36, .inl (fun _ => 0)))] := hD
  generalize (vp_updL (fun _ => 0) (0 : Int32).toNatClampNeg 0) = f_3 at hP hD
  refine lv_aload_n hx hb dX10_comes_30 rfl (lv_at hl 0 rfl) ?_
  refine va_get (D := D) (ci := 10) (v := .ref (ad 47)) (C := RX10) (T := TX10) (N := 81) hx hb hts inX10 hown hK hP 0 rfl rfl 47 (by decide) (hts _ b_1361) (fun _ h9 => h9) rfl dX10_comes_31 ?_
  refine lv_aload_n hx hb dX10_comes_34 rfl (lv_at hl 0 rfl) ?_
  refine va_get (D := D) (ci := 10) (v := .int 0) (C := RX10) (T := TX10) (N := 81) hx hb hts inX10 hown hK hP 0 rfl rfl 1 (by decide) (hts _ b_1315) (fun _ h9 => h9) rfl dX10_comes_35 ?_
  refine lv_iconst (v := -1) hx hb dX10_comes_38 (by decide) ?_
  refine va_iast hx hb hK hP hD hS 4 0 rfl rfl (by unfold vp_in; decide) dX10_comes_39 (fun H locs hP hD hS => ?_)
  have hP : va_P D k_cl [(a, .inr (10, (mfs ad))), ((ad 2), .inl (E 0, 36, .inl f_1)), ((ad 3), .inl (E 0, 36, .inl f_2)), ((ad 4), .inl (E 1, 36, .inr (.inl f_3))), ((ad 47), .inl (E 0, 36, .inl (upd (fun _ => 0) (0 : Int32).toNatClampNeg (-1))))] H := hP
  have hD : va_D A [(a, .inr (10, (mfs ad))), ((ad 2), .inl (E 0, 36, .inl f_1)), ((ad 3), .inl (E 0, 36, .inl f_2)), ((ad 4), .inl (E 1, 36, .inr (.inl f_3))), ((ad 47), .inl (E 0, 36, .inl (upd (fun _ => 0) (0 : Int32).toNatClampNeg (-1))))] := hD
  generalize (upd (fun _ => 0) (0 : Int32).toNatClampNeg (-1)) = f_4 at hP hD
  refine lv_aload_n hx hb dX10_comes_40 rfl (lv_at hl 0 rfl) ?_
  refine lv_dup hx hb dX10_comes_41 rfl ?_
  refine va_get (D := D) (ci := 10) (v := .int 0) (C := RX10) (T := TX10) (N := 81) hx hb hts inX10 hown hK hP 0 rfl rfl 1 (by decide) (hts _ b_1315) (fun _ h9 => h9) rfl dX10_comes_42 ?_
  refine lv_iconst (v := 1) hx hb dX10_comes_45 (by decide) ?_
  refine lv_iadd hx hb dX10_comes_46 ?_
  refine k_ti (y := 1) (by decide) ?_
  refine va_put (D := D) (ci := 10) (v := .int 1) (ty := .int) (C := RX10) (T := TX10) (N := 81) hx hb hts inX10 tyX10 tyX10_ok nmX10 hown hK hP hD hS 0 rfl rfl 1 (by decide) (hts _ b_1315) (fun _ h9 => h9) rfl (by decide +kernel) rfl rfl (Nat.le_of_ble_eq_true rfl) dX10_comes_47 (fun H locs hP hD hS => ?_)
  have hP : va_P D k_cl [(a, .inr (10, ((mfs ad).set 1 (.int 1)))), ((ad 2), .inl (E 0, 36, .inl f_1)), ((ad 3), .inl (E 0, 36, .inl f_2)), ((ad 4), .inl (E 1, 36, .inr (.inl f_3))), ((ad 47), .inl (E 0, 36, .inl f_4))] H := hP
  have hD : va_D A [(a, .inr (10, ((mfs ad).set 1 (.int 1)))), ((ad 2), .inl (E 0, 36, .inl f_1)), ((ad 3), .inl (E 0, 36, .inl f_2)), ((ad 4), .inl (E 1, 36, .inr (.inl f_3))), ((ad 47), .inl (E 0, 36, .inl f_4))] := hD
  exact m_v () hx hb hr hlocks rfl trivial (hP.sub [0] rfl) (hD.sub [0] (by decide) rfl) hS (by decide) (by decide) dX10_comes_50
set_option maxRecDepth 20000 in
set_option maxHeartbeats 2000000 in
theorem m_edges (l : Launch) (D : va_G) (E : Nat → ClassId) (sa : Nat → Nat) (a : Nat) (ad : Nat → Nat) : KM l yX10_edgesOfArcs (.code yX10_edgesOfArcs cX10_edgesOfArcs 3 none) 12 400 0 0 D E sa [.ref a] [(a, .inr (10, ((mfs ad).set 14 (.int 1)))), ((ad 24), .inl (E 3, 1296, .inl (fun _ => 0)))] (S := Unit) (fun _ => none) (fun _ => True) (fun _ => [(a, .inr (10, ((mfs ad).set 14 (.int 1))))]) := by
  refine KM.of (by decide) (Nat.le_of_ble_eq_true rfl) ?_
  intro p e s m below meth c A ls hx hb hr hts hml hown hlocks hnm hK hP hD hA hS hZ hl
  have hown : s.vm.findClass RX10 = some m.cls := hown
  have hl : lv_has ls 3 [(0, .ref a)] := hl
  refine lv_iconst (v := 0) hx hb dX10_edgesOfArcs_0 (by decide) ?_
  refine lv_istore_n (lv' := [(1, .int 0), (0, .ref a)]) hx hb dX10_edgesOfArcs_1 rfl hl (by decide) rfl (fun ls hl => ?_)
  refine k_loopN (X := (Nat → Int32)) 1296 2 (fun i9 x9 H locs ls => va_P D k_cl [(a, .inr (10, ((mfs ad).set 14 (.int 1)))), ((ad 24), .inl (E 3, 1296, .inl x9))] H ∧ va_D A [(a, .inr (10, ((mfs ad).set 14 (.int 1)))), ((ad 24), .inl (E 3, 1296, .inl x9))] ∧ va_S A s.heap H locs ∧ lv_has ls 3 [(1, .int (nI i9)), (0, .ref a)]) ?_ ?_ (x := (fun _ => 0)) ⟨hP, hD, hS, lv_sub hl [0, 1] rfl⟩
  · intro i_1 x9 H locs ls hi_2 h9 ih_3
    obtain ⟨g_4, rfl⟩ : ∃ z, z = x9 := ⟨_, rfl⟩
    obtain ⟨hP, hD, hS, hl⟩ := h9
    have hP : va_P D k_cl [(a, .inr (10, ((mfs ad).set 14 (.int 1)))), ((ad 24), .inl (E 3, 1296, .inl g_4))] H := hP
    have hD : va_D A [(a, .inr (10, ((mfs ad).set 14 (.int 1)))), ((ad 24), .inl (E 3, 1296, .inl g_4))] := hD
    have hl : lv_has ls 3 [(1, .int (nI i_1)), (0, .ref a)] := hl
    refine lv_iload_n hx hb dX10_edgesOfArcs_2 rfl (lv_at hl 0 rfl) ?_
    refine lv_sipush (v := 1296) hx hb dX10_edgesOfArcs_3 (by decide) ?_
    refine lv_icmp_ge (tgt := 22) hx hb dX10_edgesOfArcs_6 (by decide) (fun h9 => absurd h9 (nI_ge (b := 1296) hi_2 (by decide))) (fun _ => ?_)
    refine lv_aload_n hx hb dX10_edgesOfArcs_9 rfl (lv_at hl 1 rfl) ?_
    refine va_get (D := D) (ci := 10) (v := .ref (ad 24)) (C := RX10) (T := TX10) (N := 81) hx hb hts inX10 hown hK hP 0 rfl rfl 24 (by decide) (hts _ b_1338) (fun _ h9 => h9) rfl dX10_edgesOfArcs_10 ?_
    refine lv_iload_n hx hb dX10_edgesOfArcs_13 rfl (lv_at hl 0 rfl) ?_
    refine lv_iconst (v := 0) hx hb dX10_edgesOfArcs_14 (by decide) ?_
    refine va_zast hx hb hK hP hD hS 1 3 rfl rfl (vp_in_nI hi_2 (by decide)) dX10_edgesOfArcs_15 (fun H locs hP hD hS => ?_)
    have hP : va_P D k_cl [(a, .inr (10, ((mfs ad).set 14 (.int 1)))), ((ad 24), .inl (E 3, 1296, .inl (upd g_4 ((nI i_1) : Int32).toNatClampNeg (vp_nar .boolean 0))))] H := hP
    have hD : va_D A [(a, .inr (10, ((mfs ad).set 14 (.int 1)))), ((ad 24), .inl (E 3, 1296, .inl (upd g_4 ((nI i_1) : Int32).toNatClampNeg (vp_nar .boolean 0))))] := hD
    generalize (upd g_4 ((nI i_1) : Int32).toNatClampNeg (vp_nar .boolean 0)) = f_5 at hP hD
    refine lv_iinc (v := (nI (i_1 + 1))) (lv' := [(1, .int (nI (i_1 + 1))), (0, .ref a)]) hx hb dX10_edgesOfArcs_16 hl (k := 0) rfl (nI_1 i_1) (by decide) rfl (fun ls hl => ?_)
    refine lv_goto (tgt := 2) hx hb dX10_edgesOfArcs_19 (by decide) ?_
    exact ih_3 f_5 H locs ls ⟨hP, hD, hS, lv_sub hl [0, 1] rfl⟩
  · intro x9 H locs ls h9
    obtain ⟨g_6, rfl⟩ : ∃ z, z = x9 := ⟨_, rfl⟩
    obtain ⟨hP, hD, hS, hl⟩ := h9
    have hP : va_P D k_cl [(a, .inr (10, ((mfs ad).set 14 (.int 1)))), ((ad 24), .inl (E 3, 1296, .inl g_6))] H := hP
    have hD : va_D A [(a, .inr (10, ((mfs ad).set 14 (.int 1)))), ((ad 24), .inl (E 3, 1296, .inl g_6))] := hD
    have hl : lv_has ls 3 [(1, .int (nI 1296)), (0, .ref a)] := hl
    refine lv_iload_n hx hb dX10_edgesOfArcs_2 rfl (lv_at hl 0 rfl) ?_
    refine lv_sipush (v := 1296) hx hb dX10_edgesOfArcs_3 (by decide) ?_
    refine lv_icmp_ge (tgt := 22) hx hb dX10_edgesOfArcs_6 (by decide) (fun _ => ?_) (fun h9 => absurd (by decide) h9)
    refine lv_iconst (v := 0) hx hb dX10_edgesOfArcs_22 (by decide) ?_
    refine lv_istore_n (lv' := [(1, .int 0), (0, .ref a)]) hx hb dX10_edgesOfArcs_23 rfl hl (by decide) rfl (fun ls hl => ?_)
    refine lv_iload_n hx hb dX10_edgesOfArcs_24 rfl (lv_at hl 0 rfl) ?_
    refine lv_aload_n hx hb dX10_edgesOfArcs_25 rfl (lv_at hl 1 rfl) ?_
    refine va_get (D := D) (ci := 10) (v := .int 0) (C := RX10) (T := TX10) (N := 81) hx hb hts inX10 hown hK hP 0 rfl rfl 5 (by decide) (hts _ b_1319) (fun _ h9 => h9) rfl dX10_edgesOfArcs_26 ?_
    refine lv_icmp_ge (tgt := 138) hx hb dX10_edgesOfArcs_29 (by decide) (fun _ => ?_) (fun h9 => absurd (by decide) h9)
    exact m_v () hx hb hr hlocks rfl trivial (hP.sub [0] rfl) (hD.sub [0] (by decide) rfl) hS (by decide) (by decide) dX10_edgesOfArcs_138
set_option maxRecDepth 20000 in
set_option maxHeartbeats 2000000 in
theorem m_begins (l : Launch) (D : va_G) (E : Nat → ClassId) (sa : Nat → Nat) (a : Nat) (ad : Nat → Nat) : KM l yX10_begins (.code yX10_begins cX10_begins 2 none) 25 822 0 0 D E sa [.ref a] [(a, .inr (10, (mfs ad))), ((ad 24), .inl (E 3, 1296, .inl (fun _ => 0))), ((ad 49), .inl (E 3, 1296, .inl (fun _ => 0))), ((ad 54), .inl (E 3, 1296, .inl (fun _ => 0)))] (S := Unit) (fun _ => none) (fun _ => True) (fun _ => [(a, .inr (10, ((mfs ad).set 14 (.int 1))))]) := by
  refine KM.of (by decide) (Nat.le_of_ble_eq_true rfl) ?_
  intro p e s m below meth c A ls hx hb hr hts hml hown hlocks hnm hK hP hD hA hS hZ hl
  have hown : s.vm.findClass RX10 = some m.cls := hown
  have hl : lv_has ls 2 [(0, .ref a)] := hl
  refine lv_aload_n hx hb dX10_begins_0 rfl (lv_at hl 0 rfl) ?_
  refine lv_dup hx hb dX10_begins_1 rfl ?_
  refine va_get (D := D) (ci := 10) (v := .int 0) (C := RX10) (T := TX10) (N := 81) hx hb hts inX10 hown hK hP 0 rfl rfl 14 (by decide) (hts _ b_1328) (fun _ h9 => h9) rfl dX10_begins_2 ?_
  refine lv_iconst (v := 1) hx hb dX10_begins_5 (by decide) ?_
  refine lv_iadd hx hb dX10_begins_6 ?_
  refine k_ti (y := 1) (by decide) ?_
  refine va_put (D := D) (ci := 10) (v := .int 1) (ty := .int) (C := RX10) (T := TX10) (N := 81) hx hb hts inX10 tyX10 tyX10_ok nmX10 hown hK hP hD hS 0 rfl rfl 14 (by decide) (hts _ b_1328) (fun _ h9 => h9) rfl (by decide +kernel) rfl rfl (Nat.le_of_ble_eq_true rfl) dX10_begins_7 (fun H locs hP hD hS => ?_)
  have hP : va_P D k_cl [(a, .inr (10, ((mfs ad).set 14 (.int 1)))), ((ad 24), .inl (E 3, 1296, .inl (fun _ => 0))), ((ad 49), .inl (E 3, 1296, .inl (fun _ => 0))), ((ad 54), .inl (E 3, 1296, .inl (fun _ => 0)))] H := hP
  have hD : va_D A [(a, .inr (10, ((mfs ad).set 14 (.int 1)))), ((ad 24), .inl (E 3, 1296, .inl (fun _ => 0))), ((ad 49), .inl (E 3, 1296, .inl (fun _ => 0))), ((ad 54), .inl (E 3, 1296, .inl (fun _ => 0)))] := hD
  refine lv_aload_n hx hb dX10_begins_10 rfl (lv_at hl 0 rfl) ?_
  refine lv_iconst (v := 0) hx hb dX10_begins_11 (by decide) ?_
  refine va_put (D := D) (ci := 10) (v := .int 0) (ty := .boolean) (C := RX10) (T := TX10) (N := 81) hx hb hts inX10 tyX10 tyX10_ok nmX10 hown hK hP hD hS 0 rfl rfl 60 (by decide) (hts _ b_1374) (fun _ h9 => h9) rfl (by decide +kernel) rfl rfl (Nat.le_of_ble_eq_true rfl) dX10_begins_12 (fun H locs hP hD hS => ?_)
  have hP : va_P D k_cl [(a, .inr (10, ((mfs ad).set 14 (.int 1)))), ((ad 24), .inl (E 3, 1296, .inl (fun _ => 0))), ((ad 49), .inl (E 3, 1296, .inl (fun _ => 0))), ((ad 54), .inl (E 3, 1296, .inl (fun _ => 0)))] H := hP
  have hD : va_D A [(a, .inr (10, ((mfs ad).set 14 (.int 1)))), ((ad 24), .inl (E 3, 1296, .inl (fun _ => 0))), ((ad 49), .inl (E 3, 1296, .inl (fun _ => 0))), ((ad 54), .inl (E 3, 1296, .inl (fun _ => 0)))] := hD
  refine lv_aload_n hx hb dX10_begins_15 rfl (lv_at hl 0 rfl) ?_
  refine k_MV (As := []) (rest := []) (ci := 10) (q0 := 0) (wr := [((ad 49), .inl (E 3, 1296, .inl (fun _ => 0))), ((ad 54), .inl (E 3, 1296, .inl (fun _ => 0)))]) ⟨hx, hb, hml, hown, hts⟩ (m_edges l D E sa a ad) b_1682 b_1684 b_55 b_88 b_1685 ⟨rfl, hd_X10_edgesOfArcs⟩ ⟨⟨by decide, by decide⟩, by decide, by decide⟩ hK hP hD hS hA hZ [0, 1] [2, 3] rfl rfl (by decide) rfl rfl rfl hl.1 (Nat.le_of_ble_eq_true rfl) dX10_begins_16 (fun u_1 H locs hu hP hD hS _ => ?_)
  have hP : va_P D k_cl [((ad 49), .inl (E 3, 1296, .inl (fun _ => 0))), ((ad 54), .inl (E 3, 1296, .inl (fun _ => 0))), (a, .inr (10, ((mfs ad).set 14 (.int 1))))] H := hP
  have hD : va_D A [((ad 49), .inl (E 3, 1296, .inl (fun _ => 0))), ((ad 54), .inl (E 3, 1296, .inl (fun _ => 0))), (a, .inr (10, ((mfs ad).set 14 (.int 1))))] := hD
  refine W.eq (g2 := F0 m 19 ls []) rfl ?_
  refine lv_iconst (v := 0) hx hb dX10_begins_19 (by decide) ?_
  refine lv_istore_n (lv' := [(1, .int 0), (0, .ref a)]) hx hb dX10_begins_20 rfl hl (by decide) rfl (fun ls hl => ?_)
  refine lv_iload_n hx hb dX10_begins_21 rfl (lv_at hl 0 rfl) ?_
  refine lv_aload_n hx hb dX10_begins_22 rfl (lv_at hl 1 rfl) ?_
  refine va_get (D := D) (ci := 10) (v := .int 0) (C := RX10) (T := TX10) (N := 81) hx hb hts inX10 hown hK hP 2 rfl rfl 1 (by decide) (hts _ b_1315) (fun _ h9 => h9) rfl dX10_begins_23 ?_
  refine lv_icmp_ge (tgt := 42) hx hb dX10_begins_26 (by decide) (fun _ => ?_) (fun h9 => absurd (by decide) h9)
  refine lv_iconst (v := 0) hx hb dX10_begins_42 (by decide) ?_
  refine lv_istore_n (lv' := [(1, .int 0), (0, .ref a)]) hx hb dX10_begins_43 rfl hl (by decide) rfl (fun ls hl => ?_)
  refine k_loopN (X := (Nat → Int32) × (Nat → Int32)) 1296 44 (fun i9 x9 H locs ls => va_P D k_cl [((ad 49), .inl (E 3, 1296, .inl x9.1)), ((ad 54), .inl (E 3, 1296, .inl x9.2)), (a, .inr (10, ((mfs ad).set 14 (.int 1))))] H ∧ va_D A [((ad 49), .inl (E 3, 1296, .inl x9.1)), ((ad 54), .inl (E 3, 1296, .inl x9.2)), (a, .inr (10, ((mfs ad).set 14 (.int 1))))] ∧ va_S A s.heap H locs ∧ lv_has ls 2 [(1, .int (nI i9)), (0, .ref a)]) ?_ ?_ (x := ((fun _ => 0), (fun _ => 0))) ⟨hP, hD, hS, lv_sub hl [0, 1] rfl⟩
  · intro i_2 x9 H locs ls hi_3 h9 ih_4
    obtain ⟨g_5, g_6⟩ := x9
    obtain ⟨hP, hD, hS, hl⟩ := h9
    have hP : va_P D k_cl [((ad 49), .inl (E 3, 1296, .inl g_5)), ((ad 54), .inl (E 3, 1296, .inl g_6)), (a, .inr (10, ((mfs ad).set 14 (.int 1))))] H := hP
    have hD : va_D A [((ad 49), .inl (E 3, 1296, .inl g_5)), ((ad 54), .inl (E 3, 1296, .inl g_6)), (a, .inr (10, ((mfs ad).set 14 (.int 1))))] := hD
    have hl : lv_has ls 2 [(1, .int (nI i_2)), (0, .ref a)] := hl
    refine lv_iload_n hx hb dX10_begins_44 rfl (lv_at hl 0 rfl) ?_
    refine lv_sipush (v := 1296) hx hb dX10_begins_45 (by decide) ?_
    refine lv_icmp_ge (tgt := 71) hx hb dX10_begins_48 (by decide) (fun h9 => absurd h9 (nI_ge (b := 1296) hi_3 (by decide))) (fun _ => ?_)
    refine lv_aload_n hx hb dX10_begins_51 rfl (lv_at hl 1 rfl) ?_
    refine va_get (D := D) (ci := 10) (v := .ref (ad 49)) (C := RX10) (T := TX10) (N := 81) hx hb hts inX10 hown hK hP 2 rfl rfl 49 (by decide) (hts _ b_1363) (fun _ h9 => h9) rfl dX10_begins_52 ?_
    refine lv_iload_n hx hb dX10_begins_55 rfl (lv_at hl 0 rfl) ?_
    refine lv_iconst (v := 0) hx hb dX10_begins_56 (by decide) ?_
    refine va_zast hx hb hK hP hD hS 0 3 rfl rfl (vp_in_nI hi_3 (by decide)) dX10_begins_57 (fun H locs hP hD hS => ?_)
    have hP : va_P D k_cl [((ad 49), .inl (E 3, 1296, .inl (upd g_5 ((nI i_2) : Int32).toNatClampNeg (vp_nar .boolean 0)))), ((ad 54), .inl (E 3, 1296, .inl g_6)), (a, .inr (10, ((mfs ad).set 14 (.int 1))))] H := hP
    have hD : va_D A [((ad 49), .inl (E 3, 1296, .inl (upd g_5 ((nI i_2) : Int32).toNatClampNeg (vp_nar .boolean 0)))), ((ad 54), .inl (E 3, 1296, .inl g_6)), (a, .inr (10, ((mfs ad).set 14 (.int 1))))] := hD
    generalize (upd g_5 ((nI i_2) : Int32).toNatClampNeg (vp_nar .boolean 0)) = f_7 at hP hD
    refine lv_aload_n hx hb dX10_begins_58 rfl (lv_at hl 1 rfl) ?_
    refine va_get (D := D) (ci := 10) (v := .ref (ad 54)) (C := RX10) (T := TX10) (N := 81) hx hb hts inX10 hown hK hP 2 rfl rfl 54 (by decide) (hts _ b_1368) (fun _ h9 => h9) rfl dX10_begins_59 ?_
    refine lv_iload_n hx hb dX10_begins_62 rfl (lv_at hl 0 rfl) ?_
    refine lv_iconst (v := 0) hx hb dX10_begins_63 (by decide) ?_
    refine va_zast hx hb hK hP hD hS 1 3 rfl rfl (vp_in_nI hi_3 (by decide)) dX10_begins_64 (fun H locs hP hD hS => ?_)
    have hP : va_P D k_cl [((ad 49), .inl (E 3, 1296, .inl f_7)), ((ad 54), .inl (E 3, 1296, .inl (upd g_6 ((nI i_2) : Int32).toNatClampNeg (vp_nar .boolean 0)))), (a, .inr (10, ((mfs ad).set 14 (.int 1))))] H := hP
    have hD : va_D A [((ad 49), .inl (E 3, 1296, .inl f_7)), ((ad 54), .inl (E 3, 1296, .inl (upd g_6 ((nI i_2) : Int32).toNatClampNeg (vp_nar .boolean 0)))), (a, .inr (10, ((mfs ad).set 14 (.int 1))))] := hD
    generalize (upd g_6 ((nI i_2) : Int32).toNatClampNeg (vp_nar .boolean 0)) = f_8 at hP hD
    refine lv_iinc (v := (nI (i_2 + 1))) (lv' := [(1, .int (nI (i_2 + 1))), (0, .ref a)]) hx hb dX10_begins_65 hl (k := 0) rfl (nI_1 i_2) (by decide) rfl (fun ls hl => ?_)
    refine lv_goto (tgt := 44) hx hb dX10_begins_68 (by decide) ?_
    exact ih_4 (f_7, f_8) H locs ls ⟨hP, hD, hS, lv_sub hl [0, 1] rfl⟩
  · intro x9 H locs ls h9
    obtain ⟨g_9, g_10⟩ := x9
    obtain ⟨hP, hD, hS, hl⟩ := h9
    have hP : va_P D k_cl [((ad 49), .inl (E 3, 1296, .inl g_9)), ((ad 54), .inl (E 3, 1296, .inl g_10)), (a, .inr (10, ((mfs ad).set 14 (.int 1))))] H := hP
    have hD : va_D A [((ad 49), .inl (E 3, 1296, .inl g_9)), ((ad 54), .inl (E 3, 1296, .inl g_10)), (a, .inr (10, ((mfs ad).set 14 (.int 1))))] := hD
    have hl : lv_has ls 2 [(1, .int (nI 1296)), (0, .ref a)] := hl
    refine lv_iload_n hx hb dX10_begins_44 rfl (lv_at hl 0 rfl) ?_
    refine lv_sipush (v := 1296) hx hb dX10_begins_45 (by decide) ?_
    refine lv_icmp_ge (tgt := 71) hx hb dX10_begins_48 (by decide) (fun _ => ?_) (fun h9 => absurd (by decide) h9)
    exact m_v () hx hb hr hlocks rfl trivial (hP.sub [2] rfl) (hD.sub [2] (by decide) rfl) hS (by decide) (by decide) dX10_begins_71
set_option maxRecDepth 20000 in
set_option maxHeartbeats 2000000 in
theorem m_ends_0 (l : Launch) (D : va_G) (E : Nat → ClassId) (sa : Nat → Nat) (a : Nat) (ad : Nat → Nat) : KM l yX10_ends (.code yX10_ends cX10_ends 3 (some .int)) 12 400 0 0 D E sa [.ref a, .int 0] [(a, .inr (10, ((mfs ad).set 14 (.int 1))))] (S := Unit) (fun _ => some (.int 0)) (fun _ => True) (fun _ => [(a, .inr (10, (((mfs ad).set 14 (.int 1)).set 45 (.int 1))))]) := by
  refine KM.of (by decide) (Nat.le_of_ble_eq_true rfl) ?_
  intro p e s m below meth c A ls hx hb hr hts hml hown hlocks hnm hK hP hD hA hS hZ hl
  have hown : s.vm.findClass RX10 = some m.cls := hown
  have hl : lv_has ls 3 [(0, .ref a), (1, .int 0)] := hl
  refine lv_aload_n hx hb dX10_ends_0 rfl (lv_at hl 0 rfl) ?_
  refine lv_iconst (v := 1) hx hb dX10_ends_1 (by decide) ?_
  refine va_put (D := D) (ci := 10) (v := .int 1) (ty := .boolean) (C := RX10) (T := TX10) (N := 81) hx hb hts inX10 tyX10 tyX10_ok nmX10 hown hK hP hD hS 0 rfl rfl 45 (by decide) (hts _ b_1359) (fun _ h9 => h9) rfl (by decide +kernel) rfl rfl (Nat.le_of_ble_eq_true rfl) dX10_ends_2 (fun H locs hP hD hS => ?_)
  have hP : va_P D k_cl [(a, .inr (10, (((mfs ad).set 14 (.int 1)).set 45 (.int 1))))] H := hP
  have hD : va_D A [(a, .inr (10, (((mfs ad).set 14 (.int 1)).set 45 (.int 1))))] := hD
  refine lv_iconst (v := 0) hx hb dX10_ends_5 (by decide) ?_
  refine lv_istore_n (lv' := [(2, .int 0), (0, .ref a), (1, .int 0)]) hx hb dX10_ends_6 rfl hl (by decide) rfl (fun ls hl => ?_)
  refine lv_iload_n hx hb dX10_ends_7 rfl (lv_at hl 0 rfl) ?_
  refine lv_aload_n hx hb dX10_ends_8 rfl (lv_at hl 1 rfl) ?_
  refine va_get (D := D) (ci := 10) (v := .int 0) (C := RX10) (T := TX10) (N := 81) hx hb hts inX10 hown hK hP 0 rfl rfl 1 (by decide) (hts _ b_1315) (fun _ h9 => h9) rfl dX10_ends_9 ?_
  refine lv_icmp_ge (tgt := 33) hx hb dX10_ends_12 (by decide) (fun _ => ?_) (fun h9 => absurd (by decide) h9)
  refine lv_iload_n hx hb dX10_ends_33 rfl (lv_at hl 2 rfl) ?_
  exact m_i () hx hb hr hlocks rfl trivial (hP.sub [0] rfl) (hD.sub [0] (by decide) rfl) hS (by decide) (by decide) dX10_ends_34
