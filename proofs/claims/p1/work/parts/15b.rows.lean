theorem z_pos {v : Int32} (h1 : ¬ v < 0) (h : ¬ v = 0) : ¬ v ≤ 0 := fun h2 => h (Int32.le_antisymm h2 (Int32.not_lt.mp h1))
theorem z_gt {v : Int32} (h1 : ¬ v < 0) (h : ¬ v = 0) : 0 < v := Int32.not_le.mp (z_pos h1 h)
set_option maxRecDepth 20000 in
set_option maxHeartbeats 2000000 in
theorem c_push_0 (l : Launch) (D : va_G) (E : Nat → ClassId) (sa : Nat → Nat) (b : Nat) (t_bytes : Nat) (f : Nat → Int32) (v : Int32) : KM l yX6_push (.code yX6_push cX6_push 3 none) 12 400 0 0 D E sa [.ref b, .int v] [(b, .inr (6, [.ref t_bytes, .int 0])), (t_bytes, .inl (E 2, 2000, .inl f))] (S := (Nat → Int32)) (fun u => none) (fun _ => True) (fun u => [(b, .inr (6, [.ref t_bytes, .int 4])), (t_bytes, .inl (E 2, 2000, .inl u))]) := by
  refine KM.of (by decide) (Nat.le_of_ble_eq_true rfl) ?_
  intro p e s m below meth c A ls hx hb hr hts hml hown hlocks hnm hK hP hD hA hS hZ hl
  have hown : s.vm.findClass RX6 = some m.cls := hown
  have hl : lv_has ls 3 [(0, .ref b), (1, .int v)] := hl
  refine lv_bipush (v := 24) hx hb dX6_push_0 (by decide) ?_
  refine lv_istore_n (lv' := [(2, .int 24), (0, .ref b), (1, .int v)]) hx hb dX6_push_2 rfl hl (by decide) rfl (fun ls hl => ?_)
  refine lv_iload_n hx hb dX6_push_3 rfl (lv_at hl 0 rfl) ?_
  refine lv_if_lt (tgt := 46) hx hb dX6_push_4 (by decide) (fun h9 => absurd h9 (by decide)) (fun _ => ?_)
  refine lv_aload_n hx hb dX6_push_7 rfl (lv_at hl 1 rfl) ?_
  refine va_get (D := D) (ci := 6) (v := .int 0) (C := RX6) (T := TX6) (N := 2) hx hb hts inX6 hown hK hP 0 rfl rfl 1 (by decide) (hts _ b_120) (fun _ h9 => h9) rfl dX6_push_8 ?_
  refine lv_sipush (v := 2000) hx hb dX6_push_11 (by decide) ?_
  refine lv_icmp_ge (tgt := 46) hx hb dX6_push_14 (by decide) (fun h9 => absurd h9 (by decide)) (fun _ => ?_)
  refine lv_aload_n hx hb dX6_push_17 rfl (lv_at hl 1 rfl) ?_
  refine va_get (D := D) (ci := 6) (v := .ref t_bytes) (C := RX6) (T := TX6) (N := 2) hx hb hts inX6 hown hK hP 0 rfl rfl 0 (by decide) (hts _ b_118) (fun _ h9 => h9) rfl dX6_push_18 ?_
  refine lv_aload_n hx hb dX6_push_21 rfl (lv_at hl 1 rfl) ?_
  refine va_get (D := D) (ci := 6) (v := .int 0) (C := RX6) (T := TX6) (N := 2) hx hb hts inX6 hown hK hP 0 rfl rfl 1 (by decide) (hts _ b_120) (fun _ h9 => h9) rfl dX6_push_22 ?_
  refine lv_iload_n hx hb dX6_push_25 rfl (lv_at hl 2 rfl) ?_
  refine lv_iload_n hx hb dX6_push_26 rfl (lv_at hl 0 rfl) ?_
  refine lv_ishr hx hb dX6_push_27 ?_
  refine lv_i2b (v := ((v >>> (24 &&& 31))).toInt8.toInt32) hx hb dX6_push_28 rfl ?_
  refine va_bast hx hb hK hP hD hS 1 2 rfl rfl (by unfold vp_in; decide) dX6_push_29 (fun H locs hP hD hS => ?_)
  have hP : va_P D k_cl [(b, .inr (6, [.ref t_bytes, .int 0])), (t_bytes, .inl (E 2, 2000, .inl (upd f (0 : Int32).toNatClampNeg (vp_nar .byte (((v >>> (24 &&& 31))).toInt8.toInt32)))))] H := hP
  have hD : va_D A [(b, .inr (6, [.ref t_bytes, .int 0])), (t_bytes, .inl (E 2, 2000, .inl (upd f (0 : Int32).toNatClampNeg (vp_nar .byte (((v >>> (24 &&& 31))).toInt8.toInt32)))))] := hD
  generalize (upd f (0 : Int32).toNatClampNeg (vp_nar .byte (((v >>> (24 &&& 31))).toInt8.toInt32))) = f_1 at hP hD
  refine lv_aload_n hx hb dX6_push_30 rfl (lv_at hl 1 rfl) ?_
  refine lv_dup hx hb dX6_push_31 rfl ?_
  refine va_get (D := D) (ci := 6) (v := .int 0) (C := RX6) (T := TX6) (N := 2) hx hb hts inX6 hown hK hP 0 rfl rfl 1 (by decide) (hts _ b_120) (fun _ h9 => h9) rfl dX6_push_32 ?_
  refine lv_iconst (v := 1) hx hb dX6_push_35 (by decide) ?_
  refine lv_iadd hx hb dX6_push_36 ?_
  refine k_ti (y := 1) (by decide) ?_
  refine va_put (D := D) (ci := 6) (v := .int 1) (ty := .int) (C := RX6) (T := TX6) (N := 2) hx hb hts inX6 tyX6 tyX6_ok nmX6 hown hK hP hD hS 0 rfl rfl 1 (by decide) (hts _ b_120) (fun _ h9 => h9) rfl (by decide +kernel) rfl rfl (Nat.le_of_ble_eq_true rfl) dX6_push_37 (fun H locs hP hD hS => ?_)
  have hP : va_P D k_cl [(b, .inr (6, [.ref t_bytes, .int 1])), (t_bytes, .inl (E 2, 2000, .inl f_1))] H := hP
  have hD : va_D A [(b, .inr (6, [.ref t_bytes, .int 1])), (t_bytes, .inl (E 2, 2000, .inl f_1))] := hD
  refine lv_iinc (v := 16) (lv' := [(2, .int 16), (0, .ref b), (1, .int v)]) hx hb dX6_push_40 hl (k := 0) rfl (by decide) (by decide) rfl (fun ls hl => ?_)
  refine lv_goto (tgt := 3) hx hb dX6_push_43 (by decide) ?_
  refine lv_iload_n hx hb dX6_push_3 rfl (lv_at hl 0 rfl) ?_
  refine lv_if_lt (tgt := 46) hx hb dX6_push_4 (by decide) (fun h9 => absurd h9 (by decide)) (fun _ => ?_)
  refine lv_aload_n hx hb dX6_push_7 rfl (lv_at hl 1 rfl) ?_
  refine va_get (D := D) (ci := 6) (v := .int 1) (C := RX6) (T := TX6) (N := 2) hx hb hts inX6 hown hK hP 0 rfl rfl 1 (by decide) (hts _ b_120) (fun _ h9 => h9) rfl dX6_push_8 ?_
  refine lv_sipush (v := 2000) hx hb dX6_push_11 (by decide) ?_
  refine lv_icmp_ge (tgt := 46) hx hb dX6_push_14 (by decide) (fun h9 => absurd h9 (by decide)) (fun _ => ?_)
  refine lv_aload_n hx hb dX6_push_17 rfl (lv_at hl 1 rfl) ?_
  refine va_get (D := D) (ci := 6) (v := .ref t_bytes) (C := RX6) (T := TX6) (N := 2) hx hb hts inX6 hown hK hP 0 rfl rfl 0 (by decide) (hts _ b_118) (fun _ h9 => h9) rfl dX6_push_18 ?_
  refine lv_aload_n hx hb dX6_push_21 rfl (lv_at hl 1 rfl) ?_
  refine va_get (D := D) (ci := 6) (v := .int 1) (C := RX6) (T := TX6) (N := 2) hx hb hts inX6 hown hK hP 0 rfl rfl 1 (by decide) (hts _ b_120) (fun _ h9 => h9) rfl dX6_push_22 ?_
  refine lv_iload_n hx hb dX6_push_25 rfl (lv_at hl 2 rfl) ?_
  refine lv_iload_n hx hb dX6_push_26 rfl (lv_at hl 0 rfl) ?_
  refine lv_ishr hx hb dX6_push_27 ?_
  refine lv_i2b (v := ((v >>> (16 &&& 31))).toInt8.toInt32) hx hb dX6_push_28 rfl ?_
  refine va_bast hx hb hK hP hD hS 1 2 rfl rfl (by unfold vp_in; decide) dX6_push_29 (fun H locs hP hD hS => ?_)
  have hP : va_P D k_cl [(b, .inr (6, [.ref t_bytes, .int 1])), (t_bytes, .inl (E 2, 2000, .inl (upd f_1 (1 : Int32).toNatClampNeg (vp_nar .byte (((v >>> (16 &&& 31))).toInt8.toInt32)))))] H := hP
  have hD : va_D A [(b, .inr (6, [.ref t_bytes, .int 1])), (t_bytes, .inl (E 2, 2000, .inl (upd f_1 (1 : Int32).toNatClampNeg (vp_nar .byte (((v >>> (16 &&& 31))).toInt8.toInt32)))))] := hD
  generalize (upd f_1 (1 : Int32).toNatClampNeg (vp_nar .byte (((v >>> (16 &&& 31))).toInt8.toInt32))) = f_2 at hP hD
  refine lv_aload_n hx hb dX6_push_30 rfl (lv_at hl 1 rfl) ?_
  refine lv_dup hx hb dX6_push_31 rfl ?_
  refine va_get (D := D) (ci := 6) (v := .int 1) (C := RX6) (T := TX6) (N := 2) hx hb hts inX6 hown hK hP 0 rfl rfl 1 (by decide) (hts _ b_120) (fun _ h9 => h9) rfl dX6_push_32 ?_
  refine lv_iconst (v := 1) hx hb dX6_push_35 (by decide) ?_
  refine lv_iadd hx hb dX6_push_36 ?_
  refine k_ti (y := 2) (by decide) ?_
  refine va_put (D := D) (ci := 6) (v := .int 2) (ty := .int) (C := RX6) (T := TX6) (N := 2) hx hb hts inX6 tyX6 tyX6_ok nmX6 hown hK hP hD hS 0 rfl rfl 1 (by decide) (hts _ b_120) (fun _ h9 => h9) rfl (by decide +kernel) rfl rfl (Nat.le_of_ble_eq_true rfl) dX6_push_37 (fun H locs hP hD hS => ?_)
  have hP : va_P D k_cl [(b, .inr (6, [.ref t_bytes, .int 2])), (t_bytes, .inl (E 2, 2000, .inl f_2))] H := hP
  have hD : va_D A [(b, .inr (6, [.ref t_bytes, .int 2])), (t_bytes, .inl (E 2, 2000, .inl f_2))] := hD
  refine lv_iinc (v := 8) (lv' := [(2, .int 8), (0, .ref b), (1, .int v)]) hx hb dX6_push_40 hl (k := 0) rfl (by decide) (by decide) rfl (fun ls hl => ?_)
  refine lv_goto (tgt := 3) hx hb dX6_push_43 (by decide) ?_
  refine lv_iload_n hx hb dX6_push_3 rfl (lv_at hl 0 rfl) ?_
  refine lv_if_lt (tgt := 46) hx hb dX6_push_4 (by decide) (fun h9 => absurd h9 (by decide)) (fun _ => ?_)
  refine lv_aload_n hx hb dX6_push_7 rfl (lv_at hl 1 rfl) ?_
  refine va_get (D := D) (ci := 6) (v := .int 2) (C := RX6) (T := TX6) (N := 2) hx hb hts inX6 hown hK hP 0 rfl rfl 1 (by decide) (hts _ b_120) (fun _ h9 => h9) rfl dX6_push_8 ?_
  refine lv_sipush (v := 2000) hx hb dX6_push_11 (by decide) ?_
  refine lv_icmp_ge (tgt := 46) hx hb dX6_push_14 (by decide) (fun h9 => absurd h9 (by decide)) (fun _ => ?_)
  refine lv_aload_n hx hb dX6_push_17 rfl (lv_at hl 1 rfl) ?_
  refine va_get (D := D) (ci := 6) (v := .ref t_bytes) (C := RX6) (T := TX6) (N := 2) hx hb hts inX6 hown hK hP 0 rfl rfl 0 (by decide) (hts _ b_118) (fun _ h9 => h9) rfl dX6_push_18 ?_
  refine lv_aload_n hx hb dX6_push_21 rfl (lv_at hl 1 rfl) ?_
  refine va_get (D := D) (ci := 6) (v := .int 2) (C := RX6) (T := TX6) (N := 2) hx hb hts inX6 hown hK hP 0 rfl rfl 1 (by decide) (hts _ b_120) (fun _ h9 => h9) rfl dX6_push_22 ?_
  refine lv_iload_n hx hb dX6_push_25 rfl (lv_at hl 2 rfl) ?_
  refine lv_iload_n hx hb dX6_push_26 rfl (lv_at hl 0 rfl) ?_
  refine lv_ishr hx hb dX6_push_27 ?_
  refine lv_i2b (v := ((v >>> (8 &&& 31))).toInt8.toInt32) hx hb dX6_push_28 rfl ?_
  refine va_bast hx hb hK hP hD hS 1 2 rfl rfl (by unfold vp_in; decide) dX6_push_29 (fun H locs hP hD hS => ?_)
  have hP : va_P D k_cl [(b, .inr (6, [.ref t_bytes, .int 2])), (t_bytes, .inl (E 2, 2000, .inl (upd f_2 (2 : Int32).toNatClampNeg (vp_nar .byte (((v >>> (8 &&& 31))).toInt8.toInt32)))))] H := hP
  have hD : va_D A [(b, .inr (6, [.ref t_bytes, .int 2])), (t_bytes, .inl (E 2, 2000, .inl (upd f_2 (2 : Int32).toNatClampNeg (vp_nar .byte (((v >>> (8 &&& 31))).toInt8.toInt32)))))] := hD
  generalize (upd f_2 (2 : Int32).toNatClampNeg (vp_nar .byte (((v >>> (8 &&& 31))).toInt8.toInt32))) = f_3 at hP hD
  refine lv_aload_n hx hb dX6_push_30 rfl (lv_at hl 1 rfl) ?_
  refine lv_dup hx hb dX6_push_31 rfl ?_
  refine va_get (D := D) (ci := 6) (v := .int 2) (C := RX6) (T := TX6) (N := 2) hx hb hts inX6 hown hK hP 0 rfl rfl 1 (by decide) (hts _ b_120) (fun _ h9 => h9) rfl dX6_push_32 ?_
  refine lv_iconst (v := 1) hx hb dX6_push_35 (by decide) ?_
  refine lv_iadd hx hb dX6_push_36 ?_
  refine k_ti (y := 3) (by decide) ?_
  refine va_put (D := D) (ci := 6) (v := .int 3) (ty := .int) (C := RX6) (T := TX6) (N := 2) hx hb hts inX6 tyX6 tyX6_ok nmX6 hown hK hP hD hS 0 rfl rfl 1 (by decide) (hts _ b_120) (fun _ h9 => h9) rfl (by decide +kernel) rfl rfl (Nat.le_of_ble_eq_true rfl) dX6_push_37 (fun H locs hP hD hS => ?_)
  have hP : va_P D k_cl [(b, .inr (6, [.ref t_bytes, .int 3])), (t_bytes, .inl (E 2, 2000, .inl f_3))] H := hP
  have hD : va_D A [(b, .inr (6, [.ref t_bytes, .int 3])), (t_bytes, .inl (E 2, 2000, .inl f_3))] := hD
  refine lv_iinc (v := 0) (lv' := [(2, .int 0), (0, .ref b), (1, .int v)]) hx hb dX6_push_40 hl (k := 0) rfl (by decide) (by decide) rfl (fun ls hl => ?_)
  refine lv_goto (tgt := 3) hx hb dX6_push_43 (by decide) ?_
  refine lv_iload_n hx hb dX6_push_3 rfl (lv_at hl 0 rfl) ?_
  refine lv_if_lt (tgt := 46) hx hb dX6_push_4 (by decide) (fun h9 => absurd h9 (by decide)) (fun _ => ?_)
  refine lv_aload_n hx hb dX6_push_7 rfl (lv_at hl 1 rfl) ?_
  refine va_get (D := D) (ci := 6) (v := .int 3) (C := RX6) (T := TX6) (N := 2) hx hb hts inX6 hown hK hP 0 rfl rfl 1 (by decide) (hts _ b_120) (fun _ h9 => h9) rfl dX6_push_8 ?_
  refine lv_sipush (v := 2000) hx hb dX6_push_11 (by decide) ?_
  refine lv_icmp_ge (tgt := 46) hx hb dX6_push_14 (by decide) (fun h9 => absurd h9 (by decide)) (fun _ => ?_)
  refine lv_aload_n hx hb dX6_push_17 rfl (lv_at hl 1 rfl) ?_
  refine va_get (D := D) (ci := 6) (v := .ref t_bytes) (C := RX6) (T := TX6) (N := 2) hx hb hts inX6 hown hK hP 0 rfl rfl 0 (by decide) (hts _ b_118) (fun _ h9 => h9) rfl dX6_push_18 ?_
  refine lv_aload_n hx hb dX6_push_21 rfl (lv_at hl 1 rfl) ?_
  refine va_get (D := D) (ci := 6) (v := .int 3) (C := RX6) (T := TX6) (N := 2) hx hb hts inX6 hown hK hP 0 rfl rfl 1 (by decide) (hts _ b_120) (fun _ h9 => h9) rfl dX6_push_22 ?_
  refine lv_iload_n hx hb dX6_push_25 rfl (lv_at hl 2 rfl) ?_
  refine lv_iload_n hx hb dX6_push_26 rfl (lv_at hl 0 rfl) ?_
  refine lv_ishr hx hb dX6_push_27 ?_
  refine lv_i2b (v := ((v >>> (0 &&& 31))).toInt8.toInt32) hx hb dX6_push_28 rfl ?_
  refine va_bast hx hb hK hP hD hS 1 2 rfl rfl (by unfold vp_in; decide) dX6_push_29 (fun H locs hP hD hS => ?_)
  have hP : va_P D k_cl [(b, .inr (6, [.ref t_bytes, .int 3])), (t_bytes, .inl (E 2, 2000, .inl (upd f_3 (3 : Int32).toNatClampNeg (vp_nar .byte (((v >>> (0 &&& 31))).toInt8.toInt32)))))] H := hP
  have hD : va_D A [(b, .inr (6, [.ref t_bytes, .int 3])), (t_bytes, .inl (E 2, 2000, .inl (upd f_3 (3 : Int32).toNatClampNeg (vp_nar .byte (((v >>> (0 &&& 31))).toInt8.toInt32)))))] := hD
  generalize (upd f_3 (3 : Int32).toNatClampNeg (vp_nar .byte (((v >>> (0 &&& 31))).toInt8.toInt32))) = f_4 at hP hD
  refine lv_aload_n hx hb dX6_push_30 rfl (lv_at hl 1 rfl) ?_
  refine lv_dup hx hb dX6_push_31 rfl ?_
  refine va_get (D := D) (ci := 6) (v := .int 3) (C := RX6) (T := TX6) (N := 2) hx hb hts inX6 hown hK hP 0 rfl rfl 1 (by decide) (hts _ b_120) (fun _ h9 => h9) rfl dX6_push_32 ?_
  refine lv_iconst (v := 1) hx hb dX6_push_35 (by decide) ?_
  refine lv_iadd hx hb dX6_push_36 ?_
  refine k_ti (y := 4) (by decide) ?_
  refine va_put (D := D) (ci := 6) (v := .int 4) (ty := .int) (C := RX6) (T := TX6) (N := 2) hx hb hts inX6 tyX6 tyX6_ok nmX6 hown hK hP hD hS 0 rfl rfl 1 (by decide) (hts _ b_120) (fun _ h9 => h9) rfl (by decide +kernel) rfl rfl (Nat.le_of_ble_eq_true rfl) dX6_push_37 (fun H locs hP hD hS => ?_)
  have hP : va_P D k_cl [(b, .inr (6, [.ref t_bytes, .int 4])), (t_bytes, .inl (E 2, 2000, .inl f_4))] H := hP
  have hD : va_D A [(b, .inr (6, [.ref t_bytes, .int 4])), (t_bytes, .inl (E 2, 2000, .inl f_4))] := hD
  refine lv_iinc (v := (-8)) (lv' := [(2, .int (-8)), (0, .ref b), (1, .int v)]) hx hb dX6_push_40 hl (k := 0) rfl (by decide) (by decide) rfl (fun ls hl => ?_)
  refine lv_goto (tgt := 3) hx hb dX6_push_43 (by decide) ?_
  refine lv_iload_n hx hb dX6_push_3 rfl (lv_at hl 0 rfl) ?_
  refine lv_if_lt (tgt := 46) hx hb dX6_push_4 (by decide) (fun _ => ?_) (fun h9 => absurd (by decide) h9)
  exact m_v f_4 hx hb hr hlocks rfl trivial (hP.sub [0, 1] rfl) (hD.sub [0, 1] (by decide) rfl) hS (by decide) (by decide) dX6_push_46
set_option maxRecDepth 20000 in
set_option maxHeartbeats 2000000 in
theorem c_push_4 (l : Launch) (D : va_G) (E : Nat → ClassId) (sa : Nat → Nat) (b : Nat) (t_bytes : Nat) (f : Nat → Int32) (v : Int32) : KM l yX6_push (.code yX6_push cX6_push 3 none) 12 400 0 0 D E sa [.ref b, .int v] [(b, .inr (6, [.ref t_bytes, .int 4])), (t_bytes, .inl (E 2, 2000, .inl f))] (S := (Nat → Int32)) (fun u => none) (fun _ => True) (fun u => [(b, .inr (6, [.ref t_bytes, .int 8])), (t_bytes, .inl (E 2, 2000, .inl u))]) := by
  refine KM.of (by decide) (Nat.le_of_ble_eq_true rfl) ?_
  intro p e s m below meth c A ls hx hb hr hts hml hown hlocks hnm hK hP hD hA hS hZ hl
  have hown : s.vm.findClass RX6 = some m.cls := hown
  have hl : lv_has ls 3 [(0, .ref b), (1, .int v)] := hl
  refine lv_bipush (v := 24) hx hb dX6_push_0 (by decide) ?_
  refine lv_istore_n (lv' := [(2, .int 24), (0, .ref b), (1, .int v)]) hx hb dX6_push_2 rfl hl (by decide) rfl (fun ls hl => ?_)
  refine lv_iload_n hx hb dX6_push_3 rfl (lv_at hl 0 rfl) ?_
  refine lv_if_lt (tgt := 46) hx hb dX6_push_4 (by decide) (fun h9 => absurd h9 (by decide)) (fun _ => ?_)
  refine lv_aload_n hx hb dX6_push_7 rfl (lv_at hl 1 rfl) ?_
  refine va_get (D := D) (ci := 6) (v := .int 4) (C := RX6) (T := TX6) (N := 2) hx hb hts inX6 hown hK hP 0 rfl rfl 1 (by decide) (hts _ b_120) (fun _ h9 => h9) rfl dX6_push_8 ?_
  refine lv_sipush (v := 2000) hx hb dX6_push_11 (by decide) ?_
  refine lv_icmp_ge (tgt := 46) hx hb dX6_push_14 (by decide) (fun h9 => absurd h9 (by decide)) (fun _ => ?_)
  refine lv_aload_n hx hb dX6_push_17 rfl (lv_at hl 1 rfl) ?_
  refine va_get (D := D) (ci := 6) (v := .ref t_bytes) (C := RX6) (T := TX6) (N := 2) hx hb hts inX6 hown hK hP 0 rfl rfl 0 (by decide) (hts _ b_118) (fun _ h9 => h9) rfl dX6_push_18 ?_
  refine lv_aload_n hx hb dX6_push_21 rfl (lv_at hl 1 rfl) ?_
  refine va_get (D := D) (ci := 6) (v := .int 4) (C := RX6) (T := TX6) (N := 2) hx hb hts inX6 hown hK hP 0 rfl rfl 1 (by decide) (hts _ b_120) (fun _ h9 => h9) rfl dX6_push_22 ?_
  refine lv_iload_n hx hb dX6_push_25 rfl (lv_at hl 2 rfl) ?_
  refine lv_iload_n hx hb dX6_push_26 rfl (lv_at hl 0 rfl) ?_
  refine lv_ishr hx hb dX6_push_27 ?_
  refine lv_i2b (v := ((v >>> (24 &&& 31))).toInt8.toInt32) hx hb dX6_push_28 rfl ?_
  refine va_bast hx hb hK hP hD hS 1 2 rfl rfl (by unfold vp_in; decide) dX6_push_29 (fun H locs hP hD hS => ?_)
  have hP : va_P D k_cl [(b, .inr (6, [.ref t_bytes, .int 4])), (t_bytes, .inl (E 2, 2000, .inl (upd f (4 : Int32).toNatClampNeg (vp_nar .byte (((v >>> (24 &&& 31))).toInt8.toInt32)))))] H := hP
  have hD : va_D A [(b, .inr (6, [.ref t_bytes, .int 4])), (t_bytes, .inl (E 2, 2000, .inl (upd f (4 : Int32).toNatClampNeg (vp_nar .byte (((v >>> (24 &&& 31))).toInt8.toInt32)))))] := hD
  generalize (upd f (4 : Int32).toNatClampNeg (vp_nar .byte (((v >>> (24 &&& 31))).toInt8.toInt32))) = f_1 at hP hD
  refine lv_aload_n hx hb dX6_push_30 rfl (lv_at hl 1 rfl) ?_
  refine lv_dup hx hb dX6_push_31 rfl ?_
  refine va_get (D := D) (ci := 6) (v := .int 4) (C := RX6) (T := TX6) (N := 2) hx hb hts inX6 hown hK hP 0 rfl rfl 1 (by decide) (hts _ b_120) (fun _ h9 => h9) rfl dX6_push_32 ?_
  refine lv_iconst (v := 1) hx hb dX6_push_35 (by decide) ?_
  refine lv_iadd hx hb dX6_push_36 ?_
  refine k_ti (y := 5) (by decide) ?_
  refine va_put (D := D) (ci := 6) (v := .int 5) (ty := .int) (C := RX6) (T := TX6) (N := 2) hx hb hts inX6 tyX6 tyX6_ok nmX6 hown hK hP hD hS 0 rfl rfl 1 (by decide) (hts _ b_120) (fun _ h9 => h9) rfl (by decide +kernel) rfl rfl (Nat.le_of_ble_eq_true rfl) dX6_push_37 (fun H locs hP hD hS => ?_)
  have hP : va_P D k_cl [(b, .inr (6, [.ref t_bytes, .int 5])), (t_bytes, .inl (E 2, 2000, .inl f_1))] H := hP
  have hD : va_D A [(b, .inr (6, [.ref t_bytes, .int 5])), (t_bytes, .inl (E 2, 2000, .inl f_1))] := hD
  refine lv_iinc (v := 16) (lv' := [(2, .int 16), (0, .ref b), (1, .int v)]) hx hb dX6_push_40 hl (k := 0) rfl (by decide) (by decide) rfl (fun ls hl => ?_)
  refine lv_goto (tgt := 3) hx hb dX6_push_43 (by decide) ?_
  refine lv_iload_n hx hb dX6_push_3 rfl (lv_at hl 0 rfl) ?_
  refine lv_if_lt (tgt := 46) hx hb dX6_push_4 (by decide) (fun h9 => absurd h9 (by decide)) (fun _ => ?_)
  refine lv_aload_n hx hb dX6_push_7 rfl (lv_at hl 1 rfl) ?_
  refine va_get (D := D) (ci := 6) (v := .int 5) (C := RX6) (T := TX6) (N := 2) hx hb hts inX6 hown hK hP 0 rfl rfl 1 (by decide) (hts _ b_120) (fun _ h9 => h9) rfl dX6_push_8 ?_
  refine lv_sipush (v := 2000) hx hb dX6_push_11 (by decide) ?_
  refine lv_icmp_ge (tgt := 46) hx hb dX6_push_14 (by decide) (fun h9 => absurd h9 (by decide)) (fun _ => ?_)
  refine lv_aload_n hx hb dX6_push_17 rfl (lv_at hl 1 rfl) ?_
  refine va_get (D := D) (ci := 6) (v := .ref t_bytes) (C := RX6) (T := TX6) (N := 2) hx hb hts inX6 hown hK hP 0 rfl rfl 0 (by decide) (hts _ b_118) (fun _ h9 => h9) rfl dX6_push_18 ?_
  refine lv_aload_n hx hb dX6_push_21 rfl (lv_at hl 1 rfl) ?_
  refine va_get (D := D) (ci := 6) (v := .int 5) (C := RX6) (T := TX6) (N := 2) hx hb hts inX6 hown hK hP 0 rfl rfl 1 (by decide) (hts _ b_120) (fun _ h9 => h9) rfl dX6_push_22 ?_
  refine lv_iload_n hx hb dX6_push_25 rfl (lv_at hl 2 rfl) ?_
  refine lv_iload_n hx hb dX6_push_26 rfl (lv_at hl 0 rfl) ?_
  refine lv_ishr hx hb dX6_push_27 ?_
  refine lv_i2b (v := ((v >>> (16 &&& 31))).toInt8.toInt32) hx hb dX6_push_28 rfl ?_
  refine va_bast hx hb hK hP hD hS 1 2 rfl rfl (by unfold vp_in; decide) dX6_push_29 (fun H locs hP hD hS => ?_)
  have hP : va_P D k_cl [(b, .inr (6, [.ref t_bytes, .int 5])), (t_bytes, .inl (E 2, 2000, .inl (upd f_1 (5 : Int32).toNatClampNeg (vp_nar .byte (((v >>> (16 &&& 31))).toInt8.toInt32)))))] H := hP
  have hD : va_D A [(b, .inr (6, [.ref t_bytes, .int 5])), (t_bytes, .inl (E 2, 2000, .inl (upd f_1 (5 : Int32).toNatClampNeg (vp_nar .byte (((v >>> (16 &&& 31))).toInt8.toInt32)))))] := hD
  generalize (upd f_1 (5 : Int32).toNatClampNeg (vp_nar .byte (((v >>> (16 &&& 31))).toInt8.toInt32))) = f_2 at hP hD
  refine lv_aload_n hx hb dX6_push_30 rfl (lv_at hl 1 rfl) ?_
  refine lv_dup hx hb dX6_push_31 rfl ?_
  refine va_get (D := D) (ci := 6) (v := .int 5) (C := RX6) (T := TX6) (N := 2) hx hb hts inX6 hown hK hP 0 rfl rfl 1 (by decide) (hts _ b_120) (fun _ h9 => h9) rfl dX6_push_32 ?_
  refine lv_iconst (v := 1) hx hb dX6_push_35 (by decide) ?_
  refine lv_iadd hx hb dX6_push_36 ?_
  refine k_ti (y := 6) (by decide) ?_
  refine va_put (D := D) (ci := 6) (v := .int 6) (ty := .int) (C := RX6) (T := TX6) (N := 2) hx hb hts inX6 tyX6 tyX6_ok nmX6 hown hK hP hD hS 0 rfl rfl 1 (by decide) (hts _ b_120) (fun _ h9 => h9) rfl (by decide +kernel) rfl rfl (Nat.le_of_ble_eq_true rfl) dX6_push_37 (fun H locs hP hD hS => ?_)
  have hP : va_P D k_cl [(b, .inr (6, [.ref t_bytes, .int 6])), (t_bytes, .inl (E 2, 2000, .inl f_2))] H := hP
  have hD : va_D A [(b, .inr (6, [.ref t_bytes, .int 6])), (t_bytes, .inl (E 2, 2000, .inl f_2))] := hD
  refine lv_iinc (v := 8) (lv' := [(2, .int 8), (0, .ref b), (1, .int v)]) hx hb dX6_push_40 hl (k := 0) rfl (by decide) (by decide) rfl (fun ls hl => ?_)
  refine lv_goto (tgt := 3) hx hb dX6_push_43 (by decide) ?_
  refine lv_iload_n hx hb dX6_push_3 rfl (lv_at hl 0 rfl) ?_
  refine lv_if_lt (tgt := 46) hx hb dX6_push_4 (by decide) (fun h9 => absurd h9 (by decide)) (fun _ => ?_)
  refine lv_aload_n hx hb dX6_push_7 rfl (lv_at hl 1 rfl) ?_
  refine va_get (D := D) (ci := 6) (v := .int 6) (C := RX6) (T := TX6) (N := 2) hx hb hts inX6 hown hK hP 0 rfl rfl 1 (by decide) (hts _ b_120) (fun _ h9 => h9) rfl dX6_push_8 ?_
  refine lv_sipush (v := 2000) hx hb dX6_push_11 (by decide) ?_
  refine lv_icmp_ge (tgt := 46) hx hb dX6_push_14 (by decide) (fun h9 => absurd h9 (by decide)) (fun _ => ?_)
  refine lv_aload_n hx hb dX6_push_17 rfl (lv_at hl 1 rfl) ?_
  refine va_get (D := D) (ci := 6) (v := .ref t_bytes) (C := RX6) (T := TX6) (N := 2) hx hb hts inX6 hown hK hP 0 rfl rfl 0 (by decide) (hts _ b_118) (fun _ h9 => h9) rfl dX6_push_18 ?_
  refine lv_aload_n hx hb dX6_push_21 rfl (lv_at hl 1 rfl) ?_
  refine va_get (D := D) (ci := 6) (v := .int 6) (C := RX6) (T := TX6) (N := 2) hx hb hts inX6 hown hK hP 0 rfl rfl 1 (by decide) (hts _ b_120) (fun _ h9 => h9) rfl dX6_push_22 ?_
  refine lv_iload_n hx hb dX6_push_25 rfl (lv_at hl 2 rfl) ?_
  refine lv_iload_n hx hb dX6_push_26 rfl (lv_at hl 0 rfl) ?_
  refine lv_ishr hx hb dX6_push_27 ?_
  refine lv_i2b (v := ((v >>> (8 &&& 31))).toInt8.toInt32) hx hb dX6_push_28 rfl ?_
  refine va_bast hx hb hK hP hD hS 1 2 rfl rfl (by unfold vp_in; decide) dX6_push_29 (fun H locs hP hD hS => ?_)
  have hP : va_P D k_cl [(b, .inr (6, [.ref t_bytes, .int 6])), (t_bytes, .inl (E 2, 2000, .inl (upd f_2 (6 : Int32).toNatClampNeg (vp_nar .byte (((v >>> (8 &&& 31))).toInt8.toInt32)))))] H := hP
  have hD : va_D A [(b, .inr (6, [.ref t_bytes, .int 6])), (t_bytes, .inl (E 2, 2000, .inl (upd f_2 (6 : Int32).toNatClampNeg (vp_nar .byte (((v >>> (8 &&& 31))).toInt8.toInt32)))))] := hD
  generalize (upd f_2 (6 : Int32).toNatClampNeg (vp_nar .byte (((v >>> (8 &&& 31))).toInt8.toInt32))) = f_3 at hP hD
  refine lv_aload_n hx hb dX6_push_30 rfl (lv_at hl 1 rfl) ?_
  refine lv_dup hx hb dX6_push_31 rfl ?_
  refine va_get (D := D) (ci := 6) (v := .int 6) (C := RX6) (T := TX6) (N := 2) hx hb hts inX6 hown hK hP 0 rfl rfl 1 (by decide) (hts _ b_120) (fun _ h9 => h9) rfl dX6_push_32 ?_
  refine lv_iconst (v := 1) hx hb dX6_push_35 (by decide) ?_
  refine lv_iadd hx hb dX6_push_36 ?_
  refine k_ti (y := 7) (by decide) ?_
  refine va_put (D := D) (ci := 6) (v := .int 7) (ty := .int) (C := RX6) (T := TX6) (N := 2) hx hb hts inX6 tyX6 tyX6_ok nmX6 hown hK hP hD hS 0 rfl rfl 1 (by decide) (hts _ b_120) (fun _ h9 => h9) rfl (by decide +kernel) rfl rfl (Nat.le_of_ble_eq_true rfl) dX6_push_37 (fun H locs hP hD hS => ?_)
  have hP : va_P D k_cl [(b, .inr (6, [.ref t_bytes, .int 7])), (t_bytes, .inl (E 2, 2000, .inl f_3))] H := hP
  have hD : va_D A [(b, .inr (6, [.ref t_bytes, .int 7])), (t_bytes, .inl (E 2, 2000, .inl f_3))] := hD
  refine lv_iinc (v := 0) (lv' := [(2, .int 0), (0, .ref b), (1, .int v)]) hx hb dX6_push_40 hl (k := 0) rfl (by decide) (by decide) rfl (fun ls hl => ?_)
  refine lv_goto (tgt := 3) hx hb dX6_push_43 (by decide) ?_
  refine lv_iload_n hx hb dX6_push_3 rfl (lv_at hl 0 rfl) ?_
  refine lv_if_lt (tgt := 46) hx hb dX6_push_4 (by decide) (fun h9 => absurd h9 (by decide)) (fun _ => ?_)
  refine lv_aload_n hx hb dX6_push_7 rfl (lv_at hl 1 rfl) ?_
  refine va_get (D := D) (ci := 6) (v := .int 7) (C := RX6) (T := TX6) (N := 2) hx hb hts inX6 hown hK hP 0 rfl rfl 1 (by decide) (hts _ b_120) (fun _ h9 => h9) rfl dX6_push_8 ?_
  refine lv_sipush (v := 2000) hx hb dX6_push_11 (by decide) ?_
  refine lv_icmp_ge (tgt := 46) hx hb dX6_push_14 (by decide) (fun h9 => absurd h9 (by decide)) (fun _ => ?_)
  refine lv_aload_n hx hb dX6_push_17 rfl (lv_at hl 1 rfl) ?_
  refine va_get (D := D) (ci := 6) (v := .ref t_bytes) (C := RX6) (T := TX6) (N := 2) hx hb hts inX6 hown hK hP 0 rfl rfl 0 (by decide) (hts _ b_118) (fun _ h9 => h9) rfl dX6_push_18 ?_
  refine lv_aload_n hx hb dX6_push_21 rfl (lv_at hl 1 rfl) ?_
  refine va_get (D := D) (ci := 6) (v := .int 7) (C := RX6) (T := TX6) (N := 2) hx hb hts inX6 hown hK hP 0 rfl rfl 1 (by decide) (hts _ b_120) (fun _ h9 => h9) rfl dX6_push_22 ?_
  refine lv_iload_n hx hb dX6_push_25 rfl (lv_at hl 2 rfl) ?_
  refine lv_iload_n hx hb dX6_push_26 rfl (lv_at hl 0 rfl) ?_
  refine lv_ishr hx hb dX6_push_27 ?_
  refine lv_i2b (v := ((v >>> (0 &&& 31))).toInt8.toInt32) hx hb dX6_push_28 rfl ?_
  refine va_bast hx hb hK hP hD hS 1 2 rfl rfl (by unfold vp_in; decide) dX6_push_29 (fun H locs hP hD hS => ?_)
  have hP : va_P D k_cl [(b, .inr (6, [.ref t_bytes, .int 7])), (t_bytes, .inl (E 2, 2000, .inl (upd f_3 (7 : Int32).toNatClampNeg (vp_nar .byte (((v >>> (0 &&& 31))).toInt8.toInt32)))))] H := hP
  have hD : va_D A [(b, .inr (6, [.ref t_bytes, .int 7])), (t_bytes, .inl (E 2, 2000, .inl (upd f_3 (7 : Int32).toNatClampNeg (vp_nar .byte (((v >>> (0 &&& 31))).toInt8.toInt32)))))] := hD
  generalize (upd f_3 (7 : Int32).toNatClampNeg (vp_nar .byte (((v >>> (0 &&& 31))).toInt8.toInt32))) = f_4 at hP hD
  refine lv_aload_n hx hb dX6_push_30 rfl (lv_at hl 1 rfl) ?_
  refine lv_dup hx hb dX6_push_31 rfl ?_
  refine va_get (D := D) (ci := 6) (v := .int 7) (C := RX6) (T := TX6) (N := 2) hx hb hts inX6 hown hK hP 0 rfl rfl 1 (by decide) (hts _ b_120) (fun _ h9 => h9) rfl dX6_push_32 ?_
  refine lv_iconst (v := 1) hx hb dX6_push_35 (by decide) ?_
  refine lv_iadd hx hb dX6_push_36 ?_
  refine k_ti (y := 8) (by decide) ?_
  refine va_put (D := D) (ci := 6) (v := .int 8) (ty := .int) (C := RX6) (T := TX6) (N := 2) hx hb hts inX6 tyX6 tyX6_ok nmX6 hown hK hP hD hS 0 rfl rfl 1 (by decide) (hts _ b_120) (fun _ h9 => h9) rfl (by decide +kernel) rfl rfl (Nat.le_of_ble_eq_true rfl) dX6_push_37 (fun H locs hP hD hS => ?_)
  have hP : va_P D k_cl [(b, .inr (6, [.ref t_bytes, .int 8])), (t_bytes, .inl (E 2, 2000, .inl f_4))] H := hP
  have hD : va_D A [(b, .inr (6, [.ref t_bytes, .int 8])), (t_bytes, .inl (E 2, 2000, .inl f_4))] := hD
  refine lv_iinc (v := (-8)) (lv' := [(2, .int (-8)), (0, .ref b), (1, .int v)]) hx hb dX6_push_40 hl (k := 0) rfl (by decide) (by decide) rfl (fun ls hl => ?_)
  refine lv_goto (tgt := 3) hx hb dX6_push_43 (by decide) ?_
  refine lv_iload_n hx hb dX6_push_3 rfl (lv_at hl 0 rfl) ?_
  refine lv_if_lt (tgt := 46) hx hb dX6_push_4 (by decide) (fun _ => ?_) (fun h9 => absurd (by decide) h9)
  exact m_v f_4 hx hb hr hlocks rfl trivial (hP.sub [0, 1] rfl) (hD.sub [0, 1] (by decide) rfl) hS (by decide) (by decide) dX6_push_46
set_option maxRecDepth 20000 in
set_option maxHeartbeats 2000000 in
theorem c_push_8 (l : Launch) (D : va_G) (E : Nat → ClassId) (sa : Nat → Nat) (b : Nat) (t_bytes : Nat) (f : Nat → Int32) (v : Int32) : KM l yX6_push (.code yX6_push cX6_push 3 none) 12 400 0 0 D E sa [.ref b, .int v] [(b, .inr (6, [.ref t_bytes, .int 8])), (t_bytes, .inl (E 2, 2000, .inl f))] (S := (Nat → Int32)) (fun u => none) (fun _ => True) (fun u => [(b, .inr (6, [.ref t_bytes, .int 12])), (t_bytes, .inl (E 2, 2000, .inl u))]) := by
  refine KM.of (by decide) (Nat.le_of_ble_eq_true rfl) ?_
  intro p e s m below meth c A ls hx hb hr hts hml hown hlocks hnm hK hP hD hA hS hZ hl
  have hown : s.vm.findClass RX6 = some m.cls := hown
  have hl : lv_has ls 3 [(0, .ref b), (1, .int v)] := hl
  refine lv_bipush (v := 24) hx hb dX6_push_0 (by decide) ?_
  refine lv_istore_n (lv' := [(2, .int 24), (0, .ref b), (1, .int v)]) hx hb dX6_push_2 rfl hl (by decide) rfl (fun ls hl => ?_)
  refine lv_iload_n hx hb dX6_push_3 rfl (lv_at hl 0 rfl) ?_
  refine lv_if_lt (tgt := 46) hx hb dX6_push_4 (by decide) (fun h9 => absurd h9 (by decide)) (fun _ => ?_)
  refine lv_aload_n hx hb dX6_push_7 rfl (lv_at hl 1 rfl) ?_
  refine va_get (D := D) (ci := 6) (v := .int 8) (C := RX6) (T := TX6) (N := 2) hx hb hts inX6 hown hK hP 0 rfl rfl 1 (by decide) (hts _ b_120) (fun _ h9 => h9) rfl dX6_push_8 ?_
  refine lv_sipush (v := 2000) hx hb dX6_push_11 (by decide) ?_
  refine lv_icmp_ge (tgt := 46) hx hb dX6_push_14 (by decide) (fun h9 => absurd h9 (by decide)) (fun _ => ?_)
  refine lv_aload_n hx hb dX6_push_17 rfl (lv_at hl 1 rfl) ?_
  refine va_get (D := D) (ci := 6) (v := .ref t_bytes) (C := RX6) (T := TX6) (N := 2) hx hb hts inX6 hown hK hP 0 rfl rfl 0 (by decide) (hts _ b_118) (fun _ h9 => h9) rfl dX6_push_18 ?_
  refine lv_aload_n hx hb dX6_push_21 rfl (lv_at hl 1 rfl) ?_
  refine va_get (D := D) (ci := 6) (v := .int 8) (C := RX6) (T := TX6) (N := 2) hx hb hts inX6 hown hK hP 0 rfl rfl 1 (by decide) (hts _ b_120) (fun _ h9 => h9) rfl dX6_push_22 ?_
  refine lv_iload_n hx hb dX6_push_25 rfl (lv_at hl 2 rfl) ?_
  refine lv_iload_n hx hb dX6_push_26 rfl (lv_at hl 0 rfl) ?_
  refine lv_ishr hx hb dX6_push_27 ?_
  refine lv_i2b (v := ((v >>> (24 &&& 31))).toInt8.toInt32) hx hb dX6_push_28 rfl ?_
  refine va_bast hx hb hK hP hD hS 1 2 rfl rfl (by unfold vp_in; decide) dX6_push_29 (fun H locs hP hD hS => ?_)
  have hP : va_P D k_cl [(b, .inr (6, [.ref t_bytes, .int 8])), (t_bytes, .inl (E 2, 2000, .inl (upd f (8 : Int32).toNatClampNeg (vp_nar .byte (((v >>> (24 &&& 31))).toInt8.toInt32)))))] H := hP
  have hD : va_D A [(b, .inr (6, [.ref t_bytes, .int 8])), (t_bytes, .inl (E 2, 2000, .inl (upd f (8 : Int32).toNatClampNeg (vp_nar .byte (((v >>> (24 &&& 31))).toInt8.toInt32)))))] := hD
  generalize (upd f (8 : Int32).toNatClampNeg (vp_nar .byte (((v >>> (24 &&& 31))).toInt8.toInt32))) = f_1 at hP hD
  refine lv_aload_n hx hb dX6_push_30 rfl (lv_at hl 1 rfl) ?_
  refine lv_dup hx hb dX6_push_31 rfl ?_
  refine va_get (D := D) (ci := 6) (v := .int 8) (C := RX6) (T := TX6) (N := 2) hx hb hts inX6 hown hK hP 0 rfl rfl 1 (by decide) (hts _ b_120) (fun _ h9 => h9) rfl dX6_push_32 ?_
  refine lv_iconst (v := 1) hx hb dX6_push_35 (by decide) ?_
  refine lv_iadd hx hb dX6_push_36 ?_
  refine k_ti (y := 9) (by decide) ?_
  refine va_put (D := D) (ci := 6) (v := .int 9) (ty := .int) (C := RX6) (T := TX6) (N := 2) hx hb hts inX6 tyX6 tyX6_ok nmX6 hown hK hP hD hS 0 rfl rfl 1 (by decide) (hts _ b_120) (fun _ h9 => h9) rfl (by decide +kernel) rfl rfl (Nat.le_of_ble_eq_true rfl) dX6_push_37 (fun H locs hP hD hS => ?_)
  have hP : va_P D k_cl [(b, .inr (6, [.ref t_bytes, .int 9])), (t_bytes, .inl (E 2, 2000, .inl f_1))] H := hP
  have hD : va_D A [(b, .inr (6, [.ref t_bytes, .int 9])), (t_bytes, .inl (E 2, 2000, .inl f_1))] := hD
  refine lv_iinc (v := 16) (lv' := [(2, .int 16), (0, .ref b), (1, .int v)]) hx hb dX6_push_40 hl (k := 0) rfl (by decide) (by decide) rfl (fun ls hl => ?_)
  refine lv_goto (tgt := 3) hx hb dX6_push_43 (by decide) ?_
  refine lv_iload_n hx hb dX6_push_3 rfl (lv_at hl 0 rfl) ?_
  refine lv_if_lt (tgt := 46) hx hb dX6_push_4 (by decide) (fun h9 => absurd h9 (by decide)) (fun _ => ?_)
  refine lv_aload_n hx hb dX6_push_7 rfl (lv_at hl 1 rfl) ?_
  refine va_get (D := D) (ci := 6) (v := .int 9) (C := RX6) (T := TX6) (N := 2) hx hb hts inX6 hown hK hP 0 rfl rfl 1 (by decide) (hts _ b_120) (fun _ h9 => h9) rfl dX6_push_8 ?_
  refine lv_sipush (v := 2000) hx hb dX6_push_11 (by decide) ?_
  refine lv_icmp_ge (tgt := 46) hx hb dX6_push_14 (by decide) (fun h9 => absurd h9 (by decide)) (fun _ => ?_)
  refine lv_aload_n hx hb dX6_push_17 rfl (lv_at hl 1 rfl) ?_
  refine va_get (D := D) (ci := 6) (v := .ref t_bytes) (C := RX6) (T := TX6) (N := 2) hx hb hts inX6 hown hK hP 0 rfl rfl 0 (by decide) (hts _ b_118) (fun _ h9 => h9) rfl dX6_push_18 ?_
  refine lv_aload_n hx hb dX6_push_21 rfl (lv_at hl 1 rfl) ?_
  refine va_get (D := D) (ci := 6) (v := .int 9) (C := RX6) (T := TX6) (N := 2) hx hb hts inX6 hown hK hP 0 rfl rfl 1 (by decide) (hts _ b_120) (fun _ h9 => h9) rfl dX6_push_22 ?_
  refine lv_iload_n hx hb dX6_push_25 rfl (lv_at hl 2 rfl) ?_
  refine lv_iload_n hx hb dX6_push_26 rfl (lv_at hl 0 rfl) ?_
  refine lv_ishr hx hb dX6_push_27 ?_
  refine lv_i2b (v := ((v >>> (16 &&& 31))).toInt8.toInt32) hx hb dX6_push_28 rfl ?_
  refine va_bast hx hb hK hP hD hS 1 2 rfl rfl (by unfold vp_in; decide) dX6_push_29 (fun H locs hP hD hS => ?_)
  have hP : va_P D k_cl [(b, .inr (6, [.ref t_bytes, .int 9])), (t_bytes, .inl (E 2, 2000, .inl (upd f_1 (9 : Int32).toNatClampNeg (vp_nar .byte (((v >>> (16 &&& 31))).toInt8.toInt32)))))] H := hP
  have hD : va_D A [(b, .inr (6, [.ref t_bytes, .int 9])), (t_bytes, .inl (E 2, 2000, .inl (upd f_1 (9 : Int32).toNatClampNeg (vp_nar .byte (((v >>> (16 &&& 31))).toInt8.toInt32)))))] := hD
  generalize (upd f_1 (9 : Int32).toNatClampNeg (vp_nar .byte (((v >>> (16 &&& 31))).toInt8.toInt32))) = f_2 at hP hD
  refine lv_aload_n hx hb dX6_push_30 rfl (lv_at hl 1 rfl) ?_
  refine lv_dup hx hb dX6_push_31 rfl ?_
  refine va_get (D := D) (ci := 6) (v := .int 9) (C := RX6) (T := TX6) (N := 2) hx hb hts inX6 hown hK hP 0 rfl rfl 1 (by decide) (hts _ b_120) (fun _ h9 => h9) rfl dX6_push_32 ?_
  refine lv_iconst (v := 1) hx hb dX6_push_35 (by decide) ?_
  refine lv_iadd hx hb dX6_push_36 ?_
  refine k_ti (y := 10) (by decide) ?_
  refine va_put (D := D) (ci := 6) (v := .int 10) (ty := .int) (C := RX6) (T := TX6) (N := 2) hx hb hts inX6 tyX6 tyX6_ok nmX6 hown hK hP hD hS 0 rfl rfl 1 (by decide) (hts _ b_120) (fun _ h9 => h9) rfl (by decide +kernel) rfl rfl (Nat.le_of_ble_eq_true rfl) dX6_push_37 (fun H locs hP hD hS => ?_)
  have hP : va_P D k_cl [(b, .inr (6, [.ref t_bytes, .int 10])), (t_bytes, .inl (E 2, 2000, .inl f_2))] H := hP
  have hD : va_D A [(b, .inr (6, [.ref t_bytes, .int 10])), (t_bytes, .inl (E 2, 2000, .inl f_2))] := hD
  refine lv_iinc (v := 8) (lv' := [(2, .int 8), (0, .ref b), (1, .int v)]) hx hb dX6_push_40 hl (k := 0) rfl (by decide) (by decide) rfl (fun ls hl => ?_)
  refine lv_goto (tgt := 3) hx hb dX6_push_43 (by decide) ?_
  refine lv_iload_n hx hb dX6_push_3 rfl (lv_at hl 0 rfl) ?_
  refine lv_if_lt (tgt := 46) hx hb dX6_push_4 (by decide) (fun h9 => absurd h9 (by decide)) (fun _ => ?_)
  refine lv_aload_n hx hb dX6_push_7 rfl (lv_at hl 1 rfl) ?_
  refine va_get (D := D) (ci := 6) (v := .int 10) (C := RX6) (T := TX6) (N := 2) hx hb hts inX6 hown hK hP 0 rfl rfl 1 (by decide) (hts _ b_120) (fun _ h9 => h9) rfl dX6_push_8 ?_
  refine lv_sipush (v := 2000) hx hb dX6_push_11 (by decide) ?_
  refine lv_icmp_ge (tgt := 46) hx hb dX6_push_14 (by decide) (fun h9 => absurd h9 (by decide)) (fun _ => ?_)
  refine lv_aload_n hx hb dX6_push_17 rfl (lv_at hl 1 rfl) ?_
  refine va_get (D := D) (ci := 6) (v := .ref t_bytes) (C := RX6) (T := TX6) (N := 2) hx hb hts inX6 hown hK hP 0 rfl rfl 0 (by decide) (hts _ b_118) (fun _ h9 => h9) rfl dX6_push_18 ?_
  refine lv_aload_n hx hb dX6_push_21 rfl (lv_at hl 1 rfl) ?_
  refine va_get (D := D) (ci := 6) (v := .int 10) (C := RX6) (T := TX6) (N := 2) hx hb hts inX6 hown hK hP 0 rfl rfl 1 (by decide) (hts _ b_120) (fun _ h9 => h9) rfl dX6_push_22 ?_
  refine lv_iload_n hx hb dX6_push_25 rfl (lv_at hl 2 rfl) ?_
  refine lv_iload_n hx hb dX6_push_26 rfl (lv_at hl 0 rfl) ?_
  refine lv_ishr hx hb dX6_push_27 ?_
  refine lv_i2b (v := ((v >>> (8 &&& 31))).toInt8.toInt32) hx hb dX6_push_28 rfl ?_
  refine va_bast hx hb hK hP hD hS 1 2 rfl rfl (by unfold vp_in; decide) dX6_push_29 (fun H locs hP hD hS => ?_)
  have hP : va_P D k_cl [(b, .inr (6, [.ref t_bytes, .int 10])), (t_bytes, .inl (E 2, 2000, .inl (upd f_2 (10 : Int32).toNatClampNeg (vp_nar .byte (((v >>> (8 &&& 31))).toInt8.toInt32)))))] H := hP
  have hD : va_D A [(b, .inr (6, [.ref t_bytes, .int 10])), (t_bytes, .inl (E 2, 2000, .inl (upd f_2 (10 : Int32).toNatClampNeg (vp_nar .byte (((v >>> (8 &&& 31))).toInt8.toInt32)))))] := hD
  generalize (upd f_2 (10 : Int32).toNatClampNeg (vp_nar .byte (((v >>> (8 &&& 31))).toInt8.toInt32))) = f_3 at hP hD
  refine lv_aload_n hx hb dX6_push_30 rfl (lv_at hl 1 rfl) ?_
  refine lv_dup hx hb dX6_push_31 rfl ?_
  refine va_get (D := D) (ci := 6) (v := .int 10) (C := RX6) (T := TX6) (N := 2) hx hb hts inX6 hown hK hP 0 rfl rfl 1 (by decide) (hts _ b_120) (fun _ h9 => h9) rfl dX6_push_32 ?_
  refine lv_iconst (v := 1) hx hb dX6_push_35 (by decide) ?_
  refine lv_iadd hx hb dX6_push_36 ?_
  refine k_ti (y := 11) (by decide) ?_
  refine va_put (D := D) (ci := 6) (v := .int 11) (ty := .int) (C := RX6) (T := TX6) (N := 2) hx hb hts inX6 tyX6 tyX6_ok nmX6 hown hK hP hD hS 0 rfl rfl 1 (by decide) (hts _ b_120) (fun _ h9 => h9) rfl (by decide +kernel) rfl rfl (Nat.le_of_ble_eq_true rfl) dX6_push_37 (fun H locs hP hD hS => ?_)
  have hP : va_P D k_cl [(b, .inr (6, [.ref t_bytes, .int 11])), (t_bytes, .inl (E 2, 2000, .inl f_3))] H := hP
  have hD : va_D A [(b, .inr (6, [.ref t_bytes, .int 11])), (t_bytes, .inl (E 2, 2000, .inl f_3))] := hD
  refine lv_iinc (v := 0) (lv' := [(2, .int 0), (0, .ref b), (1, .int v)]) hx hb dX6_push_40 hl (k := 0) rfl (by decide) (by decide) rfl (fun ls hl => ?_)
  refine lv_goto (tgt := 3) hx hb dX6_push_43 (by decide) ?_
  refine lv_iload_n hx hb dX6_push_3 rfl (lv_at hl 0 rfl) ?_
  refine lv_if_lt (tgt := 46) hx hb dX6_push_4 (by decide) (fun h9 => absurd h9 (by decide)) (fun _ => ?_)
  refine lv_aload_n hx hb dX6_push_7 rfl (lv_at hl 1 rfl) ?_
  refine va_get (D := D) (ci := 6) (v := .int 11) (C := RX6) (T := TX6) (N := 2) hx hb hts inX6 hown hK hP 0 rfl rfl 1 (by decide) (hts _ b_120) (fun _ h9 => h9) rfl dX6_push_8 ?_
  refine lv_sipush (v := 2000) hx hb dX6_push_11 (by decide) ?_
  refine lv_icmp_ge (tgt := 46) hx hb dX6_push_14 (by decide) (fun h9 => absurd h9 (by decide)) (fun _ => ?_)
  refine lv_aload_n hx hb dX6_push_17 rfl (lv_at hl 1 rfl) ?_
  refine va_get (D := D) (ci := 6) (v := .ref t_bytes) (C := RX6) (T := TX6) (N := 2) hx hb hts inX6 hown hK hP 0 rfl rfl 0 (by decide) (hts _ b_118) (fun _ h9 => h9) rfl dX6_push_18 ?_
  refine lv_aload_n hx hb dX6_push_21 rfl (lv_at hl 1 rfl) ?_
  refine va_get (D := D) (ci := 6) (v := .int 11) (C := RX6) (T := TX6) (N := 2) hx hb hts inX6 hown hK hP 0 rfl rfl 1 (by decide) (hts _ b_120) (fun _ h9 => h9) rfl dX6_push_22 ?_
  refine lv_iload_n hx hb dX6_push_25 rfl (lv_at hl 2 rfl) ?_
  refine lv_iload_n hx hb dX6_push_26 rfl (lv_at hl 0 rfl) ?_
  refine lv_ishr hx hb dX6_push_27 ?_
  refine lv_i2b (v := ((v >>> (0 &&& 31))).toInt8.toInt32) hx hb dX6_push_28 rfl ?_
  refine va_bast hx hb hK hP hD hS 1 2 rfl rfl (by unfold vp_in; decide) dX6_push_29 (fun H locs hP hD hS => ?_)
  have hP : va_P D k_cl [(b, .inr (6, [.ref t_bytes, .int 11])), (t_bytes, .inl (E 2, 2000, .inl (upd f_3 (11 : Int32).toNatClampNeg (vp_nar .byte (((v >>> (0 &&& 31))).toInt8.toInt32)))))] H := hP
  have hD : va_D A [(b, .inr (6, [.ref t_bytes, .int 11])), (t_bytes, .inl (E 2, 2000, .inl (upd f_3 (11 : Int32).toNatClampNeg (vp_nar .byte (((v >>> (0 &&& 31))).toInt8.toInt32)))))] := hD
  generalize (upd f_3 (11 : Int32).toNatClampNeg (vp_nar .byte (((v >>> (0 &&& 31))).toInt8.toInt32))) = f_4 at hP hD
  refine lv_aload_n hx hb dX6_push_30 rfl (lv_at hl 1 rfl) ?_
  refine lv_dup hx hb dX6_push_31 rfl ?_
  refine va_get (D := D) (ci := 6) (v := .int 11) (C := RX6) (T := TX6) (N := 2) hx hb hts inX6 hown hK hP 0 rfl rfl 1 (by decide) (hts _ b_120) (fun _ h9 => h9) rfl dX6_push_32 ?_
  refine lv_iconst (v := 1) hx hb dX6_push_35 (by decide) ?_
  refine lv_iadd hx hb dX6_push_36 ?_
  refine k_ti (y := 12) (by decide) ?_
  refine va_put (D := D) (ci := 6) (v := .int 12) (ty := .int) (C := RX6) (T := TX6) (N := 2) hx hb hts inX6 tyX6 tyX6_ok nmX6 hown hK hP hD hS 0 rfl rfl 1 (by decide) (hts _ b_120) (fun _ h9 => h9) rfl (by decide +kernel) rfl rfl (Nat.le_of_ble_eq_true rfl) dX6_push_37 (fun H locs hP hD hS => ?_)
  have hP : va_P D k_cl [(b, .inr (6, [.ref t_bytes, .int 12])), (t_bytes, .inl (E 2, 2000, .inl f_4))] H := hP
  have hD : va_D A [(b, .inr (6, [.ref t_bytes, .int 12])), (t_bytes, .inl (E 2, 2000, .inl f_4))] := hD
  refine lv_iinc (v := (-8)) (lv' := [(2, .int (-8)), (0, .ref b), (1, .int v)]) hx hb dX6_push_40 hl (k := 0) rfl (by decide) (by decide) rfl (fun ls hl => ?_)
  refine lv_goto (tgt := 3) hx hb dX6_push_43 (by decide) ?_
  refine lv_iload_n hx hb dX6_push_3 rfl (lv_at hl 0 rfl) ?_
  refine lv_if_lt (tgt := 46) hx hb dX6_push_4 (by decide) (fun _ => ?_) (fun h9 => absurd (by decide) h9)
  exact m_v f_4 hx hb hr hlocks rfl trivial (hP.sub [0, 1] rfl) (hD.sub [0, 1] (by decide) rfl) hS (by decide) (by decide) dX6_push_46
set_option maxRecDepth 20000 in
set_option maxHeartbeats 2000000 in
theorem c_push_12 (l : Launch) (D : va_G) (E : Nat → ClassId) (sa : Nat → Nat) (b : Nat) (t_bytes : Nat) (f : Nat → Int32) (v : Int32) : KM l yX6_push (.code yX6_push cX6_push 3 none) 12 400 0 0 D E sa [.ref b, .int v] [(b, .inr (6, [.ref t_bytes, .int 12])), (t_bytes, .inl (E 2, 2000, .inl f))] (S := (Nat → Int32)) (fun u => none) (fun _ => True) (fun u => [(b, .inr (6, [.ref t_bytes, .int 16])), (t_bytes, .inl (E 2, 2000, .inl u))]) := by
  refine KM.of (by decide) (Nat.le_of_ble_eq_true rfl) ?_
  intro p e s m below meth c A ls hx hb hr hts hml hown hlocks hnm hK hP hD hA hS hZ hl
  have hown : s.vm.findClass RX6 = some m.cls := hown
  have hl : lv_has ls 3 [(0, .ref b), (1, .int v)] := hl
  refine lv_bipush (v := 24) hx hb dX6_push_0 (by decide) ?_
  refine lv_istore_n (lv' := [(2, .int 24), (0, .ref b), (1, .int v)]) hx hb dX6_push_2 rfl hl (by decide) rfl (fun ls hl => ?_)
  refine lv_iload_n hx hb dX6_push_3 rfl (lv_at hl 0 rfl) ?_
  refine lv_if_lt (tgt := 46) hx hb dX6_push_4 (by decide) (fun h9 => absurd h9 (by decide)) (fun _ => ?_)
  refine lv_aload_n hx hb dX6_push_7 rfl (lv_at hl 1 rfl) ?_
  refine va_get (D := D) (ci := 6) (v := .int 12) (C := RX6) (T := TX6) (N := 2) hx hb hts inX6 hown hK hP 0 rfl rfl 1 (by decide) (hts _ b_120) (fun _ h9 => h9) rfl dX6_push_8 ?_
  refine lv_sipush (v := 2000) hx hb dX6_push_11 (by decide) ?_
  refine lv_icmp_ge (tgt := 46) hx hb dX6_push_14 (by decide) (fun h9 => absurd h9 (by decide)) (fun _ => ?_)
  refine lv_aload_n hx hb dX6_push_17 rfl (lv_at hl 1 rfl) ?_
  refine va_get (D := D) (ci := 6) (v := .ref t_bytes) (C := RX6) (T := TX6) (N := 2) hx hb hts inX6 hown hK hP 0 rfl rfl 0 (by decide) (hts _ b_118) (fun _ h9 => h9) rfl dX6_push_18 ?_
  refine lv_aload_n hx hb dX6_push_21 rfl (lv_at hl 1 rfl) ?_
  refine va_get (D := D) (ci := 6) (v := .int 12) (C := RX6) (T := TX6) (N := 2) hx hb hts inX6 hown hK hP 0 rfl rfl 1 (by decide) (hts _ b_120) (fun _ h9 => h9) rfl dX6_push_22 ?_
  refine lv_iload_n hx hb dX6_push_25 rfl (lv_at hl 2 rfl) ?_
  refine lv_iload_n hx hb dX6_push_26 rfl (lv_at hl 0 rfl) ?_
  refine lv_ishr hx hb dX6_push_27 ?_
  refine lv_i2b (v := ((v >>> (24 &&& 31))).toInt8.toInt32) hx hb dX6_push_28 rfl ?_
  refine va_bast hx hb hK hP hD hS 1 2 rfl rfl (by unfold vp_in; decide) dX6_push_29 (fun H locs hP hD hS => ?_)
  have hP : va_P D k_cl [(b, .inr (6, [.ref t_bytes, .int 12])), (t_bytes, .inl (E 2, 2000, .inl (upd f (12 : Int32).toNatClampNeg (vp_nar .byte (((v >>> (24 &&& 31))).toInt8.toInt32)))))] H := hP
  have hD : va_D A [(b, .inr (6, [.ref t_bytes, .int 12])), (t_bytes, .inl (E 2, 2000, .inl (upd f (12 : Int32).toNatClampNeg (vp_nar .byte (((v >>> (24 &&& 31))).toInt8.toInt32)))))] := hD
  generalize (upd f (12 : Int32).toNatClampNeg (vp_nar .byte (((v >>> (24 &&& 31))).toInt8.toInt32))) = f_1 at hP hD
  refine lv_aload_n hx hb dX6_push_30 rfl (lv_at hl 1 rfl) ?_
  refine lv_dup hx hb dX6_push_31 rfl ?_
  refine va_get (D := D) (ci := 6) (v := .int 12) (C := RX6) (T := TX6) (N := 2) hx hb hts inX6 hown hK hP 0 rfl rfl 1 (by decide) (hts _ b_120) (fun _ h9 => h9) rfl dX6_push_32 ?_
  refine lv_iconst (v := 1) hx hb dX6_push_35 (by decide) ?_
  refine lv_iadd hx hb dX6_push_36 ?_
  refine k_ti (y := 13) (by decide) ?_
  refine va_put (D := D) (ci := 6) (v := .int 13) (ty := .int) (C := RX6) (T := TX6) (N := 2) hx hb hts inX6 tyX6 tyX6_ok nmX6 hown hK hP hD hS 0 rfl rfl 1 (by decide) (hts _ b_120) (fun _ h9 => h9) rfl (by decide +kernel) rfl rfl (Nat.le_of_ble_eq_true rfl) dX6_push_37 (fun H locs hP hD hS => ?_)
  have hP : va_P D k_cl [(b, .inr (6, [.ref t_bytes, .int 13])), (t_bytes, .inl (E 2, 2000, .inl f_1))] H := hP
  have hD : va_D A [(b, .inr (6, [.ref t_bytes, .int 13])), (t_bytes, .inl (E 2, 2000, .inl f_1))] := hD
  refine lv_iinc (v := 16) (lv' := [(2, .int 16), (0, .ref b), (1, .int v)]) hx hb dX6_push_40 hl (k := 0) rfl (by decide) (by decide) rfl (fun ls hl => ?_)
  refine lv_goto (tgt := 3) hx hb dX6_push_43 (by decide) ?_
  refine lv_iload_n hx hb dX6_push_3 rfl (lv_at hl 0 rfl) ?_
  refine lv_if_lt (tgt := 46) hx hb dX6_push_4 (by decide) (fun h9 => absurd h9 (by decide)) (fun _ => ?_)
  refine lv_aload_n hx hb dX6_push_7 rfl (lv_at hl 1 rfl) ?_
  refine va_get (D := D) (ci := 6) (v := .int 13) (C := RX6) (T := TX6) (N := 2) hx hb hts inX6 hown hK hP 0 rfl rfl 1 (by decide) (hts _ b_120) (fun _ h9 => h9) rfl dX6_push_8 ?_
  refine lv_sipush (v := 2000) hx hb dX6_push_11 (by decide) ?_
  refine lv_icmp_ge (tgt := 46) hx hb dX6_push_14 (by decide) (fun h9 => absurd h9 (by decide)) (fun _ => ?_)
  refine lv_aload_n hx hb dX6_push_17 rfl (lv_at hl 1 rfl) ?_
  refine va_get (D := D) (ci := 6) (v := .ref t_bytes) (C := RX6) (T := TX6) (N := 2) hx hb hts inX6 hown hK hP 0 rfl rfl 0 (by decide) (hts _ b_118) (fun _ h9 => h9) rfl dX6_push_18 ?_
  refine lv_aload_n hx hb dX6_push_21 rfl (lv_at hl 1 rfl) ?_
  refine va_get (D := D) (ci := 6) (v := .int 13) (C := RX6) (T := TX6) (N := 2) hx hb hts inX6 hown hK hP 0 rfl rfl 1 (by decide) (hts _ b_120) (fun _ h9 => h9) rfl dX6_push_22 ?_
  refine lv_iload_n hx hb dX6_push_25 rfl (lv_at hl 2 rfl) ?_
  refine lv_iload_n hx hb dX6_push_26 rfl (lv_at hl 0 rfl) ?_
  refine lv_ishr hx hb dX6_push_27 ?_
  refine lv_i2b (v := ((v >>> (16 &&& 31))).toInt8.toInt32) hx hb dX6_push_28 rfl ?_
  refine va_bast hx hb hK hP hD hS 1 2 rfl rfl (by unfold vp_in; decide) dX6_push_29 (fun H locs hP hD hS => ?_)
  have hP : va_P D k_cl [(b, .inr (6, [.ref t_bytes, .int 13])), (t_bytes, .inl (E 2, 2000, .inl (upd f_1 (13 : Int32).toNatClampNeg (vp_nar .byte (((v >>> (16 &&& 31))).toInt8.toInt32)))))] H := hP
  have hD : va_D A [(b, .inr (6, [.ref t_bytes, .int 13])), (t_bytes, .inl (E 2, 2000, .inl (upd f_1 (13 : Int32).toNatClampNeg (vp_nar .byte (((v >>> (16 &&& 31))).toInt8.toInt32)))))] := hD
  generalize (upd f_1 (13 : Int32).toNatClampNeg (vp_nar .byte (((v >>> (16 &&& 31))).toInt8.toInt32))) = f_2 at hP hD
  refine lv_aload_n hx hb dX6_push_30 rfl (lv_at hl 1 rfl) ?_
  refine lv_dup hx hb dX6_push_31 rfl ?_
  refine va_get (D := D) (ci := 6) (v := .int 13) (C := RX6) (T := TX6) (N := 2) hx hb hts inX6 hown hK hP 0 rfl rfl 1 (by decide) (hts _ b_120) (fun _ h9 => h9) rfl dX6_push_32 ?_
  refine lv_iconst (v := 1) hx hb dX6_push_35 (by decide) ?_
  refine lv_iadd hx hb dX6_push_36 ?_
  refine k_ti (y := 14) (by decide) ?_
  refine va_put (D := D) (ci := 6) (v := .int 14) (ty := .int) (C := RX6) (T := TX6) (N := 2) hx hb hts inX6 tyX6 tyX6_ok nmX6 hown hK hP hD hS 0 rfl rfl 1 (by decide) (hts _ b_120) (fun _ h9 => h9) rfl (by decide +kernel) rfl rfl (Nat.le_of_ble_eq_true rfl) dX6_push_37 (fun H locs hP hD hS => ?_)
  have hP : va_P D k_cl [(b, .inr (6, [.ref t_bytes, .int 14])), (t_bytes, .inl (E 2, 2000, .inl f_2))] H := hP
  have hD : va_D A [(b, .inr (6, [.ref t_bytes, .int 14])), (t_bytes, .inl (E 2, 2000, .inl f_2))] := hD
  refine lv_iinc (v := 8) (lv' := [(2, .int 8), (0, .ref b), (1, .int v)]) hx hb dX6_push_40 hl (k := 0) rfl (by decide) (by decide) rfl (fun ls hl => ?_)
  refine lv_goto (tgt := 3) hx hb dX6_push_43 (by decide) ?_
  refine lv_iload_n hx hb dX6_push_3 rfl (lv_at hl 0 rfl) ?_
  refine lv_if_lt (tgt := 46) hx hb dX6_push_4 (by decide) (fun h9 => absurd h9 (by decide)) (fun _ => ?_)
  refine lv_aload_n hx hb dX6_push_7 rfl (lv_at hl 1 rfl) ?_
  refine va_get (D := D) (ci := 6) (v := .int 14) (C := RX6) (T := TX6) (N := 2) hx hb hts inX6 hown hK hP 0 rfl rfl 1 (by decide) (hts _ b_120) (fun _ h9 => h9) rfl dX6_push_8 ?_
  refine lv_sipush (v := 2000) hx hb dX6_push_11 (by decide) ?_
  refine lv_icmp_ge (tgt := 46) hx hb dX6_push_14 (by decide) (fun h9 => absurd h9 (by decide)) (fun _ => ?_)
  refine lv_aload_n hx hb dX6_push_17 rfl (lv_at hl 1 rfl) ?_
  refine va_get (D := D) (ci := 6) (v := .ref t_bytes) (C := RX6) (T := TX6) (N := 2) hx hb hts inX6 hown hK hP 0 rfl rfl 0 (by decide) (hts _ b_118) (fun _ h9 => h9) rfl dX6_push_18 ?_
  refine lv_aload_n hx hb dX6_push_21 rfl (lv_at hl 1 rfl) ?_
  refine va_get (D := D) (ci := 6) (v := .int 14) (C := RX6) (T := TX6) (N := 2) hx hb hts inX6 hown hK hP 0 rfl rfl 1 (by decide) (hts _ b_120) (fun _ h9 => h9) rfl dX6_push_22 ?_
  refine lv_iload_n hx hb dX6_push_25 rfl (lv_at hl 2 rfl) ?_
  refine lv_iload_n hx hb dX6_push_26 rfl (lv_at hl 0 rfl) ?_
  refine lv_ishr hx hb dX6_push_27 ?_
  refine lv_i2b (v := ((v >>> (8 &&& 31))).toInt8.toInt32) hx hb dX6_push_28 rfl ?_
  refine va_bast hx hb hK hP hD hS 1 2 rfl rfl (by unfold vp_in; decide) dX6_push_29 (fun H locs hP hD hS => ?_)
  have hP : va_P D k_cl [(b, .inr (6, [.ref t_bytes, .int 14])), (t_bytes, .inl (E 2, 2000, .inl (upd f_2 (14 : Int32).toNatClampNeg (vp_nar .byte (((v >>> (8 &&& 31))).toInt8.toInt32)))))] H := hP
  have hD : va_D A [(b, .inr (6, [.ref t_bytes, .int 14])), (t_bytes, .inl (E 2, 2000, .inl (upd f_2 (14 : Int32).toNatClampNeg (vp_nar .byte (((v >>> (8 &&& 31))).toInt8.toInt32)))))] := hD
  generalize (upd f_2 (14 : Int32).toNatClampNeg (vp_nar .byte (((v >>> (8 &&& 31))).toInt8.toInt32))) = f_3 at hP hD
  refine lv_aload_n hx hb dX6_push_30 rfl (lv_at hl 1 rfl) ?_
  refine lv_dup hx hb dX6_push_31 rfl ?_
  refine va_get (D := D) (ci := 6) (v := .int 14) (C := RX6) (T := TX6) (N := 2) hx hb hts inX6 hown hK hP 0 rfl rfl 1 (by decide) (hts _ b_120) (fun _ h9 => h9) rfl dX6_push_32 ?_
  refine lv_iconst (v := 1) hx hb dX6_push_35 (by decide) ?_
  refine lv_iadd hx hb dX6_push_36 ?_
  refine k_ti (y := 15) (by decide) ?_
  refine va_put (D := D) (ci := 6) (v := .int 15) (ty := .int) (C := RX6) (T := TX6) (N := 2) hx hb hts inX6 tyX6 tyX6_ok nmX6 hown hK hP hD hS 0 rfl rfl 1 (by decide) (hts _ b_120) (fun _ h9 => h9) rfl (by decide +kernel) rfl rfl (Nat.le_of_ble_eq_true rfl) dX6_push_37 (fun H locs hP hD hS => ?_)
  have hP : va_P D k_cl [(b, .inr (6, [.ref t_bytes, .int 15])), (t_bytes, .inl (E 2, 2000, .inl f_3))] H := hP
  have hD : va_D A [(b, .inr (6, [.ref t_bytes, .int 15])), (t_bytes, .inl (E 2, 2000, .inl f_3))] := hD
  refine lv_iinc (v := 0) (lv' := [(2, .int 0), (0, .ref b), (1, .int v)]) hx hb dX6_push_40 hl (k := 0) rfl (by decide) (by decide) rfl (fun ls hl => ?_)
  refine lv_goto (tgt := 3) hx hb dX6_push_43 (by decide) ?_
  refine lv_iload_n hx hb dX6_push_3 rfl (lv_at hl 0 rfl) ?_
  refine lv_if_lt (tgt := 46) hx hb dX6_push_4 (by decide) (fun h9 => absurd h9 (by decide)) (fun _ => ?_)
  refine lv_aload_n hx hb dX6_push_7 rfl (lv_at hl 1 rfl) ?_
  refine va_get (D := D) (ci := 6) (v := .int 15) (C := RX6) (T := TX6) (N := 2) hx hb hts inX6 hown hK hP 0 rfl rfl 1 (by decide) (hts _ b_120) (fun _ h9 => h9) rfl dX6_push_8 ?_
  refine lv_sipush (v := 2000) hx hb dX6_push_11 (by decide) ?_
  refine lv_icmp_ge (tgt := 46) hx hb dX6_push_14 (by decide) (fun h9 => absurd h9 (by decide)) (fun _ => ?_)
  refine lv_aload_n hx hb dX6_push_17 rfl (lv_at hl 1 rfl) ?_
  refine va_get (D := D) (ci := 6) (v := .ref t_bytes) (C := RX6) (T := TX6) (N := 2) hx hb hts inX6 hown hK hP 0 rfl rfl 0 (by decide) (hts _ b_118) (fun _ h9 => h9) rfl dX6_push_18 ?_
  refine lv_aload_n hx hb dX6_push_21 rfl (lv_at hl 1 rfl) ?_
  refine va_get (D := D) (ci := 6) (v := .int 15) (C := RX6) (T := TX6) (N := 2) hx hb hts inX6 hown hK hP 0 rfl rfl 1 (by decide) (hts _ b_120) (fun _ h9 => h9) rfl dX6_push_22 ?_
  refine lv_iload_n hx hb dX6_push_25 rfl (lv_at hl 2 rfl) ?_
  refine lv_iload_n hx hb dX6_push_26 rfl (lv_at hl 0 rfl) ?_
  refine lv_ishr hx hb dX6_push_27 ?_
  refine lv_i2b (v := ((v >>> (0 &&& 31))).toInt8.toInt32) hx hb dX6_push_28 rfl ?_
  refine va_bast hx hb hK hP hD hS 1 2 rfl rfl (by unfold vp_in; decide) dX6_push_29 (fun H locs hP hD hS => ?_)
  have hP : va_P D k_cl [(b, .inr (6, [.ref t_bytes, .int 15])), (t_bytes, .inl (E 2, 2000, .inl (upd f_3 (15 : Int32).toNatClampNeg (vp_nar .byte (((v >>> (0 &&& 31))).toInt8.toInt32)))))] H := hP
  have hD : va_D A [(b, .inr (6, [.ref t_bytes, .int 15])), (t_bytes, .inl (E 2, 2000, .inl (upd f_3 (15 : Int32).toNatClampNeg (vp_nar .byte (((v >>> (0 &&& 31))).toInt8.toInt32)))))] := hD
  generalize (upd f_3 (15 : Int32).toNatClampNeg (vp_nar .byte (((v >>> (0 &&& 31))).toInt8.toInt32))) = f_4 at hP hD
  refine lv_aload_n hx hb dX6_push_30 rfl (lv_at hl 1 rfl) ?_
  refine lv_dup hx hb dX6_push_31 rfl ?_
  refine va_get (D := D) (ci := 6) (v := .int 15) (C := RX6) (T := TX6) (N := 2) hx hb hts inX6 hown hK hP 0 rfl rfl 1 (by decide) (hts _ b_120) (fun _ h9 => h9) rfl dX6_push_32 ?_
  refine lv_iconst (v := 1) hx hb dX6_push_35 (by decide) ?_
  refine lv_iadd hx hb dX6_push_36 ?_
  refine k_ti (y := 16) (by decide) ?_
  refine va_put (D := D) (ci := 6) (v := .int 16) (ty := .int) (C := RX6) (T := TX6) (N := 2) hx hb hts inX6 tyX6 tyX6_ok nmX6 hown hK hP hD hS 0 rfl rfl 1 (by decide) (hts _ b_120) (fun _ h9 => h9) rfl (by decide +kernel) rfl rfl (Nat.le_of_ble_eq_true rfl) dX6_push_37 (fun H locs hP hD hS => ?_)
  have hP : va_P D k_cl [(b, .inr (6, [.ref t_bytes, .int 16])), (t_bytes, .inl (E 2, 2000, .inl f_4))] H := hP
  have hD : va_D A [(b, .inr (6, [.ref t_bytes, .int 16])), (t_bytes, .inl (E 2, 2000, .inl f_4))] := hD
  refine lv_iinc (v := (-8)) (lv' := [(2, .int (-8)), (0, .ref b), (1, .int v)]) hx hb dX6_push_40 hl (k := 0) rfl (by decide) (by decide) rfl (fun ls hl => ?_)
  refine lv_goto (tgt := 3) hx hb dX6_push_43 (by decide) ?_
  refine lv_iload_n hx hb dX6_push_3 rfl (lv_at hl 0 rfl) ?_
  refine lv_if_lt (tgt := 46) hx hb dX6_push_4 (by decide) (fun _ => ?_) (fun h9 => absurd (by decide) h9)
  exact m_v f_4 hx hb hr hlocks rfl trivial (hP.sub [0, 1] rfl) (hD.sub [0, 1] (by decide) rfl) hS (by decide) (by decide) dX6_push_46
set_option maxRecDepth 20000 in
set_option maxHeartbeats 2000000 in
theorem c_push_16 (l : Launch) (D : va_G) (E : Nat → ClassId) (sa : Nat → Nat) (b : Nat) (t_bytes : Nat) (f : Nat → Int32) (v : Int32) : KM l yX6_push (.code yX6_push cX6_push 3 none) 12 400 0 0 D E sa [.ref b, .int v] [(b, .inr (6, [.ref t_bytes, .int 16])), (t_bytes, .inl (E 2, 2000, .inl f))] (S := (Nat → Int32)) (fun u => none) (fun _ => True) (fun u => [(b, .inr (6, [.ref t_bytes, .int 20])), (t_bytes, .inl (E 2, 2000, .inl u))]) := by
  refine KM.of (by decide) (Nat.le_of_ble_eq_true rfl) ?_
  intro p e s m below meth c A ls hx hb hr hts hml hown hlocks hnm hK hP hD hA hS hZ hl
  have hown : s.vm.findClass RX6 = some m.cls := hown
  have hl : lv_has ls 3 [(0, .ref b), (1, .int v)] := hl
  refine lv_bipush (v := 24) hx hb dX6_push_0 (by decide) ?_
  refine lv_istore_n (lv' := [(2, .int 24), (0, .ref b), (1, .int v)]) hx hb dX6_push_2 rfl hl (by decide) rfl (fun ls hl => ?_)
  refine lv_iload_n hx hb dX6_push_3 rfl (lv_at hl 0 rfl) ?_
  refine lv_if_lt (tgt := 46) hx hb dX6_push_4 (by decide) (fun h9 => absurd h9 (by decide)) (fun _ => ?_)
  refine lv_aload_n hx hb dX6_push_7 rfl (lv_at hl 1 rfl) ?_
  refine va_get (D := D) (ci := 6) (v := .int 16) (C := RX6) (T := TX6) (N := 2) hx hb hts inX6 hown hK hP 0 rfl rfl 1 (by decide) (hts _ b_120) (fun _ h9 => h9) rfl dX6_push_8 ?_
  refine lv_sipush (v := 2000) hx hb dX6_push_11 (by decide) ?_
  refine lv_icmp_ge (tgt := 46) hx hb dX6_push_14 (by decide) (fun h9 => absurd h9 (by decide)) (fun _ => ?_)
  refine lv_aload_n hx hb dX6_push_17 rfl (lv_at hl 1 rfl) ?_
  refine va_get (D := D) (ci := 6) (v := .ref t_bytes) (C := RX6) (T := TX6) (N := 2) hx hb hts inX6 hown hK hP 0 rfl rfl 0 (by decide) (hts _ b_118) (fun _ h9 => h9) rfl dX6_push_18 ?_
  refine lv_aload_n hx hb dX6_push_21 rfl (lv_at hl 1 rfl) ?_
  refine va_get (D := D) (ci := 6) (v := .int 16) (C := RX6) (T := TX6) (N := 2) hx hb hts inX6 hown hK hP 0 rfl rfl 1 (by decide) (hts _ b_120) (fun _ h9 => h9) rfl dX6_push_22 ?_
  refine lv_iload_n hx hb dX6_push_25 rfl (lv_at hl 2 rfl) ?_
  refine lv_iload_n hx hb dX6_push_26 rfl (lv_at hl 0 rfl) ?_
  refine lv_ishr hx hb dX6_push_27 ?_
  refine lv_i2b (v := ((v >>> (24 &&& 31))).toInt8.toInt32) hx hb dX6_push_28 rfl ?_
  refine va_bast hx hb hK hP hD hS 1 2 rfl rfl (by unfold vp_in; decide) dX6_push_29 (fun H locs hP hD hS => ?_)
  have hP : va_P D k_cl [(b, .inr (6, [.ref t_bytes, .int 16])), (t_bytes, .inl (E 2, 2000, .inl (upd f (16 : Int32).toNatClampNeg (vp_nar .byte (((v >>> (24 &&& 31))).toInt8.toInt32)))))] H := hP
  have hD : va_D A [(b, .inr (6, [.ref t_bytes, .int 16])), (t_bytes, .inl (E 2, 2000, .inl (upd f (16 : Int32).toNatClampNeg (vp_nar .byte (((v >>> (24 &&& 31))).toInt8.toInt32)))))] := hD
  generalize (upd f (16 : Int32).toNatClampNeg (vp_nar .byte (((v >>> (24 &&& 31))).toInt8.toInt32))) = f_1 at hP hD
  refine lv_aload_n hx hb dX6_push_30 rfl (lv_at hl 1 rfl) ?_
  refine lv_dup hx hb dX6_push_31 rfl ?_
  refine va_get (D := D) (ci := 6) (v := .int 16) (C := RX6) (T := TX6) (N := 2) hx hb hts inX6 hown hK hP 0 rfl rfl 1 (by decide) (hts _ b_120) (fun _ h9 => h9) rfl dX6_push_32 ?_
  refine lv_iconst (v := 1) hx hb dX6_push_35 (by decide) ?_
  refine lv_iadd hx hb dX6_push_36 ?_
  refine k_ti (y := 17) (by decide) ?_
  refine va_put (D := D) (ci := 6) (v := .int 17) (ty := .int) (C := RX6) (T := TX6) (N := 2) hx hb hts inX6 tyX6 tyX6_ok nmX6 hown hK hP hD hS 0 rfl rfl 1 (by decide) (hts _ b_120) (fun _ h9 => h9) rfl (by decide +kernel) rfl rfl (Nat.le_of_ble_eq_true rfl) dX6_push_37 (fun H locs hP hD hS => ?_)
  have hP : va_P D k_cl [(b, .inr (6, [.ref t_bytes, .int 17])), (t_bytes, .inl (E 2, 2000, .inl f_1))] H := hP
  have hD : va_D A [(b, .inr (6, [.ref t_bytes, .int 17])), (t_bytes, .inl (E 2, 2000, .inl f_1))] := hD
  refine lv_iinc (v := 16) (lv' := [(2, .int 16), (0, .ref b), (1, .int v)]) hx hb dX6_push_40 hl (k := 0) rfl (by decide) (by decide) rfl (fun ls hl => ?_)
  refine lv_goto (tgt := 3) hx hb dX6_push_43 (by decide) ?_
  refine lv_iload_n hx hb dX6_push_3 rfl (lv_at hl 0 rfl) ?_
  refine lv_if_lt (tgt := 46) hx hb dX6_push_4 (by decide) (fun h9 => absurd h9 (by decide)) (fun _ => ?_)
  refine lv_aload_n hx hb dX6_push_7 rfl (lv_at hl 1 rfl) ?_
  refine va_get (D := D) (ci := 6) (v := .int 17) (C := RX6) (T := TX6) (N := 2) hx hb hts inX6 hown hK hP 0 rfl rfl 1 (by decide) (hts _ b_120) (fun _ h9 => h9) rfl dX6_push_8 ?_
  refine lv_sipush (v := 2000) hx hb dX6_push_11 (by decide) ?_
  refine lv_icmp_ge (tgt := 46) hx hb dX6_push_14 (by decide) (fun h9 => absurd h9 (by decide)) (fun _ => ?_)
  refine lv_aload_n hx hb dX6_push_17 rfl (lv_at hl 1 rfl) ?_
  refine va_get (D := D) (ci := 6) (v := .ref t_bytes) (C := RX6) (T := TX6) (N := 2) hx hb hts inX6 hown hK hP 0 rfl rfl 0 (by decide) (hts _ b_118) (fun _ h9 => h9) rfl dX6_push_18 ?_
  refine lv_aload_n hx hb dX6_push_21 rfl (lv_at hl 1 rfl) ?_
  refine va_get (D := D) (ci := 6) (v := .int 17) (C := RX6) (T := TX6) (N := 2) hx hb hts inX6 hown hK hP 0 rfl rfl 1 (by decide) (hts _ b_120) (fun _ h9 => h9) rfl dX6_push_22 ?_
  refine lv_iload_n hx hb dX6_push_25 rfl (lv_at hl 2 rfl) ?_
  refine lv_iload_n hx hb dX6_push_26 rfl (lv_at hl 0 rfl) ?_
  refine lv_ishr hx hb dX6_push_27 ?_
  refine lv_i2b (v := ((v >>> (16 &&& 31))).toInt8.toInt32) hx hb dX6_push_28 rfl ?_
  refine va_bast hx hb hK hP hD hS 1 2 rfl rfl (by unfold vp_in; decide) dX6_push_29 (fun H locs hP hD hS => ?_)
  have hP : va_P D k_cl [(b, .inr (6, [.ref t_bytes, .int 17])), (t_bytes, .inl (E 2, 2000, .inl (upd f_1 (17 : Int32).toNatClampNeg (vp_nar .byte (((v >>> (16 &&& 31))).toInt8.toInt32)))))] H := hP
  have hD : va_D A [(b, .inr (6, [.ref t_bytes, .int 17])), (t_bytes, .inl (E 2, 2000, .inl (upd f_1 (17 : Int32).toNatClampNeg (vp_nar .byte (((v >>> (16 &&& 31))).toInt8.toInt32)))))] := hD
  generalize (upd f_1 (17 : Int32).toNatClampNeg (vp_nar .byte (((v >>> (16 &&& 31))).toInt8.toInt32))) = f_2 at hP hD
  refine lv_aload_n hx hb dX6_push_30 rfl (lv_at hl 1 rfl) ?_
  refine lv_dup hx hb dX6_push_31 rfl ?_
  refine va_get (D := D) (ci := 6) (v := .int 17) (C := RX6) (T := TX6) (N := 2) hx hb hts inX6 hown hK hP 0 rfl rfl 1 (by decide) (hts _ b_120) (fun _ h9 => h9) rfl dX6_push_32 ?_
  refine lv_iconst (v := 1) hx hb dX6_push_35 (by decide) ?_
  refine lv_iadd hx hb dX6_push_36 ?_
  refine k_ti (y := 18) (by decide) ?_
  refine va_put (D := D) (ci := 6) (v := .int 18) (ty := .int) (C := RX6) (T := TX6) (N := 2) hx hb hts inX6 tyX6 tyX6_ok nmX6 hown hK hP hD hS 0 rfl rfl 1 (by decide) (hts _ b_120) (fun _ h9 => h9) rfl (by decide +kernel) rfl rfl (Nat.le_of_ble_eq_true rfl) dX6_push_37 (fun H locs hP hD hS => ?_)
  have hP : va_P D k_cl [(b, .inr (6, [.ref t_bytes, .int 18])), (t_bytes, .inl (E 2, 2000, .inl f_2))] H := hP
  have hD : va_D A [(b, .inr (6, [.ref t_bytes, .int 18])), (t_bytes, .inl (E 2, 2000, .inl f_2))] := hD
  refine lv_iinc (v := 8) (lv' := [(2, .int 8), (0, .ref b), (1, .int v)]) hx hb dX6_push_40 hl (k := 0) rfl (by decide) (by decide) rfl (fun ls hl => ?_)
  refine lv_goto (tgt := 3) hx hb dX6_push_43 (by decide) ?_
  refine lv_iload_n hx hb dX6_push_3 rfl (lv_at hl 0 rfl) ?_
  refine lv_if_lt (tgt := 46) hx hb dX6_push_4 (by decide) (fun h9 => absurd h9 (by decide)) (fun _ => ?_)
  refine lv_aload_n hx hb dX6_push_7 rfl (lv_at hl 1 rfl) ?_
  refine va_get (D := D) (ci := 6) (v := .int 18) (C := RX6) (T := TX6) (N := 2) hx hb hts inX6 hown hK hP 0 rfl rfl 1 (by decide) (hts _ b_120) (fun _ h9 => h9) rfl dX6_push_8 ?_
  refine lv_sipush (v := 2000) hx hb dX6_push_11 (by decide) ?_
  refine lv_icmp_ge (tgt := 46) hx hb dX6_push_14 (by decide) (fun h9 => absurd h9 (by decide)) (fun _ => ?_)
  refine lv_aload_n hx hb dX6_push_17 rfl (lv_at hl 1 rfl) ?_
  refine va_get (D := D) (ci := 6) (v := .ref t_bytes) (C := RX6) (T := TX6) (N := 2) hx hb hts inX6 hown hK hP 0 rfl rfl 0 (by decide) (hts _ b_118) (fun _ h9 => h9) rfl dX6_push_18 ?_
  refine lv_aload_n hx hb dX6_push_21 rfl (lv_at hl 1 rfl) ?_
  refine va_get (D := D) (ci := 6) (v := .int 18) (C := RX6) (T := TX6) (N := 2) hx hb hts inX6 hown hK hP 0 rfl rfl 1 (by decide) (hts _ b_120) (fun _ h9 => h9) rfl dX6_push_22 ?_
  refine lv_iload_n hx hb dX6_push_25 rfl (lv_at hl 2 rfl) ?_
  refine lv_iload_n hx hb dX6_push_26 rfl (lv_at hl 0 rfl) ?_
  refine lv_ishr hx hb dX6_push_27 ?_
  refine lv_i2b (v := ((v >>> (8 &&& 31))).toInt8.toInt32) hx hb dX6_push_28 rfl ?_
  refine va_bast hx hb hK hP hD hS 1 2 rfl rfl (by unfold vp_in; decide) dX6_push_29 (fun H locs hP hD hS => ?_)
  have hP : va_P D k_cl [(b, .inr (6, [.ref t_bytes, .int 18])), (t_bytes, .inl (E 2, 2000, .inl (upd f_2 (18 : Int32).toNatClampNeg (vp_nar .byte (((v >>> (8 &&& 31))).toInt8.toInt32)))))] H := hP
  have hD : va_D A [(b, .inr (6, [.ref t_bytes, .int 18])), (t_bytes, .inl (E 2, 2000, .inl (upd f_2 (18 : Int32).toNatClampNeg (vp_nar .byte (((v >>> (8 &&& 31))).toInt8.toInt32)))))] := hD
  generalize (upd f_2 (18 : Int32).toNatClampNeg (vp_nar .byte (((v >>> (8 &&& 31))).toInt8.toInt32))) = f_3 at hP hD
  refine lv_aload_n hx hb dX6_push_30 rfl (lv_at hl 1 rfl) ?_
  refine lv_dup hx hb dX6_push_31 rfl ?_
  refine va_get (D := D) (ci := 6) (v := .int 18) (C := RX6) (T := TX6) (N := 2) hx hb hts inX6 hown hK hP 0 rfl rfl 1 (by decide) (hts _ b_120) (fun _ h9 => h9) rfl dX6_push_32 ?_
  refine lv_iconst (v := 1) hx hb dX6_push_35 (by decide) ?_
  refine lv_iadd hx hb dX6_push_36 ?_
  refine k_ti (y := 19) (by decide) ?_
  refine va_put (D := D) (ci := 6) (v := .int 19) (ty := .int) (C := RX6) (T := TX6) (N := 2) hx hb hts inX6 tyX6 tyX6_ok nmX6 hown hK hP hD hS 0 rfl rfl 1 (by decide) (hts _ b_120) (fun _ h9 => h9) rfl (by decide +kernel) rfl rfl (Nat.le_of_ble_eq_true rfl) dX6_push_37 (fun H locs hP hD hS => ?_)
  have hP : va_P D k_cl [(b, .inr (6, [.ref t_bytes, .int 19])), (t_bytes, .inl (E 2, 2000, .inl f_3))] H := hP
  have hD : va_D A [(b, .inr (6, [.ref t_bytes, .int 19])), (t_bytes, .inl (E 2, 2000, .inl f_3))] := hD
  refine lv_iinc (v := 0) (lv' := [(2, .int 0), (0, .ref b), (1, .int v)]) hx hb dX6_push_40 hl (k := 0) rfl (by decide) (by decide) rfl (fun ls hl => ?_)
  refine lv_goto (tgt := 3) hx hb dX6_push_43 (by decide) ?_
  refine lv_iload_n hx hb dX6_push_3 rfl (lv_at hl 0 rfl) ?_
  refine lv_if_lt (tgt := 46) hx hb dX6_push_4 (by decide) (fun h9 => absurd h9 (by decide)) (fun _ => ?_)
  refine lv_aload_n hx hb dX6_push_7 rfl (lv_at hl 1 rfl) ?_
  refine va_get (D := D) (ci := 6) (v := .int 19) (C := RX6) (T := TX6) (N := 2) hx hb hts inX6 hown hK hP 0 rfl rfl 1 (by decide) (hts _ b_120) (fun _ h9 => h9) rfl dX6_push_8 ?_
  refine lv_sipush (v := 2000) hx hb dX6_push_11 (by decide) ?_
  refine lv_icmp_ge (tgt := 46) hx hb dX6_push_14 (by decide) (fun h9 => absurd h9 (by decide)) (fun _ => ?_)
  refine lv_aload_n hx hb dX6_push_17 rfl (lv_at hl 1 rfl) ?_
  refine va_get (D := D) (ci := 6) (v := .ref t_bytes) (C := RX6) (T := TX6) (N := 2) hx hb hts inX6 hown hK hP 0 rfl rfl 0 (by decide) (hts _ b_118) (fun _ h9 => h9) rfl dX6_push_18 ?_
  refine lv_aload_n hx hb dX6_push_21 rfl (lv_at hl 1 rfl) ?_
  refine va_get (D := D) (ci := 6) (v := .int 19) (C := RX6) (T := TX6) (N := 2) hx hb hts inX6 hown hK hP 0 rfl rfl 1 (by decide) (hts _ b_120) (fun _ h9 => h9) rfl dX6_push_22 ?_
  refine lv_iload_n hx hb dX6_push_25 rfl (lv_at hl 2 rfl) ?_
  refine lv_iload_n hx hb dX6_push_26 rfl (lv_at hl 0 rfl) ?_
  refine lv_ishr hx hb dX6_push_27 ?_
  refine lv_i2b (v := ((v >>> (0 &&& 31))).toInt8.toInt32) hx hb dX6_push_28 rfl ?_
  refine va_bast hx hb hK hP hD hS 1 2 rfl rfl (by unfold vp_in; decide) dX6_push_29 (fun H locs hP hD hS => ?_)
  have hP : va_P D k_cl [(b, .inr (6, [.ref t_bytes, .int 19])), (t_bytes, .inl (E 2, 2000, .inl (upd f_3 (19 : Int32).toNatClampNeg (vp_nar .byte (((v >>> (0 &&& 31))).toInt8.toInt32)))))] H := hP
  have hD : va_D A [(b, .inr (6, [.ref t_bytes, .int 19])), (t_bytes, .inl (E 2, 2000, .inl (upd f_3 (19 : Int32).toNatClampNeg (vp_nar .byte (((v >>> (0 &&& 31))).toInt8.toInt32)))))] := hD
  generalize (upd f_3 (19 : Int32).toNatClampNeg (vp_nar .byte (((v >>> (0 &&& 31))).toInt8.toInt32))) = f_4 at hP hD
  refine lv_aload_n hx hb dX6_push_30 rfl (lv_at hl 1 rfl) ?_
  refine lv_dup hx hb dX6_push_31 rfl ?_
  refine va_get (D := D) (ci := 6) (v := .int 19) (C := RX6) (T := TX6) (N := 2) hx hb hts inX6 hown hK hP 0 rfl rfl 1 (by decide) (hts _ b_120) (fun _ h9 => h9) rfl dX6_push_32 ?_
  refine lv_iconst (v := 1) hx hb dX6_push_35 (by decide) ?_
  refine lv_iadd hx hb dX6_push_36 ?_
  refine k_ti (y := 20) (by decide) ?_
  refine va_put (D := D) (ci := 6) (v := .int 20) (ty := .int) (C := RX6) (T := TX6) (N := 2) hx hb hts inX6 tyX6 tyX6_ok nmX6 hown hK hP hD hS 0 rfl rfl 1 (by decide) (hts _ b_120) (fun _ h9 => h9) rfl (by decide +kernel) rfl rfl (Nat.le_of_ble_eq_true rfl) dX6_push_37 (fun H locs hP hD hS => ?_)
  have hP : va_P D k_cl [(b, .inr (6, [.ref t_bytes, .int 20])), (t_bytes, .inl (E 2, 2000, .inl f_4))] H := hP
  have hD : va_D A [(b, .inr (6, [.ref t_bytes, .int 20])), (t_bytes, .inl (E 2, 2000, .inl f_4))] := hD
  refine lv_iinc (v := (-8)) (lv' := [(2, .int (-8)), (0, .ref b), (1, .int v)]) hx hb dX6_push_40 hl (k := 0) rfl (by decide) (by decide) rfl (fun ls hl => ?_)
  refine lv_goto (tgt := 3) hx hb dX6_push_43 (by decide) ?_
  refine lv_iload_n hx hb dX6_push_3 rfl (lv_at hl 0 rfl) ?_
  refine lv_if_lt (tgt := 46) hx hb dX6_push_4 (by decide) (fun _ => ?_) (fun h9 => absurd (by decide) h9)
  exact m_v f_4 hx hb hr hlocks rfl trivial (hP.sub [0, 1] rfl) (hD.sub [0, 1] (by decide) rfl) hS (by decide) (by decide) dX6_push_46
set_option maxRecDepth 20000 in
set_option maxHeartbeats 2000000 in
theorem c_feed (l : Launch) (D : va_G) (E : Nat → ClassId) (sa : Nat → Nat) (a : Nat) (p_tape : Nat) (p_graph : Nat) (p_reader : Nat) (p_ahead : Nat) (p_back : Nat) (p_trail : Nat) (p_landmarks : Nat) (p_hierarchy : Nat) (p_route : Nat) (p_scratch : Nat) (p_toldRow : Nat) (t_bytes : Nat) (f : Nat → Int32) (v0 : Int32) (v1 : Int32) (v2 : Int32) (v3 : Int32) (v4 : Int32) : KM l yX9_feed (.code yX9_feed cX9_feed 6 (some .int)) 25 822 0 0 D E sa [.ref a, .int v0, .int v1, .int v2, .int v3, .int v4] [(a, .inr (9, [.ref p_tape, .ref p_graph, .ref p_reader, .ref p_ahead, .ref p_back, .ref p_trail, .ref p_landmarks, .ref p_hierarchy, .ref p_route, .ref p_scratch, .ref p_toldRow, .int 0, .int 0])), (p_tape, .inr (6, [.ref t_bytes, .int 0])), (t_bytes, .inl (E 2, 2000, .inl f))] (S := Unit) (fun _ => some (.int 20)) (fun _ => True) (fun _ => []) := by
  refine KM.of (by decide) (Nat.le_of_ble_eq_true rfl) ?_
  intro p e s m below meth c A ls hx hb hr hts hml hown hlocks hnm hK hP hD hA hS hZ hl
  have hown : s.vm.findClass RX9 = some m.cls := hown
  have hl : lv_has ls 6 [(0, .ref a), (1, .int v0), (2, .int v1), (3, .int v2), (4, .int v3), (5, .int v4)] := hl
  refine lv_aload_n hx hb dX9_feed_0 rfl (lv_at hl 0 rfl) ?_
  refine va_get (D := D) (ci := 9) (v := .ref p_tape) (C := RX9) (T := TX9) (N := 13) hx hb hts inX9 hown hK hP 0 rfl rfl 0 (by decide) (hts _ b_481) (fun _ h9 => h9) rfl dX9_feed_1 ?_
  refine va_get (D := D) (ci := 6) (v := .int 0) (C := RX6) (T := TX6) (N := 2) hx hb hts inX6 hown hK hP 1 rfl rfl 1 (by decide) (hts _ b_121) (fun _ h9 => h9) rfl dX9_feed_4 ?_
  refine lv_sipush (v := 1980) hx hb dX9_feed_7 (by decide) ?_
  refine lv_icmp_le (tgt := 23) hx hb dX9_feed_10 (by decide) (fun _ => ?_) (fun h9 => absurd (by decide) h9)
  refine lv_aload_n hx hb dX9_feed_23 rfl (lv_at hl 0 rfl) ?_
  refine va_get (D := D) (ci := 9) (v := .ref p_tape) (C := RX9) (T := TX9) (N := 13) hx hb hts inX9 hown hK hP 0 rfl rfl 0 (by decide) (hts _ b_481) (fun _ h9 => h9) rfl dX9_feed_24 ?_
  refine lv_iload_n hx hb dX9_feed_27 rfl (lv_at hl 1 rfl) ?_
  refine k_MV (As := [.int v0]) (rest := []) (ci := 6) (q0 := 1) (wr := [(a, .inr (9, [.ref p_tape, .ref p_graph, .ref p_reader, .ref p_ahead, .ref p_back, .ref p_trail, .ref p_landmarks, .ref p_hierarchy, .ref p_route, .ref p_scratch, .ref p_toldRow, .int 0, .int 0]))]) ⟨hx, hb, hml, hown, hts⟩ (c_push_0 l D E sa p_tape t_bytes f v0) b_928 b_929 b_930 b_79 b_931 ⟨rfl, hd_X6_push⟩ ⟨⟨by decide, by decide⟩, by decide, by decide⟩ hK hP hD hS hA hZ [1, 2] [0] rfl rfl (by decide) rfl rfl rfl hl.1 (Nat.le_of_ble_eq_true rfl) dX9_feed_28 (fun u_1 H locs hu hP hD hS _ => ?_)
  obtain ⟨f1_2, rfl⟩ : ∃ z, z = u_1 := ⟨_, rfl⟩
  have hP : va_P D k_cl [(a, .inr (9, [.ref p_tape, .ref p_graph, .ref p_reader, .ref p_ahead, .ref p_back, .ref p_trail, .ref p_landmarks, .ref p_hierarchy, .ref p_route, .ref p_scratch, .ref p_toldRow, .int 0, .int 0])), (p_tape, .inr (6, [.ref t_bytes, .int 4])), (t_bytes, .inl (E 2, 2000, .inl f1_2))] H := hP
  have hD : va_D A [(a, .inr (9, [.ref p_tape, .ref p_graph, .ref p_reader, .ref p_ahead, .ref p_back, .ref p_trail, .ref p_landmarks, .ref p_hierarchy, .ref p_route, .ref p_scratch, .ref p_toldRow, .int 0, .int 0])), (p_tape, .inr (6, [.ref t_bytes, .int 4])), (t_bytes, .inl (E 2, 2000, .inl f1_2))] := hD
  refine W.eq (g2 := F0 m 31 ls []) rfl ?_
  refine lv_aload_n hx hb dX9_feed_31 rfl (lv_at hl 0 rfl) ?_
  refine va_get (D := D) (ci := 9) (v := .ref p_tape) (C := RX9) (T := TX9) (N := 13) hx hb hts inX9 hown hK hP 0 rfl rfl 0 (by decide) (hts _ b_481) (fun _ h9 => h9) rfl dX9_feed_32 ?_
  refine lv_iload_n hx hb dX9_feed_35 rfl (lv_at hl 2 rfl) ?_
  refine k_MV (As := [.int v1]) (rest := []) (ci := 6) (q0 := 1) (wr := [(a, .inr (9, [.ref p_tape, .ref p_graph, .ref p_reader, .ref p_ahead, .ref p_back, .ref p_trail, .ref p_landmarks, .ref p_hierarchy, .ref p_route, .ref p_scratch, .ref p_toldRow, .int 0, .int 0]))]) ⟨hx, hb, hml, hown, hts⟩ (c_push_4 l D E sa p_tape t_bytes f1_2 v1) b_928 b_929 b_930 b_79 b_931 ⟨rfl, hd_X6_push⟩ ⟨⟨by decide, by decide⟩, by decide, by decide⟩ hK hP hD hS hA hZ [1, 2] [0] rfl rfl (by decide) rfl rfl rfl hl.1 (Nat.le_of_ble_eq_true rfl) dX9_feed_36 (fun u_3 H locs hu hP hD hS _ => ?_)
  obtain ⟨f1_4, rfl⟩ : ∃ z, z = u_3 := ⟨_, rfl⟩
  have hP : va_P D k_cl [(a, .inr (9, [.ref p_tape, .ref p_graph, .ref p_reader, .ref p_ahead, .ref p_back, .ref p_trail, .ref p_landmarks, .ref p_hierarchy, .ref p_route, .ref p_scratch, .ref p_toldRow, .int 0, .int 0])), (p_tape, .inr (6, [.ref t_bytes, .int 8])), (t_bytes, .inl (E 2, 2000, .inl f1_4))] H := hP
  have hD : va_D A [(a, .inr (9, [.ref p_tape, .ref p_graph, .ref p_reader, .ref p_ahead, .ref p_back, .ref p_trail, .ref p_landmarks, .ref p_hierarchy, .ref p_route, .ref p_scratch, .ref p_toldRow, .int 0, .int 0])), (p_tape, .inr (6, [.ref t_bytes, .int 8])), (t_bytes, .inl (E 2, 2000, .inl f1_4))] := hD
  refine W.eq (g2 := F0 m 39 ls []) rfl ?_
  refine lv_aload_n hx hb dX9_feed_39 rfl (lv_at hl 0 rfl) ?_
  refine va_get (D := D) (ci := 9) (v := .ref p_tape) (C := RX9) (T := TX9) (N := 13) hx hb hts inX9 hown hK hP 0 rfl rfl 0 (by decide) (hts _ b_481) (fun _ h9 => h9) rfl dX9_feed_40 ?_
  refine lv_iload_n hx hb dX9_feed_43 rfl (lv_at hl 3 rfl) ?_
  refine k_MV (As := [.int v2]) (rest := []) (ci := 6) (q0 := 1) (wr := [(a, .inr (9, [.ref p_tape, .ref p_graph, .ref p_reader, .ref p_ahead, .ref p_back, .ref p_trail, .ref p_landmarks, .ref p_hierarchy, .ref p_route, .ref p_scratch, .ref p_toldRow, .int 0, .int 0]))]) ⟨hx, hb, hml, hown, hts⟩ (c_push_8 l D E sa p_tape t_bytes f1_4 v2) b_928 b_929 b_930 b_79 b_931 ⟨rfl, hd_X6_push⟩ ⟨⟨by decide, by decide⟩, by decide, by decide⟩ hK hP hD hS hA hZ [1, 2] [0] rfl rfl (by decide) rfl rfl rfl hl.1 (Nat.le_of_ble_eq_true rfl) dX9_feed_44 (fun u_5 H locs hu hP hD hS _ => ?_)
  obtain ⟨f1_6, rfl⟩ : ∃ z, z = u_5 := ⟨_, rfl⟩
  have hP : va_P D k_cl [(a, .inr (9, [.ref p_tape, .ref p_graph, .ref p_reader, .ref p_ahead, .ref p_back, .ref p_trail, .ref p_landmarks, .ref p_hierarchy, .ref p_route, .ref p_scratch, .ref p_toldRow, .int 0, .int 0])), (p_tape, .inr (6, [.ref t_bytes, .int 12])), (t_bytes, .inl (E 2, 2000, .inl f1_6))] H := hP
  have hD : va_D A [(a, .inr (9, [.ref p_tape, .ref p_graph, .ref p_reader, .ref p_ahead, .ref p_back, .ref p_trail, .ref p_landmarks, .ref p_hierarchy, .ref p_route, .ref p_scratch, .ref p_toldRow, .int 0, .int 0])), (p_tape, .inr (6, [.ref t_bytes, .int 12])), (t_bytes, .inl (E 2, 2000, .inl f1_6))] := hD
  refine W.eq (g2 := F0 m 47 ls []) rfl ?_
  refine lv_aload_n hx hb dX9_feed_47 rfl (lv_at hl 0 rfl) ?_
  refine va_get (D := D) (ci := 9) (v := .ref p_tape) (C := RX9) (T := TX9) (N := 13) hx hb hts inX9 hown hK hP 0 rfl rfl 0 (by decide) (hts _ b_481) (fun _ h9 => h9) rfl dX9_feed_48 ?_
  refine lv_iload hx hb dX9_feed_51 (lv_at hl 4 rfl) ?_
  refine k_MV (As := [.int v3]) (rest := []) (ci := 6) (q0 := 1) (wr := [(a, .inr (9, [.ref p_tape, .ref p_graph, .ref p_reader, .ref p_ahead, .ref p_back, .ref p_trail, .ref p_landmarks, .ref p_hierarchy, .ref p_route, .ref p_scratch, .ref p_toldRow, .int 0, .int 0]))]) ⟨hx, hb, hml, hown, hts⟩ (c_push_12 l D E sa p_tape t_bytes f1_6 v3) b_928 b_929 b_930 b_79 b_931 ⟨rfl, hd_X6_push⟩ ⟨⟨by decide, by decide⟩, by decide, by decide⟩ hK hP hD hS hA hZ [1, 2] [0] rfl rfl (by decide) rfl rfl rfl hl.1 (Nat.le_of_ble_eq_true rfl) dX9_feed_53 (fun u_7 H locs hu hP hD hS _ => ?_)
  obtain ⟨f1_8, rfl⟩ : ∃ z, z = u_7 := ⟨_, rfl⟩
  have hP : va_P D k_cl [(a, .inr (9, [.ref p_tape, .ref p_graph, .ref p_reader, .ref p_ahead, .ref p_back, .ref p_trail, .ref p_landmarks, .ref p_hierarchy, .ref p_route, .ref p_scratch, .ref p_toldRow, .int 0, .int 0])), (p_tape, .inr (6, [.ref t_bytes, .int 16])), (t_bytes, .inl (E 2, 2000, .inl f1_8))] H := hP
  have hD : va_D A [(a, .inr (9, [.ref p_tape, .ref p_graph, .ref p_reader, .ref p_ahead, .ref p_back, .ref p_trail, .ref p_landmarks, .ref p_hierarchy, .ref p_route, .ref p_scratch, .ref p_toldRow, .int 0, .int 0])), (p_tape, .inr (6, [.ref t_bytes, .int 16])), (t_bytes, .inl (E 2, 2000, .inl f1_8))] := hD
  refine W.eq (g2 := F0 m 56 ls []) rfl ?_
  refine lv_aload_n hx hb dX9_feed_56 rfl (lv_at hl 0 rfl) ?_
  refine va_get (D := D) (ci := 9) (v := .ref p_tape) (C := RX9) (T := TX9) (N := 13) hx hb hts inX9 hown hK hP 0 rfl rfl 0 (by decide) (hts _ b_481) (fun _ h9 => h9) rfl dX9_feed_57 ?_
  refine lv_iload hx hb dX9_feed_60 (lv_at hl 5 rfl) ?_
  refine k_MV (As := [.int v4]) (rest := []) (ci := 6) (q0 := 1) (wr := [(a, .inr (9, [.ref p_tape, .ref p_graph, .ref p_reader, .ref p_ahead, .ref p_back, .ref p_trail, .ref p_landmarks, .ref p_hierarchy, .ref p_route, .ref p_scratch, .ref p_toldRow, .int 0, .int 0]))]) ⟨hx, hb, hml, hown, hts⟩ (c_push_16 l D E sa p_tape t_bytes f1_8 v4) b_928 b_929 b_930 b_79 b_931 ⟨rfl, hd_X6_push⟩ ⟨⟨by decide, by decide⟩, by decide, by decide⟩ hK hP hD hS hA hZ [1, 2] [0] rfl rfl (by decide) rfl rfl rfl hl.1 (Nat.le_of_ble_eq_true rfl) dX9_feed_62 (fun u_9 H locs hu hP hD hS _ => ?_)
  obtain ⟨f1_10, rfl⟩ : ∃ z, z = u_9 := ⟨_, rfl⟩
  have hP : va_P D k_cl [(a, .inr (9, [.ref p_tape, .ref p_graph, .ref p_reader, .ref p_ahead, .ref p_back, .ref p_trail, .ref p_landmarks, .ref p_hierarchy, .ref p_route, .ref p_scratch, .ref p_toldRow, .int 0, .int 0])), (p_tape, .inr (6, [.ref t_bytes, .int 20])), (t_bytes, .inl (E 2, 2000, .inl f1_10))] H := hP
  have hD : va_D A [(a, .inr (9, [.ref p_tape, .ref p_graph, .ref p_reader, .ref p_ahead, .ref p_back, .ref p_trail, .ref p_landmarks, .ref p_hierarchy, .ref p_route, .ref p_scratch, .ref p_toldRow, .int 0, .int 0])), (p_tape, .inr (6, [.ref t_bytes, .int 20])), (t_bytes, .inl (E 2, 2000, .inl f1_10))] := hD
  refine W.eq (g2 := F0 m 65 ls []) rfl ?_
  refine lv_aload_n hx hb dX9_feed_65 rfl (lv_at hl 0 rfl) ?_
  refine va_get (D := D) (ci := 9) (v := .ref p_tape) (C := RX9) (T := TX9) (N := 13) hx hb hts inX9 hown hK hP 0 rfl rfl 0 (by decide) (hts _ b_481) (fun _ h9 => h9) rfl dX9_feed_66 ?_
  refine va_get (D := D) (ci := 6) (v := .int 20) (C := RX6) (T := TX6) (N := 2) hx hb hts inX6 hown hK hP 1 rfl rfl 1 (by decide) (hts _ b_121) (fun _ h9 => h9) rfl dX9_feed_69 ?_
  exact m_i () hx hb hr hlocks rfl trivial (hP.sub [] rfl) (hD.sub [] (by decide) rfl) hS (by decide) (by decide) dX9_feed_72
set_option maxRecDepth 20000 in
set_option maxHeartbeats 2000000 in
theorem c_end (l : Launch) (D : va_G) (E : Nat → ClassId) (sa : Nat → Nat) (a : Nat) (p_tape : Nat) (p_graph : Nat) (p_reader : Nat) (p_ahead : Nat) (p_back : Nat) (p_trail : Nat) (p_landmarks : Nat) (p_hierarchy : Nat) (p_route : Nat) (p_scratch : Nat) (p_toldRow : Nat) (t_bytes : Nat) : KM l yX9_end (.code yX9_end cX9_end 2 (some .int)) 12 400 0 0 D E sa [.ref a, .int 0] [(a, .inr (9, [.ref p_tape, .ref p_graph, .ref p_reader, .ref p_ahead, .ref p_back, .ref p_trail, .ref p_landmarks, .ref p_hierarchy, .ref p_route, .ref p_scratch, .ref p_toldRow, .int 0, .int 0])), (p_tape, .inr (6, [.ref t_bytes, .int 0]))] (S := Unit) (fun _ => some (.int 0)) (fun _ => True) (fun _ => []) := by
  refine KM.of (by decide) (Nat.le_of_ble_eq_true rfl) ?_
  intro p e s m below meth c A ls hx hb hr hts hml hown hlocks hnm hK hP hD hA hS hZ hl
  have hown : s.vm.findClass RX9 = some m.cls := hown
  have hl : lv_has ls 2 [(0, .ref a), (1, .int 0)] := hl
  refine lv_iload_n hx hb dX9_end_0 rfl (lv_at hl 1 rfl) ?_
  refine lv_if_lt (tgt := 15) hx hb dX9_end_1 (by decide) (fun h9 => absurd h9 (by decide)) (fun _ => ?_)
  refine lv_iload_n hx hb dX9_end_4 rfl (lv_at hl 1 rfl) ?_
  refine lv_aload_n hx hb dX9_end_5 rfl (lv_at hl 0 rfl) ?_
  refine va_get (D := D) (ci := 9) (v := .ref p_tape) (C := RX9) (T := TX9) (N := 13) hx hb hts inX9 hown hK hP 0 rfl rfl 0 (by decide) (hts _ b_481) (fun _ h9 => h9) rfl dX9_end_6 ?_
  refine va_get (D := D) (ci := 6) (v := .int 0) (C := RX6) (T := TX6) (N := 2) hx hb hts inX6 hown hK hP 1 rfl rfl 1 (by decide) (hts _ b_121) (fun _ h9 => h9) rfl dX9_end_9 ?_
  refine lv_icmp_le (tgt := 25) hx hb dX9_end_12 (by decide) (fun _ => ?_) (fun h9 => absurd (by decide) h9)
  refine lv_aload_n hx hb dX9_end_25 rfl (lv_at hl 0 rfl) ?_
  refine va_get (D := D) (ci := 9) (v := .ref p_tape) (C := RX9) (T := TX9) (N := 13) hx hb hts inX9 hown hK hP 0 rfl rfl 0 (by decide) (hts _ b_481) (fun _ h9 => h9) rfl dX9_end_26 ?_
  refine lv_iload_n hx hb dX9_end_29 rfl (lv_at hl 1 rfl) ?_
  refine va_put (D := D) (ci := 6) (v := .int 0) (ty := .int) (C := RX6) (T := TX6) (N := 2) hx hb hts inX6 tyX6 tyX6_ok nmX6 hown hK hP hD hS 1 rfl rfl 1 (by decide) (hts _ b_121) (fun _ h9 => h9) rfl (by decide +kernel) rfl rfl (Nat.le_of_ble_eq_true rfl) dX9_end_30 (fun H locs hP hD hS => ?_)
  have hP : va_P D k_cl [(a, .inr (9, [.ref p_tape, .ref p_graph, .ref p_reader, .ref p_ahead, .ref p_back, .ref p_trail, .ref p_landmarks, .ref p_hierarchy, .ref p_route, .ref p_scratch, .ref p_toldRow, .int 0, .int 0])), (p_tape, .inr (6, [.ref t_bytes, .int 0]))] H := hP
  have hD : va_D A [(a, .inr (9, [.ref p_tape, .ref p_graph, .ref p_reader, .ref p_ahead, .ref p_back, .ref p_trail, .ref p_landmarks, .ref p_hierarchy, .ref p_route, .ref p_scratch, .ref p_toldRow, .int 0, .int 0])), (p_tape, .inr (6, [.ref t_bytes, .int 0]))] := hD
  refine lv_iload_n hx hb dX9_end_33 rfl (lv_at hl 1 rfl) ?_
  exact m_i () hx hb hr hlocks rfl trivial (hP.sub [] rfl) (hD.sub [] (by decide) rfl) hS (by decide) (by decide) dX9_end_34
set_option maxRecDepth 20000 in
set_option maxHeartbeats 2000000 in
theorem t_end (l : Launch) (D : va_G) (E : Nat → ClassId) (sa : Nat → Nat) (hl9 : l.stackTraces = false) (a : Nat) (p_tape : Nat) (p_graph : Nat) (p_reader : Nat) (p_ahead : Nat) (p_back : Nat) (p_trail : Nat) (p_landmarks : Nat) (p_hierarchy : Nat) (p_route : Nat) (p_scratch : Nat) (p_toldRow : Nat) (t_bytes : Nat) (v : Int32) (h : ¬ v = 0) : KT l yX9_end cX9_end 2 (some .int) 12 400 D E sa [.ref a, .int v] [(a, .inr (9, [.ref p_tape, .ref p_graph, .ref p_reader, .ref p_ahead, .ref p_back, .ref p_trail, .ref p_landmarks, .ref p_hierarchy, .ref p_route, .ref p_scratch, .ref p_toldRow, .int 0, .int 0])), (p_tape, .inr (6, [.ref t_bytes, .int 0]))] "java/lang/IllegalArgumentException" := by
  refine KT.of (by decide) (Nat.le_of_ble_eq_true rfl) ?_
  intro p e s m below meth c ls hx hb hr hts hml hown hlocks htab hK hP hZ hl
  have hown : s.vm.findClass RX9 = some m.cls := hown
  have hl : lv_has ls 2 [(0, .ref a), (1, .int v)] := hl
  refine lv_iload_n hx hb dX9_end_0 rfl (lv_at hl 1 rfl) ?_
  refine lv_if_lt (tgt := 15) hx hb dX9_end_1 (by decide) (fun c1 => ?_) (fun c1 => ?_)
  · exact x_thS hl9 hx hb hown hts x_ok_ia hZ.2.1.2.2.1 hZ.2.2.2.2.2.1 hZ (by rw [hml]; exact hl.1) htab hlocks ⟨by decide, Nat.le_of_ble_eq_true rfl, by decide, by decide⟩ dX9_end_15 dX9_end_18 dX9_end_19 dX9_end_21 dX9_end_24
  · refine lv_iload_n hx hb dX9_end_4 rfl (lv_at hl 1 rfl) ?_
    refine lv_aload_n hx hb dX9_end_5 rfl (lv_at hl 0 rfl) ?_
    refine va_get (D := D) (ci := 9) (v := .ref p_tape) (C := RX9) (T := TX9) (N := 13) hx hb hts inX9 hown hK hP 0 rfl rfl 0 (by decide) (hts _ b_481) (fun _ h9 => h9) rfl dX9_end_6 ?_
    refine va_get (D := D) (ci := 6) (v := .int 0) (C := RX6) (T := TX6) (N := 2) hx hb hts inX6 hown hK hP 1 rfl rfl 1 (by decide) (hts _ b_121) (fun _ h9 => h9) rfl dX9_end_9 ?_
    refine lv_icmp_le (tgt := 25) hx hb dX9_end_12 (by decide) (fun h9 => absurd h9 (z_pos c1 h)) (fun _ => ?_)
    exact x_thS hl9 hx hb hown hts x_ok_ia hZ.2.1.2.2.1 hZ.2.2.2.2.2.1 hZ (by rw [hml]; exact hl.1) htab hlocks ⟨by decide, Nat.le_of_ble_eq_true rfl, by decide, by decide⟩ dX9_end_15 dX9_end_18 dX9_end_19 dX9_end_21 dX9_end_24
set_option maxRecDepth 20000 in
set_option maxHeartbeats 2000000 in
theorem c_readTape (l : Launch) (D : va_G) (E : Nat → ClassId) (sa : Nat → Nat) (b : Nat) (e_tape : Nat) (e_graph : Nat) (g_xs : Nat) (g_ys : Nat) (g_potentials : Nat) (g_tails : Nat) (g_heads : Nat) (g_weights : Nat) (g_net : Nat) (t_bytes : Nat) : KM l yX4_readTape (.code yX4_readTape cX4_readTape 2 (some .int)) 12 400 0 0 D E sa [.ref b] [(b, .inr (4, [.ref e_tape, .ref e_graph, .int 0, .int 0, .int 0, .int (-1), .int 0, .int 0, .long 0])), (e_graph, .inr (0, [.ref g_xs, .ref g_ys, .ref g_potentials, .ref g_tails, .ref g_heads, .ref g_weights, .ref g_net, .int 0, .int 0, .long 0])), (e_tape, .inr (6, [.ref t_bytes, .int 0]))] (S := Unit) (fun _ => some (.int 0)) (fun _ => True) (fun _ => [(b, .inr (4, [.ref e_tape, .ref e_graph, .int 0, .int 0, .int 0, .int (-1), .int 0, .int 0, .long 0])), (e_graph, .inr (0, [.ref g_xs, .ref g_ys, .ref g_potentials, .ref g_tails, .ref g_heads, .ref g_weights, .ref g_net, .int 0, .int 0, .long 0]))]) := by
  refine KM.of (by decide) (Nat.le_of_ble_eq_true rfl) ?_
  intro p e s m below meth c A ls hx hb hr hts hml hown hlocks hnm hK hP hD hA hS hZ hl
  have hown : s.vm.findClass RX4 = some m.cls := hown
  have hl : lv_has ls 2 [(0, .ref b)] := hl
  refine lv_aload_n hx hb dX4_readTape_0 rfl (lv_at hl 0 rfl) ?_
  refine lv_iconst (v := 0) hx hb dX4_readTape_1 (by decide) ?_
  refine va_put (D := D) (ci := 4) (v := .int 0) (ty := .int) (C := RX4) (T := TX4) (N := 9) hx hb hts inX4 tyX4 tyX4_ok nmX4 hown hK hP hD hS 0 rfl rfl 2 (by decide) (hts _ b_233) (fun _ h9 => h9) rfl (by decide +kernel) rfl rfl (Nat.le_of_ble_eq_true rfl) dX4_readTape_2 (fun H locs hP hD hS => ?_)
  have hP : va_P D k_cl [(b, .inr (4, [.ref e_tape, .ref e_graph, .int 0, .int 0, .int 0, .int (-1), .int 0, .int 0, .long 0])), (e_graph, .inr (0, [.ref g_xs, .ref g_ys, .ref g_potentials, .ref g_tails, .ref g_heads, .ref g_weights, .ref g_net, .int 0, .int 0, .long 0])), (e_tape, .inr (6, [.ref t_bytes, .int 0]))] H := hP
  have hD : va_D A [(b, .inr (4, [.ref e_tape, .ref e_graph, .int 0, .int 0, .int 0, .int (-1), .int 0, .int 0, .long 0])), (e_graph, .inr (0, [.ref g_xs, .ref g_ys, .ref g_potentials, .ref g_tails, .ref g_heads, .ref g_weights, .ref g_net, .int 0, .int 0, .long 0])), (e_tape, .inr (6, [.ref t_bytes, .int 0]))] := hD
  refine lv_aload_n hx hb dX4_readTape_5 rfl (lv_at hl 0 rfl) ?_
  refine lv_iconst (v := 0) hx hb dX4_readTape_6 (by decide) ?_
  refine va_put (D := D) (ci := 4) (v := .int 0) (ty := .int) (C := RX4) (T := TX4) (N := 9) hx hb hts inX4 tyX4 tyX4_ok nmX4 hown hK hP hD hS 0 rfl rfl 4 (by decide) (hts _ b_235) (fun _ h9 => h9) rfl (by decide +kernel) rfl rfl (Nat.le_of_ble_eq_true rfl) dX4_readTape_7 (fun H locs hP hD hS => ?_)
  have hP : va_P D k_cl [(b, .inr (4, [.ref e_tape, .ref e_graph, .int 0, .int 0, .int 0, .int (-1), .int 0, .int 0, .long 0])), (e_graph, .inr (0, [.ref g_xs, .ref g_ys, .ref g_potentials, .ref g_tails, .ref g_heads, .ref g_weights, .ref g_net, .int 0, .int 0, .long 0])), (e_tape, .inr (6, [.ref t_bytes, .int 0]))] H := hP
  have hD : va_D A [(b, .inr (4, [.ref e_tape, .ref e_graph, .int 0, .int 0, .int 0, .int (-1), .int 0, .int 0, .long 0])), (e_graph, .inr (0, [.ref g_xs, .ref g_ys, .ref g_potentials, .ref g_tails, .ref g_heads, .ref g_weights, .ref g_net, .int 0, .int 0, .long 0])), (e_tape, .inr (6, [.ref t_bytes, .int 0]))] := hD
  refine lv_aload_n hx hb dX4_readTape_10 rfl (lv_at hl 0 rfl) ?_
  refine lv_iconst (v := -1) hx hb dX4_readTape_11 (by decide) ?_
  refine va_put (D := D) (ci := 4) (v := .int (-1)) (ty := .int) (C := RX4) (T := TX4) (N := 9) hx hb hts inX4 tyX4 tyX4_ok nmX4 hown hK hP hD hS 0 rfl rfl 5 (by decide) (hts _ b_236) (fun _ h9 => h9) rfl (by decide +kernel) rfl rfl (Nat.le_of_ble_eq_true rfl) dX4_readTape_12 (fun H locs hP hD hS => ?_)
  have hP : va_P D k_cl [(b, .inr (4, [.ref e_tape, .ref e_graph, .int 0, .int 0, .int 0, .int (-1), .int 0, .int 0, .long 0])), (e_graph, .inr (0, [.ref g_xs, .ref g_ys, .ref g_potentials, .ref g_tails, .ref g_heads, .ref g_weights, .ref g_net, .int 0, .int 0, .long 0])), (e_tape, .inr (6, [.ref t_bytes, .int 0]))] H := hP
  have hD : va_D A [(b, .inr (4, [.ref e_tape, .ref e_graph, .int 0, .int 0, .int 0, .int (-1), .int 0, .int 0, .long 0])), (e_graph, .inr (0, [.ref g_xs, .ref g_ys, .ref g_potentials, .ref g_tails, .ref g_heads, .ref g_weights, .ref g_net, .int 0, .int 0, .long 0])), (e_tape, .inr (6, [.ref t_bytes, .int 0]))] := hD
  refine lv_aload_n hx hb dX4_readTape_15 rfl (lv_at hl 0 rfl) ?_
  refine lv_aload_n hx hb dX4_readTape_16 rfl (lv_at hl 0 rfl) ?_
  refine va_get (D := D) (ci := 4) (v := .ref e_graph) (C := RX4) (T := TX4) (N := 9) hx hb hts inX4 hown hK hP 0 rfl rfl 1 (by decide) (hts _ b_232) (fun _ h9 => h9) rfl dX4_readTape_17 ?_
  refine va_get (D := D) (ci := 0) (v := .int 0) (C := RX0) (T := TX0) (N := 10) hx hb hts inX0 hown hK hP 1 rfl rfl 7 (by decide) (hts _ b_196) (fun _ h9 => h9) rfl dX4_readTape_20 ?_
  refine va_put (D := D) (ci := 4) (v := .int 0) (ty := .int) (C := RX4) (T := TX4) (N := 9) hx hb hts inX4 tyX4 tyX4_ok nmX4 hown hK hP hD hS 0 rfl rfl 6 (by decide) (hts _ b_238) (fun _ h9 => h9) rfl (by decide +kernel) rfl rfl (Nat.le_of_ble_eq_true rfl) dX4_readTape_23 (fun H locs hP hD hS => ?_)
  have hP : va_P D k_cl [(b, .inr (4, [.ref e_tape, .ref e_graph, .int 0, .int 0, .int 0, .int (-1), .int 0, .int 0, .long 0])), (e_graph, .inr (0, [.ref g_xs, .ref g_ys, .ref g_potentials, .ref g_tails, .ref g_heads, .ref g_weights, .ref g_net, .int 0, .int 0, .long 0])), (e_tape, .inr (6, [.ref t_bytes, .int 0]))] H := hP
  have hD : va_D A [(b, .inr (4, [.ref e_tape, .ref e_graph, .int 0, .int 0, .int 0, .int (-1), .int 0, .int 0, .long 0])), (e_graph, .inr (0, [.ref g_xs, .ref g_ys, .ref g_potentials, .ref g_tails, .ref g_heads, .ref g_weights, .ref g_net, .int 0, .int 0, .long 0])), (e_tape, .inr (6, [.ref t_bytes, .int 0]))] := hD
  refine lv_aload_n hx hb dX4_readTape_26 rfl (lv_at hl 0 rfl) ?_
  refine lv_aload_n hx hb dX4_readTape_27 rfl (lv_at hl 0 rfl) ?_
  refine va_get (D := D) (ci := 4) (v := .ref e_graph) (C := RX4) (T := TX4) (N := 9) hx hb hts inX4 hown hK hP 0 rfl rfl 1 (by decide) (hts _ b_232) (fun _ h9 => h9) rfl dX4_readTape_28 ?_
  refine va_get (D := D) (ci := 0) (v := .int 0) (C := RX0) (T := TX0) (N := 10) hx hb hts inX0 hown hK hP 1 rfl rfl 8 (by decide) (hts _ b_199) (fun _ h9 => h9) rfl dX4_readTape_31 ?_
  refine va_put (D := D) (ci := 4) (v := .int 0) (ty := .int) (C := RX4) (T := TX4) (N := 9) hx hb hts inX4 tyX4 tyX4_ok nmX4 hown hK hP hD hS 0 rfl rfl 7 (by decide) (hts _ b_240) (fun _ h9 => h9) rfl (by decide +kernel) rfl rfl (Nat.le_of_ble_eq_true rfl) dX4_readTape_34 (fun H locs hP hD hS => ?_)
  have hP : va_P D k_cl [(b, .inr (4, [.ref e_tape, .ref e_graph, .int 0, .int 0, .int 0, .int (-1), .int 0, .int 0, .long 0])), (e_graph, .inr (0, [.ref g_xs, .ref g_ys, .ref g_potentials, .ref g_tails, .ref g_heads, .ref g_weights, .ref g_net, .int 0, .int 0, .long 0])), (e_tape, .inr (6, [.ref t_bytes, .int 0]))] H := hP
  have hD : va_D A [(b, .inr (4, [.ref e_tape, .ref e_graph, .int 0, .int 0, .int 0, .int (-1), .int 0, .int 0, .long 0])), (e_graph, .inr (0, [.ref g_xs, .ref g_ys, .ref g_potentials, .ref g_tails, .ref g_heads, .ref g_weights, .ref g_net, .int 0, .int 0, .long 0])), (e_tape, .inr (6, [.ref t_bytes, .int 0]))] := hD
  refine lv_aload_n hx hb dX4_readTape_37 rfl (lv_at hl 0 rfl) ?_
  refine lv_aload_n hx hb dX4_readTape_38 rfl (lv_at hl 0 rfl) ?_
  refine va_get (D := D) (ci := 4) (v := .ref e_graph) (C := RX4) (T := TX4) (N := 9) hx hb hts inX4 hown hK hP 0 rfl rfl 1 (by decide) (hts _ b_232) (fun _ h9 => h9) rfl dX4_readTape_39 ?_
  refine va_get (D := D) (ci := 0) (v := .long 0) (C := RX0) (T := TX0) (N := 10) hx hb hts inX0 hown hK hP 1 rfl rfl 9 (by decide) (hts _ b_202) (fun _ h9 => h9) rfl dX4_readTape_42 ?_
  refine va_put (D := D) (ci := 4) (v := .long 0) (ty := .long) (C := RX4) (T := TX4) (N := 9) hx hb hts inX4 tyX4 tyX4_ok nmX4 hown hK hP hD hS 0 rfl rfl 8 (by decide) (hts _ b_242) (fun _ h9 => h9) rfl (by decide +kernel) rfl rfl (Nat.le_of_ble_eq_true rfl) dX4_readTape_45 (fun H locs hP hD hS => ?_)
  have hP : va_P D k_cl [(b, .inr (4, [.ref e_tape, .ref e_graph, .int 0, .int 0, .int 0, .int (-1), .int 0, .int 0, .long 0])), (e_graph, .inr (0, [.ref g_xs, .ref g_ys, .ref g_potentials, .ref g_tails, .ref g_heads, .ref g_weights, .ref g_net, .int 0, .int 0, .long 0])), (e_tape, .inr (6, [.ref t_bytes, .int 0]))] H := hP
  have hD : va_D A [(b, .inr (4, [.ref e_tape, .ref e_graph, .int 0, .int 0, .int 0, .int (-1), .int 0, .int 0, .long 0])), (e_graph, .inr (0, [.ref g_xs, .ref g_ys, .ref g_potentials, .ref g_tails, .ref g_heads, .ref g_weights, .ref g_net, .int 0, .int 0, .long 0])), (e_tape, .inr (6, [.ref t_bytes, .int 0]))] := hD
  refine lv_iconst (v := 0) hx hb dX4_readTape_48 (by decide) ?_
  refine lv_istore_n (lv' := [(1, .int 0), (0, .ref b)]) hx hb dX4_readTape_49 rfl hl (by decide) rfl (fun ls hl => ?_)
  refine lv_iload_n hx hb dX4_readTape_50 rfl (lv_at hl 0 rfl) ?_
  refine lv_sipush (v := 2000) hx hb dX4_readTape_51 (by decide) ?_
  refine lv_icmp_ge (tgt := 88) hx hb dX4_readTape_54 (by decide) (fun h9 => absurd h9 (by decide)) (fun _ => ?_)
  refine lv_aload_n hx hb dX4_readTape_57 rfl (lv_at hl 1 rfl) ?_
  refine va_get (D := D) (ci := 4) (v := .int 0) (C := RX4) (T := TX4) (N := 9) hx hb hts inX4 hown hK hP 0 rfl rfl 2 (by decide) (hts _ b_233) (fun _ h9 => h9) rfl dX4_readTape_58 ?_
  refine lv_aload_n hx hb dX4_readTape_61 rfl (lv_at hl 1 rfl) ?_
  refine va_get (D := D) (ci := 4) (v := .ref e_tape) (C := RX4) (T := TX4) (N := 9) hx hb hts inX4 hown hK hP 0 rfl rfl 0 (by decide) (hts _ b_231) (fun _ h9 => h9) rfl dX4_readTape_62 ?_
  refine va_get (D := D) (ci := 6) (v := .int 0) (C := RX6) (T := TX6) (N := 2) hx hb hts inX6 hown hK hP 2 rfl rfl 1 (by decide) (hts _ b_122) (fun _ h9 => h9) rfl dX4_readTape_65 ?_
  refine lv_icmp_ge (tgt := 88) hx hb dX4_readTape_68 (by decide) (fun _ => ?_) (fun h9 => absurd (by decide) h9)
  refine lv_aload_n hx hb dX4_readTape_88 rfl (lv_at hl 1 rfl) ?_
  refine va_get (D := D) (ci := 4) (v := .ref e_tape) (C := RX4) (T := TX4) (N := 9) hx hb hts inX4 hown hK hP 0 rfl rfl 0 (by decide) (hts _ b_231) (fun _ h9 => h9) rfl dX4_readTape_89 ?_
  refine lv_iconst (v := 0) hx hb dX4_readTape_92 (by decide) ?_
  refine va_put (D := D) (ci := 6) (v := .int 0) (ty := .int) (C := RX6) (T := TX6) (N := 2) hx hb hts inX6 tyX6 tyX6_ok nmX6 hown hK hP hD hS 2 rfl rfl 1 (by decide) (hts _ b_122) (fun _ h9 => h9) rfl (by decide +kernel) rfl rfl (Nat.le_of_ble_eq_true rfl) dX4_readTape_93 (fun H locs hP hD hS => ?_)
  have hP : va_P D k_cl [(b, .inr (4, [.ref e_tape, .ref e_graph, .int 0, .int 0, .int 0, .int (-1), .int 0, .int 0, .long 0])), (e_graph, .inr (0, [.ref g_xs, .ref g_ys, .ref g_potentials, .ref g_tails, .ref g_heads, .ref g_weights, .ref g_net, .int 0, .int 0, .long 0])), (e_tape, .inr (6, [.ref t_bytes, .int 0]))] H := hP
  have hD : va_D A [(b, .inr (4, [.ref e_tape, .ref e_graph, .int 0, .int 0, .int 0, .int (-1), .int 0, .int 0, .long 0])), (e_graph, .inr (0, [.ref g_xs, .ref g_ys, .ref g_potentials, .ref g_tails, .ref g_heads, .ref g_weights, .ref g_net, .int 0, .int 0, .long 0])), (e_tape, .inr (6, [.ref t_bytes, .int 0]))] := hD
  refine lv_aload_n hx hb dX4_readTape_96 rfl (lv_at hl 1 rfl) ?_
  refine va_get (D := D) (ci := 4) (v := .int 0) (C := RX4) (T := TX4) (N := 9) hx hb hts inX4 hown hK hP 0 rfl rfl 4 (by decide) (hts _ b_235) (fun _ h9 => h9) rfl dX4_readTape_97 ?_
  exact m_i () hx hb hr hlocks rfl trivial (hP.sub [0, 1] rfl) (hD.sub [0, 1] (by decide) rfl) hS (by decide) (by decide) dX4_readTape_100
set_option maxRecDepth 20000 in
set_option maxHeartbeats 2000000 in
theorem c_read (l : Launch) (D : va_G) (E : Nat → ClassId) (sa : Nat → Nat) (a : Nat) (p_tape : Nat) (p_graph : Nat) (p_reader : Nat) (p_ahead : Nat) (p_back : Nat) (p_trail : Nat) (p_landmarks : Nat) (p_hierarchy : Nat) (p_route : Nat) (p_scratch : Nat) (p_toldRow : Nat) (e_tape : Nat) (e_graph : Nat) (g_xs : Nat) (g_ys : Nat) (g_potentials : Nat) (g_tails : Nat) (g_heads : Nat) (g_weights : Nat) (g_net : Nat) (t_bytes : Nat) : KM l yX9_read (.code yX9_read cX9_read 2 (some .int)) 25 821 0 0 D E sa [.ref a] [(a, .inr (9, [.ref p_tape, .ref p_graph, .ref p_reader, .ref p_ahead, .ref p_back, .ref p_trail, .ref p_landmarks, .ref p_hierarchy, .ref p_route, .ref p_scratch, .ref p_toldRow, .int 0, .int 0])), (p_reader, .inr (4, [.ref e_tape, .ref p_graph, .int 0, .int 0, .int 0, .int (-1), .int 0, .int 0, .long 0])), (p_graph, .inr (0, [.ref g_xs, .ref g_ys, .ref g_potentials, .ref g_tails, .ref g_heads, .ref g_weights, .ref g_net, .int 0, .int 0, .long 0])), (e_tape, .inr (6, [.ref t_bytes, .int 0]))] (S := Unit) (fun _ => some (.int 0)) (fun _ => True) (fun _ => []) := by
  refine KM.of (by decide) (Nat.le_of_ble_eq_true rfl) ?_
  intro p e s m below meth c A ls hx hb hr hts hml hown hlocks hnm hK hP hD hA hS hZ hl
  have hown : s.vm.findClass RX9 = some m.cls := hown
  have hl : lv_has ls 2 [(0, .ref a)] := hl
  refine lv_aload_n hx hb dX9_read_0 rfl (lv_at hl 0 rfl) ?_
  refine va_get (D := D) (ci := 9) (v := .ref p_reader) (C := RX9) (T := TX9) (N := 13) hx hb hts inX9 hown hK hP 0 rfl rfl 2 (by decide) (hts _ b_483) (fun _ h9 => h9) rfl dX9_read_1 ?_
  refine k_MV (As := []) (rest := []) (ci := 4) (q0 := 1) (wr := [(a, .inr (9, [.ref p_tape, .ref p_graph, .ref p_reader, .ref p_ahead, .ref p_back, .ref p_trail, .ref p_landmarks, .ref p_hierarchy, .ref p_route, .ref p_scratch, .ref p_toldRow, .int 0, .int 0]))]) ⟨hx, hb, hml, hown, hts⟩ (c_readTape l D E sa p_reader e_tape p_graph g_xs g_ys g_potentials g_tails g_heads g_weights g_net t_bytes) b_525 b_526 b_527 b_82 b_528 ⟨rfl, hd_X4_readTape⟩ ⟨⟨by decide, by decide⟩, by decide, by decide⟩ hK hP hD hS hA hZ [1, 2, 3] [0] rfl rfl (by decide) rfl rfl rfl hl.1 (Nat.le_of_ble_eq_true rfl) dX9_read_4 (fun u_1 H locs hu hP hD hS _ => ?_)
  have hP : va_P D k_cl [(a, .inr (9, [.ref p_tape, .ref p_graph, .ref p_reader, .ref p_ahead, .ref p_back, .ref p_trail, .ref p_landmarks, .ref p_hierarchy, .ref p_route, .ref p_scratch, .ref p_toldRow, .int 0, .int 0])), (p_reader, .inr (4, [.ref e_tape, .ref p_graph, .int 0, .int 0, .int 0, .int (-1), .int 0, .int 0, .long 0])), (p_graph, .inr (0, [.ref g_xs, .ref g_ys, .ref g_potentials, .ref g_tails, .ref g_heads, .ref g_weights, .ref g_net, .int 0, .int 0, .long 0]))] H := hP
  have hD : va_D A [(a, .inr (9, [.ref p_tape, .ref p_graph, .ref p_reader, .ref p_ahead, .ref p_back, .ref p_trail, .ref p_landmarks, .ref p_hierarchy, .ref p_route, .ref p_scratch, .ref p_toldRow, .int 0, .int 0])), (p_reader, .inr (4, [.ref e_tape, .ref p_graph, .int 0, .int 0, .int 0, .int (-1), .int 0, .int 0, .long 0])), (p_graph, .inr (0, [.ref g_xs, .ref g_ys, .ref g_potentials, .ref g_tails, .ref g_heads, .ref g_weights, .ref g_net, .int 0, .int 0, .long 0]))] := hD
  refine W.eq (g2 := F0 m 7 ls [.int 0]) rfl ?_
  refine lv_istore_n (lv' := [(1, .int 0), (0, .ref a)]) hx hb dX9_read_7 rfl hl (by decide) rfl (fun ls hl => ?_)
  refine lv_iload_n hx hb dX9_read_8 rfl (lv_at hl 0 rfl) ?_
  refine lv_if_ne (tgt := 78) hx hb dX9_read_9 (by decide) (fun h9 => absurd (by decide) h9) (fun _ => ?_)
  refine lv_aload_n hx hb dX9_read_12 rfl (lv_at hl 1 rfl) ?_
  refine va_get (D := D) (ci := 9) (v := .ref p_reader) (C := RX9) (T := TX9) (N := 13) hx hb hts inX9 hown hK hP 0 rfl rfl 2 (by decide) (hts _ b_483) (fun _ h9 => h9) rfl dX9_read_13 ?_
  refine va_get (D := D) (ci := 4) (v := .int 0) (C := RX4) (T := TX4) (N := 9) hx hb hts inX4 hown hK hP 1 rfl rfl 6 (by decide) (hts _ b_239) (fun _ h9 => h9) rfl dX9_read_16 ?_
  refine lv_aload_n hx hb dX9_read_19 rfl (lv_at hl 1 rfl) ?_
  refine va_get (D := D) (ci := 9) (v := .ref p_graph) (C := RX9) (T := TX9) (N := 13) hx hb hts inX9 hown hK hP 0 rfl rfl 1 (by decide) (hts _ b_482) (fun _ h9 => h9) rfl dX9_read_20 ?_
  refine va_get (D := D) (ci := 0) (v := .int 0) (C := RX0) (T := TX0) (N := 10) hx hb hts inX0 hown hK hP 2 rfl rfl 7 (by decide) (hts _ b_197) (fun _ h9 => h9) rfl dX9_read_23 ?_
  refine lv_icmp_gt (tgt := 46) hx hb dX9_read_26 (by decide) (fun h9 => absurd h9 (by decide)) (fun _ => ?_)
  refine lv_aload_n hx hb dX9_read_29 rfl (lv_at hl 1 rfl) ?_
  refine va_get (D := D) (ci := 9) (v := .ref p_reader) (C := RX9) (T := TX9) (N := 13) hx hb hts inX9 hown hK hP 0 rfl rfl 2 (by decide) (hts _ b_483) (fun _ h9 => h9) rfl dX9_read_30 ?_
  refine va_get (D := D) (ci := 4) (v := .int 0) (C := RX4) (T := TX4) (N := 9) hx hb hts inX4 hown hK hP 1 rfl rfl 7 (by decide) (hts _ b_241) (fun _ h9 => h9) rfl dX9_read_33 ?_
  refine lv_aload_n hx hb dX9_read_36 rfl (lv_at hl 1 rfl) ?_
  refine va_get (D := D) (ci := 9) (v := .ref p_graph) (C := RX9) (T := TX9) (N := 13) hx hb hts inX9 hown hK hP 0 rfl rfl 1 (by decide) (hts _ b_482) (fun _ h9 => h9) rfl dX9_read_37 ?_
  refine va_get (D := D) (ci := 0) (v := .int 0) (C := RX0) (T := TX0) (N := 10) hx hb hts inX0 hown hK hP 2 rfl rfl 8 (by decide) (hts _ b_200) (fun _ h9 => h9) rfl dX9_read_40 ?_
  refine lv_icmp_le (tgt := 78) hx hb dX9_read_43 (by decide) (fun _ => ?_) (fun h9 => absurd (by decide) h9)
  refine lv_iload_n hx hb dX9_read_78 rfl (lv_at hl 0 rfl) ?_
  exact m_i () hx hb hr hlocks rfl trivial (hP.sub [] rfl) (hD.sub [] (by decide) rfl) hS (by decide) (by decide) dX9_read_79
set_option maxRecDepth 20000 in
set_option maxHeartbeats 2000000 in
theorem c_leaveAll (l : Launch) (D : va_G) (E : Nat → ClassId) (sa : Nat → Nat) (b : Nat) (n_lengths : Nat) (n_counts : Nat) (n_overs : Nat) (n_arcNumbers : Nat) (n_left : Nat) (k : Int32) (f : Nat → Int32) : KM l yX3_leaveAll (.code yX3_leaveAll cX3_leaveAll 2 none) 12 400 0 0 D E sa [.ref b] [(b, .inr (3, [.ref n_lengths, .ref n_counts, .ref n_overs, .ref n_arcNumbers, .ref n_left, .int k])), (n_left, .inl (E 3, 24, .inl f))] (S := (Nat → Int32)) (fun u => none) (fun _ => True) (fun u => [(b, .inr (3, [.ref n_lengths, .ref n_counts, .ref n_overs, .ref n_arcNumbers, .ref n_left, .int k])), (n_left, .inl (E 3, 24, .inl u))]) := by
  refine KM.of (by decide) (Nat.le_of_ble_eq_true rfl) ?_
  intro p e s m below meth c A ls hx hb hr hts hml hown hlocks hnm hK hP hD hA hS hZ hl
  have hown : s.vm.findClass RX3 = some m.cls := hown
  have hl : lv_has ls 2 [(0, .ref b)] := hl
  refine lv_iconst (v := 0) hx hb dX3_leaveAll_0 (by decide) ?_
  refine lv_istore_n (lv' := [(1, .int 0), (0, .ref b)]) hx hb dX3_leaveAll_1 rfl hl (by decide) rfl (fun ls hl => ?_)
  refine lv_iload_n hx hb dX3_leaveAll_2 rfl (lv_at hl 0 rfl) ?_
  refine lv_bipush (v := 24) hx hb dX3_leaveAll_3 (by decide) ?_
  refine lv_icmp_ge (tgt := 21) hx hb dX3_leaveAll_5 (by decide) (fun h9 => absurd h9 (by decide)) (fun _ => ?_)
  refine lv_aload_n hx hb dX3_leaveAll_8 rfl (lv_at hl 1 rfl) ?_
  refine va_get (D := D) (ci := 3) (v := .ref n_left) (C := RX3) (T := TX3) (N := 6) hx hb hts inX3 hown hK hP 0 rfl rfl 4 (by decide) (hts _ b_157) (fun _ h9 => h9) rfl dX3_leaveAll_9 ?_
  refine lv_iload_n hx hb dX3_leaveAll_12 rfl (lv_at hl 0 rfl) ?_
  refine lv_iconst (v := 1) hx hb dX3_leaveAll_13 (by decide) ?_
  refine va_zast hx hb hK hP hD hS 1 3 rfl rfl (by unfold vp_in; decide) dX3_leaveAll_14 (fun H locs hP hD hS => ?_)
  have hP : va_P D k_cl [(b, .inr (3, [.ref n_lengths, .ref n_counts, .ref n_overs, .ref n_arcNumbers, .ref n_left, .int k])), (n_left, .inl (E 3, 24, .inl (upd f (0 : Int32).toNatClampNeg (vp_nar .boolean 1))))] H := hP
  have hD : va_D A [(b, .inr (3, [.ref n_lengths, .ref n_counts, .ref n_overs, .ref n_arcNumbers, .ref n_left, .int k])), (n_left, .inl (E 3, 24, .inl (upd f (0 : Int32).toNatClampNeg (vp_nar .boolean 1))))] := hD
  generalize (upd f (0 : Int32).toNatClampNeg (vp_nar .boolean 1)) = f_1 at hP hD
  refine lv_iinc (v := 1) (lv' := [(1, .int 1), (0, .ref b)]) hx hb dX3_leaveAll_15 hl (k := 0) rfl (by decide) (by decide) rfl (fun ls hl => ?_)
  refine lv_goto (tgt := 2) hx hb dX3_leaveAll_18 (by decide) ?_
  refine lv_iload_n hx hb dX3_leaveAll_2 rfl (lv_at hl 0 rfl) ?_
  refine lv_bipush (v := 24) hx hb dX3_leaveAll_3 (by decide) ?_
  refine lv_icmp_ge (tgt := 21) hx hb dX3_leaveAll_5 (by decide) (fun h9 => absurd h9 (by decide)) (fun _ => ?_)
  refine lv_aload_n hx hb dX3_leaveAll_8 rfl (lv_at hl 1 rfl) ?_
  refine va_get (D := D) (ci := 3) (v := .ref n_left) (C := RX3) (T := TX3) (N := 6) hx hb hts inX3 hown hK hP 0 rfl rfl 4 (by decide) (hts _ b_157) (fun _ h9 => h9) rfl dX3_leaveAll_9 ?_
  refine lv_iload_n hx hb dX3_leaveAll_12 rfl (lv_at hl 0 rfl) ?_
  refine lv_iconst (v := 1) hx hb dX3_leaveAll_13 (by decide) ?_
  refine va_zast hx hb hK hP hD hS 1 3 rfl rfl (by unfold vp_in; decide) dX3_leaveAll_14 (fun H locs hP hD hS => ?_)
  have hP : va_P D k_cl [(b, .inr (3, [.ref n_lengths, .ref n_counts, .ref n_overs, .ref n_arcNumbers, .ref n_left, .int k])), (n_left, .inl (E 3, 24, .inl (upd f_1 (1 : Int32).toNatClampNeg (vp_nar .boolean 1))))] H := hP
  have hD : va_D A [(b, .inr (3, [.ref n_lengths, .ref n_counts, .ref n_overs, .ref n_arcNumbers, .ref n_left, .int k])), (n_left, .inl (E 3, 24, .inl (upd f_1 (1 : Int32).toNatClampNeg (vp_nar .boolean 1))))] := hD
  generalize (upd f_1 (1 : Int32).toNatClampNeg (vp_nar .boolean 1)) = f_2 at hP hD
  refine lv_iinc (v := 2) (lv' := [(1, .int 2), (0, .ref b)]) hx hb dX3_leaveAll_15 hl (k := 0) rfl (by decide) (by decide) rfl (fun ls hl => ?_)
  refine lv_goto (tgt := 2) hx hb dX3_leaveAll_18 (by decide) ?_
  refine lv_iload_n hx hb dX3_leaveAll_2 rfl (lv_at hl 0 rfl) ?_
  refine lv_bipush (v := 24) hx hb dX3_leaveAll_3 (by decide) ?_
  refine lv_icmp_ge (tgt := 21) hx hb dX3_leaveAll_5 (by decide) (fun h9 => absurd h9 (by decide)) (fun _ => ?_)
  refine lv_aload_n hx hb dX3_leaveAll_8 rfl (lv_at hl 1 rfl) ?_
  refine va_get (D := D) (ci := 3) (v := .ref n_left) (C := RX3) (T := TX3) (N := 6) hx hb hts inX3 hown hK hP 0 rfl rfl 4 (by decide) (hts _ b_157) (fun _ h9 => h9) rfl dX3_leaveAll_9 ?_
  refine lv_iload_n hx hb dX3_leaveAll_12 rfl (lv_at hl 0 rfl) ?_
  refine lv_iconst (v := 1) hx hb dX3_leaveAll_13 (by decide) ?_
  refine va_zast hx hb hK hP hD hS 1 3 rfl rfl (by unfold vp_in; decide) dX3_leaveAll_14 (fun H locs hP hD hS => ?_)
  have hP : va_P D k_cl [(b, .inr (3, [.ref n_lengths, .ref n_counts, .ref n_overs, .ref n_arcNumbers, .ref n_left, .int k])), (n_left, .inl (E 3, 24, .inl (upd f_2 (2 : Int32).toNatClampNeg (vp_nar .boolean 1))))] H := hP
  have hD : va_D A [(b, .inr (3, [.ref n_lengths, .ref n_counts, .ref n_overs, .ref n_arcNumbers, .ref n_left, .int k])), (n_left, .inl (E 3, 24, .inl (upd f_2 (2 : Int32).toNatClampNeg (vp_nar .boolean 1))))] := hD
  generalize (upd f_2 (2 : Int32).toNatClampNeg (vp_nar .boolean 1)) = f_3 at hP hD
  refine lv_iinc (v := 3) (lv' := [(1, .int 3), (0, .ref b)]) hx hb dX3_leaveAll_15 hl (k := 0) rfl (by decide) (by decide) rfl (fun ls hl => ?_)
  refine lv_goto (tgt := 2) hx hb dX3_leaveAll_18 (by decide) ?_
  refine lv_iload_n hx hb dX3_leaveAll_2 rfl (lv_at hl 0 rfl) ?_
  refine lv_bipush (v := 24) hx hb dX3_leaveAll_3 (by decide) ?_
  refine lv_icmp_ge (tgt := 21) hx hb dX3_leaveAll_5 (by decide) (fun h9 => absurd h9 (by decide)) (fun _ => ?_)
  refine lv_aload_n hx hb dX3_leaveAll_8 rfl (lv_at hl 1 rfl) ?_
  refine va_get (D := D) (ci := 3) (v := .ref n_left) (C := RX3) (T := TX3) (N := 6) hx hb hts inX3 hown hK hP 0 rfl rfl 4 (by decide) (hts _ b_157) (fun _ h9 => h9) rfl dX3_leaveAll_9 ?_
  refine lv_iload_n hx hb dX3_leaveAll_12 rfl (lv_at hl 0 rfl) ?_
  refine lv_iconst (v := 1) hx hb dX3_leaveAll_13 (by decide) ?_
  refine va_zast hx hb hK hP hD hS 1 3 rfl rfl (by unfold vp_in; decide) dX3_leaveAll_14 (fun H locs hP hD hS => ?_)
  have hP : va_P D k_cl [(b, .inr (3, [.ref n_lengths, .ref n_counts, .ref n_overs, .ref n_arcNumbers, .ref n_left, .int k])), (n_left, .inl (E 3, 24, .inl (upd f_3 (3 : Int32).toNatClampNeg (vp_nar .boolean 1))))] H := hP
  have hD : va_D A [(b, .inr (3, [.ref n_lengths, .ref n_counts, .ref n_overs, .ref n_arcNumbers, .ref n_left, .int k])), (n_left, .inl (E 3, 24, .inl (upd f_3 (3 : Int32).toNatClampNeg (vp_nar .boolean 1))))] := hD
  generalize (upd f_3 (3 : Int32).toNatClampNeg (vp_nar .boolean 1)) = f_4 at hP hD
  refine lv_iinc (v := 4) (lv' := [(1, .int 4), (0, .ref b)]) hx hb dX3_leaveAll_15 hl (k := 0) rfl (by decide) (by decide) rfl (fun ls hl => ?_)
  refine lv_goto (tgt := 2) hx hb dX3_leaveAll_18 (by decide) ?_
  refine lv_iload_n hx hb dX3_leaveAll_2 rfl (lv_at hl 0 rfl) ?_
  refine lv_bipush (v := 24) hx hb dX3_leaveAll_3 (by decide) ?_
  refine lv_icmp_ge (tgt := 21) hx hb dX3_leaveAll_5 (by decide) (fun h9 => absurd h9 (by decide)) (fun _ => ?_)
  refine lv_aload_n hx hb dX3_leaveAll_8 rfl (lv_at hl 1 rfl) ?_
  refine va_get (D := D) (ci := 3) (v := .ref n_left) (C := RX3) (T := TX3) (N := 6) hx hb hts inX3 hown hK hP 0 rfl rfl 4 (by decide) (hts _ b_157) (fun _ h9 => h9) rfl dX3_leaveAll_9 ?_
  refine lv_iload_n hx hb dX3_leaveAll_12 rfl (lv_at hl 0 rfl) ?_
  refine lv_iconst (v := 1) hx hb dX3_leaveAll_13 (by decide) ?_
  refine va_zast hx hb hK hP hD hS 1 3 rfl rfl (by unfold vp_in; decide) dX3_leaveAll_14 (fun H locs hP hD hS => ?_)
  have hP : va_P D k_cl [(b, .inr (3, [.ref n_lengths, .ref n_counts, .ref n_overs, .ref n_arcNumbers, .ref n_left, .int k])), (n_left, .inl (E 3, 24, .inl (upd f_4 (4 : Int32).toNatClampNeg (vp_nar .boolean 1))))] H := hP
  have hD : va_D A [(b, .inr (3, [.ref n_lengths, .ref n_counts, .ref n_overs, .ref n_arcNumbers, .ref n_left, .int k])), (n_left, .inl (E 3, 24, .inl (upd f_4 (4 : Int32).toNatClampNeg (vp_nar .boolean 1))))] := hD
  generalize (upd f_4 (4 : Int32).toNatClampNeg (vp_nar .boolean 1)) = f_5 at hP hD
  refine lv_iinc (v := 5) (lv' := [(1, .int 5), (0, .ref b)]) hx hb dX3_leaveAll_15 hl (k := 0) rfl (by decide) (by decide) rfl (fun ls hl => ?_)
  refine lv_goto (tgt := 2) hx hb dX3_leaveAll_18 (by decide) ?_
  refine lv_iload_n hx hb dX3_leaveAll_2 rfl (lv_at hl 0 rfl) ?_
  refine lv_bipush (v := 24) hx hb dX3_leaveAll_3 (by decide) ?_
  refine lv_icmp_ge (tgt := 21) hx hb dX3_leaveAll_5 (by decide) (fun h9 => absurd h9 (by decide)) (fun _ => ?_)
  refine lv_aload_n hx hb dX3_leaveAll_8 rfl (lv_at hl 1 rfl) ?_
  refine va_get (D := D) (ci := 3) (v := .ref n_left) (C := RX3) (T := TX3) (N := 6) hx hb hts inX3 hown hK hP 0 rfl rfl 4 (by decide) (hts _ b_157) (fun _ h9 => h9) rfl dX3_leaveAll_9 ?_
  refine lv_iload_n hx hb dX3_leaveAll_12 rfl (lv_at hl 0 rfl) ?_
  refine lv_iconst (v := 1) hx hb dX3_leaveAll_13 (by decide) ?_
  refine va_zast hx hb hK hP hD hS 1 3 rfl rfl (by unfold vp_in; decide) dX3_leaveAll_14 (fun H locs hP hD hS => ?_)
  have hP : va_P D k_cl [(b, .inr (3, [.ref n_lengths, .ref n_counts, .ref n_overs, .ref n_arcNumbers, .ref n_left, .int k])), (n_left, .inl (E 3, 24, .inl (upd f_5 (5 : Int32).toNatClampNeg (vp_nar .boolean 1))))] H := hP
  have hD : va_D A [(b, .inr (3, [.ref n_lengths, .ref n_counts, .ref n_overs, .ref n_arcNumbers, .ref n_left, .int k])), (n_left, .inl (E 3, 24, .inl (upd f_5 (5 : Int32).toNatClampNeg (vp_nar .boolean 1))))] := hD
  generalize (upd f_5 (5 : Int32).toNatClampNeg (vp_nar .boolean 1)) = f_6 at hP hD
  refine lv_iinc (v := 6) (lv' := [(1, .int 6), (0, .ref b)]) hx hb dX3_leaveAll_15 hl (k := 0) rfl (by decide) (by decide) rfl (fun ls hl => ?_)
  refine lv_goto (tgt := 2) hx hb dX3_leaveAll_18 (by decide) ?_
  refine lv_iload_n hx hb dX3_leaveAll_2 rfl (lv_at hl 0 rfl) ?_
  refine lv_bipush (v := 24) hx hb dX3_leaveAll_3 (by decide) ?_
  refine lv_icmp_ge (tgt := 21) hx hb dX3_leaveAll_5 (by decide) (fun h9 => absurd h9 (by decide)) (fun _ => ?_)
  refine lv_aload_n hx hb dX3_leaveAll_8 rfl (lv_at hl 1 rfl) ?_
  refine va_get (D := D) (ci := 3) (v := .ref n_left) (C := RX3) (T := TX3) (N := 6) hx hb hts inX3 hown hK hP 0 rfl rfl 4 (by decide) (hts _ b_157) (fun _ h9 => h9) rfl dX3_leaveAll_9 ?_
  refine lv_iload_n hx hb dX3_leaveAll_12 rfl (lv_at hl 0 rfl) ?_
  refine lv_iconst (v := 1) hx hb dX3_leaveAll_13 (by decide) ?_
  refine va_zast hx hb hK hP hD hS 1 3 rfl rfl (by unfold vp_in; decide) dX3_leaveAll_14 (fun H locs hP hD hS => ?_)
  have hP : va_P D k_cl [(b, .inr (3, [.ref n_lengths, .ref n_counts, .ref n_overs, .ref n_arcNumbers, .ref n_left, .int k])), (n_left, .inl (E 3, 24, .inl (upd f_6 (6 : Int32).toNatClampNeg (vp_nar .boolean 1))))] H := hP
  have hD : va_D A [(b, .inr (3, [.ref n_lengths, .ref n_counts, .ref n_overs, .ref n_arcNumbers, .ref n_left, .int k])), (n_left, .inl (E 3, 24, .inl (upd f_6 (6 : Int32).toNatClampNeg (vp_nar .boolean 1))))] := hD
  generalize (upd f_6 (6 : Int32).toNatClampNeg (vp_nar .boolean 1)) = f_7 at hP hD
  refine lv_iinc (v := 7) (lv' := [(1, .int 7), (0, .ref b)]) hx hb dX3_leaveAll_15 hl (k := 0) rfl (by decide) (by decide) rfl (fun ls hl => ?_)
  refine lv_goto (tgt := 2) hx hb dX3_leaveAll_18 (by decide) ?_
  refine lv_iload_n hx hb dX3_leaveAll_2 rfl (lv_at hl 0 rfl) ?_
  refine lv_bipush (v := 24) hx hb dX3_leaveAll_3 (by decide) ?_
  refine lv_icmp_ge (tgt := 21) hx hb dX3_leaveAll_5 (by decide) (fun h9 => absurd h9 (by decide)) (fun _ => ?_)
  refine lv_aload_n hx hb dX3_leaveAll_8 rfl (lv_at hl 1 rfl) ?_
  refine va_get (D := D) (ci := 3) (v := .ref n_left) (C := RX3) (T := TX3) (N := 6) hx hb hts inX3 hown hK hP 0 rfl rfl 4 (by decide) (hts _ b_157) (fun _ h9 => h9) rfl dX3_leaveAll_9 ?_
  refine lv_iload_n hx hb dX3_leaveAll_12 rfl (lv_at hl 0 rfl) ?_
  refine lv_iconst (v := 1) hx hb dX3_leaveAll_13 (by decide) ?_
  refine va_zast hx hb hK hP hD hS 1 3 rfl rfl (by unfold vp_in; decide) dX3_leaveAll_14 (fun H locs hP hD hS => ?_)
  have hP : va_P D k_cl [(b, .inr (3, [.ref n_lengths, .ref n_counts, .ref n_overs, .ref n_arcNumbers, .ref n_left, .int k])), (n_left, .inl (E 3, 24, .inl (upd f_7 (7 : Int32).toNatClampNeg (vp_nar .boolean 1))))] H := hP
  have hD : va_D A [(b, .inr (3, [.ref n_lengths, .ref n_counts, .ref n_overs, .ref n_arcNumbers, .ref n_left, .int k])), (n_left, .inl (E 3, 24, .inl (upd f_7 (7 : Int32).toNatClampNeg (vp_nar .boolean 1))))] := hD
  generalize (upd f_7 (7 : Int32).toNatClampNeg (vp_nar .boolean 1)) = f_8 at hP hD
  refine lv_iinc (v := 8) (lv' := [(1, .int 8), (0, .ref b)]) hx hb dX3_leaveAll_15 hl (k := 0) rfl (by decide) (by decide) rfl (fun ls hl => ?_)
  refine lv_goto (tgt := 2) hx hb dX3_leaveAll_18 (by decide) ?_
  refine lv_iload_n hx hb dX3_leaveAll_2 rfl (lv_at hl 0 rfl) ?_
  refine lv_bipush (v := 24) hx hb dX3_leaveAll_3 (by decide) ?_
  refine lv_icmp_ge (tgt := 21) hx hb dX3_leaveAll_5 (by decide) (fun h9 => absurd h9 (by decide)) (fun _ => ?_)
  refine lv_aload_n hx hb dX3_leaveAll_8 rfl (lv_at hl 1 rfl) ?_
  refine va_get (D := D) (ci := 3) (v := .ref n_left) (C := RX3) (T := TX3) (N := 6) hx hb hts inX3 hown hK hP 0 rfl rfl 4 (by decide) (hts _ b_157) (fun _ h9 => h9) rfl dX3_leaveAll_9 ?_
  refine lv_iload_n hx hb dX3_leaveAll_12 rfl (lv_at hl 0 rfl) ?_
  refine lv_iconst (v := 1) hx hb dX3_leaveAll_13 (by decide) ?_
  refine va_zast hx hb hK hP hD hS 1 3 rfl rfl (by unfold vp_in; decide) dX3_leaveAll_14 (fun H locs hP hD hS => ?_)
  have hP : va_P D k_cl [(b, .inr (3, [.ref n_lengths, .ref n_counts, .ref n_overs, .ref n_arcNumbers, .ref n_left, .int k])), (n_left, .inl (E 3, 24, .inl (upd f_8 (8 : Int32).toNatClampNeg (vp_nar .boolean 1))))] H := hP
  have hD : va_D A [(b, .inr (3, [.ref n_lengths, .ref n_counts, .ref n_overs, .ref n_arcNumbers, .ref n_left, .int k])), (n_left, .inl (E 3, 24, .inl (upd f_8 (8 : Int32).toNatClampNeg (vp_nar .boolean 1))))] := hD
  generalize (upd f_8 (8 : Int32).toNatClampNeg (vp_nar .boolean 1)) = f_9 at hP hD
  refine lv_iinc (v := 9) (lv' := [(1, .int 9), (0, .ref b)]) hx hb dX3_leaveAll_15 hl (k := 0) rfl (by decide) (by decide) rfl (fun ls hl => ?_)
  refine lv_goto (tgt := 2) hx hb dX3_leaveAll_18 (by decide) ?_
  refine lv_iload_n hx hb dX3_leaveAll_2 rfl (lv_at hl 0 rfl) ?_
  refine lv_bipush (v := 24) hx hb dX3_leaveAll_3 (by decide) ?_
  refine lv_icmp_ge (tgt := 21) hx hb dX3_leaveAll_5 (by decide) (fun h9 => absurd h9 (by decide)) (fun _ => ?_)
  refine lv_aload_n hx hb dX3_leaveAll_8 rfl (lv_at hl 1 rfl) ?_
  refine va_get (D := D) (ci := 3) (v := .ref n_left) (C := RX3) (T := TX3) (N := 6) hx hb hts inX3 hown hK hP 0 rfl rfl 4 (by decide) (hts _ b_157) (fun _ h9 => h9) rfl dX3_leaveAll_9 ?_
  refine lv_iload_n hx hb dX3_leaveAll_12 rfl (lv_at hl 0 rfl) ?_
  refine lv_iconst (v := 1) hx hb dX3_leaveAll_13 (by decide) ?_
  refine va_zast hx hb hK hP hD hS 1 3 rfl rfl (by unfold vp_in; decide) dX3_leaveAll_14 (fun H locs hP hD hS => ?_)
  have hP : va_P D k_cl [(b, .inr (3, [.ref n_lengths, .ref n_counts, .ref n_overs, .ref n_arcNumbers, .ref n_left, .int k])), (n_left, .inl (E 3, 24, .inl (upd f_9 (9 : Int32).toNatClampNeg (vp_nar .boolean 1))))] H := hP
  have hD : va_D A [(b, .inr (3, [.ref n_lengths, .ref n_counts, .ref n_overs, .ref n_arcNumbers, .ref n_left, .int k])), (n_left, .inl (E 3, 24, .inl (upd f_9 (9 : Int32).toNatClampNeg (vp_nar .boolean 1))))] := hD
  generalize (upd f_9 (9 : Int32).toNatClampNeg (vp_nar .boolean 1)) = f_10 at hP hD
  refine lv_iinc (v := 10) (lv' := [(1, .int 10), (0, .ref b)]) hx hb dX3_leaveAll_15 hl (k := 0) rfl (by decide) (by decide) rfl (fun ls hl => ?_)
  refine lv_goto (tgt := 2) hx hb dX3_leaveAll_18 (by decide) ?_
  refine lv_iload_n hx hb dX3_leaveAll_2 rfl (lv_at hl 0 rfl) ?_
  refine lv_bipush (v := 24) hx hb dX3_leaveAll_3 (by decide) ?_
  refine lv_icmp_ge (tgt := 21) hx hb dX3_leaveAll_5 (by decide) (fun h9 => absurd h9 (by decide)) (fun _ => ?_)
  refine lv_aload_n hx hb dX3_leaveAll_8 rfl (lv_at hl 1 rfl) ?_
  refine va_get (D := D) (ci := 3) (v := .ref n_left) (C := RX3) (T := TX3) (N := 6) hx hb hts inX3 hown hK hP 0 rfl rfl 4 (by decide) (hts _ b_157) (fun _ h9 => h9) rfl dX3_leaveAll_9 ?_
  refine lv_iload_n hx hb dX3_leaveAll_12 rfl (lv_at hl 0 rfl) ?_
  refine lv_iconst (v := 1) hx hb dX3_leaveAll_13 (by decide) ?_
  refine va_zast hx hb hK hP hD hS 1 3 rfl rfl (by unfold vp_in; decide) dX3_leaveAll_14 (fun H locs hP hD hS => ?_)
  have hP : va_P D k_cl [(b, .inr (3, [.ref n_lengths, .ref n_counts, .ref n_overs, .ref n_arcNumbers, .ref n_left, .int k])), (n_left, .inl (E 3, 24, .inl (upd f_10 (10 : Int32).toNatClampNeg (vp_nar .boolean 1))))] H := hP
  have hD : va_D A [(b, .inr (3, [.ref n_lengths, .ref n_counts, .ref n_overs, .ref n_arcNumbers, .ref n_left, .int k])), (n_left, .inl (E 3, 24, .inl (upd f_10 (10 : Int32).toNatClampNeg (vp_nar .boolean 1))))] := hD
  generalize (upd f_10 (10 : Int32).toNatClampNeg (vp_nar .boolean 1)) = f_11 at hP hD
  refine lv_iinc (v := 11) (lv' := [(1, .int 11), (0, .ref b)]) hx hb dX3_leaveAll_15 hl (k := 0) rfl (by decide) (by decide) rfl (fun ls hl => ?_)
  refine lv_goto (tgt := 2) hx hb dX3_leaveAll_18 (by decide) ?_
  refine lv_iload_n hx hb dX3_leaveAll_2 rfl (lv_at hl 0 rfl) ?_
  refine lv_bipush (v := 24) hx hb dX3_leaveAll_3 (by decide) ?_
  refine lv_icmp_ge (tgt := 21) hx hb dX3_leaveAll_5 (by decide) (fun h9 => absurd h9 (by decide)) (fun _ => ?_)
  refine lv_aload_n hx hb dX3_leaveAll_8 rfl (lv_at hl 1 rfl) ?_
  refine va_get (D := D) (ci := 3) (v := .ref n_left) (C := RX3) (T := TX3) (N := 6) hx hb hts inX3 hown hK hP 0 rfl rfl 4 (by decide) (hts _ b_157) (fun _ h9 => h9) rfl dX3_leaveAll_9 ?_
  refine lv_iload_n hx hb dX3_leaveAll_12 rfl (lv_at hl 0 rfl) ?_
  refine lv_iconst (v := 1) hx hb dX3_leaveAll_13 (by decide) ?_
  refine va_zast hx hb hK hP hD hS 1 3 rfl rfl (by unfold vp_in; decide) dX3_leaveAll_14 (fun H locs hP hD hS => ?_)
  have hP : va_P D k_cl [(b, .inr (3, [.ref n_lengths, .ref n_counts, .ref n_overs, .ref n_arcNumbers, .ref n_left, .int k])), (n_left, .inl (E 3, 24, .inl (upd f_11 (11 : Int32).toNatClampNeg (vp_nar .boolean 1))))] H := hP
  have hD : va_D A [(b, .inr (3, [.ref n_lengths, .ref n_counts, .ref n_overs, .ref n_arcNumbers, .ref n_left, .int k])), (n_left, .inl (E 3, 24, .inl (upd f_11 (11 : Int32).toNatClampNeg (vp_nar .boolean 1))))] := hD
  generalize (upd f_11 (11 : Int32).toNatClampNeg (vp_nar .boolean 1)) = f_12 at hP hD
  refine lv_iinc (v := 12) (lv' := [(1, .int 12), (0, .ref b)]) hx hb dX3_leaveAll_15 hl (k := 0) rfl (by decide) (by decide) rfl (fun ls hl => ?_)
  refine lv_goto (tgt := 2) hx hb dX3_leaveAll_18 (by decide) ?_
  refine lv_iload_n hx hb dX3_leaveAll_2 rfl (lv_at hl 0 rfl) ?_
  refine lv_bipush (v := 24) hx hb dX3_leaveAll_3 (by decide) ?_
  refine lv_icmp_ge (tgt := 21) hx hb dX3_leaveAll_5 (by decide) (fun h9 => absurd h9 (by decide)) (fun _ => ?_)
  refine lv_aload_n hx hb dX3_leaveAll_8 rfl (lv_at hl 1 rfl) ?_
  refine va_get (D := D) (ci := 3) (v := .ref n_left) (C := RX3) (T := TX3) (N := 6) hx hb hts inX3 hown hK hP 0 rfl rfl 4 (by decide) (hts _ b_157) (fun _ h9 => h9) rfl dX3_leaveAll_9 ?_
  refine lv_iload_n hx hb dX3_leaveAll_12 rfl (lv_at hl 0 rfl) ?_
  refine lv_iconst (v := 1) hx hb dX3_leaveAll_13 (by decide) ?_
  refine va_zast hx hb hK hP hD hS 1 3 rfl rfl (by unfold vp_in; decide) dX3_leaveAll_14 (fun H locs hP hD hS => ?_)
  have hP : va_P D k_cl [(b, .inr (3, [.ref n_lengths, .ref n_counts, .ref n_overs, .ref n_arcNumbers, .ref n_left, .int k])), (n_left, .inl (E 3, 24, .inl (upd f_12 (12 : Int32).toNatClampNeg (vp_nar .boolean 1))))] H := hP
  have hD : va_D A [(b, .inr (3, [.ref n_lengths, .ref n_counts, .ref n_overs, .ref n_arcNumbers, .ref n_left, .int k])), (n_left, .inl (E 3, 24, .inl (upd f_12 (12 : Int32).toNatClampNeg (vp_nar .boolean 1))))] := hD
  generalize (upd f_12 (12 : Int32).toNatClampNeg (vp_nar .boolean 1)) = f_13 at hP hD
  refine lv_iinc (v := 13) (lv' := [(1, .int 13), (0, .ref b)]) hx hb dX3_leaveAll_15 hl (k := 0) rfl (by decide) (by decide) rfl (fun ls hl => ?_)
  refine lv_goto (tgt := 2) hx hb dX3_leaveAll_18 (by decide) ?_
  refine lv_iload_n hx hb dX3_leaveAll_2 rfl (lv_at hl 0 rfl) ?_
  refine lv_bipush (v := 24) hx hb dX3_leaveAll_3 (by decide) ?_
  refine lv_icmp_ge (tgt := 21) hx hb dX3_leaveAll_5 (by decide) (fun h9 => absurd h9 (by decide)) (fun _ => ?_)
  refine lv_aload_n hx hb dX3_leaveAll_8 rfl (lv_at hl 1 rfl) ?_
  refine va_get (D := D) (ci := 3) (v := .ref n_left) (C := RX3) (T := TX3) (N := 6) hx hb hts inX3 hown hK hP 0 rfl rfl 4 (by decide) (hts _ b_157) (fun _ h9 => h9) rfl dX3_leaveAll_9 ?_
  refine lv_iload_n hx hb dX3_leaveAll_12 rfl (lv_at hl 0 rfl) ?_
  refine lv_iconst (v := 1) hx hb dX3_leaveAll_13 (by decide) ?_
  refine va_zast hx hb hK hP hD hS 1 3 rfl rfl (by unfold vp_in; decide) dX3_leaveAll_14 (fun H locs hP hD hS => ?_)
  have hP : va_P D k_cl [(b, .inr (3, [.ref n_lengths, .ref n_counts, .ref n_overs, .ref n_arcNumbers, .ref n_left, .int k])), (n_left, .inl (E 3, 24, .inl (upd f_13 (13 : Int32).toNatClampNeg (vp_nar .boolean 1))))] H := hP
  have hD : va_D A [(b, .inr (3, [.ref n_lengths, .ref n_counts, .ref n_overs, .ref n_arcNumbers, .ref n_left, .int k])), (n_left, .inl (E 3, 24, .inl (upd f_13 (13 : Int32).toNatClampNeg (vp_nar .boolean 1))))] := hD
  generalize (upd f_13 (13 : Int32).toNatClampNeg (vp_nar .boolean 1)) = f_14 at hP hD
  refine lv_iinc (v := 14) (lv' := [(1, .int 14), (0, .ref b)]) hx hb dX3_leaveAll_15 hl (k := 0) rfl (by decide) (by decide) rfl (fun ls hl => ?_)
  refine lv_goto (tgt := 2) hx hb dX3_leaveAll_18 (by decide) ?_
  refine lv_iload_n hx hb dX3_leaveAll_2 rfl (lv_at hl 0 rfl) ?_
  refine lv_bipush (v := 24) hx hb dX3_leaveAll_3 (by decide) ?_
  refine lv_icmp_ge (tgt := 21) hx hb dX3_leaveAll_5 (by decide) (fun h9 => absurd h9 (by decide)) (fun _ => ?_)
  refine lv_aload_n hx hb dX3_leaveAll_8 rfl (lv_at hl 1 rfl) ?_
  refine va_get (D := D) (ci := 3) (v := .ref n_left) (C := RX3) (T := TX3) (N := 6) hx hb hts inX3 hown hK hP 0 rfl rfl 4 (by decide) (hts _ b_157) (fun _ h9 => h9) rfl dX3_leaveAll_9 ?_
  refine lv_iload_n hx hb dX3_leaveAll_12 rfl (lv_at hl 0 rfl) ?_
  refine lv_iconst (v := 1) hx hb dX3_leaveAll_13 (by decide) ?_
  refine va_zast hx hb hK hP hD hS 1 3 rfl rfl (by unfold vp_in; decide) dX3_leaveAll_14 (fun H locs hP hD hS => ?_)
  have hP : va_P D k_cl [(b, .inr (3, [.ref n_lengths, .ref n_counts, .ref n_overs, .ref n_arcNumbers, .ref n_left, .int k])), (n_left, .inl (E 3, 24, .inl (upd f_14 (14 : Int32).toNatClampNeg (vp_nar .boolean 1))))] H := hP
  have hD : va_D A [(b, .inr (3, [.ref n_lengths, .ref n_counts, .ref n_overs, .ref n_arcNumbers, .ref n_left, .int k])), (n_left, .inl (E 3, 24, .inl (upd f_14 (14 : Int32).toNatClampNeg (vp_nar .boolean 1))))] := hD
  generalize (upd f_14 (14 : Int32).toNatClampNeg (vp_nar .boolean 1)) = f_15 at hP hD
  refine lv_iinc (v := 15) (lv' := [(1, .int 15), (0, .ref b)]) hx hb dX3_leaveAll_15 hl (k := 0) rfl (by decide) (by decide) rfl (fun ls hl => ?_)
  refine lv_goto (tgt := 2) hx hb dX3_leaveAll_18 (by decide) ?_
  refine lv_iload_n hx hb dX3_leaveAll_2 rfl (lv_at hl 0 rfl) ?_
  refine lv_bipush (v := 24) hx hb dX3_leaveAll_3 (by decide) ?_
  refine lv_icmp_ge (tgt := 21) hx hb dX3_leaveAll_5 (by decide) (fun h9 => absurd h9 (by decide)) (fun _ => ?_)
  refine lv_aload_n hx hb dX3_leaveAll_8 rfl (lv_at hl 1 rfl) ?_
  refine va_get (D := D) (ci := 3) (v := .ref n_left) (C := RX3) (T := TX3) (N := 6) hx hb hts inX3 hown hK hP 0 rfl rfl 4 (by decide) (hts _ b_157) (fun _ h9 => h9) rfl dX3_leaveAll_9 ?_
  refine lv_iload_n hx hb dX3_leaveAll_12 rfl (lv_at hl 0 rfl) ?_
  refine lv_iconst (v := 1) hx hb dX3_leaveAll_13 (by decide) ?_
  refine va_zast hx hb hK hP hD hS 1 3 rfl rfl (by unfold vp_in; decide) dX3_leaveAll_14 (fun H locs hP hD hS => ?_)
  have hP : va_P D k_cl [(b, .inr (3, [.ref n_lengths, .ref n_counts, .ref n_overs, .ref n_arcNumbers, .ref n_left, .int k])), (n_left, .inl (E 3, 24, .inl (upd f_15 (15 : Int32).toNatClampNeg (vp_nar .boolean 1))))] H := hP
  have hD : va_D A [(b, .inr (3, [.ref n_lengths, .ref n_counts, .ref n_overs, .ref n_arcNumbers, .ref n_left, .int k])), (n_left, .inl (E 3, 24, .inl (upd f_15 (15 : Int32).toNatClampNeg (vp_nar .boolean 1))))] := hD
  generalize (upd f_15 (15 : Int32).toNatClampNeg (vp_nar .boolean 1)) = f_16 at hP hD
  refine lv_iinc (v := 16) (lv' := [(1, .int 16), (0, .ref b)]) hx hb dX3_leaveAll_15 hl (k := 0) rfl (by decide) (by decide) rfl (fun ls hl => ?_)
  refine lv_goto (tgt := 2) hx hb dX3_leaveAll_18 (by decide) ?_
  refine lv_iload_n hx hb dX3_leaveAll_2 rfl (lv_at hl 0 rfl) ?_
  refine lv_bipush (v := 24) hx hb dX3_leaveAll_3 (by decide) ?_
  refine lv_icmp_ge (tgt := 21) hx hb dX3_leaveAll_5 (by decide) (fun h9 => absurd h9 (by decide)) (fun _ => ?_)
  refine lv_aload_n hx hb dX3_leaveAll_8 rfl (lv_at hl 1 rfl) ?_
  refine va_get (D := D) (ci := 3) (v := .ref n_left) (C := RX3) (T := TX3) (N := 6) hx hb hts inX3 hown hK hP 0 rfl rfl 4 (by decide) (hts _ b_157) (fun _ h9 => h9) rfl dX3_leaveAll_9 ?_
  refine lv_iload_n hx hb dX3_leaveAll_12 rfl (lv_at hl 0 rfl) ?_
  refine lv_iconst (v := 1) hx hb dX3_leaveAll_13 (by decide) ?_
  refine va_zast hx hb hK hP hD hS 1 3 rfl rfl (by unfold vp_in; decide) dX3_leaveAll_14 (fun H locs hP hD hS => ?_)
  have hP : va_P D k_cl [(b, .inr (3, [.ref n_lengths, .ref n_counts, .ref n_overs, .ref n_arcNumbers, .ref n_left, .int k])), (n_left, .inl (E 3, 24, .inl (upd f_16 (16 : Int32).toNatClampNeg (vp_nar .boolean 1))))] H := hP
  have hD : va_D A [(b, .inr (3, [.ref n_lengths, .ref n_counts, .ref n_overs, .ref n_arcNumbers, .ref n_left, .int k])), (n_left, .inl (E 3, 24, .inl (upd f_16 (16 : Int32).toNatClampNeg (vp_nar .boolean 1))))] := hD
  generalize (upd f_16 (16 : Int32).toNatClampNeg (vp_nar .boolean 1)) = f_17 at hP hD
  refine lv_iinc (v := 17) (lv' := [(1, .int 17), (0, .ref b)]) hx hb dX3_leaveAll_15 hl (k := 0) rfl (by decide) (by decide) rfl (fun ls hl => ?_)
  refine lv_goto (tgt := 2) hx hb dX3_leaveAll_18 (by decide) ?_
  refine lv_iload_n hx hb dX3_leaveAll_2 rfl (lv_at hl 0 rfl) ?_
  refine lv_bipush (v := 24) hx hb dX3_leaveAll_3 (by decide) ?_
  refine lv_icmp_ge (tgt := 21) hx hb dX3_leaveAll_5 (by decide) (fun h9 => absurd h9 (by decide)) (fun _ => ?_)
  refine lv_aload_n hx hb dX3_leaveAll_8 rfl (lv_at hl 1 rfl) ?_
  refine va_get (D := D) (ci := 3) (v := .ref n_left) (C := RX3) (T := TX3) (N := 6) hx hb hts inX3 hown hK hP 0 rfl rfl 4 (by decide) (hts _ b_157) (fun _ h9 => h9) rfl dX3_leaveAll_9 ?_
  refine lv_iload_n hx hb dX3_leaveAll_12 rfl (lv_at hl 0 rfl) ?_
  refine lv_iconst (v := 1) hx hb dX3_leaveAll_13 (by decide) ?_
  refine va_zast hx hb hK hP hD hS 1 3 rfl rfl (by unfold vp_in; decide) dX3_leaveAll_14 (fun H locs hP hD hS => ?_)
  have hP : va_P D k_cl [(b, .inr (3, [.ref n_lengths, .ref n_counts, .ref n_overs, .ref n_arcNumbers, .ref n_left, .int k])), (n_left, .inl (E 3, 24, .inl (upd f_17 (17 : Int32).toNatClampNeg (vp_nar .boolean 1))))] H := hP
  have hD : va_D A [(b, .inr (3, [.ref n_lengths, .ref n_counts, .ref n_overs, .ref n_arcNumbers, .ref n_left, .int k])), (n_left, .inl (E 3, 24, .inl (upd f_17 (17 : Int32).toNatClampNeg (vp_nar .boolean 1))))] := hD
  generalize (upd f_17 (17 : Int32).toNatClampNeg (vp_nar .boolean 1)) = f_18 at hP hD
  refine lv_iinc (v := 18) (lv' := [(1, .int 18), (0, .ref b)]) hx hb dX3_leaveAll_15 hl (k := 0) rfl (by decide) (by decide) rfl (fun ls hl => ?_)
  refine lv_goto (tgt := 2) hx hb dX3_leaveAll_18 (by decide) ?_
  refine lv_iload_n hx hb dX3_leaveAll_2 rfl (lv_at hl 0 rfl) ?_
  refine lv_bipush (v := 24) hx hb dX3_leaveAll_3 (by decide) ?_
  refine lv_icmp_ge (tgt := 21) hx hb dX3_leaveAll_5 (by decide) (fun h9 => absurd h9 (by decide)) (fun _ => ?_)
  refine lv_aload_n hx hb dX3_leaveAll_8 rfl (lv_at hl 1 rfl) ?_
  refine va_get (D := D) (ci := 3) (v := .ref n_left) (C := RX3) (T := TX3) (N := 6) hx hb hts inX3 hown hK hP 0 rfl rfl 4 (by decide) (hts _ b_157) (fun _ h9 => h9) rfl dX3_leaveAll_9 ?_
  refine lv_iload_n hx hb dX3_leaveAll_12 rfl (lv_at hl 0 rfl) ?_
  refine lv_iconst (v := 1) hx hb dX3_leaveAll_13 (by decide) ?_
  refine va_zast hx hb hK hP hD hS 1 3 rfl rfl (by unfold vp_in; decide) dX3_leaveAll_14 (fun H locs hP hD hS => ?_)
  have hP : va_P D k_cl [(b, .inr (3, [.ref n_lengths, .ref n_counts, .ref n_overs, .ref n_arcNumbers, .ref n_left, .int k])), (n_left, .inl (E 3, 24, .inl (upd f_18 (18 : Int32).toNatClampNeg (vp_nar .boolean 1))))] H := hP
  have hD : va_D A [(b, .inr (3, [.ref n_lengths, .ref n_counts, .ref n_overs, .ref n_arcNumbers, .ref n_left, .int k])), (n_left, .inl (E 3, 24, .inl (upd f_18 (18 : Int32).toNatClampNeg (vp_nar .boolean 1))))] := hD
  generalize (upd f_18 (18 : Int32).toNatClampNeg (vp_nar .boolean 1)) = f_19 at hP hD
  refine lv_iinc (v := 19) (lv' := [(1, .int 19), (0, .ref b)]) hx hb dX3_leaveAll_15 hl (k := 0) rfl (by decide) (by decide) rfl (fun ls hl => ?_)
  refine lv_goto (tgt := 2) hx hb dX3_leaveAll_18 (by decide) ?_
  refine lv_iload_n hx hb dX3_leaveAll_2 rfl (lv_at hl 0 rfl) ?_
  refine lv_bipush (v := 24) hx hb dX3_leaveAll_3 (by decide) ?_
  refine lv_icmp_ge (tgt := 21) hx hb dX3_leaveAll_5 (by decide) (fun h9 => absurd h9 (by decide)) (fun _ => ?_)
  refine lv_aload_n hx hb dX3_leaveAll_8 rfl (lv_at hl 1 rfl) ?_
  refine va_get (D := D) (ci := 3) (v := .ref n_left) (C := RX3) (T := TX3) (N := 6) hx hb hts inX3 hown hK hP 0 rfl rfl 4 (by decide) (hts _ b_157) (fun _ h9 => h9) rfl dX3_leaveAll_9 ?_
  refine lv_iload_n hx hb dX3_leaveAll_12 rfl (lv_at hl 0 rfl) ?_
  refine lv_iconst (v := 1) hx hb dX3_leaveAll_13 (by decide) ?_
  refine va_zast hx hb hK hP hD hS 1 3 rfl rfl (by unfold vp_in; decide) dX3_leaveAll_14 (fun H locs hP hD hS => ?_)
  have hP : va_P D k_cl [(b, .inr (3, [.ref n_lengths, .ref n_counts, .ref n_overs, .ref n_arcNumbers, .ref n_left, .int k])), (n_left, .inl (E 3, 24, .inl (upd f_19 (19 : Int32).toNatClampNeg (vp_nar .boolean 1))))] H := hP
  have hD : va_D A [(b, .inr (3, [.ref n_lengths, .ref n_counts, .ref n_overs, .ref n_arcNumbers, .ref n_left, .int k])), (n_left, .inl (E 3, 24, .inl (upd f_19 (19 : Int32).toNatClampNeg (vp_nar .boolean 1))))] := hD
  generalize (upd f_19 (19 : Int32).toNatClampNeg (vp_nar .boolean 1)) = f_20 at hP hD
  refine lv_iinc (v := 20) (lv' := [(1, .int 20), (0, .ref b)]) hx hb dX3_leaveAll_15 hl (k := 0) rfl (by decide) (by decide) rfl (fun ls hl => ?_)
  refine lv_goto (tgt := 2) hx hb dX3_leaveAll_18 (by decide) ?_
  refine lv_iload_n hx hb dX3_leaveAll_2 rfl (lv_at hl 0 rfl) ?_
  refine lv_bipush (v := 24) hx hb dX3_leaveAll_3 (by decide) ?_
  refine lv_icmp_ge (tgt := 21) hx hb dX3_leaveAll_5 (by decide) (fun h9 => absurd h9 (by decide)) (fun _ => ?_)
  refine lv_aload_n hx hb dX3_leaveAll_8 rfl (lv_at hl 1 rfl) ?_
  refine va_get (D := D) (ci := 3) (v := .ref n_left) (C := RX3) (T := TX3) (N := 6) hx hb hts inX3 hown hK hP 0 rfl rfl 4 (by decide) (hts _ b_157) (fun _ h9 => h9) rfl dX3_leaveAll_9 ?_
  refine lv_iload_n hx hb dX3_leaveAll_12 rfl (lv_at hl 0 rfl) ?_
  refine lv_iconst (v := 1) hx hb dX3_leaveAll_13 (by decide) ?_
  refine va_zast hx hb hK hP hD hS 1 3 rfl rfl (by unfold vp_in; decide) dX3_leaveAll_14 (fun H locs hP hD hS => ?_)
  have hP : va_P D k_cl [(b, .inr (3, [.ref n_lengths, .ref n_counts, .ref n_overs, .ref n_arcNumbers, .ref n_left, .int k])), (n_left, .inl (E 3, 24, .inl (upd f_20 (20 : Int32).toNatClampNeg (vp_nar .boolean 1))))] H := hP
  have hD : va_D A [(b, .inr (3, [.ref n_lengths, .ref n_counts, .ref n_overs, .ref n_arcNumbers, .ref n_left, .int k])), (n_left, .inl (E 3, 24, .inl (upd f_20 (20 : Int32).toNatClampNeg (vp_nar .boolean 1))))] := hD
  generalize (upd f_20 (20 : Int32).toNatClampNeg (vp_nar .boolean 1)) = f_21 at hP hD
  refine lv_iinc (v := 21) (lv' := [(1, .int 21), (0, .ref b)]) hx hb dX3_leaveAll_15 hl (k := 0) rfl (by decide) (by decide) rfl (fun ls hl => ?_)
  refine lv_goto (tgt := 2) hx hb dX3_leaveAll_18 (by decide) ?_
  refine lv_iload_n hx hb dX3_leaveAll_2 rfl (lv_at hl 0 rfl) ?_
  refine lv_bipush (v := 24) hx hb dX3_leaveAll_3 (by decide) ?_
  refine lv_icmp_ge (tgt := 21) hx hb dX3_leaveAll_5 (by decide) (fun h9 => absurd h9 (by decide)) (fun _ => ?_)
  refine lv_aload_n hx hb dX3_leaveAll_8 rfl (lv_at hl 1 rfl) ?_
  refine va_get (D := D) (ci := 3) (v := .ref n_left) (C := RX3) (T := TX3) (N := 6) hx hb hts inX3 hown hK hP 0 rfl rfl 4 (by decide) (hts _ b_157) (fun _ h9 => h9) rfl dX3_leaveAll_9 ?_
  refine lv_iload_n hx hb dX3_leaveAll_12 rfl (lv_at hl 0 rfl) ?_
  refine lv_iconst (v := 1) hx hb dX3_leaveAll_13 (by decide) ?_
  refine va_zast hx hb hK hP hD hS 1 3 rfl rfl (by unfold vp_in; decide) dX3_leaveAll_14 (fun H locs hP hD hS => ?_)
  have hP : va_P D k_cl [(b, .inr (3, [.ref n_lengths, .ref n_counts, .ref n_overs, .ref n_arcNumbers, .ref n_left, .int k])), (n_left, .inl (E 3, 24, .inl (upd f_21 (21 : Int32).toNatClampNeg (vp_nar .boolean 1))))] H := hP
  have hD : va_D A [(b, .inr (3, [.ref n_lengths, .ref n_counts, .ref n_overs, .ref n_arcNumbers, .ref n_left, .int k])), (n_left, .inl (E 3, 24, .inl (upd f_21 (21 : Int32).toNatClampNeg (vp_nar .boolean 1))))] := hD
  generalize (upd f_21 (21 : Int32).toNatClampNeg (vp_nar .boolean 1)) = f_22 at hP hD
  refine lv_iinc (v := 22) (lv' := [(1, .int 22), (0, .ref b)]) hx hb dX3_leaveAll_15 hl (k := 0) rfl (by decide) (by decide) rfl (fun ls hl => ?_)
  refine lv_goto (tgt := 2) hx hb dX3_leaveAll_18 (by decide) ?_
  refine lv_iload_n hx hb dX3_leaveAll_2 rfl (lv_at hl 0 rfl) ?_
  refine lv_bipush (v := 24) hx hb dX3_leaveAll_3 (by decide) ?_
  refine lv_icmp_ge (tgt := 21) hx hb dX3_leaveAll_5 (by decide) (fun h9 => absurd h9 (by decide)) (fun _ => ?_)
  refine lv_aload_n hx hb dX3_leaveAll_8 rfl (lv_at hl 1 rfl) ?_
  refine va_get (D := D) (ci := 3) (v := .ref n_left) (C := RX3) (T := TX3) (N := 6) hx hb hts inX3 hown hK hP 0 rfl rfl 4 (by decide) (hts _ b_157) (fun _ h9 => h9) rfl dX3_leaveAll_9 ?_
  refine lv_iload_n hx hb dX3_leaveAll_12 rfl (lv_at hl 0 rfl) ?_
  refine lv_iconst (v := 1) hx hb dX3_leaveAll_13 (by decide) ?_
  refine va_zast hx hb hK hP hD hS 1 3 rfl rfl (by unfold vp_in; decide) dX3_leaveAll_14 (fun H locs hP hD hS => ?_)
  have hP : va_P D k_cl [(b, .inr (3, [.ref n_lengths, .ref n_counts, .ref n_overs, .ref n_arcNumbers, .ref n_left, .int k])), (n_left, .inl (E 3, 24, .inl (upd f_22 (22 : Int32).toNatClampNeg (vp_nar .boolean 1))))] H := hP
  have hD : va_D A [(b, .inr (3, [.ref n_lengths, .ref n_counts, .ref n_overs, .ref n_arcNumbers, .ref n_left, .int k])), (n_left, .inl (E 3, 24, .inl (upd f_22 (22 : Int32).toNatClampNeg (vp_nar .boolean 1))))] := hD
  generalize (upd f_22 (22 : Int32).toNatClampNeg (vp_nar .boolean 1)) = f_23 at hP hD
  refine lv_iinc (v := 23) (lv' := [(1, .int 23), (0, .ref b)]) hx hb dX3_leaveAll_15 hl (k := 0) rfl (by decide) (by decide) rfl (fun ls hl => ?_)
  refine lv_goto (tgt := 2) hx hb dX3_leaveAll_18 (by decide) ?_
  refine lv_iload_n hx hb dX3_leaveAll_2 rfl (lv_at hl 0 rfl) ?_
  refine lv_bipush (v := 24) hx hb dX3_leaveAll_3 (by decide) ?_
  refine lv_icmp_ge (tgt := 21) hx hb dX3_leaveAll_5 (by decide) (fun h9 => absurd h9 (by decide)) (fun _ => ?_)
  refine lv_aload_n hx hb dX3_leaveAll_8 rfl (lv_at hl 1 rfl) ?_
  refine va_get (D := D) (ci := 3) (v := .ref n_left) (C := RX3) (T := TX3) (N := 6) hx hb hts inX3 hown hK hP 0 rfl rfl 4 (by decide) (hts _ b_157) (fun _ h9 => h9) rfl dX3_leaveAll_9 ?_
  refine lv_iload_n hx hb dX3_leaveAll_12 rfl (lv_at hl 0 rfl) ?_
  refine lv_iconst (v := 1) hx hb dX3_leaveAll_13 (by decide) ?_
  refine va_zast hx hb hK hP hD hS 1 3 rfl rfl (by unfold vp_in; decide) dX3_leaveAll_14 (fun H locs hP hD hS => ?_)
  have hP : va_P D k_cl [(b, .inr (3, [.ref n_lengths, .ref n_counts, .ref n_overs, .ref n_arcNumbers, .ref n_left, .int k])), (n_left, .inl (E 3, 24, .inl (upd f_23 (23 : Int32).toNatClampNeg (vp_nar .boolean 1))))] H := hP
  have hD : va_D A [(b, .inr (3, [.ref n_lengths, .ref n_counts, .ref n_overs, .ref n_arcNumbers, .ref n_left, .int k])), (n_left, .inl (E 3, 24, .inl (upd f_23 (23 : Int32).toNatClampNeg (vp_nar .boolean 1))))] := hD
  generalize (upd f_23 (23 : Int32).toNatClampNeg (vp_nar .boolean 1)) = f_24 at hP hD
  refine lv_iinc (v := 24) (lv' := [(1, .int 24), (0, .ref b)]) hx hb dX3_leaveAll_15 hl (k := 0) rfl (by decide) (by decide) rfl (fun ls hl => ?_)
  refine lv_goto (tgt := 2) hx hb dX3_leaveAll_18 (by decide) ?_
  refine lv_iload_n hx hb dX3_leaveAll_2 rfl (lv_at hl 0 rfl) ?_
  refine lv_bipush (v := 24) hx hb dX3_leaveAll_3 (by decide) ?_
  refine lv_icmp_ge (tgt := 21) hx hb dX3_leaveAll_5 (by decide) (fun _ => ?_) (fun h9 => absurd (by decide) h9)
  exact m_v f_24 hx hb hr hlocks rfl trivial (hP.sub [0, 1] rfl) (hD.sub [0, 1] (by decide) rfl) hS (by decide) (by decide) dX3_leaveAll_21
set_option maxRecDepth 20000 in
set_option maxHeartbeats 2000000 in
theorem c_empty (l : Launch) (D : va_G) (E : Nat → ClassId) (sa : Nat → Nat) (b : Nat) (n_lengths : Nat) (n_counts : Nat) (n_overs : Nat) (n_arcNumbers : Nat) (n_left : Nat) (v : Int32) (f : Nat → Int32) (fl : Nat → Int32) : KM l yX3_empty (.code yX3_empty cX3_empty 2 none) 25 823 0 0 D E sa [.ref b, .int v] [(b, .inr (3, [.ref n_lengths, .ref n_counts, .ref n_overs, .ref n_arcNumbers, .ref n_left, .int 0])), (n_counts, .inl (E 0, 576, .inl f)), (n_left, .inl (E 3, 24, .inl fl))] (S := Unit) (fun _ => none) (fun _ => True) (fun _ => []) := by
  refine KM.of (by decide) (Nat.le_of_ble_eq_true rfl) ?_
  intro p e s m below meth c A ls hx hb hr hts hml hown hlocks hnm hK hP hD hA hS hZ hl
  have hown : s.vm.findClass RX3 = some m.cls := hown
  have hl : lv_has ls 2 [(0, .ref b), (1, .int v)] := hl
  refine lv_aload_n hx hb dX3_empty_0 rfl (lv_at hl 0 rfl) ?_
  refine lv_iload_n hx hb dX3_empty_1 rfl (lv_at hl 1 rfl) ?_
  refine va_put (D := D) (ci := 3) (v := .int v) (ty := .int) (C := RX3) (T := TX3) (N := 6) hx hb hts inX3 tyX3 tyX3_ok nmX3 hown hK hP hD hS 0 rfl rfl 5 (by decide) (hts _ b_160) (fun _ h9 => h9) rfl (by decide +kernel) rfl rfl (Nat.le_of_ble_eq_true rfl) dX3_empty_2 (fun H locs hP hD hS => ?_)
  have hP : va_P D k_cl [(b, .inr (3, [.ref n_lengths, .ref n_counts, .ref n_overs, .ref n_arcNumbers, .ref n_left, .int v])), (n_counts, .inl (E 0, 576, .inl f)), (n_left, .inl (E 3, 24, .inl fl))] H := hP
  have hD : va_D A [(b, .inr (3, [.ref n_lengths, .ref n_counts, .ref n_overs, .ref n_arcNumbers, .ref n_left, .int v])), (n_counts, .inl (E 0, 576, .inl f)), (n_left, .inl (E 3, 24, .inl fl))] := hD
  refine lv_aload_n hx hb dX3_empty_5 rfl (lv_at hl 0 rfl) ?_
  refine va_get (D := D) (ci := 3) (v := .ref n_counts) (C := RX3) (T := TX3) (N := 6) hx hb hts inX3 hown hK hP 0 rfl rfl 1 (by decide) (hts _ b_146) (fun _ h9 => h9) rfl dX3_empty_6 ?_
  refine lv_iconst (v := 0) hx hb dX3_empty_9 (by decide) ?_
  refine k_MS (As := [.ref n_counts, .int 0]) (rest := [])  (wr := [(b, .inr (3, [.ref n_lengths, .ref n_counts, .ref n_overs, .ref n_arcNumbers, .ref n_left, .int v])), (n_left, .inl (E 3, 24, .inl fl))]) ⟨hx, hb, hml, hown, hts⟩ (c_fill l D E sa n_counts 576 f 0 (by decide)) b_648 b_649 b_98 b_650 hd_J7_fill_53178 ⟨⟨by decide, by decide⟩, by decide, by decide⟩ hK hP hD hS hA hZ [1] [0, 2] rfl rfl (by decide) rfl hl.1 (Nat.le_of_ble_eq_true rfl) dX3_empty_10 (fun u_1 H locs hu hP hD hS _ => ?_)
  obtain ⟨f1_2, rfl⟩ : ∃ z, z = u_1 := ⟨_, rfl⟩
  have hP : va_P D k_cl [(b, .inr (3, [.ref n_lengths, .ref n_counts, .ref n_overs, .ref n_arcNumbers, .ref n_left, .int v])), (n_left, .inl (E 3, 24, .inl fl)), (n_counts, .inl (E 0, 576, .inl f1_2))] H := hP
  have hD : va_D A [(b, .inr (3, [.ref n_lengths, .ref n_counts, .ref n_overs, .ref n_arcNumbers, .ref n_left, .int v])), (n_left, .inl (E 3, 24, .inl fl)), (n_counts, .inl (E 0, 576, .inl f1_2))] := hD
  refine W.eq (g2 := F0 m 13 ls []) rfl ?_
  refine lv_aload_n hx hb dX3_empty_13 rfl (lv_at hl 0 rfl) ?_
  refine k_MV (As := []) (rest := []) (ci := 3) (q0 := 0) (wr := [(n_counts, .inl (E 0, 576, .inl f1_2))]) ⟨hx, hb, hml, hown, hts⟩ (c_leaveAll l D E sa b n_lengths n_counts n_overs n_arcNumbers n_left v fl) b_651 b_653 b_11 b_81 b_654 ⟨rfl, hd_X3_leaveAll⟩ ⟨⟨by decide, by decide⟩, by decide, by decide⟩ hK hP hD hS hA hZ [0, 1] [2] rfl rfl (by decide) rfl rfl rfl hl.1 (Nat.le_of_ble_eq_true rfl) dX3_empty_14 (fun u_3 H locs hu hP hD hS _ => ?_)
  obtain ⟨f1_4, rfl⟩ : ∃ z, z = u_3 := ⟨_, rfl⟩
  have hP : va_P D k_cl [(n_counts, .inl (E 0, 576, .inl f1_2)), (b, .inr (3, [.ref n_lengths, .ref n_counts, .ref n_overs, .ref n_arcNumbers, .ref n_left, .int v])), (n_left, .inl (E 3, 24, .inl f1_4))] H := hP
  have hD : va_D A [(n_counts, .inl (E 0, 576, .inl f1_2)), (b, .inr (3, [.ref n_lengths, .ref n_counts, .ref n_overs, .ref n_arcNumbers, .ref n_left, .int v])), (n_left, .inl (E 3, 24, .inl f1_4))] := hD
  refine W.eq (g2 := F0 m 17 ls []) rfl ?_
  exact m_v () hx hb hr hlocks rfl trivial (hP.sub [] rfl) (hD.sub [] (by decide) rfl) hS (by decide) (by decide) dX3_empty_17
set_option maxRecDepth 20000 in
set_option maxHeartbeats 2000000 in
theorem c_putNode (l : Launch) (D : va_G) (E : Nat → ClassId) (sa : Nat → Nat) (b : Nat) (g_xs : Nat) (g_ys : Nat) (g_potentials : Nat) (g_tails : Nat) (g_heads : Nat) (g_weights : Nat) (g_net : Nat) (v : Int32) (w : Int32) (f0 : Nat → Int32) (f1 : Nat → Int32) (f2 : Nat → Int64) : KM l yX0_putNode (.code yX0_putNode cX0_putNode 4 none) 12 400 0 0 D E sa [.ref b, .int 0, .int v, .int w] [(b, .inr (0, [.ref g_xs, .ref g_ys, .ref g_potentials, .ref g_tails, .ref g_heads, .ref g_weights, .ref g_net, .int 0, .int 0, .long 0])), (g_xs, .inl (E 0, 24, .inl f0)), (g_ys, .inl (E 0, 24, .inl f1)), (g_potentials, .inl (E 1, 24, .inr (.inl f2)))] (S := Unit) (fun _ => none) (fun _ => True) (fun _ => [(b, .inr (0, [.ref g_xs, .ref g_ys, .ref g_potentials, .ref g_tails, .ref g_heads, .ref g_weights, .ref g_net, .int 0, .int 0, .long 0]))]) := by
  refine KM.of (by decide) (Nat.le_of_ble_eq_true rfl) ?_
  intro p e s m below meth c A ls hx hb hr hts hml hown hlocks hnm hK hP hD hA hS hZ hl
  have hown : s.vm.findClass RX0 = some m.cls := hown
  have hl : lv_has ls 4 [(0, .ref b), (1, .int 0), (2, .int v), (3, .int w)] := hl
  refine lv_iload_n hx hb dX0_putNode_0 rfl (lv_at hl 1 rfl) ?_
  refine lv_if_lt (tgt := 31) hx hb dX0_putNode_1 (by decide) (fun h9 => absurd h9 (by decide)) (fun _ => ?_)
  refine lv_iload_n hx hb dX0_putNode_4 rfl (lv_at hl 1 rfl) ?_
  refine lv_bipush (v := 24) hx hb dX0_putNode_5 (by decide) ?_
  refine lv_icmp_ge (tgt := 31) hx hb dX0_putNode_7 (by decide) (fun h9 => absurd h9 (by decide)) (fun _ => ?_)
  refine lv_aload_n hx hb dX0_putNode_10 rfl (lv_at hl 0 rfl) ?_
  refine va_get (D := D) (ci := 0) (v := .ref g_xs) (C := RX0) (T := TX0) (N := 10) hx hb hts inX0 hown hK hP 0 rfl rfl 0 (by decide) (hts _ b_181) (fun _ h9 => h9) rfl dX0_putNode_11 ?_
  refine lv_iload_n hx hb dX0_putNode_14 rfl (lv_at hl 1 rfl) ?_
  refine lv_iload_n hx hb dX0_putNode_15 rfl (lv_at hl 2 rfl) ?_
  refine va_iast hx hb hK hP hD hS 1 0 rfl rfl (by unfold vp_in; decide) dX0_putNode_16 (fun H locs hP hD hS => ?_)
  have hP : va_P D k_cl [(b, .inr (0, [.ref g_xs, .ref g_ys, .ref g_potentials, .ref g_tails, .ref g_heads, .ref g_weights, .ref g_net, .int 0, .int 0, .long 0])), (g_xs, .inl (E 0, 24, .inl (upd f0 (0 : Int32).toNatClampNeg v))), (g_ys, .inl (E 0, 24, .inl f1)), (g_potentials, .inl (E 1, 24, .inr (.inl f2)))] H := hP
  have hD : va_D A [(b, .inr (0, [.ref g_xs, .ref g_ys, .ref g_potentials, .ref g_tails, .ref g_heads, .ref g_weights, .ref g_net, .int 0, .int 0, .long 0])), (g_xs, .inl (E 0, 24, .inl (upd f0 (0 : Int32).toNatClampNeg v))), (g_ys, .inl (E 0, 24, .inl f1)), (g_potentials, .inl (E 1, 24, .inr (.inl f2)))] := hD
  generalize (upd f0 (0 : Int32).toNatClampNeg v) = f_1 at hP hD
  refine lv_aload_n hx hb dX0_putNode_17 rfl (lv_at hl 0 rfl) ?_
  refine va_get (D := D) (ci := 0) (v := .ref g_ys) (C := RX0) (T := TX0) (N := 10) hx hb hts inX0 hown hK hP 0 rfl rfl 1 (by decide) (hts _ b_183) (fun _ h9 => h9) rfl dX0_putNode_18 ?_
  refine lv_iload_n hx hb dX0_putNode_21 rfl (lv_at hl 1 rfl) ?_
  refine lv_iload_n hx hb dX0_putNode_22 rfl (lv_at hl 3 rfl) ?_
  refine va_iast hx hb hK hP hD hS 2 0 rfl rfl (by unfold vp_in; decide) dX0_putNode_23 (fun H locs hP hD hS => ?_)
  have hP : va_P D k_cl [(b, .inr (0, [.ref g_xs, .ref g_ys, .ref g_potentials, .ref g_tails, .ref g_heads, .ref g_weights, .ref g_net, .int 0, .int 0, .long 0])), (g_xs, .inl (E 0, 24, .inl f_1)), (g_ys, .inl (E 0, 24, .inl (upd f1 (0 : Int32).toNatClampNeg w))), (g_potentials, .inl (E 1, 24, .inr (.inl f2)))] H := hP
  have hD : va_D A [(b, .inr (0, [.ref g_xs, .ref g_ys, .ref g_potentials, .ref g_tails, .ref g_heads, .ref g_weights, .ref g_net, .int 0, .int 0, .long 0])), (g_xs, .inl (E 0, 24, .inl f_1)), (g_ys, .inl (E 0, 24, .inl (upd f1 (0 : Int32).toNatClampNeg w))), (g_potentials, .inl (E 1, 24, .inr (.inl f2)))] := hD
  generalize (upd f1 (0 : Int32).toNatClampNeg w) = f_2 at hP hD
  refine lv_aload_n hx hb dX0_putNode_24 rfl (lv_at hl 0 rfl) ?_
  refine va_get (D := D) (ci := 0) (v := .ref g_potentials) (C := RX0) (T := TX0) (N := 10) hx hb hts inX0 hown hK hP 0 rfl rfl 2 (by decide) (hts _ b_185) (fun _ h9 => h9) rfl dX0_putNode_25 ?_
  refine lv_iload_n hx hb dX0_putNode_28 rfl (lv_at hl 1 rfl) ?_
  refine lv_lconst (v := 0) hx hb dX0_putNode_29 (by decide) ?_
  refine va_last hx hb hK hP hD hS 3 1 rfl rfl (by unfold vp_in; decide) dX0_putNode_30 (fun H locs hP hD hS => ?_)
  have hP : va_P D k_cl [(b, .inr (0, [.ref g_xs, .ref g_ys, .ref g_potentials, .ref g_tails, .ref g_heads, .ref g_weights, .ref g_net, .int 0, .int 0, .long 0])), (g_xs, .inl (E 0, 24, .inl f_1)), (g_ys, .inl (E 0, 24, .inl f_2)), (g_potentials, .inl (E 1, 24, .inr (.inl (vp_updL f2 (0 : Int32).toNatClampNeg 0))))] H := hP
  have hD : va_D A [(b, .inr (0, [.ref g_xs, .ref g_ys, .ref g_potentials, .ref g_tails, .ref g_heads, .ref g_weights, .ref g_net, .int 0, .int 0, .long 0])), (g_xs, .inl (E 0, 24, .inl f_1)), (g_ys, .inl (E 0, 24, .inl f_2)), (g_potentials, .inl (E 1, 24, .inr (.inl (vp_updL f2 (0 : Int32).toNatClampNeg 0))))] := hD
  generalize (vp_updL f2 (0 : Int32).toNatClampNeg 0) = f_3 at hP hD
  exact m_v () hx hb hr hlocks rfl trivial (hP.sub [0] rfl) (hD.sub [0] (by decide) rfl) hS (by decide) (by decide) dX0_putNode_31
set_option maxRecDepth 20000 in
set_option maxHeartbeats 2000000 in
theorem c_take_0 (l : Launch) (D : va_G) (E : Nat → ClassId) (sa : Nat → Nat) (b : Nat) (g_xs : Nat) (g_ys : Nat) (g_potentials : Nat) (g_tails : Nat) (g_heads : Nat) (g_weights : Nat) (g_net : Nat) (n_lengths : Nat) (n_counts : Nat) (n_overs : Nat) (n_arcNumbers : Nat) (n_left : Nat) (f : Nat → Int32) (fl : Nat → Int32) : KM l yX0_take (.code yX0_take cX0_take 6 none) 38 1244 0 0 D E sa [.ref b, .int 0, .int 0, .long 0] [(b, .inr (0, [.ref g_xs, .ref g_ys, .ref g_potentials, .ref g_tails, .ref g_heads, .ref g_weights, .ref g_net, .int 0, .int 0, .long 0])), (g_net, .inr (3, [.ref n_lengths, .ref n_counts, .ref n_overs, .ref n_arcNumbers, .ref n_left, .int 0])), (n_counts, .inl (E 0, 576, .inl f)), (n_left, .inl (E 3, 24, .inl fl))] (S := Unit) (fun _ => none) (fun _ => True) (fun _ => []) := by
  refine KM.of (by decide) (Nat.le_of_ble_eq_true rfl) ?_
  intro p e s m below meth c A ls hx hb hr hts hml hown hlocks hnm hK hP hD hA hS hZ hl
  have hown : s.vm.findClass RX0 = some m.cls := hown
  have hl : lv_has ls 6 [(0, .ref b), (1, .int 0), (2, .int 0), (3, .long 0)] := hl
  refine lv_aload_n hx hb dX0_take_0 rfl (lv_at hl 0 rfl) ?_
  refine lv_iload_n hx hb dX0_take_1 rfl (lv_at hl 1 rfl) ?_
  refine va_put (D := D) (ci := 0) (v := .int 0) (ty := .int) (C := RX0) (T := TX0) (N := 10) hx hb hts inX0 tyX0 tyX0_ok nmX0 hown hK hP hD hS 0 rfl rfl 7 (by decide) (hts _ b_195) (fun _ h9 => h9) rfl (by decide +kernel) rfl rfl (Nat.le_of_ble_eq_true rfl) dX0_take_2 (fun H locs hP hD hS => ?_)
  have hP : va_P D k_cl [(b, .inr (0, [.ref g_xs, .ref g_ys, .ref g_potentials, .ref g_tails, .ref g_heads, .ref g_weights, .ref g_net, .int 0, .int 0, .long 0])), (g_net, .inr (3, [.ref n_lengths, .ref n_counts, .ref n_overs, .ref n_arcNumbers, .ref n_left, .int 0])), (n_counts, .inl (E 0, 576, .inl f)), (n_left, .inl (E 3, 24, .inl fl))] H := hP
  have hD : va_D A [(b, .inr (0, [.ref g_xs, .ref g_ys, .ref g_potentials, .ref g_tails, .ref g_heads, .ref g_weights, .ref g_net, .int 0, .int 0, .long 0])), (g_net, .inr (3, [.ref n_lengths, .ref n_counts, .ref n_overs, .ref n_arcNumbers, .ref n_left, .int 0])), (n_counts, .inl (E 0, 576, .inl f)), (n_left, .inl (E 3, 24, .inl fl))] := hD
  refine lv_aload_n hx hb dX0_take_5 rfl (lv_at hl 0 rfl) ?_
  refine lv_iload_n hx hb dX0_take_6 rfl (lv_at hl 2 rfl) ?_
  refine va_put (D := D) (ci := 0) (v := .int 0) (ty := .int) (C := RX0) (T := TX0) (N := 10) hx hb hts inX0 tyX0 tyX0_ok nmX0 hown hK hP hD hS 0 rfl rfl 8 (by decide) (hts _ b_198) (fun _ h9 => h9) rfl (by decide +kernel) rfl rfl (Nat.le_of_ble_eq_true rfl) dX0_take_7 (fun H locs hP hD hS => ?_)
  have hP : va_P D k_cl [(b, .inr (0, [.ref g_xs, .ref g_ys, .ref g_potentials, .ref g_tails, .ref g_heads, .ref g_weights, .ref g_net, .int 0, .int 0, .long 0])), (g_net, .inr (3, [.ref n_lengths, .ref n_counts, .ref n_overs, .ref n_arcNumbers, .ref n_left, .int 0])), (n_counts, .inl (E 0, 576, .inl f)), (n_left, .inl (E 3, 24, .inl fl))] H := hP
  have hD : va_D A [(b, .inr (0, [.ref g_xs, .ref g_ys, .ref g_potentials, .ref g_tails, .ref g_heads, .ref g_weights, .ref g_net, .int 0, .int 0, .long 0])), (g_net, .inr (3, [.ref n_lengths, .ref n_counts, .ref n_overs, .ref n_arcNumbers, .ref n_left, .int 0])), (n_counts, .inl (E 0, 576, .inl f)), (n_left, .inl (E 3, 24, .inl fl))] := hD
  refine lv_aload_n hx hb dX0_take_10 rfl (lv_at hl 0 rfl) ?_
  refine lv_lload_n hx hb dX0_take_11 rfl (lv_at hl 3 rfl) ?_
  refine va_put (D := D) (ci := 0) (v := .long 0) (ty := .long) (C := RX0) (T := TX0) (N := 10) hx hb hts inX0 tyX0 tyX0_ok nmX0 hown hK hP hD hS 0 rfl rfl 9 (by decide) (hts _ b_201) (fun _ h9 => h9) rfl (by decide +kernel) rfl rfl (Nat.le_of_ble_eq_true rfl) dX0_take_12 (fun H locs hP hD hS => ?_)
  have hP : va_P D k_cl [(b, .inr (0, [.ref g_xs, .ref g_ys, .ref g_potentials, .ref g_tails, .ref g_heads, .ref g_weights, .ref g_net, .int 0, .int 0, .long 0])), (g_net, .inr (3, [.ref n_lengths, .ref n_counts, .ref n_overs, .ref n_arcNumbers, .ref n_left, .int 0])), (n_counts, .inl (E 0, 576, .inl f)), (n_left, .inl (E 3, 24, .inl fl))] H := hP
  have hD : va_D A [(b, .inr (0, [.ref g_xs, .ref g_ys, .ref g_potentials, .ref g_tails, .ref g_heads, .ref g_weights, .ref g_net, .int 0, .int 0, .long 0])), (g_net, .inr (3, [.ref n_lengths, .ref n_counts, .ref n_overs, .ref n_arcNumbers, .ref n_left, .int 0])), (n_counts, .inl (E 0, 576, .inl f)), (n_left, .inl (E 3, 24, .inl fl))] := hD
  refine lv_aload_n hx hb dX0_take_15 rfl (lv_at hl 0 rfl) ?_
  refine va_get (D := D) (ci := 0) (v := .ref g_net) (C := RX0) (T := TX0) (N := 10) hx hb hts inX0 hown hK hP 0 rfl rfl 6 (by decide) (hts _ b_193) (fun _ h9 => h9) rfl dX0_take_16 ?_
  refine lv_aload_n hx hb dX0_take_19 rfl (lv_at hl 0 rfl) ?_
  refine va_get (D := D) (ci := 0) (v := .int 0) (C := RX0) (T := TX0) (N := 10) hx hb hts inX0 hown hK hP 0 rfl rfl 7 (by decide) (hts _ b_195) (fun _ h9 => h9) rfl dX0_take_20 ?_
  refine k_MV (As := [.int 0]) (rest := []) (ci := 3) (q0 := 1) (wr := [(b, .inr (0, [.ref g_xs, .ref g_ys, .ref g_potentials, .ref g_tails, .ref g_heads, .ref g_weights, .ref g_net, .int 0, .int 0, .long 0]))]) ⟨hx, hb, hml, hown, hts⟩ (c_empty l D E sa g_net n_lengths n_counts n_overs n_arcNumbers n_left 0 f fl) b_644 b_645 b_646 b_81 b_647 ⟨rfl, hd_X3_empty⟩ ⟨⟨by decide, by decide⟩, by decide, by decide⟩ hK hP hD hS hA hZ [1, 2, 3] [0] rfl rfl (by decide) rfl rfl rfl hl.1 (Nat.le_of_ble_eq_true rfl) dX0_take_23 (fun u_1 H locs hu hP hD hS _ => ?_)
  have hP : va_P D k_cl [(b, .inr (0, [.ref g_xs, .ref g_ys, .ref g_potentials, .ref g_tails, .ref g_heads, .ref g_weights, .ref g_net, .int 0, .int 0, .long 0]))] H := hP
  have hD : va_D A [(b, .inr (0, [.ref g_xs, .ref g_ys, .ref g_potentials, .ref g_tails, .ref g_heads, .ref g_weights, .ref g_net, .int 0, .int 0, .long 0]))] := hD
  refine W.eq (g2 := F0 m 26 ls []) rfl ?_
  refine lv_iconst (v := 0) hx hb dX0_take_26 (by decide) ?_
  refine lv_istore (lv' := [(5, .int 0), (0, .ref b), (1, .int 0), (2, .int 0), (3, .long 0)]) hx hb dX0_take_27 hl (by decide) rfl (fun ls hl => ?_)
  refine lv_iload hx hb dX0_take_29 (lv_at hl 0 rfl) ?_
  refine lv_aload_n hx hb dX0_take_31 rfl (lv_at hl 1 rfl) ?_
  refine va_get (D := D) (ci := 0) (v := .int 0) (C := RX0) (T := TX0) (N := 10) hx hb hts inX0 hown hK hP 0 rfl rfl 8 (by decide) (hts _ b_198) (fun _ h9 => h9) rfl dX0_take_32 ?_
  refine lv_icmp_ge (tgt := 91) hx hb dX0_take_35 (by decide) (fun _ => ?_) (fun h9 => absurd (by decide) h9)
  exact m_v () hx hb hr hlocks rfl trivial (hP.sub [] rfl) (hD.sub [] (by decide) rfl) hS (by decide) (by decide) dX0_take_91
set_option maxRecDepth 20000 in
set_option maxHeartbeats 2000000 in
theorem c_take_1 (l : Launch) (D : va_G) (E : Nat → ClassId) (sa : Nat → Nat) (b : Nat) (g_xs : Nat) (g_ys : Nat) (g_potentials : Nat) (g_tails : Nat) (g_heads : Nat) (g_weights : Nat) (g_net : Nat) (n_lengths : Nat) (n_counts : Nat) (n_overs : Nat) (n_arcNumbers : Nat) (n_left : Nat) (f : Nat → Int32) (fl : Nat → Int32) : KM l yX0_take (.code yX0_take cX0_take 6 none) 38 1244 0 0 D E sa [.ref b, .int 1, .int 0, .long 0] [(b, .inr (0, [.ref g_xs, .ref g_ys, .ref g_potentials, .ref g_tails, .ref g_heads, .ref g_weights, .ref g_net, .int 0, .int 0, .long 0])), (g_net, .inr (3, [.ref n_lengths, .ref n_counts, .ref n_overs, .ref n_arcNumbers, .ref n_left, .int 0])), (n_counts, .inl (E 0, 576, .inl f)), (n_left, .inl (E 3, 24, .inl fl))] (S := Unit) (fun _ => none) (fun _ => True) (fun _ => []) := by
  refine KM.of (by decide) (Nat.le_of_ble_eq_true rfl) ?_
  intro p e s m below meth c A ls hx hb hr hts hml hown hlocks hnm hK hP hD hA hS hZ hl
  have hown : s.vm.findClass RX0 = some m.cls := hown
  have hl : lv_has ls 6 [(0, .ref b), (1, .int 1), (2, .int 0), (3, .long 0)] := hl
  refine lv_aload_n hx hb dX0_take_0 rfl (lv_at hl 0 rfl) ?_
  refine lv_iload_n hx hb dX0_take_1 rfl (lv_at hl 1 rfl) ?_
  refine va_put (D := D) (ci := 0) (v := .int 1) (ty := .int) (C := RX0) (T := TX0) (N := 10) hx hb hts inX0 tyX0 tyX0_ok nmX0 hown hK hP hD hS 0 rfl rfl 7 (by decide) (hts _ b_195) (fun _ h9 => h9) rfl (by decide +kernel) rfl rfl (Nat.le_of_ble_eq_true rfl) dX0_take_2 (fun H locs hP hD hS => ?_)
  have hP : va_P D k_cl [(b, .inr (0, [.ref g_xs, .ref g_ys, .ref g_potentials, .ref g_tails, .ref g_heads, .ref g_weights, .ref g_net, .int 1, .int 0, .long 0])), (g_net, .inr (3, [.ref n_lengths, .ref n_counts, .ref n_overs, .ref n_arcNumbers, .ref n_left, .int 0])), (n_counts, .inl (E 0, 576, .inl f)), (n_left, .inl (E 3, 24, .inl fl))] H := hP
  have hD : va_D A [(b, .inr (0, [.ref g_xs, .ref g_ys, .ref g_potentials, .ref g_tails, .ref g_heads, .ref g_weights, .ref g_net, .int 1, .int 0, .long 0])), (g_net, .inr (3, [.ref n_lengths, .ref n_counts, .ref n_overs, .ref n_arcNumbers, .ref n_left, .int 0])), (n_counts, .inl (E 0, 576, .inl f)), (n_left, .inl (E 3, 24, .inl fl))] := hD
  refine lv_aload_n hx hb dX0_take_5 rfl (lv_at hl 0 rfl) ?_
  refine lv_iload_n hx hb dX0_take_6 rfl (lv_at hl 2 rfl) ?_
  refine va_put (D := D) (ci := 0) (v := .int 0) (ty := .int) (C := RX0) (T := TX0) (N := 10) hx hb hts inX0 tyX0 tyX0_ok nmX0 hown hK hP hD hS 0 rfl rfl 8 (by decide) (hts _ b_198) (fun _ h9 => h9) rfl (by decide +kernel) rfl rfl (Nat.le_of_ble_eq_true rfl) dX0_take_7 (fun H locs hP hD hS => ?_)
  have hP : va_P D k_cl [(b, .inr (0, [.ref g_xs, .ref g_ys, .ref g_potentials, .ref g_tails, .ref g_heads, .ref g_weights, .ref g_net, .int 1, .int 0, .long 0])), (g_net, .inr (3, [.ref n_lengths, .ref n_counts, .ref n_overs, .ref n_arcNumbers, .ref n_left, .int 0])), (n_counts, .inl (E 0, 576, .inl f)), (n_left, .inl (E 3, 24, .inl fl))] H := hP
  have hD : va_D A [(b, .inr (0, [.ref g_xs, .ref g_ys, .ref g_potentials, .ref g_tails, .ref g_heads, .ref g_weights, .ref g_net, .int 1, .int 0, .long 0])), (g_net, .inr (3, [.ref n_lengths, .ref n_counts, .ref n_overs, .ref n_arcNumbers, .ref n_left, .int 0])), (n_counts, .inl (E 0, 576, .inl f)), (n_left, .inl (E 3, 24, .inl fl))] := hD
  refine lv_aload_n hx hb dX0_take_10 rfl (lv_at hl 0 rfl) ?_
  refine lv_lload_n hx hb dX0_take_11 rfl (lv_at hl 3 rfl) ?_
  refine va_put (D := D) (ci := 0) (v := .long 0) (ty := .long) (C := RX0) (T := TX0) (N := 10) hx hb hts inX0 tyX0 tyX0_ok nmX0 hown hK hP hD hS 0 rfl rfl 9 (by decide) (hts _ b_201) (fun _ h9 => h9) rfl (by decide +kernel) rfl rfl (Nat.le_of_ble_eq_true rfl) dX0_take_12 (fun H locs hP hD hS => ?_)
  have hP : va_P D k_cl [(b, .inr (0, [.ref g_xs, .ref g_ys, .ref g_potentials, .ref g_tails, .ref g_heads, .ref g_weights, .ref g_net, .int 1, .int 0, .long 0])), (g_net, .inr (3, [.ref n_lengths, .ref n_counts, .ref n_overs, .ref n_arcNumbers, .ref n_left, .int 0])), (n_counts, .inl (E 0, 576, .inl f)), (n_left, .inl (E 3, 24, .inl fl))] H := hP
  have hD : va_D A [(b, .inr (0, [.ref g_xs, .ref g_ys, .ref g_potentials, .ref g_tails, .ref g_heads, .ref g_weights, .ref g_net, .int 1, .int 0, .long 0])), (g_net, .inr (3, [.ref n_lengths, .ref n_counts, .ref n_overs, .ref n_arcNumbers, .ref n_left, .int 0])), (n_counts, .inl (E 0, 576, .inl f)), (n_left, .inl (E 3, 24, .inl fl))] := hD
  refine lv_aload_n hx hb dX0_take_15 rfl (lv_at hl 0 rfl) ?_
  refine va_get (D := D) (ci := 0) (v := .ref g_net) (C := RX0) (T := TX0) (N := 10) hx hb hts inX0 hown hK hP 0 rfl rfl 6 (by decide) (hts _ b_193) (fun _ h9 => h9) rfl dX0_take_16 ?_
  refine lv_aload_n hx hb dX0_take_19 rfl (lv_at hl 0 rfl) ?_
  refine va_get (D := D) (ci := 0) (v := .int 1) (C := RX0) (T := TX0) (N := 10) hx hb hts inX0 hown hK hP 0 rfl rfl 7 (by decide) (hts _ b_195) (fun _ h9 => h9) rfl dX0_take_20 ?_
  refine k_MV (As := [.int 1]) (rest := []) (ci := 3) (q0 := 1) (wr := [(b, .inr (0, [.ref g_xs, .ref g_ys, .ref g_potentials, .ref g_tails, .ref g_heads, .ref g_weights, .ref g_net, .int 1, .int 0, .long 0]))]) ⟨hx, hb, hml, hown, hts⟩ (c_empty l D E sa g_net n_lengths n_counts n_overs n_arcNumbers n_left 1 f fl) b_644 b_645 b_646 b_81 b_647 ⟨rfl, hd_X3_empty⟩ ⟨⟨by decide, by decide⟩, by decide, by decide⟩ hK hP hD hS hA hZ [1, 2, 3] [0] rfl rfl (by decide) rfl rfl rfl hl.1 (Nat.le_of_ble_eq_true rfl) dX0_take_23 (fun u_1 H locs hu hP hD hS _ => ?_)
  have hP : va_P D k_cl [(b, .inr (0, [.ref g_xs, .ref g_ys, .ref g_potentials, .ref g_tails, .ref g_heads, .ref g_weights, .ref g_net, .int 1, .int 0, .long 0]))] H := hP
  have hD : va_D A [(b, .inr (0, [.ref g_xs, .ref g_ys, .ref g_potentials, .ref g_tails, .ref g_heads, .ref g_weights, .ref g_net, .int 1, .int 0, .long 0]))] := hD
  refine W.eq (g2 := F0 m 26 ls []) rfl ?_
  refine lv_iconst (v := 0) hx hb dX0_take_26 (by decide) ?_
  refine lv_istore (lv' := [(5, .int 0), (0, .ref b), (1, .int 1), (2, .int 0), (3, .long 0)]) hx hb dX0_take_27 hl (by decide) rfl (fun ls hl => ?_)
  refine lv_iload hx hb dX0_take_29 (lv_at hl 0 rfl) ?_
  refine lv_aload_n hx hb dX0_take_31 rfl (lv_at hl 1 rfl) ?_
  refine va_get (D := D) (ci := 0) (v := .int 0) (C := RX0) (T := TX0) (N := 10) hx hb hts inX0 hown hK hP 0 rfl rfl 8 (by decide) (hts _ b_198) (fun _ h9 => h9) rfl dX0_take_32 ?_
  refine lv_icmp_ge (tgt := 91) hx hb dX0_take_35 (by decide) (fun _ => ?_) (fun h9 => absurd (by decide) h9)
  exact m_v () hx hb hr hlocks rfl trivial (hP.sub [] rfl) (hD.sub [] (by decide) rfl) hS (by decide) (by decide) dX0_take_91
set_option maxRecDepth 20000 in
set_option maxHeartbeats 2000000 in
theorem c_forget (l : Launch) (D : va_G) (E : Nat → ClassId) (sa : Nat → Nat) (b : Nat) (o_relaxedFrom : Nat) (o_relaxedTo : Nat) (o_walk : Nat) (o_upLengths : Nat) (o_upCounts : Nat) (o_downLengths : Nat) (o_downCounts : Nat) (o_chain : Nat) : KM l yX5_forget (.code yX5_forget cX5_forget 1 none) 12 400 0 0 D E sa [.ref b] [(b, .inr (5, [.ref o_relaxedFrom, .ref o_relaxedTo, .ref o_walk, .int 0, .int 0, .int 0, .int 0, .int 0, .int 0, .int 0, .int (-1), .long 0, .ref o_upLengths, .ref o_upCounts, .ref o_downLengths, .ref o_downCounts, .ref o_chain]))] (S := Unit) (fun _ => none) (fun _ => True) (fun _ => [(b, .inr (5, [.ref o_relaxedFrom, .ref o_relaxedTo, .ref o_walk, .int 0, .int 0, .int 0, .int 0, .int 0, .int 0, .int 0, .int (-1), .long 0, .ref o_upLengths, .ref o_upCounts, .ref o_downLengths, .ref o_downCounts, .ref o_chain]))]) := by
  refine KM.of (by decide) (Nat.le_of_ble_eq_true rfl) ?_
  intro p e s m below meth c A ls hx hb hr hts hml hown hlocks hnm hK hP hD hA hS hZ hl
  have hown : s.vm.findClass RX5 = some m.cls := hown
  have hl : lv_has ls 1 [(0, .ref b)] := hl
  refine lv_aload_n hx hb dX5_forget_0 rfl (lv_at hl 0 rfl) ?_
  refine lv_iconst (v := 0) hx hb dX5_forget_1 (by decide) ?_
  refine va_put (D := D) (ci := 5) (v := .int 0) (ty := .boolean) (C := RX5) (T := TX5) (N := 17) hx hb hts inX5 tyX5 tyX5_ok nmX5 hown hK hP hD hS 0 rfl rfl 3 (by decide) (hts _ b_423) (fun _ h9 => h9) rfl (by decide +kernel) rfl rfl (Nat.le_of_ble_eq_true rfl) dX5_forget_2 (fun H locs hP hD hS => ?_)
  have hP : va_P D k_cl [(b, .inr (5, [.ref o_relaxedFrom, .ref o_relaxedTo, .ref o_walk, .int 0, .int 0, .int 0, .int 0, .int 0, .int 0, .int 0, .int (-1), .long 0, .ref o_upLengths, .ref o_upCounts, .ref o_downLengths, .ref o_downCounts, .ref o_chain]))] H := hP
  have hD : va_D A [(b, .inr (5, [.ref o_relaxedFrom, .ref o_relaxedTo, .ref o_walk, .int 0, .int 0, .int 0, .int 0, .int 0, .int 0, .int 0, .int (-1), .long 0, .ref o_upLengths, .ref o_upCounts, .ref o_downLengths, .ref o_downCounts, .ref o_chain]))] := hD
  exact m_v () hx hb hr hlocks rfl trivial (hP.sub [0] rfl) (hD.sub [0] (by decide) rfl) hS (by decide) (by decide) dX5_forget_5
set_option maxRecDepth 20000 in
set_option maxHeartbeats 2000000 in
theorem c_forgetAnswers (l : Launch) (D : va_G) (E : Nat → ClassId) (sa : Nat → Nat) (a : Nat) (p_tape : Nat) (p_graph : Nat) (p_reader : Nat) (p_ahead : Nat) (p_back : Nat) (p_trail : Nat) (p_landmarks : Nat) (p_hierarchy : Nat) (p_route : Nat) (p_scratch : Nat) (p_toldRow : Nat) (h_net : Nat) (h_ranks : Nat) (h_row : Nat) (h_witnesses : Nat) (h_contractedBeside : Nat) (h_wantedFrom : Nat) (h_wantedTo : Nat) (r_nodes : Nat) (r_lengths : Nat) (r_counts : Nat) (r_seen : Nat) (o_relaxedFrom : Nat) (o_relaxedTo : Nat) (o_walk : Nat) (o_upLengths : Nat) (o_upCounts : Nat) (o_downLengths : Nat) (o_downCounts : Nat) (o_chain : Nat) : KM l yX9_forgetAnswers (.code yX9_forgetAnswers cX9_forgetAnswers 1 none) 25 820 0 0 D E sa [.ref a] [(a, .inr (9, [.ref p_tape, .ref p_graph, .ref p_reader, .ref p_ahead, .ref p_back, .ref p_trail, .ref p_landmarks, .ref p_hierarchy, .ref p_route, .ref p_scratch, .ref p_toldRow, .int 0, .int 0])), (p_hierarchy, .inr (1, [.ref h_net, .ref h_ranks, .ref h_row, .int 0, .int 0, .int 0, .int 4, .int 2, .int 1, .ref h_witnesses, .ref h_contractedBeside, .ref h_wantedFrom, .ref h_wantedTo, .int 0])), (p_trail, .inr (7, [.ref r_nodes, .ref r_lengths, .ref r_counts, .int 0, .ref r_seen])), (p_route, .inr (5, [.ref o_relaxedFrom, .ref o_relaxedTo, .ref o_walk, .int 0, .int 0, .int 0, .int 0, .int 0, .int 0, .int 0, .int (-1), .long 0, .ref o_upLengths, .ref o_upCounts, .ref o_downLengths, .ref o_downCounts, .ref o_chain]))] (S := Unit) (fun _ => none) (fun _ => True) (fun _ => [(a, .inr (9, [.ref p_tape, .ref p_graph, .ref p_reader, .ref p_ahead, .ref p_back, .ref p_trail, .ref p_landmarks, .ref p_hierarchy, .ref p_route, .ref p_scratch, .ref p_toldRow, .int 0, .int 0]))]) := by
  refine KM.of (by decide) (Nat.le_of_ble_eq_true rfl) ?_
  intro p e s m below meth c A ls hx hb hr hts hml hown hlocks hnm hK hP hD hA hS hZ hl
  have hown : s.vm.findClass RX9 = some m.cls := hown
  have hl : lv_has ls 1 [(0, .ref a)] := hl
  refine lv_aload_n hx hb dX9_forgetAnswers_0 rfl (lv_at hl 0 rfl) ?_
  refine va_get (D := D) (ci := 9) (v := .ref p_hierarchy) (C := RX9) (T := TX9) (N := 13) hx hb hts inX9 hown hK hP 0 rfl rfl 7 (by decide) (hts _ b_488) (fun _ h9 => h9) rfl dX9_forgetAnswers_1 ?_
  refine lv_iconst (v := 0) hx hb dX9_forgetAnswers_4 (by decide) ?_
  refine va_put (D := D) (ci := 1) (v := .int 0) (ty := .boolean) (C := RX1) (T := TX1) (N := 14) hx hb hts inX1 tyX1 tyX1_ok nmX1 hown hK hP hD hS 1 rfl rfl 3 (by decide) (hts _ b_365) (fun _ h9 => h9) rfl (by decide +kernel) rfl rfl (Nat.le_of_ble_eq_true rfl) dX9_forgetAnswers_5 (fun H locs hP hD hS => ?_)
  have hP : va_P D k_cl [(a, .inr (9, [.ref p_tape, .ref p_graph, .ref p_reader, .ref p_ahead, .ref p_back, .ref p_trail, .ref p_landmarks, .ref p_hierarchy, .ref p_route, .ref p_scratch, .ref p_toldRow, .int 0, .int 0])), (p_hierarchy, .inr (1, [.ref h_net, .ref h_ranks, .ref h_row, .int 0, .int 0, .int 0, .int 4, .int 2, .int 1, .ref h_witnesses, .ref h_contractedBeside, .ref h_wantedFrom, .ref h_wantedTo, .int 0])), (p_trail, .inr (7, [.ref r_nodes, .ref r_lengths, .ref r_counts, .int 0, .ref r_seen])), (p_route, .inr (5, [.ref o_relaxedFrom, .ref o_relaxedTo, .ref o_walk, .int 0, .int 0, .int 0, .int 0, .int 0, .int 0, .int 0, .int (-1), .long 0, .ref o_upLengths, .ref o_upCounts, .ref o_downLengths, .ref o_downCounts, .ref o_chain]))] H := hP
  have hD : va_D A [(a, .inr (9, [.ref p_tape, .ref p_graph, .ref p_reader, .ref p_ahead, .ref p_back, .ref p_trail, .ref p_landmarks, .ref p_hierarchy, .ref p_route, .ref p_scratch, .ref p_toldRow, .int 0, .int 0])), (p_hierarchy, .inr (1, [.ref h_net, .ref h_ranks, .ref h_row, .int 0, .int 0, .int 0, .int 4, .int 2, .int 1, .ref h_witnesses, .ref h_contractedBeside, .ref h_wantedFrom, .ref h_wantedTo, .int 0])), (p_trail, .inr (7, [.ref r_nodes, .ref r_lengths, .ref r_counts, .int 0, .ref r_seen])), (p_route, .inr (5, [.ref o_relaxedFrom, .ref o_relaxedTo, .ref o_walk, .int 0, .int 0, .int 0, .int 0, .int 0, .int 0, .int 0, .int (-1), .long 0, .ref o_upLengths, .ref o_upCounts, .ref o_downLengths, .ref o_downCounts, .ref o_chain]))] := hD
  refine lv_aload_n hx hb dX9_forgetAnswers_8 rfl (lv_at hl 0 rfl) ?_
  refine va_get (D := D) (ci := 9) (v := .ref p_trail) (C := RX9) (T := TX9) (N := 13) hx hb hts inX9 hown hK hP 0 rfl rfl 5 (by decide) (hts _ b_486) (fun _ h9 => h9) rfl dX9_forgetAnswers_9 ?_
  refine lv_iconst (v := 0) hx hb dX9_forgetAnswers_12 (by decide) ?_
  refine va_put (D := D) (ci := 7) (v := .int 0) (ty := .int) (C := RX7) (T := TX7) (N := 5) hx hb hts inX7 tyX7 tyX7_ok nmX7 hown hK hP hD hS 2 rfl rfl 3 (by decide) (hts _ b_306) (fun _ h9 => h9) rfl (by decide +kernel) rfl rfl (Nat.le_of_ble_eq_true rfl) dX9_forgetAnswers_13 (fun H locs hP hD hS => ?_)
  have hP : va_P D k_cl [(a, .inr (9, [.ref p_tape, .ref p_graph, .ref p_reader, .ref p_ahead, .ref p_back, .ref p_trail, .ref p_landmarks, .ref p_hierarchy, .ref p_route, .ref p_scratch, .ref p_toldRow, .int 0, .int 0])), (p_hierarchy, .inr (1, [.ref h_net, .ref h_ranks, .ref h_row, .int 0, .int 0, .int 0, .int 4, .int 2, .int 1, .ref h_witnesses, .ref h_contractedBeside, .ref h_wantedFrom, .ref h_wantedTo, .int 0])), (p_trail, .inr (7, [.ref r_nodes, .ref r_lengths, .ref r_counts, .int 0, .ref r_seen])), (p_route, .inr (5, [.ref o_relaxedFrom, .ref o_relaxedTo, .ref o_walk, .int 0, .int 0, .int 0, .int 0, .int 0, .int 0, .int 0, .int (-1), .long 0, .ref o_upLengths, .ref o_upCounts, .ref o_downLengths, .ref o_downCounts, .ref o_chain]))] H := hP
  have hD : va_D A [(a, .inr (9, [.ref p_tape, .ref p_graph, .ref p_reader, .ref p_ahead, .ref p_back, .ref p_trail, .ref p_landmarks, .ref p_hierarchy, .ref p_route, .ref p_scratch, .ref p_toldRow, .int 0, .int 0])), (p_hierarchy, .inr (1, [.ref h_net, .ref h_ranks, .ref h_row, .int 0, .int 0, .int 0, .int 4, .int 2, .int 1, .ref h_witnesses, .ref h_contractedBeside, .ref h_wantedFrom, .ref h_wantedTo, .int 0])), (p_trail, .inr (7, [.ref r_nodes, .ref r_lengths, .ref r_counts, .int 0, .ref r_seen])), (p_route, .inr (5, [.ref o_relaxedFrom, .ref o_relaxedTo, .ref o_walk, .int 0, .int 0, .int 0, .int 0, .int 0, .int 0, .int 0, .int (-1), .long 0, .ref o_upLengths, .ref o_upCounts, .ref o_downLengths, .ref o_downCounts, .ref o_chain]))] := hD
  refine lv_aload_n hx hb dX9_forgetAnswers_16 rfl (lv_at hl 0 rfl) ?_
  refine va_get (D := D) (ci := 9) (v := .ref p_route) (C := RX9) (T := TX9) (N := 13) hx hb hts inX9 hown hK hP 0 rfl rfl 8 (by decide) (hts _ b_489) (fun _ h9 => h9) rfl dX9_forgetAnswers_17 ?_
  refine k_MV (As := []) (rest := []) (ci := 5) (q0 := 3) (wr := [(a, .inr (9, [.ref p_tape, .ref p_graph, .ref p_reader, .ref p_ahead, .ref p_back, .ref p_trail, .ref p_landmarks, .ref p_hierarchy, .ref p_route, .ref p_scratch, .ref p_toldRow, .int 0, .int 0])), (p_hierarchy, .inr (1, [.ref h_net, .ref h_ranks, .ref h_row, .int 0, .int 0, .int 0, .int 4, .int 2, .int 1, .ref h_witnesses, .ref h_contractedBeside, .ref h_wantedFrom, .ref h_wantedTo, .int 0])), (p_trail, .inr (7, [.ref r_nodes, .ref r_lengths, .ref r_counts, .int 0, .ref r_seen]))]) ⟨hx, hb, hml, hown, hts⟩ (c_forget l D E sa p_route o_relaxedFrom o_relaxedTo o_walk o_upLengths o_upCounts o_downLengths o_downCounts o_chain) b_666 b_667 b_668 b_87 b_669 ⟨rfl, hd_X5_forget⟩ ⟨⟨by decide, by decide⟩, by decide, by decide⟩ hK hP hD hS hA hZ [3] [0, 1, 2] rfl rfl (by decide) rfl rfl rfl hl.1 (Nat.le_of_ble_eq_true rfl) dX9_forgetAnswers_20 (fun u_1 H locs hu hP hD hS _ => ?_)
  have hP : va_P D k_cl [(a, .inr (9, [.ref p_tape, .ref p_graph, .ref p_reader, .ref p_ahead, .ref p_back, .ref p_trail, .ref p_landmarks, .ref p_hierarchy, .ref p_route, .ref p_scratch, .ref p_toldRow, .int 0, .int 0])), (p_hierarchy, .inr (1, [.ref h_net, .ref h_ranks, .ref h_row, .int 0, .int 0, .int 0, .int 4, .int 2, .int 1, .ref h_witnesses, .ref h_contractedBeside, .ref h_wantedFrom, .ref h_wantedTo, .int 0])), (p_trail, .inr (7, [.ref r_nodes, .ref r_lengths, .ref r_counts, .int 0, .ref r_seen])), (p_route, .inr (5, [.ref o_relaxedFrom, .ref o_relaxedTo, .ref o_walk, .int 0, .int 0, .int 0, .int 0, .int 0, .int 0, .int 0, .int (-1), .long 0, .ref o_upLengths, .ref o_upCounts, .ref o_downLengths, .ref o_downCounts, .ref o_chain]))] H := hP
  have hD : va_D A [(a, .inr (9, [.ref p_tape, .ref p_graph, .ref p_reader, .ref p_ahead, .ref p_back, .ref p_trail, .ref p_landmarks, .ref p_hierarchy, .ref p_route, .ref p_scratch, .ref p_toldRow, .int 0, .int 0])), (p_hierarchy, .inr (1, [.ref h_net, .ref h_ranks, .ref h_row, .int 0, .int 0, .int 0, .int 4, .int 2, .int 1, .ref h_witnesses, .ref h_contractedBeside, .ref h_wantedFrom, .ref h_wantedTo, .int 0])), (p_trail, .inr (7, [.ref r_nodes, .ref r_lengths, .ref r_counts, .int 0, .ref r_seen])), (p_route, .inr (5, [.ref o_relaxedFrom, .ref o_relaxedTo, .ref o_walk, .int 0, .int 0, .int 0, .int 0, .int 0, .int 0, .int 0, .int (-1), .long 0, .ref o_upLengths, .ref o_upCounts, .ref o_downLengths, .ref o_downCounts, .ref o_chain]))] := hD
  refine W.eq (g2 := F0 m 23 ls []) rfl ?_
  exact m_v () hx hb hr hlocks rfl trivial (hP.sub [0] rfl) (hD.sub [0] (by decide) rfl) hS (by decide) (by decide) dX9_forgetAnswers_23
set_option maxRecDepth 20000 in
set_option maxHeartbeats 2000000 in
theorem c_node (l : Launch) (D : va_G) (E : Nat → ClassId) (sa : Nat → Nat) (a : Nat) (p_tape : Nat) (p_graph : Nat) (p_reader : Nat) (p_ahead : Nat) (p_back : Nat) (p_trail : Nat) (p_landmarks : Nat) (p_hierarchy : Nat) (p_route : Nat) (p_scratch : Nat) (p_toldRow : Nat) (g_xs : Nat) (g_ys : Nat) (g_potentials : Nat) (g_tails : Nat) (g_heads : Nat) (g_weights : Nat) (g_net : Nat) (n_lengths : Nat) (n_counts : Nat) (n_overs : Nat) (n_arcNumbers : Nat) (n_left : Nat) (h_net : Nat) (h_ranks : Nat) (h_row : Nat) (h_witnesses : Nat) (h_contractedBeside : Nat) (h_wantedFrom : Nat) (h_wantedTo : Nat) (r_nodes : Nat) (r_lengths : Nat) (r_counts : Nat) (r_seen : Nat) (o_relaxedFrom : Nat) (o_relaxedTo : Nat) (o_walk : Nat) (o_upLengths : Nat) (o_upCounts : Nat) (o_downLengths : Nat) (o_downCounts : Nat) (o_chain : Nat) (v : Int32) (w : Int32) (hv : ((-1000000 : Int32) ≤ v ∧ v ≤ 1000000)) (hw : ((-1000000 : Int32) ≤ w ∧ w ≤ 1000000)) : KM l yX9_node (.code yX9_node cX9_node 4 (some .int)) 51 1669 0 0 D E sa [.ref a, .int v, .int w] [(a, .inr (9, [.ref p_tape, .ref p_graph, .ref p_reader, .ref p_ahead, .ref p_back, .ref p_trail, .ref p_landmarks, .ref p_hierarchy, .ref p_route, .ref p_scratch, .ref p_toldRow, .int 0, .int 0])), (p_graph, .inr (0, [.ref g_xs, .ref g_ys, .ref g_potentials, .ref g_tails, .ref g_heads, .ref g_weights, .ref g_net, .int 0, .int 0, .long 0])), (g_xs, .inl (E 0, 24, .inl (fun _ => 0))), (g_ys, .inl (E 0, 24, .inl (fun _ => 0))), (g_potentials, .inl (E 1, 24, .inr (.inl (fun _ => 0)))), (g_net, .inr (3, [.ref n_lengths, .ref n_counts, .ref n_overs, .ref n_arcNumbers, .ref n_left, .int 0])), (n_counts, .inl (E 0, 576, .inl (fun _ => 0))), (n_left, .inl (E 3, 24, .inl (fun _ => 0))), (p_hierarchy, .inr (1, [.ref h_net, .ref h_ranks, .ref h_row, .int 0, .int 0, .int 0, .int 4, .int 2, .int 1, .ref h_witnesses, .ref h_contractedBeside, .ref h_wantedFrom, .ref h_wantedTo, .int 0])), (p_trail, .inr (7, [.ref r_nodes, .ref r_lengths, .ref r_counts, .int 0, .ref r_seen])), (p_route, .inr (5, [.ref o_relaxedFrom, .ref o_relaxedTo, .ref o_walk, .int 0, .int 0, .int 0, .int 0, .int 0, .int 0, .int 0, .int (-1), .long 0, .ref o_upLengths, .ref o_upCounts, .ref o_downLengths, .ref o_downCounts, .ref o_chain]))] (S := Unit) (fun _ => some (.int 0)) (fun _ => True) (fun _ => []) := by
  refine KM.of (by decide) (Nat.le_of_ble_eq_true rfl) ?_
  intro p e s m below meth c A ls hx hb hr hts hml hown hlocks hnm hK hP hD hA hS hZ hl
  have hown : s.vm.findClass RX9 = some m.cls := hown
  have hl : lv_has ls 4 [(0, .ref a), (1, .int v), (2, .int w)] := hl
  refine lv_iload_n hx hb dX9_node_0 rfl (lv_at hl 1 rfl) ?_
  refine lv_ldc hx hb hown (hts _ b_963) dX9_node_1 ?_
  refine k_RS (As := [.int v, .int 1000000]) (rest := [])  ⟨hx, hb, hml, hown, hts⟩ (c_isWithin_1 l D E v (hv)) b_964 b_965 b_78 b_966 hd_X9_isWithin ⟨⟨by decide, by decide⟩, by decide, by decide⟩ hK hP [] rfl rfl hl.1 (Nat.le_of_ble_eq_true rfl) dX9_node_3 ?_
  refine lv_if_eq (tgt := 18) hx hb dX9_node_6 (by decide) (fun h9 => absurd h9 (by decide)) (fun _ => ?_)
  refine lv_iload_n hx hb dX9_node_9 rfl (lv_at hl 2 rfl) ?_
  refine lv_ldc hx hb hown (hts _ b_963) dX9_node_10 ?_
  refine k_RS (As := [.int w, .int 1000000]) (rest := [])  ⟨hx, hb, hml, hown, hts⟩ (c_isWithin_1 l D E w (hw)) b_964 b_965 b_78 b_966 hd_X9_isWithin ⟨⟨by decide, by decide⟩, by decide, by decide⟩ hK hP [] rfl rfl hl.1 (Nat.le_of_ble_eq_true rfl) dX9_node_12 ?_
  refine lv_if_ne (tgt := 28) hx hb dX9_node_15 (by decide) (fun _ => ?_) (fun h9 => absurd h9 (by decide))
  refine lv_aload_n hx hb dX9_node_28 rfl (lv_at hl 0 rfl) ?_
  refine va_get (D := D) (ci := 9) (v := .ref p_graph) (C := RX9) (T := TX9) (N := 13) hx hb hts inX9 hown hK hP 0 rfl rfl 1 (by decide) (hts _ b_482) (fun _ h9 => h9) rfl dX9_node_29 ?_
  refine va_get (D := D) (ci := 0) (v := .int 0) (C := RX0) (T := TX0) (N := 10) hx hb hts inX0 hown hK hP 1 rfl rfl 7 (by decide) (hts _ b_197) (fun _ h9 => h9) rfl dX9_node_32 ?_
  refine lv_bipush (v := 24) hx hb dX9_node_35 (by decide) ?_
  refine lv_icmp_lt (tgt := 50) hx hb dX9_node_37 (by decide) (fun _ => ?_) (fun h9 => absurd (by decide) h9)
  refine lv_aload_n hx hb dX9_node_50 rfl (lv_at hl 0 rfl) ?_
  refine va_get (D := D) (ci := 9) (v := .ref p_graph) (C := RX9) (T := TX9) (N := 13) hx hb hts inX9 hown hK hP 0 rfl rfl 1 (by decide) (hts _ b_482) (fun _ h9 => h9) rfl dX9_node_51 ?_
  refine va_get (D := D) (ci := 0) (v := .int 0) (C := RX0) (T := TX0) (N := 10) hx hb hts inX0 hown hK hP 1 rfl rfl 7 (by decide) (hts _ b_197) (fun _ h9 => h9) rfl dX9_node_54 ?_
  refine lv_istore_n (lv' := [(3, .int 0), (0, .ref a), (1, .int v), (2, .int w)]) hx hb dX9_node_57 rfl hl (by decide) rfl (fun ls hl => ?_)
  refine lv_aload_n hx hb dX9_node_58 rfl (lv_at hl 1 rfl) ?_
  refine va_get (D := D) (ci := 9) (v := .ref p_graph) (C := RX9) (T := TX9) (N := 13) hx hb hts inX9 hown hK hP 0 rfl rfl 1 (by decide) (hts _ b_482) (fun _ h9 => h9) rfl dX9_node_59 ?_
  refine lv_iload_n hx hb dX9_node_62 rfl (lv_at hl 0 rfl) ?_
  refine lv_iload_n hx hb dX9_node_63 rfl (lv_at hl 2 rfl) ?_
  refine lv_iload_n hx hb dX9_node_64 rfl (lv_at hl 3 rfl) ?_
  refine k_MV (As := [.int 0, .int v, .int w]) (rest := []) (ci := 0) (q0 := 1) (wr := [(a, .inr (9, [.ref p_tape, .ref p_graph, .ref p_reader, .ref p_ahead, .ref p_back, .ref p_trail, .ref p_landmarks, .ref p_hierarchy, .ref p_route, .ref p_scratch, .ref p_toldRow, .int 0, .int 0])), (g_net, .inr (3, [.ref n_lengths, .ref n_counts, .ref n_overs, .ref n_arcNumbers, .ref n_left, .int 0])), (n_counts, .inl (E 0, 576, .inl (fun _ => 0))), (n_left, .inl (E 3, 24, .inl (fun _ => 0))), (p_hierarchy, .inr (1, [.ref h_net, .ref h_ranks, .ref h_row, .int 0, .int 0, .int 0, .int 4, .int 2, .int 1, .ref h_witnesses, .ref h_contractedBeside, .ref h_wantedFrom, .ref h_wantedTo, .int 0])), (p_trail, .inr (7, [.ref r_nodes, .ref r_lengths, .ref r_counts, .int 0, .ref r_seen])), (p_route, .inr (5, [.ref o_relaxedFrom, .ref o_relaxedTo, .ref o_walk, .int 0, .int 0, .int 0, .int 0, .int 0, .int 0, .int 0, .int (-1), .long 0, .ref o_upLengths, .ref o_upCounts, .ref o_downLengths, .ref o_downCounts, .ref o_chain]))]) ⟨hx, hb, hml, hown, hts⟩ (c_putNode l D E sa p_graph g_xs g_ys g_potentials g_tails g_heads g_weights g_net v w ((fun _ => 0)) ((fun _ => 0)) ((fun _ => 0))) b_969 b_616 b_617 b_80 b_618 ⟨rfl, hd_X0_putNode⟩ ⟨⟨by decide, by decide⟩, by decide, by decide⟩ hK hP hD hS hA hZ [1, 2, 3, 4] [0, 5, 6, 7, 8, 9, 10] rfl rfl (by decide) rfl rfl rfl hl.1 (Nat.le_of_ble_eq_true rfl) dX9_node_65 (fun u_1 H locs hu hP hD hS _ => ?_)
  have hP : va_P D k_cl [(a, .inr (9, [.ref p_tape, .ref p_graph, .ref p_reader, .ref p_ahead, .ref p_back, .ref p_trail, .ref p_landmarks, .ref p_hierarchy, .ref p_route, .ref p_scratch, .ref p_toldRow, .int 0, .int 0])), (g_net, .inr (3, [.ref n_lengths, .ref n_counts, .ref n_overs, .ref n_arcNumbers, .ref n_left, .int 0])), (n_counts, .inl (E 0, 576, .inl (fun _ => 0))), (n_left, .inl (E 3, 24, .inl (fun _ => 0))), (p_hierarchy, .inr (1, [.ref h_net, .ref h_ranks, .ref h_row, .int 0, .int 0, .int 0, .int 4, .int 2, .int 1, .ref h_witnesses, .ref h_contractedBeside, .ref h_wantedFrom, .ref h_wantedTo, .int 0])), (p_trail, .inr (7, [.ref r_nodes, .ref r_lengths, .ref r_counts, .int 0, .ref r_seen])), (p_route, .inr (5, [.ref o_relaxedFrom, .ref o_relaxedTo, .ref o_walk, .int 0, .int 0, .int 0, .int 0, .int 0, .int 0, .int 0, .int (-1), .long 0, .ref o_upLengths, .ref o_upCounts, .ref o_downLengths, .ref o_downCounts, .ref o_chain])), (p_graph, .inr (0, [.ref g_xs, .ref g_ys, .ref g_potentials, .ref g_tails, .ref g_heads, .ref g_weights, .ref g_net, .int 0, .int 0, .long 0]))] H := hP
  have hD : va_D A [(a, .inr (9, [.ref p_tape, .ref p_graph, .ref p_reader, .ref p_ahead, .ref p_back, .ref p_trail, .ref p_landmarks, .ref p_hierarchy, .ref p_route, .ref p_scratch, .ref p_toldRow, .int 0, .int 0])), (g_net, .inr (3, [.ref n_lengths, .ref n_counts, .ref n_overs, .ref n_arcNumbers, .ref n_left, .int 0])), (n_counts, .inl (E 0, 576, .inl (fun _ => 0))), (n_left, .inl (E 3, 24, .inl (fun _ => 0))), (p_hierarchy, .inr (1, [.ref h_net, .ref h_ranks, .ref h_row, .int 0, .int 0, .int 0, .int 4, .int 2, .int 1, .ref h_witnesses, .ref h_contractedBeside, .ref h_wantedFrom, .ref h_wantedTo, .int 0])), (p_trail, .inr (7, [.ref r_nodes, .ref r_lengths, .ref r_counts, .int 0, .ref r_seen])), (p_route, .inr (5, [.ref o_relaxedFrom, .ref o_relaxedTo, .ref o_walk, .int 0, .int 0, .int 0, .int 0, .int 0, .int 0, .int 0, .int (-1), .long 0, .ref o_upLengths, .ref o_upCounts, .ref o_downLengths, .ref o_downCounts, .ref o_chain])), (p_graph, .inr (0, [.ref g_xs, .ref g_ys, .ref g_potentials, .ref g_tails, .ref g_heads, .ref g_weights, .ref g_net, .int 0, .int 0, .long 0]))] := hD
  refine W.eq (g2 := F0 m 68 ls []) rfl ?_
  refine lv_aload_n hx hb dX9_node_68 rfl (lv_at hl 1 rfl) ?_
  refine va_get (D := D) (ci := 9) (v := .ref p_graph) (C := RX9) (T := TX9) (N := 13) hx hb hts inX9 hown hK hP 0 rfl rfl 1 (by decide) (hts _ b_482) (fun _ h9 => h9) rfl dX9_node_69 ?_
  refine lv_iload_n hx hb dX9_node_72 rfl (lv_at hl 0 rfl) ?_
  refine lv_iconst (v := 1) hx hb dX9_node_73 (by decide) ?_
  refine lv_iadd hx hb dX9_node_74 ?_
  refine k_ti (y := 1) (by decide) ?_
  refine lv_aload_n hx hb dX9_node_75 rfl (lv_at hl 1 rfl) ?_
  refine va_get (D := D) (ci := 9) (v := .ref p_graph) (C := RX9) (T := TX9) (N := 13) hx hb hts inX9 hown hK hP 0 rfl rfl 1 (by decide) (hts _ b_482) (fun _ h9 => h9) rfl dX9_node_76 ?_
  refine va_get (D := D) (ci := 0) (v := .int 0) (C := RX0) (T := TX0) (N := 10) hx hb hts inX0 hown hK hP 7 rfl rfl 8 (by decide) (hts _ b_200) (fun _ h9 => h9) rfl dX9_node_79 ?_
  refine lv_aload_n hx hb dX9_node_82 rfl (lv_at hl 1 rfl) ?_
  refine va_get (D := D) (ci := 9) (v := .ref p_graph) (C := RX9) (T := TX9) (N := 13) hx hb hts inX9 hown hK hP 0 rfl rfl 1 (by decide) (hts _ b_482) (fun _ h9 => h9) rfl dX9_node_83 ?_
  refine va_get (D := D) (ci := 0) (v := .long 0) (C := RX0) (T := TX0) (N := 10) hx hb hts inX0 hown hK hP 7 rfl rfl 9 (by decide) (hts _ b_203) (fun _ h9 => h9) rfl dX9_node_86 ?_
  refine k_MV (As := [.int 1, .int 0, .long 0]) (rest := []) (ci := 0) (q0 := 7) (wr := [(a, .inr (9, [.ref p_tape, .ref p_graph, .ref p_reader, .ref p_ahead, .ref p_back, .ref p_trail, .ref p_landmarks, .ref p_hierarchy, .ref p_route, .ref p_scratch, .ref p_toldRow, .int 0, .int 0])), (p_hierarchy, .inr (1, [.ref h_net, .ref h_ranks, .ref h_row, .int 0, .int 0, .int 0, .int 4, .int 2, .int 1, .ref h_witnesses, .ref h_contractedBeside, .ref h_wantedFrom, .ref h_wantedTo, .int 0])), (p_trail, .inr (7, [.ref r_nodes, .ref r_lengths, .ref r_counts, .int 0, .ref r_seen])), (p_route, .inr (5, [.ref o_relaxedFrom, .ref o_relaxedTo, .ref o_walk, .int 0, .int 0, .int 0, .int 0, .int 0, .int 0, .int 0, .int (-1), .long 0, .ref o_upLengths, .ref o_upCounts, .ref o_downLengths, .ref o_downCounts, .ref o_chain]))]) ⟨hx, hb, hml, hown, hts⟩ (c_take_1 l D E sa p_graph g_xs g_ys g_potentials g_tails g_heads g_weights g_net n_lengths n_counts n_overs n_arcNumbers n_left ((fun _ => 0)) ((fun _ => 0))) b_640 b_641 b_642 b_80 b_643 ⟨rfl, hd_X0_take⟩ ⟨⟨by decide, by decide⟩, by decide, by decide⟩ hK hP hD hS hA hZ [7, 1, 2, 3] [0, 4, 5, 6] rfl rfl (by decide) rfl rfl rfl hl.1 (Nat.le_of_ble_eq_true rfl) dX9_node_89 (fun u_2 H locs hu hP hD hS _ => ?_)
  have hP : va_P D k_cl [(a, .inr (9, [.ref p_tape, .ref p_graph, .ref p_reader, .ref p_ahead, .ref p_back, .ref p_trail, .ref p_landmarks, .ref p_hierarchy, .ref p_route, .ref p_scratch, .ref p_toldRow, .int 0, .int 0])), (p_hierarchy, .inr (1, [.ref h_net, .ref h_ranks, .ref h_row, .int 0, .int 0, .int 0, .int 4, .int 2, .int 1, .ref h_witnesses, .ref h_contractedBeside, .ref h_wantedFrom, .ref h_wantedTo, .int 0])), (p_trail, .inr (7, [.ref r_nodes, .ref r_lengths, .ref r_counts, .int 0, .ref r_seen])), (p_route, .inr (5, [.ref o_relaxedFrom, .ref o_relaxedTo, .ref o_walk, .int 0, .int 0, .int 0, .int 0, .int 0, .int 0, .int 0, .int (-1), .long 0, .ref o_upLengths, .ref o_upCounts, .ref o_downLengths, .ref o_downCounts, .ref o_chain]))] H := hP
  have hD : va_D A [(a, .inr (9, [.ref p_tape, .ref p_graph, .ref p_reader, .ref p_ahead, .ref p_back, .ref p_trail, .ref p_landmarks, .ref p_hierarchy, .ref p_route, .ref p_scratch, .ref p_toldRow, .int 0, .int 0])), (p_hierarchy, .inr (1, [.ref h_net, .ref h_ranks, .ref h_row, .int 0, .int 0, .int 0, .int 4, .int 2, .int 1, .ref h_witnesses, .ref h_contractedBeside, .ref h_wantedFrom, .ref h_wantedTo, .int 0])), (p_trail, .inr (7, [.ref r_nodes, .ref r_lengths, .ref r_counts, .int 0, .ref r_seen])), (p_route, .inr (5, [.ref o_relaxedFrom, .ref o_relaxedTo, .ref o_walk, .int 0, .int 0, .int 0, .int 0, .int 0, .int 0, .int 0, .int (-1), .long 0, .ref o_upLengths, .ref o_upCounts, .ref o_downLengths, .ref o_downCounts, .ref o_chain]))] := hD
  refine W.eq (g2 := F0 m 92 ls []) rfl ?_
  refine lv_aload_n hx hb dX9_node_92 rfl (lv_at hl 1 rfl) ?_
  refine k_MV (As := []) (rest := []) (ci := 9) (q0 := 0) (wr := []) ⟨hx, hb, hml, hown, hts⟩ (c_forgetAnswers l D E sa a p_tape p_graph p_reader p_ahead p_back p_trail p_landmarks p_hierarchy p_route p_scratch p_toldRow h_net h_ranks h_row h_witnesses h_contractedBeside h_wantedFrom h_wantedTo r_nodes r_lengths r_counts r_seen o_relaxedFrom o_relaxedTo o_walk o_upLengths o_upCounts o_downLengths o_downCounts o_chain) b_662 b_664 b_12 b_78 b_665 ⟨rfl, hd_X9_forgetAnswers⟩ ⟨⟨by decide, by decide⟩, by decide, by decide⟩ hK hP hD hS hA hZ [0, 1, 2, 3] [] rfl rfl (by decide) rfl rfl rfl hl.1 (Nat.le_of_ble_eq_true rfl) dX9_node_93 (fun u_3 H locs hu hP hD hS _ => ?_)
  have hP : va_P D k_cl [(a, .inr (9, [.ref p_tape, .ref p_graph, .ref p_reader, .ref p_ahead, .ref p_back, .ref p_trail, .ref p_landmarks, .ref p_hierarchy, .ref p_route, .ref p_scratch, .ref p_toldRow, .int 0, .int 0]))] H := hP
  have hD : va_D A [(a, .inr (9, [.ref p_tape, .ref p_graph, .ref p_reader, .ref p_ahead, .ref p_back, .ref p_trail, .ref p_landmarks, .ref p_hierarchy, .ref p_route, .ref p_scratch, .ref p_toldRow, .int 0, .int 0]))] := hD
  refine W.eq (g2 := F0 m 96 ls []) rfl ?_
  refine lv_iload_n hx hb dX9_node_96 rfl (lv_at hl 0 rfl) ?_
  exact m_i () hx hb hr hlocks rfl trivial (hP.sub [] rfl) (hD.sub [] (by decide) rfl) hS (by decide) (by decide) dX9_node_97
set_option maxRecDepth 20000 in
set_option maxHeartbeats 2000000 in
theorem t_node_a (l : Launch) (D : va_G) (E : Nat → ClassId) (sa : Nat → Nat) (hl9 : l.stackTraces = false) (a : Nat) (p_tape : Nat) (p_graph : Nat) (p_reader : Nat) (p_ahead : Nat) (p_back : Nat) (p_trail : Nat) (p_landmarks : Nat) (p_hierarchy : Nat) (p_route : Nat) (p_scratch : Nat) (p_toldRow : Nat) (v : Int32) (w : Int32) (h : ¬ ((-1000000 : Int32) ≤ v ∧ v ≤ 1000000)) : KT l yX9_node cX9_node 4 (some .int) 25 821 D E sa [.ref a, .int v, .int w] [(a, .inr (9, [.ref p_tape, .ref p_graph, .ref p_reader, .ref p_ahead, .ref p_back, .ref p_trail, .ref p_landmarks, .ref p_hierarchy, .ref p_route, .ref p_scratch, .ref p_toldRow, .int 0, .int 0]))] "java/lang/IllegalArgumentException" := by
  refine KT.of (by decide) (Nat.le_of_ble_eq_true rfl) ?_
  intro p e s m below meth c ls hx hb hr hts hml hown hlocks htab hK hP hZ hl
  have hown : s.vm.findClass RX9 = some m.cls := hown
  have hl : lv_has ls 4 [(0, .ref a), (1, .int v), (2, .int w)] := hl
  refine lv_iload_n hx hb dX9_node_0 rfl (lv_at hl 1 rfl) ?_
  refine lv_ldc hx hb hown (hts _ b_963) dX9_node_1 ?_
  refine k_RS (As := [.int v, .int 1000000]) (rest := [])  ⟨hx, hb, hml, hown, hts⟩ (c_isWithin_0 l D E v (h)) b_964 b_965 b_78 b_966 hd_X9_isWithin ⟨⟨by decide, by decide⟩, by decide, by decide⟩ hK hP [] rfl rfl hl.1 (Nat.le_of_ble_eq_true rfl) dX9_node_3 ?_
  refine lv_if_eq (tgt := 18) hx hb dX9_node_6 (by decide) (fun _ => ?_) (fun h9 => absurd (by decide) h9)
  exact x_thS hl9 hx hb hown hts x_ok_ia hZ.2.1.2.2.2 hZ.2.2.2.2.2.1 hZ (by rw [hml]; exact hl.1) htab hlocks ⟨by decide, Nat.le_of_ble_eq_true rfl, by decide, by decide⟩ dX9_node_18 dX9_node_21 dX9_node_22 dX9_node_24 dX9_node_27
set_option maxRecDepth 20000 in
set_option maxHeartbeats 2000000 in
theorem t_node_b (l : Launch) (D : va_G) (E : Nat → ClassId) (sa : Nat → Nat) (hl9 : l.stackTraces = false) (a : Nat) (p_tape : Nat) (p_graph : Nat) (p_reader : Nat) (p_ahead : Nat) (p_back : Nat) (p_trail : Nat) (p_landmarks : Nat) (p_hierarchy : Nat) (p_route : Nat) (p_scratch : Nat) (p_toldRow : Nat) (v : Int32) (w : Int32) (hv : ((-1000000 : Int32) ≤ v ∧ v ≤ 1000000)) (h : ¬ ((-1000000 : Int32) ≤ w ∧ w ≤ 1000000)) : KT l yX9_node cX9_node 4 (some .int) 25 821 D E sa [.ref a, .int v, .int w] [(a, .inr (9, [.ref p_tape, .ref p_graph, .ref p_reader, .ref p_ahead, .ref p_back, .ref p_trail, .ref p_landmarks, .ref p_hierarchy, .ref p_route, .ref p_scratch, .ref p_toldRow, .int 0, .int 0]))] "java/lang/IllegalArgumentException" := by
  refine KT.of (by decide) (Nat.le_of_ble_eq_true rfl) ?_
  intro p e s m below meth c ls hx hb hr hts hml hown hlocks htab hK hP hZ hl
  have hown : s.vm.findClass RX9 = some m.cls := hown
  have hl : lv_has ls 4 [(0, .ref a), (1, .int v), (2, .int w)] := hl
  refine lv_iload_n hx hb dX9_node_0 rfl (lv_at hl 1 rfl) ?_
  refine lv_ldc hx hb hown (hts _ b_963) dX9_node_1 ?_
  refine k_RS (As := [.int v, .int 1000000]) (rest := [])  ⟨hx, hb, hml, hown, hts⟩ (c_isWithin_1 l D E v (hv)) b_964 b_965 b_78 b_966 hd_X9_isWithin ⟨⟨by decide, by decide⟩, by decide, by decide⟩ hK hP [] rfl rfl hl.1 (Nat.le_of_ble_eq_true rfl) dX9_node_3 ?_
  refine lv_if_eq (tgt := 18) hx hb dX9_node_6 (by decide) (fun h9 => absurd h9 (by decide)) (fun _ => ?_)
  refine lv_iload_n hx hb dX9_node_9 rfl (lv_at hl 2 rfl) ?_
  refine lv_ldc hx hb hown (hts _ b_963) dX9_node_10 ?_
  refine k_RS (As := [.int w, .int 1000000]) (rest := [])  ⟨hx, hb, hml, hown, hts⟩ (c_isWithin_0 l D E w (h)) b_964 b_965 b_78 b_966 hd_X9_isWithin ⟨⟨by decide, by decide⟩, by decide, by decide⟩ hK hP [] rfl rfl hl.1 (Nat.le_of_ble_eq_true rfl) dX9_node_12 ?_
  refine lv_if_ne (tgt := 28) hx hb dX9_node_15 (by decide) (fun h9 => absurd (by decide) h9) (fun _ => ?_)
  exact x_thS hl9 hx hb hown hts x_ok_ia hZ.2.1.2.2.2 hZ.2.2.2.2.2.1 hZ (by rw [hml]; exact hl.1) htab hlocks ⟨by decide, Nat.le_of_ble_eq_true rfl, by decide, by decide⟩ dX9_node_18 dX9_node_21 dX9_node_22 dX9_node_24 dX9_node_27
set_option maxRecDepth 20000 in
set_option maxHeartbeats 2000000 in
theorem c_clear (l : Launch) (D : va_G) (E : Nat → ClassId) (sa : Nat → Nat) (a : Nat) (p_tape : Nat) (p_graph : Nat) (p_reader : Nat) (p_ahead : Nat) (p_back : Nat) (p_trail : Nat) (p_landmarks : Nat) (p_hierarchy : Nat) (p_route : Nat) (p_scratch : Nat) (p_toldRow : Nat) (g_xs : Nat) (g_ys : Nat) (g_potentials : Nat) (g_tails : Nat) (g_heads : Nat) (g_weights : Nat) (g_net : Nat) (n_lengths : Nat) (n_counts : Nat) (n_overs : Nat) (n_arcNumbers : Nat) (n_left : Nat) (e_tape : Nat) (e_graph : Nat) (m_nodes : Nat) (m_potentials : Nat) (m_from : Nat) (m_into : Nat) (h_net : Nat) (h_ranks : Nat) (h_row : Nat) (h_witnesses : Nat) (h_contractedBeside : Nat) (h_wantedFrom : Nat) (h_wantedTo : Nat) (r_nodes : Nat) (r_lengths : Nat) (r_counts : Nat) (r_seen : Nat) (o_relaxedFrom : Nat) (o_relaxedTo : Nat) (o_walk : Nat) (o_upLengths : Nat) (o_upCounts : Nat) (o_downLengths : Nat) (o_downCounts : Nat) (o_chain : Nat) : KM l yX9_clear (.code yX9_clear cX9_clear 2 (some .int)) 51 1669 0 0 D E sa [.ref a] [(a, .inr (9, [.ref p_tape, .ref p_graph, .ref p_reader, .ref p_ahead, .ref p_back, .ref p_trail, .ref p_landmarks, .ref p_hierarchy, .ref p_route, .ref p_scratch, .ref p_toldRow, .int 0, .int 0])), (p_graph, .inr (0, [.ref g_xs, .ref g_ys, .ref g_potentials, .ref g_tails, .ref g_heads, .ref g_weights, .ref g_net, .int 0, .int 0, .long 0])), (g_net, .inr (3, [.ref n_lengths, .ref n_counts, .ref n_overs, .ref n_arcNumbers, .ref n_left, .int 0])), (n_counts, .inl (E 0, 576, .inl (fun _ => 0))), (n_left, .inl (E 3, 24, .inl (fun _ => 0))), (p_reader, .inr (4, [.ref e_tape, .ref e_graph, .int 0, .int 0, .int 0, .int (-1), .int 0, .int 0, .long 0])), (p_landmarks, .inr (2, [.ref m_nodes, .ref m_potentials, .int 0, .ref m_from, .ref m_into])), (p_hierarchy, .inr (1, [.ref h_net, .ref h_ranks, .ref h_row, .int 0, .int 0, .int 0, .int 4, .int 2, .int 1, .ref h_witnesses, .ref h_contractedBeside, .ref h_wantedFrom, .ref h_wantedTo, .int 0])), (p_trail, .inr (7, [.ref r_nodes, .ref r_lengths, .ref r_counts, .int 0, .ref r_seen])), (p_route, .inr (5, [.ref o_relaxedFrom, .ref o_relaxedTo, .ref o_walk, .int 0, .int 0, .int 0, .int 0, .int 0, .int 0, .int 0, .int (-1), .long 0, .ref o_upLengths, .ref o_upCounts, .ref o_downLengths, .ref o_downCounts, .ref o_chain]))] (S := Unit) (fun _ => some (.int 0)) (fun _ => True) (fun _ => []) := by
  refine KM.of (by decide) (Nat.le_of_ble_eq_true rfl) ?_
  intro p e s m below meth c A ls hx hb hr hts hml hown hlocks hnm hK hP hD hA hS hZ hl
  have hown : s.vm.findClass RX9 = some m.cls := hown
  have hl : lv_has ls 2 [(0, .ref a)] := hl
  refine lv_aload_n hx hb dX9_clear_0 rfl (lv_at hl 0 rfl) ?_
  refine va_get (D := D) (ci := 9) (v := .ref p_graph) (C := RX9) (T := TX9) (N := 13) hx hb hts inX9 hown hK hP 0 rfl rfl 1 (by decide) (hts _ b_482) (fun _ h9 => h9) rfl dX9_clear_1 ?_
  refine va_get (D := D) (ci := 0) (v := .int 0) (C := RX0) (T := TX0) (N := 10) hx hb hts inX0 hown hK hP 1 rfl rfl 7 (by decide) (hts _ b_197) (fun _ h9 => h9) rfl dX9_clear_4 ?_
  refine lv_istore_n (lv' := [(1, .int 0), (0, .ref a)]) hx hb dX9_clear_7 rfl hl (by decide) rfl (fun ls hl => ?_)
  refine lv_aload_n hx hb dX9_clear_8 rfl (lv_at hl 1 rfl) ?_
  refine va_get (D := D) (ci := 9) (v := .ref p_graph) (C := RX9) (T := TX9) (N := 13) hx hb hts inX9 hown hK hP 0 rfl rfl 1 (by decide) (hts _ b_482) (fun _ h9 => h9) rfl dX9_clear_9 ?_
  refine lv_iconst (v := 0) hx hb dX9_clear_12 (by decide) ?_
  refine lv_iconst (v := 0) hx hb dX9_clear_13 (by decide) ?_
  refine lv_lconst (v := 0) hx hb dX9_clear_14 (by decide) ?_
  refine k_MV (As := [.int 0, .int 0, .long 0]) (rest := []) (ci := 0) (q0 := 1) (wr := [(a, .inr (9, [.ref p_tape, .ref p_graph, .ref p_reader, .ref p_ahead, .ref p_back, .ref p_trail, .ref p_landmarks, .ref p_hierarchy, .ref p_route, .ref p_scratch, .ref p_toldRow, .int 0, .int 0])), (p_reader, .inr (4, [.ref e_tape, .ref e_graph, .int 0, .int 0, .int 0, .int (-1), .int 0, .int 0, .long 0])), (p_landmarks, .inr (2, [.ref m_nodes, .ref m_potentials, .int 0, .ref m_from, .ref m_into])), (p_hierarchy, .inr (1, [.ref h_net, .ref h_ranks, .ref h_row, .int 0, .int 0, .int 0, .int 4, .int 2, .int 1, .ref h_witnesses, .ref h_contractedBeside, .ref h_wantedFrom, .ref h_wantedTo, .int 0])), (p_trail, .inr (7, [.ref r_nodes, .ref r_lengths, .ref r_counts, .int 0, .ref r_seen])), (p_route, .inr (5, [.ref o_relaxedFrom, .ref o_relaxedTo, .ref o_walk, .int 0, .int 0, .int 0, .int 0, .int 0, .int 0, .int 0, .int (-1), .long 0, .ref o_upLengths, .ref o_upCounts, .ref o_downLengths, .ref o_downCounts, .ref o_chain]))]) ⟨hx, hb, hml, hown, hts⟩ (c_take_0 l D E sa p_graph g_xs g_ys g_potentials g_tails g_heads g_weights g_net n_lengths n_counts n_overs n_arcNumbers n_left ((fun _ => 0)) ((fun _ => 0))) b_640 b_641 b_642 b_80 b_643 ⟨rfl, hd_X0_take⟩ ⟨⟨by decide, by decide⟩, by decide, by decide⟩ hK hP hD hS hA hZ [1, 2, 3, 4] [0, 5, 6, 7, 8, 9] rfl rfl (by decide) rfl rfl rfl hl.1 (Nat.le_of_ble_eq_true rfl) dX9_clear_15 (fun u_1 H locs hu hP hD hS _ => ?_)
  have hP : va_P D k_cl [(a, .inr (9, [.ref p_tape, .ref p_graph, .ref p_reader, .ref p_ahead, .ref p_back, .ref p_trail, .ref p_landmarks, .ref p_hierarchy, .ref p_route, .ref p_scratch, .ref p_toldRow, .int 0, .int 0])), (p_reader, .inr (4, [.ref e_tape, .ref e_graph, .int 0, .int 0, .int 0, .int (-1), .int 0, .int 0, .long 0])), (p_landmarks, .inr (2, [.ref m_nodes, .ref m_potentials, .int 0, .ref m_from, .ref m_into])), (p_hierarchy, .inr (1, [.ref h_net, .ref h_ranks, .ref h_row, .int 0, .int 0, .int 0, .int 4, .int 2, .int 1, .ref h_witnesses, .ref h_contractedBeside, .ref h_wantedFrom, .ref h_wantedTo, .int 0])), (p_trail, .inr (7, [.ref r_nodes, .ref r_lengths, .ref r_counts, .int 0, .ref r_seen])), (p_route, .inr (5, [.ref o_relaxedFrom, .ref o_relaxedTo, .ref o_walk, .int 0, .int 0, .int 0, .int 0, .int 0, .int 0, .int 0, .int (-1), .long 0, .ref o_upLengths, .ref o_upCounts, .ref o_downLengths, .ref o_downCounts, .ref o_chain]))] H := hP
  have hD : va_D A [(a, .inr (9, [.ref p_tape, .ref p_graph, .ref p_reader, .ref p_ahead, .ref p_back, .ref p_trail, .ref p_landmarks, .ref p_hierarchy, .ref p_route, .ref p_scratch, .ref p_toldRow, .int 0, .int 0])), (p_reader, .inr (4, [.ref e_tape, .ref e_graph, .int 0, .int 0, .int 0, .int (-1), .int 0, .int 0, .long 0])), (p_landmarks, .inr (2, [.ref m_nodes, .ref m_potentials, .int 0, .ref m_from, .ref m_into])), (p_hierarchy, .inr (1, [.ref h_net, .ref h_ranks, .ref h_row, .int 0, .int 0, .int 0, .int 4, .int 2, .int 1, .ref h_witnesses, .ref h_contractedBeside, .ref h_wantedFrom, .ref h_wantedTo, .int 0])), (p_trail, .inr (7, [.ref r_nodes, .ref r_lengths, .ref r_counts, .int 0, .ref r_seen])), (p_route, .inr (5, [.ref o_relaxedFrom, .ref o_relaxedTo, .ref o_walk, .int 0, .int 0, .int 0, .int 0, .int 0, .int 0, .int 0, .int (-1), .long 0, .ref o_upLengths, .ref o_upCounts, .ref o_downLengths, .ref o_downCounts, .ref o_chain]))] := hD
  refine W.eq (g2 := F0 m 18 ls []) rfl ?_
  refine lv_aload_n hx hb dX9_clear_18 rfl (lv_at hl 1 rfl) ?_
  refine va_get (D := D) (ci := 9) (v := .ref p_reader) (C := RX9) (T := TX9) (N := 13) hx hb hts inX9 hown hK hP 0 rfl rfl 2 (by decide) (hts _ b_483) (fun _ h9 => h9) rfl dX9_clear_19 ?_
  refine lv_iconst (v := -1) hx hb dX9_clear_22 (by decide) ?_
  refine va_put (D := D) (ci := 4) (v := .int (-1)) (ty := .int) (C := RX4) (T := TX4) (N := 9) hx hb hts inX4 tyX4 tyX4_ok nmX4 hown hK hP hD hS 1 rfl rfl 5 (by decide) (hts _ b_237) (fun _ h9 => h9) rfl (by decide +kernel) rfl rfl (Nat.le_of_ble_eq_true rfl) dX9_clear_23 (fun H locs hP hD hS => ?_)
  have hP : va_P D k_cl [(a, .inr (9, [.ref p_tape, .ref p_graph, .ref p_reader, .ref p_ahead, .ref p_back, .ref p_trail, .ref p_landmarks, .ref p_hierarchy, .ref p_route, .ref p_scratch, .ref p_toldRow, .int 0, .int 0])), (p_reader, .inr (4, [.ref e_tape, .ref e_graph, .int 0, .int 0, .int 0, .int (-1), .int 0, .int 0, .long 0])), (p_landmarks, .inr (2, [.ref m_nodes, .ref m_potentials, .int 0, .ref m_from, .ref m_into])), (p_hierarchy, .inr (1, [.ref h_net, .ref h_ranks, .ref h_row, .int 0, .int 0, .int 0, .int 4, .int 2, .int 1, .ref h_witnesses, .ref h_contractedBeside, .ref h_wantedFrom, .ref h_wantedTo, .int 0])), (p_trail, .inr (7, [.ref r_nodes, .ref r_lengths, .ref r_counts, .int 0, .ref r_seen])), (p_route, .inr (5, [.ref o_relaxedFrom, .ref o_relaxedTo, .ref o_walk, .int 0, .int 0, .int 0, .int 0, .int 0, .int 0, .int 0, .int (-1), .long 0, .ref o_upLengths, .ref o_upCounts, .ref o_downLengths, .ref o_downCounts, .ref o_chain]))] H := hP
  have hD : va_D A [(a, .inr (9, [.ref p_tape, .ref p_graph, .ref p_reader, .ref p_ahead, .ref p_back, .ref p_trail, .ref p_landmarks, .ref p_hierarchy, .ref p_route, .ref p_scratch, .ref p_toldRow, .int 0, .int 0])), (p_reader, .inr (4, [.ref e_tape, .ref e_graph, .int 0, .int 0, .int 0, .int (-1), .int 0, .int 0, .long 0])), (p_landmarks, .inr (2, [.ref m_nodes, .ref m_potentials, .int 0, .ref m_from, .ref m_into])), (p_hierarchy, .inr (1, [.ref h_net, .ref h_ranks, .ref h_row, .int 0, .int 0, .int 0, .int 4, .int 2, .int 1, .ref h_witnesses, .ref h_contractedBeside, .ref h_wantedFrom, .ref h_wantedTo, .int 0])), (p_trail, .inr (7, [.ref r_nodes, .ref r_lengths, .ref r_counts, .int 0, .ref r_seen])), (p_route, .inr (5, [.ref o_relaxedFrom, .ref o_relaxedTo, .ref o_walk, .int 0, .int 0, .int 0, .int 0, .int 0, .int 0, .int 0, .int (-1), .long 0, .ref o_upLengths, .ref o_upCounts, .ref o_downLengths, .ref o_downCounts, .ref o_chain]))] := hD
  refine lv_aload_n hx hb dX9_clear_26 rfl (lv_at hl 1 rfl) ?_
  refine va_get (D := D) (ci := 9) (v := .ref p_landmarks) (C := RX9) (T := TX9) (N := 13) hx hb hts inX9 hown hK hP 0 rfl rfl 6 (by decide) (hts _ b_487) (fun _ h9 => h9) rfl dX9_clear_27 ?_
  refine lv_iconst (v := 0) hx hb dX9_clear_30 (by decide) ?_
  refine va_put (D := D) (ci := 2) (v := .int 0) (ty := .int) (C := RX2) (T := TX2) (N := 5) hx hb hts inX2 tyX2 tyX2_ok nmX2 hown hK hP hD hS 2 rfl rfl 2 (by decide) (hts _ b_332) (fun _ h9 => h9) rfl (by decide +kernel) rfl rfl (Nat.le_of_ble_eq_true rfl) dX9_clear_31 (fun H locs hP hD hS => ?_)
  have hP : va_P D k_cl [(a, .inr (9, [.ref p_tape, .ref p_graph, .ref p_reader, .ref p_ahead, .ref p_back, .ref p_trail, .ref p_landmarks, .ref p_hierarchy, .ref p_route, .ref p_scratch, .ref p_toldRow, .int 0, .int 0])), (p_reader, .inr (4, [.ref e_tape, .ref e_graph, .int 0, .int 0, .int 0, .int (-1), .int 0, .int 0, .long 0])), (p_landmarks, .inr (2, [.ref m_nodes, .ref m_potentials, .int 0, .ref m_from, .ref m_into])), (p_hierarchy, .inr (1, [.ref h_net, .ref h_ranks, .ref h_row, .int 0, .int 0, .int 0, .int 4, .int 2, .int 1, .ref h_witnesses, .ref h_contractedBeside, .ref h_wantedFrom, .ref h_wantedTo, .int 0])), (p_trail, .inr (7, [.ref r_nodes, .ref r_lengths, .ref r_counts, .int 0, .ref r_seen])), (p_route, .inr (5, [.ref o_relaxedFrom, .ref o_relaxedTo, .ref o_walk, .int 0, .int 0, .int 0, .int 0, .int 0, .int 0, .int 0, .int (-1), .long 0, .ref o_upLengths, .ref o_upCounts, .ref o_downLengths, .ref o_downCounts, .ref o_chain]))] H := hP
  have hD : va_D A [(a, .inr (9, [.ref p_tape, .ref p_graph, .ref p_reader, .ref p_ahead, .ref p_back, .ref p_trail, .ref p_landmarks, .ref p_hierarchy, .ref p_route, .ref p_scratch, .ref p_toldRow, .int 0, .int 0])), (p_reader, .inr (4, [.ref e_tape, .ref e_graph, .int 0, .int 0, .int 0, .int (-1), .int 0, .int 0, .long 0])), (p_landmarks, .inr (2, [.ref m_nodes, .ref m_potentials, .int 0, .ref m_from, .ref m_into])), (p_hierarchy, .inr (1, [.ref h_net, .ref h_ranks, .ref h_row, .int 0, .int 0, .int 0, .int 4, .int 2, .int 1, .ref h_witnesses, .ref h_contractedBeside, .ref h_wantedFrom, .ref h_wantedTo, .int 0])), (p_trail, .inr (7, [.ref r_nodes, .ref r_lengths, .ref r_counts, .int 0, .ref r_seen])), (p_route, .inr (5, [.ref o_relaxedFrom, .ref o_relaxedTo, .ref o_walk, .int 0, .int 0, .int 0, .int 0, .int 0, .int 0, .int 0, .int (-1), .long 0, .ref o_upLengths, .ref o_upCounts, .ref o_downLengths, .ref o_downCounts, .ref o_chain]))] := hD
  refine lv_aload_n hx hb dX9_clear_34 rfl (lv_at hl 1 rfl) ?_
  refine lv_iconst (v := 0) hx hb dX9_clear_35 (by decide) ?_
  refine va_put (D := D) (ci := 9) (v := .int 0) (ty := .int) (C := RX9) (T := TX9) (N := 13) hx hb hts inX9 tyX9 tyX9_ok nmX9 hown hK hP hD hS 0 rfl rfl 11 (by decide) (hts _ b_492) (fun _ h9 => h9) rfl (by decide +kernel) rfl rfl (Nat.le_of_ble_eq_true rfl) dX9_clear_36 (fun H locs hP hD hS => ?_)
  have hP : va_P D k_cl [(a, .inr (9, [.ref p_tape, .ref p_graph, .ref p_reader, .ref p_ahead, .ref p_back, .ref p_trail, .ref p_landmarks, .ref p_hierarchy, .ref p_route, .ref p_scratch, .ref p_toldRow, .int 0, .int 0])), (p_reader, .inr (4, [.ref e_tape, .ref e_graph, .int 0, .int 0, .int 0, .int (-1), .int 0, .int 0, .long 0])), (p_landmarks, .inr (2, [.ref m_nodes, .ref m_potentials, .int 0, .ref m_from, .ref m_into])), (p_hierarchy, .inr (1, [.ref h_net, .ref h_ranks, .ref h_row, .int 0, .int 0, .int 0, .int 4, .int 2, .int 1, .ref h_witnesses, .ref h_contractedBeside, .ref h_wantedFrom, .ref h_wantedTo, .int 0])), (p_trail, .inr (7, [.ref r_nodes, .ref r_lengths, .ref r_counts, .int 0, .ref r_seen])), (p_route, .inr (5, [.ref o_relaxedFrom, .ref o_relaxedTo, .ref o_walk, .int 0, .int 0, .int 0, .int 0, .int 0, .int 0, .int 0, .int (-1), .long 0, .ref o_upLengths, .ref o_upCounts, .ref o_downLengths, .ref o_downCounts, .ref o_chain]))] H := hP
  have hD : va_D A [(a, .inr (9, [.ref p_tape, .ref p_graph, .ref p_reader, .ref p_ahead, .ref p_back, .ref p_trail, .ref p_landmarks, .ref p_hierarchy, .ref p_route, .ref p_scratch, .ref p_toldRow, .int 0, .int 0])), (p_reader, .inr (4, [.ref e_tape, .ref e_graph, .int 0, .int 0, .int 0, .int (-1), .int 0, .int 0, .long 0])), (p_landmarks, .inr (2, [.ref m_nodes, .ref m_potentials, .int 0, .ref m_from, .ref m_into])), (p_hierarchy, .inr (1, [.ref h_net, .ref h_ranks, .ref h_row, .int 0, .int 0, .int 0, .int 4, .int 2, .int 1, .ref h_witnesses, .ref h_contractedBeside, .ref h_wantedFrom, .ref h_wantedTo, .int 0])), (p_trail, .inr (7, [.ref r_nodes, .ref r_lengths, .ref r_counts, .int 0, .ref r_seen])), (p_route, .inr (5, [.ref o_relaxedFrom, .ref o_relaxedTo, .ref o_walk, .int 0, .int 0, .int 0, .int 0, .int 0, .int 0, .int 0, .int (-1), .long 0, .ref o_upLengths, .ref o_upCounts, .ref o_downLengths, .ref o_downCounts, .ref o_chain]))] := hD
  refine lv_aload_n hx hb dX9_clear_39 rfl (lv_at hl 1 rfl) ?_
  refine va_get (D := D) (ci := 9) (v := .ref p_hierarchy) (C := RX9) (T := TX9) (N := 13) hx hb hts inX9 hown hK hP 0 rfl rfl 7 (by decide) (hts _ b_488) (fun _ h9 => h9) rfl dX9_clear_40 ?_
  refine lv_iconst (v := 0) hx hb dX9_clear_43 (by decide) ?_
  refine va_put (D := D) (ci := 1) (v := .int 0) (ty := .int) (C := RX1) (T := TX1) (N := 14) hx hb hts inX1 tyX1 tyX1_ok nmX1 hown hK hP hD hS 3 rfl rfl 4 (by decide) (hts _ b_368) (fun _ h9 => h9) rfl (by decide +kernel) rfl rfl (Nat.le_of_ble_eq_true rfl) dX9_clear_44 (fun H locs hP hD hS => ?_)
  have hP : va_P D k_cl [(a, .inr (9, [.ref p_tape, .ref p_graph, .ref p_reader, .ref p_ahead, .ref p_back, .ref p_trail, .ref p_landmarks, .ref p_hierarchy, .ref p_route, .ref p_scratch, .ref p_toldRow, .int 0, .int 0])), (p_reader, .inr (4, [.ref e_tape, .ref e_graph, .int 0, .int 0, .int 0, .int (-1), .int 0, .int 0, .long 0])), (p_landmarks, .inr (2, [.ref m_nodes, .ref m_potentials, .int 0, .ref m_from, .ref m_into])), (p_hierarchy, .inr (1, [.ref h_net, .ref h_ranks, .ref h_row, .int 0, .int 0, .int 0, .int 4, .int 2, .int 1, .ref h_witnesses, .ref h_contractedBeside, .ref h_wantedFrom, .ref h_wantedTo, .int 0])), (p_trail, .inr (7, [.ref r_nodes, .ref r_lengths, .ref r_counts, .int 0, .ref r_seen])), (p_route, .inr (5, [.ref o_relaxedFrom, .ref o_relaxedTo, .ref o_walk, .int 0, .int 0, .int 0, .int 0, .int 0, .int 0, .int 0, .int (-1), .long 0, .ref o_upLengths, .ref o_upCounts, .ref o_downLengths, .ref o_downCounts, .ref o_chain]))] H := hP
  have hD : va_D A [(a, .inr (9, [.ref p_tape, .ref p_graph, .ref p_reader, .ref p_ahead, .ref p_back, .ref p_trail, .ref p_landmarks, .ref p_hierarchy, .ref p_route, .ref p_scratch, .ref p_toldRow, .int 0, .int 0])), (p_reader, .inr (4, [.ref e_tape, .ref e_graph, .int 0, .int 0, .int 0, .int (-1), .int 0, .int 0, .long 0])), (p_landmarks, .inr (2, [.ref m_nodes, .ref m_potentials, .int 0, .ref m_from, .ref m_into])), (p_hierarchy, .inr (1, [.ref h_net, .ref h_ranks, .ref h_row, .int 0, .int 0, .int 0, .int 4, .int 2, .int 1, .ref h_witnesses, .ref h_contractedBeside, .ref h_wantedFrom, .ref h_wantedTo, .int 0])), (p_trail, .inr (7, [.ref r_nodes, .ref r_lengths, .ref r_counts, .int 0, .ref r_seen])), (p_route, .inr (5, [.ref o_relaxedFrom, .ref o_relaxedTo, .ref o_walk, .int 0, .int 0, .int 0, .int 0, .int 0, .int 0, .int 0, .int (-1), .long 0, .ref o_upLengths, .ref o_upCounts, .ref o_downLengths, .ref o_downCounts, .ref o_chain]))] := hD
  refine lv_aload_n hx hb dX9_clear_47 rfl (lv_at hl 1 rfl) ?_
  refine k_MV (As := []) (rest := []) (ci := 9) (q0 := 0) (wr := [(p_reader, .inr (4, [.ref e_tape, .ref e_graph, .int 0, .int 0, .int 0, .int (-1), .int 0, .int 0, .long 0])), (p_landmarks, .inr (2, [.ref m_nodes, .ref m_potentials, .int 0, .ref m_from, .ref m_into]))]) ⟨hx, hb, hml, hown, hts⟩ (c_forgetAnswers l D E sa a p_tape p_graph p_reader p_ahead p_back p_trail p_landmarks p_hierarchy p_route p_scratch p_toldRow h_net h_ranks h_row h_witnesses h_contractedBeside h_wantedFrom h_wantedTo r_nodes r_lengths r_counts r_seen o_relaxedFrom o_relaxedTo o_walk o_upLengths o_upCounts o_downLengths o_downCounts o_chain) b_662 b_664 b_12 b_78 b_665 ⟨rfl, hd_X9_forgetAnswers⟩ ⟨⟨by decide, by decide⟩, by decide, by decide⟩ hK hP hD hS hA hZ [0, 3, 4, 5] [1, 2] rfl rfl (by decide) rfl rfl rfl hl.1 (Nat.le_of_ble_eq_true rfl) dX9_clear_48 (fun u_2 H locs hu hP hD hS _ => ?_)
  have hP : va_P D k_cl [(p_reader, .inr (4, [.ref e_tape, .ref e_graph, .int 0, .int 0, .int 0, .int (-1), .int 0, .int 0, .long 0])), (p_landmarks, .inr (2, [.ref m_nodes, .ref m_potentials, .int 0, .ref m_from, .ref m_into])), (a, .inr (9, [.ref p_tape, .ref p_graph, .ref p_reader, .ref p_ahead, .ref p_back, .ref p_trail, .ref p_landmarks, .ref p_hierarchy, .ref p_route, .ref p_scratch, .ref p_toldRow, .int 0, .int 0]))] H := hP
  have hD : va_D A [(p_reader, .inr (4, [.ref e_tape, .ref e_graph, .int 0, .int 0, .int 0, .int (-1), .int 0, .int 0, .long 0])), (p_landmarks, .inr (2, [.ref m_nodes, .ref m_potentials, .int 0, .ref m_from, .ref m_into])), (a, .inr (9, [.ref p_tape, .ref p_graph, .ref p_reader, .ref p_ahead, .ref p_back, .ref p_trail, .ref p_landmarks, .ref p_hierarchy, .ref p_route, .ref p_scratch, .ref p_toldRow, .int 0, .int 0]))] := hD
  refine W.eq (g2 := F0 m 51 ls []) rfl ?_
  refine lv_iload_n hx hb dX9_clear_51 rfl (lv_at hl 0 rfl) ?_
  exact m_i () hx hb hr hlocks rfl trivial (hP.sub [] rfl) (hD.sub [] (by decide) rfl) hS (by decide) (by decide) dX9_clear_52
set_option maxRecDepth 20000 in
set_option maxHeartbeats 2000000 in
theorem c_factors_1 (l : Launch) (D : va_G) (E : Nat → ClassId) (sa : Nat → Nat) (a : Nat) (p_tape : Nat) (p_graph : Nat) (p_reader : Nat) (p_ahead : Nat) (p_back : Nat) (p_trail : Nat) (p_landmarks : Nat) (p_hierarchy : Nat) (p_route : Nat) (p_scratch : Nat) (p_toldRow : Nat) (h_net : Nat) (h_ranks : Nat) (h_row : Nat) (h_witnesses : Nat) (h_contractedBeside : Nat) (h_wantedFrom : Nat) (h_wantedTo : Nat) (f0 : Int32) (f1 : Int32) (f2 : Int32) (h0 : ((0 : Int32) ≤ f0 ∧ f0 ≤ 9)) (h1 : ((0 : Int32) ≤ f1 ∧ f1 ≤ 9)) (h2 : ((0 : Int32) ≤ f2 ∧ f2 ≤ 9)) : KM l yX9_factors (.code yX9_factors cX9_factors 4 (some .int)) 25 820 0 0 D E sa [.ref a, .int f0, .int f1, .int f2] [(a, .inr (9, [.ref p_tape, .ref p_graph, .ref p_reader, .ref p_ahead, .ref p_back, .ref p_trail, .ref p_landmarks, .ref p_hierarchy, .ref p_route, .ref p_scratch, .ref p_toldRow, .int 0, .int 0])), (p_hierarchy, .inr (1, [.ref h_net, .ref h_ranks, .ref h_row, .int 0, .int 0, .int 0, .int 4, .int 2, .int 1, .ref h_witnesses, .ref h_contractedBeside, .ref h_wantedFrom, .ref h_wantedTo, .int 0]))] (S := Unit) (fun _ => some (.int 1)) (fun _ => True) (fun _ => []) := by
  refine KM.of (by decide) (Nat.le_of_ble_eq_true rfl) ?_
  intro p e s m below meth c A ls hx hb hr hts hml hown hlocks hnm hK hP hD hA hS hZ hl
  have hown : s.vm.findClass RX9 = some m.cls := hown
  have hl : lv_has ls 4 [(0, .ref a), (1, .int f0), (2, .int f1), (3, .int f2)] := hl
  refine lv_iload_n hx hb dX9_factors_0 rfl (lv_at hl 1 rfl) ?_
  refine k_RS (As := [.int f0]) (rest := [])  ⟨hx, hb, hml, hown, hts⟩ (c_isFactor_1 l D E f0 (h0)) b_783 b_784 b_78 b_785 hd_X9_isFactor ⟨⟨by decide, by decide⟩, by decide, by decide⟩ hK hP [] rfl rfl hl.1 (Nat.le_of_ble_eq_true rfl) dX9_factors_1 ?_
  refine lv_if_eq (tgt := 21) hx hb dX9_factors_4 (by decide) (fun h9 => absurd h9 (by decide)) (fun _ => ?_)
  refine lv_iload_n hx hb dX9_factors_7 rfl (lv_at hl 2 rfl) ?_
  refine k_RS (As := [.int f1]) (rest := [])  ⟨hx, hb, hml, hown, hts⟩ (c_isFactor_1 l D E f1 (h1)) b_783 b_784 b_78 b_785 hd_X9_isFactor ⟨⟨by decide, by decide⟩, by decide, by decide⟩ hK hP [] rfl rfl hl.1 (Nat.le_of_ble_eq_true rfl) dX9_factors_8 ?_
  refine lv_if_eq (tgt := 21) hx hb dX9_factors_11 (by decide) (fun h9 => absurd h9 (by decide)) (fun _ => ?_)
  refine lv_iload_n hx hb dX9_factors_14 rfl (lv_at hl 3 rfl) ?_
  refine k_RS (As := [.int f2]) (rest := [])  ⟨hx, hb, hml, hown, hts⟩ (c_isFactor_1 l D E f2 (h2)) b_783 b_784 b_78 b_785 hd_X9_isFactor ⟨⟨by decide, by decide⟩, by decide, by decide⟩ hK hP [] rfl rfl hl.1 (Nat.le_of_ble_eq_true rfl) dX9_factors_15 ?_
  refine lv_if_ne (tgt := 23) hx hb dX9_factors_18 (by decide) (fun _ => ?_) (fun h9 => absurd h9 (by decide))
  refine lv_aload_n hx hb dX9_factors_23 rfl (lv_at hl 0 rfl) ?_
  refine va_get (D := D) (ci := 9) (v := .ref p_hierarchy) (C := RX9) (T := TX9) (N := 13) hx hb hts inX9 hown hK hP 0 rfl rfl 7 (by decide) (hts _ b_488) (fun _ h9 => h9) rfl dX9_factors_24 ?_
  refine lv_iload_n hx hb dX9_factors_27 rfl (lv_at hl 1 rfl) ?_
  refine va_put (D := D) (ci := 1) (v := .int f0) (ty := .int) (C := RX1) (T := TX1) (N := 14) hx hb hts inX1 tyX1 tyX1_ok nmX1 hown hK hP hD hS 1 rfl rfl 6 (by decide) (hts _ b_372) (fun _ h9 => h9) rfl (by decide +kernel) rfl rfl (Nat.le_of_ble_eq_true rfl) dX9_factors_28 (fun H locs hP hD hS => ?_)
  have hP : va_P D k_cl [(a, .inr (9, [.ref p_tape, .ref p_graph, .ref p_reader, .ref p_ahead, .ref p_back, .ref p_trail, .ref p_landmarks, .ref p_hierarchy, .ref p_route, .ref p_scratch, .ref p_toldRow, .int 0, .int 0])), (p_hierarchy, .inr (1, [.ref h_net, .ref h_ranks, .ref h_row, .int 0, .int 0, .int 0, .int f0, .int 2, .int 1, .ref h_witnesses, .ref h_contractedBeside, .ref h_wantedFrom, .ref h_wantedTo, .int 0]))] H := hP
  have hD : va_D A [(a, .inr (9, [.ref p_tape, .ref p_graph, .ref p_reader, .ref p_ahead, .ref p_back, .ref p_trail, .ref p_landmarks, .ref p_hierarchy, .ref p_route, .ref p_scratch, .ref p_toldRow, .int 0, .int 0])), (p_hierarchy, .inr (1, [.ref h_net, .ref h_ranks, .ref h_row, .int 0, .int 0, .int 0, .int f0, .int 2, .int 1, .ref h_witnesses, .ref h_contractedBeside, .ref h_wantedFrom, .ref h_wantedTo, .int 0]))] := hD
  refine lv_aload_n hx hb dX9_factors_31 rfl (lv_at hl 0 rfl) ?_
  refine va_get (D := D) (ci := 9) (v := .ref p_hierarchy) (C := RX9) (T := TX9) (N := 13) hx hb hts inX9 hown hK hP 0 rfl rfl 7 (by decide) (hts _ b_488) (fun _ h9 => h9) rfl dX9_factors_32 ?_
  refine lv_iload_n hx hb dX9_factors_35 rfl (lv_at hl 2 rfl) ?_
  refine va_put (D := D) (ci := 1) (v := .int f1) (ty := .int) (C := RX1) (T := TX1) (N := 14) hx hb hts inX1 tyX1 tyX1_ok nmX1 hown hK hP hD hS 1 rfl rfl 7 (by decide) (hts _ b_374) (fun _ h9 => h9) rfl (by decide +kernel) rfl rfl (Nat.le_of_ble_eq_true rfl) dX9_factors_36 (fun H locs hP hD hS => ?_)
  have hP : va_P D k_cl [(a, .inr (9, [.ref p_tape, .ref p_graph, .ref p_reader, .ref p_ahead, .ref p_back, .ref p_trail, .ref p_landmarks, .ref p_hierarchy, .ref p_route, .ref p_scratch, .ref p_toldRow, .int 0, .int 0])), (p_hierarchy, .inr (1, [.ref h_net, .ref h_ranks, .ref h_row, .int 0, .int 0, .int 0, .int f0, .int f1, .int 1, .ref h_witnesses, .ref h_contractedBeside, .ref h_wantedFrom, .ref h_wantedTo, .int 0]))] H := hP
  have hD : va_D A [(a, .inr (9, [.ref p_tape, .ref p_graph, .ref p_reader, .ref p_ahead, .ref p_back, .ref p_trail, .ref p_landmarks, .ref p_hierarchy, .ref p_route, .ref p_scratch, .ref p_toldRow, .int 0, .int 0])), (p_hierarchy, .inr (1, [.ref h_net, .ref h_ranks, .ref h_row, .int 0, .int 0, .int 0, .int f0, .int f1, .int 1, .ref h_witnesses, .ref h_contractedBeside, .ref h_wantedFrom, .ref h_wantedTo, .int 0]))] := hD
  refine lv_aload_n hx hb dX9_factors_39 rfl (lv_at hl 0 rfl) ?_
  refine va_get (D := D) (ci := 9) (v := .ref p_hierarchy) (C := RX9) (T := TX9) (N := 13) hx hb hts inX9 hown hK hP 0 rfl rfl 7 (by decide) (hts _ b_488) (fun _ h9 => h9) rfl dX9_factors_40 ?_
  refine lv_iload_n hx hb dX9_factors_43 rfl (lv_at hl 3 rfl) ?_
  refine va_put (D := D) (ci := 1) (v := .int f2) (ty := .int) (C := RX1) (T := TX1) (N := 14) hx hb hts inX1 tyX1 tyX1_ok nmX1 hown hK hP hD hS 1 rfl rfl 8 (by decide) (hts _ b_376) (fun _ h9 => h9) rfl (by decide +kernel) rfl rfl (Nat.le_of_ble_eq_true rfl) dX9_factors_44 (fun H locs hP hD hS => ?_)
  have hP : va_P D k_cl [(a, .inr (9, [.ref p_tape, .ref p_graph, .ref p_reader, .ref p_ahead, .ref p_back, .ref p_trail, .ref p_landmarks, .ref p_hierarchy, .ref p_route, .ref p_scratch, .ref p_toldRow, .int 0, .int 0])), (p_hierarchy, .inr (1, [.ref h_net, .ref h_ranks, .ref h_row, .int 0, .int 0, .int 0, .int f0, .int f1, .int f2, .ref h_witnesses, .ref h_contractedBeside, .ref h_wantedFrom, .ref h_wantedTo, .int 0]))] H := hP
  have hD : va_D A [(a, .inr (9, [.ref p_tape, .ref p_graph, .ref p_reader, .ref p_ahead, .ref p_back, .ref p_trail, .ref p_landmarks, .ref p_hierarchy, .ref p_route, .ref p_scratch, .ref p_toldRow, .int 0, .int 0])), (p_hierarchy, .inr (1, [.ref h_net, .ref h_ranks, .ref h_row, .int 0, .int 0, .int 0, .int f0, .int f1, .int f2, .ref h_witnesses, .ref h_contractedBeside, .ref h_wantedFrom, .ref h_wantedTo, .int 0]))] := hD
  refine lv_iconst (v := 1) hx hb dX9_factors_47 (by decide) ?_
  exact m_i () hx hb hr hlocks rfl trivial (hP.sub [] rfl) (hD.sub [] (by decide) rfl) hS (by decide) (by decide) dX9_factors_48
set_option maxRecDepth 20000 in
set_option maxHeartbeats 2000000 in
theorem c_factors_a (l : Launch) (D : va_G) (E : Nat → ClassId) (a : Nat) (p_tape : Nat) (p_graph : Nat) (p_reader : Nat) (p_ahead : Nat) (p_back : Nat) (p_trail : Nat) (p_landmarks : Nat) (p_hierarchy : Nat) (p_route : Nat) (p_scratch : Nat) (p_toldRow : Nat) (f0 : Int32) (f1 : Int32) (f2 : Int32) (h0 : ¬ ((0 : Int32) ≤ f0 ∧ f0 ≤ 9)) : KR l yX9_factors cX9_factors 4 (some .int) 25 820 D E [.ref a, .int f0, .int f1, .int f2] [(a, .inr (9, [.ref p_tape, .ref p_graph, .ref p_reader, .ref p_ahead, .ref p_back, .ref p_trail, .ref p_landmarks, .ref p_hierarchy, .ref p_route, .ref p_scratch, .ref p_toldRow, .int 0, .int 0]))] (some (.int 0)) := by
  refine KR.of (by decide) (Nat.le_of_ble_eq_true rfl) ?_
  intro p e s m below meth c ls hx hb hr hts hml hown hlocks hK hP hl
  have hown : s.vm.findClass RX9 = some m.cls := hown
  have hl : lv_has ls 4 [(0, .ref a), (1, .int f0), (2, .int f1), (3, .int f2)] := hl
  refine lv_iload_n hx hb dX9_factors_0 rfl (lv_at hl 1 rfl) ?_
  refine k_RS (As := [.int f0]) (rest := [])  ⟨hx, hb, hml, hown, hts⟩ (c_isFactor_0 l D E f0 (h0)) b_783 b_784 b_78 b_785 hd_X9_isFactor ⟨⟨by decide, by decide⟩, by decide, by decide⟩ hK hP [] rfl rfl hl.1 (Nat.le_of_ble_eq_true rfl) dX9_factors_1 ?_
  refine lv_if_eq (tgt := 21) hx hb dX9_factors_4 (by decide) (fun _ => ?_) (fun h9 => absurd (by decide) h9)
  refine lv_iconst (v := 0) hx hb dX9_factors_21 (by decide) ?_
  exact r_i hx hb hr hlocks rfl dX9_factors_22
set_option maxRecDepth 20000 in
set_option maxHeartbeats 2000000 in
theorem c_factors_b (l : Launch) (D : va_G) (E : Nat → ClassId) (a : Nat) (p_tape : Nat) (p_graph : Nat) (p_reader : Nat) (p_ahead : Nat) (p_back : Nat) (p_trail : Nat) (p_landmarks : Nat) (p_hierarchy : Nat) (p_route : Nat) (p_scratch : Nat) (p_toldRow : Nat) (f0 : Int32) (f1 : Int32) (f2 : Int32) (h0 : ((0 : Int32) ≤ f0 ∧ f0 ≤ 9)) (h1 : ¬ ((0 : Int32) ≤ f1 ∧ f1 ≤ 9)) : KR l yX9_factors cX9_factors 4 (some .int) 25 820 D E [.ref a, .int f0, .int f1, .int f2] [(a, .inr (9, [.ref p_tape, .ref p_graph, .ref p_reader, .ref p_ahead, .ref p_back, .ref p_trail, .ref p_landmarks, .ref p_hierarchy, .ref p_route, .ref p_scratch, .ref p_toldRow, .int 0, .int 0]))] (some (.int 0)) := by
  refine KR.of (by decide) (Nat.le_of_ble_eq_true rfl) ?_
  intro p e s m below meth c ls hx hb hr hts hml hown hlocks hK hP hl
  have hown : s.vm.findClass RX9 = some m.cls := hown
  have hl : lv_has ls 4 [(0, .ref a), (1, .int f0), (2, .int f1), (3, .int f2)] := hl
  refine lv_iload_n hx hb dX9_factors_0 rfl (lv_at hl 1 rfl) ?_
  refine k_RS (As := [.int f0]) (rest := [])  ⟨hx, hb, hml, hown, hts⟩ (c_isFactor_1 l D E f0 (h0)) b_783 b_784 b_78 b_785 hd_X9_isFactor ⟨⟨by decide, by decide⟩, by decide, by decide⟩ hK hP [] rfl rfl hl.1 (Nat.le_of_ble_eq_true rfl) dX9_factors_1 ?_
  refine lv_if_eq (tgt := 21) hx hb dX9_factors_4 (by decide) (fun h9 => absurd h9 (by decide)) (fun _ => ?_)
  refine lv_iload_n hx hb dX9_factors_7 rfl (lv_at hl 2 rfl) ?_
  refine k_RS (As := [.int f1]) (rest := [])  ⟨hx, hb, hml, hown, hts⟩ (c_isFactor_0 l D E f1 (h1)) b_783 b_784 b_78 b_785 hd_X9_isFactor ⟨⟨by decide, by decide⟩, by decide, by decide⟩ hK hP [] rfl rfl hl.1 (Nat.le_of_ble_eq_true rfl) dX9_factors_8 ?_
  refine lv_if_eq (tgt := 21) hx hb dX9_factors_11 (by decide) (fun _ => ?_) (fun h9 => absurd (by decide) h9)
  refine lv_iconst (v := 0) hx hb dX9_factors_21 (by decide) ?_
  exact r_i hx hb hr hlocks rfl dX9_factors_22
set_option maxRecDepth 20000 in
set_option maxHeartbeats 2000000 in
theorem c_factors_c (l : Launch) (D : va_G) (E : Nat → ClassId) (a : Nat) (p_tape : Nat) (p_graph : Nat) (p_reader : Nat) (p_ahead : Nat) (p_back : Nat) (p_trail : Nat) (p_landmarks : Nat) (p_hierarchy : Nat) (p_route : Nat) (p_scratch : Nat) (p_toldRow : Nat) (f0 : Int32) (f1 : Int32) (f2 : Int32) (h0 : ((0 : Int32) ≤ f0 ∧ f0 ≤ 9)) (h1 : ((0 : Int32) ≤ f1 ∧ f1 ≤ 9)) (h2 : ¬ ((0 : Int32) ≤ f2 ∧ f2 ≤ 9)) : KR l yX9_factors cX9_factors 4 (some .int) 25 820 D E [.ref a, .int f0, .int f1, .int f2] [(a, .inr (9, [.ref p_tape, .ref p_graph, .ref p_reader, .ref p_ahead, .ref p_back, .ref p_trail, .ref p_landmarks, .ref p_hierarchy, .ref p_route, .ref p_scratch, .ref p_toldRow, .int 0, .int 0]))] (some (.int 0)) := by
  refine KR.of (by decide) (Nat.le_of_ble_eq_true rfl) ?_
  intro p e s m below meth c ls hx hb hr hts hml hown hlocks hK hP hl
  have hown : s.vm.findClass RX9 = some m.cls := hown
  have hl : lv_has ls 4 [(0, .ref a), (1, .int f0), (2, .int f1), (3, .int f2)] := hl
  refine lv_iload_n hx hb dX9_factors_0 rfl (lv_at hl 1 rfl) ?_
  refine k_RS (As := [.int f0]) (rest := [])  ⟨hx, hb, hml, hown, hts⟩ (c_isFactor_1 l D E f0 (h0)) b_783 b_784 b_78 b_785 hd_X9_isFactor ⟨⟨by decide, by decide⟩, by decide, by decide⟩ hK hP [] rfl rfl hl.1 (Nat.le_of_ble_eq_true rfl) dX9_factors_1 ?_
  refine lv_if_eq (tgt := 21) hx hb dX9_factors_4 (by decide) (fun h9 => absurd h9 (by decide)) (fun _ => ?_)
  refine lv_iload_n hx hb dX9_factors_7 rfl (lv_at hl 2 rfl) ?_
  refine k_RS (As := [.int f1]) (rest := [])  ⟨hx, hb, hml, hown, hts⟩ (c_isFactor_1 l D E f1 (h1)) b_783 b_784 b_78 b_785 hd_X9_isFactor ⟨⟨by decide, by decide⟩, by decide, by decide⟩ hK hP [] rfl rfl hl.1 (Nat.le_of_ble_eq_true rfl) dX9_factors_8 ?_
  refine lv_if_eq (tgt := 21) hx hb dX9_factors_11 (by decide) (fun h9 => absurd h9 (by decide)) (fun _ => ?_)
  refine lv_iload_n hx hb dX9_factors_14 rfl (lv_at hl 3 rfl) ?_
  refine k_RS (As := [.int f2]) (rest := [])  ⟨hx, hb, hml, hown, hts⟩ (c_isFactor_0 l D E f2 (h2)) b_783 b_784 b_78 b_785 hd_X9_isFactor ⟨⟨by decide, by decide⟩, by decide, by decide⟩ hK hP [] rfl rfl hl.1 (Nat.le_of_ble_eq_true rfl) dX9_factors_15 ?_
  refine lv_if_ne (tgt := 23) hx hb dX9_factors_18 (by decide) (fun h9 => absurd (by decide) h9) (fun _ => ?_)
  refine lv_iconst (v := 0) hx hb dX9_factors_21 (by decide) ?_
  exact r_i hx hb hr hlocks rfl dX9_factors_22
set_option maxRecDepth 20000 in
set_option maxHeartbeats 2000000 in
theorem c_copy (l : Launch) (D : va_G) (E : Nat → ClassId) (sa : Nat → Nat) (b : Nat) (z : Nat) (k_lengths : Nat) (k_counts : Nat) (k_overs : Nat) (k_arcNumbers : Nat) (k_left : Nat) (n_lengths : Nat) (n_counts : Nat) (n_overs : Nat) (n_arcNumbers : Nat) (n_left : Nat) : KM l yX3_copy (.code yX3_copy cX3_copy 2 none) 25 821 0 0 D E sa [.ref b, .ref z] [(b, .inr (3, [.ref k_lengths, .ref k_counts, .ref k_overs, .ref k_arcNumbers, .ref k_left, .int 0])), (k_lengths, .inl (E 1, 576, .inr (.inl (fun _ => 0)))), (k_counts, .inl (E 0, 576, .inl (fun _ => 0))), (k_overs, .inl (E 0, 576, .inl (fun _ => 0))), (k_arcNumbers, .inl (E 0, 576, .inl (fun _ => 0))), (k_left, .inl (E 3, 24, .inl (fun _ => 0))), (z, .inr (3, [.ref n_lengths, .ref n_counts, .ref n_overs, .ref n_arcNumbers, .ref n_left, .int 0])), (n_lengths, .inl (E 1, 576, .inr (.inl (fun _ => 0)))), (n_counts, .inl (E 0, 576, .inl (fun _ => 0))), (n_overs, .inl (E 0, 576, .inl (fun _ => 0))), (n_arcNumbers, .inl (E 0, 576, .inl (fun _ => 0)))] (S := Unit) (fun _ => none) (fun _ => True) (fun _ => [(b, .inr (3, [.ref k_lengths, .ref k_counts, .ref k_overs, .ref k_arcNumbers, .ref k_left, .int 0]))]) := by
  refine KM.of (by decide) (Nat.le_of_ble_eq_true rfl) ?_
  intro p e s m below meth c A ls hx hb hr hts hml hown hlocks hnm hK hP hD hA hS hZ hl
  have hown : s.vm.findClass RX3 = some m.cls := hown
  have hl : lv_has ls 2 [(0, .ref b), (1, .ref z)] := hl
  refine lv_aload_n hx hb dX3_copy_0 rfl (lv_at hl 0 rfl) ?_
  refine lv_aload_n hx hb dX3_copy_1 rfl (lv_at hl 1 rfl) ?_
  refine va_get (D := D) (ci := 3) (v := .int 0) (C := RX3) (T := TX3) (N := 6) hx hb hts inX3 hown hK hP 6 rfl rfl 5 (by decide) (hts _ b_160) (fun _ h9 => h9) rfl dX3_copy_2 ?_
  refine va_put (D := D) (ci := 3) (v := .int 0) (ty := .int) (C := RX3) (T := TX3) (N := 6) hx hb hts inX3 tyX3 tyX3_ok nmX3 hown hK hP hD hS 0 rfl rfl 5 (by decide) (hts _ b_160) (fun _ h9 => h9) rfl (by decide +kernel) rfl rfl (Nat.le_of_ble_eq_true rfl) dX3_copy_5 (fun H locs hP hD hS => ?_)
  have hP : va_P D k_cl [(b, .inr (3, [.ref k_lengths, .ref k_counts, .ref k_overs, .ref k_arcNumbers, .ref k_left, .int 0])), (k_lengths, .inl (E 1, 576, .inr (.inl (fun _ => 0)))), (k_counts, .inl (E 0, 576, .inl (fun _ => 0))), (k_overs, .inl (E 0, 576, .inl (fun _ => 0))), (k_arcNumbers, .inl (E 0, 576, .inl (fun _ => 0))), (k_left, .inl (E 3, 24, .inl (fun _ => 0))), (z, .inr (3, [.ref n_lengths, .ref n_counts, .ref n_overs, .ref n_arcNumbers, .ref n_left, .int 0])), (n_lengths, .inl (E 1, 576, .inr (.inl (fun _ => 0)))), (n_counts, .inl (E 0, 576, .inl (fun _ => 0))), (n_overs, .inl (E 0, 576, .inl (fun _ => 0))), (n_arcNumbers, .inl (E 0, 576, .inl (fun _ => 0)))] H := hP
  have hD : va_D A [(b, .inr (3, [.ref k_lengths, .ref k_counts, .ref k_overs, .ref k_arcNumbers, .ref k_left, .int 0])), (k_lengths, .inl (E 1, 576, .inr (.inl (fun _ => 0)))), (k_counts, .inl (E 0, 576, .inl (fun _ => 0))), (k_overs, .inl (E 0, 576, .inl (fun _ => 0))), (k_arcNumbers, .inl (E 0, 576, .inl (fun _ => 0))), (k_left, .inl (E 3, 24, .inl (fun _ => 0))), (z, .inr (3, [.ref n_lengths, .ref n_counts, .ref n_overs, .ref n_arcNumbers, .ref n_left, .int 0])), (n_lengths, .inl (E 1, 576, .inr (.inl (fun _ => 0)))), (n_counts, .inl (E 0, 576, .inl (fun _ => 0))), (n_overs, .inl (E 0, 576, .inl (fun _ => 0))), (n_arcNumbers, .inl (E 0, 576, .inl (fun _ => 0)))] := hD
  refine lv_aload_n hx hb dX3_copy_8 rfl (lv_at hl 1 rfl) ?_
  refine va_get (D := D) (ci := 3) (v := .ref n_lengths) (C := RX3) (T := TX3) (N := 6) hx hb hts inX3 hown hK hP 6 rfl rfl 0 (by decide) (hts _ b_141) (fun _ h9 => h9) rfl dX3_copy_9 ?_
  refine lv_iconst (v := 0) hx hb dX3_copy_12 (by decide) ?_
  refine lv_aload_n hx hb dX3_copy_13 rfl (lv_at hl 0 rfl) ?_
  refine va_get (D := D) (ci := 3) (v := .ref k_lengths) (C := RX3) (T := TX3) (N := 6) hx hb hts inX3 hown hK hP 0 rfl rfl 0 (by decide) (hts _ b_141) (fun _ h9 => h9) rfl dX3_copy_14 ?_
  refine lv_iconst (v := 0) hx hb dX3_copy_17 (by decide) ?_
  refine lv_sipush (v := 576) hx hb dX3_copy_18 (by decide) ?_
  refine va_copyl hx hb (by rw [hml]; exact hl.1.symm) hown (hts _ b_1175) (hts _ b_an) (hts _ b_as) (hts _ b_102) hK hP hD hS 7 1 1 1 rfl rfl rfl rfl rfl (by decide) (by decide) (by decide) (by decide) (by decide) (fun _ _ => rfl) (by decide) (by decide) dX3_copy_21 (fun H locs hP hD hS => ?_)
  have hP : va_P D k_cl [(b, .inr (3, [.ref k_lengths, .ref k_counts, .ref k_overs, .ref k_arcNumbers, .ref k_left, .int 0])), (k_lengths, .inl (E 1, 576, .inr (.inl (va_cpy (α := Int64) (fun _ => 0) (fun _ => 0) (0 : Int32).toNatClampNeg (0 : Int32).toNatClampNeg (576 : Int32).toNatClampNeg)))), (k_counts, .inl (E 0, 576, .inl (fun _ => 0))), (k_overs, .inl (E 0, 576, .inl (fun _ => 0))), (k_arcNumbers, .inl (E 0, 576, .inl (fun _ => 0))), (k_left, .inl (E 3, 24, .inl (fun _ => 0))), (z, .inr (3, [.ref n_lengths, .ref n_counts, .ref n_overs, .ref n_arcNumbers, .ref n_left, .int 0])), (n_lengths, .inl (E 1, 576, .inr (.inl (fun _ => 0)))), (n_counts, .inl (E 0, 576, .inl (fun _ => 0))), (n_overs, .inl (E 0, 576, .inl (fun _ => 0))), (n_arcNumbers, .inl (E 0, 576, .inl (fun _ => 0)))] H := hP
  have hD : va_D A [(b, .inr (3, [.ref k_lengths, .ref k_counts, .ref k_overs, .ref k_arcNumbers, .ref k_left, .int 0])), (k_lengths, .inl (E 1, 576, .inr (.inl (va_cpy (α := Int64) (fun _ => 0) (fun _ => 0) (0 : Int32).toNatClampNeg (0 : Int32).toNatClampNeg (576 : Int32).toNatClampNeg)))), (k_counts, .inl (E 0, 576, .inl (fun _ => 0))), (k_overs, .inl (E 0, 576, .inl (fun _ => 0))), (k_arcNumbers, .inl (E 0, 576, .inl (fun _ => 0))), (k_left, .inl (E 3, 24, .inl (fun _ => 0))), (z, .inr (3, [.ref n_lengths, .ref n_counts, .ref n_overs, .ref n_arcNumbers, .ref n_left, .int 0])), (n_lengths, .inl (E 1, 576, .inr (.inl (fun _ => 0)))), (n_counts, .inl (E 0, 576, .inl (fun _ => 0))), (n_overs, .inl (E 0, 576, .inl (fun _ => 0))), (n_arcNumbers, .inl (E 0, 576, .inl (fun _ => 0)))] := hD
  generalize (va_cpy (α := Int64) (fun _ => 0) (fun _ => 0) (0 : Int32).toNatClampNeg (0 : Int32).toNatClampNeg (576 : Int32).toNatClampNeg) = f_1 at hP hD
  refine lv_aload_n hx hb dX3_copy_24 rfl (lv_at hl 1 rfl) ?_
  refine va_get (D := D) (ci := 3) (v := .ref n_counts) (C := RX3) (T := TX3) (N := 6) hx hb hts inX3 hown hK hP 6 rfl rfl 1 (by decide) (hts _ b_146) (fun _ h9 => h9) rfl dX3_copy_25 ?_
  refine lv_iconst (v := 0) hx hb dX3_copy_28 (by decide) ?_
  refine lv_aload_n hx hb dX3_copy_29 rfl (lv_at hl 0 rfl) ?_
  refine va_get (D := D) (ci := 3) (v := .ref k_counts) (C := RX3) (T := TX3) (N := 6) hx hb hts inX3 hown hK hP 0 rfl rfl 1 (by decide) (hts _ b_146) (fun _ h9 => h9) rfl dX3_copy_30 ?_
  refine lv_iconst (v := 0) hx hb dX3_copy_33 (by decide) ?_
  refine lv_sipush (v := 576) hx hb dX3_copy_34 (by decide) ?_
  refine va_copyi hx hb (by rw [hml]; exact hl.1.symm) hown (hts _ b_1175) (hts _ b_an) (hts _ b_as) (hts _ b_102) hK hP hD hS 8 2 0 0 rfl rfl rfl rfl rfl (by decide) (by decide) (by decide) (by decide) (by decide) (fun _ _ => rfl) (by decide) (by decide) dX3_copy_37 (fun H locs hP hD hS => ?_)
  have hP : va_P D k_cl [(b, .inr (3, [.ref k_lengths, .ref k_counts, .ref k_overs, .ref k_arcNumbers, .ref k_left, .int 0])), (k_lengths, .inl (E 1, 576, .inr (.inl f_1))), (k_counts, .inl (E 0, 576, .inl (va_cpy (α := Int32) (fun _ => 0) (fun _ => 0) (0 : Int32).toNatClampNeg (0 : Int32).toNatClampNeg (576 : Int32).toNatClampNeg))), (k_overs, .inl (E 0, 576, .inl (fun _ => 0))), (k_arcNumbers, .inl (E 0, 576, .inl (fun _ => 0))), (k_left, .inl (E 3, 24, .inl (fun _ => 0))), (z, .inr (3, [.ref n_lengths, .ref n_counts, .ref n_overs, .ref n_arcNumbers, .ref n_left, .int 0])), (n_lengths, .inl (E 1, 576, .inr (.inl (fun _ => 0)))), (n_counts, .inl (E 0, 576, .inl (fun _ => 0))), (n_overs, .inl (E 0, 576, .inl (fun _ => 0))), (n_arcNumbers, .inl (E 0, 576, .inl (fun _ => 0)))] H := hP
  have hD : va_D A [(b, .inr (3, [.ref k_lengths, .ref k_counts, .ref k_overs, .ref k_arcNumbers, .ref k_left, .int 0])), (k_lengths, .inl (E 1, 576, .inr (.inl f_1))), (k_counts, .inl (E 0, 576, .inl (va_cpy (α := Int32) (fun _ => 0) (fun _ => 0) (0 : Int32).toNatClampNeg (0 : Int32).toNatClampNeg (576 : Int32).toNatClampNeg))), (k_overs, .inl (E 0, 576, .inl (fun _ => 0))), (k_arcNumbers, .inl (E 0, 576, .inl (fun _ => 0))), (k_left, .inl (E 3, 24, .inl (fun _ => 0))), (z, .inr (3, [.ref n_lengths, .ref n_counts, .ref n_overs, .ref n_arcNumbers, .ref n_left, .int 0])), (n_lengths, .inl (E 1, 576, .inr (.inl (fun _ => 0)))), (n_counts, .inl (E 0, 576, .inl (fun _ => 0))), (n_overs, .inl (E 0, 576, .inl (fun _ => 0))), (n_arcNumbers, .inl (E 0, 576, .inl (fun _ => 0)))] := hD
  generalize (va_cpy (α := Int32) (fun _ => 0) (fun _ => 0) (0 : Int32).toNatClampNeg (0 : Int32).toNatClampNeg (576 : Int32).toNatClampNeg) = f_2 at hP hD
  refine lv_aload_n hx hb dX3_copy_40 rfl (lv_at hl 1 rfl) ?_
  refine va_get (D := D) (ci := 3) (v := .ref n_overs) (C := RX3) (T := TX3) (N := 6) hx hb hts inX3 hown hK hP 6 rfl rfl 2 (by decide) (hts _ b_151) (fun _ h9 => h9) rfl dX3_copy_41 ?_
  refine lv_iconst (v := 0) hx hb dX3_copy_44 (by decide) ?_
  refine lv_aload_n hx hb dX3_copy_45 rfl (lv_at hl 0 rfl) ?_
  refine va_get (D := D) (ci := 3) (v := .ref k_overs) (C := RX3) (T := TX3) (N := 6) hx hb hts inX3 hown hK hP 0 rfl rfl 2 (by decide) (hts _ b_151) (fun _ h9 => h9) rfl dX3_copy_46 ?_
  refine lv_iconst (v := 0) hx hb dX3_copy_49 (by decide) ?_
  refine lv_sipush (v := 576) hx hb dX3_copy_50 (by decide) ?_
  refine va_copyi hx hb (by rw [hml]; exact hl.1.symm) hown (hts _ b_1175) (hts _ b_an) (hts _ b_as) (hts _ b_102) hK hP hD hS 9 3 0 0 rfl rfl rfl rfl rfl (by decide) (by decide) (by decide) (by decide) (by decide) (fun _ _ => rfl) (by decide) (by decide) dX3_copy_53 (fun H locs hP hD hS => ?_)
  have hP : va_P D k_cl [(b, .inr (3, [.ref k_lengths, .ref k_counts, .ref k_overs, .ref k_arcNumbers, .ref k_left, .int 0])), (k_lengths, .inl (E 1, 576, .inr (.inl f_1))), (k_counts, .inl (E 0, 576, .inl f_2)), (k_overs, .inl (E 0, 576, .inl (va_cpy (α := Int32) (fun _ => 0) (fun _ => 0) (0 : Int32).toNatClampNeg (0 : Int32).toNatClampNeg (576 : Int32).toNatClampNeg))), (k_arcNumbers, .inl (E 0, 576, .inl (fun _ => 0))), (k_left, .inl (E 3, 24, .inl (fun _ => 0))), (z, .inr (3, [.ref n_lengths, .ref n_counts, .ref n_overs, .ref n_arcNumbers, .ref n_left, .int 0])), (n_lengths, .inl (E 1, 576, .inr (.inl (fun _ => 0)))), (n_counts, .inl (E 0, 576, .inl (fun _ => 0))), (n_overs, .inl (E 0, 576, .inl (fun _ => 0))), (n_arcNumbers, .inl (E 0, 576, .inl (fun _ => 0)))] H := hP
  have hD : va_D A [(b, .inr (3, [.ref k_lengths, .ref k_counts, .ref k_overs, .ref k_arcNumbers, .ref k_left, .int 0])), (k_lengths, .inl (E 1, 576, .inr (.inl f_1))), (k_counts, .inl (E 0, 576, .inl f_2)), (k_overs, .inl (E 0, 576, .inl (va_cpy (α := Int32) (fun _ => 0) (fun _ => 0) (0 : Int32).toNatClampNeg (0 : Int32).toNatClampNeg (576 : Int32).toNatClampNeg))), (k_arcNumbers, .inl (E 0, 576, .inl (fun _ => 0))), (k_left, .inl (E 3, 24, .inl (fun _ => 0))), (z, .inr (3, [.ref n_lengths, .ref n_counts, .ref n_overs, .ref n_arcNumbers, .ref n_left, .int 0])), (n_lengths, .inl (E 1, 576, .inr (.inl (fun _ => 0)))), (n_counts, .inl (E 0, 576, .inl (fun _ => 0))), (n_overs, .inl (E 0, 576, .inl (fun _ => 0))), (n_arcNumbers, .inl (E 0, 576, .inl (fun _ => 0)))] := hD
  generalize (va_cpy (α := Int32) (fun _ => 0) (fun _ => 0) (0 : Int32).toNatClampNeg (0 : Int32).toNatClampNeg (576 : Int32).toNatClampNeg) = f_3 at hP hD
  refine lv_aload_n hx hb dX3_copy_56 rfl (lv_at hl 1 rfl) ?_
  refine va_get (D := D) (ci := 3) (v := .ref n_arcNumbers) (C := RX3) (T := TX3) (N := 6) hx hb hts inX3 hown hK hP 6 rfl rfl 3 (by decide) (hts _ b_154) (fun _ h9 => h9) rfl dX3_copy_57 ?_
  refine lv_iconst (v := 0) hx hb dX3_copy_60 (by decide) ?_
  refine lv_aload_n hx hb dX3_copy_61 rfl (lv_at hl 0 rfl) ?_
  refine va_get (D := D) (ci := 3) (v := .ref k_arcNumbers) (C := RX3) (T := TX3) (N := 6) hx hb hts inX3 hown hK hP 0 rfl rfl 3 (by decide) (hts _ b_154) (fun _ h9 => h9) rfl dX3_copy_62 ?_
  refine lv_iconst (v := 0) hx hb dX3_copy_65 (by decide) ?_
  refine lv_sipush (v := 576) hx hb dX3_copy_66 (by decide) ?_
  refine va_copyi hx hb (by rw [hml]; exact hl.1.symm) hown (hts _ b_1175) (hts _ b_an) (hts _ b_as) (hts _ b_102) hK hP hD hS 10 4 0 0 rfl rfl rfl rfl rfl (by decide) (by decide) (by decide) (by decide) (by decide) (fun _ _ => rfl) (by decide) (by decide) dX3_copy_69 (fun H locs hP hD hS => ?_)
  have hP : va_P D k_cl [(b, .inr (3, [.ref k_lengths, .ref k_counts, .ref k_overs, .ref k_arcNumbers, .ref k_left, .int 0])), (k_lengths, .inl (E 1, 576, .inr (.inl f_1))), (k_counts, .inl (E 0, 576, .inl f_2)), (k_overs, .inl (E 0, 576, .inl f_3)), (k_arcNumbers, .inl (E 0, 576, .inl (va_cpy (α := Int32) (fun _ => 0) (fun _ => 0) (0 : Int32).toNatClampNeg (0 : Int32).toNatClampNeg (576 : Int32).toNatClampNeg))), (k_left, .inl (E 3, 24, .inl (fun _ => 0))), (z, .inr (3, [.ref n_lengths, .ref n_counts, .ref n_overs, .ref n_arcNumbers, .ref n_left, .int 0])), (n_lengths, .inl (E 1, 576, .inr (.inl (fun _ => 0)))), (n_counts, .inl (E 0, 576, .inl (fun _ => 0))), (n_overs, .inl (E 0, 576, .inl (fun _ => 0))), (n_arcNumbers, .inl (E 0, 576, .inl (fun _ => 0)))] H := hP
  have hD : va_D A [(b, .inr (3, [.ref k_lengths, .ref k_counts, .ref k_overs, .ref k_arcNumbers, .ref k_left, .int 0])), (k_lengths, .inl (E 1, 576, .inr (.inl f_1))), (k_counts, .inl (E 0, 576, .inl f_2)), (k_overs, .inl (E 0, 576, .inl f_3)), (k_arcNumbers, .inl (E 0, 576, .inl (va_cpy (α := Int32) (fun _ => 0) (fun _ => 0) (0 : Int32).toNatClampNeg (0 : Int32).toNatClampNeg (576 : Int32).toNatClampNeg))), (k_left, .inl (E 3, 24, .inl (fun _ => 0))), (z, .inr (3, [.ref n_lengths, .ref n_counts, .ref n_overs, .ref n_arcNumbers, .ref n_left, .int 0])), (n_lengths, .inl (E 1, 576, .inr (.inl (fun _ => 0)))), (n_counts, .inl (E 0, 576, .inl (fun _ => 0))), (n_overs, .inl (E 0, 576, .inl (fun _ => 0))), (n_arcNumbers, .inl (E 0, 576, .inl (fun _ => 0)))] := hD
  generalize (va_cpy (α := Int32) (fun _ => 0) (fun _ => 0) (0 : Int32).toNatClampNeg (0 : Int32).toNatClampNeg (576 : Int32).toNatClampNeg) = f_4 at hP hD
  refine lv_aload_n hx hb dX3_copy_72 rfl (lv_at hl 0 rfl) ?_
  refine k_MV (As := []) (rest := []) (ci := 3) (q0 := 0) (wr := [(k_lengths, .inl (E 1, 576, .inr (.inl f_1))), (k_counts, .inl (E 0, 576, .inl f_2)), (k_overs, .inl (E 0, 576, .inl f_3)), (k_arcNumbers, .inl (E 0, 576, .inl f_4)), (z, .inr (3, [.ref n_lengths, .ref n_counts, .ref n_overs, .ref n_arcNumbers, .ref n_left, .int 0])), (n_lengths, .inl (E 1, 576, .inr (.inl (fun _ => 0)))), (n_counts, .inl (E 0, 576, .inl (fun _ => 0))), (n_overs, .inl (E 0, 576, .inl (fun _ => 0))), (n_arcNumbers, .inl (E 0, 576, .inl (fun _ => 0)))]) ⟨hx, hb, hml, hown, hts⟩ (c_leaveAll l D E sa b k_lengths k_counts k_overs k_arcNumbers k_left 0 ((fun _ => 0))) b_651 b_653 b_11 b_81 b_654 ⟨rfl, hd_X3_leaveAll⟩ ⟨⟨by decide, by decide⟩, by decide, by decide⟩ hK hP hD hS hA hZ [0, 5] [1, 2, 3, 4, 6, 7, 8, 9, 10] rfl rfl (by decide) rfl rfl rfl hl.1 (Nat.le_of_ble_eq_true rfl) dX3_copy_73 (fun u_5 H locs hu hP hD hS _ => ?_)
  obtain ⟨f1_6, rfl⟩ : ∃ z, z = u_5 := ⟨_, rfl⟩
  have hP : va_P D k_cl [(k_lengths, .inl (E 1, 576, .inr (.inl f_1))), (k_counts, .inl (E 0, 576, .inl f_2)), (k_overs, .inl (E 0, 576, .inl f_3)), (k_arcNumbers, .inl (E 0, 576, .inl f_4)), (z, .inr (3, [.ref n_lengths, .ref n_counts, .ref n_overs, .ref n_arcNumbers, .ref n_left, .int 0])), (n_lengths, .inl (E 1, 576, .inr (.inl (fun _ => 0)))), (n_counts, .inl (E 0, 576, .inl (fun _ => 0))), (n_overs, .inl (E 0, 576, .inl (fun _ => 0))), (n_arcNumbers, .inl (E 0, 576, .inl (fun _ => 0))), (b, .inr (3, [.ref k_lengths, .ref k_counts, .ref k_overs, .ref k_arcNumbers, .ref k_left, .int 0])), (k_left, .inl (E 3, 24, .inl f1_6))] H := hP
  have hD : va_D A [(k_lengths, .inl (E 1, 576, .inr (.inl f_1))), (k_counts, .inl (E 0, 576, .inl f_2)), (k_overs, .inl (E 0, 576, .inl f_3)), (k_arcNumbers, .inl (E 0, 576, .inl f_4)), (z, .inr (3, [.ref n_lengths, .ref n_counts, .ref n_overs, .ref n_arcNumbers, .ref n_left, .int 0])), (n_lengths, .inl (E 1, 576, .inr (.inl (fun _ => 0)))), (n_counts, .inl (E 0, 576, .inl (fun _ => 0))), (n_overs, .inl (E 0, 576, .inl (fun _ => 0))), (n_arcNumbers, .inl (E 0, 576, .inl (fun _ => 0))), (b, .inr (3, [.ref k_lengths, .ref k_counts, .ref k_overs, .ref k_arcNumbers, .ref k_left, .int 0])), (k_left, .inl (E 3, 24, .inl f1_6))] := hD
  refine W.eq (g2 := F0 m 76 ls []) rfl ?_
  exact m_v () hx hb hr hlocks rfl trivial (hP.sub [9] rfl) (hD.sub [9] (by decide) rfl) hS (by decide) (by decide) dX3_copy_76
set_option maxRecDepth 20000 in
set_option maxHeartbeats 2000000 in
theorem c_begin (l : Launch) (D : va_G) (E : Nat → ClassId) (sa : Nat → Nat) (b : Nat) (z : Nat) (h_net : Nat) (h_ranks : Nat) (h_row : Nat) (h_witnesses : Nat) (h_contractedBeside : Nat) (h_wantedFrom : Nat) (h_wantedTo : Nat) (k_lengths : Nat) (k_counts : Nat) (k_overs : Nat) (k_arcNumbers : Nat) (k_left : Nat) (n_lengths : Nat) (n_counts : Nat) (n_overs : Nat) (n_arcNumbers : Nat) (n_left : Nat) : KM l yX1_begin (.code yX1_begin cX1_begin 2 none) 38 1242 0 0 D E sa [.ref b, .ref z] [(b, .inr (1, [.ref h_net, .ref h_ranks, .ref h_row, .int 0, .int 0, .int 0, .int 4, .int 2, .int 1, .ref h_witnesses, .ref h_contractedBeside, .ref h_wantedFrom, .ref h_wantedTo, .int 0])), (h_contractedBeside, .inl (E 0, 24, .inl (fun _ => 0))), (h_net, .inr (3, [.ref k_lengths, .ref k_counts, .ref k_overs, .ref k_arcNumbers, .ref k_left, .int 0])), (k_lengths, .inl (E 1, 576, .inr (.inl (fun _ => 0)))), (k_counts, .inl (E 0, 576, .inl (fun _ => 0))), (k_overs, .inl (E 0, 576, .inl (fun _ => 0))), (k_arcNumbers, .inl (E 0, 576, .inl (fun _ => 0))), (k_left, .inl (E 3, 24, .inl (fun _ => 0))), (z, .inr (3, [.ref n_lengths, .ref n_counts, .ref n_overs, .ref n_arcNumbers, .ref n_left, .int 0])), (n_lengths, .inl (E 1, 576, .inr (.inl (fun _ => 0)))), (n_counts, .inl (E 0, 576, .inl (fun _ => 0))), (n_overs, .inl (E 0, 576, .inl (fun _ => 0))), (n_arcNumbers, .inl (E 0, 576, .inl (fun _ => 0)))] (S := Unit) (fun _ => none) (fun _ => True) (fun _ => [(b, .inr (1, [.ref h_net, .ref h_ranks, .ref h_row, .int 1, .int 0, .int 0, .int 4, .int 2, .int 1, .ref h_witnesses, .ref h_contractedBeside, .ref h_wantedFrom, .ref h_wantedTo, .int 0]))]) := by
  refine KM.of (by decide) (Nat.le_of_ble_eq_true rfl) ?_
  intro p e s m below meth c A ls hx hb hr hts hml hown hlocks hnm hK hP hD hA hS hZ hl
  have hown : s.vm.findClass RX1 = some m.cls := hown
  have hl : lv_has ls 2 [(0, .ref b), (1, .ref z)] := hl
  refine lv_aload_n hx hb dX1_begin_0 rfl (lv_at hl 0 rfl) ?_
  refine va_get (D := D) (ci := 1) (v := .ref h_net) (C := RX1) (T := TX1) (N := 14) hx hb hts inX1 hown hK hP 0 rfl rfl 0 (by decide) (hts _ b_356) (fun _ h9 => h9) rfl dX1_begin_1 ?_
  refine lv_aload_n hx hb dX1_begin_4 rfl (lv_at hl 1 rfl) ?_
  refine k_MV (As := [.ref z]) (rest := []) (ci := 3) (q0 := 2) (wr := [(b, .inr (1, [.ref h_net, .ref h_ranks, .ref h_row, .int 0, .int 0, .int 0, .int 4, .int 2, .int 1, .ref h_witnesses, .ref h_contractedBeside, .ref h_wantedFrom, .ref h_wantedTo, .int 0])), (h_contractedBeside, .inl (E 0, 24, .inl (fun _ => 0)))]) ⟨hx, hb, hml, hown, hts⟩ (c_copy l D E sa h_net z k_lengths k_counts k_overs k_arcNumbers k_left n_lengths n_counts n_overs n_arcNumbers n_left) b_1171 b_1172 b_1173 b_81 b_1174 ⟨rfl, hd_X3_copy⟩ ⟨⟨by decide, by decide⟩, by decide, by decide⟩ hK hP hD hS hA hZ [2, 3, 4, 5, 6, 7, 8, 9, 10, 11, 12] [0, 1] rfl rfl (by decide) rfl rfl rfl hl.1 (Nat.le_of_ble_eq_true rfl) dX1_begin_5 (fun u_1 H locs hu hP hD hS _ => ?_)
  have hP : va_P D k_cl [(b, .inr (1, [.ref h_net, .ref h_ranks, .ref h_row, .int 0, .int 0, .int 0, .int 4, .int 2, .int 1, .ref h_witnesses, .ref h_contractedBeside, .ref h_wantedFrom, .ref h_wantedTo, .int 0])), (h_contractedBeside, .inl (E 0, 24, .inl (fun _ => 0))), (h_net, .inr (3, [.ref k_lengths, .ref k_counts, .ref k_overs, .ref k_arcNumbers, .ref k_left, .int 0]))] H := hP
  have hD : va_D A [(b, .inr (1, [.ref h_net, .ref h_ranks, .ref h_row, .int 0, .int 0, .int 0, .int 4, .int 2, .int 1, .ref h_witnesses, .ref h_contractedBeside, .ref h_wantedFrom, .ref h_wantedTo, .int 0])), (h_contractedBeside, .inl (E 0, 24, .inl (fun _ => 0))), (h_net, .inr (3, [.ref k_lengths, .ref k_counts, .ref k_overs, .ref k_arcNumbers, .ref k_left, .int 0]))] := hD
  refine W.eq (g2 := F0 m 8 ls []) rfl ?_
  refine lv_aload_n hx hb dX1_begin_8 rfl (lv_at hl 0 rfl) ?_
  refine va_get (D := D) (ci := 1) (v := .ref h_contractedBeside) (C := RX1) (T := TX1) (N := 14) hx hb hts inX1 hown hK hP 0 rfl rfl 10 (by decide) (hts _ b_378) (fun _ h9 => h9) rfl dX1_begin_9 ?_
  refine lv_iconst (v := 0) hx hb dX1_begin_12 (by decide) ?_
  refine k_MS (As := [.ref h_contractedBeside, .int 0]) (rest := [])  (wr := [(b, .inr (1, [.ref h_net, .ref h_ranks, .ref h_row, .int 0, .int 0, .int 0, .int 4, .int 2, .int 1, .ref h_witnesses, .ref h_contractedBeside, .ref h_wantedFrom, .ref h_wantedTo, .int 0])), (h_net, .inr (3, [.ref k_lengths, .ref k_counts, .ref k_overs, .ref k_arcNumbers, .ref k_left, .int 0]))]) ⟨hx, hb, hml, hown, hts⟩ (c_fill l D E sa h_contractedBeside 24 ((fun _ => 0)) 0 (by decide)) b_1176 b_649 b_98 b_650 hd_J7_fill_53178 ⟨⟨by decide, by decide⟩, by decide, by decide⟩ hK hP hD hS hA hZ [1] [0, 2] rfl rfl (by decide) rfl hl.1 (Nat.le_of_ble_eq_true rfl) dX1_begin_13 (fun u_2 H locs hu hP hD hS _ => ?_)
  obtain ⟨f1_3, rfl⟩ : ∃ z, z = u_2 := ⟨_, rfl⟩
  have hP : va_P D k_cl [(b, .inr (1, [.ref h_net, .ref h_ranks, .ref h_row, .int 0, .int 0, .int 0, .int 4, .int 2, .int 1, .ref h_witnesses, .ref h_contractedBeside, .ref h_wantedFrom, .ref h_wantedTo, .int 0])), (h_net, .inr (3, [.ref k_lengths, .ref k_counts, .ref k_overs, .ref k_arcNumbers, .ref k_left, .int 0])), (h_contractedBeside, .inl (E 0, 24, .inl f1_3))] H := hP
  have hD : va_D A [(b, .inr (1, [.ref h_net, .ref h_ranks, .ref h_row, .int 0, .int 0, .int 0, .int 4, .int 2, .int 1, .ref h_witnesses, .ref h_contractedBeside, .ref h_wantedFrom, .ref h_wantedTo, .int 0])), (h_net, .inr (3, [.ref k_lengths, .ref k_counts, .ref k_overs, .ref k_arcNumbers, .ref k_left, .int 0])), (h_contractedBeside, .inl (E 0, 24, .inl f1_3))] := hD
  refine W.eq (g2 := F0 m 16 ls []) rfl ?_
  refine lv_aload_n hx hb dX1_begin_16 rfl (lv_at hl 0 rfl) ?_
  refine lv_iconst (v := 0) hx hb dX1_begin_17 (by decide) ?_
  refine va_put (D := D) (ci := 1) (v := .int 0) (ty := .int) (C := RX1) (T := TX1) (N := 14) hx hb hts inX1 tyX1 tyX1_ok nmX1 hown hK hP hD hS 0 rfl rfl 4 (by decide) (hts _ b_366) (fun _ h9 => h9) rfl (by decide +kernel) rfl rfl (Nat.le_of_ble_eq_true rfl) dX1_begin_18 (fun H locs hP hD hS => ?_)
  have hP : va_P D k_cl [(b, .inr (1, [.ref h_net, .ref h_ranks, .ref h_row, .int 0, .int 0, .int 0, .int 4, .int 2, .int 1, .ref h_witnesses, .ref h_contractedBeside, .ref h_wantedFrom, .ref h_wantedTo, .int 0])), (h_net, .inr (3, [.ref k_lengths, .ref k_counts, .ref k_overs, .ref k_arcNumbers, .ref k_left, .int 0])), (h_contractedBeside, .inl (E 0, 24, .inl f1_3))] H := hP
  have hD : va_D A [(b, .inr (1, [.ref h_net, .ref h_ranks, .ref h_row, .int 0, .int 0, .int 0, .int 4, .int 2, .int 1, .ref h_witnesses, .ref h_contractedBeside, .ref h_wantedFrom, .ref h_wantedTo, .int 0])), (h_net, .inr (3, [.ref k_lengths, .ref k_counts, .ref k_overs, .ref k_arcNumbers, .ref k_left, .int 0])), (h_contractedBeside, .inl (E 0, 24, .inl f1_3))] := hD
  refine lv_aload_n hx hb dX1_begin_21 rfl (lv_at hl 0 rfl) ?_
  refine lv_iconst (v := 0) hx hb dX1_begin_22 (by decide) ?_
  refine va_put (D := D) (ci := 1) (v := .int 0) (ty := .int) (C := RX1) (T := TX1) (N := 14) hx hb hts inX1 tyX1 tyX1_ok nmX1 hown hK hP hD hS 0 rfl rfl 5 (by decide) (hts _ b_369) (fun _ h9 => h9) rfl (by decide +kernel) rfl rfl (Nat.le_of_ble_eq_true rfl) dX1_begin_23 (fun H locs hP hD hS => ?_)
  have hP : va_P D k_cl [(b, .inr (1, [.ref h_net, .ref h_ranks, .ref h_row, .int 0, .int 0, .int 0, .int 4, .int 2, .int 1, .ref h_witnesses, .ref h_contractedBeside, .ref h_wantedFrom, .ref h_wantedTo, .int 0])), (h_net, .inr (3, [.ref k_lengths, .ref k_counts, .ref k_overs, .ref k_arcNumbers, .ref k_left, .int 0])), (h_contractedBeside, .inl (E 0, 24, .inl f1_3))] H := hP
  have hD : va_D A [(b, .inr (1, [.ref h_net, .ref h_ranks, .ref h_row, .int 0, .int 0, .int 0, .int 4, .int 2, .int 1, .ref h_witnesses, .ref h_contractedBeside, .ref h_wantedFrom, .ref h_wantedTo, .int 0])), (h_net, .inr (3, [.ref k_lengths, .ref k_counts, .ref k_overs, .ref k_arcNumbers, .ref k_left, .int 0])), (h_contractedBeside, .inl (E 0, 24, .inl f1_3))] := hD
  refine lv_aload_n hx hb dX1_begin_26 rfl (lv_at hl 0 rfl) ?_
  refine lv_iconst (v := 1) hx hb dX1_begin_27 (by decide) ?_
  refine va_put (D := D) (ci := 1) (v := .int 1) (ty := .boolean) (C := RX1) (T := TX1) (N := 14) hx hb hts inX1 tyX1 tyX1_ok nmX1 hown hK hP hD hS 0 rfl rfl 3 (by decide) (hts _ b_364) (fun _ h9 => h9) rfl (by decide +kernel) rfl rfl (Nat.le_of_ble_eq_true rfl) dX1_begin_28 (fun H locs hP hD hS => ?_)
  have hP : va_P D k_cl [(b, .inr (1, [.ref h_net, .ref h_ranks, .ref h_row, .int 1, .int 0, .int 0, .int 4, .int 2, .int 1, .ref h_witnesses, .ref h_contractedBeside, .ref h_wantedFrom, .ref h_wantedTo, .int 0])), (h_net, .inr (3, [.ref k_lengths, .ref k_counts, .ref k_overs, .ref k_arcNumbers, .ref k_left, .int 0])), (h_contractedBeside, .inl (E 0, 24, .inl f1_3))] H := hP
  have hD : va_D A [(b, .inr (1, [.ref h_net, .ref h_ranks, .ref h_row, .int 1, .int 0, .int 0, .int 4, .int 2, .int 1, .ref h_witnesses, .ref h_contractedBeside, .ref h_wantedFrom, .ref h_wantedTo, .int 0])), (h_net, .inr (3, [.ref k_lengths, .ref k_counts, .ref k_overs, .ref k_arcNumbers, .ref k_left, .int 0])), (h_contractedBeside, .inl (E 0, 24, .inl f1_3))] := hD
  exact m_v () hx hb hr hlocks rfl trivial (hP.sub [0] rfl) (hD.sub [0] (by decide) rfl) hS (by decide) (by decide) dX1_begin_31
set_option maxRecDepth 20000 in
set_option maxHeartbeats 2000000 in
theorem c_startPrepare (l : Launch) (D : va_G) (E : Nat → ClassId) (sa : Nat → Nat) (a : Nat) (p_tape : Nat) (p_graph : Nat) (p_reader : Nat) (p_ahead : Nat) (p_back : Nat) (p_trail : Nat) (p_landmarks : Nat) (p_hierarchy : Nat) (p_route : Nat) (p_scratch : Nat) (p_toldRow : Nat) (g_xs : Nat) (g_ys : Nat) (g_potentials : Nat) (g_tails : Nat) (g_heads : Nat) (g_weights : Nat) (g_net : Nat) (o_relaxedFrom : Nat) (o_relaxedTo : Nat) (o_walk : Nat) (o_upLengths : Nat) (o_upCounts : Nat) (o_downLengths : Nat) (o_downCounts : Nat) (o_chain : Nat) (h_net : Nat) (h_ranks : Nat) (h_row : Nat) (h_witnesses : Nat) (h_contractedBeside : Nat) (h_wantedFrom : Nat) (h_wantedTo : Nat) (k_lengths : Nat) (k_counts : Nat) (k_overs : Nat) (k_arcNumbers : Nat) (k_left : Nat) (n_lengths : Nat) (n_counts : Nat) (n_overs : Nat) (n_arcNumbers : Nat) (n_left : Nat) : KM l yX9_startPrepare (.code yX9_startPrepare cX9_startPrepare 1 none) 51 1663 0 0 D E sa [.ref a] [(a, .inr (9, [.ref p_tape, .ref p_graph, .ref p_reader, .ref p_ahead, .ref p_back, .ref p_trail, .ref p_landmarks, .ref p_hierarchy, .ref p_route, .ref p_scratch, .ref p_toldRow, .int 0, .int 0])), (p_graph, .inr (0, [.ref g_xs, .ref g_ys, .ref g_potentials, .ref g_tails, .ref g_heads, .ref g_weights, .ref g_net, .int 0, .int 0, .long 0])), (p_route, .inr (5, [.ref o_relaxedFrom, .ref o_relaxedTo, .ref o_walk, .int 0, .int 0, .int 0, .int 0, .int 0, .int 0, .int 0, .int (-1), .long 0, .ref o_upLengths, .ref o_upCounts, .ref o_downLengths, .ref o_downCounts, .ref o_chain])), (p_hierarchy, .inr (1, [.ref h_net, .ref h_ranks, .ref h_row, .int 0, .int 0, .int 0, .int 4, .int 2, .int 1, .ref h_witnesses, .ref h_contractedBeside, .ref h_wantedFrom, .ref h_wantedTo, .int 0])), (h_contractedBeside, .inl (E 0, 24, .inl (fun _ => 0))), (h_net, .inr (3, [.ref k_lengths, .ref k_counts, .ref k_overs, .ref k_arcNumbers, .ref k_left, .int 0])), (k_lengths, .inl (E 1, 576, .inr (.inl (fun _ => 0)))), (k_counts, .inl (E 0, 576, .inl (fun _ => 0))), (k_overs, .inl (E 0, 576, .inl (fun _ => 0))), (k_arcNumbers, .inl (E 0, 576, .inl (fun _ => 0))), (k_left, .inl (E 3, 24, .inl (fun _ => 0))), (g_net, .inr (3, [.ref n_lengths, .ref n_counts, .ref n_overs, .ref n_arcNumbers, .ref n_left, .int 0])), (n_lengths, .inl (E 1, 576, .inr (.inl (fun _ => 0)))), (n_counts, .inl (E 0, 576, .inl (fun _ => 0))), (n_overs, .inl (E 0, 576, .inl (fun _ => 0))), (n_arcNumbers, .inl (E 0, 576, .inl (fun _ => 0)))] (S := Unit) (fun _ => none) (fun _ => True) (fun _ => [(a, .inr (9, [.ref p_tape, .ref p_graph, .ref p_reader, .ref p_ahead, .ref p_back, .ref p_trail, .ref p_landmarks, .ref p_hierarchy, .ref p_route, .ref p_scratch, .ref p_toldRow, .int 0, .int 1])), (p_graph, .inr (0, [.ref g_xs, .ref g_ys, .ref g_potentials, .ref g_tails, .ref g_heads, .ref g_weights, .ref g_net, .int 0, .int 0, .long 0])), (p_hierarchy, .inr (1, [.ref h_net, .ref h_ranks, .ref h_row, .int 1, .int 0, .int 0, .int 4, .int 2, .int 1, .ref h_witnesses, .ref h_contractedBeside, .ref h_wantedFrom, .ref h_wantedTo, .int 0]))]) := by
  refine KM.of (by decide) (Nat.le_of_ble_eq_true rfl) ?_
  intro p e s m below meth c A ls hx hb hr hts hml hown hlocks hnm hK hP hD hA hS hZ hl
  have hown : s.vm.findClass RX9 = some m.cls := hown
  have hl : lv_has ls 1 [(0, .ref a)] := hl
  refine lv_aload_n hx hb dX9_startPrepare_0 rfl (lv_at hl 0 rfl) ?_
  refine va_get (D := D) (ci := 9) (v := .int 0) (C := RX9) (T := TX9) (N := 13) hx hb hts inX9 hown hK hP 0 rfl rfl 12 (by decide) (hts _ b_493) (fun _ h9 => h9) rfl dX9_startPrepare_1 ?_
  refine lv_bipush (v := 24) hx hb dX9_startPrepare_4 (by decide) ?_
  refine lv_icmp_lt (tgt := 20) hx hb dX9_startPrepare_6 (by decide) (fun _ => ?_) (fun h9 => absurd (by decide) h9)
  refine lv_aload_n hx hb dX9_startPrepare_20 rfl (lv_at hl 0 rfl) ?_
  refine lv_dup hx hb dX9_startPrepare_21 rfl ?_
  refine va_get (D := D) (ci := 9) (v := .int 0) (C := RX9) (T := TX9) (N := 13) hx hb hts inX9 hown hK hP 0 rfl rfl 12 (by decide) (hts _ b_493) (fun _ h9 => h9) rfl dX9_startPrepare_22 ?_
  refine lv_iconst (v := 1) hx hb dX9_startPrepare_25 (by decide) ?_
  refine lv_iadd hx hb dX9_startPrepare_26 ?_
  refine k_ti (y := 1) (by decide) ?_
  refine va_put (D := D) (ci := 9) (v := .int 1) (ty := .int) (C := RX9) (T := TX9) (N := 13) hx hb hts inX9 tyX9 tyX9_ok nmX9 hown hK hP hD hS 0 rfl rfl 12 (by decide) (hts _ b_493) (fun _ h9 => h9) rfl (by decide +kernel) rfl rfl (Nat.le_of_ble_eq_true rfl) dX9_startPrepare_27 (fun H locs hP hD hS => ?_)
  have hP : va_P D k_cl [(a, .inr (9, [.ref p_tape, .ref p_graph, .ref p_reader, .ref p_ahead, .ref p_back, .ref p_trail, .ref p_landmarks, .ref p_hierarchy, .ref p_route, .ref p_scratch, .ref p_toldRow, .int 0, .int 1])), (p_graph, .inr (0, [.ref g_xs, .ref g_ys, .ref g_potentials, .ref g_tails, .ref g_heads, .ref g_weights, .ref g_net, .int 0, .int 0, .long 0])), (p_route, .inr (5, [.ref o_relaxedFrom, .ref o_relaxedTo, .ref o_walk, .int 0, .int 0, .int 0, .int 0, .int 0, .int 0, .int 0, .int (-1), .long 0, .ref o_upLengths, .ref o_upCounts, .ref o_downLengths, .ref o_downCounts, .ref o_chain])), (p_hierarchy, .inr (1, [.ref h_net, .ref h_ranks, .ref h_row, .int 0, .int 0, .int 0, .int 4, .int 2, .int 1, .ref h_witnesses, .ref h_contractedBeside, .ref h_wantedFrom, .ref h_wantedTo, .int 0])), (h_contractedBeside, .inl (E 0, 24, .inl (fun _ => 0))), (h_net, .inr (3, [.ref k_lengths, .ref k_counts, .ref k_overs, .ref k_arcNumbers, .ref k_left, .int 0])), (k_lengths, .inl (E 1, 576, .inr (.inl (fun _ => 0)))), (k_counts, .inl (E 0, 576, .inl (fun _ => 0))), (k_overs, .inl (E 0, 576, .inl (fun _ => 0))), (k_arcNumbers, .inl (E 0, 576, .inl (fun _ => 0))), (k_left, .inl (E 3, 24, .inl (fun _ => 0))), (g_net, .inr (3, [.ref n_lengths, .ref n_counts, .ref n_overs, .ref n_arcNumbers, .ref n_left, .int 0])), (n_lengths, .inl (E 1, 576, .inr (.inl (fun _ => 0)))), (n_counts, .inl (E 0, 576, .inl (fun _ => 0))), (n_overs, .inl (E 0, 576, .inl (fun _ => 0))), (n_arcNumbers, .inl (E 0, 576, .inl (fun _ => 0)))] H := hP
  have hD : va_D A [(a, .inr (9, [.ref p_tape, .ref p_graph, .ref p_reader, .ref p_ahead, .ref p_back, .ref p_trail, .ref p_landmarks, .ref p_hierarchy, .ref p_route, .ref p_scratch, .ref p_toldRow, .int 0, .int 1])), (p_graph, .inr (0, [.ref g_xs, .ref g_ys, .ref g_potentials, .ref g_tails, .ref g_heads, .ref g_weights, .ref g_net, .int 0, .int 0, .long 0])), (p_route, .inr (5, [.ref o_relaxedFrom, .ref o_relaxedTo, .ref o_walk, .int 0, .int 0, .int 0, .int 0, .int 0, .int 0, .int 0, .int (-1), .long 0, .ref o_upLengths, .ref o_upCounts, .ref o_downLengths, .ref o_downCounts, .ref o_chain])), (p_hierarchy, .inr (1, [.ref h_net, .ref h_ranks, .ref h_row, .int 0, .int 0, .int 0, .int 4, .int 2, .int 1, .ref h_witnesses, .ref h_contractedBeside, .ref h_wantedFrom, .ref h_wantedTo, .int 0])), (h_contractedBeside, .inl (E 0, 24, .inl (fun _ => 0))), (h_net, .inr (3, [.ref k_lengths, .ref k_counts, .ref k_overs, .ref k_arcNumbers, .ref k_left, .int 0])), (k_lengths, .inl (E 1, 576, .inr (.inl (fun _ => 0)))), (k_counts, .inl (E 0, 576, .inl (fun _ => 0))), (k_overs, .inl (E 0, 576, .inl (fun _ => 0))), (k_arcNumbers, .inl (E 0, 576, .inl (fun _ => 0))), (k_left, .inl (E 3, 24, .inl (fun _ => 0))), (g_net, .inr (3, [.ref n_lengths, .ref n_counts, .ref n_overs, .ref n_arcNumbers, .ref n_left, .int 0])), (n_lengths, .inl (E 1, 576, .inr (.inl (fun _ => 0)))), (n_counts, .inl (E 0, 576, .inl (fun _ => 0))), (n_overs, .inl (E 0, 576, .inl (fun _ => 0))), (n_arcNumbers, .inl (E 0, 576, .inl (fun _ => 0)))] := hD
  refine lv_aload_n hx hb dX9_startPrepare_30 rfl (lv_at hl 0 rfl) ?_
  refine va_get (D := D) (ci := 9) (v := .ref p_route) (C := RX9) (T := TX9) (N := 13) hx hb hts inX9 hown hK hP 0 rfl rfl 8 (by decide) (hts _ b_489) (fun _ h9 => h9) rfl dX9_startPrepare_31 ?_
  refine k_MV (As := []) (rest := []) (ci := 5) (q0 := 2) (wr := [(a, .inr (9, [.ref p_tape, .ref p_graph, .ref p_reader, .ref p_ahead, .ref p_back, .ref p_trail, .ref p_landmarks, .ref p_hierarchy, .ref p_route, .ref p_scratch, .ref p_toldRow, .int 0, .int 1])), (p_graph, .inr (0, [.ref g_xs, .ref g_ys, .ref g_potentials, .ref g_tails, .ref g_heads, .ref g_weights, .ref g_net, .int 0, .int 0, .long 0])), (p_hierarchy, .inr (1, [.ref h_net, .ref h_ranks, .ref h_row, .int 0, .int 0, .int 0, .int 4, .int 2, .int 1, .ref h_witnesses, .ref h_contractedBeside, .ref h_wantedFrom, .ref h_wantedTo, .int 0])), (h_contractedBeside, .inl (E 0, 24, .inl (fun _ => 0))), (h_net, .inr (3, [.ref k_lengths, .ref k_counts, .ref k_overs, .ref k_arcNumbers, .ref k_left, .int 0])), (k_lengths, .inl (E 1, 576, .inr (.inl (fun _ => 0)))), (k_counts, .inl (E 0, 576, .inl (fun _ => 0))), (k_overs, .inl (E 0, 576, .inl (fun _ => 0))), (k_arcNumbers, .inl (E 0, 576, .inl (fun _ => 0))), (k_left, .inl (E 3, 24, .inl (fun _ => 0))), (g_net, .inr (3, [.ref n_lengths, .ref n_counts, .ref n_overs, .ref n_arcNumbers, .ref n_left, .int 0])), (n_lengths, .inl (E 1, 576, .inr (.inl (fun _ => 0)))), (n_counts, .inl (E 0, 576, .inl (fun _ => 0))), (n_overs, .inl (E 0, 576, .inl (fun _ => 0))), (n_arcNumbers, .inl (E 0, 576, .inl (fun _ => 0)))]) ⟨hx, hb, hml, hown, hts⟩ (c_forget l D E sa p_route o_relaxedFrom o_relaxedTo o_walk o_upLengths o_upCounts o_downLengths o_downCounts o_chain) b_666 b_667 b_668 b_87 b_669 ⟨rfl, hd_X5_forget⟩ ⟨⟨by decide, by decide⟩, by decide, by decide⟩ hK hP hD hS hA hZ [2] [0, 1, 3, 4, 5, 6, 7, 8, 9, 10, 11, 12, 13, 14, 15] rfl rfl (by decide) rfl rfl rfl hl.1 (Nat.le_of_ble_eq_true rfl) dX9_startPrepare_34 (fun u_1 H locs hu hP hD hS _ => ?_)
  have hP : va_P D k_cl [(a, .inr (9, [.ref p_tape, .ref p_graph, .ref p_reader, .ref p_ahead, .ref p_back, .ref p_trail, .ref p_landmarks, .ref p_hierarchy, .ref p_route, .ref p_scratch, .ref p_toldRow, .int 0, .int 1])), (p_graph, .inr (0, [.ref g_xs, .ref g_ys, .ref g_potentials, .ref g_tails, .ref g_heads, .ref g_weights, .ref g_net, .int 0, .int 0, .long 0])), (p_hierarchy, .inr (1, [.ref h_net, .ref h_ranks, .ref h_row, .int 0, .int 0, .int 0, .int 4, .int 2, .int 1, .ref h_witnesses, .ref h_contractedBeside, .ref h_wantedFrom, .ref h_wantedTo, .int 0])), (h_contractedBeside, .inl (E 0, 24, .inl (fun _ => 0))), (h_net, .inr (3, [.ref k_lengths, .ref k_counts, .ref k_overs, .ref k_arcNumbers, .ref k_left, .int 0])), (k_lengths, .inl (E 1, 576, .inr (.inl (fun _ => 0)))), (k_counts, .inl (E 0, 576, .inl (fun _ => 0))), (k_overs, .inl (E 0, 576, .inl (fun _ => 0))), (k_arcNumbers, .inl (E 0, 576, .inl (fun _ => 0))), (k_left, .inl (E 3, 24, .inl (fun _ => 0))), (g_net, .inr (3, [.ref n_lengths, .ref n_counts, .ref n_overs, .ref n_arcNumbers, .ref n_left, .int 0])), (n_lengths, .inl (E 1, 576, .inr (.inl (fun _ => 0)))), (n_counts, .inl (E 0, 576, .inl (fun _ => 0))), (n_overs, .inl (E 0, 576, .inl (fun _ => 0))), (n_arcNumbers, .inl (E 0, 576, .inl (fun _ => 0))), (p_route, .inr (5, [.ref o_relaxedFrom, .ref o_relaxedTo, .ref o_walk, .int 0, .int 0, .int 0, .int 0, .int 0, .int 0, .int 0, .int (-1), .long 0, .ref o_upLengths, .ref o_upCounts, .ref o_downLengths, .ref o_downCounts, .ref o_chain]))] H := hP
  have hD : va_D A [(a, .inr (9, [.ref p_tape, .ref p_graph, .ref p_reader, .ref p_ahead, .ref p_back, .ref p_trail, .ref p_landmarks, .ref p_hierarchy, .ref p_route, .ref p_scratch, .ref p_toldRow, .int 0, .int 1])), (p_graph, .inr (0, [.ref g_xs, .ref g_ys, .ref g_potentials, .ref g_tails, .ref g_heads, .ref g_weights, .ref g_net, .int 0, .int 0, .long 0])), (p_hierarchy, .inr (1, [.ref h_net, .ref h_ranks, .ref h_row, .int 0, .int 0, .int 0, .int 4, .int 2, .int 1, .ref h_witnesses, .ref h_contractedBeside, .ref h_wantedFrom, .ref h_wantedTo, .int 0])), (h_contractedBeside, .inl (E 0, 24, .inl (fun _ => 0))), (h_net, .inr (3, [.ref k_lengths, .ref k_counts, .ref k_overs, .ref k_arcNumbers, .ref k_left, .int 0])), (k_lengths, .inl (E 1, 576, .inr (.inl (fun _ => 0)))), (k_counts, .inl (E 0, 576, .inl (fun _ => 0))), (k_overs, .inl (E 0, 576, .inl (fun _ => 0))), (k_arcNumbers, .inl (E 0, 576, .inl (fun _ => 0))), (k_left, .inl (E 3, 24, .inl (fun _ => 0))), (g_net, .inr (3, [.ref n_lengths, .ref n_counts, .ref n_overs, .ref n_arcNumbers, .ref n_left, .int 0])), (n_lengths, .inl (E 1, 576, .inr (.inl (fun _ => 0)))), (n_counts, .inl (E 0, 576, .inl (fun _ => 0))), (n_overs, .inl (E 0, 576, .inl (fun _ => 0))), (n_arcNumbers, .inl (E 0, 576, .inl (fun _ => 0))), (p_route, .inr (5, [.ref o_relaxedFrom, .ref o_relaxedTo, .ref o_walk, .int 0, .int 0, .int 0, .int 0, .int 0, .int 0, .int 0, .int (-1), .long 0, .ref o_upLengths, .ref o_upCounts, .ref o_downLengths, .ref o_downCounts, .ref o_chain]))] := hD
  refine W.eq (g2 := F0 m 37 ls []) rfl ?_
  refine lv_aload_n hx hb dX9_startPrepare_37 rfl (lv_at hl 0 rfl) ?_
  refine va_get (D := D) (ci := 9) (v := .ref p_hierarchy) (C := RX9) (T := TX9) (N := 13) hx hb hts inX9 hown hK hP 0 rfl rfl 7 (by decide) (hts _ b_488) (fun _ h9 => h9) rfl dX9_startPrepare_38 ?_
  refine lv_aload_n hx hb dX9_startPrepare_41 rfl (lv_at hl 0 rfl) ?_
  refine va_get (D := D) (ci := 9) (v := .ref p_graph) (C := RX9) (T := TX9) (N := 13) hx hb hts inX9 hown hK hP 0 rfl rfl 1 (by decide) (hts _ b_482) (fun _ h9 => h9) rfl dX9_startPrepare_42 ?_
  refine va_get (D := D) (ci := 0) (v := .ref g_net) (C := RX0) (T := TX0) (N := 10) hx hb hts inX0 hown hK hP 1 rfl rfl 6 (by decide) (hts _ b_194) (fun _ h9 => h9) rfl dX9_startPrepare_45 ?_
  refine k_MV (As := [.ref g_net]) (rest := []) (ci := 1) (q0 := 2) (wr := [(a, .inr (9, [.ref p_tape, .ref p_graph, .ref p_reader, .ref p_ahead, .ref p_back, .ref p_trail, .ref p_landmarks, .ref p_hierarchy, .ref p_route, .ref p_scratch, .ref p_toldRow, .int 0, .int 1])), (p_graph, .inr (0, [.ref g_xs, .ref g_ys, .ref g_potentials, .ref g_tails, .ref g_heads, .ref g_weights, .ref g_net, .int 0, .int 0, .long 0])), (p_route, .inr (5, [.ref o_relaxedFrom, .ref o_relaxedTo, .ref o_walk, .int 0, .int 0, .int 0, .int 0, .int 0, .int 0, .int 0, .int (-1), .long 0, .ref o_upLengths, .ref o_upCounts, .ref o_downLengths, .ref o_downCounts, .ref o_chain]))]) ⟨hx, hb, hml, hown, hts⟩ (c_begin l D E sa p_hierarchy g_net h_net h_ranks h_row h_witnesses h_contractedBeside h_wantedFrom h_wantedTo k_lengths k_counts k_overs k_arcNumbers k_left n_lengths n_counts n_overs n_arcNumbers n_left) b_1167 b_1168 b_1169 b_86 b_1170 ⟨rfl, hd_X1_begin⟩ ⟨⟨by decide, by decide⟩, by decide, by decide⟩ hK hP hD hS hA hZ [2, 3, 4, 5, 6, 7, 8, 9, 10, 11, 12, 13, 14] [0, 1, 15] rfl rfl (by decide) rfl rfl rfl hl.1 (Nat.le_of_ble_eq_true rfl) dX9_startPrepare_48 (fun u_2 H locs hu hP hD hS _ => ?_)
  have hP : va_P D k_cl [(a, .inr (9, [.ref p_tape, .ref p_graph, .ref p_reader, .ref p_ahead, .ref p_back, .ref p_trail, .ref p_landmarks, .ref p_hierarchy, .ref p_route, .ref p_scratch, .ref p_toldRow, .int 0, .int 1])), (p_graph, .inr (0, [.ref g_xs, .ref g_ys, .ref g_potentials, .ref g_tails, .ref g_heads, .ref g_weights, .ref g_net, .int 0, .int 0, .long 0])), (p_route, .inr (5, [.ref o_relaxedFrom, .ref o_relaxedTo, .ref o_walk, .int 0, .int 0, .int 0, .int 0, .int 0, .int 0, .int 0, .int (-1), .long 0, .ref o_upLengths, .ref o_upCounts, .ref o_downLengths, .ref o_downCounts, .ref o_chain])), (p_hierarchy, .inr (1, [.ref h_net, .ref h_ranks, .ref h_row, .int 1, .int 0, .int 0, .int 4, .int 2, .int 1, .ref h_witnesses, .ref h_contractedBeside, .ref h_wantedFrom, .ref h_wantedTo, .int 0]))] H := hP
  have hD : va_D A [(a, .inr (9, [.ref p_tape, .ref p_graph, .ref p_reader, .ref p_ahead, .ref p_back, .ref p_trail, .ref p_landmarks, .ref p_hierarchy, .ref p_route, .ref p_scratch, .ref p_toldRow, .int 0, .int 1])), (p_graph, .inr (0, [.ref g_xs, .ref g_ys, .ref g_potentials, .ref g_tails, .ref g_heads, .ref g_weights, .ref g_net, .int 0, .int 0, .long 0])), (p_route, .inr (5, [.ref o_relaxedFrom, .ref o_relaxedTo, .ref o_walk, .int 0, .int 0, .int 0, .int 0, .int 0, .int 0, .int 0, .int (-1), .long 0, .ref o_upLengths, .ref o_upCounts, .ref o_downLengths, .ref o_downCounts, .ref o_chain])), (p_hierarchy, .inr (1, [.ref h_net, .ref h_ranks, .ref h_row, .int 1, .int 0, .int 0, .int 4, .int 2, .int 1, .ref h_witnesses, .ref h_contractedBeside, .ref h_wantedFrom, .ref h_wantedTo, .int 0]))] := hD
  refine W.eq (g2 := F0 m 51 ls []) rfl ?_
  exact m_v () hx hb hr hlocks rfl trivial (hP.sub [0, 1, 3] rfl) (hD.sub [0, 1, 3] (by decide) rfl) hS (by decide) (by decide) dX9_startPrepare_51
set_option maxRecDepth 20000 in
set_option maxHeartbeats 2000000 in
theorem c_prepare (l : Launch) (D : va_G) (E : Nat → ClassId) (sa : Nat → Nat) (a : Nat) (p_tape : Nat) (p_graph : Nat) (p_reader : Nat) (p_ahead : Nat) (p_back : Nat) (p_trail : Nat) (p_landmarks : Nat) (p_hierarchy : Nat) (p_route : Nat) (p_scratch : Nat) (p_toldRow : Nat) (g_xs : Nat) (g_ys : Nat) (g_potentials : Nat) (g_tails : Nat) (g_heads : Nat) (g_weights : Nat) (g_net : Nat) (o_relaxedFrom : Nat) (o_relaxedTo : Nat) (o_walk : Nat) (o_upLengths : Nat) (o_upCounts : Nat) (o_downLengths : Nat) (o_downCounts : Nat) (o_chain : Nat) (h_net : Nat) (h_ranks : Nat) (h_row : Nat) (h_witnesses : Nat) (h_contractedBeside : Nat) (h_wantedFrom : Nat) (h_wantedTo : Nat) (k_lengths : Nat) (k_counts : Nat) (k_overs : Nat) (k_arcNumbers : Nat) (k_left : Nat) (n_lengths : Nat) (n_counts : Nat) (n_overs : Nat) (n_arcNumbers : Nat) (n_left : Nat) : KM l yX9_prepare (.code yX9_prepare cX9_prepare 2 (some .int)) 64 2083 0 0 D E sa [.ref a] [(a, .inr (9, [.ref p_tape, .ref p_graph, .ref p_reader, .ref p_ahead, .ref p_back, .ref p_trail, .ref p_landmarks, .ref p_hierarchy, .ref p_route, .ref p_scratch, .ref p_toldRow, .int 0, .int 0])), (p_graph, .inr (0, [.ref g_xs, .ref g_ys, .ref g_potentials, .ref g_tails, .ref g_heads, .ref g_weights, .ref g_net, .int 0, .int 0, .long 0])), (p_route, .inr (5, [.ref o_relaxedFrom, .ref o_relaxedTo, .ref o_walk, .int 0, .int 0, .int 0, .int 0, .int 0, .int 0, .int 0, .int (-1), .long 0, .ref o_upLengths, .ref o_upCounts, .ref o_downLengths, .ref o_downCounts, .ref o_chain])), (p_hierarchy, .inr (1, [.ref h_net, .ref h_ranks, .ref h_row, .int 0, .int 0, .int 0, .int 4, .int 2, .int 1, .ref h_witnesses, .ref h_contractedBeside, .ref h_wantedFrom, .ref h_wantedTo, .int 0])), (h_contractedBeside, .inl (E 0, 24, .inl (fun _ => 0))), (h_net, .inr (3, [.ref k_lengths, .ref k_counts, .ref k_overs, .ref k_arcNumbers, .ref k_left, .int 0])), (k_lengths, .inl (E 1, 576, .inr (.inl (fun _ => 0)))), (k_counts, .inl (E 0, 576, .inl (fun _ => 0))), (k_overs, .inl (E 0, 576, .inl (fun _ => 0))), (k_arcNumbers, .inl (E 0, 576, .inl (fun _ => 0))), (k_left, .inl (E 3, 24, .inl (fun _ => 0))), (g_net, .inr (3, [.ref n_lengths, .ref n_counts, .ref n_overs, .ref n_arcNumbers, .ref n_left, .int 0])), (n_lengths, .inl (E 1, 576, .inr (.inl (fun _ => 0)))), (n_counts, .inl (E 0, 576, .inl (fun _ => 0))), (n_overs, .inl (E 0, 576, .inl (fun _ => 0))), (n_arcNumbers, .inl (E 0, 576, .inl (fun _ => 0)))] (S := Unit) (fun _ => some (.int 0)) (fun _ => True) (fun _ => []) := by
  refine KM.of (by decide) (Nat.le_of_ble_eq_true rfl) ?_
  intro p e s m below meth c A ls hx hb hr hts hml hown hlocks hnm hK hP hD hA hS hZ hl
  have hown : s.vm.findClass RX9 = some m.cls := hown
  have hl : lv_has ls 2 [(0, .ref a)] := hl
  refine lv_aload_n hx hb dX9_prepare_0 rfl (lv_at hl 0 rfl) ?_
  refine k_MV (As := []) (rest := []) (ci := 9) (q0 := 0) (wr := []) ⟨hx, hb, hml, hown, hts⟩ (c_startPrepare l D E sa a p_tape p_graph p_reader p_ahead p_back p_trail p_landmarks p_hierarchy p_route p_scratch p_toldRow g_xs g_ys g_potentials g_tails g_heads g_weights g_net o_relaxedFrom o_relaxedTo o_walk o_upLengths o_upCounts o_downLengths o_downCounts o_chain h_net h_ranks h_row h_witnesses h_contractedBeside h_wantedFrom h_wantedTo k_lengths k_counts k_overs k_arcNumbers k_left n_lengths n_counts n_overs n_arcNumbers n_left) b_1147 b_1149 b_25 b_78 b_1150 ⟨rfl, hd_X9_startPrepare⟩ ⟨⟨by decide, by decide⟩, by decide, by decide⟩ hK hP hD hS hA hZ [0, 1, 2, 3, 4, 5, 6, 7, 8, 9, 10, 11, 12, 13, 14, 15] [] rfl rfl (by decide) rfl rfl rfl hl.1 (Nat.le_of_ble_eq_true rfl) dX9_prepare_1 (fun u_1 H locs hu hP hD hS _ => ?_)
  have hP : va_P D k_cl [(a, .inr (9, [.ref p_tape, .ref p_graph, .ref p_reader, .ref p_ahead, .ref p_back, .ref p_trail, .ref p_landmarks, .ref p_hierarchy, .ref p_route, .ref p_scratch, .ref p_toldRow, .int 0, .int 1])), (p_graph, .inr (0, [.ref g_xs, .ref g_ys, .ref g_potentials, .ref g_tails, .ref g_heads, .ref g_weights, .ref g_net, .int 0, .int 0, .long 0])), (p_hierarchy, .inr (1, [.ref h_net, .ref h_ranks, .ref h_row, .int 1, .int 0, .int 0, .int 4, .int 2, .int 1, .ref h_witnesses, .ref h_contractedBeside, .ref h_wantedFrom, .ref h_wantedTo, .int 0]))] H := hP
  have hD : va_D A [(a, .inr (9, [.ref p_tape, .ref p_graph, .ref p_reader, .ref p_ahead, .ref p_back, .ref p_trail, .ref p_landmarks, .ref p_hierarchy, .ref p_route, .ref p_scratch, .ref p_toldRow, .int 0, .int 1])), (p_graph, .inr (0, [.ref g_xs, .ref g_ys, .ref g_potentials, .ref g_tails, .ref g_heads, .ref g_weights, .ref g_net, .int 0, .int 0, .long 0])), (p_hierarchy, .inr (1, [.ref h_net, .ref h_ranks, .ref h_row, .int 1, .int 0, .int 0, .int 4, .int 2, .int 1, .ref h_witnesses, .ref h_contractedBeside, .ref h_wantedFrom, .ref h_wantedTo, .int 0]))] := hD
  refine W.eq (g2 := F0 m 4 ls []) rfl ?_
  refine lv_iconst (v := 0) hx hb dX9_prepare_4 (by decide) ?_
  refine lv_istore_n (lv' := [(1, .int 0), (0, .ref a)]) hx hb dX9_prepare_5 rfl hl (by decide) rfl (fun ls hl => ?_)
  refine lv_iload_n hx hb dX9_prepare_6 rfl (lv_at hl 0 rfl) ?_
  refine lv_aload_n hx hb dX9_prepare_7 rfl (lv_at hl 1 rfl) ?_
  refine va_get (D := D) (ci := 9) (v := .ref p_graph) (C := RX9) (T := TX9) (N := 13) hx hb hts inX9 hown hK hP 0 rfl rfl 1 (by decide) (hts _ b_482) (fun _ h9 => h9) rfl dX9_prepare_8 ?_
  refine va_get (D := D) (ci := 0) (v := .int 0) (C := RX0) (T := TX0) (N := 10) hx hb hts inX0 hown hK hP 1 rfl rfl 7 (by decide) (hts _ b_197) (fun _ h9 => h9) rfl dX9_prepare_11 ?_
  refine lv_icmp_ge (tgt := 37) hx hb dX9_prepare_14 (by decide) (fun _ => ?_) (fun h9 => absurd (by decide) h9)
  refine lv_aload_n hx hb dX9_prepare_37 rfl (lv_at hl 1 rfl) ?_
  refine va_get (D := D) (ci := 9) (v := .ref p_hierarchy) (C := RX9) (T := TX9) (N := 13) hx hb hts inX9 hown hK hP 0 rfl rfl 7 (by decide) (hts _ b_488) (fun _ h9 => h9) rfl dX9_prepare_38 ?_
  refine va_get (D := D) (ci := 1) (v := .int 0) (C := RX1) (T := TX1) (N := 14) hx hb hts inX1 hown hK hP 2 rfl rfl 5 (by decide) (hts _ b_370) (fun _ h9 => h9) rfl dX9_prepare_41 ?_
  exact m_i () hx hb hr hlocks rfl trivial (hP.sub [] rfl) (hD.sub [] (by decide) rfl) hS (by decide) (by decide) dX9_prepare_44
set_option maxRecDepth 20000 in
set_option maxHeartbeats 2000000 in
theorem c_prepareTold (l : Launch) (D : va_G) (E : Nat → ClassId) (sa : Nat → Nat) (a : Nat) (p_tape : Nat) (p_graph : Nat) (p_reader : Nat) (p_ahead : Nat) (p_back : Nat) (p_trail : Nat) (p_landmarks : Nat) (p_hierarchy : Nat) (p_route : Nat) (p_scratch : Nat) (p_toldRow : Nat) (g_xs : Nat) (g_ys : Nat) (g_potentials : Nat) (g_tails : Nat) (g_heads : Nat) (g_weights : Nat) (g_net : Nat) (o_relaxedFrom : Nat) (o_relaxedTo : Nat) (o_walk : Nat) (o_upLengths : Nat) (o_upCounts : Nat) (o_downLengths : Nat) (o_downCounts : Nat) (o_chain : Nat) (h_net : Nat) (h_ranks : Nat) (h_row : Nat) (h_witnesses : Nat) (h_contractedBeside : Nat) (h_wantedFrom : Nat) (h_wantedTo : Nat) (k_lengths : Nat) (k_counts : Nat) (k_overs : Nat) (k_arcNumbers : Nat) (k_left : Nat) (n_lengths : Nat) (n_counts : Nat) (n_overs : Nat) (n_arcNumbers : Nat) (n_left : Nat) : KM l yX9_prepareTold (.code yX9_prepareTold cX9_prepareTold 2 (some .int)) 64 2083 0 0 D E sa [.ref a] [(a, .inr (9, [.ref p_tape, .ref p_graph, .ref p_reader, .ref p_ahead, .ref p_back, .ref p_trail, .ref p_landmarks, .ref p_hierarchy, .ref p_route, .ref p_scratch, .ref p_toldRow, .int 0, .int 0])), (p_graph, .inr (0, [.ref g_xs, .ref g_ys, .ref g_potentials, .ref g_tails, .ref g_heads, .ref g_weights, .ref g_net, .int 0, .int 0, .long 0])), (p_route, .inr (5, [.ref o_relaxedFrom, .ref o_relaxedTo, .ref o_walk, .int 0, .int 0, .int 0, .int 0, .int 0, .int 0, .int 0, .int (-1), .long 0, .ref o_upLengths, .ref o_upCounts, .ref o_downLengths, .ref o_downCounts, .ref o_chain])), (p_hierarchy, .inr (1, [.ref h_net, .ref h_ranks, .ref h_row, .int 0, .int 0, .int 0, .int 4, .int 2, .int 1, .ref h_witnesses, .ref h_contractedBeside, .ref h_wantedFrom, .ref h_wantedTo, .int 0])), (h_contractedBeside, .inl (E 0, 24, .inl (fun _ => 0))), (h_net, .inr (3, [.ref k_lengths, .ref k_counts, .ref k_overs, .ref k_arcNumbers, .ref k_left, .int 0])), (k_lengths, .inl (E 1, 576, .inr (.inl (fun _ => 0)))), (k_counts, .inl (E 0, 576, .inl (fun _ => 0))), (k_overs, .inl (E 0, 576, .inl (fun _ => 0))), (k_arcNumbers, .inl (E 0, 576, .inl (fun _ => 0))), (k_left, .inl (E 3, 24, .inl (fun _ => 0))), (g_net, .inr (3, [.ref n_lengths, .ref n_counts, .ref n_overs, .ref n_arcNumbers, .ref n_left, .int 0])), (n_lengths, .inl (E 1, 576, .inr (.inl (fun _ => 0)))), (n_counts, .inl (E 0, 576, .inl (fun _ => 0))), (n_overs, .inl (E 0, 576, .inl (fun _ => 0))), (n_arcNumbers, .inl (E 0, 576, .inl (fun _ => 0)))] (S := Unit) (fun _ => some (.int 0)) (fun _ => True) (fun _ => []) := by
  refine KM.of (by decide) (Nat.le_of_ble_eq_true rfl) ?_
  intro p e s m below meth c A ls hx hb hr hts hml hown hlocks hnm hK hP hD hA hS hZ hl
  have hown : s.vm.findClass RX9 = some m.cls := hown
  have hl : lv_has ls 2 [(0, .ref a)] := hl
  refine lv_aload_n hx hb dX9_prepareTold_0 rfl (lv_at hl 0 rfl) ?_
  refine va_get (D := D) (ci := 9) (v := .int 0) (C := RX9) (T := TX9) (N := 13) hx hb hts inX9 hown hK hP 0 rfl rfl 11 (by decide) (hts _ b_492) (fun _ h9 => h9) rfl dX9_prepareTold_1 ?_
  refine lv_aload_n hx hb dX9_prepareTold_4 rfl (lv_at hl 0 rfl) ?_
  refine va_get (D := D) (ci := 9) (v := .ref p_graph) (C := RX9) (T := TX9) (N := 13) hx hb hts inX9 hown hK hP 0 rfl rfl 1 (by decide) (hts _ b_482) (fun _ h9 => h9) rfl dX9_prepareTold_5 ?_
  refine va_get (D := D) (ci := 0) (v := .int 0) (C := RX0) (T := TX0) (N := 10) hx hb hts inX0 hown hK hP 1 rfl rfl 7 (by decide) (hts _ b_197) (fun _ h9 => h9) rfl dX9_prepareTold_8 ?_
  refine lv_icmp_eq (tgt := 25) hx hb dX9_prepareTold_11 (by decide) (fun _ => ?_) (fun h9 => absurd (by decide) h9)
  refine lv_aload_n hx hb dX9_prepareTold_25 rfl (lv_at hl 0 rfl) ?_
  refine k_MV (As := []) (rest := []) (ci := 9) (q0 := 0) (wr := []) ⟨hx, hb, hml, hown, hts⟩ (c_startPrepare l D E sa a p_tape p_graph p_reader p_ahead p_back p_trail p_landmarks p_hierarchy p_route p_scratch p_toldRow g_xs g_ys g_potentials g_tails g_heads g_weights g_net o_relaxedFrom o_relaxedTo o_walk o_upLengths o_upCounts o_downLengths o_downCounts o_chain h_net h_ranks h_row h_witnesses h_contractedBeside h_wantedFrom h_wantedTo k_lengths k_counts k_overs k_arcNumbers k_left n_lengths n_counts n_overs n_arcNumbers n_left) b_1147 b_1149 b_25 b_78 b_1150 ⟨rfl, hd_X9_startPrepare⟩ ⟨⟨by decide, by decide⟩, by decide, by decide⟩ hK hP hD hS hA hZ [0, 1, 2, 3, 4, 5, 6, 7, 8, 9, 10, 11, 12, 13, 14, 15] [] rfl rfl (by decide) rfl rfl rfl hl.1 (Nat.le_of_ble_eq_true rfl) dX9_prepareTold_26 (fun u_1 H locs hu hP hD hS _ => ?_)
  have hP : va_P D k_cl [(a, .inr (9, [.ref p_tape, .ref p_graph, .ref p_reader, .ref p_ahead, .ref p_back, .ref p_trail, .ref p_landmarks, .ref p_hierarchy, .ref p_route, .ref p_scratch, .ref p_toldRow, .int 0, .int 1])), (p_graph, .inr (0, [.ref g_xs, .ref g_ys, .ref g_potentials, .ref g_tails, .ref g_heads, .ref g_weights, .ref g_net, .int 0, .int 0, .long 0])), (p_hierarchy, .inr (1, [.ref h_net, .ref h_ranks, .ref h_row, .int 1, .int 0, .int 0, .int 4, .int 2, .int 1, .ref h_witnesses, .ref h_contractedBeside, .ref h_wantedFrom, .ref h_wantedTo, .int 0]))] H := hP
  have hD : va_D A [(a, .inr (9, [.ref p_tape, .ref p_graph, .ref p_reader, .ref p_ahead, .ref p_back, .ref p_trail, .ref p_landmarks, .ref p_hierarchy, .ref p_route, .ref p_scratch, .ref p_toldRow, .int 0, .int 1])), (p_graph, .inr (0, [.ref g_xs, .ref g_ys, .ref g_potentials, .ref g_tails, .ref g_heads, .ref g_weights, .ref g_net, .int 0, .int 0, .long 0])), (p_hierarchy, .inr (1, [.ref h_net, .ref h_ranks, .ref h_row, .int 1, .int 0, .int 0, .int 4, .int 2, .int 1, .ref h_witnesses, .ref h_contractedBeside, .ref h_wantedFrom, .ref h_wantedTo, .int 0]))] := hD
  refine W.eq (g2 := F0 m 29 ls []) rfl ?_
  refine lv_iconst (v := 0) hx hb dX9_prepareTold_29 (by decide) ?_
  refine lv_istore_n (lv' := [(1, .int 0), (0, .ref a)]) hx hb dX9_prepareTold_30 rfl hl (by decide) rfl (fun ls hl => ?_)
  refine lv_iload_n hx hb dX9_prepareTold_31 rfl (lv_at hl 0 rfl) ?_
  refine lv_aload_n hx hb dX9_prepareTold_32 rfl (lv_at hl 1 rfl) ?_
  refine va_get (D := D) (ci := 9) (v := .int 0) (C := RX9) (T := TX9) (N := 13) hx hb hts inX9 hown hK hP 0 rfl rfl 11 (by decide) (hts _ b_492) (fun _ h9 => h9) rfl dX9_prepareTold_33 ?_
  refine lv_icmp_ge (tgt := 58) hx hb dX9_prepareTold_36 (by decide) (fun _ => ?_) (fun h9 => absurd (by decide) h9)
  refine lv_aload_n hx hb dX9_prepareTold_58 rfl (lv_at hl 1 rfl) ?_
  refine lv_iconst (v := 0) hx hb dX9_prepareTold_59 (by decide) ?_
  refine va_put (D := D) (ci := 9) (v := .int 0) (ty := .int) (C := RX9) (T := TX9) (N := 13) hx hb hts inX9 tyX9 tyX9_ok nmX9 hown hK hP hD hS 0 rfl rfl 11 (by decide) (hts _ b_492) (fun _ h9 => h9) rfl (by decide +kernel) rfl rfl (Nat.le_of_ble_eq_true rfl) dX9_prepareTold_60 (fun H locs hP hD hS => ?_)
  have hP : va_P D k_cl [(a, .inr (9, [.ref p_tape, .ref p_graph, .ref p_reader, .ref p_ahead, .ref p_back, .ref p_trail, .ref p_landmarks, .ref p_hierarchy, .ref p_route, .ref p_scratch, .ref p_toldRow, .int 0, .int 1])), (p_graph, .inr (0, [.ref g_xs, .ref g_ys, .ref g_potentials, .ref g_tails, .ref g_heads, .ref g_weights, .ref g_net, .int 0, .int 0, .long 0])), (p_hierarchy, .inr (1, [.ref h_net, .ref h_ranks, .ref h_row, .int 1, .int 0, .int 0, .int 4, .int 2, .int 1, .ref h_witnesses, .ref h_contractedBeside, .ref h_wantedFrom, .ref h_wantedTo, .int 0]))] H := hP
  have hD : va_D A [(a, .inr (9, [.ref p_tape, .ref p_graph, .ref p_reader, .ref p_ahead, .ref p_back, .ref p_trail, .ref p_landmarks, .ref p_hierarchy, .ref p_route, .ref p_scratch, .ref p_toldRow, .int 0, .int 1])), (p_graph, .inr (0, [.ref g_xs, .ref g_ys, .ref g_potentials, .ref g_tails, .ref g_heads, .ref g_weights, .ref g_net, .int 0, .int 0, .long 0])), (p_hierarchy, .inr (1, [.ref h_net, .ref h_ranks, .ref h_row, .int 1, .int 0, .int 0, .int 4, .int 2, .int 1, .ref h_witnesses, .ref h_contractedBeside, .ref h_wantedFrom, .ref h_wantedTo, .int 0]))] := hD
  refine lv_aload_n hx hb dX9_prepareTold_63 rfl (lv_at hl 1 rfl) ?_
  refine va_get (D := D) (ci := 9) (v := .ref p_hierarchy) (C := RX9) (T := TX9) (N := 13) hx hb hts inX9 hown hK hP 0 rfl rfl 7 (by decide) (hts _ b_488) (fun _ h9 => h9) rfl dX9_prepareTold_64 ?_
  refine va_get (D := D) (ci := 1) (v := .int 0) (C := RX1) (T := TX1) (N := 14) hx hb hts inX1 hown hK hP 2 rfl rfl 5 (by decide) (hts _ b_370) (fun _ h9 => h9) rfl dX9_prepareTold_67 ?_
  exact m_i () hx hb hr hlocks rfl trivial (hP.sub [] rfl) (hD.sub [] (by decide) rfl) hS (by decide) (by decide) dX9_prepareTold_70
set_option maxRecDepth 20000 in
set_option maxHeartbeats 2000000 in
theorem c_remake (l : Launch) (D : va_G) (E : Nat → ClassId) (sa : Nat → Nat) (a : Nat) (p_tape : Nat) (p_graph : Nat) (p_reader : Nat) (p_ahead : Nat) (p_back : Nat) (p_trail : Nat) (p_landmarks : Nat) (p_hierarchy : Nat) (p_route : Nat) (p_scratch : Nat) (p_toldRow : Nat) (g_xs : Nat) (g_ys : Nat) (g_potentials : Nat) (g_tails : Nat) (g_heads : Nat) (g_weights : Nat) (g_net : Nat) (o_relaxedFrom : Nat) (o_relaxedTo : Nat) (o_walk : Nat) (o_upLengths : Nat) (o_upCounts : Nat) (o_downLengths : Nat) (o_downCounts : Nat) (o_chain : Nat) (h_net : Nat) (h_ranks : Nat) (h_row : Nat) (h_witnesses : Nat) (h_contractedBeside : Nat) (h_wantedFrom : Nat) (h_wantedTo : Nat) (k_lengths : Nat) (k_counts : Nat) (k_overs : Nat) (k_arcNumbers : Nat) (k_left : Nat) (n_lengths : Nat) (n_counts : Nat) (n_overs : Nat) (n_arcNumbers : Nat) (n_left : Nat) : KM l yX9_remake (.code yX9_remake cX9_remake 3 (some .int)) 64 2083 0 0 D E sa [.ref a] [(a, .inr (9, [.ref p_tape, .ref p_graph, .ref p_reader, .ref p_ahead, .ref p_back, .ref p_trail, .ref p_landmarks, .ref p_hierarchy, .ref p_route, .ref p_scratch, .ref p_toldRow, .int 0, .int 0])), (p_graph, .inr (0, [.ref g_xs, .ref g_ys, .ref g_potentials, .ref g_tails, .ref g_heads, .ref g_weights, .ref g_net, .int 0, .int 0, .long 0])), (p_route, .inr (5, [.ref o_relaxedFrom, .ref o_relaxedTo, .ref o_walk, .int 0, .int 0, .int 0, .int 0, .int 0, .int 0, .int 0, .int (-1), .long 0, .ref o_upLengths, .ref o_upCounts, .ref o_downLengths, .ref o_downCounts, .ref o_chain])), (p_hierarchy, .inr (1, [.ref h_net, .ref h_ranks, .ref h_row, .int 0, .int 0, .int 0, .int 4, .int 2, .int 1, .ref h_witnesses, .ref h_contractedBeside, .ref h_wantedFrom, .ref h_wantedTo, .int 0])), (h_contractedBeside, .inl (E 0, 24, .inl (fun _ => 0))), (h_net, .inr (3, [.ref k_lengths, .ref k_counts, .ref k_overs, .ref k_arcNumbers, .ref k_left, .int 0])), (k_lengths, .inl (E 1, 576, .inr (.inl (fun _ => 0)))), (k_counts, .inl (E 0, 576, .inl (fun _ => 0))), (k_overs, .inl (E 0, 576, .inl (fun _ => 0))), (k_arcNumbers, .inl (E 0, 576, .inl (fun _ => 0))), (k_left, .inl (E 3, 24, .inl (fun _ => 0))), (g_net, .inr (3, [.ref n_lengths, .ref n_counts, .ref n_overs, .ref n_arcNumbers, .ref n_left, .int 0])), (n_lengths, .inl (E 1, 576, .inr (.inl (fun _ => 0)))), (n_counts, .inl (E 0, 576, .inl (fun _ => 0))), (n_overs, .inl (E 0, 576, .inl (fun _ => 0))), (n_arcNumbers, .inl (E 0, 576, .inl (fun _ => 0)))] (S := Unit) (fun _ => some (.int 0)) (fun _ => True) (fun _ => []) := by
  refine KM.of (by decide) (Nat.le_of_ble_eq_true rfl) ?_
  intro p e s m below meth c A ls hx hb hr hts hml hown hlocks hnm hK hP hD hA hS hZ hl
  have hown : s.vm.findClass RX9 = some m.cls := hown
  have hl : lv_has ls 3 [(0, .ref a)] := hl
  refine lv_aload_n hx hb dX9_remake_0 rfl (lv_at hl 0 rfl) ?_
  refine va_get (D := D) (ci := 9) (v := .ref p_hierarchy) (C := RX9) (T := TX9) (N := 13) hx hb hts inX9 hown hK hP 0 rfl rfl 7 (by decide) (hts _ b_488) (fun _ h9 => h9) rfl dX9_remake_1 ?_
  refine va_get (D := D) (ci := 1) (v := .int 0) (C := RX1) (T := TX1) (N := 14) hx hb hts inX1 hown hK hP 3 rfl rfl 4 (by decide) (hts _ b_368) (fun _ h9 => h9) rfl dX9_remake_4 ?_
  refine lv_istore_n (lv' := [(1, .int 0), (0, .ref a)]) hx hb dX9_remake_7 rfl hl (by decide) rfl (fun ls hl => ?_)
  refine lv_aload_n hx hb dX9_remake_8 rfl (lv_at hl 1 rfl) ?_
  refine k_MV (As := []) (rest := []) (ci := 9) (q0 := 0) (wr := []) ⟨hx, hb, hml, hown, hts⟩ (c_startPrepare l D E sa a p_tape p_graph p_reader p_ahead p_back p_trail p_landmarks p_hierarchy p_route p_scratch p_toldRow g_xs g_ys g_potentials g_tails g_heads g_weights g_net o_relaxedFrom o_relaxedTo o_walk o_upLengths o_upCounts o_downLengths o_downCounts o_chain h_net h_ranks h_row h_witnesses h_contractedBeside h_wantedFrom h_wantedTo k_lengths k_counts k_overs k_arcNumbers k_left n_lengths n_counts n_overs n_arcNumbers n_left) b_1147 b_1149 b_25 b_78 b_1150 ⟨rfl, hd_X9_startPrepare⟩ ⟨⟨by decide, by decide⟩, by decide, by decide⟩ hK hP hD hS hA hZ [0, 1, 2, 3, 4, 5, 6, 7, 8, 9, 10, 11, 12, 13, 14, 15] [] rfl rfl (by decide) rfl rfl rfl hl.1 (Nat.le_of_ble_eq_true rfl) dX9_remake_9 (fun u_1 H locs hu hP hD hS _ => ?_)
  have hP : va_P D k_cl [(a, .inr (9, [.ref p_tape, .ref p_graph, .ref p_reader, .ref p_ahead, .ref p_back, .ref p_trail, .ref p_landmarks, .ref p_hierarchy, .ref p_route, .ref p_scratch, .ref p_toldRow, .int 0, .int 1])), (p_graph, .inr (0, [.ref g_xs, .ref g_ys, .ref g_potentials, .ref g_tails, .ref g_heads, .ref g_weights, .ref g_net, .int 0, .int 0, .long 0])), (p_hierarchy, .inr (1, [.ref h_net, .ref h_ranks, .ref h_row, .int 1, .int 0, .int 0, .int 4, .int 2, .int 1, .ref h_witnesses, .ref h_contractedBeside, .ref h_wantedFrom, .ref h_wantedTo, .int 0]))] H := hP
  have hD : va_D A [(a, .inr (9, [.ref p_tape, .ref p_graph, .ref p_reader, .ref p_ahead, .ref p_back, .ref p_trail, .ref p_landmarks, .ref p_hierarchy, .ref p_route, .ref p_scratch, .ref p_toldRow, .int 0, .int 1])), (p_graph, .inr (0, [.ref g_xs, .ref g_ys, .ref g_potentials, .ref g_tails, .ref g_heads, .ref g_weights, .ref g_net, .int 0, .int 0, .long 0])), (p_hierarchy, .inr (1, [.ref h_net, .ref h_ranks, .ref h_row, .int 1, .int 0, .int 0, .int 4, .int 2, .int 1, .ref h_witnesses, .ref h_contractedBeside, .ref h_wantedFrom, .ref h_wantedTo, .int 0]))] := hD
  refine W.eq (g2 := F0 m 12 ls []) rfl ?_
  refine lv_iconst (v := 0) hx hb dX9_remake_12 (by decide) ?_
  refine lv_istore_n (lv' := [(2, .int 0), (1, .int 0), (0, .ref a)]) hx hb dX9_remake_13 rfl hl (by decide) rfl (fun ls hl => ?_)
  refine lv_iload_n hx hb dX9_remake_14 rfl (lv_at hl 0 rfl) ?_
  refine lv_aload_n hx hb dX9_remake_15 rfl (lv_at hl 2 rfl) ?_
  refine va_get (D := D) (ci := 9) (v := .ref p_graph) (C := RX9) (T := TX9) (N := 13) hx hb hts inX9 hown hK hP 0 rfl rfl 1 (by decide) (hts _ b_482) (fun _ h9 => h9) rfl dX9_remake_16 ?_
  refine va_get (D := D) (ci := 0) (v := .int 0) (C := RX0) (T := TX0) (N := 10) hx hb hts inX0 hown hK hP 1 rfl rfl 7 (by decide) (hts _ b_197) (fun _ h9 => h9) rfl dX9_remake_19 ?_
  refine lv_icmp_ge (tgt := 56) hx hb dX9_remake_22 (by decide) (fun _ => ?_) (fun h9 => absurd (by decide) h9)
  refine lv_aload_n hx hb dX9_remake_56 rfl (lv_at hl 2 rfl) ?_
  refine va_get (D := D) (ci := 9) (v := .ref p_hierarchy) (C := RX9) (T := TX9) (N := 13) hx hb hts inX9 hown hK hP 0 rfl rfl 7 (by decide) (hts _ b_488) (fun _ h9 => h9) rfl dX9_remake_57 ?_
  refine va_get (D := D) (ci := 1) (v := .int 0) (C := RX1) (T := TX1) (N := 14) hx hb hts inX1 hown hK hP 2 rfl rfl 5 (by decide) (hts _ b_370) (fun _ h9 => h9) rfl dX9_remake_60 ?_
  exact m_i () hx hb hr hlocks rfl trivial (hP.sub [] rfl) (hD.sub [] (by decide) rfl) hS (by decide) (by decide) dX9_remake_63
